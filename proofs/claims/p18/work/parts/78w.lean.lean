theorem z_X3_clear_1 (a0 : Int) (h0 : 0 ≤ a0 ∧ a0 ≤ 3) : ¬ (2147483648 - a0 < ((0 : Nat) : Int)) := by omega
theorem z_X3_clear_2 (a0 : Int) (h0 : 0 ≤ a0 ∧ a0 ≤ 3) (h1 : ¬ ((3 : Int) ≤ a0)) : 0 ≤ a0 ∧ a0 < ((3 : Nat) : Int) := by omega
theorem z_X3_clear_3 (a0 : Int) (a1 : Int) (h0 : 0 ≤ a0 ∧ a0 ≤ 3) (h1 : a1 = (a0 + 1) ∨ (a0 + 1) < -2147483648 ∨ 2147483648 ≤ (a0 + 1)) : a1 = (a0 + 1) := by omega
theorem z_X3_clear_4 (a0 : Int) (h0 : 0 ≤ a0 ∧ a0 ≤ 3) (h1 : ¬ ((3 : Int) ≤ a0)) : 0 ≤ (a0 + 1) ∧ (a0 + 1) ≤ 3 := by omega
theorem z_X3_clear_5 (a0 : Int) (h0 : 0 ≤ a0 ∧ a0 ≤ 3) : (0 : Int) ≤ (a0 + 1) := by omega
theorem z_X3_clear_6 (a0 : Int) (a1 : Nat) (h0 : 2147483648 - a0 < ((a1 + 1 : Nat) : Int)) : 2147483648 - (a0 + 1) < ((a1 : Nat) : Int) := by omega
abbrev rm_X3_clear : Room := { frames := 0, cells := 0, slots := 0, locals := 0 }
set_option maxHeartbeats 4000000 in
set_option maxRecDepth 100000 in
theorem c_X3_clear (l : Launch) (E : XE) (K : Nat → Nat) (F : Nat → Nat → Nat) (G : XG) (a : Nat) (ha : K a = 5) : Met l yX3_clear (xw yX3_clear cX3_clear 2 none) rm_X3_clear (va_Pc [.ref a] (XP E K F G)) (XQv E (fun (u : XG) => XFr [(a, 3)] [F a 0] [] G u ∧ (((u.1 a 3).toInt) = 0) ∧ (∀ t : Int, 0 ≤ t → t < 3 → aI (u.2.1 (F a 0)) t = 0)) (fun u H => TW E K F u H)) 0 0 (xA E) := by
  refine x_enter (by decide) (Nat.le_of_ble_eq_true rfl) ?_
  intro p e s m args below meth c Q S hr hlk hnm hQ hP ls hl
  obtain ⟨hz, hK, hT⟩ := hP
  obtain ⟨hx, hb, -, -, -⟩ := id S
  obtain ⟨H, hT, hS, hgo⟩ : ∃ H : Heap, TW E K F G H ∧ va_S (xA E) s.heap H [] ∧ H = s.heap := ⟨_, hT, va_S.rf, rfl⟩
  rw [← hgo]
  have hl : lv_has ls 2 [(0, .ref a)] := hl
  obtain ⟨hk9999, hj9999⟩ := fkX3_0 hT ha
  refine lv_aload_n hx hb dX3_clear_0 rfl (lv_at hl 0 rfl) ?_
  refine lv_iconst (v := 0) hx hb dX3_clear_1 (by decide) ?_
  refine pX3_3 (v := 0) S hK hT hS ha kf_X3_28 dX3_clear_2 (fun H locs hT hS => ?_)
  obtain ⟨G2, hG2⟩ : ∃ GG : XG, GG = dput G a 3 0 := ⟨_, rfl⟩
  rw [← hG2] at hT
  refine lv_iconst (v := 0) hx hb dX3_clear_5 (by decide) ?_
  refine lv_istore_n (lv' := [(1, .int 0), (0, .ref a)]) hx hb dX3_clear_6 rfl hl (by decide) rfl (fun ls hl => ?_)
  have L7 : ∀ (N7 : Nat) (l1_7 : Int32) (G_7 : XG) (H : Heap) (locs : List Loc) (ls : Array Slot), XFr [] [F a 0] [] G2 G_7 → (∀ t : Int, 0 ≤ t → t < l1_7.toInt → aI (G_7.2.1 (F a 0)) t = 0) → 0 ≤ l1_7.toInt ∧ l1_7.toInt ≤ 3 → (0 : Int) ≤ l1_7.toInt → 2147483648 - l1_7.toInt < ((N7 : Nat) : Int) → TW E K F G_7 H → va_S (xA E) s.heap H locs → lv_has ls 2 [(0, .ref a), (1, .int l1_7)] → W p l e rm_X3_clear s m args below meth c H locs 0 0 Q (F0 m 7 ls []) := by
    intro N7
    induction N7 with
    | zero =>
      intro l1_7 G_7 H locs ls hF_7 pz I7_0 I7_1 hm7
      exact absurd hm7 (z_X3_clear_1 l1_7.toInt I7_0)
    | succ N7 ih7 =>
      intro l1_7 G_7 H locs ls hF_7 pz I7_0 I7_1 hm7 hT hS hl
      refine lv_iload_n hx hb dX3_clear_7 rfl (lv_at hl 1 rfl) ?_
      refine lv_iconst (v := 3) hx hb dX3_clear_8 (by decide) ?_
      refine xi_cge (tgt := 25) hx hb (rfl : Int32.toInt l1_7 = l1_7.toInt) ((by decide) : Int32.toInt 3 = (3 : Int)) dX3_clear_9 (by decide) (fun c9 => ?_) (fun c9 => ?_)
      · exact x_rv hx hb hr hlk hQ (Nat.le_of_ble_eq_true rfl) (Nat.le_of_ble_eq_true rfl) hS dX3_clear_25 G_7 ⟨(XFr.call (by rw [hG2]; exact XFr.dput XFr.rf (List.mem_of_getElem? (i := 0) rfl)) hF_7 xm0 (xm1 0 rfl xm0) xm0), (by rw [(show (G_7.1 a 3).toInt = (0 : Int) from (congrArg Int32.toInt ((hF_7.1 _ _ xn0).trans (ld_at hG2))).trans ((by decide) : Int32.toInt 0 = (0 : Int)))] <;> exact (by decide)), (v_X3_clear_25_1 (K := K) (F := F) a G_7 l1_7 N7 ha pz I7_0 I7_1 hm7 c9)⟩ hT
      · refine lv_aload_n hx hb dX3_clear_12 rfl (lv_at hl 0 rfl) ?_
        refine gX3_0 S hK hT ha kf_X3_9 dX3_clear_13 (fun _ _ => ?_)
        refine lv_iload_n hx hb dX3_clear_16 rfl (lv_at hl 1 rfl) ?_
        refine lv_iconst (v := 0) hx hb dX3_clear_17 (by decide) ?_
        refine as_0 (x := 0) S hK hT hS hk9999 ar_21 aw_21 (by decide) (z_X3_clear_2 l1_7.toInt I7_0 c9) dX3_clear_18 (fun H locs hT hS => ?_)
        obtain ⟨G18, hG18⟩ : ∃ GG : XG, GG = cput G_7 (F a 0) l1_7.toNatClampNeg 0 := ⟨_, rfl⟩
        rw [← hG18] at hT
        refine xi_iinc (n := 1) (lv' := fun z9 => [(1, .int z9), (0, .ref a)]) (k := 1) hx hb (rfl : Int32.toInt l1_7 = l1_7.toInt) (by decide) dX3_clear_19 hl rfl (by decide) (fun _ => rfl) (fun x19 ls t19 hl => ?_)
        have e19 : x19.toInt = (l1_7.toInt + 1) := (z_X3_clear_3 l1_7.toInt x19.toInt I7_0 t19)
        have hl : lv_has ls 2 [(1, .int x19), (0, .ref a)] := hl
        refine lv_goto (tgt := 7) hx hb dX3_clear_22 (by decide) ?_
        exact ih7 x19 G18 _ _ _ (by rw [hG18]; exact XFr.cput (XFr.call XFr.rf hF_7 xm0 (xm1 0 rfl xm0) xm0) (List.mem_of_getElem? (i := 0) rfl)) (by rw [(e19 : Int32.toInt x19 = (l1_7.toInt + 1))] <;> exact (v_X3_clear_22_2 (K := K) (F := F) a G_7 G18 l1_7 N7 ha hG18 pz I7_0 I7_1 hm7 c9)) (by rw [(e19 : Int32.toInt x19 = (l1_7.toInt + 1))] <;> exact (z_X3_clear_4 l1_7.toInt I7_0 c9)) (by rw [(e19 : Int32.toInt x19 = (l1_7.toInt + 1))] <;> exact (z_X3_clear_5 l1_7.toInt I7_0)) (by rw [(e19 : Int32.toInt x19 = (l1_7.toInt + 1))] <;> exact (z_X3_clear_6 l1_7.toInt N7 hm7)) hT hS (lv_sub hl [1, 0] rfl)
  exact L7 4294967297 0 G2 _ _ _ XFr.rf (v_X3_clear_6_3 (K := K) (F := F) a G2 ha) (by decide) (by decide) (by decide) hT hS (lv_sub hl [1, 0] rfl)

theorem z_X3_reach_1 (a0 : Int) (a1 : Int) (h0 : (a1 = 1 ∧ 0 ≤ a0 ∧ a0 < 3) ∨ (a1 = 0 ∧ (a0 < 0 ∨ 3 ≤ a0))) (h1 : ¬ (a1 = 0)) : 0 ≤ a0 ∧ a0 < ((3 : Nat) : Int) := by omega
theorem z_X3_reach_2 (a0 : Int) (a1 : Int) (h0 : (a1 = 1 ∧ 0 ≤ a0 ∧ a0 < 30) ∨ (a1 = 0 ∧ (a0 < 0 ∨ 30 ≤ a0))) (h1 : ¬ (a1 = 0)) : 0 ≤ a0 ∧ a0 < 32 := by omega
theorem z_X3_reach_5 (a0 : Int) (h0 : ¬ (a0 < 0)) (h1 : ¬ ((90 : Int) ≤ a0)) : 0 ≤ a0 ∧ a0 < ((90 : Nat) : Int) := by omega
theorem z_X3_reach_7 (a0 : Int) (a1 : Int) (h0 : ¬ (a1 < 0)) (h1 : ¬ ((90 : Int) ≤ a1)) (h2 : a0 = (a1 + (1 : Int)) ∨ (a1 + (1 : Int)) < -2147483648 ∨ 2147483648 ≤ (a1 + (1 : Int))) : a0 = (a1 + (1 : Int)) := by omega
abbrev rm_X3_reach : Room := { frames := 1, cells := 0, slots := 0, locals := 20 }
set_option maxHeartbeats 4000000 in
set_option maxRecDepth 100000 in
theorem c_X3_reach (l : Launch) (E : XE) (K : Nat → Nat) (F : Nat → Nat → Nat) (G : XG) (a : Nat) (p0 : Int32) (p1 : Int32) (ha : K a = 5) (li : LIv (aI (G.2.1 (F a 0))) (aI (G.2.1 (F a 1))) (aI (G.2.1 (F a 2))) ((G.1 a 3).toInt)) : Met l yX3_reach (xw yX3_reach cX3_reach 3 none) rm_X3_reach (va_Pc [.ref a, .int p0, .int p1] (XP E K F G)) (XQv E (fun (u : XG) => XFr [(a, 3)] [F a 0, F a 1, F a 2] [] G u ∧ (LGo (aI (G.2.1 (F a 0))) (aI (G.2.1 (F a 1))) (aI (G.2.1 (F a 2))) ((G.1 a 3).toInt) (aI (u.2.1 (F a 0))) (aI (u.2.1 (F a 1))) (aI (u.2.1 (F a 2))) ((u.1 a 3).toInt) (fun u9 k9 => u9 = p0.toInt ∧ k9 = p1.toInt))) (fun u H => TW E K F u H)) 0 0 (xA E) := by
  refine x_enter (by decide) (Nat.le_of_ble_eq_true rfl) ?_
  intro p e s m args below meth c Q S hr hlk hnm hQ hP ls hl
  obtain ⟨hz, hK, hT⟩ := hP
  obtain ⟨hx, hb, -, -, -⟩ := id S
  obtain ⟨H, hT, hS, hgo⟩ : ∃ H : Heap, TW E K F G H ∧ va_S (xA E) s.heap H [] ∧ H = s.heap := ⟨_, hT, va_S.rf, rfl⟩
  rw [← hgo]
  have hl : lv_has ls 3 [(0, .ref a), (1, .int p0), (2, .int p1)] := hl
  obtain ⟨hk9999, hj9999⟩ := fkX3_0 hT ha
  obtain ⟨hk9999a, hj9999a⟩ := fkX3_1 hT ha
  obtain ⟨hk9999b, hj9999b⟩ := fkX3_2 hT ha
  refine lv_iload_n hx hb dX3_reach_0 rfl (lv_at hl 1 rfl) ?_
  refine x_clp (x_runSN (As := [.int p0]) (rest := []) S (c_X10_isTable l E K F G H p0) ms_X10_isTable (by decide +kernel) rfl rfl ⟨Nat.le_of_ble_eq_true rfl, Nat.le_of_ble_eq_true rfl⟩ hK (fun _ => XPh.blind) (fun U hU hW => XPh.at hK hz hS hT hU hW) rfl hl.1 (Nat.le_of_ble_eq_true rfl) dX3_reach_1 ⟨Nat.le_of_ble_eq_true rfl, Nat.le_of_ble_eq_true rfl⟩) hS ?_
  rintro _ _ locs ⟨x1, rfl, b1, t1⟩ hS
  have t1 : (x1.toInt = 1 ∧ 0 ≤ p0.toInt ∧ p0.toInt < 3) ∨ (x1.toInt = 0 ∧ (p0.toInt < 0 ∨ 3 ≤ p0.toInt)) := t1
  refine xi_zeq (tgt := 27) hx hb (rfl : Int32.toInt x1 = x1.toInt) dX3_reach_4 (by decide) (fun c4 => ?_) (fun c4 => ?_)
  · exact x_rv hx hb hr hlk hQ (Nat.le_of_ble_eq_true rfl) (Nat.le_of_ble_eq_true rfl) hS dX3_reach_27 G ⟨XFr.rf, (v_X3_reach_27_1 (K := K) (F := F) a G x1 p0 p1 ha li t1 c4)⟩ hT
  · refine lv_iload_n hx hb dX3_reach_7 rfl (lv_at hl 2 rfl) ?_
    refine x_clp (x_runSN (As := [.int p1]) (rest := []) S (c_X10_isKey l E K F G H p1) ms_X10_isKey (by decide +kernel) rfl rfl ⟨Nat.le_of_ble_eq_true rfl, Nat.le_of_ble_eq_true rfl⟩ hK (fun _ => XPh.blind) (fun U hU hW => XPh.at hK hz hS hT hU hW) rfl hl.1 (Nat.le_of_ble_eq_true rfl) dX3_reach_8 ⟨Nat.le_of_ble_eq_true rfl, Nat.le_of_ble_eq_true rfl⟩) hS ?_
    rintro _ _ locs ⟨x8, rfl, b8, t8⟩ hS
    have t8 : (x8.toInt = 1 ∧ 0 ≤ p1.toInt ∧ p1.toInt < 30) ∨ (x8.toInt = 0 ∧ (p1.toInt < 0 ∨ 30 ≤ p1.toInt)) := t8
    refine xi_zeq (tgt := 27) hx hb (rfl : Int32.toInt x8 = x8.toInt) dX3_reach_11 (by decide) (fun c11 => ?_) (fun c11 => ?_)
    · exact x_rv hx hb hr hlk hQ (Nat.le_of_ble_eq_true rfl) (Nat.le_of_ble_eq_true rfl) hS dX3_reach_27 G ⟨XFr.rf, (v_X3_reach_27_2 (K := K) (F := F) a G x1 p0 x8 p1 ha li t1 c4 t8 c11)⟩ hT
    · refine lv_aload_n hx hb dX3_reach_14 rfl (lv_at hl 0 rfl) ?_
      refine gX3_0 S hK hT ha kf_X3_9 dX3_reach_15 (fun _ _ => ?_)
      refine lv_iload_n hx hb dX3_reach_18 rfl (lv_at hl 1 rfl) ?_
      refine al_0 S hK hT hk9999 ar_21 (by decide) (z_X3_reach_1 p0.toInt x1.toInt t1 c4) dX3_reach_19 (fun x19 hv19 o19 => ?_)
      have hv19 : x19.toInt = (aI (G.2.1 (F a 0)) (p0.toInt)) := hv19.trans (by rw [(rfl : Int32.toInt p0 = p0.toInt)])
      refine lv_iload_n hx hb dX3_reach_20 rfl (lv_at hl 2 rfl) ?_
      refine lv_ishr hx hb dX3_reach_21 (lv_topi (fun x21 he21 => ?_))
      refine lv_iconst (v := 1) hx hb dX3_reach_22 (by decide) ?_
      refine lv_iand hx hb dX3_reach_23 (lv_topi (fun x23 he23 => ?_))
      have hb23 : x23.toInt = (bI (aI (G.2.1 (F a 0)) (p0.toInt)) (p1.toInt)) := bI_and he21 he23 (hv19 : Int32.toInt x19 = (aI (G.2.1 (F a 0)) (p0.toInt))) (rfl : Int32.toInt p1 = p1.toInt) (z_X3_reach_2 p1.toInt x8.toInt t8 c11)
      have hb23a : x23.toInt = 0 ∨ x23.toInt = 1 := by rw [hb23]; exact bI01 _ _
      refine xi_zeq (tgt := 28) hx hb (rfl : Int32.toInt x23 = x23.toInt) dX3_reach_24 (by decide) (fun c24 => ?_) (fun c24 => ?_)
      · refine lv_aload_n hx hb dX3_reach_28 rfl (lv_at hl 0 rfl) ?_
        refine gX3_3 S hK hT ha kf_X3_28 dX3_reach_29 (v := (G.1 a 3)) rfl (?_)
        refine xi_zlt (tgt := 86) hx hb (rfl : Int32.toInt (G.1 a 3) = ((G.1 a 3).toInt)) dX3_reach_32 (by decide) (fun c32 => ?_) (fun c32 => ?_)
        · exact x_rv hx hb hr hlk hQ (Nat.le_of_ble_eq_true rfl) (Nat.le_of_ble_eq_true rfl) hS dX3_reach_86 G ⟨XFr.rf, (v_X3_reach_86_3 (K := K) (F := F) a G x19 p0 x21 p1 x23 x1 x8 ha li hv19 he21 he23 t1 c4 t8 c11 hb23 hb23a c24 c32)⟩ hT
        · refine lv_aload_n hx hb dX3_reach_35 rfl (lv_at hl 0 rfl) ?_
          refine gX3_3 S hK hT ha kf_X3_28 dX3_reach_36 (v := (G.1 a 3)) rfl (?_)
          refine lv_bipush (v := 90) hx hb dX3_reach_39 (by decide) ?_
          refine xi_cge (tgt := 86) hx hb (rfl : Int32.toInt (G.1 a 3) = ((G.1 a 3).toInt)) ((by decide) : Int32.toInt 90 = (90 : Int)) dX3_reach_41 (by decide) (fun c41 => ?_) (fun c41 => ?_)
          · exact x_rv hx hb hr hlk hQ (Nat.le_of_ble_eq_true rfl) (Nat.le_of_ble_eq_true rfl) hS dX3_reach_86 G ⟨XFr.rf, (v_X3_reach_86_4 (K := K) (F := F) a G x19 p0 x21 p1 x23 x1 x8 ha li hv19 he21 he23 t1 c4 t8 c11 hb23 hb23a c24 c32 c41)⟩ hT
          · refine lv_aload_n hx hb dX3_reach_44 rfl (lv_at hl 0 rfl) ?_
            refine gX3_0 S hK hT ha kf_X3_9 dX3_reach_45 (fun _ _ => ?_)
            refine lv_iload_n hx hb dX3_reach_48 rfl (lv_at hl 1 rfl) ?_
            refine lv_dup2_11 hx hb dX3_reach_49 rfl rfl ?_
            refine al_0 S hK hT hk9999 ar_21 (by decide) (z_X3_reach_1 p0.toInt x1.toInt t1 c4) dX3_reach_50 (fun x50 hv50 o50 => ?_)
            have hv50 : x50.toInt = (aI (G.2.1 (F a 0)) (p0.toInt)) := hv50.trans (by rw [(rfl : Int32.toInt p0 = p0.toInt)])
            refine lv_iconst (v := 1) hx hb dX3_reach_51 (by decide) ?_
            refine lv_iload_n hx hb dX3_reach_52 rfl (lv_at hl 2 rfl) ?_
            refine lv_ishl hx hb dX3_reach_53 (lv_topi (fun x53 he53 => ?_))
            refine lv_ior hx hb dX3_reach_54 (lv_topi (fun x54 he54 => ?_))
            refine as_0 (x := x54) S hK hT hS hk9999 ar_21 aw_21 (by decide) (z_X3_reach_1 p0.toInt x1.toInt t1 c4) dX3_reach_55 (fun H locs hT hS => ?_)
            obtain ⟨G55, hG55⟩ : ∃ GG : XG, GG = cput G (F a 0) p0.toNatClampNeg x54 := ⟨_, rfl⟩
            rw [← hG55] at hT
            refine lv_aload_n hx hb dX3_reach_56 rfl (lv_at hl 0 rfl) ?_
            refine gX3_1 S hK hT ha kf_X3_15 dX3_reach_57 (fun _ _ => ?_)
            refine lv_aload_n hx hb dX3_reach_60 rfl (lv_at hl 0 rfl) ?_
            refine gX3_3 S hK hT ha kf_X3_28 dX3_reach_61 (v := (G.1 a 3)) (lc_d hG55) (?_)
            refine lv_iload_n hx hb dX3_reach_64 rfl (lv_at hl 1 rfl) ?_
            refine as_0 (x := p0) S hK hT hS hk9999a ar_24 aw_24 (by decide) (z_X3_reach_5 ((G.1 a 3).toInt) c32 c41) dX3_reach_65 (fun H locs hT hS => ?_)
            obtain ⟨G65, hG65⟩ : ∃ GG : XG, GG = cput G55 (F a 1) (G.1 a 3).toNatClampNeg p0 := ⟨_, rfl⟩
            rw [← hG65] at hT
            refine lv_aload_n hx hb dX3_reach_66 rfl (lv_at hl 0 rfl) ?_
            refine gX3_2 S hK hT ha kf_X3_18 dX3_reach_67 (fun _ _ => ?_)
            refine lv_aload_n hx hb dX3_reach_70 rfl (lv_at hl 0 rfl) ?_
            refine gX3_3 S hK hT ha kf_X3_28 dX3_reach_71 (v := (G.1 a 3)) ((lc_d hG65).trans (lc_d hG55)) (?_)
            refine lv_iload_n hx hb dX3_reach_74 rfl (lv_at hl 2 rfl) ?_
            refine as_0 (x := p1) S hK hT hS hk9999b ar_24 aw_24 (by decide) (z_X3_reach_5 ((G.1 a 3).toInt) c32 c41) dX3_reach_75 (fun H locs hT hS => ?_)
            obtain ⟨G75, hG75⟩ : ∃ GG : XG, GG = cput G65 (F a 2) (G.1 a 3).toNatClampNeg p1 := ⟨_, rfl⟩
            rw [← hG75] at hT
            refine lv_aload_n hx hb dX3_reach_76 rfl (lv_at hl 0 rfl) ?_
            refine lv_dup hx hb dX3_reach_77 rfl ?_
            refine gX3_3 S hK hT ha kf_X3_28 dX3_reach_78 (v := (G.1 a 3)) ((lc_d hG75).trans ((lc_d hG65).trans (lc_d hG55))) (?_)
            refine lv_iconst (v := 1) hx hb dX3_reach_81 (by decide) ?_
            refine xi_iadd hx hb (rfl : Int32.toInt (G.1 a 3) = ((G.1 a 3).toInt)) ((by decide) : Int32.toInt 1 = (1 : Int)) dX3_reach_82 (fun x82 t82 => ?_)
            have e82 : x82.toInt = (((G.1 a 3).toInt) + (1 : Int)) := (z_X3_reach_7 x82.toInt ((G.1 a 3).toInt) c32 c41 t82)
            refine pX3_3 (v := x82) S hK hT hS ha kf_X3_28 dX3_reach_83 (fun H locs hT hS => ?_)
            obtain ⟨G83, hG83⟩ : ∃ GG : XG, GG = dput G75 a 3 x82 := ⟨_, rfl⟩
            rw [← hG83] at hT
            exact x_rv hx hb hr hlk hQ (Nat.le_of_ble_eq_true rfl) (Nat.le_of_ble_eq_true rfl) hS dX3_reach_86 G83 ⟨(by rw [hG83]; exact XFr.dput (by rw [hG75]; exact XFr.cput (by rw [hG65]; exact XFr.cput (by rw [hG55]; exact XFr.cput XFr.rf (List.mem_of_getElem? (i := 0) rfl)) (List.mem_of_getElem? (i := 1) rfl)) (List.mem_of_getElem? (i := 2) rfl)) (List.mem_of_getElem? (i := 0) rfl)), (v_X3_reach_86_5 (K := K) (F := F) a G55 G p0 x54 G65 G75 p1 G83 x82 x19 x21 x23 x50 x53 x1 x8 ha hG55 hG65 hG75 li hv19 he21 he23 hv50 he53 he54 e82 t1 c4 t8 c11 hb23 hb23a c24 c32 c41 (lc_c hG55 (xne_k hk9999a hk9999 (by decide))) ((lc_c hG65 (xne_j hj9999b hj9999a (by first | decide | omega))).trans (lc_c hG55 (xne_k hk9999b hk9999 (by decide)))) ((ld_c hG83).trans ((lc_c hG75 (xne_k hk9999 hk9999b (by decide))).trans (lc_c hG65 (xne_k hk9999 hk9999a (by decide))))) ((ld_c hG83).trans (lc_c hG75 (xne_j hj9999a hj9999b (by first | decide | omega)))) (ld_c hG83) (ld_at hG83))⟩ hT
      · exact x_rv hx hb hr hlk hQ (Nat.le_of_ble_eq_true rfl) (Nat.le_of_ble_eq_true rfl) hS dX3_reach_27 G ⟨XFr.rf, (v_X3_reach_27_6 (K := K) (F := F) a G x19 p0 x21 p1 x23 x1 x8 ha li hv19 he21 he23 t1 c4 t8 c11 hb23 hb23a c24)⟩ hT

theorem z_X3_reachFrom_1 (a0 : Int) (h0 : -2147483648 ≤ a0 ∧ a0 < 2147483648) : ¬ (2147483648 - a0 < ((0 : Nat) : Int)) := by omega
theorem z_X3_reachFrom_2 (a0 : Int) (a1 : Int) (a2 : Int) (h0 : 0 ≤ a2 ∧ a2 ≤ 12) (h1 : 0 ≤ a0 ∧ a0 ≤ a2) (h2 : a1 = (a0 + 1) ∨ (a0 + 1) < -2147483648 ∨ 2147483648 ≤ (a0 + 1)) : a1 = (a0 + 1) := by omega
theorem z_X3_reachFrom_3 (a0 : Int) (a1 : Int) (h0 : 0 ≤ a0 ∧ a0 ≤ a1) (h1 : ¬ (a1 ≤ a0)) : 0 ≤ (a0 + 1) ∧ (a0 + 1) ≤ a1 := by omega
theorem z_X3_reachFrom_5 (a0 : Int) (a1 : Int) (a2 : Int) (h0 : 0 ≤ a0 ∧ a0 < a2 ∧ a0 < 12) (h1 : a1 = (a0 + 1) ∨ (a0 + 1) < -2147483648 ∨ 2147483648 ≤ (a0 + 1)) : a1 = (a0 + 1) := by omega
theorem z_X3_reachFrom_8 (a0 : Int) (h0 : 0 ≤ a0 ∧ a0 ≤ 30) : ¬ (2147483648 - a0 < ((0 : Nat) : Int)) := by omega
theorem z_X3_reachFrom_12 (a0 : Int) (a1 : Int) (h0 : 0 ≤ a0 ∧ a0 ≤ 30) (h1 : a1 = (a0 + 1) ∨ (a0 + 1) < -2147483648 ∨ 2147483648 ≤ (a0 + 1)) : a1 = (a0 + 1) := by omega
theorem z_X3_reachFrom_13 (a0 : Int) (h0 : 0 ≤ a0 ∧ a0 ≤ 30) (h1 : ¬ ((30 : Int) ≤ a0)) : 0 ≤ (a0 + 1) ∧ (a0 + 1) ≤ 30 := by omega
theorem z_X3_reachFrom_14 (a0 : Int) (h0 : 0 ≤ a0 ∧ a0 ≤ 30) : (0 : Int) ≤ (a0 + 1) := by omega
theorem z_X3_reachFrom_23 (a0 : Int) (h0 : 0 ≤ a0 ∧ a0 ≤ 12) : 0 ≤ (0 : Int) ∧ (0 : Int) ≤ a0 := by omega
abbrev rm_X3_reachFrom : Room := { frames := 2, cells := 0, slots := 0, locals := 44 }
set_option maxHeartbeats 4000000 in
set_option maxRecDepth 100000 in
theorem c_X3_reachFrom (l : Launch) (E : XE) (K : Nat → Nat) (F : Nat → Nat → Nat) (G : XG) (a : Nat) (p0 : Nat) (p1 : Nat) (p2 : Int32) (p3 : Int32) (ha : K a = 5) (hp0 : K p0 = 8) (hp1 : K p1 = 2) (sb : 0 ≤ ((G.1 p1 2).toInt) ∧ ((G.1 p1 2).toInt) ≤ 12) (li : LIv (aI (G.2.1 (F a 0))) (aI (G.2.1 (F a 1))) (aI (G.2.1 (F a 2))) ((G.1 a 3).toInt)) : Met l yX3_reachFrom (xw yX3_reachFrom cX3_reachFrom 8 none) rm_X3_reachFrom (va_Pc [.ref a, .ref p0, .ref p1, .int p2, .int p3] (XP E K F G)) (XQv E (fun (u : XG) => XFr [(a, 3)] [F a 0, F a 1, F a 2] [] G u ∧ (LGo (aI (G.2.1 (F a 0))) (aI (G.2.1 (F a 1))) (aI (G.2.1 (F a 2))) ((G.1 a 3).toInt) (aI (u.2.1 (F a 0))) (aI (u.2.1 (F a 1))) (aI (u.2.1 (F a 2))) ((u.1 a 3).toInt) (fun u9 k9 => lnC G (G.2.2.1 (F p1 1)) (vw (G.2.1 (F p0 0))) ((G.1 p1 2).toInt) u9 k9 p2.toInt p3.toInt))) (fun u H => TW E K F u H)) 0 0 (xA E) := by
  refine x_enter (by decide) (Nat.le_of_ble_eq_true rfl) ?_
  intro p e s m args below meth c Q S hr hlk hnm hQ hP ls hl
  obtain ⟨hz, hK, hT⟩ := hP
  obtain ⟨hx, hb, -, -, -⟩ := id S
  obtain ⟨H, hT, hS, hgo⟩ : ∃ H : Heap, TW E K F G H ∧ va_S (xA E) s.heap H [] ∧ H = s.heap := ⟨_, hT, va_S.rf, rfl⟩
  rw [← hgo]
  have hl : lv_has ls 8 [(0, .ref a), (1, .ref p0), (2, .ref p1), (3, .int p2), (4, .int p3)] := hl
  obtain ⟨hk9999, hj9999⟩ := fkX3_0 hT ha
  obtain ⟨hk9999a, hj9999a⟩ := fkX3_1 hT ha
  obtain ⟨hk9999b, hj9999b⟩ := fkX3_2 hT ha
  obtain ⟨hk9999c, hj9999c⟩ := fkX0_1 hT hp1
  obtain ⟨hk9999d, hj9999d⟩ := fkX6_0 hT hp0
  refine lv_iconst (v := 0) hx hb dX3_reachFrom_0 (by decide) ?_
  refine lv_istore (lv' := [(5, .int 0), (0, .ref a), (1, .ref p0), (2, .ref p1), (3, .int p2), (4, .int p3)]) hx hb dX3_reachFrom_1 hl (by decide) rfl (fun ls hl => ?_)
  have L3 : ∀ (N3 : Nat) (l5_3 : Int32) (G_3 : XG) (H : Heap) (locs : List Loc) (ls : Array Slot), XFr [(a, 3)] [F a 0, F a 1, F a 2] [] G G_3 → LGo (aI (G.2.1 (F a 0))) (aI (G.2.1 (F a 1))) (aI (G.2.1 (F a 2))) ((G.1 a 3).toInt) (aI (G_3.2.1 (F a 0))) (aI (G_3.2.1 (F a 1))) (aI (G_3.2.1 (F a 2))) ((G_3.1 a 3).toInt) (fun u9 k9 => lnC G (G.2.2.1 (F p1 1)) (vw (G.2.1 (F p0 0))) l5_3.toInt u9 k9 p2.toInt p3.toInt) → 0 ≤ l5_3.toInt ∧ l5_3.toInt ≤ ((G.1 p1 2).toInt) → 2147483648 - l5_3.toInt < ((N3 : Nat) : Int) → TW E K F G_3 H → va_S (xA E) s.heap H locs → lv_has ls 8 [(0, .ref a), (1, .ref p0), (2, .ref p1), (3, .int p2), (4, .int p3), (5, .int l5_3)] → W p l e rm_X3_reachFrom s m args below meth c H locs 0 0 Q (F0 m 3 ls []) := by
    intro N3
    induction N3 with
    | zero =>
      intro l5_3 G_3 H locs ls hF_3 pl I3_0 hm3
      exact absurd hm3 (z_X3_reachFrom_1 l5_3.toInt (xr l5_3))
    | succ N3 ih3 =>
      intro l5_3 G_3 H locs ls hF_3 pl I3_0 hm3 hT hS hl
      refine lv_iload hx hb dX3_reachFrom_3 (lv_at hl 5 rfl) ?_
      refine lv_aload_n hx hb dX3_reachFrom_5 rfl (lv_at hl 2 rfl) ?_
      refine x_clp (x_runV (b := p1) (As := []) (rest := [.int l5_3]) S (c_X0_size l E K F G_3 H p1 hp1) mv_X0_size km_X3_36 rfl rfl ⟨Nat.le_of_ble_eq_true rfl, Nat.le_of_ble_eq_true rfl⟩ (rc_2 hK hT hp1) hK (fun _ => XPh.blind) (fun U hU hW => XPh.at hK hz hS hT hU hW) rfl hl.1 (Nat.le_of_ble_eq_true rfl) dX3_reachFrom_6 ⟨Nat.le_of_ble_eq_true rfl, Nat.le_of_ble_eq_true rfl⟩) hS ?_
      rintro _ _ locs ⟨x6, rfl, t6⟩ hS
      have t6 : x6.toInt = ((G.1 p1 2).toInt) := by rw [(show (G_3.1 p1 2).toInt = ((G.1 p1 2).toInt) from (congrArg Int32.toInt (hF_3.1 _ _ (xnj (by decide) xn0))).trans (rfl : Int32.toInt (G.1 p1 2) = ((G.1 p1 2).toInt)))] at t6; exact t6
      refine xi_cge (tgt := 100) hx hb (rfl : Int32.toInt l5_3 = l5_3.toInt) (t6 : Int32.toInt x6 = ((G.1 p1 2).toInt)) dX3_reachFrom_9 (by decide) (fun c9 => ?_) (fun c9 => ?_)
      · exact x_rv hx hb hr hlk hQ (Nat.le_of_ble_eq_true rfl) (Nat.le_of_ble_eq_true rfl) hS dX3_reachFrom_100 G_3 ⟨(XFr.call XFr.rf hF_3 (xm1 0 rfl xm0) (xm1 0 rfl (xm1 1 rfl (xm1 2 rfl xm0))) xm0), (v_X3_reachFrom_100_1 (K := K) (F := F) a p0 p1 G G_3 l5_3 p2 p3 N3 ha hp0 hp1 li pl sb I3_0 hm3 c9)⟩ hT
      · refine lv_aload_n hx hb dX3_reachFrom_12 rfl (lv_at hl 2 rfl) ?_
        refine lv_iload hx hb dX3_reachFrom_13 (lv_at hl 5 rfl) ?_
        refine x_clp (x_runV (b := p1) (As := [.int l5_3]) (rest := []) S (c_X0_inOrder l E K F G_3 H p1 l5_3 hp1) mv_X0_inOrder km_X3_41 rfl rfl ⟨Nat.le_of_ble_eq_true rfl, Nat.le_of_ble_eq_true rfl⟩ (rc_2 hK hT hp1) hK (fun _ => XPh.blind) (fun U hU hW => XPh.at hK hz hS hT hU hW) rfl hl.1 (Nat.le_of_ble_eq_true rfl) dX3_reachFrom_15 ⟨Nat.le_of_ble_eq_true rfl, Nat.le_of_ble_eq_true rfl⟩) hS ?_
        rintro _ _ locs (⟨rfl, hn15⟩ | ⟨q15, rfl, hk15, ht15, hs15⟩) hS
        · refine lv_astoreN (lv' := [(6, .null), (0, .ref a), (1, .ref p0), (2, .ref p1), (3, .int p2), (4, .int p3), (5, .int l5_3)]) hx hb dX3_reachFrom_18 hl (by decide) rfl (fun ls hl => ?_)
          refine lv_aloadN hx hb dX3_reachFrom_20 (lv_at hl 0 rfl) ?_
          refine lv_ifnullN (tgt := 94) hx hb dX3_reachFrom_22 (by decide) ?_
          refine xi_iinc (n := 1) (lv' := fun z9 => [(5, .int z9), (6, .null), (0, .ref a), (1, .ref p0), (2, .ref p1), (3, .int p2), (4, .int p3)]) (k := 6) hx hb (rfl : Int32.toInt l5_3 = l5_3.toInt) (by decide) dX3_reachFrom_94 hl rfl (by decide) (fun _ => rfl) (fun x94 ls t94 hl => ?_)
          have e94 : x94.toInt = (l5_3.toInt + 1) := (z_X3_reachFrom_2 l5_3.toInt x94.toInt ((G.1 p1 2).toInt) sb I3_0 t94)
          have hl : lv_has ls 8 [(5, .int x94), (6, .null), (0, .ref a), (1, .ref p0), (2, .ref p1), (3, .int p2), (4, .int p3)] := hl
          refine lv_goto (tgt := 3) hx hb dX3_reachFrom_97 (by decide) ?_
          exact ih3 x94 G_3 _ _ _ (XFr.call XFr.rf hF_3 (xm1 0 rfl xm0) (xm1 0 rfl (xm1 1 rfl (xm1 2 rfl xm0))) xm0) (by rw [(e94 : Int32.toInt x94 = (l5_3.toInt + 1))] <;> exact (v_X3_reachFrom_97_2 (K := K) (F := F) a p0 p1 G G_3 l5_3 p2 p3 N3 ha hp0 hp1 li pl hn15 sb I3_0 hm3 c9 (hF_3.2.2 _ xn0) (hF_3.1 _ _ (xnj (by decide) xn0)))) (by rw [(e94 : Int32.toInt x94 = (l5_3.toInt + 1))] <;> exact (z_X3_reachFrom_3 l5_3.toInt ((G.1 p1 2).toInt) I3_0 c9)) (by rw [(e94 : Int32.toInt x94 = (l5_3.toInt + 1))] <;> exact (z_X3_clear_6 l5_3.toInt N3 hm3)) hT hS (lv_sub hl [2, 3, 4, 5, 6, 0] rfl)
        · have ht15 : 0 ≤ l5_3.toInt ∧ l5_3.toInt < ((G.1 p1 2).toInt) ∧ l5_3.toInt < 12 := by rw [(show (G_3.1 p1 2).toInt = ((G.1 p1 2).toInt) from (congrArg Int32.toInt (hF_3.1 _ _ (xnj (by decide) xn0))).trans (rfl : Int32.toInt (G.1 p1 2) = ((G.1 p1 2).toInt)))] at ht15; exact ht15
          refine lv_astore (lv' := [(6, .ref q15), (0, .ref a), (1, .ref p0), (2, .ref p1), (3, .int p2), (4, .int p3), (5, .int l5_3)]) hx hb dX3_reachFrom_18 hl (by decide) rfl (fun ls hl => ?_)
          refine lv_aload hx hb dX3_reachFrom_20 (lv_at hl 0 rfl) ?_
          refine lv_ifnull hx hb dX3_reachFrom_22 ?_
          refine lv_aload hx hb dX3_reachFrom_25 (lv_at hl 0 rfl) ?_
          refine gX7_0 S hK hT hk15 kf_X3_45 dX3_reachFrom_27 (v := (G.1 q15 0)) (hF_3.1 _ _ (xnj (by decide) xn0)) (?_)
          refine lv_iconst (v := 1) hx hb dX3_reachFrom_30 (by decide) ?_
          refine xi_cne (tgt := 94) hx hb (rfl : Int32.toInt (G.1 q15 0) = ((G.1 q15 0).toInt)) ((by decide) : Int32.toInt 1 = (1 : Int)) dX3_reachFrom_31 (by decide) (fun c31 => ?_) (fun c31 => ?_)
          · refine xi_iinc (n := 1) (lv' := fun z9 => [(5, .int z9), (6, .ref q15), (0, .ref a), (1, .ref p0), (2, .ref p1), (3, .int p2), (4, .int p3)]) (k := 6) hx hb (rfl : Int32.toInt l5_3 = l5_3.toInt) (by decide) dX3_reachFrom_94 hl rfl (by decide) (fun _ => rfl) (fun x94 ls t94 hl => ?_)
            have e94 : x94.toInt = (l5_3.toInt + 1) := (z_X3_reachFrom_5 l5_3.toInt x94.toInt ((G.1 p1 2).toInt) ht15 t94)
            have hl : lv_has ls 8 [(5, .int x94), (6, .ref q15), (0, .ref a), (1, .ref p0), (2, .ref p1), (3, .int p2), (4, .int p3)] := hl
            refine lv_goto (tgt := 3) hx hb dX3_reachFrom_97 (by decide) ?_
            exact ih3 x94 G_3 _ _ _ (XFr.call XFr.rf hF_3 (xm1 0 rfl xm0) (xm1 0 rfl (xm1 1 rfl (xm1 2 rfl xm0))) xm0) (by rw [(e94 : Int32.toInt x94 = (l5_3.toInt + 1))] <;> exact (v_X3_reachFrom_97_3 (K := K) (F := F) a p0 p1 q15 G G_3 l5_3 p2 p3 N3 ha hp0 hp1 li pl hs15 sb I3_0 hm3 c9 ht15 c31 (hF_3.2.2 _ xn0) (hF_3.1 _ _ (xnj (by decide) xn0)))) (by rw [(e94 : Int32.toInt x94 = (l5_3.toInt + 1))] <;> exact (z_X3_reachFrom_3 l5_3.toInt ((G.1 p1 2).toInt) I3_0 c9)) (by rw [(e94 : Int32.toInt x94 = (l5_3.toInt + 1))] <;> exact (z_X3_clear_6 l5_3.toInt N3 hm3)) hT hS (lv_sub hl [2, 3, 4, 5, 6, 0] rfl)
          · refine lv_aload hx hb dX3_reachFrom_34 (lv_at hl 0 rfl) ?_
            refine gX7_4 S hK hT hk15 kf_X3_50 dX3_reachFrom_36 (v := (G.1 q15 4)) (hF_3.1 _ _ (xnj (by decide) xn0)) (?_)
            refine lv_iload_n hx hb dX3_reachFrom_39 rfl (lv_at hl 4 rfl) ?_
            refine xi_ceq (tgt := 46) hx hb (rfl : Int32.toInt (G.1 q15 4) = ((G.1 q15 4).toInt)) (rfl : Int32.toInt p2 = p2.toInt) dX3_reachFrom_40 (by decide) (fun c40 => ?_) (fun c40 => ?_)
            · refine lv_iconst (v := 0) hx hb dX3_reachFrom_46 (by decide) ?_
              refine lv_istore (lv' := [(7, .int 0), (6, .ref q15), (0, .ref a), (1, .ref p0), (2, .ref p1), (3, .int p2), (4, .int p3), (5, .int l5_3)]) hx hb dX3_reachFrom_47 hl (by decide) rfl (fun ls hl => ?_)
              have L49 : ∀ (N49 : Nat) (l7_49 : Int32) (G_49 : XG) (H : Heap) (locs : List Loc) (ls : Array Slot), XFr [(a, 3)] [F a 0, F a 1, F a 2] [] G_3 G_49 → LGo (aI (G_3.2.1 (F a 0))) (aI (G_3.2.1 (F a 1))) (aI (G_3.2.1 (F a 2))) ((G_3.1 a 3).toInt) (aI (G_49.2.1 (F a 0))) (aI (G_49.2.1 (F a 1))) (aI (G_49.2.1 (F a 2))) ((G_49.1 a 3).toInt) (fun u9 k9 => u9 = ((G.1 q15 2).toInt) ∧ k9 < l7_49.toInt ∧ cel (vw (G.2.1 (F p0 0))) u9 k9 ((G.1 q15 3).toInt) = p3.toInt) → 0 ≤ l7_49.toInt ∧ l7_49.toInt ≤ 30 → (0 : Int) ≤ l7_49.toInt → 2147483648 - l7_49.toInt < ((N49 : Nat) : Int) → TW E K F G_49 H → va_S (xA E) s.heap H locs → lv_has ls 8 [(0, .ref a), (1, .ref p0), (2, .ref p1), (3, .int p2), (4, .int p3), (5, .int l5_3), (6, .ref q15), (7, .int l7_49)] → W p l e rm_X3_reachFrom s m args below meth c H locs 0 0 Q (F0 m 49 ls []) := by
                intro N49
                induction N49 with
                | zero =>
                  intro l7_49 G_49 H locs ls hF_49 pk I49_0 I49_1 hm49
                  exact absurd hm49 (z_X3_reachFrom_8 l7_49.toInt I49_0)
                | succ N49 ih49 =>
                  intro l7_49 G_49 H locs ls hF_49 pk I49_0 I49_1 hm49 hT hS hl
                  refine lv_iload hx hb dX3_reachFrom_49 (lv_at hl 7 rfl) ?_
                  refine lv_bipush (v := 30) hx hb dX3_reachFrom_51 (by decide) ?_
                  refine xi_cge (tgt := 94) hx hb (rfl : Int32.toInt l7_49 = l7_49.toInt) ((by decide) : Int32.toInt 30 = (30 : Int)) dX3_reachFrom_53 (by decide) (fun c53 => ?_) (fun c53 => ?_)
                  · refine xi_iinc (n := 1) (lv' := fun z9 => [(5, .int z9), (0, .ref a), (1, .ref p0), (2, .ref p1), (3, .int p2), (4, .int p3), (6, .ref q15), (7, .int l7_49)]) (k := 5) hx hb (rfl : Int32.toInt l5_3 = l5_3.toInt) (by decide) dX3_reachFrom_94 hl rfl (by decide) (fun _ => rfl) (fun x94 ls t94 hl => ?_)
                    have e94 : x94.toInt = (l5_3.toInt + 1) := (z_X3_reachFrom_5 l5_3.toInt x94.toInt ((G.1 p1 2).toInt) ht15 t94)
                    have hl : lv_has ls 8 [(5, .int x94), (0, .ref a), (1, .ref p0), (2, .ref p1), (3, .int p2), (4, .int p3), (6, .ref q15), (7, .int l7_49)] := hl
                    refine lv_goto (tgt := 3) hx hb dX3_reachFrom_97 (by decide) ?_
                    exact ih3 x94 G_49 _ _ _ (XFr.call (XFr.call XFr.rf hF_3 (xm1 0 rfl xm0) (xm1 0 rfl (xm1 1 rfl (xm1 2 rfl xm0))) xm0) hF_49 (xm1 0 rfl xm0) (xm1 0 rfl (xm1 1 rfl (xm1 2 rfl xm0))) xm0) (by rw [(e94 : Int32.toInt x94 = (l5_3.toInt + 1))] <;> exact (v_X3_reachFrom_97_4 (K := K) (F := F) a p0 p1 q15 G G_3 G_49 l5_3 p2 p3 l7_49 N3 N49 ha hp0 hp1 li pl hs15 pk sb I3_0 hm3 c9 ht15 c31 c40 I49_0 I49_1 hm49 c53 (hF_3.2.2 _ xn0) (hF_3.1 _ _ (xnj (by decide) xn0)))) (by rw [(e94 : Int32.toInt x94 = (l5_3.toInt + 1))] <;> exact (z_X3_reachFrom_3 l5_3.toInt ((G.1 p1 2).toInt) I3_0 c9)) (by rw [(e94 : Int32.toInt x94 = (l5_3.toInt + 1))] <;> exact (z_X3_clear_6 l5_3.toInt N3 hm3)) hT hS (lv_sub hl [1, 2, 3, 4, 5, 0] rfl)
                  · refine lv_aload_n hx hb dX3_reachFrom_56 rfl (lv_at hl 1 rfl) ?_
                    refine lv_aload hx hb dX3_reachFrom_57 (lv_at hl 6 rfl) ?_
                    refine gX7_2 S hK hT hk15 kf_X3_53 dX3_reachFrom_59 (v := (G.1 q15 2)) ((hF_49.1 _ _ (xnj (by decide) xn0)).trans (hF_3.1 _ _ (xnj (by decide) xn0))) (?_)
                    refine lv_iload hx hb dX3_reachFrom_62 (lv_at hl 7 rfl) ?_
                    refine lv_aload hx hb dX3_reachFrom_64 (lv_at hl 6 rfl) ?_
                    refine gX7_3 S hK hT hk15 kf_X3_56 dX3_reachFrom_66 (v := (G.1 q15 3)) ((hF_49.1 _ _ (xna (xne_k hk15 ha (by decide)) xn0)).trans (hF_3.1 _ _ (xna (xne_k hk15 ha (by decide)) xn0))) (?_)
                    refine x_clp (x_runV (b := p0) (As := [.int (G.1 q15 2), .int l7_49, .int (G.1 q15 3)]) (rest := []) S (c_X6_cell l E K F G_49 H p0 (G.1 q15 2) l7_49 (G.1 q15 3) hp0) mv_X6_cell km_X3_59 rfl rfl ⟨Nat.le_of_ble_eq_true rfl, Nat.le_of_ble_eq_true rfl⟩ (rc_8 hK hT hp0) hK (fun _ => XPh.blind) (fun U hU hW => XPh.at hK hz hS hT hU hW) rfl hl.1 (Nat.le_of_ble_eq_true rfl) dX3_reachFrom_69 ⟨Nat.le_of_ble_eq_true rfl, Nat.le_of_ble_eq_true rfl⟩) hS ?_
                    rintro _ _ locs ⟨x69, rfl, t69⟩ hS
                    have t69 : x69.toInt = (cel (vw (G.2.1 (F p0 0))) ((G.1 q15 2).toInt) (l7_49.toInt) ((G.1 q15 3).toInt)) := by rw [(show G_49.2.1 (F p0 0) = G.2.1 (F p0 0) from ((hF_49.2.1 _ (xn1 (xne_k hk9999d hk9999 (by decide)) (xn1 (xne_k hk9999d hk9999a (by decide)) (xn1 (xne_k hk9999d hk9999b (by decide)) xn0)))).trans (hF_3.2.1 _ (xn1 (xne_k hk9999d hk9999 (by decide)) (xn1 (xne_k hk9999d hk9999a (by decide)) (xn1 (xne_k hk9999d hk9999b (by decide)) xn0))))))] at t69; exact t69
                    refine lv_iload hx hb dX3_reachFrom_72 (lv_at hl 4 rfl) ?_
                    refine xi_cne (tgt := 88) hx hb (t69 : Int32.toInt x69 = (cel (vw (G.2.1 (F p0 0))) ((G.1 q15 2).toInt) (l7_49.toInt) ((G.1 q15 3).toInt))) (rfl : Int32.toInt p3 = p3.toInt) dX3_reachFrom_74 (by decide) (fun c74 => ?_) (fun c74 => ?_)
                    · refine xi_iinc (n := 1) (lv' := fun z9 => [(7, .int z9), (0, .ref a), (1, .ref p0), (2, .ref p1), (3, .int p2), (4, .int p3), (5, .int l5_3), (6, .ref q15)]) (k := 7) hx hb (rfl : Int32.toInt l7_49 = l7_49.toInt) (by decide) dX3_reachFrom_88 hl rfl (by decide) (fun _ => rfl) (fun x88 ls t88 hl => ?_)
                      have e88 : x88.toInt = (l7_49.toInt + 1) := (z_X3_reachFrom_12 l7_49.toInt x88.toInt I49_0 t88)
                      have hl : lv_has ls 8 [(7, .int x88), (0, .ref a), (1, .ref p0), (2, .ref p1), (3, .int p2), (4, .int p3), (5, .int l5_3), (6, .ref q15)] := hl
                      refine lv_goto (tgt := 49) hx hb dX3_reachFrom_91 (by decide) ?_
                      exact ih49 x88 G_49 _ _ _ (XFr.call XFr.rf hF_49 (xm1 0 rfl xm0) (xm1 0 rfl (xm1 1 rfl (xm1 2 rfl xm0))) xm0) (by rw [(e88 : Int32.toInt x88 = (l7_49.toInt + 1))] <;> exact (v_X3_reachFrom_91_5 (K := K) (F := F) a p0 p1 q15 G G_3 G_49 l5_3 p2 p3 l7_49 N3 N49 ha hp0 hp1 li pl hs15 pk sb I3_0 hm3 c9 ht15 c31 c40 I49_0 I49_1 hm49 c53 c74)) (by rw [(e88 : Int32.toInt x88 = (l7_49.toInt + 1))] <;> exact (z_X3_reachFrom_13 l7_49.toInt I49_0 c53)) (by rw [(e88 : Int32.toInt x88 = (l7_49.toInt + 1))] <;> exact (z_X3_reachFrom_14 l7_49.toInt I49_0)) (by rw [(e88 : Int32.toInt x88 = (l7_49.toInt + 1))] <;> exact (z_X3_clear_6 l7_49.toInt N49 hm49)) hT hS (lv_sub hl [1, 2, 3, 4, 5, 6, 7, 0] rfl)
                    · refine lv_aload_n hx hb dX3_reachFrom_77 rfl (lv_at hl 0 rfl) ?_
                      refine lv_aload hx hb dX3_reachFrom_78 (lv_at hl 6 rfl) ?_
                      refine gX7_2 S hK hT hk15 kf_X3_53 dX3_reachFrom_80 (v := (G.1 q15 2)) ((hF_49.1 _ _ (xnj (by decide) xn0)).trans (hF_3.1 _ _ (xnj (by decide) xn0))) (?_)
                      refine lv_iload hx hb dX3_reachFrom_83 (lv_at hl 7 rfl) ?_
                      refine x_cv0 (x_runV (b := a) (As := [.int (G.1 q15 2), .int l7_49]) (rest := []) S (c_X3_reach l E K F G_49 a (G.1 q15 2) l7_49 ha (v_X3_reachFrom_85_6 (F := F) G_3 a G_49 G q15 l7_49 p0 p3 pk)) mv_X3_reach km_X3_32 rfl rfl ⟨Nat.le_of_ble_eq_true rfl, Nat.le_of_ble_eq_true rfl⟩ (rc_5 hK hT ha) hK (fun _ => XP.blind) (fun U hU hW => XP.at hK hz hS hT hU hW) rfl hl.1 (Nat.le_of_ble_eq_true rfl) dX3_reachFrom_85 ⟨Nat.le_of_ble_eq_true rfl, Nat.le_of_ble_eq_true rfl⟩) hS ?_
                      rintro G85 H locs ⟨hF85, oq85⟩ hT hS
                      refine xi_iinc (n := 1) (lv' := fun z9 => [(7, .int z9), (0, .ref a), (1, .ref p0), (2, .ref p1), (3, .int p2), (4, .int p3), (5, .int l5_3), (6, .ref q15)]) (k := 7) hx hb (rfl : Int32.toInt l7_49 = l7_49.toInt) (by decide) dX3_reachFrom_88 hl rfl (by decide) (fun _ => rfl) (fun x88 ls t88 hl => ?_)
                      have e88 : x88.toInt = (l7_49.toInt + 1) := (z_X3_reachFrom_12 l7_49.toInt x88.toInt I49_0 t88)
                      have hl : lv_has ls 8 [(7, .int x88), (0, .ref a), (1, .ref p0), (2, .ref p1), (3, .int p2), (4, .int p3), (5, .int l5_3), (6, .ref q15)] := hl
                      refine lv_goto (tgt := 49) hx hb dX3_reachFrom_91 (by decide) ?_
                      exact ih49 x88 G85 _ _ _ (XFr.call (XFr.call XFr.rf hF_49 (xm1 0 rfl xm0) (xm1 0 rfl (xm1 1 rfl (xm1 2 rfl xm0))) xm0) hF85 (xm1 0 rfl xm0) (xm1 0 rfl (xm1 1 rfl (xm1 2 rfl xm0))) xm0) (by rw [(e88 : Int32.toInt x88 = (l7_49.toInt + 1))] <;> exact (v_X3_reachFrom_91_7 (K := K) (F := F) a p0 p1 q15 G G_3 G_49 G85 l5_3 p2 p3 l7_49 N3 N49 ha hp0 hp1 li pl hs15 pk oq85 sb I3_0 hm3 c9 ht15 c31 c40 I49_0 I49_1 hm49 c53 c74)) (by rw [(e88 : Int32.toInt x88 = (l7_49.toInt + 1))] <;> exact (z_X3_reachFrom_13 l7_49.toInt I49_0 c53)) (by rw [(e88 : Int32.toInt x88 = (l7_49.toInt + 1))] <;> exact (z_X3_reachFrom_14 l7_49.toInt I49_0)) (by rw [(e88 : Int32.toInt x88 = (l7_49.toInt + 1))] <;> exact (z_X3_clear_6 l7_49.toInt N49 hm49)) hT hS (lv_sub hl [1, 2, 3, 4, 5, 6, 7, 0] rfl)
              exact L49 4294967297 0 G_3 _ _ _ XFr.rf (v_X3_reachFrom_47_8 (K := K) (F := F) a p0 p1 q15 G G_3 l5_3 p2 p3 N3 ha hp0 hp1 li pl hs15 sb I3_0 hm3 c9 ht15 c31 c40) (by decide) (by decide) (by decide) hT hS (lv_sub hl [2, 3, 4, 5, 6, 7, 1, 0] rfl)
            · refine lv_goto (tgt := 94) hx hb dX3_reachFrom_43 (by decide) ?_
              refine xi_iinc (n := 1) (lv' := fun z9 => [(5, .int z9), (6, .ref q15), (0, .ref a), (1, .ref p0), (2, .ref p1), (3, .int p2), (4, .int p3)]) (k := 6) hx hb (rfl : Int32.toInt l5_3 = l5_3.toInt) (by decide) dX3_reachFrom_94 hl rfl (by decide) (fun _ => rfl) (fun x94 ls t94 hl => ?_)
              have e94 : x94.toInt = (l5_3.toInt + 1) := (z_X3_reachFrom_5 l5_3.toInt x94.toInt ((G.1 p1 2).toInt) ht15 t94)
              have hl : lv_has ls 8 [(5, .int x94), (6, .ref q15), (0, .ref a), (1, .ref p0), (2, .ref p1), (3, .int p2), (4, .int p3)] := hl
              refine lv_goto (tgt := 3) hx hb dX3_reachFrom_97 (by decide) ?_
              exact ih3 x94 G_3 _ _ _ (XFr.call XFr.rf hF_3 (xm1 0 rfl xm0) (xm1 0 rfl (xm1 1 rfl (xm1 2 rfl xm0))) xm0) (by rw [(e94 : Int32.toInt x94 = (l5_3.toInt + 1))] <;> exact (v_X3_reachFrom_97_9 (K := K) (F := F) a p0 p1 q15 G G_3 l5_3 p2 p3 N3 ha hp0 hp1 li pl hs15 sb I3_0 hm3 c9 ht15 c31 c40 (hF_3.2.2 _ xn0) (hF_3.1 _ _ (xnj (by decide) xn0)))) (by rw [(e94 : Int32.toInt x94 = (l5_3.toInt + 1))] <;> exact (z_X3_reachFrom_3 l5_3.toInt ((G.1 p1 2).toInt) I3_0 c9)) (by rw [(e94 : Int32.toInt x94 = (l5_3.toInt + 1))] <;> exact (z_X3_clear_6 l5_3.toInt N3 hm3)) hT hS (lv_sub hl [2, 3, 4, 5, 6, 0] rfl)
  exact L3 4294967297 0 G _ _ _ XFr.rf (v_X3_reachFrom_1_10 (K := K) (F := F) a p0 p1 G p2 p3 ha hp0 hp1 li sb) (z_X3_reachFrom_23 ((G.1 p1 2).toInt) sb) (by decide) hT hS (lv_sub hl [1, 2, 3, 4, 5, 0] rfl)

abbrev rm_X3_straight : Room := { frames := 3, cells := 0, slots := 0, locals := 71 }
set_option maxHeartbeats 4000000 in
set_option maxRecDepth 100000 in
theorem c_X3_straight (l : Launch) (E : XE) (K : Nat → Nat) (F : Nat → Nat → Nat) (G : XG) (a : Nat) (p0 : Nat) (p1 : Nat) (p2 : Int32) (p3 : Int32) (ha : K a = 5) (hp0 : K p0 = 8) (hp1 : K p1 = 2) (sb : 0 ≤ ((G.1 p1 2).toInt) ∧ ((G.1 p1 2).toInt) ≤ 12) (bko : BKr K G (G.2.2.1 (F p1 1))) : Met l yX3_straight (xw yX3_straight cX3_straight 5 (some .int)) rm_X3_straight (va_Pc [.ref a, .ref p0, .ref p1, .int p2, .int p3] (XP E K F G)) (XQ E (fun v (u : XG) => ∃ r : Int32, v = .int r ∧ XFr [(a, 3)] [F a 0, F a 1, F a 2] [] G u ∧ (∃ b : Int → Int, r.toInt = toB b 3 ∧ ∀ t j : Int, inR t j → (bI (b t) j = 1 ↔ lnC G (G.2.2.1 (F p1 1)) (vw (G.2.1 (F p0 0))) ((G.1 p1 2).toInt) t j p2.toInt p3.toInt))) (fun u H => TW E K F u H)) 0 0 (xA E) := by
  refine x_enter (by decide) (Nat.le_of_ble_eq_true rfl) ?_
  intro p e s m args below meth c Q S hr hlk hnm hQ hP ls hl
  obtain ⟨hz, hK, hT⟩ := hP
  obtain ⟨hx, hb, -, -, -⟩ := id S
  obtain ⟨H, hT, hS, hgo⟩ : ∃ H : Heap, TW E K F G H ∧ va_S (xA E) s.heap H [] ∧ H = s.heap := ⟨_, hT, va_S.rf, rfl⟩
  rw [← hgo]
  have hl : lv_has ls 5 [(0, .ref a), (1, .ref p0), (2, .ref p1), (3, .int p2), (4, .int p3)] := hl
  obtain ⟨hk9999, hj9999⟩ := fkX3_0 hT ha
  obtain ⟨hk9999a, hj9999a⟩ := fkX3_1 hT ha
  obtain ⟨hk9999b, hj9999b⟩ := fkX3_2 hT ha
  obtain ⟨hk9999c, hj9999c⟩ := fkX0_1 hT hp1
  obtain ⟨hk9999d, hj9999d⟩ := fkX6_0 hT hp0
  refine lv_aload_n hx hb dX3_straight_0 rfl (lv_at hl 0 rfl) ?_
  refine x_cv0 (x_runV (b := a) (As := []) (rest := []) S (c_X3_clear l E K F G a ha) mv_X3_clear km_X3_21 rfl rfl ⟨Nat.le_of_ble_eq_true rfl, Nat.le_of_ble_eq_true rfl⟩ (rc_5 hK hT ha) hK (fun _ => XP.blind) (fun U hU hW => XP.at hK hz hS hT hU hW) rfl hl.1 (Nat.le_of_ble_eq_true rfl) dX3_straight_1 ⟨Nat.le_of_ble_eq_true rfl, Nat.le_of_ble_eq_true rfl⟩) hS ?_
  rintro G1 H locs ⟨hF1, t1, oq1⟩ hT hS
  have t1 : ((G1.1 a 3).toInt) = 0 := t1
  refine lv_aload_n hx hb dX3_straight_4 rfl (lv_at hl 0 rfl) ?_
  refine lv_aload_n hx hb dX3_straight_5 rfl (lv_at hl 1 rfl) ?_
  refine lv_aload_n hx hb dX3_straight_6 rfl (lv_at hl 2 rfl) ?_
  refine lv_iload_n hx hb dX3_straight_7 rfl (lv_at hl 3 rfl) ?_
  refine lv_iload hx hb dX3_straight_8 (lv_at hl 4 rfl) ?_
  refine x_cv0 (x_runV (b := a) (As := [.ref p0, .ref p1, .int p2, .int p3]) (rest := []) S (c_X3_reachFrom l E K F G1 a p0 p1 p2 p3 ha hp0 hp1 (by rw [(show (G1.1 p1 2).toInt = ((G.1 p1 2).toInt) from (congrArg Int32.toInt (hF1.1 _ _ (xnj (by decide) xn0))).trans (rfl : Int32.toInt (G.1 p1 2) = ((G.1 p1 2).toInt)))] <;> exact (sb)) (v_X3_straight_10_1 (F := F) G1 a oq1 t1)) mv_X3_reachFrom km_X3_24 rfl rfl ⟨Nat.le_of_ble_eq_true rfl, Nat.le_of_ble_eq_true rfl⟩ (rc_5 hK hT ha) hK (fun _ => XP.blind) (fun U hU hW => XP.at hK hz hS hT hU hW) rfl hl.1 (Nat.le_of_ble_eq_true rfl) dX3_straight_10 ⟨Nat.le_of_ble_eq_true rfl, Nat.le_of_ble_eq_true rfl⟩) hS ?_
  rintro G10 H locs ⟨hF10, oq10⟩ hT hS
  have oq10 : LGo (aI (G1.2.1 (F a 0))) (aI (G.2.1 (F a 1))) (aI (G.2.1 (F a 2))) ((G1.1 a 3).toInt) (aI (G10.2.1 (F a 0))) (aI (G10.2.1 (F a 1))) (aI (G10.2.1 (F a 2))) ((G10.1 a 3).toInt) (fun u9 k9 => lnC G1 (G1.2.2.1 (F p1 1)) (vw (G.2.1 (F p0 0))) ((G.1 p1 2).toInt) u9 k9 p2.toInt p3.toInt) := by simp only [(show G1.2.1 (F a 1) = G.2.1 (F a 1) from (hF1.2.1 _ (xn1 (xne_k hk9999a hk9999 (by decide)) xn0))), (show G1.2.1 (F a 2) = G.2.1 (F a 2) from (hF1.2.1 _ (xn1 (xne_k hk9999b hk9999 (by decide)) xn0))), (show G1.2.1 (F p0 0) = G.2.1 (F p0 0) from (hF1.2.1 _ (xn1 (xne_k hk9999d hk9999 (by decide)) xn0))), (show G1.1 p1 2 = G.1 p1 2 from (hF1.1 _ _ (xnj (by decide) xn0)))] at oq10; exact oq10
  refine lv_aload_n hx hb dX3_straight_13 rfl (lv_at hl 0 rfl) ?_
  refine gX3_3 S hK hT ha kf_X3_28 dX3_straight_14 (v := (G10.1 a 3)) rfl (?_)
  exact x_ri hx hb hr hlk hQ (Nat.le_of_ble_eq_true rfl) (Nat.le_of_ble_eq_true rfl) hS dX3_straight_17 G10 ⟨_, rfl, (XFr.call (XFr.call XFr.rf hF1 (xm1 0 rfl xm0) (xm1 0 rfl xm0) xm0) hF10 (xm1 0 rfl xm0) (xm1 0 rfl (xm1 1 rfl (xm1 2 rfl xm0))) xm0), (v_X3_straight_17_2 (K := K) (F := F) a p0 p1 G G1 G10 p2 p3 ha hp0 hp1 hk9999 hj9999 hk9999a hj9999a hk9999b hj9999b hk9999c hj9999c hk9999d hj9999d hF1 bko oq1 oq10 sb t1 (hF1.2.2 _ xn0))⟩ hT

theorem z_X3_straightOrNot_1 (a0 : Int) (h0 : 0 ≤ a0 ∧ a0 ≤ 90) : ¬ (100 - a0 < ((0 : Nat) : Int)) := by omega
theorem z_X3_straightOrNot_2 (a0 : Int) (a1 : Int) (h0 : 0 ≤ a1 ∧ a1 ≤ 90) (h1 : a0 = (a1 - (1 : Int)) ∨ (a1 - (1 : Int)) < -2147483648 ∨ 2147483648 ≤ (a1 - (1 : Int))) : a0 = (a1 - (1 : Int)) := by omega
theorem z_X3_straightOrNot_3 (a0 : Int) (a1 : Int) (a2 : Int) (h0 : ¬ (a2 ≤ a0)) (h1 : (90 : Int) ≤ a0) (h2 : 0 ≤ a2 ∧ a2 ≤ 90) : a1 = (a2 - (1 : Int)) := by omega
theorem z_X3_straightOrNot_4 (a0 : Int) (h0 : 0 ≤ a0 ∧ a0 ≤ 90) (h1 : ¬ ((90 : Int) ≤ a0)) : 0 ≤ a0 ∧ a0 < ((90 : Nat) : Int) := by omega
theorem z_X3_straightOrNot_7 (a0 : Int) (a1 : Int) (h0 : 0 ≤ a0 ∧ a0 ≤ 90) (h1 : a1 = (a0 + 1) ∨ (a0 + 1) < -2147483648 ∨ 2147483648 ≤ (a0 + 1)) : a1 = (a0 + 1) := by omega
theorem z_X3_straightOrNot_8 (a0 : Int) (h0 : 0 ≤ a0 ∧ a0 ≤ 90) (h1 : ¬ ((90 : Int) ≤ a0)) : 0 ≤ (a0 + 1) ∧ (a0 + 1) ≤ 90 := by omega
theorem z_X3_straightOrNot_9 (a0 : Int) (a1 : Nat) (h0 : 100 - a0 < ((a1 + 1 : Nat) : Int)) : 100 - (a0 + 1) < ((a1 : Nat) : Int) := by omega
abbrev rm_X3_straightOrNot : Room := { frames := 3, cells := 0, slots := 0, locals := 71 }
set_option maxHeartbeats 4000000 in
set_option maxRecDepth 100000 in
theorem c_X3_straightOrNot (l : Launch) (E : XE) (K : Nat → Nat) (F : Nat → Nat → Nat) (G : XG) (a : Nat) (p0 : Nat) (p1 : Nat) (p2 : Int32) (p3 : Int32) (ha : K a = 5) (hp0 : K p0 = 8) (hp1 : K p1 = 2) (sb : 0 ≤ ((G.1 p1 2).toInt) ∧ ((G.1 p1 2).toInt) ≤ 12) (e0 : 0 ≤ p2.toInt ∧ p2.toInt < 3 ∧ 0 ≤ p3.toInt ∧ p3.toInt < 30) (bko : BKr K G (G.2.2.1 (F p1 1))) : Met l yX3_straightOrNot (xw yX3_straightOrNot cX3_straightOrNot 6 (some .int)) rm_X3_straightOrNot (va_Pc [.ref a, .ref p0, .ref p1, .int p2, .int p3] (XP E K F G)) (XQ E (fun v (u : XG) => ∃ r : Int32, v = .int r ∧ XFr [(a, 3)] [F a 0, F a 1, F a 2] [] G u ∧ (∃ b : Int → Int, r.toInt = toB b 3 - 1 ∧ ∀ t j : Int, inR t j → (bI (b t) j = 1 ↔ RCH (lnC G (G.2.2.1 (F p1 1)) (vw (G.2.1 (F p0 0))) ((G.1 p1 2).toInt)) p2.toInt p3.toInt t j))) (fun u H => TW E K F u H)) 0 0 (xA E) := by
  refine x_enter (by decide) (Nat.le_of_ble_eq_true rfl) ?_
  intro p e s m args below meth c Q S hr hlk hnm hQ hP ls hl
  obtain ⟨hz, hK, hT⟩ := hP
  obtain ⟨hx, hb, -, -, -⟩ := id S
  obtain ⟨H, hT, hS, hgo⟩ : ∃ H : Heap, TW E K F G H ∧ va_S (xA E) s.heap H [] ∧ H = s.heap := ⟨_, hT, va_S.rf, rfl⟩
  rw [← hgo]
  have hl : lv_has ls 6 [(0, .ref a), (1, .ref p0), (2, .ref p1), (3, .int p2), (4, .int p3)] := hl
  obtain ⟨hk9999, hj9999⟩ := fkX3_0 hT ha
  obtain ⟨hk9999a, hj9999a⟩ := fkX3_1 hT ha
  obtain ⟨hk9999b, hj9999b⟩ := fkX3_2 hT ha
  obtain ⟨hk9999c, hj9999c⟩ := fkX0_1 hT hp1
  obtain ⟨hk9999d, hj9999d⟩ := fkX6_0 hT hp0
  refine lv_aload_n hx hb dX3_straightOrNot_0 rfl (lv_at hl 0 rfl) ?_
  refine x_cv0 (x_runV (b := a) (As := []) (rest := []) S (c_X3_clear l E K F G a ha) mv_X3_clear km_X3_21 rfl rfl ⟨Nat.le_of_ble_eq_true rfl, Nat.le_of_ble_eq_true rfl⟩ (rc_5 hK hT ha) hK (fun _ => XP.blind) (fun U hU hW => XP.at hK hz hS hT hU hW) rfl hl.1 (Nat.le_of_ble_eq_true rfl) dX3_straightOrNot_1 ⟨Nat.le_of_ble_eq_true rfl, Nat.le_of_ble_eq_true rfl⟩) hS ?_
  rintro G1 H locs ⟨hF1, t1, oq1⟩ hT hS
  have t1 : ((G1.1 a 3).toInt) = 0 := t1
  refine lv_aload_n hx hb dX3_straightOrNot_4 rfl (lv_at hl 0 rfl) ?_
  refine lv_iload_n hx hb dX3_straightOrNot_5 rfl (lv_at hl 3 rfl) ?_
  refine lv_iload hx hb dX3_straightOrNot_6 (lv_at hl 4 rfl) ?_
  refine x_cv0 (x_runV (b := a) (As := [.int p2, .int p3]) (rest := []) S (c_X3_reach l E K F G1 a p2 p3 ha (v_X3_straightOrNot_8_1 (F := F) G1 a oq1 t1)) mv_X3_reach km_X3_32 rfl rfl ⟨Nat.le_of_ble_eq_true rfl, Nat.le_of_ble_eq_true rfl⟩ (rc_5 hK hT ha) hK (fun _ => XP.blind) (fun U hU hW => XP.at hK hz hS hT hU hW) rfl hl.1 (Nat.le_of_ble_eq_true rfl) dX3_straightOrNot_8 ⟨Nat.le_of_ble_eq_true rfl, Nat.le_of_ble_eq_true rfl⟩) hS ?_
  rintro G8 H locs ⟨hF8, oq8⟩ hT hS
  have oq8 : LGo (aI (G1.2.1 (F a 0))) (aI (G.2.1 (F a 1))) (aI (G.2.1 (F a 2))) ((G1.1 a 3).toInt) (aI (G8.2.1 (F a 0))) (aI (G8.2.1 (F a 1))) (aI (G8.2.1 (F a 2))) ((G8.1 a 3).toInt) (fun u9 k9 => u9 = p2.toInt ∧ k9 = p3.toInt) := by simp only [(show G1.2.1 (F a 1) = G.2.1 (F a 1) from (hF1.2.1 _ (xn1 (xne_k hk9999a hk9999 (by decide)) xn0))), (show G1.2.1 (F a 2) = G.2.1 (F a 2) from (hF1.2.1 _ (xn1 (xne_k hk9999b hk9999 (by decide)) xn0)))] at oq8; exact oq8
  refine lv_iconst (v := 0) hx hb dX3_straightOrNot_11 (by decide) ?_
  refine lv_istore (lv' := [(5, .int 0), (0, .ref a), (1, .ref p0), (2, .ref p1), (3, .int p2), (4, .int p3)]) hx hb dX3_straightOrNot_12 hl (by decide) rfl (fun ls hl => ?_)
  have L14 : ∀ (N14 : Nat) (l5_14 : Int32) (G_14 : XG) (H : Heap) (locs : List Loc) (ls : Array Slot), XFr [(a, 3)] [F a 0, F a 1, F a 2] [] G8 G_14 → LIv (aI (G_14.2.1 (F a 0))) (aI (G_14.2.1 (F a 1))) (aI (G_14.2.1 (F a 2))) ((G_14.1 a 3).toInt) → bI ((aI (G_14.2.1 (F a 0))) p2.toInt) p3.toInt = 1 → (∀ t j : Int, inR t j → bI ((aI (G_14.2.1 (F a 0))) t) j = 1 → RCH (lnC G (G.2.2.1 (F p1 1)) (vw (G.2.1 (F p0 0))) ((G.1 p1 2).toInt)) p2.toInt p3.toInt t j) → (∀ z : Int, 0 ≤ z → z < l5_14.toInt → ∀ t j : Int, inR t j → lnC G (G.2.2.1 (F p1 1)) (vw (G.2.1 (F p0 0))) ((G.1 p1 2).toInt) t j ((aI (G_14.2.1 (F a 1))) z) ((aI (G_14.2.1 (F a 2))) z) → bI ((aI (G_14.2.1 (F a 0))) t) j = 1) → 0 ≤ l5_14.toInt ∧ l5_14.toInt ≤ 90 → 100 - l5_14.toInt < ((N14 : Nat) : Int) → TW E K F G_14 H → va_S (xA E) s.heap H locs → lv_has ls 6 [(0, .ref a), (1, .ref p0), (2, .ref p1), (5, .int l5_14)] → W p l e rm_X3_straightOrNot s m args below meth c H locs 0 0 Q (F0 m 14 ls []) := by
    intro N14
    induction N14 with
    | zero =>
      intro l5_14 G_14 H locs ls hF_14 pv ps pr pc I14_0 hm14
      exact absurd hm14 (z_X3_straightOrNot_1 l5_14.toInt I14_0)
    | succ N14 ih14 =>
      intro l5_14 G_14 H locs ls hF_14 pv ps pr pc I14_0 hm14 hT hS hl
      refine lv_iload hx hb dX3_straightOrNot_14 (lv_at hl 3 rfl) ?_
      refine lv_aload_n hx hb dX3_straightOrNot_16 rfl (lv_at hl 0 rfl) ?_
      refine gX3_3 S hK hT ha kf_X3_28 dX3_straightOrNot_17 (v := (G_14.1 a 3)) rfl (?_)
      refine xi_cge (tgt := 56) hx hb (rfl : Int32.toInt l5_14 = l5_14.toInt) (rfl : Int32.toInt (G_14.1 a 3) = ((G_14.1 a 3).toInt)) dX3_straightOrNot_20 (by decide) (fun c20 => ?_) (fun c20 => ?_)
      · have z56 : 0 ≤ ((G_14.1 a 3).toInt) ∧ ((G_14.1 a 3).toInt) ≤ 90 := pv.b
        refine lv_aload_n hx hb dX3_straightOrNot_56 rfl (lv_at hl 0 rfl) ?_
        refine gX3_3 S hK hT ha kf_X3_28 dX3_straightOrNot_57 (v := (G_14.1 a 3)) rfl (?_)
        refine lv_iconst (v := 1) hx hb dX3_straightOrNot_60 (by decide) ?_
        refine xi_isub hx hb (rfl : Int32.toInt (G_14.1 a 3) = ((G_14.1 a 3).toInt)) ((by decide) : Int32.toInt 1 = (1 : Int)) dX3_straightOrNot_61 (fun x61 t61 => ?_)
        have e61 : x61.toInt = (((G_14.1 a 3).toInt) - (1 : Int)) := (z_X3_straightOrNot_2 x61.toInt ((G_14.1 a 3).toInt) z56 t61)
        exact x_ri hx hb hr hlk hQ (Nat.le_of_ble_eq_true rfl) (Nat.le_of_ble_eq_true rfl) hS dX3_straightOrNot_62 G_14 ⟨_, rfl, (XFr.call (XFr.call (XFr.call XFr.rf hF1 (xm1 0 rfl xm0) (xm1 0 rfl xm0) xm0) hF8 (xm1 0 rfl xm0) (xm1 0 rfl (xm1 1 rfl (xm1 2 rfl xm0))) xm0) hF_14 (xm1 0 rfl xm0) (xm1 0 rfl (xm1 1 rfl (xm1 2 rfl xm0))) xm0), (by rw [(e61 : Int32.toInt x61 = (((G_14.1 a 3).toInt) - (1 : Int)))] <;> exact (v_X3_straightOrNot_62_2 (K := K) (F := F) a p0 p1 G G_14 G1 G8 p2 p3 l5_14 N14 ha hp0 hp1 oq8 pv ps pr pc sb e0 t1 I14_0 hm14 c20 z56))⟩ hT
      · refine lv_iload hx hb dX3_straightOrNot_23 (lv_at hl 3 rfl) ?_
        refine lv_bipush (v := 90) hx hb dX3_straightOrNot_25 (by decide) ?_
        refine xi_cge (tgt := 56) hx hb (rfl : Int32.toInt l5_14 = l5_14.toInt) ((by decide) : Int32.toInt 90 = (90 : Int)) dX3_straightOrNot_27 (by decide) (fun c27 => ?_) (fun c27 => ?_)
        · have z56 : 0 ≤ ((G_14.1 a 3).toInt) ∧ ((G_14.1 a 3).toInt) ≤ 90 := pv.b
          refine lv_aload_n hx hb dX3_straightOrNot_56 rfl (lv_at hl 0 rfl) ?_
          refine gX3_3 S hK hT ha kf_X3_28 dX3_straightOrNot_57 (v := (G_14.1 a 3)) rfl (?_)
          refine lv_iconst (v := 1) hx hb dX3_straightOrNot_60 (by decide) ?_
          refine xi_isub hx hb (rfl : Int32.toInt (G_14.1 a 3) = ((G_14.1 a 3).toInt)) ((by decide) : Int32.toInt 1 = (1 : Int)) dX3_straightOrNot_61 (fun x61 t61 => ?_)
          have e61 : x61.toInt = (((G_14.1 a 3).toInt) - (1 : Int)) := (z_X3_straightOrNot_3 l5_14.toInt x61.toInt ((G_14.1 a 3).toInt) c20 c27 z56)
          exact x_ri hx hb hr hlk hQ (Nat.le_of_ble_eq_true rfl) (Nat.le_of_ble_eq_true rfl) hS dX3_straightOrNot_62 G_14 ⟨_, rfl, (XFr.call (XFr.call (XFr.call XFr.rf hF1 (xm1 0 rfl xm0) (xm1 0 rfl xm0) xm0) hF8 (xm1 0 rfl xm0) (xm1 0 rfl (xm1 1 rfl (xm1 2 rfl xm0))) xm0) hF_14 (xm1 0 rfl xm0) (xm1 0 rfl (xm1 1 rfl (xm1 2 rfl xm0))) xm0), (by rw [(e61 : Int32.toInt x61 = (((G_14.1 a 3).toInt) - (1 : Int)))] <;> exact (v_X3_straightOrNot_62_3 (K := K) (F := F) a p0 p1 G G_14 G1 G8 p2 p3 l5_14 N14 ha hp0 hp1 oq8 pv ps pr pc sb e0 t1 I14_0 hm14 c20 c27 z56))⟩ hT
        · refine lv_aload_n hx hb dX3_straightOrNot_30 rfl (lv_at hl 0 rfl) ?_
          refine lv_aload_n hx hb dX3_straightOrNot_31 rfl (lv_at hl 1 rfl) ?_
          refine lv_aload_n hx hb dX3_straightOrNot_32 rfl (lv_at hl 2 rfl) ?_
          refine lv_aload_n hx hb dX3_straightOrNot_33 rfl (lv_at hl 0 rfl) ?_
          refine gX3_1 S hK hT ha kf_X3_15 dX3_straightOrNot_34 (fun _ _ => ?_)
          refine lv_iload hx hb dX3_straightOrNot_37 (lv_at hl 3 rfl) ?_
          refine al_0 S hK hT hk9999a ar_24 (by decide) (z_X3_straightOrNot_4 l5_14.toInt I14_0 c27) dX3_straightOrNot_39 (fun x39 hv39 o39 => ?_)
          have hv39 : x39.toInt = (aI (G_14.2.1 (F a 1)) (l5_14.toInt)) := hv39.trans (by rw [(rfl : Int32.toInt l5_14 = l5_14.toInt)])
          refine lv_aload_n hx hb dX3_straightOrNot_40 rfl (lv_at hl 0 rfl) ?_
          refine gX3_2 S hK hT ha kf_X3_18 dX3_straightOrNot_41 (fun _ _ => ?_)
          refine lv_iload hx hb dX3_straightOrNot_44 (lv_at hl 3 rfl) ?_
          refine al_0 S hK hT hk9999b ar_24 (by decide) (z_X3_straightOrNot_4 l5_14.toInt I14_0 c27) dX3_straightOrNot_46 (fun x46 hv46 o46 => ?_)
          have hv46 : x46.toInt = (aI (G_14.2.1 (F a 2)) (l5_14.toInt)) := hv46.trans (by rw [(rfl : Int32.toInt l5_14 = l5_14.toInt)])
          refine x_cv0 (x_runV (b := a) (As := [.ref p0, .ref p1, .int x39, .int x46]) (rest := []) S (c_X3_reachFrom l E K F G_14 a p0 p1 x39 x46 ha hp0 hp1 (by rw [(show (G_14.1 p1 2).toInt = ((G.1 p1 2).toInt) from (congrArg Int32.toInt ((hF_14.1 _ _ (xnj (by decide) xn0)).trans ((hF8.1 _ _ (xnj (by decide) xn0)).trans (hF1.1 _ _ (xnj (by decide) xn0))))).trans (rfl : Int32.toInt (G.1 p1 2) = ((G.1 p1 2).toInt)))] <;> exact (sb)) (v_X3_straightOrNot_47_4 (F := F) G_14 a pv)) mv_X3_reachFrom km_X3_24 rfl rfl ⟨Nat.le_of_ble_eq_true rfl, Nat.le_of_ble_eq_true rfl⟩ (rc_5 hK hT ha) hK (fun _ => XP.blind) (fun U hU hW => XP.at hK hz hS hT hU hW) rfl hl.1 (Nat.le_of_ble_eq_true rfl) dX3_straightOrNot_47 ⟨Nat.le_of_ble_eq_true rfl, Nat.le_of_ble_eq_true rfl⟩) hS ?_
          rintro G47 H locs ⟨hF47, oq47⟩ hT hS
          have oq47 : LGo (aI (G_14.2.1 (F a 0))) (aI (G_14.2.1 (F a 1))) (aI (G_14.2.1 (F a 2))) ((G_14.1 a 3).toInt) (aI (G47.2.1 (F a 0))) (aI (G47.2.1 (F a 1))) (aI (G47.2.1 (F a 2))) ((G47.1 a 3).toInt) (fun u9 k9 => lnC G_14 (G_14.2.2.1 (F p1 1)) (vw (G.2.1 (F p0 0))) ((G.1 p1 2).toInt) u9 k9 (aI (G_14.2.1 (F a 1)) (l5_14.toInt)) (aI (G_14.2.1 (F a 2)) (l5_14.toInt))) := by simp only [(hv39 : Int32.toInt x39 = (aI (G_14.2.1 (F a 1)) (l5_14.toInt))), (hv46 : Int32.toInt x46 = (aI (G_14.2.1 (F a 2)) (l5_14.toInt))), (show G_14.2.1 (F p0 0) = G.2.1 (F p0 0) from ((hF_14.2.1 _ (xn1 (xne_k hk9999d hk9999 (by decide)) (xn1 (xne_k hk9999d hk9999a (by decide)) (xn1 (xne_k hk9999d hk9999b (by decide)) xn0)))).trans ((hF8.2.1 _ (xn1 (xne_k hk9999d hk9999 (by decide)) (xn1 (xne_k hk9999d hk9999a (by decide)) (xn1 (xne_k hk9999d hk9999b (by decide)) xn0)))).trans (hF1.2.1 _ (xn1 (xne_k hk9999d hk9999 (by decide)) xn0))))), (show G_14.1 p1 2 = G.1 p1 2 from ((hF_14.1 _ _ (xnj (by decide) xn0)).trans ((hF8.1 _ _ (xnj (by decide) xn0)).trans (hF1.1 _ _ (xnj (by decide) xn0)))))] at oq47; exact oq47
          refine xi_iinc (n := 1) (lv' := fun z9 => [(5, .int z9), (0, .ref a), (1, .ref p0), (2, .ref p1)]) (k := 3) hx hb (rfl : Int32.toInt l5_14 = l5_14.toInt) (by decide) dX3_straightOrNot_50 hl rfl (by decide) (fun _ => rfl) (fun x50 ls t50 hl => ?_)
          have e50 : x50.toInt = (l5_14.toInt + 1) := (z_X3_straightOrNot_7 l5_14.toInt x50.toInt I14_0 t50)
          have hl : lv_has ls 6 [(5, .int x50), (0, .ref a), (1, .ref p0), (2, .ref p1)] := hl
          refine lv_goto (tgt := 14) hx hb dX3_straightOrNot_53 (by decide) ?_
          exact ih14 x50 G47 _ _ _ (XFr.call (XFr.call XFr.rf hF_14 (xm1 0 rfl xm0) (xm1 0 rfl (xm1 1 rfl (xm1 2 rfl xm0))) xm0) hF47 (xm1 0 rfl xm0) (xm1 0 rfl (xm1 1 rfl (xm1 2 rfl xm0))) xm0) (v_X3_straightOrNot_53_5 (F := F) G_14 a G47 p1 G p0 l5_14 oq47) (v_X3_straightOrNot_53_6 (K := K) (F := F) a p0 p1 G G47 G1 G8 G_14 p2 p3 l5_14 N14 ha hp0 hp1 oq8 pv ps oq47 sb e0 t1 I14_0 hm14 c20 c27) (v_X3_straightOrNot_53_7 (K := K) (F := F) a p0 p1 G G47 G1 G8 G_14 p2 p3 l5_14 N14 ha hp0 hp1 hk9999 hj9999 hk9999a hj9999a hk9999b hj9999b hk9999c hj9999c hk9999d hj9999d hF1 hF8 hF_14 bko oq8 pv ps pr oq47 sb e0 t1 I14_0 hm14 c20 c27 ((hF_14.2.2 _ xn0).trans ((hF8.2.2 _ xn0).trans (hF1.2.2 _ xn0)))) (by rw [(e50 : Int32.toInt x50 = (l5_14.toInt + 1))] <;> exact (v_X3_straightOrNot_53_8 (K := K) (F := F) a p0 p1 G G47 G1 G8 G_14 p2 p3 l5_14 N14 ha hp0 hp1 hk9999 hj9999 hk9999a hj9999a hk9999b hj9999b hk9999c hj9999c hk9999d hj9999d hF1 hF8 hF_14 bko oq8 pv ps pc oq47 sb e0 t1 I14_0 hm14 c20 c27 ((hF_14.2.2 _ xn0).trans ((hF8.2.2 _ xn0).trans (hF1.2.2 _ xn0))))) (by rw [(e50 : Int32.toInt x50 = (l5_14.toInt + 1))] <;> exact (z_X3_straightOrNot_8 l5_14.toInt I14_0 c27)) (by rw [(e50 : Int32.toInt x50 = (l5_14.toInt + 1))] <;> exact (z_X3_straightOrNot_9 l5_14.toInt N14 hm14)) hT hS (lv_sub hl [1, 2, 3, 0] rfl)
  exact L14 4294967297 0 G8 _ _ _ XFr.rf (v_X3_straightOrNot_12_9 (F := F) G1 a G G8 p2 p3 oq8) (v_X3_straightOrNot_12_10 (K := K) (F := F) a p0 p1 G G8 G1 p2 p3 ha hp0 hp1 oq8 sb e0 t1) (v_X3_straightOrNot_12_11 (F := F) a p0 p1 G G8 G1 p2 p3 oq1 oq8) (v_X3_straightOrNot_12_12 (K := K) (F := F) a p0 p1 G G8 G1 p2 p3 ha hp0 hp1 oq8 sb e0 t1) (by decide) (by decide) hT hS (lv_sub hl [1, 2, 3, 0] rfl)

theorem z_X10_leans_1 (a0 : Int) : (¬ a0 = 0 ∧ ¬ a0 = 1) ∨ (a0 = 0) ∨ (a0 = 1) := by omega
theorem z_X10_leans_4 (a0 : Int) (a1 : Int) (a2 : Int) (a3 : Int) (h0 : ¬ (0 ≤ a0 ∧ a0 < 3 ∧ 0 ≤ a1 ∧ a1 < 30) → a3 = -2000) (h1 : (a2 = 1 ∧ a3 ≠ -2000) ∨ (a2 = 0 ∧ a3 = -2000)) (h2 : a2 ≠ 0) : 0 ≤ a0 ∧ a0 < 3 ∧ 0 ≤ a1 ∧ a1 < 30 := by omega
abbrev rm_X10_leans : Room := { frames := 4, cells := 0, slots := 0, locals := 96 }
set_option maxHeartbeats 4000000 in
set_option maxRecDepth 100000 in
theorem c_X10_leans (l : Launch) (E : XE) (K : Nat → Nat) (F : Nat → Nat → Nat) (G : XG) (a : Nat) (p0 : Int32) (p1 : Int32) (p2 : Int32) (ha : K a = 12) (sb : 0 ≤ ((G.1 (F a 2) 2).toInt) ∧ ((G.1 (F a 2) 2).toInt) ≤ 12) (ron : RO (vw (G.2.1 (F (F a 3) 0))) (aI (G.2.1 (F (F a 3) 1)))) (bko : BKr K G (G.2.2.1 (F (F a 2) 1))) : Met l yX10_leans (xw yX10_leans cX10_leans 4 (some .int)) rm_X10_leans (va_Pc [.ref a, .int p0, .int p1, .int p2] (XP E K F G)) (XQ E (fun v (u : XG) => ∃ r : Int32, v = .int r ∧ XFr [(F a 13, 3)] [F (F a 13) 0, F (F a 13) 1, F (F a 13) 2] [] G u ∧ (((cel (vw (G.2.1 (F (F a 3) 0))) p0.toInt p1.toInt 0 = -2000 ∨ (p2.toInt ≠ 0 ∧ p2.toInt ≠ 1)) ∧ r.toInt = -1) ∨ (cel (vw (G.2.1 (F (F a 3) 0))) p0.toInt p1.toInt 0 ≠ -2000 ∧ ((p2.toInt = 0 ∧ ∃ b : Int → Int, r.toInt = toB b 3 ∧ ∀ t j : Int, inR t j → (bI (b t) j = 1 ↔ lnC G (G.2.2.1 (F (F a 2) 1)) (vw (G.2.1 (F (F a 3) 0))) ((G.1 (F a 2) 2).toInt) t j p0.toInt p1.toInt)) ∨ (p2.toInt = 1 ∧ ∃ b : Int → Int, r.toInt = toB b 3 - 1 ∧ ∀ t j : Int, inR t j → (bI (b t) j = 1 ↔ RCH (lnC G (G.2.2.1 (F (F a 2) 1)) (vw (G.2.1 (F (F a 3) 0))) ((G.1 (F a 2) 2).toInt)) p0.toInt p1.toInt t j)))))) (fun u H => TW E K F u H)) 0 0 (xA E) := by
  refine x_enter (by decide) (Nat.le_of_ble_eq_true rfl) ?_
  intro p e s m args below meth c Q S hr hlk hnm hQ hP ls hl
  obtain ⟨hz, hK, hT⟩ := hP
  obtain ⟨hx, hb, -, -, -⟩ := id S
  obtain ⟨H, hT, hS, hgo⟩ : ∃ H : Heap, TW E K F G H ∧ va_S (xA E) s.heap H [] ∧ H = s.heap := ⟨_, hT, va_S.rf, rfl⟩
  rw [← hgo]
  have hl : lv_has ls 4 [(0, .ref a), (1, .int p0), (2, .int p1), (3, .int p2)] := hl
  obtain ⟨hk9999, hj9999⟩ := fkX10_13 hT ha
  obtain ⟨hk9999a, hj9999a⟩ := fkX3_0 hT hk9999
  obtain ⟨hk9999b, hj9999b⟩ := fkX3_1 hT hk9999
  obtain ⟨hk9999c, hj9999c⟩ := fkX3_2 hT hk9999
  obtain ⟨hk9999d, hj9999d⟩ := fkX10_2 hT ha
  obtain ⟨hk9999e, hj9999e⟩ := fkX0_1 hT hk9999d
  obtain ⟨hk9999f, hj9999f⟩ := fkX10_3 hT ha
  obtain ⟨hk9999g, hj9999g⟩ := fkX6_0 hT hk9999f
  have hj9999h : F (F (F a 3) 0) 99 = 0 := by rw [hj9999g, hj9999f]
  obtain ⟨hk9999h, hj9999i⟩ := fkX6_1 hT hk9999f
  have hj9999j : F (F (F a 3) 1) 99 = 0 := by rw [hj9999i, hj9999f]
  refine lv_aload_n hx hb dX10_leans_0 rfl (lv_at hl 0 rfl) ?_
  refine gX10_3 S hK hT ha kf_X10_37 dX10_leans_1 (fun _ _ => ?_)
  refine lv_iload_n hx hb dX10_leans_4 rfl (lv_at hl 1 rfl) ?_
  have z5 : ¬ (0 ≤ p0.toInt ∧ p0.toInt < 3 ∧ 0 ≤ p1.toInt ∧ p1.toInt < 30) → (cel (vw (G.2.1 (F (F a 3) 0))) (p0.toInt) (p1.toInt) 0) = -2000 := fun h9 => cel_out (by omega)
  refine lv_iload_n hx hb dX10_leans_5 rfl (lv_at hl 2 rfl) ?_
  refine x_clp (x_runV (b := (F a 3)) (As := [.int p0, .int p1]) (rest := []) S (c_X6_has l E K F G H (F a 3) p0 p1 hk9999f (v_X10_leans_6_1 (F := F) a G ron)) mv_X6_has km_X10_191 rfl rfl ⟨Nat.le_of_ble_eq_true rfl, Nat.le_of_ble_eq_true rfl⟩ (rc_8 hK hT hk9999f) hK (fun _ => XPh.blind) (fun U hU hW => XPh.at hK hz hS hT hU hW) rfl hl.1 (Nat.le_of_ble_eq_true rfl) dX10_leans_6 ⟨Nat.le_of_ble_eq_true rfl, Nat.le_of_ble_eq_true rfl⟩) hS ?_
  rintro _ _ locs ⟨x6, rfl, b6, t6⟩ hS
  have t6 : (x6.toInt = 1 ∧ (cel (vw (G.2.1 (F (F a 3) 0))) (p0.toInt) (p1.toInt) 0) ≠ -2000) ∨ (x6.toInt = 0 ∧ (cel (vw (G.2.1 (F (F a 3) 0))) (p0.toInt) (p1.toInt) 0) = -2000) := t6
  refine xi_zne (tgt := 14) hx hb (rfl : Int32.toInt x6 = x6.toInt) dX10_leans_9 (by decide) (fun c9 => ?_) (fun c9 => ?_)
  · refine lv_iload_n hx hb dX10_leans_14 rfl (lv_at hl 3 rfl) ?_
    rcases ((z_X10_leans_1 p2.toInt) : (¬ p2.toInt = 0 ∧ ¬ p2.toInt = 1) ∨ (p2.toInt = 0) ∨ (p2.toInt = 1)) with c15 | c15 | c15
    · refine lv_lookup (off := 61) (tgt := 76) hx hb dX10_leans_15 (by decide) (by first | (simp only [Op.lookupswitch.offset_cons, Op.lookupswitch.offset_nil]; (repeat' split) <;> omega) | (simp [Op.lookupswitch.offset]; (repeat' split) <;> omega) | (simp [Op.lookupswitch.offset]; omega)) (by decide) ?_
      refine lv_iconst (v := (-1)) hx hb dX10_leans_76 (by decide) ?_
      exact x_ri hx hb hr hlk hQ (Nat.le_of_ble_eq_true rfl) (Nat.le_of_ble_eq_true rfl) hS dX10_leans_77 G ⟨_, rfl, XFr.rf, (by rw [((by decide) : Int32.toInt (-1) = (-1 : Int))] <;> exact (v_X10_leans_77_2 (K := K) (F := F) a G p0 p1 x6 p2 ha sb z5 t6 c9 c15))⟩ hT
    · refine lv_lookup (off := 25) (tgt := 40) hx hb dX10_leans_15 (by decide) (by rw [c15]; rfl) (by decide) ?_
      refine lv_aload_n hx hb dX10_leans_40 rfl (lv_at hl 0 rfl) ?_
      refine gX10_13 S hK hT ha kf_X10_84 dX10_leans_41 (fun _ _ => ?_)
      refine lv_aload_n hx hb dX10_leans_44 rfl (lv_at hl 0 rfl) ?_
      refine gX10_3 S hK hT ha kf_X10_37 dX10_leans_45 (fun _ _ => ?_)
      refine lv_aload_n hx hb dX10_leans_48 rfl (lv_at hl 0 rfl) ?_
      refine gX10_2 S hK hT ha kf_X10_30 dX10_leans_49 (fun _ _ => ?_)
      refine lv_iload_n hx hb dX10_leans_52 rfl (lv_at hl 1 rfl) ?_
      refine lv_iload_n hx hb dX10_leans_53 rfl (lv_at hl 2 rfl) ?_
      refine x_cl0 (x_runV (b := (F a 13)) (As := [.ref (F a 3), .ref (F a 2), .int p0, .int p1]) (rest := []) S (c_X3_straight l E K F G (F a 13) (F a 3) (F a 2) p0 p1 hk9999 hk9999f hk9999d (sb) (v_X10_leans_54_3 (K := K) (F := F) a G bko)) mv_X3_straight km_X10_358 rfl rfl ⟨Nat.le_of_ble_eq_true rfl, Nat.le_of_ble_eq_true rfl⟩ (rc_5 hK hT hk9999) hK (fun _ => XP.blind) (fun U hU hW => XP.at hK hz hS hT hU hW) rfl hl.1 (Nat.le_of_ble_eq_true rfl) dX10_leans_54 ⟨Nat.le_of_ble_eq_true rfl, Nat.le_of_ble_eq_true rfl⟩) hS ?_
      rintro _ G54 H locs ⟨x54, rfl, hF54, oq54⟩ hT hS
      exact x_ri hx hb hr hlk hQ (Nat.le_of_ble_eq_true rfl) (Nat.le_of_ble_eq_true rfl) hS dX10_leans_57 G54 ⟨_, rfl, (XFr.call XFr.rf hF54 (xm1 0 rfl xm0) (xm1 0 rfl (xm1 1 rfl (xm1 2 rfl xm0))) xm0), (v_X10_leans_57_4 (K := K) (F := F) a G x54 p0 p1 x6 p2 ha oq54 sb z5 t6 c9 c15)⟩ hT
    · refine lv_lookup (off := 43) (tgt := 58) hx hb dX10_leans_15 (by decide) (by rw [c15]; rfl) (by decide) ?_
      refine lv_aload_n hx hb dX10_leans_58 rfl (lv_at hl 0 rfl) ?_
      refine gX10_13 S hK hT ha kf_X10_84 dX10_leans_59 (fun _ _ => ?_)
      refine lv_aload_n hx hb dX10_leans_62 rfl (lv_at hl 0 rfl) ?_
      refine gX10_3 S hK hT ha kf_X10_37 dX10_leans_63 (fun _ _ => ?_)
      refine lv_aload_n hx hb dX10_leans_66 rfl (lv_at hl 0 rfl) ?_
      refine gX10_2 S hK hT ha kf_X10_30 dX10_leans_67 (fun _ _ => ?_)
      refine lv_iload_n hx hb dX10_leans_70 rfl (lv_at hl 1 rfl) ?_
      refine lv_iload_n hx hb dX10_leans_71 rfl (lv_at hl 2 rfl) ?_
      refine x_cl0 (x_runV (b := (F a 13)) (As := [.ref (F a 3), .ref (F a 2), .int p0, .int p1]) (rest := []) S (c_X3_straightOrNot l E K F G (F a 13) (F a 3) (F a 2) p0 p1 hk9999 hk9999f hk9999d (sb) (z_X10_leans_4 p0.toInt p1.toInt x6.toInt (cel (vw (G.2.1 (F (F a 3) 0))) (p0.toInt) (p1.toInt) 0) z5 t6 c9) (v_X10_leans_72_5 (K := K) (F := F) a G bko)) mv_X3_straightOrNot km_X10_362 rfl rfl ⟨Nat.le_of_ble_eq_true rfl, Nat.le_of_ble_eq_true rfl⟩ (rc_5 hK hT hk9999) hK (fun _ => XP.blind) (fun U hU hW => XP.at hK hz hS hT hU hW) rfl hl.1 (Nat.le_of_ble_eq_true rfl) dX10_leans_72 ⟨Nat.le_of_ble_eq_true rfl, Nat.le_of_ble_eq_true rfl⟩) hS ?_
      rintro _ G72 H locs ⟨x72, rfl, hF72, oq72⟩ hT hS
      exact x_ri hx hb hr hlk hQ (Nat.le_of_ble_eq_true rfl) (Nat.le_of_ble_eq_true rfl) hS dX10_leans_75 G72 ⟨_, rfl, (XFr.call XFr.rf hF72 (xm1 0 rfl xm0) (xm1 0 rfl (xm1 1 rfl (xm1 2 rfl xm0))) xm0), (v_X10_leans_75_6 (K := K) (F := F) a G x72 p0 p1 x6 p2 ha oq72 sb z5 t6 c9 c15)⟩ hT
  · refine lv_iconst (v := (-1)) hx hb dX10_leans_12 (by decide) ?_
    exact x_ri hx hb hr hlk hQ (Nat.le_of_ble_eq_true rfl) (Nat.le_of_ble_eq_true rfl) hS dX10_leans_13 G ⟨_, rfl, XFr.rf, (by rw [((by decide) : Int32.toInt (-1) = (-1 : Int))] <;> exact (v_X10_leans_13_7 (K := K) (F := F) a G p0 p1 x6 p2 ha sb z5 t6 c9))⟩ hT
/-! ===== the reader's place: within the text ===== -/
theorem bl_p9 {t : Int → Int} {n z : Int} (hx : TXe t n) (h : 0 ≤ z ∧ z ≤ n) : 0 ≤ rn cBl t z ∧ rn cBl t z ≤ n := by
  obtain ⟨-, r1, r2⟩ := rn_in (P := cBl) (by unfold cBl; decide) hx h.2
  omega
theorem tkW_b {t : Int → Int} {n : Int} {w : List Int} {S : RSt} (hx : TXe t n) (h : 0 ≤ S.2 ∧ S.2 ≤ n) : 0 ≤ (tkW t w S).2.2 ∧ (tkW t w S).2.2 ≤ n := by
  by_cases c : S.1 = 1 ∧ wOk t S.2 w
  · rw [tkW_t c.1 c.2]
    obtain ⟨-, r1, r2⟩ := rn_in (P := cLt) (by unfold cLt; decide) hx h.2
    have e := c.2.1
    exact bl_p9 hx (by omega)
  · rw [tkW_f c]; exact h
theorem tkN_p {t : Int → Int} {n lo hi : Int} {S : RSt} (hx : TXe t n) (h : 0 ≤ S.2 ∧ S.2 ≤ n) : 0 ≤ (tkN t lo hi S).2.2 ∧ (tkN t lo hi S).2.2 ≤ n := by
  by_cases c : S.1 = 1 ∧ nOk t S.2 ∧ lo ≤ nVl t S.2 ∧ nVl t S.2 ≤ hi
  · rw [tkN_t c.1 c.2.1 c.2.2.1 c.2.2.2]
    have hs : 0 ≤ nS t S.2 ∧ nS t S.2 ≤ n := by
      unfold nS
      split
      · rename_i e
        by_cases g : n ≤ S.2
        · have := hx S.2 g
          omega
        · omega
      · exact h
    obtain ⟨-, r1, r2⟩ := rn_in (P := cDg) (by unfold cDg; decide) hx hs.2
    have e : nE t S.2 = rn cDg t (nS t S.2) := rfl
    exact bl_p9 hx (by omega)
  · rw [tkN_f c]; exact h
theorem tkK_p {t : Int → Int} {n : Int} {S : RSt} (hx : TXe t n) (h : 0 ≤ S.2 ∧ S.2 ≤ n) : 0 ≤ (tkK t S).2.2 ∧ (tkK t S).2.2 ≤ n := by
  have key : ∀ f k : Nat, 0 ≤ (tkKf t S f k).2.2 ∧ (tkKf t S f k).2.2 ≤ n := by
    intro f
    induction f with
    | zero => intro k; exact h
    | succ f ih =>
      intro k
      show 0 ≤ (if (tkW t (kw k) S).1 = 1 then ((k : Int), (tkW t (kw k) S).2) else tkKf t S f (k + 1)).2.2 ∧ (if (tkW t (kw k) S).1 = 1 then ((k : Int), (tkW t (kw k) S).2) else tkKf t S f (k + 1)).2.2 ≤ n
      split
      · exact tkW_b hx h
      · exact ih _
  exact key 6 0
theorem tkA_p {t : Int → Int} {n : Int} {S : RSt} (hx : TXe t n) (h : 0 ≤ S.2 ∧ S.2 ≤ n) : 0 ≤ (tkA t S).2.2 ∧ (tkA t S).2.2 ≤ n := by
  unfold tkA
  split
  · exact tkW_b hx h
  · split
    · exact tkW_b hx h
    · exact h
theorem rS9_b {t : Int → Int} {n : Int} (hx : TXe t n) (hn : 0 ≤ n) : 0 ≤ (rS9 t).2.2 ∧ (rS9 t).2.2 ≤ n := by
  have b1 : 0 ≤ (rS1 t).2.2 ∧ (rS1 t).2.2 ≤ n := tkK_p hx (bl_p9 hx ⟨by omega, hn⟩)
  have b2 : 0 ≤ (rS2 t).2.2 ∧ (rS2 t).2.2 ≤ n := tkN_p hx b1
  have b3 : 0 ≤ (rS3 t).2.2 ∧ (rS3 t).2.2 ≤ n := tkN_p hx b2
  have b4 : 0 ≤ (rS4 t).2.2 ∧ (rS4 t).2.2 ≤ n := by
    unfold rS4
    split
    · exact tkN_p hx b3
    · exact b3
  have b5 : 0 ≤ (rS5 t).2.2 ∧ (rS5 t).2.2 ≤ n := by
    unfold rS5
    split
    · exact tkN_p hx b4
    · exact b4
  have b6 : 0 ≤ (rS6 t).2.2 ∧ (rS6 t).2.2 ≤ n := by
    unfold rS6
    split
    · exact tkN_p hx b5
    · exact b5
  have b7 : 0 ≤ (rS7 t).2.2 ∧ (rS7 t).2.2 ≤ n := by
    unfold rS7
    split
    · exact tkA_p hx b6
    · exact b6
  have b8 : 0 ≤ (rS8 t).2.2 ∧ (rS8 t).2.2 ≤ n := tkW_b hx b7
  unfold rS9
  split
  · exact tkN_p hx (tkW_b hx b8)
  · exact tkW_b hx b8
theorem v_X10_rule_39_1 {F : Nat → Nat → Nat} (G : XG) (a : Nat) (x20 : Int32) (G20 : XG)
    (n1 : 0 ≤ ((G.1 (F a 0) 1).toInt))
    (t20 : (((0 : Int) < 0 ∨ ((G.1 (F a 0) 1).toInt) < (0 : Int)) ∧ x20.toInt = 0 ∧ ((G20.1 (F a 0) 1).toInt) = ((G.1 (F a 0) 1).toInt)) ∨ ((0 ≤ (0 : Int) ∧ (0 : Int) ≤ ((G.1 (F a 0) 1).toInt)) ∧ x20.toInt = 1 ∧ ((G20.1 (F a 0) 1).toInt) = (0 : Int))) :
    (G20.1 (F a 0) 1).toInt = 0 := by
  omega
theorem v_X10_rule_39_2 {F : Nat → Nat → Nat} (G11 : XG) (a : Nat) (G : XG) (x38 : Int32) (G20 : XG) (q11 : Nat)
    (oq11 : (G11.1 (F a 1) 2).toInt = (rS9 (tC (G.2.1 (F (F (F a 1) 0) 0)) ((G.1 (F (F a 1) 0) 1).toInt))).2.2)
    (hn11 : ¬ rOk (tC (G.2.1 (F (F (F a 1) 0) 0)) ((G.1 (F (F a 1) 0) 1).toInt)) ((G.1 (F (F a 1) 0) 1).toInt))
    (n0 : 0 ≤ ((G.1 (F (F a 1) 0) 1).toInt) ∧ ((G.1 (F (F a 1) 0) 1).toInt) ≤ 80)
    (n1 : 0 ≤ ((G.1 (F a 0) 1).toInt))
    (t38 : x38.toInt = (-1000 : Int) - ((G11.1 (F a 1) 2).toInt) ∨ (-1000 : Int) - ((G11.1 (F a 1) 2).toInt) < -2147483648 ∨ 2147483648 ≤ (-1000 : Int) - ((G11.1 (F a 1) 2).toInt))
    (r_G20_F_F_a_2_0 : G20.2.2.1 (F (F a 2) 0) = G.2.2.1 (F (F a 2) 0))
    (r_G20_F_F_a_2_1 : G20.2.2.1 (F (F a 2) 1) = G.2.2.1 (F (F a 2) 1))
    (d_G20_F_a_2_2 : G20.1 (F a 2) 2 = G.1 (F a 2) 2) :
    (¬ rOk (tC (G.2.1 (F (F (F a 1) 0) 0)) ((G.1 (F (F a 1) 0) 1).toInt)) ((G.1 (F (F a 1) 0) 1).toInt) ∧ x38.toInt = -1000 - (rS9 (tC (G.2.1 (F (F (F a 1) 0) 0)) ((G.1 (F (F a 1) 0) 1).toInt))).2.2 ∧ (G20.2.2.1 (F (F a 2) 0) = G.2.2.1 (F (F a 2) 0) ∧ G20.2.2.1 (F (F a 2) 1) = G.2.2.1 (F (F a 2) 1) ∧ G20.1 (F a 2) 2 = G.1 (F a 2) 2)) ∨ (rOk (tC (G.2.1 (F (F (F a 1) 0) 0)) ((G.1 (F (F a 1) 0) 1).toInt)) ((G.1 (F (F a 1) 0) 1).toInt) ∧ (G.1 a 18).toInt ≠ 0 ∧ x38.toInt = -3 ∧ (G20.2.2.1 (F (F a 2) 0) = G.2.2.1 (F (F a 2) 0) ∧ G20.2.2.1 (F (F a 2) 1) = G.2.2.1 (F (F a 2) 1) ∧ G20.1 (F a 2) 2 = G.1 (F a 2) 2)) ∨ (rOk (tC (G.2.1 (F (F (F a 1) 0) 0)) ((G.1 (F (F a 1) 0) 1).toInt)) ((G.1 (F (F a 1) 0) 1).toInt) ∧ (G.1 a 18).toInt = 0 ∧ (∀ i : Nat, i < 12 → G.2.2.1 (F (F a 2) 0) i ≠ none) ∧ x38.toInt = -4 ∧ (G20.2.2.1 (F (F a 2) 0) = G.2.2.1 (F (F a 2) 0) ∧ G20.2.2.1 (F (F a 2) 1) = G.2.2.1 (F (F a 2) 1) ∧ G20.1 (F a 2) 2 = G.1 (F a 2) 2)) ∨ (rOk (tC (G.2.1 (F (F (F a 1) 0) 0)) ((G.1 (F (F a 1) 0) 1).toInt)) ((G.1 (F (F a 1) 0) 1).toInt) ∧ (G.1 a 18).toInt = 0 ∧ (0 ≤ (G20.1 q11 1).toInt ∧ (G20.1 q11 1).toInt ≤ 11) ∧ G.2.2.1 (F (F a 2) 0) ((G20.1 q11 1).toInt).toNat = none ∧ (∀ i : Nat, (i : Int) < (G20.1 q11 1).toInt → G.2.2.1 (F (F a 2) 0) i ≠ none) ∧ ((G20.1 q11 0).toInt = (rS1 (tC (G.2.1 (F (F (F a 1) 0) 0)) ((G.1 (F (F a 1) 0) 1).toInt))).1 ∧ (G20.1 q11 2).toInt = (rS2 (tC (G.2.1 (F (F (F a 1) 0) 0)) ((G.1 (F (F a 1) 0) 1).toInt))).1 ∧ (G20.1 q11 3).toInt = (rS3 (tC (G.2.1 (F (F (F a 1) 0) 0)) ((G.1 (F (F a 1) 0) 1).toInt))).1 ∧ (G20.1 q11 4).toInt = (rS4 (tC (G.2.1 (F (F (F a 1) 0) 0)) ((G.1 (F (F a 1) 0) 1).toInt))).1 ∧ (G20.1 q11 5).toInt = (rS5 (tC (G.2.1 (F (F (F a 1) 0) 0)) ((G.1 (F (F a 1) 0) 1).toInt))).1 ∧ (G20.1 q11 6).toInt = (rS6 (tC (G.2.1 (F (F (F a 1) 0) 0)) ((G.1 (F (F a 1) 0) 1).toInt))).1 ∧ (G20.1 q11 7).toInt = (rS7 (tC (G.2.1 (F (F (F a 1) 0) 0)) ((G.1 (F (F a 1) 0) 1).toInt))).1 ∧ (G20.1 q11 8).toInt = (rS9 (tC (G.2.1 (F (F (F a 1) 0) 0)) ((G.1 (F (F a 1) 0) 1).toInt))).1 ∧ (G20.1 q11 9).toInt = (rS8 (tC (G.2.1 (F (F (F a 1) 0) 0)) ((G.1 (F (F a 1) 0) 1).toInt))).1) ∧ ((ffL (uqs (vw (G.2.1 (F (F a 6) 0))) (vw (G.2.1 (F (F a 3) 0))) (G20.1 q11)) ≠ -1 ∧ x38.toInt = -5 ∧ (G20.2.2.1 (F (F a 2) 0) = G.2.2.1 (F (F a 2) 0) ∧ G20.2.2.1 (F (F a 2) 1) = G.2.2.1 (F (F a 2) 1) ∧ G20.1 (F a 2) 2 = G.1 (F a 2) 2)) ∨ (ffL (uqs (vw (G.2.1 (F (F a 6) 0))) (vw (G.2.1 (F (F a 3) 0))) (G20.1 q11)) = -1 ∧ x38.toInt = (G20.1 q11 1).toInt ∧ (∀ i : Nat, G20.2.2.1 (F (F a 2) 0) i = if i = ((G20.1 q11 1).toInt).toNat then some q11 else G.2.2.1 (F (F a 2) 0) i) ∧ BO G20 F (F a 2)))) := by
  have pb := rS9_b (tC_e (G.2.1 (F (F (F a 1) 0) 0)) ((G.1 (F (F a 1) 0) 1).toInt)) (by omega)
  exact Or.inl ⟨hn11, by omega, ⟨r_G20_F_F_a_2_0, r_G20_F_F_a_2_1, d_G20_F_a_2_2⟩⟩
theorem v_X10_rule_39_3 {F : Nat → Nat → Nat} (G20 : XG) (a : Nat) (G : XG)
    (r_G20_F_F_a_2_1 : G20.2.2.1 (F (F a 2) 1) = G.2.2.1 (F (F a 2) 1)) :
    ∀ (i p : Nat), G20.2.2.1 (F (F a 2) 1) i = some p → (∃ j : Nat, G.2.2.1 (F (F a 2) 1) j = some p) ∨ ∃ j : Nat, G20.2.2.1 (F (F a 2) 0) j = some p := by
  intro i p h
  rw [r_G20_F_F_a_2_1] at h
  exact Or.inl ⟨i, h⟩
theorem v_X10_rule_73_4 {F : Nat → Nat → Nat} (a : Nat) (G : XG) (G68 : XG)
    (ro0 : RO (vw (G.2.1 (F (F a 6) 0))) (aI (G.2.1 (F (F a 6) 1))))
    (ron : RO (vw (G.2.1 (F (F a 3) 0))) (aI (G.2.1 (F (F a 3) 1))))
    (c_G68_F_F_a_6_0 : G68.2.1 (F (F a 6) 0) = G.2.1 (F (F a 6) 0))
    (c_G68_F_F_a_6_1 : G68.2.1 (F (F a 6) 1) = G.2.1 (F (F a 6) 1)) :
    RO (vw (G68.2.1 (F (F a 6) 0))) (aI (G68.2.1 (F (F a 6) 1))) := by simp only [c_G68_F_F_a_6_0, c_G68_F_F_a_6_1]; assumption
theorem v_X10_rule_73_5 {F : Nat → Nat → Nat} (a : Nat) (G : XG) (G68 : XG)
    (ro0 : RO (vw (G.2.1 (F (F a 6) 0))) (aI (G.2.1 (F (F a 6) 1))))
    (ron : RO (vw (G.2.1 (F (F a 3) 0))) (aI (G.2.1 (F (F a 3) 1))))
    (c_G68_F_F_a_3_0 : G68.2.1 (F (F a 3) 0) = G.2.1 (F (F a 3) 0))
    (c_G68_F_F_a_3_1 : G68.2.1 (F (F a 3) 1) = G.2.1 (F (F a 3) 1)) :
    RO (vw (G68.2.1 (F (F a 3) 0))) (aI (G68.2.1 (F (F a 3) 1))) := by simp only [c_G68_F_F_a_3_0, c_G68_F_F_a_3_1]; assumption
theorem v_X10_rule_73_6 {F : Nat → Nat → Nat} (G11 : XG) (q11 : Nat) (G : XG) (a : Nat) (G68 : XG)
    (hf11 : (G11.1 q11 1).toInt = -1 ∧ (G11.1 q11 0).toInt = (rS1 (tC (G.2.1 (F (F (F a 1) 0) 0)) ((G.1 (F (F a 1) 0) 1).toInt))).1 ∧ (G11.1 q11 2).toInt = (rS2 (tC (G.2.1 (F (F (F a 1) 0) 0)) ((G.1 (F (F a 1) 0) 1).toInt))).1 ∧ (G11.1 q11 3).toInt = (rS3 (tC (G.2.1 (F (F (F a 1) 0) 0)) ((G.1 (F (F a 1) 0) 1).toInt))).1 ∧ (G11.1 q11 4).toInt = (rS4 (tC (G.2.1 (F (F (F a 1) 0) 0)) ((G.1 (F (F a 1) 0) 1).toInt))).1 ∧ (G11.1 q11 5).toInt = (rS5 (tC (G.2.1 (F (F (F a 1) 0) 0)) ((G.1 (F (F a 1) 0) 1).toInt))).1 ∧ (G11.1 q11 6).toInt = (rS6 (tC (G.2.1 (F (F (F a 1) 0) 0)) ((G.1 (F (F a 1) 0) 1).toInt))).1 ∧ (G11.1 q11 7).toInt = (rS7 (tC (G.2.1 (F (F (F a 1) 0) 0)) ((G.1 (F (F a 1) 0) 1).toInt))).1 ∧ (G11.1 q11 9).toInt = (rS8 (tC (G.2.1 (F (F (F a 1) 0) 0)) ((G.1 (F (F a 1) 0) 1).toInt))).1 ∧ (G11.1 q11 8).toInt = (rS9 (tC (G.2.1 (F (F (F a 1) 0) 0)) ((G.1 (F (F a 1) 0) 1).toInt))).1)
    (d_G68_q11_0 : G68.1 q11 0 = G11.1 q11 0)
    (d_G68_q11_2 : G68.1 q11 2 = G11.1 q11 2)
    (d_G68_q11_3 : G68.1 q11 3 = G11.1 q11 3)
    (d_G68_q11_4 : G68.1 q11 4 = G11.1 q11 4) :
    RW (G68.1 q11) := by
  obtain ⟨f1, f0, f2, f3, f4, f5, f6, f7, f9, f8⟩ := hf11
  have b := rS_b (tC (G.2.1 (F (F (F a 1) 0) 0)) ((G.1 (F (F a 1) 0) 1).toInt))
  unfold RW
  rw [d_G68_q11_0, d_G68_q11_2, d_G68_q11_3, d_G68_q11_4, f0, f2, f3, f4]
  exact ⟨b.1, b.2.1, b.2.2.1, b.2.2.2.1, b.2.2.2.2.1⟩
theorem v_X10_rule_117_7 {F : Nat → Nat → Nat} (G : XG) (a : Nat) (x20 : Int32) (G20 : XG) (G113 : XG)
    (n1 : 0 ≤ ((G.1 (F a 0) 1).toInt))
    (t20 : (((0 : Int) < 0 ∨ ((G.1 (F a 0) 1).toInt) < (0 : Int)) ∧ x20.toInt = 0 ∧ ((G20.1 (F a 0) 1).toInt) = ((G.1 (F a 0) 1).toInt)) ∨ ((0 ≤ (0 : Int) ∧ (0 : Int) ≤ ((G.1 (F a 0) 1).toInt)) ∧ x20.toInt = 1 ∧ ((G20.1 (F a 0) 1).toInt) = (0 : Int)))
    (d_G113_F_a_0_1 : G113.1 (F a 0) 1 = G20.1 (F a 0) 1) :
    (G113.1 (F a 0) 1).toInt = 0 := by
  rw [d_G113_F_a_0_1]
  omega
theorem v_X10_rule_117_8 {F : Nat → Nat → Nat} (G : XG) (a : Nat) (G11 : XG) (q11 : Nat) (x54 : Int32) (G20 : XG) (x73 : Int32) (G73 : XG) (G68 : XG) (G113 : XG)
    (hs11 : rOk (tC (G.2.1 (F (F (F a 1) 0) 0)) ((G.1 (F (F a 1) 0) 1).toInt)) ((G.1 (F (F a 1) 0) 1).toInt))
    (hf11 : (G11.1 q11 1).toInt = -1 ∧ (G11.1 q11 0).toInt = (rS1 (tC (G.2.1 (F (F (F a 1) 0) 0)) ((G.1 (F (F a 1) 0) 1).toInt))).1 ∧ (G11.1 q11 2).toInt = (rS2 (tC (G.2.1 (F (F (F a 1) 0) 0)) ((G.1 (F (F a 1) 0) 1).toInt))).1 ∧ (G11.1 q11 3).toInt = (rS3 (tC (G.2.1 (F (F (F a 1) 0) 0)) ((G.1 (F (F a 1) 0) 1).toInt))).1 ∧ (G11.1 q11 4).toInt = (rS4 (tC (G.2.1 (F (F (F a 1) 0) 0)) ((G.1 (F (F a 1) 0) 1).toInt))).1 ∧ (G11.1 q11 5).toInt = (rS5 (tC (G.2.1 (F (F (F a 1) 0) 0)) ((G.1 (F (F a 1) 0) 1).toInt))).1 ∧ (G11.1 q11 6).toInt = (rS6 (tC (G.2.1 (F (F (F a 1) 0) 0)) ((G.1 (F (F a 1) 0) 1).toInt))).1 ∧ (G11.1 q11 7).toInt = (rS7 (tC (G.2.1 (F (F (F a 1) 0) 0)) ((G.1 (F (F a 1) 0) 1).toInt))).1 ∧ (G11.1 q11 9).toInt = (rS8 (tC (G.2.1 (F (F (F a 1) 0) 0)) ((G.1 (F (F a 1) 0) 1).toInt))).1 ∧ (G11.1 q11 8).toInt = (rS9 (tC (G.2.1 (F (F (F a 1) 0) 0)) ((G.1 (F (F a 1) 0) 1).toInt))).1)
    (oq54 : (x54.toInt = -1 ∧ ∀ i : Nat, i < 12 → G20.2.2.1 (F (F a 2) 0) i ≠ none) ∨ (0 ≤ x54.toInt ∧ G20.2.2.1 (F (F a 2) 0) (x54.toInt).toNat = none ∧ ∀ i : Nat, (i : Int) < x54.toInt → G20.2.2.1 (F (F a 2) 0) i ≠ none))
    (oq73 : x73.toInt = ffL (qL G73 F (F a 9)))
    (oq73a : qL G73 F (F a 9) = uqs (vw (G.2.1 (F (F a 6) 0))) (vw (G.2.1 (F (F a 3) 0))) (G68.1 q11))
    (oq113 : ∀ i : Nat, G113.2.2.1 (F (F a 2) 0) i = if i = (((G73.1 q11 1).toInt)).toNat then some q11 else G73.2.2.1 (F (F a 2) 0) i)
    (oq113a : BO G113 F (F a 2))
    (c44 : ((G.1 a 18).toInt) = 0)
    (t54 : -1 ≤ x54.toInt ∧ x54.toInt ≤ 11)
    (c60 : x54.toInt ≠ (-1 : Int))
    (t73 : -1 ≤ x73.toInt)
    (c79 : x73.toInt = (-1 : Int))
    (r_G20_F_F_a_2_0 : G20.2.2.1 (F (F a 2) 0) = G.2.2.1 (F (F a 2) 0))
    (r_G73_F_F_a_2_0 : G73.2.2.1 (F (F a 2) 0) = G.2.2.1 (F (F a 2) 0))
    (D_G113_q11 : G113.1 q11 = G68.1 q11)
    (D_G73_q11 : G73.1 q11 = G68.1 q11)
    (d_G68_q11_0 : G68.1 q11 0 = G11.1 q11 0)
    (d_G68_q11_1 : G68.1 q11 1 = x54)
    (d_G68_q11_2 : G68.1 q11 2 = G11.1 q11 2)
    (d_G68_q11_3 : G68.1 q11 3 = G11.1 q11 3)
    (d_G68_q11_4 : G68.1 q11 4 = G11.1 q11 4)
    (d_G68_q11_5 : G68.1 q11 5 = G11.1 q11 5)
    (d_G68_q11_6 : G68.1 q11 6 = G11.1 q11 6)
    (d_G68_q11_7 : G68.1 q11 7 = G11.1 q11 7)
    (d_G68_q11_8 : G68.1 q11 8 = G11.1 q11 8)
    (d_G68_q11_9 : G68.1 q11 9 = G11.1 q11 9) :
    (¬ rOk (tC (G.2.1 (F (F (F a 1) 0) 0)) ((G.1 (F (F a 1) 0) 1).toInt)) ((G.1 (F (F a 1) 0) 1).toInt) ∧ x54.toInt = -1000 - (rS9 (tC (G.2.1 (F (F (F a 1) 0) 0)) ((G.1 (F (F a 1) 0) 1).toInt))).2.2 ∧ (G113.2.2.1 (F (F a 2) 0) = G.2.2.1 (F (F a 2) 0) ∧ G113.2.2.1 (F (F a 2) 1) = G.2.2.1 (F (F a 2) 1) ∧ G113.1 (F a 2) 2 = G.1 (F a 2) 2)) ∨ (rOk (tC (G.2.1 (F (F (F a 1) 0) 0)) ((G.1 (F (F a 1) 0) 1).toInt)) ((G.1 (F (F a 1) 0) 1).toInt) ∧ (G.1 a 18).toInt ≠ 0 ∧ x54.toInt = -3 ∧ (G113.2.2.1 (F (F a 2) 0) = G.2.2.1 (F (F a 2) 0) ∧ G113.2.2.1 (F (F a 2) 1) = G.2.2.1 (F (F a 2) 1) ∧ G113.1 (F a 2) 2 = G.1 (F a 2) 2)) ∨ (rOk (tC (G.2.1 (F (F (F a 1) 0) 0)) ((G.1 (F (F a 1) 0) 1).toInt)) ((G.1 (F (F a 1) 0) 1).toInt) ∧ (G.1 a 18).toInt = 0 ∧ (∀ i : Nat, i < 12 → G.2.2.1 (F (F a 2) 0) i ≠ none) ∧ x54.toInt = -4 ∧ (G113.2.2.1 (F (F a 2) 0) = G.2.2.1 (F (F a 2) 0) ∧ G113.2.2.1 (F (F a 2) 1) = G.2.2.1 (F (F a 2) 1) ∧ G113.1 (F a 2) 2 = G.1 (F a 2) 2)) ∨ (rOk (tC (G.2.1 (F (F (F a 1) 0) 0)) ((G.1 (F (F a 1) 0) 1).toInt)) ((G.1 (F (F a 1) 0) 1).toInt) ∧ (G.1 a 18).toInt = 0 ∧ (0 ≤ (G113.1 q11 1).toInt ∧ (G113.1 q11 1).toInt ≤ 11) ∧ G.2.2.1 (F (F a 2) 0) ((G113.1 q11 1).toInt).toNat = none ∧ (∀ i : Nat, (i : Int) < (G113.1 q11 1).toInt → G.2.2.1 (F (F a 2) 0) i ≠ none) ∧ ((G113.1 q11 0).toInt = (rS1 (tC (G.2.1 (F (F (F a 1) 0) 0)) ((G.1 (F (F a 1) 0) 1).toInt))).1 ∧ (G113.1 q11 2).toInt = (rS2 (tC (G.2.1 (F (F (F a 1) 0) 0)) ((G.1 (F (F a 1) 0) 1).toInt))).1 ∧ (G113.1 q11 3).toInt = (rS3 (tC (G.2.1 (F (F (F a 1) 0) 0)) ((G.1 (F (F a 1) 0) 1).toInt))).1 ∧ (G113.1 q11 4).toInt = (rS4 (tC (G.2.1 (F (F (F a 1) 0) 0)) ((G.1 (F (F a 1) 0) 1).toInt))).1 ∧ (G113.1 q11 5).toInt = (rS5 (tC (G.2.1 (F (F (F a 1) 0) 0)) ((G.1 (F (F a 1) 0) 1).toInt))).1 ∧ (G113.1 q11 6).toInt = (rS6 (tC (G.2.1 (F (F (F a 1) 0) 0)) ((G.1 (F (F a 1) 0) 1).toInt))).1 ∧ (G113.1 q11 7).toInt = (rS7 (tC (G.2.1 (F (F (F a 1) 0) 0)) ((G.1 (F (F a 1) 0) 1).toInt))).1 ∧ (G113.1 q11 8).toInt = (rS9 (tC (G.2.1 (F (F (F a 1) 0) 0)) ((G.1 (F (F a 1) 0) 1).toInt))).1 ∧ (G113.1 q11 9).toInt = (rS8 (tC (G.2.1 (F (F (F a 1) 0) 0)) ((G.1 (F (F a 1) 0) 1).toInt))).1) ∧ ((ffL (uqs (vw (G.2.1 (F (F a 6) 0))) (vw (G.2.1 (F (F a 3) 0))) (G113.1 q11)) ≠ -1 ∧ x54.toInt = -5 ∧ (G113.2.2.1 (F (F a 2) 0) = G.2.2.1 (F (F a 2) 0) ∧ G113.2.2.1 (F (F a 2) 1) = G.2.2.1 (F (F a 2) 1) ∧ G113.1 (F a 2) 2 = G.1 (F a 2) 2)) ∨ (ffL (uqs (vw (G.2.1 (F (F a 6) 0))) (vw (G.2.1 (F (F a 3) 0))) (G113.1 q11)) = -1 ∧ x54.toInt = (G113.1 q11 1).toInt ∧ (∀ i : Nat, G113.2.2.1 (F (F a 2) 0) i = if i = ((G113.1 q11 1).toInt).toNat then some q11 else G.2.2.1 (F (F a 2) 0) i) ∧ BO G113 F (F a 2)))) := by
  obtain ⟨f1, f0, f2, f3, f4, f5, f6, f7, f9, f8⟩ := hf11
  have lf := oq54
  rw [r_G20_F_F_a_2_0] at lf
  have kk : (G113.1 q11 1).toInt = x54.toInt := by rw [D_G113_q11, d_G68_q11_1]
  rcases lf with ⟨h1, -⟩ | ⟨h1, h2, h3⟩
  · exfalso; omega
  · refine Or.inr (Or.inr (Or.inr ⟨hs11, by omega, by omega, by rw [kk]; exact h2, fun i hi => h3 i (by rw [← kk]; exact hi), ⟨(by rw [D_G113_q11, d_G68_q11_0]; exact f0), (by rw [D_G113_q11, d_G68_q11_2]; exact f2), (by rw [D_G113_q11, d_G68_q11_3]; exact f3), (by rw [D_G113_q11, d_G68_q11_4]; exact f4), (by rw [D_G113_q11, d_G68_q11_5]; exact f5), (by rw [D_G113_q11, d_G68_q11_6]; exact f6), (by rw [D_G113_q11, d_G68_q11_7]; exact f7), (by rw [D_G113_q11, d_G68_q11_8]; exact f8), (by rw [D_G113_q11, d_G68_q11_9]; exact f9)⟩, ?_⟩))
    have e9 : G113.1 q11 = G68.1 q11 := D_G113_q11
    rw [e9]
    have ff : x73.toInt = ffL (uqs (vw (G.2.1 (F (F a 6) 0))) (vw (G.2.1 (F (F a 3) 0))) (G68.1 q11)) := by rw [← oq73a]; exact oq73
    refine Or.inr ⟨by omega, by rw [d_G68_q11_1], fun i => ?_, oq113a⟩
    rw [oq113 i, r_G73_F_F_a_2_0]
    rw [show (G73.1 q11 1) = x54 from by rw [D_G73_q11, d_G68_q11_1], d_G68_q11_1]
theorem v_X10_rule_117_9 {F : Nat → Nat → Nat} (G113 : XG) (a : Nat) (G73 : XG) (G : XG)
    (oq113b : ∀ (i q : Nat), G113.2.2.1 (F (F a 2) 1) i = some q → (∃ j : Nat, G73.2.2.1 (F (F a 2) 1) j = some q) ∨ ∃ j : Nat, G113.2.2.1 (F (F a 2) 0) j = some q)
    (r_G73_F_F_a_2_1 : G73.2.2.1 (F (F a 2) 1) = G.2.2.1 (F (F a 2) 1)) :
    ∀ (i p : Nat), G113.2.2.1 (F (F a 2) 1) i = some p → (∃ j : Nat, G.2.2.1 (F (F a 2) 1) j = some p) ∨ ∃ j : Nat, G113.2.2.1 (F (F a 2) 0) j = some p := by
  intro i p h
  rcases oq113b i p h with ⟨j, e⟩ | ⟨j, e⟩
  · exact Or.inl ⟨j, by rw [← r_G73_F_F_a_2_1]; exact e⟩
  · exact Or.inr ⟨j, e⟩
theorem v_X10_rule_107_10 {F : Nat → Nat → Nat} (G : XG) (a : Nat) (x20 : Int32) (G20 : XG) (G102 : XG)
    (n1 : 0 ≤ ((G.1 (F a 0) 1).toInt))
    (t20 : (((0 : Int) < 0 ∨ ((G.1 (F a 0) 1).toInt) < (0 : Int)) ∧ x20.toInt = 0 ∧ ((G20.1 (F a 0) 1).toInt) = ((G.1 (F a 0) 1).toInt)) ∨ ((0 ≤ (0 : Int) ∧ (0 : Int) ≤ ((G.1 (F a 0) 1).toInt)) ∧ x20.toInt = 1 ∧ ((G20.1 (F a 0) 1).toInt) = (0 : Int)))
    (d_G102_F_a_0_1 : G102.1 (F a 0) 1 = G20.1 (F a 0) 1) :
    (G102.1 (F a 0) 1).toInt = 0 := by
  rw [d_G102_F_a_0_1]
  omega
theorem v_X10_rule_107_11 {F : Nat → Nat → Nat} (G : XG) (a : Nat) (G11 : XG) (q11 : Nat) (x54 : Int32) (G20 : XG) (x73 : Int32) (G73 : XG) (G68 : XG) (G102 : XG)
    (hs11 : rOk (tC (G.2.1 (F (F (F a 1) 0) 0)) ((G.1 (F (F a 1) 0) 1).toInt)) ((G.1 (F (F a 1) 0) 1).toInt))
    (hf11 : (G11.1 q11 1).toInt = -1 ∧ (G11.1 q11 0).toInt = (rS1 (tC (G.2.1 (F (F (F a 1) 0) 0)) ((G.1 (F (F a 1) 0) 1).toInt))).1 ∧ (G11.1 q11 2).toInt = (rS2 (tC (G.2.1 (F (F (F a 1) 0) 0)) ((G.1 (F (F a 1) 0) 1).toInt))).1 ∧ (G11.1 q11 3).toInt = (rS3 (tC (G.2.1 (F (F (F a 1) 0) 0)) ((G.1 (F (F a 1) 0) 1).toInt))).1 ∧ (G11.1 q11 4).toInt = (rS4 (tC (G.2.1 (F (F (F a 1) 0) 0)) ((G.1 (F (F a 1) 0) 1).toInt))).1 ∧ (G11.1 q11 5).toInt = (rS5 (tC (G.2.1 (F (F (F a 1) 0) 0)) ((G.1 (F (F a 1) 0) 1).toInt))).1 ∧ (G11.1 q11 6).toInt = (rS6 (tC (G.2.1 (F (F (F a 1) 0) 0)) ((G.1 (F (F a 1) 0) 1).toInt))).1 ∧ (G11.1 q11 7).toInt = (rS7 (tC (G.2.1 (F (F (F a 1) 0) 0)) ((G.1 (F (F a 1) 0) 1).toInt))).1 ∧ (G11.1 q11 9).toInt = (rS8 (tC (G.2.1 (F (F (F a 1) 0) 0)) ((G.1 (F (F a 1) 0) 1).toInt))).1 ∧ (G11.1 q11 8).toInt = (rS9 (tC (G.2.1 (F (F (F a 1) 0) 0)) ((G.1 (F (F a 1) 0) 1).toInt))).1)
    (oq54 : (x54.toInt = -1 ∧ ∀ i : Nat, i < 12 → G20.2.2.1 (F (F a 2) 0) i ≠ none) ∨ (0 ≤ x54.toInt ∧ G20.2.2.1 (F (F a 2) 0) (x54.toInt).toNat = none ∧ ∀ i : Nat, (i : Int) < x54.toInt → G20.2.2.1 (F (F a 2) 0) i ≠ none))
    (oq73 : x73.toInt = ffL (qL G73 F (F a 9)))
    (oq73a : qL G73 F (F a 9) = uqs (vw (G.2.1 (F (F a 6) 0))) (vw (G.2.1 (F (F a 3) 0))) (G68.1 q11))
    (c44 : ((G.1 a 18).toInt) = 0)
    (t54 : -1 ≤ x54.toInt ∧ x54.toInt ≤ 11)
    (c60 : x54.toInt ≠ (-1 : Int))
    (t73 : -1 ≤ x73.toInt)
    (c79 : ¬ (x73.toInt = (-1 : Int)))
    (r_G102_F_F_a_2_0 : G102.2.2.1 (F (F a 2) 0) = G.2.2.1 (F (F a 2) 0))
    (r_G102_F_F_a_2_1 : G102.2.2.1 (F (F a 2) 1) = G.2.2.1 (F (F a 2) 1))
    (r_G20_F_F_a_2_0 : G20.2.2.1 (F (F a 2) 0) = G.2.2.1 (F (F a 2) 0))
    (D_G102_q11 : G102.1 q11 = G68.1 q11)
    (d_G102_F_a_2_2 : G102.1 (F a 2) 2 = G.1 (F a 2) 2)
    (d_G68_q11_0 : G68.1 q11 0 = G11.1 q11 0)
    (d_G68_q11_1 : G68.1 q11 1 = x54)
    (d_G68_q11_2 : G68.1 q11 2 = G11.1 q11 2)
    (d_G68_q11_3 : G68.1 q11 3 = G11.1 q11 3)
    (d_G68_q11_4 : G68.1 q11 4 = G11.1 q11 4)
    (d_G68_q11_5 : G68.1 q11 5 = G11.1 q11 5)
    (d_G68_q11_6 : G68.1 q11 6 = G11.1 q11 6)
    (d_G68_q11_7 : G68.1 q11 7 = G11.1 q11 7)
    (d_G68_q11_8 : G68.1 q11 8 = G11.1 q11 8)
    (d_G68_q11_9 : G68.1 q11 9 = G11.1 q11 9) :
    (¬ rOk (tC (G.2.1 (F (F (F a 1) 0) 0)) ((G.1 (F (F a 1) 0) 1).toInt)) ((G.1 (F (F a 1) 0) 1).toInt) ∧ (-5 : Int) = -1000 - (rS9 (tC (G.2.1 (F (F (F a 1) 0) 0)) ((G.1 (F (F a 1) 0) 1).toInt))).2.2 ∧ (G102.2.2.1 (F (F a 2) 0) = G.2.2.1 (F (F a 2) 0) ∧ G102.2.2.1 (F (F a 2) 1) = G.2.2.1 (F (F a 2) 1) ∧ G102.1 (F a 2) 2 = G.1 (F a 2) 2)) ∨ (rOk (tC (G.2.1 (F (F (F a 1) 0) 0)) ((G.1 (F (F a 1) 0) 1).toInt)) ((G.1 (F (F a 1) 0) 1).toInt) ∧ (G.1 a 18).toInt ≠ 0 ∧ (-5 : Int) = -3 ∧ (G102.2.2.1 (F (F a 2) 0) = G.2.2.1 (F (F a 2) 0) ∧ G102.2.2.1 (F (F a 2) 1) = G.2.2.1 (F (F a 2) 1) ∧ G102.1 (F a 2) 2 = G.1 (F a 2) 2)) ∨ (rOk (tC (G.2.1 (F (F (F a 1) 0) 0)) ((G.1 (F (F a 1) 0) 1).toInt)) ((G.1 (F (F a 1) 0) 1).toInt) ∧ (G.1 a 18).toInt = 0 ∧ (∀ i : Nat, i < 12 → G.2.2.1 (F (F a 2) 0) i ≠ none) ∧ (-5 : Int) = -4 ∧ (G102.2.2.1 (F (F a 2) 0) = G.2.2.1 (F (F a 2) 0) ∧ G102.2.2.1 (F (F a 2) 1) = G.2.2.1 (F (F a 2) 1) ∧ G102.1 (F a 2) 2 = G.1 (F a 2) 2)) ∨ (rOk (tC (G.2.1 (F (F (F a 1) 0) 0)) ((G.1 (F (F a 1) 0) 1).toInt)) ((G.1 (F (F a 1) 0) 1).toInt) ∧ (G.1 a 18).toInt = 0 ∧ (0 ≤ (G102.1 q11 1).toInt ∧ (G102.1 q11 1).toInt ≤ 11) ∧ G.2.2.1 (F (F a 2) 0) ((G102.1 q11 1).toInt).toNat = none ∧ (∀ i : Nat, (i : Int) < (G102.1 q11 1).toInt → G.2.2.1 (F (F a 2) 0) i ≠ none) ∧ ((G102.1 q11 0).toInt = (rS1 (tC (G.2.1 (F (F (F a 1) 0) 0)) ((G.1 (F (F a 1) 0) 1).toInt))).1 ∧ (G102.1 q11 2).toInt = (rS2 (tC (G.2.1 (F (F (F a 1) 0) 0)) ((G.1 (F (F a 1) 0) 1).toInt))).1 ∧ (G102.1 q11 3).toInt = (rS3 (tC (G.2.1 (F (F (F a 1) 0) 0)) ((G.1 (F (F a 1) 0) 1).toInt))).1 ∧ (G102.1 q11 4).toInt = (rS4 (tC (G.2.1 (F (F (F a 1) 0) 0)) ((G.1 (F (F a 1) 0) 1).toInt))).1 ∧ (G102.1 q11 5).toInt = (rS5 (tC (G.2.1 (F (F (F a 1) 0) 0)) ((G.1 (F (F a 1) 0) 1).toInt))).1 ∧ (G102.1 q11 6).toInt = (rS6 (tC (G.2.1 (F (F (F a 1) 0) 0)) ((G.1 (F (F a 1) 0) 1).toInt))).1 ∧ (G102.1 q11 7).toInt = (rS7 (tC (G.2.1 (F (F (F a 1) 0) 0)) ((G.1 (F (F a 1) 0) 1).toInt))).1 ∧ (G102.1 q11 8).toInt = (rS9 (tC (G.2.1 (F (F (F a 1) 0) 0)) ((G.1 (F (F a 1) 0) 1).toInt))).1 ∧ (G102.1 q11 9).toInt = (rS8 (tC (G.2.1 (F (F (F a 1) 0) 0)) ((G.1 (F (F a 1) 0) 1).toInt))).1) ∧ ((ffL (uqs (vw (G.2.1 (F (F a 6) 0))) (vw (G.2.1 (F (F a 3) 0))) (G102.1 q11)) ≠ -1 ∧ (-5 : Int) = -5 ∧ (G102.2.2.1 (F (F a 2) 0) = G.2.2.1 (F (F a 2) 0) ∧ G102.2.2.1 (F (F a 2) 1) = G.2.2.1 (F (F a 2) 1) ∧ G102.1 (F a 2) 2 = G.1 (F a 2) 2)) ∨ (ffL (uqs (vw (G.2.1 (F (F a 6) 0))) (vw (G.2.1 (F (F a 3) 0))) (G102.1 q11)) = -1 ∧ (-5 : Int) = (G102.1 q11 1).toInt ∧ (∀ i : Nat, G102.2.2.1 (F (F a 2) 0) i = if i = ((G102.1 q11 1).toInt).toNat then some q11 else G.2.2.1 (F (F a 2) 0) i) ∧ BO G102 F (F a 2)))) := by
  obtain ⟨f1, f0, f2, f3, f4, f5, f6, f7, f9, f8⟩ := hf11
  have lf := oq54
  rw [r_G20_F_F_a_2_0] at lf
  have kk : (G102.1 q11 1).toInt = x54.toInt := by rw [D_G102_q11, d_G68_q11_1]
  rcases lf with ⟨h1, -⟩ | ⟨h1, h2, h3⟩
  · exfalso; omega
  · refine Or.inr (Or.inr (Or.inr ⟨hs11, by omega, by omega, by rw [kk]; exact h2, fun i hi => h3 i (by rw [← kk]; exact hi), ⟨(by rw [D_G102_q11, d_G68_q11_0]; exact f0), (by rw [D_G102_q11, d_G68_q11_2]; exact f2), (by rw [D_G102_q11, d_G68_q11_3]; exact f3), (by rw [D_G102_q11, d_G68_q11_4]; exact f4), (by rw [D_G102_q11, d_G68_q11_5]; exact f5), (by rw [D_G102_q11, d_G68_q11_6]; exact f6), (by rw [D_G102_q11, d_G68_q11_7]; exact f7), (by rw [D_G102_q11, d_G68_q11_8]; exact f8), (by rw [D_G102_q11, d_G68_q11_9]; exact f9)⟩, ?_⟩))
    have e9 : G102.1 q11 = G68.1 q11 := D_G102_q11
    rw [e9]
    have ff : x73.toInt = ffL (uqs (vw (G.2.1 (F (F a 6) 0))) (vw (G.2.1 (F (F a 3) 0))) (G68.1 q11)) := by rw [← oq73a]; exact oq73
    exact Or.inl ⟨by omega, by omega, ⟨r_G102_F_F_a_2_0, r_G102_F_F_a_2_1, d_G102_F_a_2_2⟩⟩
theorem v_X10_rule_107_12 {F : Nat → Nat → Nat} (G102 : XG) (a : Nat) (G : XG)
    (r_G102_F_F_a_2_1 : G102.2.2.1 (F (F a 2) 1) = G.2.2.1 (F (F a 2) 1)) :
    ∀ (i p : Nat), G102.2.2.1 (F (F a 2) 1) i = some p → (∃ j : Nat, G.2.2.1 (F (F a 2) 1) j = some p) ∨ ∃ j : Nat, G102.2.2.1 (F (F a 2) 0) j = some p := by
  intro i p h
  rw [r_G102_F_F_a_2_1] at h
  exact Or.inl ⟨i, h⟩
theorem v_X10_rule_65_13 {F : Nat → Nat → Nat} (G : XG) (a : Nat) (x20 : Int32) (G20 : XG)
    (n1 : 0 ≤ ((G.1 (F a 0) 1).toInt))
    (t20 : (((0 : Int) < 0 ∨ ((G.1 (F a 0) 1).toInt) < (0 : Int)) ∧ x20.toInt = 0 ∧ ((G20.1 (F a 0) 1).toInt) = ((G.1 (F a 0) 1).toInt)) ∨ ((0 ≤ (0 : Int) ∧ (0 : Int) ≤ ((G.1 (F a 0) 1).toInt)) ∧ x20.toInt = 1 ∧ ((G20.1 (F a 0) 1).toInt) = (0 : Int))) :
    (G20.1 (F a 0) 1).toInt = 0 := by
  omega
theorem v_X10_rule_65_14 {F : Nat → Nat → Nat} (G : XG) (a : Nat) (x54 : Int32) (G20 : XG) (q11 : Nat)
    (hs11 : rOk (tC (G.2.1 (F (F (F a 1) 0) 0)) ((G.1 (F (F a 1) 0) 1).toInt)) ((G.1 (F (F a 1) 0) 1).toInt))
    (oq54 : (x54.toInt = -1 ∧ ∀ i : Nat, i < 12 → G20.2.2.1 (F (F a 2) 0) i ≠ none) ∨ (0 ≤ x54.toInt ∧ G20.2.2.1 (F (F a 2) 0) (x54.toInt).toNat = none ∧ ∀ i : Nat, (i : Int) < x54.toInt → G20.2.2.1 (F (F a 2) 0) i ≠ none))
    (c44 : ((G.1 a 18).toInt) = 0)
    (t54 : -1 ≤ x54.toInt ∧ x54.toInt ≤ 11)
    (c60 : ¬ (x54.toInt ≠ (-1 : Int)))
    (r_G20_F_F_a_2_0 : G20.2.2.1 (F (F a 2) 0) = G.2.2.1 (F (F a 2) 0))
    (r_G20_F_F_a_2_1 : G20.2.2.1 (F (F a 2) 1) = G.2.2.1 (F (F a 2) 1))
    (d_G20_F_a_2_2 : G20.1 (F a 2) 2 = G.1 (F a 2) 2) :
    (¬ rOk (tC (G.2.1 (F (F (F a 1) 0) 0)) ((G.1 (F (F a 1) 0) 1).toInt)) ((G.1 (F (F a 1) 0) 1).toInt) ∧ (-4 : Int) = -1000 - (rS9 (tC (G.2.1 (F (F (F a 1) 0) 0)) ((G.1 (F (F a 1) 0) 1).toInt))).2.2 ∧ (G20.2.2.1 (F (F a 2) 0) = G.2.2.1 (F (F a 2) 0) ∧ G20.2.2.1 (F (F a 2) 1) = G.2.2.1 (F (F a 2) 1) ∧ G20.1 (F a 2) 2 = G.1 (F a 2) 2)) ∨ (rOk (tC (G.2.1 (F (F (F a 1) 0) 0)) ((G.1 (F (F a 1) 0) 1).toInt)) ((G.1 (F (F a 1) 0) 1).toInt) ∧ (G.1 a 18).toInt ≠ 0 ∧ (-4 : Int) = -3 ∧ (G20.2.2.1 (F (F a 2) 0) = G.2.2.1 (F (F a 2) 0) ∧ G20.2.2.1 (F (F a 2) 1) = G.2.2.1 (F (F a 2) 1) ∧ G20.1 (F a 2) 2 = G.1 (F a 2) 2)) ∨ (rOk (tC (G.2.1 (F (F (F a 1) 0) 0)) ((G.1 (F (F a 1) 0) 1).toInt)) ((G.1 (F (F a 1) 0) 1).toInt) ∧ (G.1 a 18).toInt = 0 ∧ (∀ i : Nat, i < 12 → G.2.2.1 (F (F a 2) 0) i ≠ none) ∧ (-4 : Int) = -4 ∧ (G20.2.2.1 (F (F a 2) 0) = G.2.2.1 (F (F a 2) 0) ∧ G20.2.2.1 (F (F a 2) 1) = G.2.2.1 (F (F a 2) 1) ∧ G20.1 (F a 2) 2 = G.1 (F a 2) 2)) ∨ (rOk (tC (G.2.1 (F (F (F a 1) 0) 0)) ((G.1 (F (F a 1) 0) 1).toInt)) ((G.1 (F (F a 1) 0) 1).toInt) ∧ (G.1 a 18).toInt = 0 ∧ (0 ≤ (G20.1 q11 1).toInt ∧ (G20.1 q11 1).toInt ≤ 11) ∧ G.2.2.1 (F (F a 2) 0) ((G20.1 q11 1).toInt).toNat = none ∧ (∀ i : Nat, (i : Int) < (G20.1 q11 1).toInt → G.2.2.1 (F (F a 2) 0) i ≠ none) ∧ ((G20.1 q11 0).toInt = (rS1 (tC (G.2.1 (F (F (F a 1) 0) 0)) ((G.1 (F (F a 1) 0) 1).toInt))).1 ∧ (G20.1 q11 2).toInt = (rS2 (tC (G.2.1 (F (F (F a 1) 0) 0)) ((G.1 (F (F a 1) 0) 1).toInt))).1 ∧ (G20.1 q11 3).toInt = (rS3 (tC (G.2.1 (F (F (F a 1) 0) 0)) ((G.1 (F (F a 1) 0) 1).toInt))).1 ∧ (G20.1 q11 4).toInt = (rS4 (tC (G.2.1 (F (F (F a 1) 0) 0)) ((G.1 (F (F a 1) 0) 1).toInt))).1 ∧ (G20.1 q11 5).toInt = (rS5 (tC (G.2.1 (F (F (F a 1) 0) 0)) ((G.1 (F (F a 1) 0) 1).toInt))).1 ∧ (G20.1 q11 6).toInt = (rS6 (tC (G.2.1 (F (F (F a 1) 0) 0)) ((G.1 (F (F a 1) 0) 1).toInt))).1 ∧ (G20.1 q11 7).toInt = (rS7 (tC (G.2.1 (F (F (F a 1) 0) 0)) ((G.1 (F (F a 1) 0) 1).toInt))).1 ∧ (G20.1 q11 8).toInt = (rS9 (tC (G.2.1 (F (F (F a 1) 0) 0)) ((G.1 (F (F a 1) 0) 1).toInt))).1 ∧ (G20.1 q11 9).toInt = (rS8 (tC (G.2.1 (F (F (F a 1) 0) 0)) ((G.1 (F (F a 1) 0) 1).toInt))).1) ∧ ((ffL (uqs (vw (G.2.1 (F (F a 6) 0))) (vw (G.2.1 (F (F a 3) 0))) (G20.1 q11)) ≠ -1 ∧ (-4 : Int) = -5 ∧ (G20.2.2.1 (F (F a 2) 0) = G.2.2.1 (F (F a 2) 0) ∧ G20.2.2.1 (F (F a 2) 1) = G.2.2.1 (F (F a 2) 1) ∧ G20.1 (F a 2) 2 = G.1 (F a 2) 2)) ∨ (ffL (uqs (vw (G.2.1 (F (F a 6) 0))) (vw (G.2.1 (F (F a 3) 0))) (G20.1 q11)) = -1 ∧ (-4 : Int) = (G20.1 q11 1).toInt ∧ (∀ i : Nat, G20.2.2.1 (F (F a 2) 0) i = if i = ((G20.1 q11 1).toInt).toNat then some q11 else G.2.2.1 (F (F a 2) 0) i) ∧ BO G20 F (F a 2)))) := by
  have lf := oq54
  rw [r_G20_F_F_a_2_0] at lf
  rcases lf with ⟨h1, h2⟩ | ⟨h1, h2⟩
  · exact Or.inr (Or.inr (Or.inl ⟨hs11, by omega, h2, by omega, ⟨r_G20_F_F_a_2_0, r_G20_F_F_a_2_1, d_G20_F_a_2_2⟩⟩))
  · exfalso; omega
theorem v_X10_rule_65_15 {F : Nat → Nat → Nat} (G20 : XG) (a : Nat) (G : XG)
    (r_G20_F_F_a_2_1 : G20.2.2.1 (F (F a 2) 1) = G.2.2.1 (F (F a 2) 1)) :
    ∀ (i p : Nat), G20.2.2.1 (F (F a 2) 1) i = some p → (∃ j : Nat, G.2.2.1 (F (F a 2) 1) j = some p) ∨ ∃ j : Nat, G20.2.2.1 (F (F a 2) 0) j = some p := by
  intro i p h
  rw [r_G20_F_F_a_2_1] at h
  exact Or.inl ⟨i, h⟩
theorem v_X10_rule_49_16 {F : Nat → Nat → Nat} (G : XG) (a : Nat) (x20 : Int32) (G20 : XG)
    (n1 : 0 ≤ ((G.1 (F a 0) 1).toInt))
    (t20 : (((0 : Int) < 0 ∨ ((G.1 (F a 0) 1).toInt) < (0 : Int)) ∧ x20.toInt = 0 ∧ ((G20.1 (F a 0) 1).toInt) = ((G.1 (F a 0) 1).toInt)) ∨ ((0 ≤ (0 : Int) ∧ (0 : Int) ≤ ((G.1 (F a 0) 1).toInt)) ∧ x20.toInt = 1 ∧ ((G20.1 (F a 0) 1).toInt) = (0 : Int))) :
    (G20.1 (F a 0) 1).toInt = 0 := by
  omega
theorem v_X10_rule_49_17 {F : Nat → Nat → Nat} (G : XG) (a : Nat) (G20 : XG) (q11 : Nat)
    (hs11 : rOk (tC (G.2.1 (F (F (F a 1) 0) 0)) ((G.1 (F (F a 1) 0) 1).toInt)) ((G.1 (F (F a 1) 0) 1).toInt))
    (c44 : ¬ (((G.1 a 18).toInt) = 0))
    (r_G20_F_F_a_2_0 : G20.2.2.1 (F (F a 2) 0) = G.2.2.1 (F (F a 2) 0))
    (r_G20_F_F_a_2_1 : G20.2.2.1 (F (F a 2) 1) = G.2.2.1 (F (F a 2) 1))
    (d_G20_F_a_2_2 : G20.1 (F a 2) 2 = G.1 (F a 2) 2) :
    (¬ rOk (tC (G.2.1 (F (F (F a 1) 0) 0)) ((G.1 (F (F a 1) 0) 1).toInt)) ((G.1 (F (F a 1) 0) 1).toInt) ∧ (-3 : Int) = -1000 - (rS9 (tC (G.2.1 (F (F (F a 1) 0) 0)) ((G.1 (F (F a 1) 0) 1).toInt))).2.2 ∧ (G20.2.2.1 (F (F a 2) 0) = G.2.2.1 (F (F a 2) 0) ∧ G20.2.2.1 (F (F a 2) 1) = G.2.2.1 (F (F a 2) 1) ∧ G20.1 (F a 2) 2 = G.1 (F a 2) 2)) ∨ (rOk (tC (G.2.1 (F (F (F a 1) 0) 0)) ((G.1 (F (F a 1) 0) 1).toInt)) ((G.1 (F (F a 1) 0) 1).toInt) ∧ (G.1 a 18).toInt ≠ 0 ∧ (-3 : Int) = -3 ∧ (G20.2.2.1 (F (F a 2) 0) = G.2.2.1 (F (F a 2) 0) ∧ G20.2.2.1 (F (F a 2) 1) = G.2.2.1 (F (F a 2) 1) ∧ G20.1 (F a 2) 2 = G.1 (F a 2) 2)) ∨ (rOk (tC (G.2.1 (F (F (F a 1) 0) 0)) ((G.1 (F (F a 1) 0) 1).toInt)) ((G.1 (F (F a 1) 0) 1).toInt) ∧ (G.1 a 18).toInt = 0 ∧ (∀ i : Nat, i < 12 → G.2.2.1 (F (F a 2) 0) i ≠ none) ∧ (-3 : Int) = -4 ∧ (G20.2.2.1 (F (F a 2) 0) = G.2.2.1 (F (F a 2) 0) ∧ G20.2.2.1 (F (F a 2) 1) = G.2.2.1 (F (F a 2) 1) ∧ G20.1 (F a 2) 2 = G.1 (F a 2) 2)) ∨ (rOk (tC (G.2.1 (F (F (F a 1) 0) 0)) ((G.1 (F (F a 1) 0) 1).toInt)) ((G.1 (F (F a 1) 0) 1).toInt) ∧ (G.1 a 18).toInt = 0 ∧ (0 ≤ (G20.1 q11 1).toInt ∧ (G20.1 q11 1).toInt ≤ 11) ∧ G.2.2.1 (F (F a 2) 0) ((G20.1 q11 1).toInt).toNat = none ∧ (∀ i : Nat, (i : Int) < (G20.1 q11 1).toInt → G.2.2.1 (F (F a 2) 0) i ≠ none) ∧ ((G20.1 q11 0).toInt = (rS1 (tC (G.2.1 (F (F (F a 1) 0) 0)) ((G.1 (F (F a 1) 0) 1).toInt))).1 ∧ (G20.1 q11 2).toInt = (rS2 (tC (G.2.1 (F (F (F a 1) 0) 0)) ((G.1 (F (F a 1) 0) 1).toInt))).1 ∧ (G20.1 q11 3).toInt = (rS3 (tC (G.2.1 (F (F (F a 1) 0) 0)) ((G.1 (F (F a 1) 0) 1).toInt))).1 ∧ (G20.1 q11 4).toInt = (rS4 (tC (G.2.1 (F (F (F a 1) 0) 0)) ((G.1 (F (F a 1) 0) 1).toInt))).1 ∧ (G20.1 q11 5).toInt = (rS5 (tC (G.2.1 (F (F (F a 1) 0) 0)) ((G.1 (F (F a 1) 0) 1).toInt))).1 ∧ (G20.1 q11 6).toInt = (rS6 (tC (G.2.1 (F (F (F a 1) 0) 0)) ((G.1 (F (F a 1) 0) 1).toInt))).1 ∧ (G20.1 q11 7).toInt = (rS7 (tC (G.2.1 (F (F (F a 1) 0) 0)) ((G.1 (F (F a 1) 0) 1).toInt))).1 ∧ (G20.1 q11 8).toInt = (rS9 (tC (G.2.1 (F (F (F a 1) 0) 0)) ((G.1 (F (F a 1) 0) 1).toInt))).1 ∧ (G20.1 q11 9).toInt = (rS8 (tC (G.2.1 (F (F (F a 1) 0) 0)) ((G.1 (F (F a 1) 0) 1).toInt))).1) ∧ ((ffL (uqs (vw (G.2.1 (F (F a 6) 0))) (vw (G.2.1 (F (F a 3) 0))) (G20.1 q11)) ≠ -1 ∧ (-3 : Int) = -5 ∧ (G20.2.2.1 (F (F a 2) 0) = G.2.2.1 (F (F a 2) 0) ∧ G20.2.2.1 (F (F a 2) 1) = G.2.2.1 (F (F a 2) 1) ∧ G20.1 (F a 2) 2 = G.1 (F a 2) 2)) ∨ (ffL (uqs (vw (G.2.1 (F (F a 6) 0))) (vw (G.2.1 (F (F a 3) 0))) (G20.1 q11)) = -1 ∧ (-3 : Int) = (G20.1 q11 1).toInt ∧ (∀ i : Nat, G20.2.2.1 (F (F a 2) 0) i = if i = ((G20.1 q11 1).toInt).toNat then some q11 else G.2.2.1 (F (F a 2) 0) i) ∧ BO G20 F (F a 2)))) := by
  exact Or.inr (Or.inl ⟨hs11, by omega, by omega, ⟨r_G20_F_F_a_2_0, r_G20_F_F_a_2_1, d_G20_F_a_2_2⟩⟩)
theorem v_X10_rule_49_18 {F : Nat → Nat → Nat} (G20 : XG) (a : Nat) (G : XG)
    (r_G20_F_F_a_2_1 : G20.2.2.1 (F (F a 2) 1) = G.2.2.1 (F (F a 2) 1)) :
    ∀ (i p : Nat), G20.2.2.1 (F (F a 2) 1) i = some p → (∃ j : Nat, G.2.2.1 (F (F a 2) 1) j = some p) ∨ ∃ j : Nat, G20.2.2.1 (F (F a 2) 0) j = some p := by
  intro i p h
  rw [r_G20_F_F_a_2_1] at h
  exact Or.inl ⟨i, h⟩
theorem z_X10_rule_2 (a0 : Int) (h0 : -1 ≤ a0 ∧ a0 ≤ 11) (h1 : a0 ≠ (-1 : Int)) : 0 ≤ a0 ∧ a0 ≤ 11 := by omega
abbrev rm_X10_rule : Room := { frames := 7, cells := 9, slots := 810, locals := 171 }
set_option maxHeartbeats 4000000 in
set_option maxRecDepth 100000 in
theorem c_X10_rule (l : Launch) (E : XE) (K : Nat → Nat) (F : Nat → Nat → Nat) (G : XG) (a : Nat) (ha : K a = 12) (n0 : 0 ≤ ((G.1 (F (F a 1) 0) 1).toInt) ∧ ((G.1 (F (F a 1) 0) 1).toInt) ≤ 80) (n1 : 0 ≤ ((G.1 (F a 0) 1).toInt)) (ro0 : RO (vw (G.2.1 (F (F a 6) 0))) (aI (G.2.1 (F (F a 6) 1)))) (ron : RO (vw (G.2.1 (F (F a 3) 0))) (aI (G.2.1 (F (F a 3) 1)))) : Met l yX10_rule (xw yX10_rule cX10_rule 4 (some .int)) rm_X10_rule (va_Pc [.ref a] (XP E K F G)) (XQ E (fun v (u : (Nat → Nat) × XG) => ∃ r : Int32, v = .int r ∧ ∃ q : Nat, K q = 0 ∧ u.1 q = 9 ∧ KM K u.1 ∧ XFr [(F a 14, 1), (F a 14, 2), (F a 14, 3), (F a 1, 1), (F a 1, 2), (F a 1, 3), (F a 1, 4), (F a 1, 5), (q, 0), (q, 1), (q, 2), (q, 3), (q, 4), (q, 5), (q, 6), (q, 7), (q, 8), (q, 9), (F a 0, 1), (F a 11, 3), (F a 9, 6), (F a 2, 2)] [F (F a 11) 0, F (F a 11) 1, F (F a 11) 2, F (F a 9) 0, F (F a 9) 1, F (F a 9) 2, F (F a 9) 3, F (F a 9) 4, F (F a 9) 5] [F (F a 2) 0, F (F a 2) 1] G u.2 ∧ (u.2.1 (F a 0) 1).toInt = 0 ∧ ((¬ rOk (tC (G.2.1 (F (F (F a 1) 0) 0)) ((G.1 (F (F a 1) 0) 1).toInt)) ((G.1 (F (F a 1) 0) 1).toInt) ∧ r.toInt = -1000 - (rS9 (tC (G.2.1 (F (F (F a 1) 0) 0)) ((G.1 (F (F a 1) 0) 1).toInt))).2.2 ∧ (u.2.2.2.1 (F (F a 2) 0) = G.2.2.1 (F (F a 2) 0) ∧ u.2.2.2.1 (F (F a 2) 1) = G.2.2.1 (F (F a 2) 1) ∧ u.2.1 (F a 2) 2 = G.1 (F a 2) 2)) ∨ (rOk (tC (G.2.1 (F (F (F a 1) 0) 0)) ((G.1 (F (F a 1) 0) 1).toInt)) ((G.1 (F (F a 1) 0) 1).toInt) ∧ (G.1 a 18).toInt ≠ 0 ∧ r.toInt = -3 ∧ (u.2.2.2.1 (F (F a 2) 0) = G.2.2.1 (F (F a 2) 0) ∧ u.2.2.2.1 (F (F a 2) 1) = G.2.2.1 (F (F a 2) 1) ∧ u.2.1 (F a 2) 2 = G.1 (F a 2) 2)) ∨ (rOk (tC (G.2.1 (F (F (F a 1) 0) 0)) ((G.1 (F (F a 1) 0) 1).toInt)) ((G.1 (F (F a 1) 0) 1).toInt) ∧ (G.1 a 18).toInt = 0 ∧ (∀ i : Nat, i < 12 → G.2.2.1 (F (F a 2) 0) i ≠ none) ∧ r.toInt = -4 ∧ (u.2.2.2.1 (F (F a 2) 0) = G.2.2.1 (F (F a 2) 0) ∧ u.2.2.2.1 (F (F a 2) 1) = G.2.2.1 (F (F a 2) 1) ∧ u.2.1 (F a 2) 2 = G.1 (F a 2) 2)) ∨ (rOk (tC (G.2.1 (F (F (F a 1) 0) 0)) ((G.1 (F (F a 1) 0) 1).toInt)) ((G.1 (F (F a 1) 0) 1).toInt) ∧ (G.1 a 18).toInt = 0 ∧ (0 ≤ (u.2.1 q 1).toInt ∧ (u.2.1 q 1).toInt ≤ 11) ∧ G.2.2.1 (F (F a 2) 0) ((u.2.1 q 1).toInt).toNat = none ∧ (∀ i : Nat, (i : Int) < (u.2.1 q 1).toInt → G.2.2.1 (F (F a 2) 0) i ≠ none) ∧ ((u.2.1 q 0).toInt = (rS1 (tC (G.2.1 (F (F (F a 1) 0) 0)) ((G.1 (F (F a 1) 0) 1).toInt))).1 ∧ (u.2.1 q 2).toInt = (rS2 (tC (G.2.1 (F (F (F a 1) 0) 0)) ((G.1 (F (F a 1) 0) 1).toInt))).1 ∧ (u.2.1 q 3).toInt = (rS3 (tC (G.2.1 (F (F (F a 1) 0) 0)) ((G.1 (F (F a 1) 0) 1).toInt))).1 ∧ (u.2.1 q 4).toInt = (rS4 (tC (G.2.1 (F (F (F a 1) 0) 0)) ((G.1 (F (F a 1) 0) 1).toInt))).1 ∧ (u.2.1 q 5).toInt = (rS5 (tC (G.2.1 (F (F (F a 1) 0) 0)) ((G.1 (F (F a 1) 0) 1).toInt))).1 ∧ (u.2.1 q 6).toInt = (rS6 (tC (G.2.1 (F (F (F a 1) 0) 0)) ((G.1 (F (F a 1) 0) 1).toInt))).1 ∧ (u.2.1 q 7).toInt = (rS7 (tC (G.2.1 (F (F (F a 1) 0) 0)) ((G.1 (F (F a 1) 0) 1).toInt))).1 ∧ (u.2.1 q 8).toInt = (rS9 (tC (G.2.1 (F (F (F a 1) 0) 0)) ((G.1 (F (F a 1) 0) 1).toInt))).1 ∧ (u.2.1 q 9).toInt = (rS8 (tC (G.2.1 (F (F (F a 1) 0) 0)) ((G.1 (F (F a 1) 0) 1).toInt))).1) ∧ ((ffL (uqs (vw (G.2.1 (F (F a 6) 0))) (vw (G.2.1 (F (F a 3) 0))) (u.2.1 q)) ≠ -1 ∧ r.toInt = -5 ∧ (u.2.2.2.1 (F (F a 2) 0) = G.2.2.1 (F (F a 2) 0) ∧ u.2.2.2.1 (F (F a 2) 1) = G.2.2.1 (F (F a 2) 1) ∧ u.2.1 (F a 2) 2 = G.1 (F a 2) 2)) ∨ (ffL (uqs (vw (G.2.1 (F (F a 6) 0))) (vw (G.2.1 (F (F a 3) 0))) (u.2.1 q)) = -1 ∧ r.toInt = (u.2.1 q 1).toInt ∧ (∀ i : Nat, u.2.2.2.1 (F (F a 2) 0) i = if i = ((u.2.1 q 1).toInt).toNat then some q else G.2.2.1 (F (F a 2) 0) i) ∧ BO u.2 F (F a 2))))) ∧ (∀ (i p : Nat), u.2.2.2.1 (F (F a 2) 1) i = some p → (∃ j : Nat, G.2.2.1 (F (F a 2) 1) j = some p) ∨ ∃ j : Nat, u.2.2.2.1 (F (F a 2) 0) j = some p)) (fun u H => TW E u.1 F u.2 H)) 9 810 (xA E) := by
  refine x_enter (by decide) (Nat.le_of_ble_eq_true rfl) ?_
  intro p e s m args below meth c Q S hr hlk hnm hQ hP ls hl
  obtain ⟨hz, hK, hT⟩ := hP
  obtain ⟨hx, hb, -, -, -⟩ := id S
  obtain ⟨H, hT, hS, hgo⟩ : ∃ H : Heap, TW E K F G H ∧ va_S (xA E) s.heap H [] ∧ H = s.heap := ⟨_, hT, va_S.rf, rfl⟩
  rw [← hgo]
  have hl : lv_has ls 4 [(0, .ref a)] := hl
  obtain ⟨hk9999, hj9999⟩ := fkX10_14 hT ha
  obtain ⟨hk9999a, hj9999a⟩ := fkX10_1 hT ha
  obtain ⟨hk9999b, hj9999b⟩ := fkX10_0 hT ha
  obtain ⟨hk9999c, hj9999c⟩ := fkX10_11 hT ha
  obtain ⟨hk9999d, hj9999d⟩ := fkX10_9 hT ha
  obtain ⟨hk9999e, hj9999e⟩ := fkX10_2 hT ha
  obtain ⟨hk9999f, hj9999f⟩ := fkX1_0 hT hk9999c
  obtain ⟨hk9999g, hj9999g⟩ := fkX1_1 hT hk9999c
  obtain ⟨hk9999h, hj9999h⟩ := fkX1_2 hT hk9999c
  obtain ⟨hk9999i, hj9999i⟩ := fkX4_0 hT hk9999d
  have hj9999j : F (F (F a 9) 0) 99 = 10 * 1 + 0 := by rw [hj9999i, hj9999d]
  obtain ⟨hk9999j, hj9999k⟩ := fkX4_1 hT hk9999d
  have hj9999l : F (F (F a 9) 1) 99 = 10 * 1 + 1 := by rw [hj9999k, hj9999d]
  obtain ⟨hk9999k, hj9999m⟩ := fkX4_2 hT hk9999d
  have hj9999n : F (F (F a 9) 2) 99 = 10 * 1 + 2 := by rw [hj9999m, hj9999d]
  obtain ⟨hk9999l, hj9999o⟩ := fkX4_3 hT hk9999d
  have hj9999p : F (F (F a 9) 3) 99 = 10 * 1 + 3 := by rw [hj9999o, hj9999d]
  obtain ⟨hk9999m, hj9999q⟩ := fkX4_4 hT hk9999d
  have hj9999r : F (F (F a 9) 4) 99 = 10 * 1 + 4 := by rw [hj9999q, hj9999d]
  obtain ⟨hk9999n, hj9999s⟩ := fkX4_5 hT hk9999d
  have hj9999t : F (F (F a 9) 5) 99 = 10 * 1 + 5 := by rw [hj9999s, hj9999d]
  obtain ⟨hk9999o, hj9999u⟩ := fkX0_0 hT hk9999e
  obtain ⟨hk9999p, hj9999v⟩ := fkX0_1 hT hk9999e
  obtain ⟨hk9999q, hj9999w⟩ := fkX5_0 hT hk9999a
  obtain ⟨hk9999r, hj9999y⟩ := fkX8_0 hT hk9999q
  obtain ⟨hk9999s, hj9999z25⟩ := fkX10_6 hT ha
  obtain ⟨hk9999t, hj9999z26⟩ := fkX6_0 hT hk9999s
  have hj9999z27 : F (F (F a 6) 0) 99 = 3 := by rw [hj9999z26, hj9999z25]
  obtain ⟨hk9999u, hj9999z28⟩ := fkX6_1 hT hk9999s
  have hj9999z29 : F (F (F a 6) 1) 99 = 3 := by rw [hj9999z28, hj9999z25]
  obtain ⟨hk9999v, hj9999z30⟩ := fkX10_3 hT ha
  obtain ⟨hk9999w, hj9999z31⟩ := fkX6_0 hT hk9999v
  have hj9999z32 : F (F (F a 3) 0) 99 = 0 := by rw [hj9999z31, hj9999z30]
  obtain ⟨hk9999y, hj9999z33⟩ := fkX6_1 hT hk9999v
  have hj9999z34 : F (F (F a 3) 1) 99 = 0 := by rw [hj9999z33, hj9999z30]
  refine lv_aload_n hx hb dX10_rule_0 rfl (lv_at hl 0 rfl) ?_
  refine gX10_14 S hK hT ha kf_X10_91 dX10_rule_1 (fun _ _ => ?_)
  refine x_cv (x_runV (b := (F a 14)) (As := []) (rest := []) S (c_X9_clear l E K F G (F a 14) hk9999) mv_X9_clear km_X10_113 rfl rfl ⟨Nat.le_of_ble_eq_true rfl, Nat.le_of_ble_eq_true rfl⟩ (rc_11 hK hT hk9999) hK (fun _ => XP.blind) (fun U hU hW => XP.at hK hz hS hT hU hW) rfl hl.1 (Nat.le_of_ble_eq_true rfl) dX10_rule_4 ⟨Nat.le_of_ble_eq_true rfl, Nat.le_of_ble_eq_true rfl⟩) hS ?_
  rintro G4 H locs ⟨hF4, t4⟩ hT hS
  have t4 : ((G4.1 (F a 14) 1).toInt) = 0 := t4
  refine lv_aload_n hx hb dX10_rule_7 rfl (lv_at hl 0 rfl) ?_
  refine gX10_1 S hK hT ha kf_X10_23 dX10_rule_8 (fun _ _ => ?_)
  refine x_cl (x_runV (b := (F a 1)) (As := []) (rest := []) S (c_X5_read l E K F G4 (F a 1) hk9999a (by rw [(show (G4.1 (F (F a 1) 0) 1).toInt = ((G.1 (F (F a 1) 0) 1).toInt) from (congrArg Int32.toInt (hF4.1 _ _ (xna (xne_k hk9999q hk9999 (by decide)) xn0))).trans (rfl : Int32.toInt (G.1 (F (F a 1) 0) 1) = ((G.1 (F (F a 1) 0) 1).toInt)))] <;> exact (n0))) mv_X5_read km_X10_116 rfl rfl ⟨Nat.le_of_ble_eq_true rfl, Nat.le_of_ble_eq_true rfl⟩ (rc_7 hK hT hk9999a) hK (fun _ => XP.blind) (fun U hU hW => XP.at hK hz hS hT hU hW) rfl hl.1 (Nat.le_of_ble_eq_true rfl) dX10_rule_11 ⟨Nat.le_of_ble_eq_true rfl, Nat.le_of_ble_eq_true rfl⟩) hS ?_
  rintro v ⟨K, G11⟩ H locs ⟨q11, hq0, hk11, hM, hF11, oq11, hc11⟩ hT hS
  have hT : TW E K F G11 H := hT
  have hM : KM _ K := hM
  have hk11 : K q11 = 9 := hk11
  have hF11 : XFr [(F a 1, 1), (F a 1, 2), (F a 1, 3), (F a 1, 4), (F a 1, 5), (q11, 0), (q11, 1), (q11, 2), (q11, 3), (q11, 4), (q11, 5), (q11, 6), (q11, 7), (q11, 8), (q11, 9)] [] [] G4 G11 := hF11
  have oq11 : (G11.1 (F a 1) 2).toInt = (rS9 (tC (G.2.1 (F (F (F a 1) 0) 0)) ((G.1 (F (F a 1) 0) 1).toInt))).2.2 := by have h9 := oq11; simp only [(show G4.2.1 (F (F (F a 1) 0) 0) = G.2.1 (F (F (F a 1) 0) 0) from (hF4.2.1 _ xn0)), (show G4.1 (F (F a 1) 0) 1 = G.1 (F (F a 1) 0) 1 from (hF4.1 _ _ (xna (xne_k hk9999q hk9999 (by decide)) xn0)))] at h9; exact h9
  have hc11 : ((v = .null ∧ ¬ rOk (tC (G.2.1 (F (F (F a 1) 0) 0)) ((G.1 (F (F a 1) 0) 1).toInt)) ((G.1 (F (F a 1) 0) 1).toInt)) ∨ (v = .ref q11 ∧ rOk (tC (G.2.1 (F (F (F a 1) 0) 0)) ((G.1 (F (F a 1) 0) 1).toInt)) ((G.1 (F (F a 1) 0) 1).toInt) ∧ ((G11.1 q11 1).toInt = -1 ∧ (G11.1 q11 0).toInt = (rS1 (tC (G.2.1 (F (F (F a 1) 0) 0)) ((G.1 (F (F a 1) 0) 1).toInt))).1 ∧ (G11.1 q11 2).toInt = (rS2 (tC (G.2.1 (F (F (F a 1) 0) 0)) ((G.1 (F (F a 1) 0) 1).toInt))).1 ∧ (G11.1 q11 3).toInt = (rS3 (tC (G.2.1 (F (F (F a 1) 0) 0)) ((G.1 (F (F a 1) 0) 1).toInt))).1 ∧ (G11.1 q11 4).toInt = (rS4 (tC (G.2.1 (F (F (F a 1) 0) 0)) ((G.1 (F (F a 1) 0) 1).toInt))).1 ∧ (G11.1 q11 5).toInt = (rS5 (tC (G.2.1 (F (F (F a 1) 0) 0)) ((G.1 (F (F a 1) 0) 1).toInt))).1 ∧ (G11.1 q11 6).toInt = (rS6 (tC (G.2.1 (F (F (F a 1) 0) 0)) ((G.1 (F (F a 1) 0) 1).toInt))).1 ∧ (G11.1 q11 7).toInt = (rS7 (tC (G.2.1 (F (F (F a 1) 0) 0)) ((G.1 (F (F a 1) 0) 1).toInt))).1 ∧ (G11.1 q11 9).toInt = (rS8 (tC (G.2.1 (F (F (F a 1) 0) 0)) ((G.1 (F (F a 1) 0) 1).toInt))).1 ∧ (G11.1 q11 8).toInt = (rS9 (tC (G.2.1 (F (F (F a 1) 0) 0)) ((G.1 (F (F a 1) 0) 1).toInt))).1))) := by have h9 := hc11; simp only [(show G4.2.1 (F (F (F a 1) 0) 0) = G.2.1 (F (F (F a 1) 0) 0) from (hF4.2.1 _ xn0)), (show G4.1 (F (F a 1) 0) 1 = G.1 (F (F a 1) 0) 1 from (hF4.1 _ _ (xna (xne_k hk9999q hk9999 (by decide)) xn0)))] at h9; exact h9
  have ha : K a = 12 := hM _ _ ha (by decide)
  have hk9999 : K (F a 14) = 11 := hM _ _ hk9999 (by decide)
  have hk9999a : K (F a 1) = 7 := hM _ _ hk9999a (by decide)
  have hk9999b : K (F a 0) = 10 := hM _ _ hk9999b (by decide)
  have hk9999c : K (F a 11) = 3 := hM _ _ hk9999c (by decide)
  have hk9999d : K (F a 9) = 6 := hM _ _ hk9999d (by decide)
  have hk9999e : K (F a 2) = 2 := hM _ _ hk9999e (by decide)
  have hk9999f : K (F (F a 11) 0) = 21 := hM _ _ hk9999f (by decide)
  have hk9999g : K (F (F a 11) 1) = 21 := hM _ _ hk9999g (by decide)
  have hk9999h : K (F (F a 11) 2) = 24 := hM _ _ hk9999h (by decide)
  have hk9999i : K (F (F a 9) 0) = 22 := hM _ _ hk9999i (by decide)
  have hk9999j : K (F (F a 9) 1) = 22 := hM _ _ hk9999j (by decide)
  have hk9999k : K (F (F a 9) 2) = 22 := hM _ _ hk9999k (by decide)
  have hk9999l : K (F (F a 9) 3) = 22 := hM _ _ hk9999l (by decide)
  have hk9999m : K (F (F a 9) 4) = 23 := hM _ _ hk9999m (by decide)
  have hk9999n : K (F (F a 9) 5) = 23 := hM _ _ hk9999n (by decide)
  have hk9999o : K (F (F a 2) 0) = 15 := hM _ _ hk9999o (by decide)
  have hk9999p : K (F (F a 2) 1) = 15 := hM _ _ hk9999p (by decide)
  have hk9999q : K (F (F a 1) 0) = 10 := hM _ _ hk9999q (by decide)
  have hk9999r : K (F (F (F a 1) 0) 0) = 25 := hM _ _ hk9999r (by decide)
  have hk9999s : K (F a 6) = 8 := hM _ _ hk9999s (by decide)
  have hk9999t : K (F (F a 6) 0) = 20 := hM _ _ hk9999t (by decide)
  have hk9999u : K (F (F a 6) 1) = 21 := hM _ _ hk9999u (by decide)
  have hk9999v : K (F a 3) = 8 := hM _ _ hk9999v (by decide)
  have hk9999w : K (F (F a 3) 0) = 20 := hM _ _ hk9999w (by decide)
  have hk9999y : K (F (F a 3) 1) = 21 := hM _ _ hk9999y (by decide)
  rcases hc11 with ⟨rfl, hn11⟩ | ⟨rfl, hs11, hf11⟩
  · skip
    refine lv_astore_nN (lv' := [(1, .null), (0, .ref a)]) hx hb dX10_rule_14 rfl hl (by decide) rfl (fun ls hl => ?_)
    refine lv_aload_n hx hb dX10_rule_15 rfl (lv_at hl 1 rfl) ?_
    refine gX10_0 S hK hT ha kf_X10_12 dX10_rule_16 (fun _ _ => ?_)
    refine lv_iconst (v := 0) hx hb dX10_rule_19 (by decide) ?_
    refine x_cl0 (x_runV (b := (F a 0)) (As := [.int 0]) (rest := []) S (c_X8_shorten l E K F G11 (F a 0) 0 hk9999b) mv_X8_shorten km_X10_110 rfl rfl ⟨Nat.le_of_ble_eq_true rfl, Nat.le_of_ble_eq_true rfl⟩ (rc_10 hK hT hk9999b) hK (fun _ => XP.blind) (fun U hU hW => XP.at hK hz hS hT hU hW) rfl hl.1 (Nat.le_of_ble_eq_true rfl) dX10_rule_20 ⟨Nat.le_of_ble_eq_true rfl, Nat.le_of_ble_eq_true rfl⟩) hS ?_
    rintro _ G20 H locs ⟨x20, rfl, b20, hF20, t20⟩ hT hS
    have t20 : (((0 : Int) < 0 ∨ ((G.1 (F a 0) 1).toInt) < (0 : Int)) ∧ x20.toInt = 0 ∧ ((G20.1 (F a 0) 1).toInt) = ((G.1 (F a 0) 1).toInt)) ∨ ((0 ≤ (0 : Int) ∧ (0 : Int) ≤ ((G.1 (F a 0) 1).toInt)) ∧ x20.toInt = 1 ∧ ((G20.1 (F a 0) 1).toInt) = (0 : Int)) := by rw [(show (G11.1 (F a 0) 1).toInt = ((G.1 (F a 0) 1).toInt) from (congrArg Int32.toInt ((hF11.1 _ _ (xna (xne_k hk9999b hk9999a (by decide)) (xnj (by decide) (xnj (by decide) (xnj (by decide) (xnj (by decide) (xnj (by decide) (xna (xne_k hk9999b hk11 (by decide)) (xnj (by decide) (xnj (by decide) (xnj (by decide) (xnj (by decide) (xnj (by decide) (xnj (by decide) (xnj (by decide) (xnj (by decide) xn0)))))))))))))))).trans (hF4.1 _ _ (xna (xne_k hk9999b hk9999 (by decide)) xn0)))).trans (rfl : Int32.toInt (G.1 (F a 0) 1) = ((G.1 (F a 0) 1).toInt)))] at t20; exact t20
    refine lv_pop hx hb dX10_rule_23 rfl ?_
    refine lv_aload_nN hx hb dX10_rule_24 rfl (lv_at hl 0 rfl) ?_
    refine lv_ifnonnullN hx hb dX10_rule_25 ?_
    refine lv_sipush (v := (-1000)) hx hb dX10_rule_28 (by decide) ?_
    refine lv_aload_n hx hb dX10_rule_31 rfl (lv_at hl 1 rfl) ?_
    refine gX10_1 S hK hT ha kf_X10_23 dX10_rule_32 (fun _ _ => ?_)
    refine x_clp (x_runV (b := (F a 1)) (As := []) (rest := [.int (-1000)]) S (c_X5_faultPlace l E K F G20 H (F a 1) hk9999a) mv_X5_faultPlace km_X10_120 rfl rfl ⟨Nat.le_of_ble_eq_true rfl, Nat.le_of_ble_eq_true rfl⟩ (rc_7 hK hT hk9999a) hK (fun _ => XPh.blind) (fun U hU hW => XPh.at hK hz hS hT hU hW) rfl hl.1 (Nat.le_of_ble_eq_true rfl) dX10_rule_35 ⟨Nat.le_of_ble_eq_true rfl, Nat.le_of_ble_eq_true rfl⟩) hS ?_
    rintro _ _ locs ⟨x35, rfl, t35⟩ hS
    have t35 : x35.toInt = ((G11.1 (F a 1) 2).toInt) := by rw [(show (G20.1 (F a 1) 2).toInt = ((G11.1 (F a 1) 2).toInt) from (congrArg Int32.toInt (hF20.1 _ _ (xnj (by decide) xn0))).trans (rfl : Int32.toInt (G11.1 (F a 1) 2) = ((G11.1 (F a 1) 2).toInt)))] at t35; exact t35
    refine xi_isub hx hb ((by decide) : Int32.toInt (-1000) = (-1000 : Int)) (t35 : Int32.toInt x35 = ((G11.1 (F a 1) 2).toInt)) dX10_rule_38 (fun x38 t38 => ?_)
    exact x_ri hx hb hr hlk hQ (Nat.le_of_ble_eq_true rfl) (Nat.le_of_ble_eq_true rfl) hS dX10_rule_39 (K, G20) ⟨_, rfl, q11, hq0, hk11, hM, (XFr.call (XFr.call (XFr.call XFr.rf hF4 (xm1 0 rfl xm0) xm0 xm0) hF11 (xm1 3 rfl (xm1 4 rfl (xm1 5 rfl (xm1 6 rfl (xm1 7 rfl (xm1 8 rfl (xm1 9 rfl (xm1 10 rfl (xm1 11 rfl (xm1 12 rfl (xm1 13 rfl (xm1 14 rfl (xm1 15 rfl (xm1 16 rfl (xm1 17 rfl xm0))))))))))))))) xm0 xm0) hF20 (xm1 18 rfl xm0) xm0 xm0), (v_X10_rule_39_1 (F := F) G a x20 G20 n1 t20), (v_X10_rule_39_2 (F := F) G11 a G x38 G20 q11 oq11 hn11 n0 n1 t38 ((hF20.2.2 _ xn0).trans ((hF11.2.2 _ xn0).trans (hF4.2.2 _ xn0))) ((hF20.2.2 _ xn0).trans ((hF11.2.2 _ xn0).trans (hF4.2.2 _ xn0))) ((hF20.1 _ _ (xnj (by decide) xn0)).trans ((hF11.1 _ _ (xnj (by decide) (xna (xne_k hk9999e hk9999a (by decide)) (xnj (by decide) (xnj (by decide) (xnj (by decide) (xnj (by decide) (xnj (by decide) (xna (xne_k hk9999e hk11 (by decide)) (xnj (by decide) (xnj (by decide) (xnj (by decide) (xnj (by decide) (xnj (by decide) (xnj (by decide) (xnj (by decide) xn0)))))))))))))))).trans (hF4.1 _ _ (xnj (by decide) xn0))))), (v_X10_rule_39_3 (F := F) G20 a G ((hF20.2.2 _ xn0).trans ((hF11.2.2 _ xn0).trans (hF4.2.2 _ xn0))))⟩ hT
  · skip
    refine lv_astore_n (lv' := [(1, .ref q11), (0, .ref a)]) hx hb dX10_rule_14 rfl hl (by decide) rfl (fun ls hl => ?_)
    refine lv_aload_n hx hb dX10_rule_15 rfl (lv_at hl 1 rfl) ?_
    refine gX10_0 S hK hT ha kf_X10_12 dX10_rule_16 (fun _ _ => ?_)
    refine lv_iconst (v := 0) hx hb dX10_rule_19 (by decide) ?_
    refine x_cl0 (x_runV (b := (F a 0)) (As := [.int 0]) (rest := []) S (c_X8_shorten l E K F G11 (F a 0) 0 hk9999b) mv_X8_shorten km_X10_110 rfl rfl ⟨Nat.le_of_ble_eq_true rfl, Nat.le_of_ble_eq_true rfl⟩ (rc_10 hK hT hk9999b) hK (fun _ => XP.blind) (fun U hU hW => XP.at hK hz hS hT hU hW) rfl hl.1 (Nat.le_of_ble_eq_true rfl) dX10_rule_20 ⟨Nat.le_of_ble_eq_true rfl, Nat.le_of_ble_eq_true rfl⟩) hS ?_
    rintro _ G20 H locs ⟨x20, rfl, b20, hF20, t20⟩ hT hS
    have t20 : (((0 : Int) < 0 ∨ ((G.1 (F a 0) 1).toInt) < (0 : Int)) ∧ x20.toInt = 0 ∧ ((G20.1 (F a 0) 1).toInt) = ((G.1 (F a 0) 1).toInt)) ∨ ((0 ≤ (0 : Int) ∧ (0 : Int) ≤ ((G.1 (F a 0) 1).toInt)) ∧ x20.toInt = 1 ∧ ((G20.1 (F a 0) 1).toInt) = (0 : Int)) := by rw [(show (G11.1 (F a 0) 1).toInt = ((G.1 (F a 0) 1).toInt) from (congrArg Int32.toInt ((hF11.1 _ _ (xna (xne_k hk9999b hk9999a (by decide)) (xnj (by decide) (xnj (by decide) (xnj (by decide) (xnj (by decide) (xnj (by decide) (xna (xne_k hk9999b hk11 (by decide)) (xnj (by decide) (xnj (by decide) (xnj (by decide) (xnj (by decide) (xnj (by decide) (xnj (by decide) (xnj (by decide) (xnj (by decide) xn0)))))))))))))))).trans (hF4.1 _ _ (xna (xne_k hk9999b hk9999 (by decide)) xn0)))).trans (rfl : Int32.toInt (G.1 (F a 0) 1) = ((G.1 (F a 0) 1).toInt)))] at t20; exact t20
    refine lv_pop hx hb dX10_rule_23 rfl ?_
    refine lv_aload_n hx hb dX10_rule_24 rfl (lv_at hl 0 rfl) ?_
    refine lv_ifnonnull (tgt := 40) hx hb dX10_rule_25 (by decide) ?_
    refine lv_aload_n hx hb dX10_rule_40 rfl (lv_at hl 1 rfl) ?_
    refine gX10_18 S hK hT ha kf_X10_123 dX10_rule_41 (v := (G.1 a 18)) ((hF20.1 _ _ (xnj (by decide) xn0)).trans ((hF11.1 _ _ (xnj (by decide) (xnj (by decide) (xnj (by decide) (xnj (by decide) (xnj (by decide) (xnj (by decide) (xnj (by decide) (xnj (by decide) (xnj (by decide) (xnj (by decide) (xnj (by decide) (xnj (by decide) (xnj (by decide) (xnj (by decide) (xnj (by decide) xn0)))))))))))))))).trans (hF4.1 _ _ (xnj (by decide) xn0)))) (fun hz41 => ?_)
    refine xi_zeq (tgt := 50) hx hb (rfl : Int32.toInt (G.1 a 18) = ((G.1 a 18).toInt)) dX10_rule_44 (by decide) (fun c44 => ?_) (fun c44 => ?_)
    · refine lv_aload_n hx hb dX10_rule_50 rfl (lv_at hl 1 rfl) ?_
      refine gX10_2 S hK hT ha kf_X10_30 dX10_rule_51 (fun _ _ => ?_)
      refine x_clp (x_runV (b := (F a 2)) (As := []) (rest := []) S (c_X0_leastFree l E K F G20 H (F a 2) hk9999e) mv_X0_leastFree km_X10_127 rfl rfl ⟨Nat.le_of_ble_eq_true rfl, Nat.le_of_ble_eq_true rfl⟩ (rc_2 hK hT hk9999e) hK (fun _ => XPh.blind) (fun U hU hW => XPh.at hK hz hS hT hU hW) rfl hl.1 (Nat.le_of_ble_eq_true rfl) dX10_rule_54 ⟨Nat.le_of_ble_eq_true rfl, Nat.le_of_ble_eq_true rfl⟩) hS ?_
      rintro _ _ locs ⟨x54, rfl, t54, oq54⟩ hS
      have t54 : -1 ≤ x54.toInt ∧ x54.toInt ≤ 11 := t54
      refine lv_istore_n (lv' := [(2, .int x54), (1, .ref q11), (0, .ref a)]) hx hb dX10_rule_57 rfl hl (by decide) rfl (fun ls hl => ?_)
      refine lv_iload_n hx hb dX10_rule_58 rfl (lv_at hl 0 rfl) ?_
      refine lv_iconst (v := (-1)) hx hb dX10_rule_59 (by decide) ?_
      refine xi_cne (tgt := 66) hx hb (rfl : Int32.toInt x54 = x54.toInt) ((by decide) : Int32.toInt (-1) = (-1 : Int)) dX10_rule_60 (by decide) (fun c60 => ?_) (fun c60 => ?_)
      · refine lv_aload_n hx hb dX10_rule_66 rfl (lv_at hl 1 rfl) ?_
        refine lv_iload_n hx hb dX10_rule_67 rfl (lv_at hl 0 rfl) ?_
        refine pX7_1 (v := x54) S hK hT hS hk11 kf_X10_130 dX10_rule_68 (fun H locs hT hS => ?_)
        obtain ⟨G68, hG68⟩ : ∃ GG : XG, GG = dput G20 q11 1 x54 := ⟨_, rfl⟩
        rw [← hG68] at hT
        refine lv_aload_n hx hb dX10_rule_71 rfl (lv_at hl 2 rfl) ?_
        refine lv_aload_n hx hb dX10_rule_72 rfl (lv_at hl 1 rfl) ?_
        refine x_cl0 (x_runV (b := a) (As := [.ref q11]) (rest := []) S (c_X10_firstFailingOf l E K F G68 a q11 ha hk11 (v_X10_rule_73_4 (F := F) a G G68 ro0 ron ((ld_c hG68).trans ((hF20.2.1 _ xn0).trans ((hF11.2.1 _ xn0).trans (hF4.2.1 _ xn0)))) ((ld_c hG68).trans ((hF20.2.1 _ xn0).trans ((hF11.2.1 _ xn0).trans (hF4.2.1 _ xn0))))) (v_X10_rule_73_5 (F := F) a G G68 ro0 ron ((ld_c hG68).trans ((hF20.2.1 _ xn0).trans ((hF11.2.1 _ xn0).trans (hF4.2.1 _ xn0)))) ((ld_c hG68).trans ((hF20.2.1 _ xn0).trans ((hF11.2.1 _ xn0).trans (hF4.2.1 _ xn0))))) (v_X10_rule_73_6 (F := F) G11 q11 G a G68 hf11 ((ld_j hG68 (by decide)).trans (hF20.1 _ _ (xnj (by decide) xn0))) ((ld_j hG68 (by decide)).trans (hF20.1 _ _ (xnj (by decide) xn0))) ((ld_j hG68 (by decide)).trans (hF20.1 _ _ (xnj (by decide) xn0))) ((ld_j hG68 (by decide)).trans (hF20.1 _ _ (xnj (by decide) xn0))))) mv_X10_firstFailingOf km_X10_136 rfl rfl ⟨Nat.le_of_ble_eq_true rfl, Nat.le_of_ble_eq_true rfl⟩ (rc_12 hK hT ha) hK (fun _ => XP.blind) (fun U hU hW => XP.at hK hz hS hT hU hW) rfl hl.1 (Nat.le_of_ble_eq_true rfl) dX10_rule_73 ⟨Nat.le_of_ble_eq_true rfl, Nat.le_of_ble_eq_true rfl⟩) hS ?_
        rintro _ G73 H locs ⟨x73, rfl, hF73, t73, oq73, oq73a⟩ hT hS
        have t73 : -1 ≤ x73.toInt := t73
        have oq73a : qL G73 F (F a 9) = uqs (vw (G.2.1 (F (F a 6) 0))) (vw (G.2.1 (F (F a 3) 0))) (G68.1 q11) := by simp only [(show G68.2.1 (F (F a 6) 0) = G.2.1 (F (F a 6) 0) from ((ld_c hG68).trans ((hF20.2.1 _ xn0).trans ((hF11.2.1 _ xn0).trans (hF4.2.1 _ xn0))))), (show G68.2.1 (F (F a 3) 0) = G.2.1 (F (F a 3) 0) from ((ld_c hG68).trans ((hF20.2.1 _ xn0).trans ((hF11.2.1 _ xn0).trans (hF4.2.1 _ xn0)))))] at oq73a; exact oq73a
        refine lv_istore_n (lv' := [(3, .int x73), (2, .int x54), (1, .ref q11), (0, .ref a)]) hx hb dX10_rule_76 rfl hl (by decide) rfl (fun ls hl => ?_)
        refine lv_iload_n hx hb dX10_rule_77 rfl (lv_at hl 0 rfl) ?_
        refine lv_iconst (v := (-1)) hx hb dX10_rule_78 (by decide) ?_
        refine xi_ceq (tgt := 108) hx hb (rfl : Int32.toInt x73 = x73.toInt) ((by decide) : Int32.toInt (-1) = (-1 : Int)) dX10_rule_79 (by decide) (fun c79 => ?_) (fun c79 => ?_)
        · refine lv_aload_n hx hb dX10_rule_108 rfl (lv_at hl 3 rfl) ?_
          refine gX10_2 S hK hT ha kf_X10_30 dX10_rule_109 (fun _ _ => ?_)
          refine lv_aload_n hx hb dX10_rule_112 rfl (lv_at hl 2 rfl) ?_
          refine x_cv0 (x_runV (b := (F a 2)) (As := [.ref q11]) (rest := []) S (c_X0_enter l E K F G73 (F a 2) q11 hk9999e hk11 (by rw [(show (G73.1 q11 1).toInt = x54.toInt from (congrArg Int32.toInt ((hF73.1 _ _ (xnj (by decide) (xnj (by decide) xn0))).trans (ld_at hG68))).trans (rfl : Int32.toInt x54 = x54.toInt))] <;> exact (z_X10_rule_2 x54.toInt t54 c60))) mv_X0_enter km_X10_155 rfl rfl ⟨Nat.le_of_ble_eq_true rfl, Nat.le_of_ble_eq_true rfl⟩ (rc_2 hK hT hk9999e) hK (fun _ => XP.blind) (fun U hU hW => XP.at hK hz hS hT hU hW) rfl hl.1 (Nat.le_of_ble_eq_true rfl) dX10_rule_113 ⟨Nat.le_of_ble_eq_true rfl, Nat.le_of_ble_eq_true rfl⟩) hS ?_
          rintro G113 H locs ⟨hF113, oq113, oq113a, oq113b⟩ hT hS
          refine lv_iload_n hx hb dX10_rule_116 rfl (lv_at hl 1 rfl) ?_
          exact x_ri hx hb hr hlk hQ (Nat.le_of_ble_eq_true rfl) (Nat.le_of_ble_eq_true rfl) hS dX10_rule_117 (K, G113) ⟨_, rfl, q11, hq0, hk11, hM, (XFr.call (XFr.call (by rw [hG68]; exact XFr.dput (XFr.call (XFr.call (XFr.call XFr.rf hF4 (xm1 0 rfl xm0) xm0 xm0) hF11 (xm1 3 rfl (xm1 4 rfl (xm1 5 rfl (xm1 6 rfl (xm1 7 rfl (xm1 8 rfl (xm1 9 rfl (xm1 10 rfl (xm1 11 rfl (xm1 12 rfl (xm1 13 rfl (xm1 14 rfl (xm1 15 rfl (xm1 16 rfl (xm1 17 rfl xm0))))))))))))))) xm0 xm0) hF20 (xm1 18 rfl xm0) xm0 xm0) (List.mem_of_getElem? (i := 9) rfl)) hF73 (xm1 19 rfl (xm1 20 rfl xm0)) (xm1 0 rfl (xm1 1 rfl (xm1 2 rfl (xm1 3 rfl (xm1 4 rfl (xm1 5 rfl (xm1 6 rfl (xm1 7 rfl (xm1 8 rfl xm0))))))))) xm0) hF113 (xm1 21 rfl xm0) xm0 (xm1 0 rfl (xm1 1 rfl xm0))), (v_X10_rule_117_7 (F := F) G a x20 G20 G113 n1 t20 ((hF113.1 _ _ (xnj (by decide) xn0)).trans ((hF73.1 _ _ (xnj (by decide) (xnj (by decide) xn0))).trans (ld_a hG68 (xne_k hk9999b hk11 (by decide)))))), (v_X10_rule_117_8 (F := F) G a G11 q11 x54 G20 x73 G73 G68 G113 hs11 hf11 oq54 oq73 oq73a oq113 oq113a c44 t54 c60 t73 c79 ((hF20.2.2 _ xn0).trans ((hF11.2.2 _ xn0).trans (hF4.2.2 _ xn0))) ((hF73.2.2 _ xn0).trans ((ld_r hG68).trans ((hF20.2.2 _ xn0).trans ((hF11.2.2 _ xn0).trans (hF4.2.2 _ xn0))))) ((fr_A hF113 (fun _ => (xna (xne_k hk11 hk9999e (by decide)) xn0))).trans (fr_A hF73 (fun _ => (xna (xne_k hk11 hk9999c (by decide)) (xna (xne_k hk11 hk9999d (by decide)) xn0))))) (fr_A hF73 (fun _ => (xna (xne_k hk11 hk9999c (by decide)) (xna (xne_k hk11 hk9999d (by decide)) xn0)))) ((ld_j hG68 (by decide)).trans (hF20.1 _ _ (xnj (by decide) xn0))) (ld_at hG68) ((ld_j hG68 (by decide)).trans (hF20.1 _ _ (xnj (by decide) xn0))) ((ld_j hG68 (by decide)).trans (hF20.1 _ _ (xnj (by decide) xn0))) ((ld_j hG68 (by decide)).trans (hF20.1 _ _ (xnj (by decide) xn0))) ((ld_j hG68 (by decide)).trans (hF20.1 _ _ (xnj (by decide) xn0))) ((ld_j hG68 (by decide)).trans (hF20.1 _ _ (xnj (by decide) xn0))) ((ld_j hG68 (by decide)).trans (hF20.1 _ _ (xnj (by decide) xn0))) ((ld_j hG68 (by decide)).trans (hF20.1 _ _ (xnj (by decide) xn0))) ((ld_j hG68 (by decide)).trans (hF20.1 _ _ (xnj (by decide) xn0)))), (v_X10_rule_117_9 (F := F) G113 a G73 G oq113b ((hF73.2.2 _ xn0).trans ((ld_r hG68).trans ((hF20.2.2 _ xn0).trans ((hF11.2.2 _ xn0).trans (hF4.2.2 _ xn0))))))⟩ hT
        · refine lv_aload_n hx hb dX10_rule_82 rfl (lv_at hl 3 rfl) ?_
          refine gX10_14 S hK hT ha kf_X10_91 dX10_rule_83 (fun _ _ => ?_)
          refine lv_iload_n hx hb dX10_rule_86 rfl (lv_at hl 1 rfl) ?_
          refine lv_aload_n hx hb dX10_rule_87 rfl (lv_at hl 2 rfl) ?_
          refine gX7_0 S hK hT hk11 kf_X10_140 dX10_rule_88 (v := (G11.1 q11 0)) ((hF73.1 _ _ (xnj (by decide) (xnj (by decide) xn0))).trans ((ld_j hG68 (by decide)).trans (hF20.1 _ _ (xnj (by decide) xn0)))) (?_)
          refine x_clp (x_runS (As := [.int (G11.1 q11 0)]) (rest := [.int x54, .ref (F a 14)]) S (c_X10_wordOf l E K F G73 H (G11.1 q11 0)) ms_X10_wordOf km_X10_143 rfl rfl ⟨Nat.le_of_ble_eq_true rfl, Nat.le_of_ble_eq_true rfl⟩ hK (fun _ => XPh.blind) (fun U hU hW => XPh.at hK hz hS hT hU hW) rfl hl.1 (Nat.le_of_ble_eq_true rfl) dX10_rule_91 ⟨Nat.le_of_ble_eq_true rfl, Nat.le_of_ble_eq_true rfl⟩) hS ?_
          rintro _ _ locs ⟨q91, hi91, rfl, hw91⟩ hS
          refine lv_aload_n hx hb dX10_rule_94 rfl (lv_at hl 3 rfl) ?_
          refine gX10_9 S hK hT ha kf_X10_61 dX10_rule_95 (fun _ _ => ?_)
          refine lv_iload_n hx hb dX10_rule_98 rfl (lv_at hl 0 rfl) ?_
          refine x_clp (x_runV (b := (F a 9)) (As := [.int x73]) (rest := [.ref (E.2.2.2.2.1 q91), .int x54, .ref (F a 14)]) S (c_X4_subject l E K F G73 H (F a 9) x73 hk9999d) mv_X4_subject km_X10_147 rfl rfl ⟨Nat.le_of_ble_eq_true rfl, Nat.le_of_ble_eq_true rfl⟩ (rc_6 hK hT hk9999d) hK (fun _ => XPh.blind) (fun U hU hW => XPh.at hK hz hS hT hU hW) rfl hl.1 (Nat.le_of_ble_eq_true rfl) dX10_rule_99 ⟨Nat.le_of_ble_eq_true rfl, Nat.le_of_ble_eq_true rfl⟩) hS ?_
          rintro _ _ locs ⟨x99, rfl, t99⟩ hS
          have t99 : ((0 ≤ x73.toInt ∧ x73.toInt < ((G73.1 (F a 9) 6).toInt) ∧ x73.toInt < 1080) ∧ x99.toInt = (aI (G73.2.1 (F (F a 9) 1)) (x73.toInt))) ∨ (¬ (0 ≤ x73.toInt ∧ x73.toInt < ((G73.1 (F a 9) 6).toInt) ∧ x73.toInt < 1080) ∧ x99.toInt = -1) := t99
          refine x_cv (x_runV (b := (F a 14)) (As := [.int x54, .ref (E.2.2.2.2.1 q91), .int x99]) (rest := []) S (c_X9_tell l E K F G73 (F a 14) x54 q91 x99 hk9999 (Nat.lt_of_lt_of_le hi91 (by decide)) (xlen6 hi91)) mv_X9_tell km_X10_151 rfl rfl ⟨Nat.le_of_ble_eq_true rfl, Nat.le_of_ble_eq_true rfl⟩ (rc_11 hK hT hk9999) hK (fun _ => XP.blind) (fun U hU hW => XP.at hK hz hS hT hU hW) rfl hl.1 (Nat.le_of_ble_eq_true rfl) dX10_rule_102 ⟨Nat.le_of_ble_eq_true rfl, Nat.le_of_ble_eq_true rfl⟩) hS ?_
          rintro G102 H locs ⟨hF102, t102⟩ hT hS
          have t102 : ((G102.1 (F a 14) 1).toInt) = 1 ∧ ((G102.1 (F a 14) 2).toInt) = x54.toInt ∧ ((G102.1 (F a 14) 3).toInt) = x99.toInt := t102
          refine lv_bipush (v := (-5)) hx hb dX10_rule_105 (by decide) ?_
          exact x_ri hx hb hr hlk hQ (Nat.le_of_ble_eq_true rfl) (Nat.le_of_ble_eq_true rfl) hS dX10_rule_107 (K, G102) ⟨_, rfl, q11, hq0, hk11, hM, (XFr.call (XFr.call (by rw [hG68]; exact XFr.dput (XFr.call (XFr.call (XFr.call XFr.rf hF4 (xm1 0 rfl xm0) xm0 xm0) hF11 (xm1 3 rfl (xm1 4 rfl (xm1 5 rfl (xm1 6 rfl (xm1 7 rfl (xm1 8 rfl (xm1 9 rfl (xm1 10 rfl (xm1 11 rfl (xm1 12 rfl (xm1 13 rfl (xm1 14 rfl (xm1 15 rfl (xm1 16 rfl (xm1 17 rfl xm0))))))))))))))) xm0 xm0) hF20 (xm1 18 rfl xm0) xm0 xm0) (List.mem_of_getElem? (i := 9) rfl)) hF73 (xm1 19 rfl (xm1 20 rfl xm0)) (xm1 0 rfl (xm1 1 rfl (xm1 2 rfl (xm1 3 rfl (xm1 4 rfl (xm1 5 rfl (xm1 6 rfl (xm1 7 rfl (xm1 8 rfl xm0))))))))) xm0) hF102 (xm1 0 rfl (xm1 1 rfl (xm1 2 rfl xm0))) xm0 xm0), (v_X10_rule_107_10 (F := F) G a x20 G20 G102 n1 t20 ((hF102.1 _ _ (xna (xne_k hk9999b hk9999 (by decide)) (xnj (by decide) (xnj (by decide) xn0)))).trans ((hF73.1 _ _ (xnj (by decide) (xnj (by decide) xn0))).trans (ld_a hG68 (xne_k hk9999b hk11 (by decide)))))), (by rw [((by decide) : Int32.toInt (-5) = (-5 : Int))] <;> exact (v_X10_rule_107_11 (F := F) G a G11 q11 x54 G20 x73 G73 G68 G102 hs11 hf11 oq54 oq73 oq73a c44 t54 c60 t73 c79 ((hF102.2.2 _ xn0).trans ((hF73.2.2 _ xn0).trans ((ld_r hG68).trans ((hF20.2.2 _ xn0).trans ((hF11.2.2 _ xn0).trans (hF4.2.2 _ xn0)))))) ((hF102.2.2 _ xn0).trans ((hF73.2.2 _ xn0).trans ((ld_r hG68).trans ((hF20.2.2 _ xn0).trans ((hF11.2.2 _ xn0).trans (hF4.2.2 _ xn0)))))) ((hF20.2.2 _ xn0).trans ((hF11.2.2 _ xn0).trans (hF4.2.2 _ xn0))) ((fr_A hF102 (fun _ => (xna (xne_k hk11 hk9999 (by decide)) (xna (xne_k hk11 hk9999 (by decide)) (xna (xne_k hk11 hk9999 (by decide)) xn0))))).trans (fr_A hF73 (fun _ => (xna (xne_k hk11 hk9999c (by decide)) (xna (xne_k hk11 hk9999d (by decide)) xn0))))) ((hF102.1 _ _ (xnj (by decide) (xna (xne_k hk9999e hk9999 (by decide)) (xnj (by decide) xn0)))).trans ((hF73.1 _ _ (xnj (by decide) (xnj (by decide) xn0))).trans ((ld_j hG68 (by decide)).trans ((hF20.1 _ _ (xnj (by decide) xn0)).trans ((hF11.1 _ _ (xnj (by decide) (xna (xne_k hk9999e hk9999a (by decide)) (xnj (by decide) (xnj (by decide) (xnj (by decide) (xnj (by decide) (xnj (by decide) (xna (xne_k hk9999e hk11 (by decide)) (xnj (by decide) (xnj (by decide) (xnj (by decide) (xnj (by decide) (xnj (by decide) (xnj (by decide) (xnj (by decide) xn0)))))))))))))))).trans (hF4.1 _ _ (xnj (by decide) xn0))))))) ((ld_j hG68 (by decide)).trans (hF20.1 _ _ (xnj (by decide) xn0))) (ld_at hG68) ((ld_j hG68 (by decide)).trans (hF20.1 _ _ (xnj (by decide) xn0))) ((ld_j hG68 (by decide)).trans (hF20.1 _ _ (xnj (by decide) xn0))) ((ld_j hG68 (by decide)).trans (hF20.1 _ _ (xnj (by decide) xn0))) ((ld_j hG68 (by decide)).trans (hF20.1 _ _ (xnj (by decide) xn0))) ((ld_j hG68 (by decide)).trans (hF20.1 _ _ (xnj (by decide) xn0))) ((ld_j hG68 (by decide)).trans (hF20.1 _ _ (xnj (by decide) xn0))) ((ld_j hG68 (by decide)).trans (hF20.1 _ _ (xnj (by decide) xn0))) ((ld_j hG68 (by decide)).trans (hF20.1 _ _ (xnj (by decide) xn0))))), (v_X10_rule_107_12 (F := F) G102 a G ((hF102.2.2 _ xn0).trans ((hF73.2.2 _ xn0).trans ((ld_r hG68).trans ((hF20.2.2 _ xn0).trans ((hF11.2.2 _ xn0).trans (hF4.2.2 _ xn0)))))))⟩ hT
      · refine lv_bipush (v := (-4)) hx hb dX10_rule_63 (by decide) ?_
        exact x_ri hx hb hr hlk hQ (Nat.le_of_ble_eq_true rfl) (Nat.le_of_ble_eq_true rfl) hS dX10_rule_65 (K, G20) ⟨_, rfl, q11, hq0, hk11, hM, (XFr.call (XFr.call (XFr.call XFr.rf hF4 (xm1 0 rfl xm0) xm0 xm0) hF11 (xm1 3 rfl (xm1 4 rfl (xm1 5 rfl (xm1 6 rfl (xm1 7 rfl (xm1 8 rfl (xm1 9 rfl (xm1 10 rfl (xm1 11 rfl (xm1 12 rfl (xm1 13 rfl (xm1 14 rfl (xm1 15 rfl (xm1 16 rfl (xm1 17 rfl xm0))))))))))))))) xm0 xm0) hF20 (xm1 18 rfl xm0) xm0 xm0), (v_X10_rule_65_13 (F := F) G a x20 G20 n1 t20), (by rw [((by decide) : Int32.toInt (-4) = (-4 : Int))] <;> exact (v_X10_rule_65_14 (F := F) G a x54 G20 q11 hs11 oq54 c44 t54 c60 ((hF20.2.2 _ xn0).trans ((hF11.2.2 _ xn0).trans (hF4.2.2 _ xn0))) ((hF20.2.2 _ xn0).trans ((hF11.2.2 _ xn0).trans (hF4.2.2 _ xn0))) ((hF20.1 _ _ (xnj (by decide) xn0)).trans ((hF11.1 _ _ (xnj (by decide) (xna (xne_k hk9999e hk9999a (by decide)) (xnj (by decide) (xnj (by decide) (xnj (by decide) (xnj (by decide) (xnj (by decide) (xna (xne_k hk9999e hk11 (by decide)) (xnj (by decide) (xnj (by decide) (xnj (by decide) (xnj (by decide) (xnj (by decide) (xnj (by decide) (xnj (by decide) xn0)))))))))))))))).trans (hF4.1 _ _ (xnj (by decide) xn0)))))), (v_X10_rule_65_15 (F := F) G20 a G ((hF20.2.2 _ xn0).trans ((hF11.2.2 _ xn0).trans (hF4.2.2 _ xn0))))⟩ hT
    · refine lv_bipush (v := (-3)) hx hb dX10_rule_47 (by decide) ?_
      exact x_ri hx hb hr hlk hQ (Nat.le_of_ble_eq_true rfl) (Nat.le_of_ble_eq_true rfl) hS dX10_rule_49 (K, G20) ⟨_, rfl, q11, hq0, hk11, hM, (XFr.call (XFr.call (XFr.call XFr.rf hF4 (xm1 0 rfl xm0) xm0 xm0) hF11 (xm1 3 rfl (xm1 4 rfl (xm1 5 rfl (xm1 6 rfl (xm1 7 rfl (xm1 8 rfl (xm1 9 rfl (xm1 10 rfl (xm1 11 rfl (xm1 12 rfl (xm1 13 rfl (xm1 14 rfl (xm1 15 rfl (xm1 16 rfl (xm1 17 rfl xm0))))))))))))))) xm0 xm0) hF20 (xm1 18 rfl xm0) xm0 xm0), (v_X10_rule_49_16 (F := F) G a x20 G20 n1 t20), (by rw [((by decide) : Int32.toInt (-3) = (-3 : Int))] <;> exact (v_X10_rule_49_17 (F := F) G a G20 q11 hs11 c44 ((hF20.2.2 _ xn0).trans ((hF11.2.2 _ xn0).trans (hF4.2.2 _ xn0))) ((hF20.2.2 _ xn0).trans ((hF11.2.2 _ xn0).trans (hF4.2.2 _ xn0))) ((hF20.1 _ _ (xnj (by decide) xn0)).trans ((hF11.1 _ _ (xnj (by decide) (xna (xne_k hk9999e hk9999a (by decide)) (xnj (by decide) (xnj (by decide) (xnj (by decide) (xnj (by decide) (xnj (by decide) (xna (xne_k hk9999e hk11 (by decide)) (xnj (by decide) (xnj (by decide) (xnj (by decide) (xnj (by decide) (xnj (by decide) (xnj (by decide) (xnj (by decide) xn0)))))))))))))))).trans (hF4.1 _ _ (xnj (by decide) xn0)))))), (v_X10_rule_49_18 (F := F) G20 a G ((hF20.2.2 _ xn0).trans ((hF11.2.2 _ xn0).trans (hF4.2.2 _ xn0))))⟩ hT
/-! one row that is other; how many are not marked -/
theorem bI_one {k y : Int32} {Z : Int} (hy : y = (1 : Int32) <<< (k &&& 31)) (hk : k.toInt = Z) (h0 : 0 ≤ Z ∧ Z < 32) (j : Int) (h1 : 0 ≤ j) (h2 : j < 32) : bI y.toInt j = if j = Z then 1 else 0 := by
  have hw : y = (0 : Int32) ||| y := by
    apply Int32.toBitVec_inj.mp
    simp
  have h := bI_set hy hw (X := 0) (by decide) hk h0 j h1 h2
  rw [bI_0] at h
  exact h
def ONb (cg ch : Int → Int) (t0 k0 : Int) : Prop := ∀ t : Int, 0 ≤ t → t < 3 → ∀ k : Int, 0 ≤ k → k < 30 → bI (cg t) k = 0 ∧ (bI (ch t) k = 1 ↔ t = t0 ∧ k = k0)
theorem cel_rset {r : Int → Int} {t k c v t2 k2 c2 : Int} (h : 0 ≤ t ∧ t < 3 ∧ 0 ≤ k ∧ k < 30 ∧ 0 ≤ c ∧ c < 3) (h2 : 0 ≤ t2 ∧ t2 < 3 ∧ 0 ≤ k2 ∧ k2 < 30 ∧ 0 ≤ c2 ∧ c2 < 3) : ((t2 = t ∧ k2 = k ∧ c2 = c) ∧ cel (rset r (90 * t + 30 * c + k) v) t2 k2 c2 = v) ∨ (¬ (t2 = t ∧ k2 = k ∧ c2 = c) ∧ cel (rset r (90 * t + 30 * c + k) v) t2 k2 c2 = cel r t2 k2 c2) := by
  rw [cel_in h2, cel_in h2]
  unfold rset
  by_cases q : 90 * t2 + 30 * c2 + k2 = 90 * t + 30 * c + k
  · rw [if_pos q]; exact Or.inl ⟨by omega, rfl⟩
  · rw [if_neg q]; exact Or.inr ⟨by omega, rfl⟩
theorem ONb.ch {r b cg ch : Int → Int} {t k c v : Int} (h : ONb cg ch t k) (hr : RO r b) (h0 : 0 ≤ t ∧ t < 3 ∧ 0 ≤ k ∧ k < 30 ∧ 0 ≤ c ∧ c < 3) (hc : cel r t k 0 ≠ -2000) (hd : cel r t k c ≠ v) (hv : v ≠ -2000) : CH r (rset r (90 * t + 30 * c + k) v) cg ch := by
  intro t2 a1 a2 k2 b1 b2
  obtain ⟨z1, z2⟩ := h t2 a1 a2 k2 b1 b2
  have e0 := cel_rset (r := r) (v := v) h0 (t2 := t2) (k2 := k2) (c2 := 0) (by omega)
  have e1 := cel_rset (r := r) (v := v) h0 (t2 := t2) (k2 := k2) (c2 := 1) (by omega)
  have e2 := cel_rset (r := r) (v := v) h0 (t2 := t2) (k2 := k2) (c2 := 2) (by omega)
  by_cases m : t2 = t ∧ k2 = k
  · obtain ⟨m1, m2⟩ := m
    subst m1 m2
    rcases (by omega : c = 0 ∨ c = 1 ∨ c = 2) with rfl | rfl | rfl
    · constructor <;> omega
    · constructor <;> omega
    · constructor <;> omega
  · constructor <;> omega
theorem rset_rset (r : Int → Int) (i x v : Int) : rset (rset r i x) i v = rset r i v := by
  funext z
  unfold rset
  by_cases e : z = i
  · rw [if_pos e, if_pos e]
  · rw [if_neg e, if_neg e, if_neg e]
theorem cel_rset_ne {r : Int → Int} {t k c v : Int} (h : 0 ≤ t ∧ t < 3 ∧ 0 ≤ k ∧ k < 30 ∧ 0 ≤ c ∧ c < 3) (hc : cel r t k 0 ≠ -2000) (hv : v ≠ -2000) : cel (rset r (90 * t + 30 * c + k) v) t k 0 ≠ -2000 := by
  have := cel_rset (r := r) (v := v) h (t2 := t) (k2 := k) (c2 := 0) (by omega)
  omega
/-! the least value that all questions bear -/
theorem gaL_le {G : XG} {f : Nat → Option Nat} {r1 r2 : Int → Int} {w : Int} {m n : Nat} (h : m ≤ n) {x : Qt} (hx : x ∈ gaL G f r1 r2 w m) : x ∈ gaL G f r1 r2 w n := by
  induction n with
  | zero =>
    have e : m = 0 := by omega
    rw [e] at hx
    exact hx
  | succ n ih =>
    by_cases g : m = n + 1
    · rw [g] at hx; exact hx
    · exact List.mem_append_left _ (ih (by omega))
theorem gaL_ff {G : XG} {f : Nat → Option Nat} {r1 r2 : Int → Int} {w : Int} {m n : Nat} (h : ffL (gaL G f r1 r2 w m) ≠ -1) (hm : m ≤ n) : ffL (gaL G f r1 r2 w n) ≠ -1 := by
  intro e
  obtain ⟨x, hx, hf⟩ := ffL_yes h
  exact hf (ffL_no e x (gaL_le hm hx))
def LsS (ok : Int → Prop) (is r : Int) : Prop := (r = -2147483648 ∧ ∀ v : Int, -99 ≤ v → v ≤ 99 → v ≠ is → ¬ ok v) ∨ ((-99 ≤ r ∧ r ≤ 99 ∧ r ≠ is) ∧ ok r ∧ ∀ v : Int, -99 ≤ v → v < r → v ≠ is → ¬ ok v)
theorem LsS_no {ok : Int → Prop} {is : Int} (h : ∀ v : Int, -99 ≤ v → v ≤ 99 → v ≠ is → ¬ ok v) : LsS ok is (-2147483648) := Or.inl ⟨rfl, h⟩
theorem LsS_yes {ok : Int → Prop} {is r : Int} (h0 : -99 ≤ r ∧ r ≤ 99 ∧ r ≠ is) (h1 : ok r) (h2 : ∀ v : Int, -99 ≤ v → v < r → v ≠ is → ¬ ok v) : LsS ok is r := Or.inr ⟨h0, h1, h2⟩
theorem LsS_eq {ok ok2 : Int → Prop} {is r r2 : Int} (h : LsS ok is r) (h2 : LsS ok2 is r2) (he : ∀ v, ok v ↔ ok2 v) : r = r2 := by
  rcases h with ⟨a, b⟩ | ⟨⟨a0, a1, a2⟩, b, c⟩
  · rcases h2 with ⟨a', -⟩ | ⟨⟨a0', a1', a2'⟩, b', -⟩
    · exact a.trans a'.symm
    · exact absurd ((he _).mpr b') (b _ a0' a1' a2')
  · rcases h2 with ⟨-, b'⟩ | ⟨⟨a0', a1', a2'⟩, b', c'⟩
    · exact absurd ((he _).mp b) (b' _ a0 a1 a2)
    · apply Classical.byContradiction
      intro g
      rcases Int.lt_or_gt_of_ne g with g | g
      · exact c' r a0 g a2 ((he _).mp b)
      · exact c r2 a0' g a2' ((he _).mpr b')
/-- how many of a row's first n are 0 -/
def czR (f : Nat → Int32) : Nat → Nat
  | 0 => 0
  | n + 1 => czR f n + if (f n).toInt = 0 then 1 else 0
theorem czR_le (f : Nat → Int32) : ∀ n : Nat, czR f n ≤ n
  | 0 => Nat.le_refl _
  | n + 1 => by
    have := czR_le f n
    show czR f n + (if (f n).toInt = 0 then 1 else 0) ≤ n + 1
    split <;> omega
theorem czR_set {f g : Nat → Int32} {i : Nat} (hi : (f i).toInt = 0) (hg : (g i).toInt ≠ 0) (ho : ∀ j, j ≠ i → g j = f j) : ∀ n : Nat, czR g n + (if i < n then 1 else 0) = czR f n
  | 0 => rfl
  | n + 1 => by
    have ih := czR_set hi hg ho n
    show czR g n + (if (g n).toInt = 0 then 1 else 0) + (if i < n + 1 then 1 else 0) = czR f n + (if (f n).toInt = 0 then 1 else 0)
    by_cases e : n = i
    · subst e
      rw [if_neg hg, if_pos (Nat.lt_succ_self _), if_pos hi]
      rw [if_neg (Nat.lt_irrefl _)] at ih
      omega
    · rw [ho n e]
      by_cases q : i < n
      · rw [if_pos q] at ih; rw [if_pos (show i < n + 1 by omega)]; omega
      · rw [if_neg q] at ih; rw [if_neg (show ¬ i < n + 1 by omega)]; omega
theorem czX (f : Nat → Int32) : ∃ n : Nat, n = czR f 90 := ⟨_, rfl⟩
noncomputable def czf (f : Nat → Int32) : Nat := Classical.choose (czX f)
theorem czf_eq (f : Nat → Int32) : czf f = czR f 90 := Classical.choose_spec (czX f)
noncomputable def czI (f : Nat → Int32) : Int := ((czf f : Nat) : Int)
theorem czI_b (f : Nat → Int32) : 0 ≤ czI f ∧ czI f ≤ 90 := by
  have := czR_le f 90
  unfold czI
  rw [czf_eq]
  omega
theorem czI_set {f g : Nat → Int32} {i : Nat} (h : i < 90) (hi : (f i).toInt = 0) (hg : (g i).toInt ≠ 0) (ho : ∀ j, j ≠ i → g j = f j) : czI g + 1 = czI f := by
  have := czR_set hi hg ho 90
  rw [if_pos h] at this
  unfold czI
  rw [czf_eq, czf_eq]
  omega
theorem rset_same (r : Int → Int) (i : Int) : rset r i (r i) = r := by
  funext z
  unfold rset
  by_cases e : z = i
  · rw [if_pos e, e]
  · rw [if_neg e]
theorem mw_at {f : Nat → Int32} {b t k c : Int} (h0 : 0 ≤ t ∧ t < 3 ∧ 0 ≤ k ∧ k < 30 ∧ 0 ≤ c ∧ c < 3) (h1 : aI f (b + 4 * (30 * t + k)) = 1) : mw f b (90 * t + 30 * c + k) = aI f (b + 4 * (30 * t + k) + 1 + c) := by
  have a1 : (90 * t + 30 * c + k) / 90 = t := by omega
  have a2 : (90 * t + 30 * c + k) % 30 = k := by omega
  have a3 : (90 * t + 30 * c + k) / 30 % 3 = c := by omega
  rw [mw_z, if_pos (by omega), a1, a2, a3, if_pos h1]
theorem v_X1_ofOneRow_50_1 {K : Nat → Nat} {F : Nat → Nat → Nat} (a : Nat) (G_2 : XG) (l3_2 : Int32) (p0 : Int32) (p1 : Int32) (N2 : Nat) (x28 : Int32)
    (ha : K a = 3)
    (pz : ∀ t : Int, 0 ≤ t → t < l3_2.toInt → aI (G_2.2.1 (F a 1)) t = 0 ∧ aI (G_2.2.1 (F a 0)) t = 0)
    (e0 : 0 ≤ p0.toInt ∧ p0.toInt < 3 ∧ 0 ≤ p1.toInt ∧ p1.toInt < 30)
    (I2_0 : 0 ≤ l3_2.toInt ∧ l3_2.toInt ≤ 3)
    (I2_1 : (0 : Int) ≤ l3_2.toInt)
    (hm2 : 2147483648 - l3_2.toInt < (((N2) + 1 : Nat) : Int))
    (c4 : (3 : Int) ≤ l3_2.toInt)
    (t28 : (x28.toInt = 1 ∧ 0 ≤ p0.toInt ∧ p0.toInt < 3) ∨ (x28.toInt = 0 ∧ (p0.toInt < 0 ∨ 3 ≤ p0.toInt)))
    (c31 : x28.toInt = 0) :
    ONb (aI (G_2.2.1 (F a 1))) (aI (G_2.2.1 (F a 0))) p0.toInt p1.toInt := by
  first | (exfalso; omega) | skip
  all_goals (
    intro t a1 a2 k b1 b2
    have u0 := aI_pu hG49 rfl rfl rfl (by omega) t a1
    obtain ⟨z1, z2⟩ := pz t a1 (by omega)
    have c1 := bI_one he48 rfl (by omega) k b1 (by omega)
    rw [c_G49_F_a_1, z1, u0, bI_0]
    refine ⟨rfl, ?_⟩
    by_cases e : t = p0.toInt
    · rw [if_pos e, c1]
      by_cases q : k = p1.toInt
      · rw [if_pos q]; exact ⟨fun _ => ⟨e, q⟩, fun _ => rfl⟩
      · rw [if_neg q]; exact ⟨fun h => absurd h (by decide), fun h => absurd h.2 q⟩
    · rw [if_neg e, z2, bI_0]; exact ⟨fun h => absurd h (by decide), fun h => absurd h.1 e⟩)
theorem v_X1_ofOneRow_50_2 {K : Nat → Nat} {F : Nat → Nat → Nat} (a : Nat) (G_2 : XG) (l3_2 : Int32) (p0 : Int32) (p1 : Int32) (N2 : Nat) (x28 : Int32) (x35 : Int32)
    (ha : K a = 3)
    (pz : ∀ t : Int, 0 ≤ t → t < l3_2.toInt → aI (G_2.2.1 (F a 1)) t = 0 ∧ aI (G_2.2.1 (F a 0)) t = 0)
    (e0 : 0 ≤ p0.toInt ∧ p0.toInt < 3 ∧ 0 ≤ p1.toInt ∧ p1.toInt < 30)
    (I2_0 : 0 ≤ l3_2.toInt ∧ l3_2.toInt ≤ 3)
    (I2_1 : (0 : Int) ≤ l3_2.toInt)
    (hm2 : 2147483648 - l3_2.toInt < (((N2) + 1 : Nat) : Int))
    (c4 : (3 : Int) ≤ l3_2.toInt)
    (t28 : (x28.toInt = 1 ∧ 0 ≤ p0.toInt ∧ p0.toInt < 3) ∨ (x28.toInt = 0 ∧ (p0.toInt < 0 ∨ 3 ≤ p0.toInt)))
    (c31 : ¬ (x28.toInt = 0))
    (t35 : (x35.toInt = 1 ∧ 0 ≤ p1.toInt ∧ p1.toInt < 30) ∨ (x35.toInt = 0 ∧ (p1.toInt < 0 ∨ 30 ≤ p1.toInt)))
    (c38 : x35.toInt = 0) :
    ONb (aI (G_2.2.1 (F a 1))) (aI (G_2.2.1 (F a 0))) p0.toInt p1.toInt := by
  first | (exfalso; omega) | skip
  all_goals (
    intro t a1 a2 k b1 b2
    have u0 := aI_pu hG49 rfl rfl rfl (by omega) t a1
    obtain ⟨z1, z2⟩ := pz t a1 (by omega)
    have c1 := bI_one he48 rfl (by omega) k b1 (by omega)
    rw [c_G49_F_a_1, z1, u0, bI_0]
    refine ⟨rfl, ?_⟩
    by_cases e : t = p0.toInt
    · rw [if_pos e, c1]
      by_cases q : k = p1.toInt
      · rw [if_pos q]; exact ⟨fun _ => ⟨e, q⟩, fun _ => rfl⟩
      · rw [if_neg q]; exact ⟨fun h => absurd h (by decide), fun h => absurd h.2 q⟩
    · rw [if_neg e, z2, bI_0]; exact ⟨fun h => absurd h (by decide), fun h => absurd h.1 e⟩)
theorem v_X1_ofOneRow_50_3 {K : Nat → Nat} {F : Nat → Nat → Nat} (a : Nat) (G_2 : XG) (G49 : XG) (p0 : Int32) (x48 : Int32) (l3_2 : Int32) (p1 : Int32) (N2 : Nat) (x28 : Int32) (x35 : Int32)
    (ha : K a = 3)
    (hG49 : G49 = cput G_2 (F a 0) p0.toNatClampNeg x48)
    (pz : ∀ t : Int, 0 ≤ t → t < l3_2.toInt → aI (G_2.2.1 (F a 1)) t = 0 ∧ aI (G_2.2.1 (F a 0)) t = 0)
    (he48 : x48 = (1 : Int32) <<< (p1 &&& 31))
    (e0 : 0 ≤ p0.toInt ∧ p0.toInt < 3 ∧ 0 ≤ p1.toInt ∧ p1.toInt < 30)
    (I2_0 : 0 ≤ l3_2.toInt ∧ l3_2.toInt ≤ 3)
    (I2_1 : (0 : Int) ≤ l3_2.toInt)
    (hm2 : 2147483648 - l3_2.toInt < (((N2) + 1 : Nat) : Int))
    (c4 : (3 : Int) ≤ l3_2.toInt)
    (t28 : (x28.toInt = 1 ∧ 0 ≤ p0.toInt ∧ p0.toInt < 3) ∨ (x28.toInt = 0 ∧ (p0.toInt < 0 ∨ 3 ≤ p0.toInt)))
    (c31 : ¬ (x28.toInt = 0))
    (t35 : (x35.toInt = 1 ∧ 0 ≤ p1.toInt ∧ p1.toInt < 30) ∨ (x35.toInt = 0 ∧ (p1.toInt < 0 ∨ 30 ≤ p1.toInt)))
    (c38 : ¬ (x35.toInt = 0))
    (c_G49_F_a_1 : G49.2.1 (F a 1) = G_2.2.1 (F a 1)) :
    ONb (aI (G49.2.1 (F a 1))) (aI (G49.2.1 (F a 0))) p0.toInt p1.toInt := by
  first | (exfalso; omega) | skip
  all_goals (
    intro t a1 a2 k b1 b2
    have u0 := aI_pu hG49 rfl rfl rfl (by omega) t a1
    obtain ⟨z1, z2⟩ := pz t a1 (by omega)
    have c1 := bI_one he48 rfl (by omega) k b1 (by omega)
    rw [c_G49_F_a_1, z1, u0, bI_0]
    refine ⟨rfl, ?_⟩
    by_cases e : t = p0.toInt
    · rw [if_pos e, c1]
      by_cases q : k = p1.toInt
      · rw [if_pos q]; exact ⟨fun _ => ⟨e, q⟩, fun _ => rfl⟩
      · rw [if_neg q]; exact ⟨fun h => absurd h (by decide), fun h => absurd h.2 q⟩
    · rw [if_neg e, z2, bI_0]; exact ⟨fun h => absurd h (by decide), fun h => absurd h.1 e⟩)
theorem v_X1_ofOneRow_24_4 {K : Nat → Nat} {F : Nat → Nat → Nat} (a : Nat) (G_2 : XG) (G13 : XG) (l3_2 : Int32) (G20 : XG) (p0 : Int32) (p1 : Int32) (N2 : Nat)
    (ha : K a = 3)
    (hG13 : G13 = cput G_2 (F a 1) l3_2.toNatClampNeg 0)
    (hG20 : G20 = cput G13 (F a 0) l3_2.toNatClampNeg 0)
    (pz : ∀ t : Int, 0 ≤ t → t < l3_2.toInt → aI (G_2.2.1 (F a 1)) t = 0 ∧ aI (G_2.2.1 (F a 0)) t = 0)
    (e0 : 0 ≤ p0.toInt ∧ p0.toInt < 3 ∧ 0 ≤ p1.toInt ∧ p1.toInt < 30)
    (I2_0 : 0 ≤ l3_2.toInt ∧ l3_2.toInt ≤ 3)
    (I2_1 : (0 : Int) ≤ l3_2.toInt)
    (hm2 : 2147483648 - l3_2.toInt < (((N2) + 1 : Nat) : Int))
    (c4 : ¬ ((3 : Int) ≤ l3_2.toInt))
    (c_G13_F_a_0 : G13.2.1 (F a 0) = G_2.2.1 (F a 0))
    (c_G20_F_a_1 : G20.2.1 (F a 1) = G13.2.1 (F a 1)) :
    ∀ t : Int, 0 ≤ t → t < (l3_2.toInt + 1) → aI (G20.2.1 (F a 1)) t = 0 ∧ aI (G20.2.1 (F a 0)) t = 0 := by
  intro t h1 h2
  have u1 := aI_pu hG13 rfl rfl (show ((0 : Int32)).toInt = 0 from by decide) (by omega) t h1
  have u0 := aI_pu hG20 c_G13_F_a_0 rfl (show ((0 : Int32)).toInt = 0 from by decide) (by omega) t h1
  rw [c_G20_F_a_1, u1, u0]
  by_cases e : t = l3_2.toInt
  · rw [if_pos e, if_pos e]; exact ⟨rfl, rfl⟩
  · rw [if_neg e, if_neg e]; exact pz t h1 (by omega)
theorem v_X1_ofOneRow_1_5 {K : Nat → Nat} {F : Nat → Nat → Nat} (a : Nat) (p0 : Int32) (p1 : Int32) (G : XG)
    (ha : K a = 3)
    (e0 : 0 ≤ p0.toInt ∧ p0.toInt < 3 ∧ 0 ≤ p1.toInt ∧ p1.toInt < 30) :
    ∀ t : Int, 0 ≤ t → t < (0 : Int) → aI (G.2.1 (F a 1)) t = 0 ∧ aI (G.2.1 (F a 0)) t = 0 := by
  intro t h1 h2; exact absurd h1 (by omega)
theorem v_X10_holdsOnPaper_85_1 {K : Nat → Nat} {F : Nat → Nat → Nat} (a : Nat) (G : XG) (G4 : XG) (G13 : XG) (G_18 : XG) (p0 : Int32) (p1 : Int32) (l3_18 : Int32) (N18 : Nat)
    (ha : K a = 12)
    (oq13 : ONb (aI (G13.2.1 (F (F a 11) 1))) (aI (G13.2.1 (F (F a 11) 0))) p0.toInt p1.toInt)
    (gp : qL G_18 F (F a 9) = gaL G (G.2.2.1 (F (F a 2) 1)) (vw (G.2.1 (F (F a 3) 0))) (vw (G.2.1 (F (F a 5) 0))) 0 (l3_18.toInt).toNat)
    (gn : ffL (qL G_18 F (F a 9)) = -1)
    (sb : 0 ≤ ((G.1 (F a 2) 2).toInt) ∧ ((G.1 (F a 2) 2).toInt) ≤ 12)
    (e0 : 0 ≤ p0.toInt ∧ p0.toInt < 3 ∧ 0 ≤ p1.toInt ∧ p1.toInt < 30)
    (t4 : ((G4.1 (F a 9) 6).toInt) = 0)
    (I18_0 : 0 ≤ l3_18.toInt ∧ l3_18.toInt ≤ ((G.1 (F a 2) 2).toInt))
    (I18_1 : 0 ≤ ((G_18.1 (F a 9) 6).toInt) ∧ ((G_18.1 (F a 9) 6).toInt) ≤ 90 * l3_18.toInt)
    (hm18 : 100 - l3_18.toInt < (((N18) + 1 : Nat) : Int))
    (c26 : ((G.1 (F a 2) 2).toInt) ≤ l3_18.toInt) :
    ((1 : Int) = 1 ∧ ffL (gaL G (G.2.2.1 (F (F a 2) 1)) (vw (G.2.1 (F (F a 3) 0))) (vw (G.2.1 (F (F a 5) 0))) 0 (((G.1 (F a 2) 2).toInt)).toNat) = -1) ∨ ((1 : Int) = 0 ∧ ffL (gaL G (G.2.2.1 (F (F a 2) 1)) (vw (G.2.1 (F (F a 3) 0))) (vw (G.2.1 (F (F a 5) 0))) 0 (((G.1 (F a 2) 2).toInt)).toNat) ≠ -1) := by
  exact Or.inl ⟨rfl, by rw [← show l3_18.toInt.toNat = ((G.1 (F a 2) 2).toInt).toNat from by omega, ← gp]; exact gn⟩
theorem v_X10_holdsOnPaper_81_2 {K : Nat → Nat} {F : Nat → Nat → Nat} (a : Nat) (G : XG) (G4 : XG) (G13 : XG) (G_18 : XG) (p0 : Int32) (p1 : Int32) (l3_18 : Int32) (x69 : Int32) (N18 : Nat)
    (ha : K a = 12)
    (oq13 : ONb (aI (G13.2.1 (F (F a 11) 1))) (aI (G13.2.1 (F (F a 11) 0))) p0.toInt p1.toInt)
    (gp : qL G_18 F (F a 9) = gaL G (G.2.2.1 (F (F a 2) 1)) (vw (G.2.1 (F (F a 3) 0))) (vw (G.2.1 (F (F a 5) 0))) 0 (l3_18.toInt).toNat)
    (gn : ffL (qL G_18 F (F a 9)) = -1)
    (hn34 : (l3_18.toInt < 0 ∨ ((G_18.1 (F a 2) 2).toInt) ≤ l3_18.toInt ∨ 12 ≤ l3_18.toInt) ∨ G_18.2.2.1 (F (F a 2) 1) (l3_18.toInt).toNat = none)
    (sb : 0 ≤ ((G.1 (F a 2) 2).toInt) ∧ ((G.1 (F a 2) 2).toInt) ≤ 12)
    (e0 : 0 ≤ p0.toInt ∧ p0.toInt < 3 ∧ 0 ≤ p1.toInt ∧ p1.toInt < 30)
    (t4 : ((G4.1 (F a 9) 6).toInt) = 0)
    (I18_0 : 0 ≤ l3_18.toInt ∧ l3_18.toInt ≤ ((G.1 (F a 2) 2).toInt))
    (I18_1 : 0 ≤ ((G_18.1 (F a 9) 6).toInt) ∧ ((G_18.1 (F a 9) 6).toInt) ≤ 90 * l3_18.toInt)
    (hm18 : 100 - l3_18.toInt < (((N18) + 1 : Nat) : Int))
    (c26 : ¬ (((G.1 (F a 2) 2).toInt) ≤ l3_18.toInt))
    (t69 : x69.toInt = -1 ∨ (0 ≤ x69.toInt ∧ x69.toInt < ((G_18.1 (F a 9) 6).toInt) ∧ (aI (G_18.2.1 (F (F a 9) 5)) (x69.toInt)) = 1))
    (c73 : x69.toInt = (-1 : Int))
    (r_G_18_F_F_a_2_1 : G_18.2.2.1 (F (F a 2) 1) = G.2.2.1 (F (F a 2) 1))
    (d_G_18_F_a_2_2 : G_18.1 (F a 2) 2 = G.1 (F a 2) 2) :
    qL G_18 F (F a 9) = gaL G (G.2.2.1 (F (F a 2) 1)) (vw (G.2.1 (F (F a 3) 0))) (vw (G.2.1 (F (F a 5) 0))) 0 (l3_18.toInt + 1).toNat := by
  have e : (l3_18.toInt + 1).toNat = l3_18.toInt.toNat + 1 := by omega
  rw [e, gaL_s, ← gp]
  first
    | (rw [r_G_18_F_F_a_2_1] at hs34
       rw [hs34, gaq_t (Or.inl rfl), oq62, D_G_18_q34])
    | (rw [d_G_18_F_a_2_2] at hn34
       rcases hn34 with h | h
       · exfalso; omega
       · rw [r_G_18_F_F_a_2_1] at h
         rw [h]
         exact (List.append_nil _).symm)
theorem v_X10_holdsOnPaper_81_3 {F : Nat → Nat → Nat} (a : Nat) (G_18 : XG) (x69 : Int32)
    (oq69 : ∀ j : Int, 0 ≤ j → j < ((G_18.1 (F a 9) 6).toInt) → (x69.toInt = -1 ∨ j < x69.toInt) → aI (G_18.2.1 (F (F a 9) 5)) j = 0)
    (t69 : x69.toInt = -1 ∨ (0 ≤ x69.toInt ∧ x69.toInt < ((G_18.1 (F a 9) 6).toInt) ∧ (aI (G_18.2.1 (F (F a 9) 5)) (x69.toInt)) = 1))
    (c73 : x69.toInt = (-1 : Int)) :
    ffL (qL G_18 F (F a 9)) = -1 := by
  exact (ff_list t69 oq69).symm.trans c73
theorem v_X10_holdsOnPaper_77_4 {K : Nat → Nat} {F : Nat → Nat → Nat} (a : Nat) (G : XG) (G4 : XG) (G13 : XG) (G_18 : XG) (p0 : Int32) (p1 : Int32) (l3_18 : Int32) (x69 : Int32) (N18 : Nat)
    (ha : K a = 12)
    (oq13 : ONb (aI (G13.2.1 (F (F a 11) 1))) (aI (G13.2.1 (F (F a 11) 0))) p0.toInt p1.toInt)
    (gp : qL G_18 F (F a 9) = gaL G (G.2.2.1 (F (F a 2) 1)) (vw (G.2.1 (F (F a 3) 0))) (vw (G.2.1 (F (F a 5) 0))) 0 (l3_18.toInt).toNat)
    (gn : ffL (qL G_18 F (F a 9)) = -1)
    (hn34 : (l3_18.toInt < 0 ∨ ((G_18.1 (F a 2) 2).toInt) ≤ l3_18.toInt ∨ 12 ≤ l3_18.toInt) ∨ G_18.2.2.1 (F (F a 2) 1) (l3_18.toInt).toNat = none)
    (oq69 : ∀ j : Int, 0 ≤ j → j < ((G_18.1 (F a 9) 6).toInt) → (x69.toInt = -1 ∨ j < x69.toInt) → aI (G_18.2.1 (F (F a 9) 5)) j = 0)
    (sb : 0 ≤ ((G.1 (F a 2) 2).toInt) ∧ ((G.1 (F a 2) 2).toInt) ≤ 12)
    (e0 : 0 ≤ p0.toInt ∧ p0.toInt < 3 ∧ 0 ≤ p1.toInt ∧ p1.toInt < 30)
    (t4 : ((G4.1 (F a 9) 6).toInt) = 0)
    (I18_0 : 0 ≤ l3_18.toInt ∧ l3_18.toInt ≤ ((G.1 (F a 2) 2).toInt))
    (I18_1 : 0 ≤ ((G_18.1 (F a 9) 6).toInt) ∧ ((G_18.1 (F a 9) 6).toInt) ≤ 90 * l3_18.toInt)
    (hm18 : 100 - l3_18.toInt < (((N18) + 1 : Nat) : Int))
    (c26 : ¬ (((G.1 (F a 2) 2).toInt) ≤ l3_18.toInt))
    (t69 : x69.toInt = -1 ∨ (0 ≤ x69.toInt ∧ x69.toInt < ((G_18.1 (F a 9) 6).toInt) ∧ (aI (G_18.2.1 (F (F a 9) 5)) (x69.toInt)) = 1))
    (c73 : ¬ (x69.toInt = (-1 : Int)))
    (r_G_18_F_F_a_2_1 : G_18.2.2.1 (F (F a 2) 1) = G.2.2.1 (F (F a 2) 1)) :
    ((0 : Int) = 1 ∧ ffL (gaL G (G.2.2.1 (F (F a 2) 1)) (vw (G.2.1 (F (F a 3) 0))) (vw (G.2.1 (F (F a 5) 0))) 0 (((G.1 (F a 2) 2).toInt)).toNat) = -1) ∨ ((0 : Int) = 0 ∧ ffL (gaL G (G.2.2.1 (F (F a 2) 1)) (vw (G.2.1 (F (F a 3) 0))) (vw (G.2.1 (F (F a 5) 0))) 0 (((G.1 (F a 2) 2).toInt)).toNat) ≠ -1) := by
  first
    | (have k : ffL (qL G62 F (F a 9)) ≠ -1 := fun h => c73 ((ff_list t69 oq69).trans h)
       rw [show qL G62 F (F a 9) = gaL G (G.2.2.1 (F (F a 2) 1)) (vw (G.2.1 (F (F a 3) 0))) (vw (G.2.1 (F (F a 5) 0))) 0 (l3_18.toInt.toNat + 1) from (by rw [gaL_s, ← gp]; rw [r_G_18_F_F_a_2_1] at hs34; rw [hs34, gaq_t (Or.inl rfl), oq62, D_G_18_q34])] at k
       exact Or.inr ⟨rfl, gaL_ff k (by omega)⟩)
    | exact absurd ((ff_list t69 oq69).trans gn) c73
theorem v_X10_holdsOnPaper_62_5 {F : Nat → Nat → Nat} (a : Nat) (G : XG) (G_18 : XG)
    (ron : RO (vw (G.2.1 (F (F a 3) 0))) (aI (G.2.1 (F (F a 3) 1))))
    (rop : RO (vw (G.2.1 (F (F a 5) 0))) (aI (G.2.1 (F (F a 5) 1))))
    (c_G_18_F_F_a_3_0 : G_18.2.1 (F (F a 3) 0) = G.2.1 (F (F a 3) 0))
    (c_G_18_F_F_a_3_1 : G_18.2.1 (F (F a 3) 1) = G.2.1 (F (F a 3) 1)) :
    RO (vw (G_18.2.1 (F (F a 3) 0))) (aI (G_18.2.1 (F (F a 3) 1))) := by simp only [c_G_18_F_F_a_3_0, c_G_18_F_F_a_3_1]; assumption
theorem v_X10_holdsOnPaper_62_6 {F : Nat → Nat → Nat} (a : Nat) (G : XG) (G_18 : XG)
    (ron : RO (vw (G.2.1 (F (F a 3) 0))) (aI (G.2.1 (F (F a 3) 1))))
    (rop : RO (vw (G.2.1 (F (F a 5) 0))) (aI (G.2.1 (F (F a 5) 1))))
    (c_G_18_F_F_a_5_0 : G_18.2.1 (F (F a 5) 0) = G.2.1 (F (F a 5) 0))
    (c_G_18_F_F_a_5_1 : G_18.2.1 (F (F a 5) 1) = G.2.1 (F (F a 5) 1)) :
    RO (vw (G_18.2.1 (F (F a 5) 0))) (aI (G_18.2.1 (F (F a 5) 1))) := by simp only [c_G_18_F_F_a_5_0, c_G_18_F_F_a_5_1]; assumption
theorem v_X10_holdsOnPaper_62_7 {K : Nat → Nat} {F : Nat → Nat → Nat} (G : XG) (a : Nat) (G_18 : XG) (l3_18 : Int32) (q34 : Nat)
    (bko : BKr K G (G.2.2.1 (F (F a 2) 1)))
    (hs34 : G_18.2.2.1 (F (F a 2) 1) (l3_18.toInt).toNat = some q34)
    (ht34 : 0 ≤ l3_18.toInt ∧ l3_18.toInt < ((G.1 (F a 2) 2).toInt) ∧ l3_18.toInt < 12)
    (r_G_18_F_F_a_2_1 : G_18.2.2.1 (F (F a 2) 1) = G.2.2.1 (F (F a 2) 1))
    (D_G_18_q34 : G_18.1 q34 = G.1 q34) :
    RW (G_18.1 q34) := by
  rw [D_G_18_q34]
  exact (bko l3_18.toInt.toNat q34 (by omega) (by rw [← r_G_18_F_F_a_2_1]; exact hs34)).2
theorem v_X10_holdsOnPaper_62_8 {F : Nat → Nat → Nat} (p0 : Int32) (p1 : Int32) (G : XG) (a : Nat) (G13 : XG) (G_18 : XG)
    (h1 : ∀ cg ch : Int → Int, ONb cg ch p0.toInt p1.toInt → CH (vw (G.2.1 (F (F a 3) 0))) (vw (G.2.1 (F (F a 5) 0))) cg ch)
    (oq13 : ONb (aI (G13.2.1 (F (F a 11) 1))) (aI (G13.2.1 (F (F a 11) 0))) p0.toInt p1.toInt)
    (c_G_18_F_F_a_11_0 : G_18.2.1 (F (F a 11) 0) = G13.2.1 (F (F a 11) 0))
    (c_G_18_F_F_a_11_1 : G_18.2.1 (F (F a 11) 1) = G13.2.1 (F (F a 11) 1))
    (c_G_18_F_F_a_3_0 : G_18.2.1 (F (F a 3) 0) = G.2.1 (F (F a 3) 0))
    (c_G_18_F_F_a_5_0 : G_18.2.1 (F (F a 5) 0) = G.2.1 (F (F a 5) 0)) :
    CH (vw (G_18.2.1 (F (F a 3) 0))) (vw (G_18.2.1 (F (F a 5) 0))) (aI (G_18.2.1 (F (F a 11) 1))) (aI (G_18.2.1 (F (F a 11) 0))) := by
  rw [c_G_18_F_F_a_3_0, c_G_18_F_F_a_5_0, c_G_18_F_F_a_11_1, c_G_18_F_F_a_11_0]
  exact h1 _ _ oq13
theorem v_X10_holdsOnPaper_81_9 {K : Nat → Nat} {F : Nat → Nat → Nat} (a : Nat) (q34 : Nat) (G : XG) (G4 : XG) (G13 : XG) (G_18 : XG) (G62 : XG) (p0 : Int32) (p1 : Int32) (l3_18 : Int32) (x69 : Int32) (N18 : Nat)
    (ha : K a = 12)
    (oq13 : ONb (aI (G13.2.1 (F (F a 11) 1))) (aI (G13.2.1 (F (F a 11) 0))) p0.toInt p1.toInt)
    (gp : qL G_18 F (F a 9) = gaL G (G.2.2.1 (F (F a 2) 1)) (vw (G.2.1 (F (F a 3) 0))) (vw (G.2.1 (F (F a 5) 0))) 0 (l3_18.toInt).toNat)
    (gn : ffL (qL G_18 F (F a 9)) = -1)
    (hs34 : G_18.2.2.1 (F (F a 2) 1) (l3_18.toInt).toNat = some q34)
    (oq62 : qL G62 F (F a 9) = qL G_18 F (F a 9) ++ uqs (vw (G.2.1 (F (F a 3) 0))) (vw (G.2.1 (F (F a 5) 0))) (G_18.1 q34))
    (sb : 0 ≤ ((G.1 (F a 2) 2).toInt) ∧ ((G.1 (F a 2) 2).toInt) ≤ 12)
    (e0 : 0 ≤ p0.toInt ∧ p0.toInt < 3 ∧ 0 ≤ p1.toInt ∧ p1.toInt < 30)
    (t4 : ((G4.1 (F a 9) 6).toInt) = 0)
    (I18_0 : 0 ≤ l3_18.toInt ∧ l3_18.toInt ≤ ((G.1 (F a 2) 2).toInt))
    (I18_1 : 0 ≤ ((G_18.1 (F a 9) 6).toInt) ∧ ((G_18.1 (F a 9) 6).toInt) ≤ 90 * l3_18.toInt)
    (hm18 : 100 - l3_18.toInt < (((N18) + 1 : Nat) : Int))
    (c26 : ¬ (((G.1 (F a 2) 2).toInt) ≤ l3_18.toInt))
    (ht34 : 0 ≤ l3_18.toInt ∧ l3_18.toInt < ((G.1 (F a 2) 2).toInt) ∧ l3_18.toInt < 12)
    (t62 : ((G_18.1 (F a 9) 6).toInt) ≤ ((G62.1 (F a 9) 6).toInt) ∧ ((G62.1 (F a 9) 6).toInt) ≤ ((G_18.1 (F a 9) 6).toInt) + 90)
    (t69 : x69.toInt = -1 ∨ (0 ≤ x69.toInt ∧ x69.toInt < ((G62.1 (F a 9) 6).toInt) ∧ (aI (G62.2.1 (F (F a 9) 5)) (x69.toInt)) = 1))
    (c73 : x69.toInt = (-1 : Int))
    (r_G_18_F_F_a_2_1 : G_18.2.2.1 (F (F a 2) 1) = G.2.2.1 (F (F a 2) 1))
    (D_G_18_q34 : G_18.1 q34 = G.1 q34) :
    qL G62 F (F a 9) = gaL G (G.2.2.1 (F (F a 2) 1)) (vw (G.2.1 (F (F a 3) 0))) (vw (G.2.1 (F (F a 5) 0))) 0 (l3_18.toInt + 1).toNat := by
  have e : (l3_18.toInt + 1).toNat = l3_18.toInt.toNat + 1 := by omega
  rw [e, gaL_s, ← gp]
  first
    | (rw [r_G_18_F_F_a_2_1] at hs34
       rw [hs34, gaq_t (Or.inl rfl), oq62, D_G_18_q34])
    | (rw [d_G_18_F_a_2_2] at hn34
       rcases hn34 with h | h
       · exfalso; omega
       · rw [r_G_18_F_F_a_2_1] at h
         rw [h]
         exact (List.append_nil _).symm)
theorem v_X10_holdsOnPaper_81_10 {F : Nat → Nat → Nat} (a : Nat) (G62 : XG) (x69 : Int32)
    (oq69 : ∀ j : Int, 0 ≤ j → j < ((G62.1 (F a 9) 6).toInt) → (x69.toInt = -1 ∨ j < x69.toInt) → aI (G62.2.1 (F (F a 9) 5)) j = 0)
    (t69 : x69.toInt = -1 ∨ (0 ≤ x69.toInt ∧ x69.toInt < ((G62.1 (F a 9) 6).toInt) ∧ (aI (G62.2.1 (F (F a 9) 5)) (x69.toInt)) = 1))
    (c73 : x69.toInt = (-1 : Int)) :
    ffL (qL G62 F (F a 9)) = -1 := by
  exact (ff_list t69 oq69).symm.trans c73
theorem v_X10_holdsOnPaper_77_11 {K : Nat → Nat} {F : Nat → Nat → Nat} (a : Nat) (q34 : Nat) (G : XG) (G4 : XG) (G13 : XG) (G_18 : XG) (G62 : XG) (p0 : Int32) (p1 : Int32) (l3_18 : Int32) (x69 : Int32) (N18 : Nat)
    (ha : K a = 12)
    (oq13 : ONb (aI (G13.2.1 (F (F a 11) 1))) (aI (G13.2.1 (F (F a 11) 0))) p0.toInt p1.toInt)
    (gp : qL G_18 F (F a 9) = gaL G (G.2.2.1 (F (F a 2) 1)) (vw (G.2.1 (F (F a 3) 0))) (vw (G.2.1 (F (F a 5) 0))) 0 (l3_18.toInt).toNat)
    (gn : ffL (qL G_18 F (F a 9)) = -1)
    (hs34 : G_18.2.2.1 (F (F a 2) 1) (l3_18.toInt).toNat = some q34)
    (oq62 : qL G62 F (F a 9) = qL G_18 F (F a 9) ++ uqs (vw (G.2.1 (F (F a 3) 0))) (vw (G.2.1 (F (F a 5) 0))) (G_18.1 q34))
    (oq69 : ∀ j : Int, 0 ≤ j → j < ((G62.1 (F a 9) 6).toInt) → (x69.toInt = -1 ∨ j < x69.toInt) → aI (G62.2.1 (F (F a 9) 5)) j = 0)
    (sb : 0 ≤ ((G.1 (F a 2) 2).toInt) ∧ ((G.1 (F a 2) 2).toInt) ≤ 12)
    (e0 : 0 ≤ p0.toInt ∧ p0.toInt < 3 ∧ 0 ≤ p1.toInt ∧ p1.toInt < 30)
    (t4 : ((G4.1 (F a 9) 6).toInt) = 0)
    (I18_0 : 0 ≤ l3_18.toInt ∧ l3_18.toInt ≤ ((G.1 (F a 2) 2).toInt))
    (I18_1 : 0 ≤ ((G_18.1 (F a 9) 6).toInt) ∧ ((G_18.1 (F a 9) 6).toInt) ≤ 90 * l3_18.toInt)
    (hm18 : 100 - l3_18.toInt < (((N18) + 1 : Nat) : Int))
    (c26 : ¬ (((G.1 (F a 2) 2).toInt) ≤ l3_18.toInt))
    (ht34 : 0 ≤ l3_18.toInt ∧ l3_18.toInt < ((G.1 (F a 2) 2).toInt) ∧ l3_18.toInt < 12)
    (t62 : ((G_18.1 (F a 9) 6).toInt) ≤ ((G62.1 (F a 9) 6).toInt) ∧ ((G62.1 (F a 9) 6).toInt) ≤ ((G_18.1 (F a 9) 6).toInt) + 90)
    (t69 : x69.toInt = -1 ∨ (0 ≤ x69.toInt ∧ x69.toInt < ((G62.1 (F a 9) 6).toInt) ∧ (aI (G62.2.1 (F (F a 9) 5)) (x69.toInt)) = 1))
    (c73 : ¬ (x69.toInt = (-1 : Int)))
    (r_G_18_F_F_a_2_1 : G_18.2.2.1 (F (F a 2) 1) = G.2.2.1 (F (F a 2) 1))
    (D_G_18_q34 : G_18.1 q34 = G.1 q34) :
    ((0 : Int) = 1 ∧ ffL (gaL G (G.2.2.1 (F (F a 2) 1)) (vw (G.2.1 (F (F a 3) 0))) (vw (G.2.1 (F (F a 5) 0))) 0 (((G.1 (F a 2) 2).toInt)).toNat) = -1) ∨ ((0 : Int) = 0 ∧ ffL (gaL G (G.2.2.1 (F (F a 2) 1)) (vw (G.2.1 (F (F a 3) 0))) (vw (G.2.1 (F (F a 5) 0))) 0 (((G.1 (F a 2) 2).toInt)).toNat) ≠ -1) := by
  first
    | (have k : ffL (qL G62 F (F a 9)) ≠ -1 := fun h => c73 ((ff_list t69 oq69).trans h)
       rw [show qL G62 F (F a 9) = gaL G (G.2.2.1 (F (F a 2) 1)) (vw (G.2.1 (F (F a 3) 0))) (vw (G.2.1 (F (F a 5) 0))) 0 (l3_18.toInt.toNat + 1) from (by rw [gaL_s, ← gp]; rw [r_G_18_F_F_a_2_1] at hs34; rw [hs34, gaq_t (Or.inl rfl), oq62, D_G_18_q34])] at k
       exact Or.inr ⟨rfl, gaL_ff k (by omega)⟩)
    | exact absurd ((ff_list t69 oq69).trans gn) c73
theorem v_X10_holdsOnPaper_17_12 {F : Nat → Nat → Nat} (a : Nat) (G : XG) (G4 : XG) (G13 : XG)
    (t4 : ((G4.1 (F a 9) 6).toInt) = 0)
    (d_G13_F_a_9_6 : G13.1 (F a 9) 6 = G4.1 (F a 9) 6) :
    qL G13 F (F a 9) = gaL G (G.2.2.1 (F (F a 2) 1)) (vw (G.2.1 (F (F a 3) 0))) (vw (G.2.1 (F (F a 5) 0))) 0 (0 : Int).toNat := by
  show lst _ (G13.1 (F a 9) 6).toInt.toNat = []
  rw [d_G13_F_a_9_6, t4]
  rfl
theorem v_X10_holdsOnPaper_17_13 {F : Nat → Nat → Nat} (a : Nat) (G4 : XG) (G13 : XG)
    (t4 : ((G4.1 (F a 9) 6).toInt) = 0)
    (d_G13_F_a_9_6 : G13.1 (F a 9) 6 = G4.1 (F a 9) 6) :
    ffL (qL G13 F (F a 9)) = -1 := by
  have e : qL G13 F (F a 9) = [] := by
    show lst _ (G13.1 (F a 9) 6).toInt.toNat = []
    rw [d_G13_F_a_9_6, t4]
    rfl
  rw [e]
  rfl
theorem v_X10_least_6_1 {F : Nat → Nat → Nat} (a : Nat) (G : XG)
    (ron : RO (vw (G.2.1 (F (F a 3) 0))) (aI (G.2.1 (F (F a 3) 1)))) :
    RO (vw (G.2.1 (F (F a 3) 0))) (aI (G.2.1 (F (F a 3) 1))) := by exact ron
theorem v_X10_least_22_2 {K : Nat → Nat} {F : Nat → Nat → Nat} (a : Nat) (G : XG) (p0 : Int32) (p1 : Int32) (x6 : Int32) (p2 : Int32)
    (ha : K a = 12)
    (sb : 0 ≤ ((G.1 (F a 2) 2).toInt) ∧ ((G.1 (F a 2) 2).toInt) ≤ 12)
    (z5 : ¬ (0 ≤ p0.toInt ∧ p0.toInt < 3 ∧ 0 ≤ p1.toInt ∧ p1.toInt < 30) → (cel (vw (G.2.1 (F (F a 3) 0))) (p0.toInt) (p1.toInt) 0) = -2000)
    (t6 : (x6.toInt = 1 ∧ (cel (vw (G.2.1 (F (F a 3) 0))) (p0.toInt) (p1.toInt) 0) ≠ -2000) ∨ (x6.toInt = 0 ∧ (cel (vw (G.2.1 (F (F a 3) 0))) (p0.toInt) (p1.toInt) 0) = -2000))
    (c9 : x6.toInt = 0) :
    (¬ (cel (vw (G.2.1 (F (F a 3) 0))) p0.toInt p1.toInt 0 ≠ -2000 ∧ 0 ≤ p2.toInt ∧ p2.toInt < 3) ∧ (-2147483648 : Int) = -2147483648) ∨ ((cel (vw (G.2.1 (F (F a 3) 0))) p0.toInt p1.toInt 0 ≠ -2000 ∧ 0 ≤ p2.toInt ∧ p2.toInt < 3) ∧ LsS (fun v => ffL (gaL G (G.2.2.1 (F (F a 2) 1)) (vw (G.2.1 (F (F a 3) 0))) (rset (vw (G.2.1 (F (F a 3) 0))) (90 * p0.toInt + 30 * p2.toInt + p1.toInt) v) 0 (((G.1 (F a 2) 2).toInt)).toNat) = -1) (cel (vw (G.2.1 (F (F a 3) 0))) p0.toInt p1.toInt p2.toInt) (-2147483648 : Int)) := by
  exact Or.inl ⟨by omega, rfl⟩
theorem v_X10_least_43_3 {F : Nat → Nat → Nat} (a : Nat) (G : XG)
    (ron : RO (vw (G.2.1 (F (F a 3) 0))) (aI (G.2.1 (F (F a 3) 1)))) :
    RO (vw (G.2.1 (F (F a 3) 0))) (aI (G.2.1 (F (F a 3) 1))) := by exact ron
theorem v_X10_least_97_4 {K : Nat → Nat} {F : Nat → Nat → Nat} (a : Nat) (G : XG) (G_50 : XG) (p0 : Int32) (p1 : Int32) (p2 : Int32) (l5_50 : Int32) (x6 : Int32) (x13 : Int32) (N50 : Nat)
    (ha : K a = 12)
    (ph : cel (vw (G_50.2.1 (F (F a 5) 0))) p0.toInt p1.toInt 0 ≠ -2000)
    (lp : ∀ v : Int, -99 ≤ v → v < l5_50.toInt → v ≠ cel (vw (G.2.1 (F (F a 3) 0))) p0.toInt p1.toInt p2.toInt → ffL (gaL G (G.2.2.1 (F (F a 2) 1)) (vw (G.2.1 (F (F a 3) 0))) (rset (vw (G.2.1 (F (F a 3) 0))) (90 * p0.toInt + 30 * p2.toInt + p1.toInt) v) 0 ((G.1 (F a 2) 2).toInt).toNat) ≠ -1)
    (sb : 0 ≤ ((G.1 (F a 2) 2).toInt) ∧ ((G.1 (F a 2) 2).toInt) ≤ 12)
    (z5 : ¬ (0 ≤ p0.toInt ∧ p0.toInt < 3 ∧ 0 ≤ p1.toInt ∧ p1.toInt < 30) → (cel (vw (G.2.1 (F (F a 3) 0))) (p0.toInt) (p1.toInt) 0) = -2000)
    (t6 : (x6.toInt = 1 ∧ (cel (vw (G.2.1 (F (F a 3) 0))) (p0.toInt) (p1.toInt) 0) ≠ -2000) ∨ (x6.toInt = 0 ∧ (cel (vw (G.2.1 (F (F a 3) 0))) (p0.toInt) (p1.toInt) 0) = -2000))
    (c9 : ¬ (x6.toInt = 0))
    (t13 : (x13.toInt = 1 ∧ 0 ≤ p2.toInt ∧ p2.toInt < 3) ∨ (x13.toInt = 0 ∧ (p2.toInt < 0 ∨ 3 ≤ p2.toInt)))
    (c16 : x13.toInt ≠ 0)
    (I50_0 : -99 ≤ l5_50.toInt ∧ l5_50.toInt ≤ 100)
    (hm50 : 200 - l5_50.toInt < (((N50) + 1 : Nat) : Int))
    (c54 : (99 : Int) < l5_50.toInt) :
    (¬ (cel (vw (G.2.1 (F (F a 3) 0))) p0.toInt p1.toInt 0 ≠ -2000 ∧ 0 ≤ p2.toInt ∧ p2.toInt < 3) ∧ (-2147483648 : Int) = -2147483648) ∨ ((cel (vw (G.2.1 (F (F a 3) 0))) p0.toInt p1.toInt 0 ≠ -2000 ∧ 0 ≤ p2.toInt ∧ p2.toInt < 3) ∧ LsS (fun v => ffL (gaL G (G.2.2.1 (F (F a 2) 1)) (vw (G.2.1 (F (F a 3) 0))) (rset (vw (G.2.1 (F (F a 3) 0))) (90 * p0.toInt + 30 * p2.toInt + p1.toInt) v) 0 (((G.1 (F a 2) 2).toInt)).toNat) = -1) (cel (vw (G.2.1 (F (F a 3) 0))) p0.toInt p1.toInt p2.toInt) (-2147483648 : Int)) := by
  exact Or.inr ⟨by omega, LsS_no (fun v a1 a2 a3 => lp v a1 (by omega) a3)⟩
theorem v_X10_least_66_5 {F : Nat → Nat → Nat} (a : Nat) (G_50 : XG)
    (ro : RO (vw (G_50.2.1 (F (F a 5) 0))) (aI (G_50.2.1 (F (F a 5) 1)))) :
    RO (vw (G_50.2.1 (F (F a 5) 0))) (aI (G_50.2.1 (F (F a 5) 1))) := by exact ro
theorem v_X10_least_91_6 {F : Nat → Nat → Nat} (G_50 : XG) (a : Nat) (p0 : Int32) (p2 : Int32) (p1 : Int32) (G : XG) (G66 : XG) (l5_50 : Int32)
    (pp : ∀ v : Int, rset (vw (G_50.2.1 (F (F a 5) 0))) (90 * p0.toInt + 30 * p2.toInt + p1.toInt) v = rset (vw (G.2.1 (F (F a 3) 0))) (90 * p0.toInt + 30 * p2.toInt + p1.toInt) v)
    (ph : cel (vw (G_50.2.1 (F (F a 5) 0))) p0.toInt p1.toInt 0 ≠ -2000)
    (oq66 : (vw (G66.2.1 (F (F a 5) 0))) = if cel (vw (G_50.2.1 (F (F a 5) 0))) (p0.toInt) (p1.toInt) 0 ≠ -2000 then rset (vw (G_50.2.1 (F (F a 5) 0))) (90 * (p0.toInt) + 30 * (p2.toInt) + (p1.toInt)) (l5_50.toInt) else (vw (G_50.2.1 (F (F a 5) 0)))) :
    ∀ v : Int, rset (vw (G66.2.1 (F (F a 5) 0))) (90 * p0.toInt + 30 * p2.toInt + p1.toInt) v = rset (vw (G.2.1 (F (F a 3) 0))) (90 * p0.toInt + 30 * p2.toInt + p1.toInt) v := by
  intro v
  (try rw [c_G79_F_F_a_5_0])
  rw [oq66, if_pos ph, rset_rset]
  exact pp v
theorem v_X10_least_91_7 {F : Nat → Nat → Nat} (G66 : XG) (a : Nat) (G_50 : XG)
    (oq66a : RO (vw (G66.2.1 (F (F a 5) 0))) (aI (G66.2.1 (F (F a 5) 1))))
    (c_G66_F_F_a_5_1 : G66.2.1 (F (F a 5) 1) = G_50.2.1 (F (F a 5) 1)) :
    RO (vw (G66.2.1 (F (F a 5) 0))) (aI (G_50.2.1 (F (F a 5) 1))) := by
  (try rw [c_G79_F_F_a_5_0])
  (try rw [c_G79_F_F_a_5_1])
  (try rw [c_G66_F_F_a_5_1] at oq66a)
  exact oq66a
theorem v_X10_least_91_8 {F : Nat → Nat → Nat} (G_50 : XG) (a : Nat) (p0 : Int32) (p1 : Int32) (G66 : XG) (p2 : Int32) (l5_50 : Int32) (G : XG) (x6 : Int32) (x13 : Int32)
    (ph : cel (vw (G_50.2.1 (F (F a 5) 0))) p0.toInt p1.toInt 0 ≠ -2000)
    (oq66 : (vw (G66.2.1 (F (F a 5) 0))) = if cel (vw (G_50.2.1 (F (F a 5) 0))) (p0.toInt) (p1.toInt) 0 ≠ -2000 then rset (vw (G_50.2.1 (F (F a 5) 0))) (90 * (p0.toInt) + 30 * (p2.toInt) + (p1.toInt)) (l5_50.toInt) else (vw (G_50.2.1 (F (F a 5) 0))))
    (z5 : ¬ (0 ≤ p0.toInt ∧ p0.toInt < 3 ∧ 0 ≤ p1.toInt ∧ p1.toInt < 30) → (cel (vw (G.2.1 (F (F a 3) 0))) (p0.toInt) (p1.toInt) 0) = -2000)
    (t6 : (x6.toInt = 1 ∧ (cel (vw (G.2.1 (F (F a 3) 0))) (p0.toInt) (p1.toInt) 0) ≠ -2000) ∨ (x6.toInt = 0 ∧ (cel (vw (G.2.1 (F (F a 3) 0))) (p0.toInt) (p1.toInt) 0) = -2000))
    (c9 : ¬ (x6.toInt = 0))
    (t13 : (x13.toInt = 1 ∧ 0 ≤ p2.toInt ∧ p2.toInt < 3) ∨ (x13.toInt = 0 ∧ (p2.toInt < 0 ∨ 3 ≤ p2.toInt)))
    (c16 : x13.toInt ≠ 0)
    (I50_0 : -99 ≤ l5_50.toInt ∧ l5_50.toInt ≤ 100)
    (c54 : ¬ ((99 : Int) < l5_50.toInt)) :
    cel (vw (G66.2.1 (F (F a 5) 0))) p0.toInt p1.toInt 0 ≠ -2000 := by
  (try rw [c_G79_F_F_a_5_0])
  rw [oq66, if_pos ph]
  exact cel_rset_ne (by omega) ph (by omega)
theorem v_X10_least_91_9 {K : Nat → Nat} {F : Nat → Nat → Nat} (a : Nat) (G : XG) (G66 : XG) (G_50 : XG) (p0 : Int32) (p1 : Int32) (p2 : Int32) (l5_50 : Int32) (x6 : Int32) (x13 : Int32) (N50 : Nat)
    (ha : K a = 12)
    (hk9999 : K (F a 11) = 3)
    (hj9999 : F (F a 11) 99 = 0)
    (hk9999a : K (F a 9) = 6)
    (hj9999a : F (F a 9) 99 = 1)
    (hk9999b : K (F (F a 11) 0) = 21)
    (hj9999b : F (F (F a 11) 0) 99 = 100)
    (hk9999c : K (F (F a 11) 1) = 21)
    (hj9999c : F (F (F a 11) 1) 99 = 101)
    (hk9999d : K (F (F a 11) 2) = 24)
    (hj9999d : F (F (F a 11) 2) 99 = 4)
    (hk9999e : K (F (F a 9) 0) = 22)
    (hj9999f : F (F (F a 9) 0) 99 = 10 * 1 + 0)
    (hk9999f : K (F (F a 9) 1) = 22)
    (hj9999h : F (F (F a 9) 1) 99 = 10 * 1 + 1)
    (hk9999g : K (F (F a 9) 2) = 22)
    (hj9999j : F (F (F a 9) 2) 99 = 10 * 1 + 2)
    (hk9999h : K (F (F a 9) 3) = 22)
    (hj9999l : F (F (F a 9) 3) 99 = 10 * 1 + 3)
    (hk9999i : K (F (F a 9) 4) = 23)
    (hj9999n : F (F (F a 9) 4) 99 = 10 * 1 + 4)
    (hk9999j : K (F (F a 9) 5) = 23)
    (hj9999p : F (F (F a 9) 5) 99 = 10 * 1 + 5)
    (hk9999k : K (F a 5) = 8)
    (hj9999q : F (F a 5) 99 = 2)
    (hk9999l : K (F (F a 5) 0) = 20)
    (hj9999s : F (F (F a 5) 0) 99 = 2)
    (hk9999m : K (F (F a 5) 1) = 21)
    (hj9999u : F (F (F a 5) 1) 99 = 2)
    (hk9999n : K (F a 2) = 2)
    (hj9999v : F (F a 2) 99 = 0)
    (hk9999o : K (F (F a 2) 1) = 15)
    (hj9999w : F (F (F a 2) 1) 99 = 1)
    (hk9999p : K (F a 3) = 8)
    (hj9999y : F (F a 3) 99 = 0)
    (hk9999q : K (F (F a 3) 0) = 20)
    (hj9999z26 : F (F (F a 3) 0) 99 = 0)
    (hk9999r : K (F (F a 3) 1) = 21)
    (hj9999z28 : F (F (F a 3) 1) 99 = 0)
    (hfr : XFr [(F a 11, 3), (F a 9, 6)] [F (F a 11) 0, F (F a 11) 1, F (F a 11) 2, F (F a 9) 0, F (F a 9) 1, F (F a 9) 2, F (F a 9) 3, F (F a 9) 4, F (F a 9) 5, F (F a 5) 0, F (F a 5) 1] [] G G66)
    (bko : BKr K G (G.2.2.1 (F (F a 2) 1)))
    (pp : ∀ v : Int, rset (vw (G_50.2.1 (F (F a 5) 0))) (90 * p0.toInt + 30 * p2.toInt + p1.toInt) v = rset (vw (G.2.1 (F (F a 3) 0))) (90 * p0.toInt + 30 * p2.toInt + p1.toInt) v)
    (ph : cel (vw (G_50.2.1 (F (F a 5) 0))) p0.toInt p1.toInt 0 ≠ -2000)
    (lp : ∀ v : Int, -99 ≤ v → v < l5_50.toInt → v ≠ cel (vw (G.2.1 (F (F a 3) 0))) p0.toInt p1.toInt p2.toInt → ffL (gaL G (G.2.2.1 (F (F a 2) 1)) (vw (G.2.1 (F (F a 3) 0))) (rset (vw (G.2.1 (F (F a 3) 0))) (90 * p0.toInt + 30 * p2.toInt + p1.toInt) v) 0 ((G.1 (F a 2) 2).toInt).toNat) ≠ -1)
    (oq66 : (vw (G66.2.1 (F (F a 5) 0))) = if cel (vw (G_50.2.1 (F (F a 5) 0))) (p0.toInt) (p1.toInt) 0 ≠ -2000 then rset (vw (G_50.2.1 (F (F a 5) 0))) (90 * (p0.toInt) + 30 * (p2.toInt) + (p1.toInt)) (l5_50.toInt) else (vw (G_50.2.1 (F (F a 5) 0))))
    (sb : 0 ≤ ((G.1 (F a 2) 2).toInt) ∧ ((G.1 (F a 2) 2).toInt) ≤ 12)
    (z5 : ¬ (0 ≤ p0.toInt ∧ p0.toInt < 3 ∧ 0 ≤ p1.toInt ∧ p1.toInt < 30) → (cel (vw (G.2.1 (F (F a 3) 0))) (p0.toInt) (p1.toInt) 0) = -2000)
    (t6 : (x6.toInt = 1 ∧ (cel (vw (G.2.1 (F (F a 3) 0))) (p0.toInt) (p1.toInt) 0) ≠ -2000) ∨ (x6.toInt = 0 ∧ (cel (vw (G.2.1 (F (F a 3) 0))) (p0.toInt) (p1.toInt) 0) = -2000))
    (c9 : ¬ (x6.toInt = 0))
    (t13 : (x13.toInt = 1 ∧ 0 ≤ p2.toInt ∧ p2.toInt < 3) ∨ (x13.toInt = 0 ∧ (p2.toInt < 0 ∨ 3 ≤ p2.toInt)))
    (c16 : x13.toInt ≠ 0)
    (I50_0 : -99 ≤ l5_50.toInt ∧ l5_50.toInt ≤ 100)
    (hm50 : 200 - l5_50.toInt < (((N50) + 1 : Nat) : Int))
    (c54 : ¬ ((99 : Int) < l5_50.toInt))
    (c73 : l5_50.toInt = (cel (vw (G.2.1 (F (F a 3) 0))) (p0.toInt) (p1.toInt) (p2.toInt)))
    (r_G66_F_F_a_2_1 : G66.2.2.1 (F (F a 2) 1) = G.2.2.1 (F (F a 2) 1)) :
    ∀ v : Int, -99 ≤ v → v < (l5_50.toInt + 1) → v ≠ cel (vw (G.2.1 (F (F a 3) 0))) p0.toInt p1.toInt p2.toInt → ffL (gaL G (G.2.2.1 (F (F a 2) 1)) (vw (G.2.1 (F (F a 3) 0))) (rset (vw (G.2.1 (F (F a 3) 0))) (90 * p0.toInt + 30 * p2.toInt + p1.toInt) v) 0 ((G.1 (F a 2) 2).toInt).toNat) ≠ -1 := by
  first
    | (intro v a1 a2 a3
       exact lp v a1 (by omega) a3)
    | (have hd : ∀ p, p ∈ [(F a 11, 3), (F a 9, 6)] → K p.1 ≠ 9 := (List.forall_mem_cons.mpr ⟨(show K (F a 11) ≠ 9 by omega), List.forall_mem_cons.mpr ⟨(show K (F a 9) ≠ 9 by omega), fun _ h => by cases h⟩⟩)
       have hq : ∀ q : Nat, K q = 9 → G66.1 q = G.1 q := fun q hk => (hF79.rule hd hk).symm.trans (hfr.rule hd hk)
       have hc : ∀ (i q : Nat), i < ((G.1 (F a 2) 2).toInt).toNat → G.2.2.1 (F (F a 2) 1) i = some q → G66.1 q = G.1 q := fun i q hi hq9 => hq q (bko i q (by omega) hq9).1
       rw [oq66, if_pos ph, pp, r_G66_F_F_a_2_1, gaL_cg hc] at oq79
       intro v a1 a2 a3
       by_cases e : v = l5_50.toInt
       · rw [e]; exact (oq79.resolve_left (fun h => absurd h.1 (by omega))).2
       · exact lp v a1 (by omega) a3)
theorem v_X10_least_79_10 {F : Nat → Nat → Nat} (a : Nat) (G : XG) (G66 : XG) (G43 : XG) (G_50 : XG)
    (ron : RO (vw (G.2.1 (F (F a 3) 0))) (aI (G.2.1 (F (F a 3) 1))))
    (oq43a : RO (vw (G43.2.1 (F (F a 5) 0))) (aI (G43.2.1 (F (F a 5) 1))))
    (ro : RO (vw (G_50.2.1 (F (F a 5) 0))) (aI (G_50.2.1 (F (F a 5) 1))))
    (oq66a : RO (vw (G66.2.1 (F (F a 5) 0))) (aI (G66.2.1 (F (F a 5) 1))))
    (c_G66_F_F_a_3_0 : G66.2.1 (F (F a 3) 0) = G.2.1 (F (F a 3) 0))
    (c_G66_F_F_a_3_1 : G66.2.1 (F (F a 3) 1) = G.2.1 (F (F a 3) 1)) :
    RO (vw (G66.2.1 (F (F a 3) 0))) (aI (G66.2.1 (F (F a 3) 1))) := by simp only [c_G66_F_F_a_3_0, c_G66_F_F_a_3_1]; assumption
theorem v_X10_least_79_11 {F : Nat → Nat → Nat} (G66 : XG) (a : Nat)
    (oq66a : RO (vw (G66.2.1 (F (F a 5) 0))) (aI (G66.2.1 (F (F a 5) 1)))) :
    RO (vw (G66.2.1 (F (F a 5) 0))) (aI (G66.2.1 (F (F a 5) 1))) := by
  exact oq66a
theorem v_X10_least_79_12 {K : Nat → Nat} {F : Nat → Nat → Nat} (a : Nat) (G : XG) (G66 : XG) (G43 : XG) (G_50 : XG) (x30 : Int32) (p0 : Int32) (p1 : Int32) (p2 : Int32) (l5_50 : Int32) (x6 : Int32) (x13 : Int32) (N50 : Nat)
    (ha : K a = 12)
    (hk9999 : K (F a 11) = 3)
    (hj9999 : F (F a 11) 99 = 0)
    (hk9999a : K (F a 9) = 6)
    (hj9999a : F (F a 9) 99 = 1)
    (hk9999b : K (F (F a 11) 0) = 21)
    (hj9999b : F (F (F a 11) 0) 99 = 100)
    (hk9999c : K (F (F a 11) 1) = 21)
    (hj9999c : F (F (F a 11) 1) 99 = 101)
    (hk9999d : K (F (F a 11) 2) = 24)
    (hj9999d : F (F (F a 11) 2) 99 = 4)
    (hk9999e : K (F (F a 9) 0) = 22)
    (hj9999f : F (F (F a 9) 0) 99 = 10 * 1 + 0)
    (hk9999f : K (F (F a 9) 1) = 22)
    (hj9999h : F (F (F a 9) 1) 99 = 10 * 1 + 1)
    (hk9999g : K (F (F a 9) 2) = 22)
    (hj9999j : F (F (F a 9) 2) 99 = 10 * 1 + 2)
    (hk9999h : K (F (F a 9) 3) = 22)
    (hj9999l : F (F (F a 9) 3) 99 = 10 * 1 + 3)
    (hk9999i : K (F (F a 9) 4) = 23)
    (hj9999n : F (F (F a 9) 4) 99 = 10 * 1 + 4)
    (hk9999j : K (F (F a 9) 5) = 23)
    (hj9999p : F (F (F a 9) 5) 99 = 10 * 1 + 5)
    (hk9999k : K (F a 5) = 8)
    (hj9999q : F (F a 5) 99 = 2)
    (hk9999l : K (F (F a 5) 0) = 20)
    (hj9999s : F (F (F a 5) 0) 99 = 2)
    (hk9999m : K (F (F a 5) 1) = 21)
    (hj9999u : F (F (F a 5) 1) 99 = 2)
    (hk9999n : K (F a 2) = 2)
    (hj9999v : F (F a 2) 99 = 0)
    (hk9999o : K (F (F a 2) 1) = 15)
    (hj9999w : F (F (F a 2) 1) 99 = 1)
    (hk9999p : K (F a 3) = 8)
    (hj9999y : F (F a 3) 99 = 0)
    (hk9999q : K (F (F a 3) 0) = 20)
    (hj9999z26 : F (F (F a 3) 0) 99 = 0)
    (hk9999r : K (F (F a 3) 1) = 21)
    (hj9999z28 : F (F (F a 3) 1) 99 = 0)
    (hfr : XFr [(F a 11, 3), (F a 9, 6)] [F (F a 11) 0, F (F a 11) 1, F (F a 11) 2, F (F a 9) 0, F (F a 9) 1, F (F a 9) 2, F (F a 9) 3, F (F a 9) 4, F (F a 9) 5, F (F a 5) 0, F (F a 5) 1] [] G G66)
    (hF43 : XFr [] [F (F a 5) 0, F (F a 5) 1] [] G G43)
    (hF_50 : XFr [(F a 11, 3), (F a 9, 6)] [F (F a 11) 0, F (F a 11) 1, F (F a 11) 2, F (F a 9) 0, F (F a 9) 1, F (F a 9) 2, F (F a 9) 3, F (F a 9) 4, F (F a 9) 5, F (F a 5) 0, F (F a 5) 1] [] G43 G_50)
    (hF66 : XFr [] [F (F a 5) 0] [] G_50 G66)
    (ron : RO (vw (G.2.1 (F (F a 3) 0))) (aI (G.2.1 (F (F a 3) 1))))
    (bko : BKr K G (G.2.2.1 (F (F a 2) 1)))
    (t30 : x30.toInt = (cel (vw (G.2.1 (F (F a 3) 0))) (p0.toInt) (p1.toInt) (p2.toInt)))
    (oq43 : (vw (G43.2.1 (F (F a 5) 0))) = (vw (G.2.1 (F (F a 3) 0))))
    (oq43a : RO (vw (G43.2.1 (F (F a 5) 0))) (aI (G43.2.1 (F (F a 5) 1))))
    (pp : ∀ v : Int, rset (vw (G_50.2.1 (F (F a 5) 0))) (90 * p0.toInt + 30 * p2.toInt + p1.toInt) v = rset (vw (G.2.1 (F (F a 3) 0))) (90 * p0.toInt + 30 * p2.toInt + p1.toInt) v)
    (ro : RO (vw (G_50.2.1 (F (F a 5) 0))) (aI (G_50.2.1 (F (F a 5) 1))))
    (ph : cel (vw (G_50.2.1 (F (F a 5) 0))) p0.toInt p1.toInt 0 ≠ -2000)
    (lp : ∀ v : Int, -99 ≤ v → v < l5_50.toInt → v ≠ cel (vw (G.2.1 (F (F a 3) 0))) p0.toInt p1.toInt p2.toInt → ffL (gaL G (G.2.2.1 (F (F a 2) 1)) (vw (G.2.1 (F (F a 3) 0))) (rset (vw (G.2.1 (F (F a 3) 0))) (90 * p0.toInt + 30 * p2.toInt + p1.toInt) v) 0 ((G.1 (F a 2) 2).toInt).toNat) ≠ -1)
    (oq66 : (vw (G66.2.1 (F (F a 5) 0))) = if cel (vw (G_50.2.1 (F (F a 5) 0))) (p0.toInt) (p1.toInt) 0 ≠ -2000 then rset (vw (G_50.2.1 (F (F a 5) 0))) (90 * (p0.toInt) + 30 * (p2.toInt) + (p1.toInt)) (l5_50.toInt) else (vw (G_50.2.1 (F (F a 5) 0))))
    (oq66a : RO (vw (G66.2.1 (F (F a 5) 0))) (aI (G66.2.1 (F (F a 5) 1))))
    (sb : 0 ≤ ((G.1 (F a 2) 2).toInt) ∧ ((G.1 (F a 2) 2).toInt) ≤ 12)
    (z5 : ¬ (0 ≤ p0.toInt ∧ p0.toInt < 3 ∧ 0 ≤ p1.toInt ∧ p1.toInt < 30) → (cel (vw (G.2.1 (F (F a 3) 0))) (p0.toInt) (p1.toInt) 0) = -2000)
    (t6 : (x6.toInt = 1 ∧ (cel (vw (G.2.1 (F (F a 3) 0))) (p0.toInt) (p1.toInt) 0) ≠ -2000) ∨ (x6.toInt = 0 ∧ (cel (vw (G.2.1 (F (F a 3) 0))) (p0.toInt) (p1.toInt) 0) = -2000))
    (c9 : ¬ (x6.toInt = 0))
    (t13 : (x13.toInt = 1 ∧ 0 ≤ p2.toInt ∧ p2.toInt < 3) ∨ (x13.toInt = 0 ∧ (p2.toInt < 0 ∨ 3 ≤ p2.toInt)))
    (c16 : x13.toInt ≠ 0)
    (I50_0 : -99 ≤ l5_50.toInt ∧ l5_50.toInt ≤ 100)
    (hm50 : 200 - l5_50.toInt < (((N50) + 1 : Nat) : Int))
    (c54 : ¬ ((99 : Int) < l5_50.toInt))
    (c73 : ¬ (l5_50.toInt = (cel (vw (G.2.1 (F (F a 3) 0))) (p0.toInt) (p1.toInt) (p2.toInt))))
    (c_G66_F_F_a_11_0 : G66.2.1 (F (F a 11) 0) = G_50.2.1 (F (F a 11) 0))
    (c_G66_F_F_a_11_1 : G66.2.1 (F (F a 11) 1) = G_50.2.1 (F (F a 11) 1))
    (c_G66_F_F_a_11_2 : G66.2.1 (F (F a 11) 2) = G_50.2.1 (F (F a 11) 2))
    (c_G66_F_F_a_3_0 : G66.2.1 (F (F a 3) 0) = G.2.1 (F (F a 3) 0))
    (c_G66_F_F_a_5_1 : G66.2.1 (F (F a 5) 1) = G_50.2.1 (F (F a 5) 1))
    (c_G66_F_F_a_9_0 : G66.2.1 (F (F a 9) 0) = G_50.2.1 (F (F a 9) 0))
    (c_G66_F_F_a_9_1 : G66.2.1 (F (F a 9) 1) = G_50.2.1 (F (F a 9) 1))
    (c_G66_F_F_a_9_2 : G66.2.1 (F (F a 9) 2) = G_50.2.1 (F (F a 9) 2))
    (c_G66_F_F_a_9_3 : G66.2.1 (F (F a 9) 3) = G_50.2.1 (F (F a 9) 3))
    (c_G66_F_F_a_9_4 : G66.2.1 (F (F a 9) 4) = G_50.2.1 (F (F a 9) 4))
    (c_G66_F_F_a_9_5 : G66.2.1 (F (F a 9) 5) = G_50.2.1 (F (F a 9) 5))
    (r_G66_F_F_a_2_1 : G66.2.2.1 (F (F a 2) 1) = G.2.2.1 (F (F a 2) 1))
    (d_G66_F_a_11_3 : G66.1 (F a 11) 3 = G_50.1 (F a 11) 3)
    (d_G66_F_a_9_6 : G66.1 (F a 9) 6 = G_50.1 (F a 9) 6) :
    BKr K G66 (G66.2.2.1 (F (F a 2) 1)) := by
  have hd : ∀ p, p ∈ [(F a 11, 3), (F a 9, 6)] → K p.1 ≠ 9 := (List.forall_mem_cons.mpr ⟨(show K (F a 11) ≠ 9 by omega), List.forall_mem_cons.mpr ⟨(show K (F a 9) ≠ 9 by omega), fun _ h => by cases h⟩⟩)
  rw [show G66.2.2.1 (F (F a 2) 1) = G.2.2.1 (F (F a 2) 1) by assumption]
  exact bko.fr hfr hd
theorem v_X10_least_79_13 {F : Nat → Nat → Nat} (G : XG) (a : Nat) (p0 : Int32) (p1 : Int32) (p2 : Int32) (G_50 : XG) (G66 : XG) (l5_50 : Int32) (x6 : Int32) (x13 : Int32)
    (ron : RO (vw (G.2.1 (F (F a 3) 0))) (aI (G.2.1 (F (F a 3) 1))))
    (pp : ∀ v : Int, rset (vw (G_50.2.1 (F (F a 5) 0))) (90 * p0.toInt + 30 * p2.toInt + p1.toInt) v = rset (vw (G.2.1 (F (F a 3) 0))) (90 * p0.toInt + 30 * p2.toInt + p1.toInt) v)
    (ph : cel (vw (G_50.2.1 (F (F a 5) 0))) p0.toInt p1.toInt 0 ≠ -2000)
    (oq66 : (vw (G66.2.1 (F (F a 5) 0))) = if cel (vw (G_50.2.1 (F (F a 5) 0))) (p0.toInt) (p1.toInt) 0 ≠ -2000 then rset (vw (G_50.2.1 (F (F a 5) 0))) (90 * (p0.toInt) + 30 * (p2.toInt) + (p1.toInt)) (l5_50.toInt) else (vw (G_50.2.1 (F (F a 5) 0))))
    (z5 : ¬ (0 ≤ p0.toInt ∧ p0.toInt < 3 ∧ 0 ≤ p1.toInt ∧ p1.toInt < 30) → (cel (vw (G.2.1 (F (F a 3) 0))) (p0.toInt) (p1.toInt) 0) = -2000)
    (t6 : (x6.toInt = 1 ∧ (cel (vw (G.2.1 (F (F a 3) 0))) (p0.toInt) (p1.toInt) 0) ≠ -2000) ∨ (x6.toInt = 0 ∧ (cel (vw (G.2.1 (F (F a 3) 0))) (p0.toInt) (p1.toInt) 0) = -2000))
    (c9 : ¬ (x6.toInt = 0))
    (t13 : (x13.toInt = 1 ∧ 0 ≤ p2.toInt ∧ p2.toInt < 3) ∨ (x13.toInt = 0 ∧ (p2.toInt < 0 ∨ 3 ≤ p2.toInt)))
    (c16 : x13.toInt ≠ 0)
    (I50_0 : -99 ≤ l5_50.toInt ∧ l5_50.toInt ≤ 100)
    (c54 : ¬ ((99 : Int) < l5_50.toInt))
    (c73 : ¬ (l5_50.toInt = (cel (vw (G.2.1 (F (F a 3) 0))) (p0.toInt) (p1.toInt) (p2.toInt))))
    (c_G66_F_F_a_3_0 : G66.2.1 (F (F a 3) 0) = G.2.1 (F (F a 3) 0)) :
    ∀ cg ch : Int → Int, ONb cg ch p0.toInt p1.toInt → CH (vw (G66.2.1 (F (F a 3) 0))) (vw (G66.2.1 (F (F a 5) 0))) cg ch := by
  intro cg ch h
  rw [c_G66_F_F_a_3_0, oq66, if_pos ph, pp]
  exact h.ch ron (by omega) (by omega) (by omega) (by omega)
theorem v_X10_least_91_14 {F : Nat → Nat → Nat} (G_50 : XG) (a : Nat) (p0 : Int32) (p2 : Int32) (p1 : Int32) (G : XG) (G66 : XG) (l5_50 : Int32) (G79 : XG)
    (pp : ∀ v : Int, rset (vw (G_50.2.1 (F (F a 5) 0))) (90 * p0.toInt + 30 * p2.toInt + p1.toInt) v = rset (vw (G.2.1 (F (F a 3) 0))) (90 * p0.toInt + 30 * p2.toInt + p1.toInt) v)
    (ph : cel (vw (G_50.2.1 (F (F a 5) 0))) p0.toInt p1.toInt 0 ≠ -2000)
    (oq66 : (vw (G66.2.1 (F (F a 5) 0))) = if cel (vw (G_50.2.1 (F (F a 5) 0))) (p0.toInt) (p1.toInt) 0 ≠ -2000 then rset (vw (G_50.2.1 (F (F a 5) 0))) (90 * (p0.toInt) + 30 * (p2.toInt) + (p1.toInt)) (l5_50.toInt) else (vw (G_50.2.1 (F (F a 5) 0))))
    (c_G79_F_F_a_5_0 : G79.2.1 (F (F a 5) 0) = G66.2.1 (F (F a 5) 0)) :
    ∀ v : Int, rset (vw (G66.2.1 (F (F a 5) 0))) (90 * p0.toInt + 30 * p2.toInt + p1.toInt) v = rset (vw (G.2.1 (F (F a 3) 0))) (90 * p0.toInt + 30 * p2.toInt + p1.toInt) v := by
  intro v
  (try rw [c_G79_F_F_a_5_0])
  rw [oq66, if_pos ph, rset_rset]
  exact pp v
theorem v_X10_least_91_15 {F : Nat → Nat → Nat} (G66 : XG) (a : Nat) (G_50 : XG) (G79 : XG)
    (oq66a : RO (vw (G66.2.1 (F (F a 5) 0))) (aI (G66.2.1 (F (F a 5) 1))))
    (c_G66_F_F_a_5_1 : G66.2.1 (F (F a 5) 1) = G_50.2.1 (F (F a 5) 1))
    (c_G79_F_F_a_5_0 : G79.2.1 (F (F a 5) 0) = G66.2.1 (F (F a 5) 0))
    (c_G79_F_F_a_5_1 : G79.2.1 (F (F a 5) 1) = G_50.2.1 (F (F a 5) 1)) :
    RO (vw (G66.2.1 (F (F a 5) 0))) (aI (G_50.2.1 (F (F a 5) 1))) := by
  (try rw [c_G79_F_F_a_5_0])
  (try rw [c_G79_F_F_a_5_1])
  (try rw [c_G66_F_F_a_5_1] at oq66a)
  exact oq66a
theorem v_X10_least_91_16 {F : Nat → Nat → Nat} (G_50 : XG) (a : Nat) (p0 : Int32) (p1 : Int32) (G66 : XG) (p2 : Int32) (l5_50 : Int32) (G : XG) (x6 : Int32) (x13 : Int32) (G79 : XG)
    (ph : cel (vw (G_50.2.1 (F (F a 5) 0))) p0.toInt p1.toInt 0 ≠ -2000)
    (oq66 : (vw (G66.2.1 (F (F a 5) 0))) = if cel (vw (G_50.2.1 (F (F a 5) 0))) (p0.toInt) (p1.toInt) 0 ≠ -2000 then rset (vw (G_50.2.1 (F (F a 5) 0))) (90 * (p0.toInt) + 30 * (p2.toInt) + (p1.toInt)) (l5_50.toInt) else (vw (G_50.2.1 (F (F a 5) 0))))
    (z5 : ¬ (0 ≤ p0.toInt ∧ p0.toInt < 3 ∧ 0 ≤ p1.toInt ∧ p1.toInt < 30) → (cel (vw (G.2.1 (F (F a 3) 0))) (p0.toInt) (p1.toInt) 0) = -2000)
    (t6 : (x6.toInt = 1 ∧ (cel (vw (G.2.1 (F (F a 3) 0))) (p0.toInt) (p1.toInt) 0) ≠ -2000) ∨ (x6.toInt = 0 ∧ (cel (vw (G.2.1 (F (F a 3) 0))) (p0.toInt) (p1.toInt) 0) = -2000))
    (c9 : ¬ (x6.toInt = 0))
    (t13 : (x13.toInt = 1 ∧ 0 ≤ p2.toInt ∧ p2.toInt < 3) ∨ (x13.toInt = 0 ∧ (p2.toInt < 0 ∨ 3 ≤ p2.toInt)))
    (c16 : x13.toInt ≠ 0)
    (I50_0 : -99 ≤ l5_50.toInt ∧ l5_50.toInt ≤ 100)
    (c54 : ¬ ((99 : Int) < l5_50.toInt))
    (c_G79_F_F_a_5_0 : G79.2.1 (F (F a 5) 0) = G66.2.1 (F (F a 5) 0)) :
    cel (vw (G66.2.1 (F (F a 5) 0))) p0.toInt p1.toInt 0 ≠ -2000 := by
  (try rw [c_G79_F_F_a_5_0])
  rw [oq66, if_pos ph]
  exact cel_rset_ne (by omega) ph (by omega)
theorem v_X10_least_91_17 {K : Nat → Nat} {F : Nat → Nat → Nat} (a : Nat) (G : XG) (G79 : XG) (G_50 : XG) (G66 : XG) (p0 : Int32) (p1 : Int32) (p2 : Int32) (l5_50 : Int32) (x79 : Int32) (x6 : Int32) (x13 : Int32) (N50 : Nat)
    (ha : K a = 12)
    (hk9999 : K (F a 11) = 3)
    (hj9999 : F (F a 11) 99 = 0)
    (hk9999a : K (F a 9) = 6)
    (hj9999a : F (F a 9) 99 = 1)
    (hk9999b : K (F (F a 11) 0) = 21)
    (hj9999b : F (F (F a 11) 0) 99 = 100)
    (hk9999c : K (F (F a 11) 1) = 21)
    (hj9999c : F (F (F a 11) 1) 99 = 101)
    (hk9999d : K (F (F a 11) 2) = 24)
    (hj9999d : F (F (F a 11) 2) 99 = 4)
    (hk9999e : K (F (F a 9) 0) = 22)
    (hj9999f : F (F (F a 9) 0) 99 = 10 * 1 + 0)
    (hk9999f : K (F (F a 9) 1) = 22)
    (hj9999h : F (F (F a 9) 1) 99 = 10 * 1 + 1)
    (hk9999g : K (F (F a 9) 2) = 22)
    (hj9999j : F (F (F a 9) 2) 99 = 10 * 1 + 2)
    (hk9999h : K (F (F a 9) 3) = 22)
    (hj9999l : F (F (F a 9) 3) 99 = 10 * 1 + 3)
    (hk9999i : K (F (F a 9) 4) = 23)
    (hj9999n : F (F (F a 9) 4) 99 = 10 * 1 + 4)
    (hk9999j : K (F (F a 9) 5) = 23)
    (hj9999p : F (F (F a 9) 5) 99 = 10 * 1 + 5)
    (hk9999k : K (F a 5) = 8)
    (hj9999q : F (F a 5) 99 = 2)
    (hk9999l : K (F (F a 5) 0) = 20)
    (hj9999s : F (F (F a 5) 0) 99 = 2)
    (hk9999m : K (F (F a 5) 1) = 21)
    (hj9999u : F (F (F a 5) 1) 99 = 2)
    (hk9999n : K (F a 2) = 2)
    (hj9999v : F (F a 2) 99 = 0)
    (hk9999o : K (F (F a 2) 1) = 15)
    (hj9999w : F (F (F a 2) 1) 99 = 1)
    (hk9999p : K (F a 3) = 8)
    (hj9999y : F (F a 3) 99 = 0)
    (hk9999q : K (F (F a 3) 0) = 20)
    (hj9999z26 : F (F (F a 3) 0) 99 = 0)
    (hk9999r : K (F (F a 3) 1) = 21)
    (hj9999z28 : F (F (F a 3) 1) 99 = 0)
    (hfr : XFr [(F a 11, 3), (F a 9, 6)] [F (F a 11) 0, F (F a 11) 1, F (F a 11) 2, F (F a 9) 0, F (F a 9) 1, F (F a 9) 2, F (F a 9) 3, F (F a 9) 4, F (F a 9) 5, F (F a 5) 0, F (F a 5) 1] [] G G79)
    (hF79 : XFr [(F a 11, 3), (F a 9, 6)] [F (F a 11) 0, F (F a 11) 1, F (F a 11) 2, F (F a 9) 0, F (F a 9) 1, F (F a 9) 2, F (F a 9) 3, F (F a 9) 4, F (F a 9) 5] [] G66 G79)
    (bko : BKr K G (G.2.2.1 (F (F a 2) 1)))
    (pp : ∀ v : Int, rset (vw (G_50.2.1 (F (F a 5) 0))) (90 * p0.toInt + 30 * p2.toInt + p1.toInt) v = rset (vw (G.2.1 (F (F a 3) 0))) (90 * p0.toInt + 30 * p2.toInt + p1.toInt) v)
    (ph : cel (vw (G_50.2.1 (F (F a 5) 0))) p0.toInt p1.toInt 0 ≠ -2000)
    (lp : ∀ v : Int, -99 ≤ v → v < l5_50.toInt → v ≠ cel (vw (G.2.1 (F (F a 3) 0))) p0.toInt p1.toInt p2.toInt → ffL (gaL G (G.2.2.1 (F (F a 2) 1)) (vw (G.2.1 (F (F a 3) 0))) (rset (vw (G.2.1 (F (F a 3) 0))) (90 * p0.toInt + 30 * p2.toInt + p1.toInt) v) 0 ((G.1 (F a 2) 2).toInt).toNat) ≠ -1)
    (oq66 : (vw (G66.2.1 (F (F a 5) 0))) = if cel (vw (G_50.2.1 (F (F a 5) 0))) (p0.toInt) (p1.toInt) 0 ≠ -2000 then rset (vw (G_50.2.1 (F (F a 5) 0))) (90 * (p0.toInt) + 30 * (p2.toInt) + (p1.toInt)) (l5_50.toInt) else (vw (G_50.2.1 (F (F a 5) 0))))
    (oq79 : (x79.toInt = 1 ∧ ffL (gaL G66 (G66.2.2.1 (F (F a 2) 1)) (vw (G.2.1 (F (F a 3) 0))) (vw (G66.2.1 (F (F a 5) 0))) 0 (((G.1 (F a 2) 2).toInt)).toNat) = -1) ∨ (x79.toInt = 0 ∧ ffL (gaL G66 (G66.2.2.1 (F (F a 2) 1)) (vw (G.2.1 (F (F a 3) 0))) (vw (G66.2.1 (F (F a 5) 0))) 0 (((G.1 (F a 2) 2).toInt)).toNat) ≠ -1))
    (sb : 0 ≤ ((G.1 (F a 2) 2).toInt) ∧ ((G.1 (F a 2) 2).toInt) ≤ 12)
    (z5 : ¬ (0 ≤ p0.toInt ∧ p0.toInt < 3 ∧ 0 ≤ p1.toInt ∧ p1.toInt < 30) → (cel (vw (G.2.1 (F (F a 3) 0))) (p0.toInt) (p1.toInt) 0) = -2000)
    (t6 : (x6.toInt = 1 ∧ (cel (vw (G.2.1 (F (F a 3) 0))) (p0.toInt) (p1.toInt) 0) ≠ -2000) ∨ (x6.toInt = 0 ∧ (cel (vw (G.2.1 (F (F a 3) 0))) (p0.toInt) (p1.toInt) 0) = -2000))
    (c9 : ¬ (x6.toInt = 0))
    (t13 : (x13.toInt = 1 ∧ 0 ≤ p2.toInt ∧ p2.toInt < 3) ∨ (x13.toInt = 0 ∧ (p2.toInt < 0 ∨ 3 ≤ p2.toInt)))
    (c16 : x13.toInt ≠ 0)
    (I50_0 : -99 ≤ l5_50.toInt ∧ l5_50.toInt ≤ 100)
    (hm50 : 200 - l5_50.toInt < (((N50) + 1 : Nat) : Int))
    (c54 : ¬ ((99 : Int) < l5_50.toInt))
    (c73 : ¬ (l5_50.toInt = (cel (vw (G.2.1 (F (F a 3) 0))) (p0.toInt) (p1.toInt) (p2.toInt))))
    (c82 : x79.toInt = 0)
    (r_G66_F_F_a_2_1 : G66.2.2.1 (F (F a 2) 1) = G.2.2.1 (F (F a 2) 1)) :
    ∀ v : Int, -99 ≤ v → v < (l5_50.toInt + 1) → v ≠ cel (vw (G.2.1 (F (F a 3) 0))) p0.toInt p1.toInt p2.toInt → ffL (gaL G (G.2.2.1 (F (F a 2) 1)) (vw (G.2.1 (F (F a 3) 0))) (rset (vw (G.2.1 (F (F a 3) 0))) (90 * p0.toInt + 30 * p2.toInt + p1.toInt) v) 0 ((G.1 (F a 2) 2).toInt).toNat) ≠ -1 := by
  first
    | (intro v a1 a2 a3
       exact lp v a1 (by omega) a3)
    | (have hd : ∀ p, p ∈ [(F a 11, 3), (F a 9, 6)] → K p.1 ≠ 9 := (List.forall_mem_cons.mpr ⟨(show K (F a 11) ≠ 9 by omega), List.forall_mem_cons.mpr ⟨(show K (F a 9) ≠ 9 by omega), fun _ h => by cases h⟩⟩)
       have hq : ∀ q : Nat, K q = 9 → G66.1 q = G.1 q := fun q hk => (hF79.rule hd hk).symm.trans (hfr.rule hd hk)
       have hc : ∀ (i q : Nat), i < ((G.1 (F a 2) 2).toInt).toNat → G.2.2.1 (F (F a 2) 1) i = some q → G66.1 q = G.1 q := fun i q hi hq9 => hq q (bko i q (by omega) hq9).1
       rw [oq66, if_pos ph, pp, r_G66_F_F_a_2_1, gaL_cg hc] at oq79
       intro v a1 a2 a3
       by_cases e : v = l5_50.toInt
       · rw [e]; exact (oq79.resolve_left (fun h => absurd h.1 (by omega))).2
       · exact lp v a1 (by omega) a3)
theorem v_X10_least_87_18 {K : Nat → Nat} {F : Nat → Nat → Nat} (a : Nat) (G : XG) (G79 : XG) (G_50 : XG) (G66 : XG) (p0 : Int32) (p1 : Int32) (p2 : Int32) (l5_50 : Int32) (x79 : Int32) (x6 : Int32) (x13 : Int32) (N50 : Nat)
    (ha : K a = 12)
    (hk9999 : K (F a 11) = 3)
    (hj9999 : F (F a 11) 99 = 0)
    (hk9999a : K (F a 9) = 6)
    (hj9999a : F (F a 9) 99 = 1)
    (hk9999b : K (F (F a 11) 0) = 21)
    (hj9999b : F (F (F a 11) 0) 99 = 100)
    (hk9999c : K (F (F a 11) 1) = 21)
    (hj9999c : F (F (F a 11) 1) 99 = 101)
    (hk9999d : K (F (F a 11) 2) = 24)
    (hj9999d : F (F (F a 11) 2) 99 = 4)
    (hk9999e : K (F (F a 9) 0) = 22)
    (hj9999f : F (F (F a 9) 0) 99 = 10 * 1 + 0)
    (hk9999f : K (F (F a 9) 1) = 22)
    (hj9999h : F (F (F a 9) 1) 99 = 10 * 1 + 1)
    (hk9999g : K (F (F a 9) 2) = 22)
    (hj9999j : F (F (F a 9) 2) 99 = 10 * 1 + 2)
    (hk9999h : K (F (F a 9) 3) = 22)
    (hj9999l : F (F (F a 9) 3) 99 = 10 * 1 + 3)
    (hk9999i : K (F (F a 9) 4) = 23)
    (hj9999n : F (F (F a 9) 4) 99 = 10 * 1 + 4)
    (hk9999j : K (F (F a 9) 5) = 23)
    (hj9999p : F (F (F a 9) 5) 99 = 10 * 1 + 5)
    (hk9999k : K (F a 5) = 8)
    (hj9999q : F (F a 5) 99 = 2)
    (hk9999l : K (F (F a 5) 0) = 20)
    (hj9999s : F (F (F a 5) 0) 99 = 2)
    (hk9999m : K (F (F a 5) 1) = 21)
    (hj9999u : F (F (F a 5) 1) 99 = 2)
    (hk9999n : K (F a 2) = 2)
    (hj9999v : F (F a 2) 99 = 0)
    (hk9999o : K (F (F a 2) 1) = 15)
    (hj9999w : F (F (F a 2) 1) 99 = 1)
    (hk9999p : K (F a 3) = 8)
    (hj9999y : F (F a 3) 99 = 0)
    (hk9999q : K (F (F a 3) 0) = 20)
    (hj9999z26 : F (F (F a 3) 0) 99 = 0)
    (hk9999r : K (F (F a 3) 1) = 21)
    (hj9999z28 : F (F (F a 3) 1) 99 = 0)
    (hfr : XFr [(F a 11, 3), (F a 9, 6)] [F (F a 11) 0, F (F a 11) 1, F (F a 11) 2, F (F a 9) 0, F (F a 9) 1, F (F a 9) 2, F (F a 9) 3, F (F a 9) 4, F (F a 9) 5, F (F a 5) 0, F (F a 5) 1] [] G G79)
    (hF79 : XFr [(F a 11, 3), (F a 9, 6)] [F (F a 11) 0, F (F a 11) 1, F (F a 11) 2, F (F a 9) 0, F (F a 9) 1, F (F a 9) 2, F (F a 9) 3, F (F a 9) 4, F (F a 9) 5] [] G66 G79)
    (bko : BKr K G (G.2.2.1 (F (F a 2) 1)))
    (pp : ∀ v : Int, rset (vw (G_50.2.1 (F (F a 5) 0))) (90 * p0.toInt + 30 * p2.toInt + p1.toInt) v = rset (vw (G.2.1 (F (F a 3) 0))) (90 * p0.toInt + 30 * p2.toInt + p1.toInt) v)
    (ph : cel (vw (G_50.2.1 (F (F a 5) 0))) p0.toInt p1.toInt 0 ≠ -2000)
    (lp : ∀ v : Int, -99 ≤ v → v < l5_50.toInt → v ≠ cel (vw (G.2.1 (F (F a 3) 0))) p0.toInt p1.toInt p2.toInt → ffL (gaL G (G.2.2.1 (F (F a 2) 1)) (vw (G.2.1 (F (F a 3) 0))) (rset (vw (G.2.1 (F (F a 3) 0))) (90 * p0.toInt + 30 * p2.toInt + p1.toInt) v) 0 ((G.1 (F a 2) 2).toInt).toNat) ≠ -1)
    (oq66 : (vw (G66.2.1 (F (F a 5) 0))) = if cel (vw (G_50.2.1 (F (F a 5) 0))) (p0.toInt) (p1.toInt) 0 ≠ -2000 then rset (vw (G_50.2.1 (F (F a 5) 0))) (90 * (p0.toInt) + 30 * (p2.toInt) + (p1.toInt)) (l5_50.toInt) else (vw (G_50.2.1 (F (F a 5) 0))))
    (oq79 : (x79.toInt = 1 ∧ ffL (gaL G66 (G66.2.2.1 (F (F a 2) 1)) (vw (G.2.1 (F (F a 3) 0))) (vw (G66.2.1 (F (F a 5) 0))) 0 (((G.1 (F a 2) 2).toInt)).toNat) = -1) ∨ (x79.toInt = 0 ∧ ffL (gaL G66 (G66.2.2.1 (F (F a 2) 1)) (vw (G.2.1 (F (F a 3) 0))) (vw (G66.2.1 (F (F a 5) 0))) 0 (((G.1 (F a 2) 2).toInt)).toNat) ≠ -1))
    (sb : 0 ≤ ((G.1 (F a 2) 2).toInt) ∧ ((G.1 (F a 2) 2).toInt) ≤ 12)
    (z5 : ¬ (0 ≤ p0.toInt ∧ p0.toInt < 3 ∧ 0 ≤ p1.toInt ∧ p1.toInt < 30) → (cel (vw (G.2.1 (F (F a 3) 0))) (p0.toInt) (p1.toInt) 0) = -2000)
    (t6 : (x6.toInt = 1 ∧ (cel (vw (G.2.1 (F (F a 3) 0))) (p0.toInt) (p1.toInt) 0) ≠ -2000) ∨ (x6.toInt = 0 ∧ (cel (vw (G.2.1 (F (F a 3) 0))) (p0.toInt) (p1.toInt) 0) = -2000))
    (c9 : ¬ (x6.toInt = 0))
    (t13 : (x13.toInt = 1 ∧ 0 ≤ p2.toInt ∧ p2.toInt < 3) ∨ (x13.toInt = 0 ∧ (p2.toInt < 0 ∨ 3 ≤ p2.toInt)))
    (c16 : x13.toInt ≠ 0)
    (I50_0 : -99 ≤ l5_50.toInt ∧ l5_50.toInt ≤ 100)
    (hm50 : 200 - l5_50.toInt < (((N50) + 1 : Nat) : Int))
    (c54 : ¬ ((99 : Int) < l5_50.toInt))
    (c73 : ¬ (l5_50.toInt = (cel (vw (G.2.1 (F (F a 3) 0))) (p0.toInt) (p1.toInt) (p2.toInt))))
    (c82 : ¬ (x79.toInt = 0))
    (r_G66_F_F_a_2_1 : G66.2.2.1 (F (F a 2) 1) = G.2.2.1 (F (F a 2) 1)) :
    (¬ (cel (vw (G.2.1 (F (F a 3) 0))) p0.toInt p1.toInt 0 ≠ -2000 ∧ 0 ≤ p2.toInt ∧ p2.toInt < 3) ∧ l5_50.toInt = -2147483648) ∨ ((cel (vw (G.2.1 (F (F a 3) 0))) p0.toInt p1.toInt 0 ≠ -2000 ∧ 0 ≤ p2.toInt ∧ p2.toInt < 3) ∧ LsS (fun v => ffL (gaL G (G.2.2.1 (F (F a 2) 1)) (vw (G.2.1 (F (F a 3) 0))) (rset (vw (G.2.1 (F (F a 3) 0))) (90 * p0.toInt + 30 * p2.toInt + p1.toInt) v) 0 (((G.1 (F a 2) 2).toInt)).toNat) = -1) (cel (vw (G.2.1 (F (F a 3) 0))) p0.toInt p1.toInt p2.toInt) l5_50.toInt) := by
  have hd : ∀ p, p ∈ [(F a 11, 3), (F a 9, 6)] → K p.1 ≠ 9 := (List.forall_mem_cons.mpr ⟨(show K (F a 11) ≠ 9 by omega), List.forall_mem_cons.mpr ⟨(show K (F a 9) ≠ 9 by omega), fun _ h => by cases h⟩⟩)
  have hq : ∀ q : Nat, K q = 9 → G66.1 q = G.1 q := fun q hk => (hF79.rule hd hk).symm.trans (hfr.rule hd hk)
  have hc : ∀ (i q : Nat), i < ((G.1 (F a 2) 2).toInt).toNat → G.2.2.1 (F (F a 2) 1) i = some q → G66.1 q = G.1 q := fun i q hi hq9 => hq q (bko i q (by omega) hq9).1
  rw [oq66, if_pos ph, pp, r_G66_F_F_a_2_1, gaL_cg hc] at oq79
  exact Or.inr ⟨by omega, LsS_yes (by omega) (oq79.resolve_right (fun h => absurd h.1 (by omega))).2 lp⟩
theorem v_X10_least_48_19 {F : Nat → Nat → Nat} (G43 : XG) (a : Nat) (G : XG) (p0 : Int32) (p2 : Int32) (p1 : Int32)
    (oq43 : (vw (G43.2.1 (F (F a 5) 0))) = (vw (G.2.1 (F (F a 3) 0)))) :
    ∀ v : Int, rset (vw (G43.2.1 (F (F a 5) 0))) (90 * p0.toInt + 30 * p2.toInt + p1.toInt) v = rset (vw (G.2.1 (F (F a 3) 0))) (90 * p0.toInt + 30 * p2.toInt + p1.toInt) v := by
  intro v; rw [oq43]
theorem v_X10_least_48_20 {F : Nat → Nat → Nat} (G43 : XG) (a : Nat)
    (oq43a : RO (vw (G43.2.1 (F (F a 5) 0))) (aI (G43.2.1 (F (F a 5) 1)))) :
    RO (vw (G43.2.1 (F (F a 5) 0))) (aI (G43.2.1 (F (F a 5) 1))) := by
  exact oq43a
theorem v_X10_least_48_21 {F : Nat → Nat → Nat} (G43 : XG) (a : Nat) (G : XG) (x6 : Int32) (p0 : Int32) (p1 : Int32)
    (oq43 : (vw (G43.2.1 (F (F a 5) 0))) = (vw (G.2.1 (F (F a 3) 0))))
    (t6 : (x6.toInt = 1 ∧ (cel (vw (G.2.1 (F (F a 3) 0))) (p0.toInt) (p1.toInt) 0) ≠ -2000) ∨ (x6.toInt = 0 ∧ (cel (vw (G.2.1 (F (F a 3) 0))) (p0.toInt) (p1.toInt) 0) = -2000))
    (c9 : ¬ (x6.toInt = 0)) :
    cel (vw (G43.2.1 (F (F a 5) 0))) p0.toInt p1.toInt 0 ≠ -2000 := by
  rw [oq43]; omega
theorem v_X10_least_48_22 {K : Nat → Nat} {F : Nat → Nat → Nat} (a : Nat) (G : XG) (p0 : Int32) (p1 : Int32) (p2 : Int32) (x6 : Int32) (x13 : Int32)
    (ha : K a = 12)
    (sb : 0 ≤ ((G.1 (F a 2) 2).toInt) ∧ ((G.1 (F a 2) 2).toInt) ≤ 12)
    (z5 : ¬ (0 ≤ p0.toInt ∧ p0.toInt < 3 ∧ 0 ≤ p1.toInt ∧ p1.toInt < 30) → (cel (vw (G.2.1 (F (F a 3) 0))) (p0.toInt) (p1.toInt) 0) = -2000)
    (t6 : (x6.toInt = 1 ∧ (cel (vw (G.2.1 (F (F a 3) 0))) (p0.toInt) (p1.toInt) 0) ≠ -2000) ∨ (x6.toInt = 0 ∧ (cel (vw (G.2.1 (F (F a 3) 0))) (p0.toInt) (p1.toInt) 0) = -2000))
    (c9 : ¬ (x6.toInt = 0))
    (t13 : (x13.toInt = 1 ∧ 0 ≤ p2.toInt ∧ p2.toInt < 3) ∨ (x13.toInt = 0 ∧ (p2.toInt < 0 ∨ 3 ≤ p2.toInt)))
    (c16 : x13.toInt ≠ 0) :
    ∀ v : Int, -99 ≤ v → v < (-99 : Int) → v ≠ cel (vw (G.2.1 (F (F a 3) 0))) p0.toInt p1.toInt p2.toInt → ffL (gaL G (G.2.2.1 (F (F a 2) 1)) (vw (G.2.1 (F (F a 3) 0))) (rset (vw (G.2.1 (F (F a 3) 0))) (90 * p0.toInt + 30 * p2.toInt + p1.toInt) v) 0 ((G.1 (F a 2) 2).toInt).toNat) ≠ -1 := by
  intro v a1 a2
  exact absurd a2 (by omega)
theorem v_X10_least_22_23 {K : Nat → Nat} {F : Nat → Nat → Nat} (a : Nat) (G : XG) (p0 : Int32) (p1 : Int32) (x6 : Int32) (x13 : Int32) (p2 : Int32)
    (ha : K a = 12)
    (sb : 0 ≤ ((G.1 (F a 2) 2).toInt) ∧ ((G.1 (F a 2) 2).toInt) ≤ 12)
    (z5 : ¬ (0 ≤ p0.toInt ∧ p0.toInt < 3 ∧ 0 ≤ p1.toInt ∧ p1.toInt < 30) → (cel (vw (G.2.1 (F (F a 3) 0))) (p0.toInt) (p1.toInt) 0) = -2000)
    (t6 : (x6.toInt = 1 ∧ (cel (vw (G.2.1 (F (F a 3) 0))) (p0.toInt) (p1.toInt) 0) ≠ -2000) ∨ (x6.toInt = 0 ∧ (cel (vw (G.2.1 (F (F a 3) 0))) (p0.toInt) (p1.toInt) 0) = -2000))
    (c9 : ¬ (x6.toInt = 0))
    (t13 : (x13.toInt = 1 ∧ 0 ≤ p2.toInt ∧ p2.toInt < 3) ∨ (x13.toInt = 0 ∧ (p2.toInt < 0 ∨ 3 ≤ p2.toInt)))
    (c16 : ¬ (x13.toInt ≠ 0)) :
    (¬ (cel (vw (G.2.1 (F (F a 3) 0))) p0.toInt p1.toInt 0 ≠ -2000 ∧ 0 ≤ p2.toInt ∧ p2.toInt < 3) ∧ (-2147483648 : Int) = -2147483648) ∨ ((cel (vw (G.2.1 (F (F a 3) 0))) p0.toInt p1.toInt 0 ≠ -2000 ∧ 0 ≤ p2.toInt ∧ p2.toInt < 3) ∧ LsS (fun v => ffL (gaL G (G.2.2.1 (F (F a 2) 1)) (vw (G.2.1 (F (F a 3) 0))) (rset (vw (G.2.1 (F (F a 3) 0))) (90 * p0.toInt + 30 * p2.toInt + p1.toInt) v) 0 (((G.1 (F a 2) 2).toInt)).toNat) = -1) (cel (vw (G.2.1 (F (F a 3) 0))) p0.toInt p1.toInt p2.toInt) (-2147483648 : Int)) := by
  exact Or.inl ⟨by omega, rfl⟩
theorem z_X1_ofOneRow_1 (a0 : Int) (h0 : 0 ≤ a0 ∧ a0 ≤ 3) : ¬ (2147483648 - a0 < ((0 : Nat) : Int)) := by omega
theorem z_X1_ofOneRow_2 (a0 : Int) (a1 : Int) (h0 : 0 ≤ a0 ∧ a0 < 3 ∧ 0 ≤ a1 ∧ a1 < 30) : 0 ≤ a0 ∧ a0 < ((3 : Nat) : Int) := by omega
theorem z_X1_ofOneRow_3 (a0 : Int) (h0 : 0 ≤ a0 ∧ a0 ≤ 3) (h1 : ¬ ((3 : Int) ≤ a0)) : 0 ≤ a0 ∧ a0 < ((3 : Nat) : Int) := by omega
theorem z_X1_ofOneRow_5 (a0 : Int) (a1 : Int) (h0 : 0 ≤ a0 ∧ a0 ≤ 3) (h1 : a1 = (a0 + 1) ∨ (a0 + 1) < -2147483648 ∨ 2147483648 ≤ (a0 + 1)) : a1 = (a0 + 1) := by omega
theorem z_X1_ofOneRow_6 (a0 : Int) (h0 : 0 ≤ a0 ∧ a0 ≤ 3) (h1 : ¬ ((3 : Int) ≤ a0)) : 0 ≤ (a0 + 1) ∧ (a0 + 1) ≤ 3 := by omega
theorem z_X1_ofOneRow_7 (a0 : Int) (h0 : 0 ≤ a0 ∧ a0 ≤ 3) : (0 : Int) ≤ (a0 + 1) := by omega
theorem z_X1_ofOneRow_8 (a0 : Int) (a1 : Nat) (h0 : 2147483648 - a0 < ((a1 + 1 : Nat) : Int)) : 2147483648 - (a0 + 1) < ((a1 : Nat) : Int) := by omega
abbrev rm_X1_ofOneRow : Room := { frames := 1, cells := 0, slots := 0, locals := 20 }
set_option maxHeartbeats 4000000 in
set_option maxRecDepth 100000 in
theorem c_X1_ofOneRow (l : Launch) (E : XE) (K : Nat → Nat) (F : Nat → Nat → Nat) (G : XG) (a : Nat) (p0 : Int32) (p1 : Int32) (ha : K a = 3) (e0 : 0 ≤ p0.toInt ∧ p0.toInt < 3 ∧ 0 ≤ p1.toInt ∧ p1.toInt < 30) : Met l yX1_ofOneRow (xw yX1_ofOneRow cX1_ofOneRow 4 none) rm_X1_ofOneRow (va_Pc [.ref a, .int p0, .int p1] (XP E K F G)) (XQv E (fun (u : XG) => XFr [] [F a 0, F a 1] [] G u ∧ (ONb (aI (u.2.1 (F a 1))) (aI (u.2.1 (F a 0))) p0.toInt p1.toInt)) (fun u H => TW E K F u H)) 0 0 (xA E) := by
  refine x_enter (by decide) (Nat.le_of_ble_eq_true rfl) ?_
  intro p e s m args below meth c Q S hr hlk hnm hQ hP ls hl
  obtain ⟨hz, hK, hT⟩ := hP
  obtain ⟨hx, hb, -, -, -⟩ := id S
  obtain ⟨H, hT, hS, hgo⟩ : ∃ H : Heap, TW E K F G H ∧ va_S (xA E) s.heap H [] ∧ H = s.heap := ⟨_, hT, va_S.rf, rfl⟩
  rw [← hgo]
  have hl : lv_has ls 4 [(0, .ref a), (1, .int p0), (2, .int p1)] := hl
  obtain ⟨hk9999, hj9999⟩ := fkX1_0 hT ha
  obtain ⟨hk9999a, hj9999a⟩ := fkX1_1 hT ha
  refine lv_iconst (v := 0) hx hb dX1_ofOneRow_0 (by decide) ?_
  refine lv_istore_n (lv' := [(3, .int 0), (0, .ref a), (1, .int p0), (2, .int p1)]) hx hb dX1_ofOneRow_1 rfl hl (by decide) rfl (fun ls hl => ?_)
  have L2 : ∀ (N2 : Nat) (l3_2 : Int32) (G_2 : XG) (H : Heap) (locs : List Loc) (ls : Array Slot), XFr [] [F a 0, F a 1] [] G G_2 → (∀ t : Int, 0 ≤ t → t < l3_2.toInt → aI (G_2.2.1 (F a 1)) t = 0 ∧ aI (G_2.2.1 (F a 0)) t = 0) → 0 ≤ l3_2.toInt ∧ l3_2.toInt ≤ 3 → (0 : Int) ≤ l3_2.toInt → 2147483648 - l3_2.toInt < ((N2 : Nat) : Int) → TW E K F G_2 H → va_S (xA E) s.heap H locs → lv_has ls 4 [(0, .ref a), (1, .int p0), (2, .int p1), (3, .int l3_2)] → W p l e rm_X1_ofOneRow s m args below meth c H locs 0 0 Q (F0 m 2 ls []) := by
    intro N2
    induction N2 with
    | zero =>
      intro l3_2 G_2 H locs ls hF_2 pz I2_0 I2_1 hm2
      exact absurd hm2 (z_X1_ofOneRow_1 l3_2.toInt I2_0)
    | succ N2 ih2 =>
      intro l3_2 G_2 H locs ls hF_2 pz I2_0 I2_1 hm2 hT hS hl
      refine lv_iload_n hx hb dX1_ofOneRow_2 rfl (lv_at hl 3 rfl) ?_
      refine lv_iconst (v := 3) hx hb dX1_ofOneRow_3 (by decide) ?_
      refine xi_cge (tgt := 27) hx hb (rfl : Int32.toInt l3_2 = l3_2.toInt) ((by decide) : Int32.toInt 3 = (3 : Int)) dX1_ofOneRow_4 (by decide) (fun c4 => ?_) (fun c4 => ?_)
      · refine lv_iload_n hx hb dX1_ofOneRow_27 rfl (lv_at hl 1 rfl) ?_
        refine x_clp (x_runSN (As := [.int p0]) (rest := []) S (c_X10_isTable l E K F G_2 H p0) ms_X10_isTable (by decide +kernel) rfl rfl ⟨Nat.le_of_ble_eq_true rfl, Nat.le_of_ble_eq_true rfl⟩ hK (fun _ => XPh.blind) (fun U hU hW => XPh.at hK hz hS hT hU hW) rfl hl.1 (Nat.le_of_ble_eq_true rfl) dX1_ofOneRow_28 ⟨Nat.le_of_ble_eq_true rfl, Nat.le_of_ble_eq_true rfl⟩) hS ?_
        rintro _ _ locs ⟨x28, rfl, b28, t28⟩ hS
        have t28 : (x28.toInt = 1 ∧ 0 ≤ p0.toInt ∧ p0.toInt < 3) ∨ (x28.toInt = 0 ∧ (p0.toInt < 0 ∨ 3 ≤ p0.toInt)) := t28
        refine xi_zeq (tgt := 50) hx hb (rfl : Int32.toInt x28 = x28.toInt) dX1_ofOneRow_31 (by decide) (fun c31 => ?_) (fun c31 => ?_)
        · exact x_rv hx hb hr hlk hQ (Nat.le_of_ble_eq_true rfl) (Nat.le_of_ble_eq_true rfl) hS dX1_ofOneRow_50 G_2 ⟨(XFr.call XFr.rf hF_2 xm0 (xm1 0 rfl (xm1 1 rfl xm0)) xm0), (v_X1_ofOneRow_50_1 (K := K) (F := F) a G_2 l3_2 p0 p1 N2 x28 ha pz e0 I2_0 I2_1 hm2 c4 t28 c31)⟩ hT
        · refine lv_iload_n hx hb dX1_ofOneRow_34 rfl (lv_at hl 2 rfl) ?_
          refine x_clp (x_runSN (As := [.int p1]) (rest := []) S (c_X10_isKey l E K F G_2 H p1) ms_X10_isKey (by decide +kernel) rfl rfl ⟨Nat.le_of_ble_eq_true rfl, Nat.le_of_ble_eq_true rfl⟩ hK (fun _ => XPh.blind) (fun U hU hW => XPh.at hK hz hS hT hU hW) rfl hl.1 (Nat.le_of_ble_eq_true rfl) dX1_ofOneRow_35 ⟨Nat.le_of_ble_eq_true rfl, Nat.le_of_ble_eq_true rfl⟩) hS ?_
          rintro _ _ locs ⟨x35, rfl, b35, t35⟩ hS
          have t35 : (x35.toInt = 1 ∧ 0 ≤ p1.toInt ∧ p1.toInt < 30) ∨ (x35.toInt = 0 ∧ (p1.toInt < 0 ∨ 30 ≤ p1.toInt)) := t35
          refine xi_zeq (tgt := 50) hx hb (rfl : Int32.toInt x35 = x35.toInt) dX1_ofOneRow_38 (by decide) (fun c38 => ?_) (fun c38 => ?_)
          · exact x_rv hx hb hr hlk hQ (Nat.le_of_ble_eq_true rfl) (Nat.le_of_ble_eq_true rfl) hS dX1_ofOneRow_50 G_2 ⟨(XFr.call XFr.rf hF_2 xm0 (xm1 0 rfl (xm1 1 rfl xm0)) xm0), (v_X1_ofOneRow_50_2 (K := K) (F := F) a G_2 l3_2 p0 p1 N2 x28 x35 ha pz e0 I2_0 I2_1 hm2 c4 t28 c31 t35 c38)⟩ hT
          · refine lv_aload_n hx hb dX1_ofOneRow_41 rfl (lv_at hl 0 rfl) ?_
            refine gX1_0 S hK hT ha kf_X1_9 dX1_ofOneRow_42 (fun _ _ => ?_)
            refine lv_iload_n hx hb dX1_ofOneRow_45 rfl (lv_at hl 1 rfl) ?_
            refine lv_iconst (v := 1) hx hb dX1_ofOneRow_46 (by decide) ?_
            refine lv_iload_n hx hb dX1_ofOneRow_47 rfl (lv_at hl 2 rfl) ?_
            refine lv_ishl hx hb dX1_ofOneRow_48 (lv_topi (fun x48 he48 => ?_))
            refine as_0 (x := x48) S hK hT hS hk9999 ar_21 aw_21 (by decide) (z_X1_ofOneRow_2 p0.toInt p1.toInt e0) dX1_ofOneRow_49 (fun H locs hT hS => ?_)
            obtain ⟨G49, hG49⟩ : ∃ GG : XG, GG = cput G_2 (F a 0) p0.toNatClampNeg x48 := ⟨_, rfl⟩
            rw [← hG49] at hT
            exact x_rv hx hb hr hlk hQ (Nat.le_of_ble_eq_true rfl) (Nat.le_of_ble_eq_true rfl) hS dX1_ofOneRow_50 G49 ⟨(by rw [hG49]; exact XFr.cput (XFr.call XFr.rf hF_2 xm0 (xm1 0 rfl (xm1 1 rfl xm0)) xm0) (List.mem_of_getElem? (i := 0) rfl)), (v_X1_ofOneRow_50_3 (K := K) (F := F) a G_2 G49 p0 x48 l3_2 p1 N2 x28 x35 ha hG49 pz he48 e0 I2_0 I2_1 hm2 c4 t28 c31 t35 c38 (lc_c hG49 (xne_j hj9999a hj9999 (by first | decide | omega))))⟩ hT
      · refine lv_aload_n hx hb dX1_ofOneRow_7 rfl (lv_at hl 0 rfl) ?_
        refine gX1_1 S hK hT ha kf_X1_15 dX1_ofOneRow_8 (fun _ _ => ?_)
        refine lv_iload_n hx hb dX1_ofOneRow_11 rfl (lv_at hl 3 rfl) ?_
        refine lv_iconst (v := 0) hx hb dX1_ofOneRow_12 (by decide) ?_
        refine as_0 (x := 0) S hK hT hS hk9999a ar_21 aw_21 (by decide) (z_X1_ofOneRow_3 l3_2.toInt I2_0 c4) dX1_ofOneRow_13 (fun H locs hT hS => ?_)
        obtain ⟨G13, hG13⟩ : ∃ GG : XG, GG = cput G_2 (F a 1) l3_2.toNatClampNeg 0 := ⟨_, rfl⟩
        rw [← hG13] at hT
        refine lv_aload_n hx hb dX1_ofOneRow_14 rfl (lv_at hl 0 rfl) ?_
        refine gX1_0 S hK hT ha kf_X1_9 dX1_ofOneRow_15 (fun _ _ => ?_)
        refine lv_iload_n hx hb dX1_ofOneRow_18 rfl (lv_at hl 3 rfl) ?_
        refine lv_iconst (v := 0) hx hb dX1_ofOneRow_19 (by decide) ?_
        refine as_0 (x := 0) S hK hT hS hk9999 ar_21 aw_21 (by decide) (z_X1_ofOneRow_3 l3_2.toInt I2_0 c4) dX1_ofOneRow_20 (fun H locs hT hS => ?_)
        obtain ⟨G20, hG20⟩ : ∃ GG : XG, GG = cput G13 (F a 0) l3_2.toNatClampNeg 0 := ⟨_, rfl⟩
        rw [← hG20] at hT
        refine xi_iinc (n := 1) (lv' := fun z9 => [(3, .int z9), (0, .ref a), (1, .int p0), (2, .int p1)]) (k := 3) hx hb (rfl : Int32.toInt l3_2 = l3_2.toInt) (by decide) dX1_ofOneRow_21 hl rfl (by decide) (fun _ => rfl) (fun x21 ls t21 hl => ?_)
        have e21 : x21.toInt = (l3_2.toInt + 1) := (z_X1_ofOneRow_5 l3_2.toInt x21.toInt I2_0 t21)
        have hl : lv_has ls 4 [(3, .int x21), (0, .ref a), (1, .int p0), (2, .int p1)] := hl
        refine lv_goto (tgt := 2) hx hb dX1_ofOneRow_24 (by decide) ?_
        exact ih2 x21 G20 _ _ _ (by rw [hG20]; exact XFr.cput (by rw [hG13]; exact XFr.cput (XFr.call XFr.rf hF_2 xm0 (xm1 0 rfl (xm1 1 rfl xm0)) xm0) (List.mem_of_getElem? (i := 1) rfl)) (List.mem_of_getElem? (i := 0) rfl)) (by rw [(e21 : Int32.toInt x21 = (l3_2.toInt + 1))] <;> exact (v_X1_ofOneRow_24_4 (K := K) (F := F) a G_2 G13 l3_2 G20 p0 p1 N2 ha hG13 hG20 pz e0 I2_0 I2_1 hm2 c4 (lc_c hG13 (xne_j hj9999 hj9999a (by first | decide | omega))) (lc_c hG20 (xne_j hj9999a hj9999 (by first | decide | omega))))) (by rw [(e21 : Int32.toInt x21 = (l3_2.toInt + 1))] <;> exact (z_X1_ofOneRow_6 l3_2.toInt I2_0 c4)) (by rw [(e21 : Int32.toInt x21 = (l3_2.toInt + 1))] <;> exact (z_X1_ofOneRow_7 l3_2.toInt I2_0)) (by rw [(e21 : Int32.toInt x21 = (l3_2.toInt + 1))] <;> exact (z_X1_ofOneRow_8 l3_2.toInt N2 hm2)) hT hS (lv_sub hl [1, 2, 3, 0] rfl)
  exact L2 4294967297 0 G _ _ _ XFr.rf (v_X1_ofOneRow_1_5 (K := K) (F := F) a p0 p1 G ha e0) (by decide) (by decide) (by decide) hT hS (lv_sub hl [1, 2, 3, 0] rfl)

theorem z_X10_holdsOnPaper_2 (a0 : Int) (a1 : Int) (h0 : 0 ≤ a0 ∧ a0 ≤ a1) (h1 : 0 ≤ a1 ∧ a1 ≤ 12) : ¬ (100 - a0 < ((0 : Nat) : Int)) := by omega
theorem z_X10_holdsOnPaper_3 (a0 : Int) (a1 : Int) (a2 : Int) (h0 : 0 ≤ a1 ∧ a1 ≤ 12) (h1 : 0 ≤ a2 ∧ a2 ≤ 90 * a0) (h2 : ¬ (a1 ≤ a0)) : 0 ≤ a2 ∧ a2 ≤ 1080 := by omega
theorem z_X10_holdsOnPaper_4 (a0 : Int) (a1 : Int) (a2 : Int) (h0 : 0 ≤ a2 ∧ a2 ≤ 12) (h1 : 0 ≤ a0 ∧ a0 ≤ a2) (h2 : a1 = (a0 + 1) ∨ (a0 + 1) < -2147483648 ∨ 2147483648 ≤ (a0 + 1)) : a1 = (a0 + 1) := by omega
theorem z_X10_holdsOnPaper_5 (a0 : Int) (a1 : Int) (h0 : 0 ≤ a0 ∧ a0 ≤ a1) (h1 : ¬ (a1 ≤ a0)) : 0 ≤ (a0 + 1) ∧ (a0 + 1) ≤ a1 := by omega
theorem z_X10_holdsOnPaper_6 (a0 : Int) (a1 : Int) (h0 : 0 ≤ a1 ∧ a1 ≤ 90 * a0) : 0 ≤ a1 ∧ a1 ≤ 90 * (a0 + 1) := by omega
theorem z_X10_holdsOnPaper_7 (a0 : Int) (a1 : Nat) (h0 : 100 - a0 < ((a1 + 1 : Nat) : Int)) : 100 - (a0 + 1) < ((a1 : Nat) : Int) := by omega
theorem z_X10_holdsOnPaper_8 (a0 : Int) (a1 : Int) (a2 : Int) (h0 : 0 ≤ a2 ∧ a2 ≤ 90 * a0) (h1 : 0 ≤ a0 ∧ a0 < a1 ∧ a0 < 12) : 0 ≤ a2 ∧ a2 ≤ 990 := by omega
theorem z_X10_holdsOnPaper_9 (a0 : Int) (a1 : Int) (a2 : Int) (a3 : Int) (h0 : 0 ≤ a3 ∧ a3 ≤ 90 * a0) (h1 : 0 ≤ a0 ∧ a0 < a1 ∧ a0 < 12) (h2 : a3 ≤ a2 ∧ a2 ≤ a3 + 90) : 0 ≤ a2 ∧ a2 ≤ 1080 := by omega
theorem z_X10_holdsOnPaper_10 (a0 : Int) (a1 : Int) (a2 : Int) (h0 : 0 ≤ a0 ∧ a0 < a2 ∧ a0 < 12) (h1 : a1 = (a0 + 1) ∨ (a0 + 1) < -2147483648 ∨ 2147483648 ≤ (a0 + 1)) : a1 = (a0 + 1) := by omega
theorem z_X10_holdsOnPaper_12 (a0 : Int) (a1 : Int) (a2 : Int) (h0 : 0 ≤ a2 ∧ a2 ≤ 90 * a0) (h1 : a2 ≤ a1 ∧ a1 ≤ a2 + 90) : 0 ≤ a1 ∧ a1 ≤ 90 * (a0 + 1) := by omega
theorem z_X10_holdsOnPaper_14 (a0 : Int) (h0 : 0 ≤ a0 ∧ a0 ≤ 12) : 0 ≤ (0 : Int) ∧ (0 : Int) ≤ a0 := by omega
theorem z_X10_holdsOnPaper_15 (a0 : Int) (h0 : a0 = 0) : 0 ≤ a0 ∧ a0 ≤ 90 * (0 : Int) := by omega
abbrev rm_X10_holdsOnPaper : Room := { frames := 5, cells := 0, slots := 0, locals := 123 }
set_option maxHeartbeats 4000000 in
set_option maxRecDepth 100000 in
theorem c_X10_holdsOnPaper (l : Launch) (E : XE) (K : Nat → Nat) (F : Nat → Nat → Nat) (G : XG) (a : Nat) (p0 : Int32) (p1 : Int32) (ha : K a = 12) (sb : 0 ≤ ((G.1 (F a 2) 2).toInt) ∧ ((G.1 (F a 2) 2).toInt) ≤ 12) (e0 : 0 ≤ p0.toInt ∧ p0.toInt < 3 ∧ 0 ≤ p1.toInt ∧ p1.toInt < 30) (ron : RO (vw (G.2.1 (F (F a 3) 0))) (aI (G.2.1 (F (F a 3) 1)))) (rop : RO (vw (G.2.1 (F (F a 5) 0))) (aI (G.2.1 (F (F a 5) 1)))) (bko : BKr K G (G.2.2.1 (F (F a 2) 1))) (h1 : ∀ cg ch : Int → Int, ONb cg ch p0.toInt p1.toInt → CH (vw (G.2.1 (F (F a 3) 0))) (vw (G.2.1 (F (F a 5) 0))) cg ch) : Met l yX10_holdsOnPaper (xw yX10_holdsOnPaper cX10_holdsOnPaper 5 (some .boolean)) rm_X10_holdsOnPaper (va_Pc [.ref a, .int p0, .int p1] (XP E K F G)) (XQ E (fun v (u : XG) => ∃ r : Int32, v = .int r ∧ (r = 0 ∨ r = 1) ∧ XFr [(F a 11, 3), (F a 9, 6)] [F (F a 11) 0, F (F a 11) 1, F (F a 11) 2, F (F a 9) 0, F (F a 9) 1, F (F a 9) 2, F (F a 9) 3, F (F a 9) 4, F (F a 9) 5] [] G u ∧ ((r.toInt = 1 ∧ ffL (gaL G (G.2.2.1 (F (F a 2) 1)) (vw (G.2.1 (F (F a 3) 0))) (vw (G.2.1 (F (F a 5) 0))) 0 (((G.1 (F a 2) 2).toInt)).toNat) = -1) ∨ (r.toInt = 0 ∧ ffL (gaL G (G.2.2.1 (F (F a 2) 1)) (vw (G.2.1 (F (F a 3) 0))) (vw (G.2.1 (F (F a 5) 0))) 0 (((G.1 (F a 2) 2).toInt)).toNat) ≠ -1))) (fun u H => TW E K F u H)) 0 0 (xA E) := by
  refine x_enter (by decide) (Nat.le_of_ble_eq_true rfl) ?_
  intro p e s m args below meth c Q S hr hlk hnm hQ hP ls hl
  obtain ⟨hz, hK, hT⟩ := hP
  obtain ⟨hx, hb, -, -, -⟩ := id S
  obtain ⟨H, hT, hS, hgo⟩ : ∃ H : Heap, TW E K F G H ∧ va_S (xA E) s.heap H [] ∧ H = s.heap := ⟨_, hT, va_S.rf, rfl⟩
  rw [← hgo]
  have hl : lv_has ls 5 [(0, .ref a), (1, .int p0), (2, .int p1)] := hl
  obtain ⟨hk9999, hj9999⟩ := fkX10_11 hT ha
  obtain ⟨hk9999a, hj9999a⟩ := fkX10_9 hT ha
  obtain ⟨hk9999b, hj9999b⟩ := fkX1_0 hT hk9999
  obtain ⟨hk9999c, hj9999c⟩ := fkX1_1 hT hk9999
  obtain ⟨hk9999d, hj9999d⟩ := fkX1_2 hT hk9999
  obtain ⟨hk9999e, hj9999e⟩ := fkX4_0 hT hk9999a
  have hj9999f : F (F (F a 9) 0) 99 = 10 * 1 + 0 := by rw [hj9999e, hj9999a]
  obtain ⟨hk9999f, hj9999g⟩ := fkX4_1 hT hk9999a
  have hj9999h : F (F (F a 9) 1) 99 = 10 * 1 + 1 := by rw [hj9999g, hj9999a]
  obtain ⟨hk9999g, hj9999i⟩ := fkX4_2 hT hk9999a
  have hj9999j : F (F (F a 9) 2) 99 = 10 * 1 + 2 := by rw [hj9999i, hj9999a]
  obtain ⟨hk9999h, hj9999k⟩ := fkX4_3 hT hk9999a
  have hj9999l : F (F (F a 9) 3) 99 = 10 * 1 + 3 := by rw [hj9999k, hj9999a]
  obtain ⟨hk9999i, hj9999m⟩ := fkX4_4 hT hk9999a
  have hj9999n : F (F (F a 9) 4) 99 = 10 * 1 + 4 := by rw [hj9999m, hj9999a]
  obtain ⟨hk9999j, hj9999o⟩ := fkX4_5 hT hk9999a
  have hj9999p : F (F (F a 9) 5) 99 = 10 * 1 + 5 := by rw [hj9999o, hj9999a]
  obtain ⟨hk9999k, hj9999q⟩ := fkX10_2 hT ha
  obtain ⟨hk9999l, hj9999r⟩ := fkX0_1 hT hk9999k
  obtain ⟨hk9999m, hj9999s⟩ := fkX10_3 hT ha
  obtain ⟨hk9999n, hj9999t⟩ := fkX6_0 hT hk9999m
  have hj9999u : F (F (F a 3) 0) 99 = 0 := by rw [hj9999t, hj9999s]
  obtain ⟨hk9999o, hj9999v⟩ := fkX6_1 hT hk9999m
  have hj9999w : F (F (F a 3) 1) 99 = 0 := by rw [hj9999v, hj9999s]
  obtain ⟨hk9999p, hj9999y⟩ := fkX10_5 hT ha
  obtain ⟨hk9999q, hj9999z25⟩ := fkX6_0 hT hk9999p
  have hj9999z26 : F (F (F a 5) 0) 99 = 2 := by rw [hj9999z25, hj9999y]
  obtain ⟨hk9999r, hj9999z27⟩ := fkX6_1 hT hk9999p
  have hj9999z28 : F (F (F a 5) 1) 99 = 2 := by rw [hj9999z27, hj9999y]
  refine lv_aload_n hx hb dX10_holdsOnPaper_0 rfl (lv_at hl 0 rfl) ?_
  refine gX10_9 S hK hT ha kf_X10_61 dX10_holdsOnPaper_1 (fun _ _ => ?_)
  refine x_cv0 (x_runV (b := (F a 9)) (As := []) (rest := []) S (c_X4_clear l E K F G (F a 9) hk9999a) mv_X4_clear km_X10_386 rfl rfl ⟨Nat.le_of_ble_eq_true rfl, Nat.le_of_ble_eq_true rfl⟩ (rc_6 hK hT hk9999a) hK (fun _ => XP.blind) (fun U hU hW => XP.at hK hz hS hT hU hW) rfl hl.1 (Nat.le_of_ble_eq_true rfl) dX10_holdsOnPaper_4 ⟨Nat.le_of_ble_eq_true rfl, Nat.le_of_ble_eq_true rfl⟩) hS ?_
  rintro G4 H locs ⟨hF4, t4⟩ hT hS
  have t4 : ((G4.1 (F a 9) 6).toInt) = 0 := t4
  refine lv_aload_n hx hb dX10_holdsOnPaper_7 rfl (lv_at hl 0 rfl) ?_
  refine gX10_11 S hK hT ha kf_X10_70 dX10_holdsOnPaper_8 (fun _ _ => ?_)
  refine lv_iload_n hx hb dX10_holdsOnPaper_11 rfl (lv_at hl 1 rfl) ?_
  refine lv_iload_n hx hb dX10_holdsOnPaper_12 rfl (lv_at hl 2 rfl) ?_
  refine x_cv0 (x_runV (b := (F a 11)) (As := [.int p0, .int p1]) (rest := []) S (c_X1_ofOneRow l E K F G4 (F a 11) p0 p1 hk9999 (e0)) mv_X1_ofOneRow km_X10_410 rfl rfl ⟨Nat.le_of_ble_eq_true rfl, Nat.le_of_ble_eq_true rfl⟩ (rc_3 hK hT hk9999) hK (fun _ => XP.blind) (fun U hU hW => XP.at hK hz hS hT hU hW) rfl hl.1 (Nat.le_of_ble_eq_true rfl) dX10_holdsOnPaper_13 ⟨Nat.le_of_ble_eq_true rfl, Nat.le_of_ble_eq_true rfl⟩) hS ?_
  rintro G13 H locs ⟨hF13, oq13⟩ hT hS
  refine lv_iconst (v := 0) hx hb dX10_holdsOnPaper_16 (by decide) ?_
  refine lv_istore_n (lv' := [(3, .int 0), (0, .ref a), (1, .int p0), (2, .int p1)]) hx hb dX10_holdsOnPaper_17 rfl hl (by decide) rfl (fun ls hl => ?_)
  have L18 : ∀ (N18 : Nat) (l3_18 : Int32) (G_18 : XG) (H : Heap) (locs : List Loc) (ls : Array Slot), XFr [(F a 11, 3), (F a 9, 6)] [F (F a 11) 2, F (F a 9) 0, F (F a 9) 1, F (F a 9) 2, F (F a 9) 3, F (F a 9) 4, F (F a 9) 5] [] G13 G_18 → qL G_18 F (F a 9) = gaL G (G.2.2.1 (F (F a 2) 1)) (vw (G.2.1 (F (F a 3) 0))) (vw (G.2.1 (F (F a 5) 0))) 0 (l3_18.toInt).toNat → ffL (qL G_18 F (F a 9)) = -1 → 0 ≤ l3_18.toInt ∧ l3_18.toInt ≤ ((G.1 (F a 2) 2).toInt) → 0 ≤ ((G_18.1 (F a 9) 6).toInt) ∧ ((G_18.1 (F a 9) 6).toInt) ≤ 90 * l3_18.toInt → 100 - l3_18.toInt < ((N18 : Nat) : Int) → TW E K F G_18 H → va_S (xA E) s.heap H locs → lv_has ls 5 [(0, .ref a), (3, .int l3_18)] → W p l e rm_X10_holdsOnPaper s m args below meth c H locs 0 0 Q (F0 m 18 ls []) := by
    intro N18
    induction N18 with
    | zero =>
      intro l3_18 G_18 H locs ls hF_18 gp gn I18_0 I18_1 hm18
      exact absurd hm18 (z_X10_holdsOnPaper_2 l3_18.toInt ((G.1 (F a 2) 2).toInt) I18_0 sb)
    | succ N18 ih18 =>
      intro l3_18 G_18 H locs ls hF_18 gp gn I18_0 I18_1 hm18 hT hS hl
      refine lv_iload_n hx hb dX10_holdsOnPaper_18 rfl (lv_at hl 1 rfl) ?_
      refine lv_aload_n hx hb dX10_holdsOnPaper_19 rfl (lv_at hl 0 rfl) ?_
      refine gX10_2 S hK hT ha kf_X10_30 dX10_holdsOnPaper_20 (fun _ _ => ?_)
      refine x_clp (x_runV (b := (F a 2)) (As := []) (rest := [.int l3_18]) S (c_X0_size l E K F G_18 H (F a 2) hk9999k) mv_X0_size km_X10_167 rfl rfl ⟨Nat.le_of_ble_eq_true rfl, Nat.le_of_ble_eq_true rfl⟩ (rc_2 hK hT hk9999k) hK (fun _ => XPh.blind) (fun U hU hW => XPh.at hK hz hS hT hU hW) rfl hl.1 (Nat.le_of_ble_eq_true rfl) dX10_holdsOnPaper_23 ⟨Nat.le_of_ble_eq_true rfl, Nat.le_of_ble_eq_true rfl⟩) hS ?_
      rintro _ _ locs ⟨x23, rfl, t23⟩ hS
      have t23 : x23.toInt = ((G.1 (F a 2) 2).toInt) := by rw [(show (G_18.1 (F a 2) 2).toInt = ((G.1 (F a 2) 2).toInt) from (congrArg Int32.toInt ((hF_18.1 _ _ (xnj (by decide) (xnj (by decide) xn0))).trans ((hF13.1 _ _ xn0).trans (hF4.1 _ _ (xnj (by decide) xn0))))).trans (rfl : Int32.toInt (G.1 (F a 2) 2) = ((G.1 (F a 2) 2).toInt)))] at t23; exact t23
      refine xi_cge (tgt := 84) hx hb (rfl : Int32.toInt l3_18 = l3_18.toInt) (t23 : Int32.toInt x23 = ((G.1 (F a 2) 2).toInt)) dX10_holdsOnPaper_26 (by decide) (fun c26 => ?_) (fun c26 => ?_)
      · refine lv_iconst (v := 1) hx hb dX10_holdsOnPaper_84 (by decide) ?_
        exact x_rz hx hb hr (xnz (Or.inr rfl)) hlk hQ (Nat.le_of_ble_eq_true rfl) (Nat.le_of_ble_eq_true rfl) hS dX10_holdsOnPaper_85 G_18 ⟨_, rfl, (Or.inr rfl), (XFr.call (XFr.call (XFr.call XFr.rf hF4 (xm1 1 rfl xm0) xm0 xm0) hF13 xm0 (xm1 0 rfl (xm1 1 rfl xm0)) xm0) hF_18 (xm1 0 rfl (xm1 1 rfl xm0)) (xm1 2 rfl (xm1 3 rfl (xm1 4 rfl (xm1 5 rfl (xm1 6 rfl (xm1 7 rfl (xm1 8 rfl xm0))))))) xm0), (v_X10_holdsOnPaper_85_1 (K := K) (F := F) a G G4 G13 G_18 p0 p1 l3_18 N18 ha oq13 gp gn sb e0 t4 I18_0 I18_1 hm18 c26)⟩ hT
      · refine lv_aload_n hx hb dX10_holdsOnPaper_29 rfl (lv_at hl 0 rfl) ?_
        refine gX10_2 S hK hT ha kf_X10_30 dX10_holdsOnPaper_30 (fun _ _ => ?_)
        refine lv_iload_n hx hb dX10_holdsOnPaper_33 rfl (lv_at hl 1 rfl) ?_
        refine x_clp (x_runV (b := (F a 2)) (As := [.int l3_18]) (rest := []) S (c_X0_inOrder l E K F G_18 H (F a 2) l3_18 hk9999k) mv_X0_inOrder km_X10_391 rfl rfl ⟨Nat.le_of_ble_eq_true rfl, Nat.le_of_ble_eq_true rfl⟩ (rc_2 hK hT hk9999k) hK (fun _ => XPh.blind) (fun U hU hW => XPh.at hK hz hS hT hU hW) rfl hl.1 (Nat.le_of_ble_eq_true rfl) dX10_holdsOnPaper_34 ⟨Nat.le_of_ble_eq_true rfl, Nat.le_of_ble_eq_true rfl⟩) hS ?_
        rintro _ _ locs (⟨rfl, hn34⟩ | ⟨q34, rfl, hk34, ht34, hs34⟩) hS
        · refine lv_astoreN (lv' := [(4, .null), (0, .ref a), (3, .int l3_18)]) hx hb dX10_holdsOnPaper_37 hl (by decide) rfl (fun ls hl => ?_)
          refine lv_aloadN hx hb dX10_holdsOnPaper_39 (lv_at hl 0 rfl) ?_
          refine lv_ifnullN (tgt := 65) hx hb dX10_holdsOnPaper_41 (by decide) ?_
          refine lv_aload_n hx hb dX10_holdsOnPaper_65 rfl (lv_at hl 1 rfl) ?_
          refine gX10_9 S hK hT ha kf_X10_61 dX10_holdsOnPaper_66 (fun _ _ => ?_)
          refine x_clp (x_runV (b := (F a 9)) (As := []) (rest := []) S (c_X4_firstFailing l E K F G_18 H (F a 9) hk9999a (z_X10_holdsOnPaper_3 l3_18.toInt ((G.1 (F a 2) 2).toInt) ((G_18.1 (F a 9) 6).toInt) sb I18_1 c26)) mv_X4_firstFailing km_X10_244 rfl rfl ⟨Nat.le_of_ble_eq_true rfl, Nat.le_of_ble_eq_true rfl⟩ (rc_6 hK hT hk9999a) hK (fun _ => XPh.blind) (fun U hU hW => XPh.at hK hz hS hT hU hW) rfl hl.1 (Nat.le_of_ble_eq_true rfl) dX10_holdsOnPaper_69 ⟨Nat.le_of_ble_eq_true rfl, Nat.le_of_ble_eq_true rfl⟩) hS ?_
          rintro _ _ locs ⟨x69, rfl, t69, oq69⟩ hS
          have t69 : x69.toInt = -1 ∨ (0 ≤ x69.toInt ∧ x69.toInt < ((G_18.1 (F a 9) 6).toInt) ∧ (aI (G_18.2.1 (F (F a 9) 5)) (x69.toInt)) = 1) := t69
          refine lv_iconst (v := (-1)) hx hb dX10_holdsOnPaper_72 (by decide) ?_
          refine xi_ceq (tgt := 78) hx hb (rfl : Int32.toInt x69 = x69.toInt) ((by decide) : Int32.toInt (-1) = (-1 : Int)) dX10_holdsOnPaper_73 (by decide) (fun c73 => ?_) (fun c73 => ?_)
          · refine xi_iinc (n := 1) (lv' := fun z9 => [(3, .int z9), (4, .null), (0, .ref a)]) (k := 2) hx hb (rfl : Int32.toInt l3_18 = l3_18.toInt) (by decide) dX10_holdsOnPaper_78 hl rfl (by decide) (fun _ => rfl) (fun x78 ls t78 hl => ?_)
            have e78 : x78.toInt = (l3_18.toInt + 1) := (z_X10_holdsOnPaper_4 l3_18.toInt x78.toInt ((G.1 (F a 2) 2).toInt) sb I18_0 t78)
            have hl : lv_has ls 5 [(3, .int x78), (4, .null), (0, .ref a)] := hl
            refine lv_goto (tgt := 18) hx hb dX10_holdsOnPaper_81 (by decide) ?_
            exact ih18 x78 G_18 _ _ _ (XFr.call XFr.rf hF_18 (xm1 0 rfl (xm1 1 rfl xm0)) (xm1 0 rfl (xm1 1 rfl (xm1 2 rfl (xm1 3 rfl (xm1 4 rfl (xm1 5 rfl (xm1 6 rfl xm0))))))) xm0) (by rw [(e78 : Int32.toInt x78 = (l3_18.toInt + 1))] <;> exact (v_X10_holdsOnPaper_81_2 (K := K) (F := F) a G G4 G13 G_18 p0 p1 l3_18 x69 N18 ha oq13 gp gn hn34 sb e0 t4 I18_0 I18_1 hm18 c26 t69 c73 ((hF_18.2.2 _ xn0).trans ((hF13.2.2 _ xn0).trans (hF4.2.2 _ xn0))) ((hF_18.1 _ _ (xnj (by decide) (xnj (by decide) xn0))).trans ((hF13.1 _ _ xn0).trans (hF4.1 _ _ (xnj (by decide) xn0)))))) (v_X10_holdsOnPaper_81_3 (F := F) a G_18 x69 oq69 t69 c73) (by rw [(e78 : Int32.toInt x78 = (l3_18.toInt + 1))] <;> exact (z_X10_holdsOnPaper_5 l3_18.toInt ((G.1 (F a 2) 2).toInt) I18_0 c26)) (by rw [(e78 : Int32.toInt x78 = (l3_18.toInt + 1))] <;> exact (z_X10_holdsOnPaper_6 l3_18.toInt ((G_18.1 (F a 9) 6).toInt) I18_1)) (by rw [(e78 : Int32.toInt x78 = (l3_18.toInt + 1))] <;> exact (z_X10_holdsOnPaper_7 l3_18.toInt N18 hm18)) hT hS (lv_sub hl [2, 0] rfl)
          · refine lv_iconst (v := 0) hx hb dX10_holdsOnPaper_76 (by decide) ?_
            exact x_rz hx hb hr (xnz (Or.inl rfl)) hlk hQ (Nat.le_of_ble_eq_true rfl) (Nat.le_of_ble_eq_true rfl) hS dX10_holdsOnPaper_77 G_18 ⟨_, rfl, (Or.inl rfl), (XFr.call (XFr.call (XFr.call XFr.rf hF4 (xm1 1 rfl xm0) xm0 xm0) hF13 xm0 (xm1 0 rfl (xm1 1 rfl xm0)) xm0) hF_18 (xm1 0 rfl (xm1 1 rfl xm0)) (xm1 2 rfl (xm1 3 rfl (xm1 4 rfl (xm1 5 rfl (xm1 6 rfl (xm1 7 rfl (xm1 8 rfl xm0))))))) xm0), (v_X10_holdsOnPaper_77_4 (K := K) (F := F) a G G4 G13 G_18 p0 p1 l3_18 x69 N18 ha oq13 gp gn hn34 oq69 sb e0 t4 I18_0 I18_1 hm18 c26 t69 c73 ((hF_18.2.2 _ xn0).trans ((hF13.2.2 _ xn0).trans (hF4.2.2 _ xn0))))⟩ hT
        · have ht34 : 0 ≤ l3_18.toInt ∧ l3_18.toInt < ((G.1 (F a 2) 2).toInt) ∧ l3_18.toInt < 12 := by rw [(show (G_18.1 (F a 2) 2).toInt = ((G.1 (F a 2) 2).toInt) from (congrArg Int32.toInt ((hF_18.1 _ _ (xnj (by decide) (xnj (by decide) xn0))).trans ((hF13.1 _ _ xn0).trans (hF4.1 _ _ (xnj (by decide) xn0))))).trans (rfl : Int32.toInt (G.1 (F a 2) 2) = ((G.1 (F a 2) 2).toInt)))] at ht34; exact ht34
          refine lv_astore (lv' := [(4, .ref q34), (0, .ref a), (3, .int l3_18)]) hx hb dX10_holdsOnPaper_37 hl (by decide) rfl (fun ls hl => ?_)
          refine lv_aload hx hb dX10_holdsOnPaper_39 (lv_at hl 0 rfl) ?_
          refine lv_ifnull hx hb dX10_holdsOnPaper_41 ?_
          refine lv_aload_n hx hb dX10_holdsOnPaper_44 rfl (lv_at hl 1 rfl) ?_
          refine gX10_11 S hK hT ha kf_X10_70 dX10_holdsOnPaper_45 (fun _ _ => ?_)
          refine lv_aload hx hb dX10_holdsOnPaper_48 (lv_at hl 0 rfl) ?_
          refine lv_aload_n hx hb dX10_holdsOnPaper_50 rfl (lv_at hl 1 rfl) ?_
          refine gX10_3 S hK hT ha kf_X10_37 dX10_holdsOnPaper_51 (fun _ _ => ?_)
          refine lv_aload_n hx hb dX10_holdsOnPaper_54 rfl (lv_at hl 1 rfl) ?_
          refine gX10_5 S hK hT ha kf_X10_44 dX10_holdsOnPaper_55 (fun _ _ => ?_)
          refine lv_aload_n hx hb dX10_holdsOnPaper_58 rfl (lv_at hl 1 rfl) ?_
          refine gX10_9 S hK hT ha kf_X10_61 dX10_holdsOnPaper_59 (fun _ _ => ?_)
          refine x_cv0 (x_runV (b := (F a 11)) (As := [.ref q34, .ref (F a 3), .ref (F a 5), .ref (F a 9)]) (rest := []) S (c_X1_addQuestions l E K F G_18 (F a 11) q34 (F a 3) (F a 5) (F a 9) hk9999 hk34 hk9999m hk9999p hk9999a (z_X10_holdsOnPaper_8 l3_18.toInt ((G.1 (F a 2) 2).toInt) ((G_18.1 (F a 9) 6).toInt) I18_1 ht34) (v_X10_holdsOnPaper_62_5 (F := F) a G G_18 ron rop ((hF_18.2.1 _ (xn1 (xne_k hk9999n hk9999d (by decide)) (xn1 (xne_k hk9999n hk9999e (by decide)) (xn1 (xne_k hk9999n hk9999f (by decide)) (xn1 (xne_k hk9999n hk9999g (by decide)) (xn1 (xne_k hk9999n hk9999h (by decide)) (xn1 (xne_k hk9999n hk9999i (by decide)) (xn1 (xne_k hk9999n hk9999j (by decide)) xn0)))))))).trans ((hF13.2.1 _ (xn1 (xne_k hk9999n hk9999b (by decide)) (xn1 (xne_k hk9999n hk9999c (by decide)) xn0))).trans (hF4.2.1 _ xn0))) ((hF_18.2.1 _ (xn1 (xne_k hk9999o hk9999d (by decide)) (xn1 (xne_k hk9999o hk9999e (by decide)) (xn1 (xne_k hk9999o hk9999f (by decide)) (xn1 (xne_k hk9999o hk9999g (by decide)) (xn1 (xne_k hk9999o hk9999h (by decide)) (xn1 (xne_k hk9999o hk9999i (by decide)) (xn1 (xne_k hk9999o hk9999j (by decide)) xn0)))))))).trans ((hF13.2.1 _ (xn1 (xne_j hj9999w hj9999b (by first | decide | omega)) (xn1 (xne_j hj9999w hj9999c (by first | decide | omega)) xn0))).trans (hF4.2.1 _ xn0)))) (v_X10_holdsOnPaper_62_6 (F := F) a G G_18 ron rop ((hF_18.2.1 _ (xn1 (xne_k hk9999q hk9999d (by decide)) (xn1 (xne_k hk9999q hk9999e (by decide)) (xn1 (xne_k hk9999q hk9999f (by decide)) (xn1 (xne_k hk9999q hk9999g (by decide)) (xn1 (xne_k hk9999q hk9999h (by decide)) (xn1 (xne_k hk9999q hk9999i (by decide)) (xn1 (xne_k hk9999q hk9999j (by decide)) xn0)))))))).trans ((hF13.2.1 _ (xn1 (xne_k hk9999q hk9999b (by decide)) (xn1 (xne_k hk9999q hk9999c (by decide)) xn0))).trans (hF4.2.1 _ xn0))) ((hF_18.2.1 _ (xn1 (xne_k hk9999r hk9999d (by decide)) (xn1 (xne_k hk9999r hk9999e (by decide)) (xn1 (xne_k hk9999r hk9999f (by decide)) (xn1 (xne_k hk9999r hk9999g (by decide)) (xn1 (xne_k hk9999r hk9999h (by decide)) (xn1 (xne_k hk9999r hk9999i (by decide)) (xn1 (xne_k hk9999r hk9999j (by decide)) xn0)))))))).trans ((hF13.2.1 _ (xn1 (xne_j hj9999z28 hj9999b (by first | decide | omega)) (xn1 (xne_j hj9999z28 hj9999c (by first | decide | omega)) xn0))).trans (hF4.2.1 _ xn0)))) (v_X10_holdsOnPaper_62_7 (K := K) (F := F) G a G_18 l3_18 q34 bko hs34 ht34 ((hF_18.2.2 _ xn0).trans ((hF13.2.2 _ xn0).trans (hF4.2.2 _ xn0))) ((fr_A hF_18 (fun _ => (xna (xne_k hk34 hk9999 (by decide)) (xna (xne_k hk34 hk9999a (by decide)) xn0)))).trans ((fr_A hF13 (fun _ => xn0)).trans (fr_A hF4 (fun _ => (xna (xne_k hk34 hk9999a (by decide)) xn0)))))) (v_X10_holdsOnPaper_62_8 (F := F) p0 p1 G a G13 G_18 h1 oq13 (hF_18.2.1 _ (xn1 (xne_k hk9999b hk9999d (by decide)) (xn1 (xne_k hk9999b hk9999e (by decide)) (xn1 (xne_k hk9999b hk9999f (by decide)) (xn1 (xne_k hk9999b hk9999g (by decide)) (xn1 (xne_k hk9999b hk9999h (by decide)) (xn1 (xne_k hk9999b hk9999i (by decide)) (xn1 (xne_k hk9999b hk9999j (by decide)) xn0)))))))) (hF_18.2.1 _ (xn1 (xne_k hk9999c hk9999d (by decide)) (xn1 (xne_k hk9999c hk9999e (by decide)) (xn1 (xne_k hk9999c hk9999f (by decide)) (xn1 (xne_k hk9999c hk9999g (by decide)) (xn1 (xne_k hk9999c hk9999h (by decide)) (xn1 (xne_k hk9999c hk9999i (by decide)) (xn1 (xne_k hk9999c hk9999j (by decide)) xn0)))))))) ((hF_18.2.1 _ (xn1 (xne_k hk9999n hk9999d (by decide)) (xn1 (xne_k hk9999n hk9999e (by decide)) (xn1 (xne_k hk9999n hk9999f (by decide)) (xn1 (xne_k hk9999n hk9999g (by decide)) (xn1 (xne_k hk9999n hk9999h (by decide)) (xn1 (xne_k hk9999n hk9999i (by decide)) (xn1 (xne_k hk9999n hk9999j (by decide)) xn0)))))))).trans ((hF13.2.1 _ (xn1 (xne_k hk9999n hk9999b (by decide)) (xn1 (xne_k hk9999n hk9999c (by decide)) xn0))).trans (hF4.2.1 _ xn0))) ((hF_18.2.1 _ (xn1 (xne_k hk9999q hk9999d (by decide)) (xn1 (xne_k hk9999q hk9999e (by decide)) (xn1 (xne_k hk9999q hk9999f (by decide)) (xn1 (xne_k hk9999q hk9999g (by decide)) (xn1 (xne_k hk9999q hk9999h (by decide)) (xn1 (xne_k hk9999q hk9999i (by decide)) (xn1 (xne_k hk9999q hk9999j (by decide)) xn0)))))))).trans ((hF13.2.1 _ (xn1 (xne_k hk9999q hk9999b (by decide)) (xn1 (xne_k hk9999q hk9999c (by decide)) xn0))).trans (hF4.2.1 _ xn0))))) mv_X1_addQuestions km_X10_397 rfl rfl ⟨Nat.le_of_ble_eq_true rfl, Nat.le_of_ble_eq_true rfl⟩ (rc_3 hK hT hk9999) hK (fun _ => XP.blind) (fun U hU hW => XP.at hK hz hS hT hU hW) rfl hl.1 (Nat.le_of_ble_eq_true rfl) dX10_holdsOnPaper_62 ⟨Nat.le_of_ble_eq_true rfl, Nat.le_of_ble_eq_true rfl⟩) hS ?_
          rintro G62 H locs ⟨hF62, t62, oq62⟩ hT hS
          have t62 : ((G_18.1 (F a 9) 6).toInt) ≤ ((G62.1 (F a 9) 6).toInt) ∧ ((G62.1 (F a 9) 6).toInt) ≤ ((G_18.1 (F a 9) 6).toInt) + 90 := t62
          have oq62 : qL G62 F (F a 9) = qL G_18 F (F a 9) ++ uqs (vw (G.2.1 (F (F a 3) 0))) (vw (G.2.1 (F (F a 5) 0))) (G_18.1 q34) := by simp only [(show G_18.2.1 (F (F a 3) 0) = G.2.1 (F (F a 3) 0) from ((hF_18.2.1 _ (xn1 (xne_k hk9999n hk9999d (by decide)) (xn1 (xne_k hk9999n hk9999e (by decide)) (xn1 (xne_k hk9999n hk9999f (by decide)) (xn1 (xne_k hk9999n hk9999g (by decide)) (xn1 (xne_k hk9999n hk9999h (by decide)) (xn1 (xne_k hk9999n hk9999i (by decide)) (xn1 (xne_k hk9999n hk9999j (by decide)) xn0)))))))).trans ((hF13.2.1 _ (xn1 (xne_k hk9999n hk9999b (by decide)) (xn1 (xne_k hk9999n hk9999c (by decide)) xn0))).trans (hF4.2.1 _ xn0)))), (show G_18.2.1 (F (F a 5) 0) = G.2.1 (F (F a 5) 0) from ((hF_18.2.1 _ (xn1 (xne_k hk9999q hk9999d (by decide)) (xn1 (xne_k hk9999q hk9999e (by decide)) (xn1 (xne_k hk9999q hk9999f (by decide)) (xn1 (xne_k hk9999q hk9999g (by decide)) (xn1 (xne_k hk9999q hk9999h (by decide)) (xn1 (xne_k hk9999q hk9999i (by decide)) (xn1 (xne_k hk9999q hk9999j (by decide)) xn0)))))))).trans ((hF13.2.1 _ (xn1 (xne_k hk9999q hk9999b (by decide)) (xn1 (xne_k hk9999q hk9999c (by decide)) xn0))).trans (hF4.2.1 _ xn0))))] at oq62; exact oq62
          refine lv_aload_n hx hb dX10_holdsOnPaper_65 rfl (lv_at hl 1 rfl) ?_
          refine gX10_9 S hK hT ha kf_X10_61 dX10_holdsOnPaper_66 (fun _ _ => ?_)
          refine x_clp (x_runV (b := (F a 9)) (As := []) (rest := []) S (c_X4_firstFailing l E K F G62 H (F a 9) hk9999a (z_X10_holdsOnPaper_9 l3_18.toInt ((G.1 (F a 2) 2).toInt) ((G62.1 (F a 9) 6).toInt) ((G_18.1 (F a 9) 6).toInt) I18_1 ht34 t62)) mv_X4_firstFailing km_X10_244 rfl rfl ⟨Nat.le_of_ble_eq_true rfl, Nat.le_of_ble_eq_true rfl⟩ (rc_6 hK hT hk9999a) hK (fun _ => XPh.blind) (fun U hU hW => XPh.at hK hz hS hT hU hW) rfl hl.1 (Nat.le_of_ble_eq_true rfl) dX10_holdsOnPaper_69 ⟨Nat.le_of_ble_eq_true rfl, Nat.le_of_ble_eq_true rfl⟩) hS ?_
          rintro _ _ locs ⟨x69, rfl, t69, oq69⟩ hS
          have t69 : x69.toInt = -1 ∨ (0 ≤ x69.toInt ∧ x69.toInt < ((G62.1 (F a 9) 6).toInt) ∧ (aI (G62.2.1 (F (F a 9) 5)) (x69.toInt)) = 1) := t69
          refine lv_iconst (v := (-1)) hx hb dX10_holdsOnPaper_72 (by decide) ?_
          refine xi_ceq (tgt := 78) hx hb (rfl : Int32.toInt x69 = x69.toInt) ((by decide) : Int32.toInt (-1) = (-1 : Int)) dX10_holdsOnPaper_73 (by decide) (fun c73 => ?_) (fun c73 => ?_)
          · refine xi_iinc (n := 1) (lv' := fun z9 => [(3, .int z9), (4, .ref q34), (0, .ref a)]) (k := 2) hx hb (rfl : Int32.toInt l3_18 = l3_18.toInt) (by decide) dX10_holdsOnPaper_78 hl rfl (by decide) (fun _ => rfl) (fun x78 ls t78 hl => ?_)
            have e78 : x78.toInt = (l3_18.toInt + 1) := (z_X10_holdsOnPaper_10 l3_18.toInt x78.toInt ((G.1 (F a 2) 2).toInt) ht34 t78)
            have hl : lv_has ls 5 [(3, .int x78), (4, .ref q34), (0, .ref a)] := hl
            refine lv_goto (tgt := 18) hx hb dX10_holdsOnPaper_81 (by decide) ?_
            exact ih18 x78 G62 _ _ _ (XFr.call (XFr.call XFr.rf hF_18 (xm1 0 rfl (xm1 1 rfl xm0)) (xm1 0 rfl (xm1 1 rfl (xm1 2 rfl (xm1 3 rfl (xm1 4 rfl (xm1 5 rfl (xm1 6 rfl xm0))))))) xm0) hF62 (xm1 0 rfl (xm1 1 rfl xm0)) (xm1 0 rfl (xm1 1 rfl (xm1 2 rfl (xm1 3 rfl (xm1 4 rfl (xm1 5 rfl (xm1 6 rfl xm0))))))) xm0) (by rw [(e78 : Int32.toInt x78 = (l3_18.toInt + 1))] <;> exact (v_X10_holdsOnPaper_81_9 (K := K) (F := F) a q34 G G4 G13 G_18 G62 p0 p1 l3_18 x69 N18 ha oq13 gp gn hs34 oq62 sb e0 t4 I18_0 I18_1 hm18 c26 ht34 t62 t69 c73 ((hF_18.2.2 _ xn0).trans ((hF13.2.2 _ xn0).trans (hF4.2.2 _ xn0))) ((fr_A hF_18 (fun _ => (xna (xne_k hk34 hk9999 (by decide)) (xna (xne_k hk34 hk9999a (by decide)) xn0)))).trans ((fr_A hF13 (fun _ => xn0)).trans (fr_A hF4 (fun _ => (xna (xne_k hk34 hk9999a (by decide)) xn0))))))) (v_X10_holdsOnPaper_81_10 (F := F) a G62 x69 oq69 t69 c73) (by rw [(e78 : Int32.toInt x78 = (l3_18.toInt + 1))] <;> exact (z_X10_holdsOnPaper_5 l3_18.toInt ((G.1 (F a 2) 2).toInt) I18_0 c26)) (by rw [(e78 : Int32.toInt x78 = (l3_18.toInt + 1))] <;> exact (z_X10_holdsOnPaper_12 l3_18.toInt ((G62.1 (F a 9) 6).toInt) ((G_18.1 (F a 9) 6).toInt) I18_1 t62)) (by rw [(e78 : Int32.toInt x78 = (l3_18.toInt + 1))] <;> exact (z_X10_holdsOnPaper_7 l3_18.toInt N18 hm18)) hT hS (lv_sub hl [2, 0] rfl)
          · refine lv_iconst (v := 0) hx hb dX10_holdsOnPaper_76 (by decide) ?_
            exact x_rz hx hb hr (xnz (Or.inl rfl)) hlk hQ (Nat.le_of_ble_eq_true rfl) (Nat.le_of_ble_eq_true rfl) hS dX10_holdsOnPaper_77 G62 ⟨_, rfl, (Or.inl rfl), (XFr.call (XFr.call (XFr.call (XFr.call XFr.rf hF4 (xm1 1 rfl xm0) xm0 xm0) hF13 xm0 (xm1 0 rfl (xm1 1 rfl xm0)) xm0) hF_18 (xm1 0 rfl (xm1 1 rfl xm0)) (xm1 2 rfl (xm1 3 rfl (xm1 4 rfl (xm1 5 rfl (xm1 6 rfl (xm1 7 rfl (xm1 8 rfl xm0))))))) xm0) hF62 (xm1 0 rfl (xm1 1 rfl xm0)) (xm1 2 rfl (xm1 3 rfl (xm1 4 rfl (xm1 5 rfl (xm1 6 rfl (xm1 7 rfl (xm1 8 rfl xm0))))))) xm0), (v_X10_holdsOnPaper_77_11 (K := K) (F := F) a q34 G G4 G13 G_18 G62 p0 p1 l3_18 x69 N18 ha oq13 gp gn hs34 oq62 oq69 sb e0 t4 I18_0 I18_1 hm18 c26 ht34 t62 t69 c73 ((hF_18.2.2 _ xn0).trans ((hF13.2.2 _ xn0).trans (hF4.2.2 _ xn0))) ((fr_A hF_18 (fun _ => (xna (xne_k hk34 hk9999 (by decide)) (xna (xne_k hk34 hk9999a (by decide)) xn0)))).trans ((fr_A hF13 (fun _ => xn0)).trans (fr_A hF4 (fun _ => (xna (xne_k hk34 hk9999a (by decide)) xn0))))))⟩ hT
  exact L18 4294967297 0 G13 _ _ _ XFr.rf (v_X10_holdsOnPaper_17_12 (F := F) a G G4 G13 t4 (hF13.1 _ _ xn0)) (v_X10_holdsOnPaper_17_13 (F := F) a G4 G13 t4 (hF13.1 _ _ xn0)) (z_X10_holdsOnPaper_14 ((G.1 (F a 2) 2).toInt) sb) (by rw [(show (G13.1 (F a 9) 6).toInt = ((G4.1 (F a 9) 6).toInt) from (congrArg Int32.toInt (hF13.1 _ _ xn0)).trans (rfl : Int32.toInt (G4.1 (F a 9) 6) = ((G4.1 (F a 9) 6).toInt)))] <;> exact (z_X10_holdsOnPaper_15 ((G4.1 (F a 9) 6).toInt) t4)) (by decide) hT hS (lv_sub hl [1, 0] rfl)

theorem z_X10_least_1 (a0 : Int) (h0 : -99 ≤ a0 ∧ a0 ≤ 100) : ¬ (200 - a0 < ((0 : Nat) : Int)) := by omega
theorem z_X10_least_2 (a0 : Int) (a1 : Int) (h0 : (a1 = 1 ∧ 0 ≤ a0 ∧ a0 < 3) ∨ (a1 = 0 ∧ (a0 < 0 ∨ 3 ≤ a0))) (h1 : a1 ≠ 0) : 0 ≤ a0 ∧ a0 < 3 := by omega
theorem z_X10_least_3 (a0 : Int) (h0 : -99 ≤ a0 ∧ a0 ≤ 100) (h1 : ¬ ((99 : Int) < a0)) : a0 = -1000 ∨ (-99 ≤ a0 ∧ a0 ≤ 99) := by omega
theorem z_X10_least_4 (a0 : Int) (a1 : Int) (h0 : -99 ≤ a0 ∧ a0 ≤ 100) (h1 : a1 = (a0 + 1) ∨ (a0 + 1) < -2147483648 ∨ 2147483648 ≤ (a0 + 1)) : a1 = (a0 + 1) := by omega
theorem z_X10_least_5 (a0 : Int) (h0 : -99 ≤ a0 ∧ a0 ≤ 100) (h1 : ¬ ((99 : Int) < a0)) : -99 ≤ (a0 + 1) ∧ (a0 + 1) ≤ 100 := by omega
theorem z_X10_least_6 (a0 : Int) (a1 : Nat) (h0 : 200 - a0 < ((a1 + 1 : Nat) : Int)) : 200 - (a0 + 1) < ((a1 : Nat) : Int) := by omega
theorem z_X10_least_8 (a0 : Int) (a1 : Int) (a2 : Int) (a3 : Int) (h0 : ¬ (0 ≤ a0 ∧ a0 < 3 ∧ 0 ≤ a1 ∧ a1 < 30) → a3 = -2000) (h1 : (a2 = 1 ∧ a3 ≠ -2000) ∨ (a2 = 0 ∧ a3 = -2000)) (h2 : ¬ (a2 = 0)) : 0 ≤ a0 ∧ a0 < 3 ∧ 0 ≤ a1 ∧ a1 < 30 := by omega
abbrev rm_X10_least : Room := { frames := 6, cells := 0, slots := 0, locals := 147 }
set_option maxHeartbeats 4000000 in
set_option maxRecDepth 100000 in
theorem c_X10_least (l : Launch) (E : XE) (K : Nat → Nat) (F : Nat → Nat → Nat) (G : XG) (a : Nat) (p0 : Int32) (p1 : Int32) (p2 : Int32) (ha : K a = 12) (sb : 0 ≤ ((G.1 (F a 2) 2).toInt) ∧ ((G.1 (F a 2) 2).toInt) ≤ 12) (ron : RO (vw (G.2.1 (F (F a 3) 0))) (aI (G.2.1 (F (F a 3) 1)))) (bko : BKr K G (G.2.2.1 (F (F a 2) 1))) : Met l yX10_least (xw yX10_least cX10_least 6 (some .int)) rm_X10_least (va_Pc [.ref a, .int p0, .int p1, .int p2] (XP E K F G)) (XQ E (fun v (u : XG) => ∃ r : Int32, v = .int r ∧ XFr [(F a 11, 3), (F a 9, 6)] [F (F a 11) 0, F (F a 11) 1, F (F a 11) 2, F (F a 9) 0, F (F a 9) 1, F (F a 9) 2, F (F a 9) 3, F (F a 9) 4, F (F a 9) 5, F (F a 5) 0, F (F a 5) 1] [] G u ∧ ((¬ (cel (vw (G.2.1 (F (F a 3) 0))) p0.toInt p1.toInt 0 ≠ -2000 ∧ 0 ≤ p2.toInt ∧ p2.toInt < 3) ∧ r.toInt = -2147483648) ∨ ((cel (vw (G.2.1 (F (F a 3) 0))) p0.toInt p1.toInt 0 ≠ -2000 ∧ 0 ≤ p2.toInt ∧ p2.toInt < 3) ∧ LsS (fun v => ffL (gaL G (G.2.2.1 (F (F a 2) 1)) (vw (G.2.1 (F (F a 3) 0))) (rset (vw (G.2.1 (F (F a 3) 0))) (90 * p0.toInt + 30 * p2.toInt + p1.toInt) v) 0 (((G.1 (F a 2) 2).toInt)).toNat) = -1) (cel (vw (G.2.1 (F (F a 3) 0))) p0.toInt p1.toInt p2.toInt) r.toInt))) (fun u H => TW E K F u H)) 0 0 (xA E) := by
  refine x_enter (by decide) (Nat.le_of_ble_eq_true rfl) ?_
  intro p e s m args below meth c Q S hr hlk hnm hQ hP ls hl
  obtain ⟨hz, hK, hT⟩ := hP
  obtain ⟨hx, hb, -, -, -⟩ := id S
  obtain ⟨H, hT, hS, hgo⟩ : ∃ H : Heap, TW E K F G H ∧ va_S (xA E) s.heap H [] ∧ H = s.heap := ⟨_, hT, va_S.rf, rfl⟩
  rw [← hgo]
  have hl : lv_has ls 6 [(0, .ref a), (1, .int p0), (2, .int p1), (3, .int p2)] := hl
  obtain ⟨hk9999, hj9999⟩ := fkX10_11 hT ha
  obtain ⟨hk9999a, hj9999a⟩ := fkX10_9 hT ha
  obtain ⟨hk9999b, hj9999b⟩ := fkX1_0 hT hk9999
  obtain ⟨hk9999c, hj9999c⟩ := fkX1_1 hT hk9999
  obtain ⟨hk9999d, hj9999d⟩ := fkX1_2 hT hk9999
  obtain ⟨hk9999e, hj9999e⟩ := fkX4_0 hT hk9999a
  have hj9999f : F (F (F a 9) 0) 99 = 10 * 1 + 0 := by rw [hj9999e, hj9999a]
  obtain ⟨hk9999f, hj9999g⟩ := fkX4_1 hT hk9999a
  have hj9999h : F (F (F a 9) 1) 99 = 10 * 1 + 1 := by rw [hj9999g, hj9999a]
  obtain ⟨hk9999g, hj9999i⟩ := fkX4_2 hT hk9999a
  have hj9999j : F (F (F a 9) 2) 99 = 10 * 1 + 2 := by rw [hj9999i, hj9999a]
  obtain ⟨hk9999h, hj9999k⟩ := fkX4_3 hT hk9999a
  have hj9999l : F (F (F a 9) 3) 99 = 10 * 1 + 3 := by rw [hj9999k, hj9999a]
  obtain ⟨hk9999i, hj9999m⟩ := fkX4_4 hT hk9999a
  have hj9999n : F (F (F a 9) 4) 99 = 10 * 1 + 4 := by rw [hj9999m, hj9999a]
  obtain ⟨hk9999j, hj9999o⟩ := fkX4_5 hT hk9999a
  have hj9999p : F (F (F a 9) 5) 99 = 10 * 1 + 5 := by rw [hj9999o, hj9999a]
  obtain ⟨hk9999k, hj9999q⟩ := fkX10_5 hT ha
  obtain ⟨hk9999l, hj9999r⟩ := fkX6_0 hT hk9999k
  have hj9999s : F (F (F a 5) 0) 99 = 2 := by rw [hj9999r, hj9999q]
  obtain ⟨hk9999m, hj9999t⟩ := fkX6_1 hT hk9999k
  have hj9999u : F (F (F a 5) 1) 99 = 2 := by rw [hj9999t, hj9999q]
  obtain ⟨hk9999n, hj9999v⟩ := fkX10_2 hT ha
  obtain ⟨hk9999o, hj9999w⟩ := fkX0_1 hT hk9999n
  obtain ⟨hk9999p, hj9999y⟩ := fkX10_3 hT ha
  obtain ⟨hk9999q, hj9999z25⟩ := fkX6_0 hT hk9999p
  have hj9999z26 : F (F (F a 3) 0) 99 = 0 := by rw [hj9999z25, hj9999y]
  obtain ⟨hk9999r, hj9999z27⟩ := fkX6_1 hT hk9999p
  have hj9999z28 : F (F (F a 3) 1) 99 = 0 := by rw [hj9999z27, hj9999y]
  refine lv_aload_n hx hb dX10_least_0 rfl (lv_at hl 0 rfl) ?_
  refine gX10_3 S hK hT ha kf_X10_37 dX10_least_1 (fun _ _ => ?_)
  refine lv_iload_n hx hb dX10_least_4 rfl (lv_at hl 1 rfl) ?_
  have z5 : ¬ (0 ≤ p0.toInt ∧ p0.toInt < 3 ∧ 0 ≤ p1.toInt ∧ p1.toInt < 30) → (cel (vw (G.2.1 (F (F a 3) 0))) (p0.toInt) (p1.toInt) 0) = -2000 := fun h9 => cel_out (by omega)
  refine lv_iload_n hx hb dX10_least_5 rfl (lv_at hl 2 rfl) ?_
  refine x_clp (x_runV (b := (F a 3)) (As := [.int p0, .int p1]) (rest := []) S (c_X6_has l E K F G H (F a 3) p0 p1 hk9999p (v_X10_least_6_1 (F := F) a G ron)) mv_X6_has km_X10_191 rfl rfl ⟨Nat.le_of_ble_eq_true rfl, Nat.le_of_ble_eq_true rfl⟩ (rc_8 hK hT hk9999p) hK (fun _ => XPh.blind) (fun U hU hW => XPh.at hK hz hS hT hU hW) rfl hl.1 (Nat.le_of_ble_eq_true rfl) dX10_least_6 ⟨Nat.le_of_ble_eq_true rfl, Nat.le_of_ble_eq_true rfl⟩) hS ?_
  rintro _ _ locs ⟨x6, rfl, b6, t6⟩ hS
  have t6 : (x6.toInt = 1 ∧ (cel (vw (G.2.1 (F (F a 3) 0))) (p0.toInt) (p1.toInt) 0) ≠ -2000) ∨ (x6.toInt = 0 ∧ (cel (vw (G.2.1 (F (F a 3) 0))) (p0.toInt) (p1.toInt) 0) = -2000) := t6
  refine xi_zeq (tgt := 19) hx hb (rfl : Int32.toInt x6 = x6.toInt) dX10_least_9 (by decide) (fun c9 => ?_) (fun c9 => ?_)
  · refine lv_ldcw (v := (-2147483648)) hx hb S.2.2.2.1 (S.2.2.2.2 _ (List.mem_cons_of_mem _ kc_X10_274)) dX10_least_19 ?_
    exact x_ri hx hb hr hlk hQ (Nat.le_of_ble_eq_true rfl) (Nat.le_of_ble_eq_true rfl) hS dX10_least_22 G ⟨_, rfl, XFr.rf, (by rw [((by decide) : Int32.toInt (-2147483648) = (-2147483648 : Int))] <;> exact (v_X10_least_22_2 (K := K) (F := F) a G p0 p1 x6 p2 ha sb z5 t6 c9))⟩ hT
  · refine lv_iload_n hx hb dX10_least_12 rfl (lv_at hl 3 rfl) ?_
    refine x_clp (x_runS (As := [.int p2]) (rest := []) S (c_X10_isColumn l E K F G H p2) ms_X10_isColumn km_X10_255 rfl rfl ⟨Nat.le_of_ble_eq_true rfl, Nat.le_of_ble_eq_true rfl⟩ hK (fun _ => XPh.blind) (fun U hU hW => XPh.at hK hz hS hT hU hW) rfl hl.1 (Nat.le_of_ble_eq_true rfl) dX10_least_13 ⟨Nat.le_of_ble_eq_true rfl, Nat.le_of_ble_eq_true rfl⟩) hS ?_
    rintro _ _ locs ⟨x13, rfl, b13, t13⟩ hS
    have t13 : (x13.toInt = 1 ∧ 0 ≤ p2.toInt ∧ p2.toInt < 3) ∨ (x13.toInt = 0 ∧ (p2.toInt < 0 ∨ 3 ≤ p2.toInt)) := t13
    refine xi_zne (tgt := 23) hx hb (rfl : Int32.toInt x13 = x13.toInt) dX10_least_16 (by decide) (fun c16 => ?_) (fun c16 => ?_)
    · refine lv_aload_n hx hb dX10_least_23 rfl (lv_at hl 0 rfl) ?_
      refine gX10_3 S hK hT ha kf_X10_37 dX10_least_24 (fun _ _ => ?_)
      refine lv_iload_n hx hb dX10_least_27 rfl (lv_at hl 1 rfl) ?_
      refine lv_iload_n hx hb dX10_least_28 rfl (lv_at hl 2 rfl) ?_
      refine lv_iload_n hx hb dX10_least_29 rfl (lv_at hl 3 rfl) ?_
      refine x_clp (x_runV (b := (F a 3)) (As := [.int p0, .int p1, .int p2]) (rest := []) S (c_X6_cell l E K F G H (F a 3) p0 p1 p2 hk9999p) mv_X6_cell km_X10_265 rfl rfl ⟨Nat.le_of_ble_eq_true rfl, Nat.le_of_ble_eq_true rfl⟩ (rc_8 hK hT hk9999p) hK (fun _ => XPh.blind) (fun U hU hW => XPh.at hK hz hS hT hU hW) rfl hl.1 (Nat.le_of_ble_eq_true rfl) dX10_least_30 ⟨Nat.le_of_ble_eq_true rfl, Nat.le_of_ble_eq_true rfl⟩) hS ?_
      rintro _ _ locs ⟨x30, rfl, t30⟩ hS
      have t30 : x30.toInt = (cel (vw (G.2.1 (F (F a 3) 0))) (p0.toInt) (p1.toInt) (p2.toInt)) := t30
      refine lv_istore (lv' := [(4, .int x30), (0, .ref a), (1, .int p0), (2, .int p1), (3, .int p2)]) hx hb dX10_least_33 hl (by decide) rfl (fun ls hl => ?_)
      refine lv_aload_n hx hb dX10_least_35 rfl (lv_at hl 1 rfl) ?_
      refine gX10_5 S hK hT ha kf_X10_44 dX10_least_36 (fun _ _ => ?_)
      refine lv_aload_n hx hb dX10_least_39 rfl (lv_at hl 1 rfl) ?_
      refine gX10_3 S hK hT ha kf_X10_37 dX10_least_40 (fun _ _ => ?_)
      refine x_cv0 (x_runV (b := (F a 5)) (As := [.ref (F a 3)]) (rest := []) S (c_X6_copy l E K F G (F a 5) (F a 3) hk9999k hk9999p (v_X10_least_43_3 (F := F) a G ron)) mv_X6_copy km_X10_195 rfl rfl ⟨Nat.le_of_ble_eq_true rfl, Nat.le_of_ble_eq_true rfl⟩ (rc_8 hK hT hk9999k) hK (fun _ => XP.blind) (fun U hU hW => XP.at hK hz hS hT hU hW) rfl hl.1 (Nat.le_of_ble_eq_true rfl) dX10_least_43 ⟨Nat.le_of_ble_eq_true rfl, Nat.le_of_ble_eq_true rfl⟩) hS ?_
      rintro G43 H locs ⟨hF43, oq43, oq43a⟩ hT hS
      refine lv_bipush (v := (-99)) hx hb dX10_least_46 (by decide) ?_
      refine lv_istore (lv' := [(5, .int (-99)), (4, .int x30), (0, .ref a), (1, .int p0), (2, .int p1), (3, .int p2)]) hx hb dX10_least_48 hl (by decide) rfl (fun ls hl => ?_)
      have L50 : ∀ (N50 : Nat) (l5_50 : Int32) (G_50 : XG) (H : Heap) (locs : List Loc) (ls : Array Slot), XFr [(F a 11, 3), (F a 9, 6)] [F (F a 11) 0, F (F a 11) 1, F (F a 11) 2, F (F a 9) 0, F (F a 9) 1, F (F a 9) 2, F (F a 9) 3, F (F a 9) 4, F (F a 9) 5, F (F a 5) 0, F (F a 5) 1] [] G43 G_50 → (∀ v : Int, rset (vw (G_50.2.1 (F (F a 5) 0))) (90 * p0.toInt + 30 * p2.toInt + p1.toInt) v = rset (vw (G.2.1 (F (F a 3) 0))) (90 * p0.toInt + 30 * p2.toInt + p1.toInt) v) → RO (vw (G_50.2.1 (F (F a 5) 0))) (aI (G_50.2.1 (F (F a 5) 1))) → cel (vw (G_50.2.1 (F (F a 5) 0))) p0.toInt p1.toInt 0 ≠ -2000 → (∀ v : Int, -99 ≤ v → v < l5_50.toInt → v ≠ cel (vw (G.2.1 (F (F a 3) 0))) p0.toInt p1.toInt p2.toInt → ffL (gaL G (G.2.2.1 (F (F a 2) 1)) (vw (G.2.1 (F (F a 3) 0))) (rset (vw (G.2.1 (F (F a 3) 0))) (90 * p0.toInt + 30 * p2.toInt + p1.toInt) v) 0 ((G.1 (F a 2) 2).toInt).toNat) ≠ -1) → -99 ≤ l5_50.toInt ∧ l5_50.toInt ≤ 100 → 200 - l5_50.toInt < ((N50 : Nat) : Int) → TW E K F G_50 H → va_S (xA E) s.heap H locs → lv_has ls 6 [(0, .ref a), (1, .int p0), (2, .int p1), (3, .int p2), (4, .int x30), (5, .int l5_50)] → W p l e rm_X10_least s m args below meth c H locs 0 0 Q (F0 m 50 ls []) := by
        intro N50
        induction N50 with
        | zero =>
          intro l5_50 G_50 H locs ls hF_50 pp ro ph lp I50_0 hm50
          exact absurd hm50 (z_X10_least_1 l5_50.toInt I50_0)
        | succ N50 ih50 =>
          intro l5_50 G_50 H locs ls hF_50 pp ro ph lp I50_0 hm50 hT hS hl
          refine lv_iload hx hb dX10_least_50 (lv_at hl 5 rfl) ?_
          refine lv_bipush (v := 99) hx hb dX10_least_52 (by decide) ?_
          refine xi_cgt (tgt := 94) hx hb (rfl : Int32.toInt l5_50 = l5_50.toInt) ((by decide) : Int32.toInt 99 = (99 : Int)) dX10_least_54 (by decide) (fun c54 => ?_) (fun c54 => ?_)
          · refine lv_ldcw (v := (-2147483648)) hx hb S.2.2.2.1 (S.2.2.2.2 _ (List.mem_cons_of_mem _ kc_X10_274)) dX10_least_94 ?_
            exact x_ri hx hb hr hlk hQ (Nat.le_of_ble_eq_true rfl) (Nat.le_of_ble_eq_true rfl) hS dX10_least_97 G_50 ⟨_, rfl, (XFr.call (XFr.call XFr.rf hF43 xm0 (xm1 9 rfl (xm1 10 rfl xm0)) xm0) hF_50 (xm1 0 rfl (xm1 1 rfl xm0)) (xm1 0 rfl (xm1 1 rfl (xm1 2 rfl (xm1 3 rfl (xm1 4 rfl (xm1 5 rfl (xm1 6 rfl (xm1 7 rfl (xm1 8 rfl (xm1 9 rfl (xm1 10 rfl xm0))))))))))) xm0), (by rw [((by decide) : Int32.toInt (-2147483648) = (-2147483648 : Int))] <;> exact (v_X10_least_97_4 (K := K) (F := F) a G G_50 p0 p1 p2 l5_50 x6 x13 N50 ha ph lp sb z5 t6 c9 t13 c16 I50_0 hm50 c54))⟩ hT
          · refine lv_aload_n hx hb dX10_least_57 rfl (lv_at hl 0 rfl) ?_
            refine gX10_5 S hK hT ha kf_X10_44 dX10_least_58 (fun _ _ => ?_)
            refine lv_iload_n hx hb dX10_least_61 rfl (lv_at hl 1 rfl) ?_
            refine lv_iload_n hx hb dX10_least_62 rfl (lv_at hl 2 rfl) ?_
            refine lv_iload_n hx hb dX10_least_63 rfl (lv_at hl 3 rfl) ?_
            refine lv_iload hx hb dX10_least_64 (lv_at hl 5 rfl) ?_
            refine x_cv0 (x_runV (b := (F a 5)) (As := [.int p0, .int p1, .int p2, .int l5_50]) (rest := []) S (c_X6_change l E K F G_50 (F a 5) p0 p1 p2 l5_50 hk9999k (z_X10_least_2 p2.toInt x13.toInt t13 c16) (z_X10_least_3 l5_50.toInt I50_0 c54) (v_X10_least_66_5 (F := F) a G_50 ro)) mv_X6_change km_X10_203 rfl rfl ⟨Nat.le_of_ble_eq_true rfl, Nat.le_of_ble_eq_true rfl⟩ (rc_8 hK hT hk9999k) hK (fun _ => XP.blind) (fun U hU hW => XP.at hK hz hS hT hU hW) rfl hl.1 (Nat.le_of_ble_eq_true rfl) dX10_least_66 ⟨Nat.le_of_ble_eq_true rfl, Nat.le_of_ble_eq_true rfl⟩) hS ?_
            rintro G66 H locs ⟨hF66, oq66, oq66a⟩ hT hS
            refine lv_iload hx hb dX10_least_69 (lv_at hl 5 rfl) ?_
            refine lv_iload hx hb dX10_least_71 (lv_at hl 4 rfl) ?_
            refine xi_ceq (tgt := 88) hx hb (rfl : Int32.toInt l5_50 = l5_50.toInt) (t30 : Int32.toInt x30 = (cel (vw (G.2.1 (F (F a 3) 0))) (p0.toInt) (p1.toInt) (p2.toInt))) dX10_least_73 (by decide) (fun c73 => ?_) (fun c73 => ?_)
            · refine xi_iinc (n := 1) (lv' := fun z9 => [(5, .int z9), (0, .ref a), (1, .int p0), (2, .int p1), (3, .int p2), (4, .int x30)]) (k := 5) hx hb (rfl : Int32.toInt l5_50 = l5_50.toInt) (by decide) dX10_least_88 hl rfl (by decide) (fun _ => rfl) (fun x88 ls t88 hl => ?_)
              have e88 : x88.toInt = (l5_50.toInt + 1) := (z_X10_least_4 l5_50.toInt x88.toInt I50_0 t88)
              have hl : lv_has ls 6 [(5, .int x88), (0, .ref a), (1, .int p0), (2, .int p1), (3, .int p2), (4, .int x30)] := hl
              refine lv_goto (tgt := 50) hx hb dX10_least_91 (by decide) ?_
              exact ih50 x88 G66 _ _ _ (XFr.call (XFr.call XFr.rf hF_50 (xm1 0 rfl (xm1 1 rfl xm0)) (xm1 0 rfl (xm1 1 rfl (xm1 2 rfl (xm1 3 rfl (xm1 4 rfl (xm1 5 rfl (xm1 6 rfl (xm1 7 rfl (xm1 8 rfl (xm1 9 rfl (xm1 10 rfl xm0))))))))))) xm0) hF66 xm0 (xm1 9 rfl xm0) xm0) (v_X10_least_91_6 (F := F) G_50 a p0 p2 p1 G G66 l5_50 pp ph oq66) (by rw [(show G66.2.1 (F (F a 5) 1) = G_50.2.1 (F (F a 5) 1) from (hF66.2.1 _ (xn1 (xne_k hk9999m hk9999l (by decide)) xn0)))] <;> exact (v_X10_least_91_7 (F := F) G66 a G_50 oq66a (hF66.2.1 _ (xn1 (xne_k hk9999m hk9999l (by decide)) xn0)))) (v_X10_least_91_8 (F := F) G_50 a p0 p1 G66 p2 l5_50 G x6 x13 ph oq66 z5 t6 c9 t13 c16 I50_0 c54) (by rw [(e88 : Int32.toInt x88 = (l5_50.toInt + 1))] <;> exact (v_X10_least_91_9 (K := K) (F := F) a G G66 G_50 p0 p1 p2 l5_50 x6 x13 N50 ha hk9999 hj9999 hk9999a hj9999a hk9999b hj9999b hk9999c hj9999c hk9999d hj9999d hk9999e hj9999f hk9999f hj9999h hk9999g hj9999j hk9999h hj9999l hk9999i hj9999n hk9999j hj9999p hk9999k hj9999q hk9999l hj9999s hk9999m hj9999u hk9999n hj9999v hk9999o hj9999w hk9999p hj9999y hk9999q hj9999z26 hk9999r hj9999z28 (XFr.call (XFr.call (XFr.call XFr.rf hF43 xm0 (xm1 9 rfl (xm1 10 rfl xm0)) xm0) hF_50 (xm1 0 rfl (xm1 1 rfl xm0)) (xm1 0 rfl (xm1 1 rfl (xm1 2 rfl (xm1 3 rfl (xm1 4 rfl (xm1 5 rfl (xm1 6 rfl (xm1 7 rfl (xm1 8 rfl (xm1 9 rfl (xm1 10 rfl xm0))))))))))) xm0) hF66 xm0 (xm1 9 rfl xm0) xm0) bko pp ph lp oq66 sb z5 t6 c9 t13 c16 I50_0 hm50 c54 c73 ((hF66.2.2 _ xn0).trans ((hF_50.2.2 _ xn0).trans (hF43.2.2 _ xn0))))) (by rw [(e88 : Int32.toInt x88 = (l5_50.toInt + 1))] <;> exact (z_X10_least_5 l5_50.toInt I50_0 c54)) (by rw [(e88 : Int32.toInt x88 = (l5_50.toInt + 1))] <;> exact (z_X10_least_6 l5_50.toInt N50 hm50)) hT hS (lv_sub hl [1, 2, 3, 4, 5, 0] rfl)
            · refine lv_aload_n hx hb dX10_least_76 rfl (lv_at hl 0 rfl) ?_
              refine lv_iload_n hx hb dX10_least_77 rfl (lv_at hl 1 rfl) ?_
              refine lv_iload_n hx hb dX10_least_78 rfl (lv_at hl 2 rfl) ?_
              refine x_cl0 (x_runV (b := a) (As := [.int p0, .int p1]) (rest := []) S (c_X10_holdsOnPaper l E K F G66 a p0 p1 ha (by rw [(show (G66.1 (F a 2) 2).toInt = ((G.1 (F a 2) 2).toInt) from (congrArg Int32.toInt ((hF66.1 _ _ xn0).trans ((hF_50.1 _ _ (xnj (by decide) (xnj (by decide) xn0))).trans (hF43.1 _ _ xn0)))).trans (rfl : Int32.toInt (G.1 (F a 2) 2) = ((G.1 (F a 2) 2).toInt)))] <;> exact (sb)) (z_X10_least_8 p0.toInt p1.toInt x6.toInt (cel (vw (G.2.1 (F (F a 3) 0))) (p0.toInt) (p1.toInt) 0) z5 t6 c9) (v_X10_least_79_10 (F := F) a G G66 G43 G_50 ron oq43a ro oq66a ((hF66.2.1 _ (xn1 (xne_j hj9999z26 hj9999s (by first | decide | omega)) xn0)).trans ((hF_50.2.1 _ (xn1 (xne_k hk9999q hk9999b (by decide)) (xn1 (xne_k hk9999q hk9999c (by decide)) (xn1 (xne_k hk9999q hk9999d (by decide)) (xn1 (xne_k hk9999q hk9999e (by decide)) (xn1 (xne_k hk9999q hk9999f (by decide)) (xn1 (xne_k hk9999q hk9999g (by decide)) (xn1 (xne_k hk9999q hk9999h (by decide)) (xn1 (xne_k hk9999q hk9999i (by decide)) (xn1 (xne_k hk9999q hk9999j (by decide)) (xn1 (xne_j hj9999z26 hj9999s (by first | decide | omega)) (xn1 (xne_k hk9999q hk9999m (by decide)) xn0)))))))))))).trans (hF43.2.1 _ (xn1 (xne_j hj9999z26 hj9999s (by first | decide | omega)) (xn1 (xne_k hk9999q hk9999m (by decide)) xn0))))) ((hF66.2.1 _ (xn1 (xne_k hk9999r hk9999l (by decide)) xn0)).trans ((hF_50.2.1 _ (xn1 (xne_j hj9999z28 hj9999b (by first | decide | omega)) (xn1 (xne_j hj9999z28 hj9999c (by first | decide | omega)) (xn1 (xne_k hk9999r hk9999d (by decide)) (xn1 (xne_k hk9999r hk9999e (by decide)) (xn1 (xne_k hk9999r hk9999f (by decide)) (xn1 (xne_k hk9999r hk9999g (by decide)) (xn1 (xne_k hk9999r hk9999h (by decide)) (xn1 (xne_k hk9999r hk9999i (by decide)) (xn1 (xne_k hk9999r hk9999j (by decide)) (xn1 (xne_k hk9999r hk9999l (by decide)) (xn1 (xne_j hj9999z28 hj9999u (by first | decide | omega)) xn0)))))))))))).trans (hF43.2.1 _ (xn1 (xne_k hk9999r hk9999l (by decide)) (xn1 (xne_j hj9999z28 hj9999u (by first | decide | omega)) xn0)))))) (v_X10_least_79_11 (F := F) G66 a oq66a) (v_X10_least_79_12 (K := K) (F := F) a G G66 G43 G_50 x30 p0 p1 p2 l5_50 x6 x13 N50 ha hk9999 hj9999 hk9999a hj9999a hk9999b hj9999b hk9999c hj9999c hk9999d hj9999d hk9999e hj9999f hk9999f hj9999h hk9999g hj9999j hk9999h hj9999l hk9999i hj9999n hk9999j hj9999p hk9999k hj9999q hk9999l hj9999s hk9999m hj9999u hk9999n hj9999v hk9999o hj9999w hk9999p hj9999y hk9999q hj9999z26 hk9999r hj9999z28 (XFr.call (XFr.call (XFr.call XFr.rf hF43 xm0 (xm1 9 rfl (xm1 10 rfl xm0)) xm0) hF_50 (xm1 0 rfl (xm1 1 rfl xm0)) (xm1 0 rfl (xm1 1 rfl (xm1 2 rfl (xm1 3 rfl (xm1 4 rfl (xm1 5 rfl (xm1 6 rfl (xm1 7 rfl (xm1 8 rfl (xm1 9 rfl (xm1 10 rfl xm0))))))))))) xm0) hF66 xm0 (xm1 9 rfl xm0) xm0) hF43 hF_50 hF66 ron bko t30 oq43 oq43a pp ro ph lp oq66 oq66a sb z5 t6 c9 t13 c16 I50_0 hm50 c54 c73 (hF66.2.1 _ (xn1 (xne_k hk9999b hk9999l (by decide)) xn0)) (hF66.2.1 _ (xn1 (xne_k hk9999c hk9999l (by decide)) xn0)) (hF66.2.1 _ (xn1 (xne_k hk9999d hk9999l (by decide)) xn0)) ((hF66.2.1 _ (xn1 (xne_j hj9999z26 hj9999s (by first | decide | omega)) xn0)).trans ((hF_50.2.1 _ (xn1 (xne_k hk9999q hk9999b (by decide)) (xn1 (xne_k hk9999q hk9999c (by decide)) (xn1 (xne_k hk9999q hk9999d (by decide)) (xn1 (xne_k hk9999q hk9999e (by decide)) (xn1 (xne_k hk9999q hk9999f (by decide)) (xn1 (xne_k hk9999q hk9999g (by decide)) (xn1 (xne_k hk9999q hk9999h (by decide)) (xn1 (xne_k hk9999q hk9999i (by decide)) (xn1 (xne_k hk9999q hk9999j (by decide)) (xn1 (xne_j hj9999z26 hj9999s (by first | decide | omega)) (xn1 (xne_k hk9999q hk9999m (by decide)) xn0)))))))))))).trans (hF43.2.1 _ (xn1 (xne_j hj9999z26 hj9999s (by first | decide | omega)) (xn1 (xne_k hk9999q hk9999m (by decide)) xn0))))) (hF66.2.1 _ (xn1 (xne_k hk9999m hk9999l (by decide)) xn0)) (hF66.2.1 _ (xn1 (xne_k hk9999e hk9999l (by decide)) xn0)) (hF66.2.1 _ (xn1 (xne_k hk9999f hk9999l (by decide)) xn0)) (hF66.2.1 _ (xn1 (xne_k hk9999g hk9999l (by decide)) xn0)) (hF66.2.1 _ (xn1 (xne_k hk9999h hk9999l (by decide)) xn0)) (hF66.2.1 _ (xn1 (xne_k hk9999i hk9999l (by decide)) xn0)) (hF66.2.1 _ (xn1 (xne_k hk9999j hk9999l (by decide)) xn0)) ((hF66.2.2 _ xn0).trans ((hF_50.2.2 _ xn0).trans (hF43.2.2 _ xn0))) (hF66.1 _ _ xn0) (hF66.1 _ _ xn0)) (v_X10_least_79_13 (F := F) G a p0 p1 p2 G_50 G66 l5_50 x6 x13 ron pp ph oq66 z5 t6 c9 t13 c16 I50_0 c54 c73 ((hF66.2.1 _ (xn1 (xne_j hj9999z26 hj9999s (by first | decide | omega)) xn0)).trans ((hF_50.2.1 _ (xn1 (xne_k hk9999q hk9999b (by decide)) (xn1 (xne_k hk9999q hk9999c (by decide)) (xn1 (xne_k hk9999q hk9999d (by decide)) (xn1 (xne_k hk9999q hk9999e (by decide)) (xn1 (xne_k hk9999q hk9999f (by decide)) (xn1 (xne_k hk9999q hk9999g (by decide)) (xn1 (xne_k hk9999q hk9999h (by decide)) (xn1 (xne_k hk9999q hk9999i (by decide)) (xn1 (xne_k hk9999q hk9999j (by decide)) (xn1 (xne_j hj9999z26 hj9999s (by first | decide | omega)) (xn1 (xne_k hk9999q hk9999m (by decide)) xn0)))))))))))).trans (hF43.2.1 _ (xn1 (xne_j hj9999z26 hj9999s (by first | decide | omega)) (xn1 (xne_k hk9999q hk9999m (by decide)) xn0))))))) mv_X10_holdsOnPaper km_X10_365 rfl rfl ⟨Nat.le_of_ble_eq_true rfl, Nat.le_of_ble_eq_true rfl⟩ (rc_12 hK hT ha) hK (fun _ => XP.blind) (fun U hU hW => XP.at hK hz hS hT hU hW) rfl hl.1 (Nat.le_of_ble_eq_true rfl) dX10_least_79 ⟨Nat.le_of_ble_eq_true rfl, Nat.le_of_ble_eq_true rfl⟩) hS ?_
              rintro _ G79 H locs ⟨x79, rfl, b79, hF79, oq79⟩ hT hS
              have oq79 : (x79.toInt = 1 ∧ ffL (gaL G66 (G66.2.2.1 (F (F a 2) 1)) (vw (G.2.1 (F (F a 3) 0))) (vw (G66.2.1 (F (F a 5) 0))) 0 (((G.1 (F a 2) 2).toInt)).toNat) = -1) ∨ (x79.toInt = 0 ∧ ffL (gaL G66 (G66.2.2.1 (F (F a 2) 1)) (vw (G.2.1 (F (F a 3) 0))) (vw (G66.2.1 (F (F a 5) 0))) 0 (((G.1 (F a 2) 2).toInt)).toNat) ≠ -1) := by simp only [(show G66.2.1 (F (F a 3) 0) = G.2.1 (F (F a 3) 0) from ((hF66.2.1 _ (xn1 (xne_j hj9999z26 hj9999s (by first | decide | omega)) xn0)).trans ((hF_50.2.1 _ (xn1 (xne_k hk9999q hk9999b (by decide)) (xn1 (xne_k hk9999q hk9999c (by decide)) (xn1 (xne_k hk9999q hk9999d (by decide)) (xn1 (xne_k hk9999q hk9999e (by decide)) (xn1 (xne_k hk9999q hk9999f (by decide)) (xn1 (xne_k hk9999q hk9999g (by decide)) (xn1 (xne_k hk9999q hk9999h (by decide)) (xn1 (xne_k hk9999q hk9999i (by decide)) (xn1 (xne_k hk9999q hk9999j (by decide)) (xn1 (xne_j hj9999z26 hj9999s (by first | decide | omega)) (xn1 (xne_k hk9999q hk9999m (by decide)) xn0)))))))))))).trans (hF43.2.1 _ (xn1 (xne_j hj9999z26 hj9999s (by first | decide | omega)) (xn1 (xne_k hk9999q hk9999m (by decide)) xn0)))))), (show G66.1 (F a 2) 2 = G.1 (F a 2) 2 from ((hF66.1 _ _ xn0).trans ((hF_50.1 _ _ (xnj (by decide) (xnj (by decide) xn0))).trans (hF43.1 _ _ xn0))))] at oq79; exact oq79
              refine xi_zeq (tgt := 88) hx hb (rfl : Int32.toInt x79 = x79.toInt) dX10_least_82 (by decide) (fun c82 => ?_) (fun c82 => ?_)
              · refine xi_iinc (n := 1) (lv' := fun z9 => [(5, .int z9), (0, .ref a), (1, .int p0), (2, .int p1), (3, .int p2), (4, .int x30)]) (k := 5) hx hb (rfl : Int32.toInt l5_50 = l5_50.toInt) (by decide) dX10_least_88 hl rfl (by decide) (fun _ => rfl) (fun x88 ls t88 hl => ?_)
                have e88 : x88.toInt = (l5_50.toInt + 1) := (z_X10_least_4 l5_50.toInt x88.toInt I50_0 t88)
                have hl : lv_has ls 6 [(5, .int x88), (0, .ref a), (1, .int p0), (2, .int p1), (3, .int p2), (4, .int x30)] := hl
                refine lv_goto (tgt := 50) hx hb dX10_least_91 (by decide) ?_
                exact ih50 x88 G79 _ _ _ (XFr.call (XFr.call (XFr.call XFr.rf hF_50 (xm1 0 rfl (xm1 1 rfl xm0)) (xm1 0 rfl (xm1 1 rfl (xm1 2 rfl (xm1 3 rfl (xm1 4 rfl (xm1 5 rfl (xm1 6 rfl (xm1 7 rfl (xm1 8 rfl (xm1 9 rfl (xm1 10 rfl xm0))))))))))) xm0) hF66 xm0 (xm1 9 rfl xm0) xm0) hF79 (xm1 0 rfl (xm1 1 rfl xm0)) (xm1 0 rfl (xm1 1 rfl (xm1 2 rfl (xm1 3 rfl (xm1 4 rfl (xm1 5 rfl (xm1 6 rfl (xm1 7 rfl (xm1 8 rfl xm0))))))))) xm0) (by rw [(show G79.2.1 (F (F a 5) 0) = G66.2.1 (F (F a 5) 0) from (hF79.2.1 _ (xn1 (xne_k hk9999l hk9999b (by decide)) (xn1 (xne_k hk9999l hk9999c (by decide)) (xn1 (xne_k hk9999l hk9999d (by decide)) (xn1 (xne_k hk9999l hk9999e (by decide)) (xn1 (xne_k hk9999l hk9999f (by decide)) (xn1 (xne_k hk9999l hk9999g (by decide)) (xn1 (xne_k hk9999l hk9999h (by decide)) (xn1 (xne_k hk9999l hk9999i (by decide)) (xn1 (xne_k hk9999l hk9999j (by decide)) xn0)))))))))))] <;> exact (v_X10_least_91_14 (F := F) G_50 a p0 p2 p1 G G66 l5_50 G79 pp ph oq66 (hF79.2.1 _ (xn1 (xne_k hk9999l hk9999b (by decide)) (xn1 (xne_k hk9999l hk9999c (by decide)) (xn1 (xne_k hk9999l hk9999d (by decide)) (xn1 (xne_k hk9999l hk9999e (by decide)) (xn1 (xne_k hk9999l hk9999f (by decide)) (xn1 (xne_k hk9999l hk9999g (by decide)) (xn1 (xne_k hk9999l hk9999h (by decide)) (xn1 (xne_k hk9999l hk9999i (by decide)) (xn1 (xne_k hk9999l hk9999j (by decide)) xn0)))))))))))) (by rw [(show G79.2.1 (F (F a 5) 0) = G66.2.1 (F (F a 5) 0) from (hF79.2.1 _ (xn1 (xne_k hk9999l hk9999b (by decide)) (xn1 (xne_k hk9999l hk9999c (by decide)) (xn1 (xne_k hk9999l hk9999d (by decide)) (xn1 (xne_k hk9999l hk9999e (by decide)) (xn1 (xne_k hk9999l hk9999f (by decide)) (xn1 (xne_k hk9999l hk9999g (by decide)) (xn1 (xne_k hk9999l hk9999h (by decide)) (xn1 (xne_k hk9999l hk9999i (by decide)) (xn1 (xne_k hk9999l hk9999j (by decide)) xn0))))))))))), (show G79.2.1 (F (F a 5) 1) = G_50.2.1 (F (F a 5) 1) from ((hF79.2.1 _ (xn1 (xne_j hj9999u hj9999b (by first | decide | omega)) (xn1 (xne_j hj9999u hj9999c (by first | decide | omega)) (xn1 (xne_k hk9999m hk9999d (by decide)) (xn1 (xne_k hk9999m hk9999e (by decide)) (xn1 (xne_k hk9999m hk9999f (by decide)) (xn1 (xne_k hk9999m hk9999g (by decide)) (xn1 (xne_k hk9999m hk9999h (by decide)) (xn1 (xne_k hk9999m hk9999i (by decide)) (xn1 (xne_k hk9999m hk9999j (by decide)) xn0)))))))))).trans (hF66.2.1 _ (xn1 (xne_k hk9999m hk9999l (by decide)) xn0))))] <;> exact (v_X10_least_91_15 (F := F) G66 a G_50 G79 oq66a (hF66.2.1 _ (xn1 (xne_k hk9999m hk9999l (by decide)) xn0)) (hF79.2.1 _ (xn1 (xne_k hk9999l hk9999b (by decide)) (xn1 (xne_k hk9999l hk9999c (by decide)) (xn1 (xne_k hk9999l hk9999d (by decide)) (xn1 (xne_k hk9999l hk9999e (by decide)) (xn1 (xne_k hk9999l hk9999f (by decide)) (xn1 (xne_k hk9999l hk9999g (by decide)) (xn1 (xne_k hk9999l hk9999h (by decide)) (xn1 (xne_k hk9999l hk9999i (by decide)) (xn1 (xne_k hk9999l hk9999j (by decide)) xn0)))))))))) ((hF79.2.1 _ (xn1 (xne_j hj9999u hj9999b (by first | decide | omega)) (xn1 (xne_j hj9999u hj9999c (by first | decide | omega)) (xn1 (xne_k hk9999m hk9999d (by decide)) (xn1 (xne_k hk9999m hk9999e (by decide)) (xn1 (xne_k hk9999m hk9999f (by decide)) (xn1 (xne_k hk9999m hk9999g (by decide)) (xn1 (xne_k hk9999m hk9999h (by decide)) (xn1 (xne_k hk9999m hk9999i (by decide)) (xn1 (xne_k hk9999m hk9999j (by decide)) xn0)))))))))).trans (hF66.2.1 _ (xn1 (xne_k hk9999m hk9999l (by decide)) xn0))))) (by rw [(show G79.2.1 (F (F a 5) 0) = G66.2.1 (F (F a 5) 0) from (hF79.2.1 _ (xn1 (xne_k hk9999l hk9999b (by decide)) (xn1 (xne_k hk9999l hk9999c (by decide)) (xn1 (xne_k hk9999l hk9999d (by decide)) (xn1 (xne_k hk9999l hk9999e (by decide)) (xn1 (xne_k hk9999l hk9999f (by decide)) (xn1 (xne_k hk9999l hk9999g (by decide)) (xn1 (xne_k hk9999l hk9999h (by decide)) (xn1 (xne_k hk9999l hk9999i (by decide)) (xn1 (xne_k hk9999l hk9999j (by decide)) xn0)))))))))))] <;> exact (v_X10_least_91_16 (F := F) G_50 a p0 p1 G66 p2 l5_50 G x6 x13 G79 ph oq66 z5 t6 c9 t13 c16 I50_0 c54 (hF79.2.1 _ (xn1 (xne_k hk9999l hk9999b (by decide)) (xn1 (xne_k hk9999l hk9999c (by decide)) (xn1 (xne_k hk9999l hk9999d (by decide)) (xn1 (xne_k hk9999l hk9999e (by decide)) (xn1 (xne_k hk9999l hk9999f (by decide)) (xn1 (xne_k hk9999l hk9999g (by decide)) (xn1 (xne_k hk9999l hk9999h (by decide)) (xn1 (xne_k hk9999l hk9999i (by decide)) (xn1 (xne_k hk9999l hk9999j (by decide)) xn0)))))))))))) (by rw [(e88 : Int32.toInt x88 = (l5_50.toInt + 1))] <;> exact (v_X10_least_91_17 (K := K) (F := F) a G G79 G_50 G66 p0 p1 p2 l5_50 x79 x6 x13 N50 ha hk9999 hj9999 hk9999a hj9999a hk9999b hj9999b hk9999c hj9999c hk9999d hj9999d hk9999e hj9999f hk9999f hj9999h hk9999g hj9999j hk9999h hj9999l hk9999i hj9999n hk9999j hj9999p hk9999k hj9999q hk9999l hj9999s hk9999m hj9999u hk9999n hj9999v hk9999o hj9999w hk9999p hj9999y hk9999q hj9999z26 hk9999r hj9999z28 (XFr.call (XFr.call (XFr.call (XFr.call XFr.rf hF43 xm0 (xm1 9 rfl (xm1 10 rfl xm0)) xm0) hF_50 (xm1 0 rfl (xm1 1 rfl xm0)) (xm1 0 rfl (xm1 1 rfl (xm1 2 rfl (xm1 3 rfl (xm1 4 rfl (xm1 5 rfl (xm1 6 rfl (xm1 7 rfl (xm1 8 rfl (xm1 9 rfl (xm1 10 rfl xm0))))))))))) xm0) hF66 xm0 (xm1 9 rfl xm0) xm0) hF79 (xm1 0 rfl (xm1 1 rfl xm0)) (xm1 0 rfl (xm1 1 rfl (xm1 2 rfl (xm1 3 rfl (xm1 4 rfl (xm1 5 rfl (xm1 6 rfl (xm1 7 rfl (xm1 8 rfl xm0))))))))) xm0) hF79 bko pp ph lp oq66 oq79 sb z5 t6 c9 t13 c16 I50_0 hm50 c54 c73 c82 ((hF66.2.2 _ xn0).trans ((hF_50.2.2 _ xn0).trans (hF43.2.2 _ xn0))))) (by rw [(e88 : Int32.toInt x88 = (l5_50.toInt + 1))] <;> exact (z_X10_least_5 l5_50.toInt I50_0 c54)) (by rw [(e88 : Int32.toInt x88 = (l5_50.toInt + 1))] <;> exact (z_X10_least_6 l5_50.toInt N50 hm50)) hT hS (lv_sub hl [1, 2, 3, 4, 5, 0] rfl)
              · refine lv_iload hx hb dX10_least_85 (lv_at hl 5 rfl) ?_
                exact x_ri hx hb hr hlk hQ (Nat.le_of_ble_eq_true rfl) (Nat.le_of_ble_eq_true rfl) hS dX10_least_87 G79 ⟨_, rfl, (XFr.call (XFr.call (XFr.call (XFr.call XFr.rf hF43 xm0 (xm1 9 rfl (xm1 10 rfl xm0)) xm0) hF_50 (xm1 0 rfl (xm1 1 rfl xm0)) (xm1 0 rfl (xm1 1 rfl (xm1 2 rfl (xm1 3 rfl (xm1 4 rfl (xm1 5 rfl (xm1 6 rfl (xm1 7 rfl (xm1 8 rfl (xm1 9 rfl (xm1 10 rfl xm0))))))))))) xm0) hF66 xm0 (xm1 9 rfl xm0) xm0) hF79 (xm1 0 rfl (xm1 1 rfl xm0)) (xm1 0 rfl (xm1 1 rfl (xm1 2 rfl (xm1 3 rfl (xm1 4 rfl (xm1 5 rfl (xm1 6 rfl (xm1 7 rfl (xm1 8 rfl xm0))))))))) xm0), (v_X10_least_87_18 (K := K) (F := F) a G G79 G_50 G66 p0 p1 p2 l5_50 x79 x6 x13 N50 ha hk9999 hj9999 hk9999a hj9999a hk9999b hj9999b hk9999c hj9999c hk9999d hj9999d hk9999e hj9999f hk9999f hj9999h hk9999g hj9999j hk9999h hj9999l hk9999i hj9999n hk9999j hj9999p hk9999k hj9999q hk9999l hj9999s hk9999m hj9999u hk9999n hj9999v hk9999o hj9999w hk9999p hj9999y hk9999q hj9999z26 hk9999r hj9999z28 (XFr.call (XFr.call (XFr.call (XFr.call XFr.rf hF43 xm0 (xm1 9 rfl (xm1 10 rfl xm0)) xm0) hF_50 (xm1 0 rfl (xm1 1 rfl xm0)) (xm1 0 rfl (xm1 1 rfl (xm1 2 rfl (xm1 3 rfl (xm1 4 rfl (xm1 5 rfl (xm1 6 rfl (xm1 7 rfl (xm1 8 rfl (xm1 9 rfl (xm1 10 rfl xm0))))))))))) xm0) hF66 xm0 (xm1 9 rfl xm0) xm0) hF79 (xm1 0 rfl (xm1 1 rfl xm0)) (xm1 0 rfl (xm1 1 rfl (xm1 2 rfl (xm1 3 rfl (xm1 4 rfl (xm1 5 rfl (xm1 6 rfl (xm1 7 rfl (xm1 8 rfl xm0))))))))) xm0) hF79 bko pp ph lp oq66 oq79 sb z5 t6 c9 t13 c16 I50_0 hm50 c54 c73 c82 ((hF66.2.2 _ xn0).trans ((hF_50.2.2 _ xn0).trans (hF43.2.2 _ xn0))))⟩ hT
      exact L50 4294967297 (-99) G43 _ _ _ XFr.rf (v_X10_least_48_19 (F := F) G43 a G p0 p2 p1 oq43) (v_X10_least_48_20 (F := F) G43 a oq43a) (v_X10_least_48_21 (F := F) G43 a G x6 p0 p1 oq43 t6 c9) (by rw [((by decide) : Int32.toInt (-99) = (-99 : Int))] <;> exact (v_X10_least_48_22 (K := K) (F := F) a G p0 p1 p2 x6 x13 ha sb z5 t6 c9 t13 c16)) (by rw [((by decide) : Int32.toInt (-99) = (-99 : Int))] <;> exact (by decide)) (by rw [((by decide) : Int32.toInt (-99) = (-99 : Int))] <;> exact (by decide)) hT hS (lv_sub hl [2, 3, 4, 5, 1, 0] rfl)
    · refine lv_ldcw (v := (-2147483648)) hx hb S.2.2.2.1 (S.2.2.2.2 _ (List.mem_cons_of_mem _ kc_X10_274)) dX10_least_19 ?_
      exact x_ri hx hb hr hlk hQ (Nat.le_of_ble_eq_true rfl) (Nat.le_of_ble_eq_true rfl) hS dX10_least_22 G ⟨_, rfl, XFr.rf, (by rw [((by decide) : Int32.toInt (-2147483648) = (-2147483648 : Int))] <;> exact (v_X10_least_22_23 (K := K) (F := F) a G p0 p1 x6 x13 p2 ha sb z5 t6 c9 t13 c16))⟩ hT
theorem v_X11_leans_8_1 {F : Nat → Nat → Nat} (a : Nat) (G2 : XG) (G : XG)
    (hM : RM (G.2.1 (F a 1)) (0))
    (c_G2_F_a_1 : G2.2.1 (F a 1) = G.2.1 (F a 1)) :
    RM (G2.2.1 (F a 1)) 0 := by simp only [c_G2_F_a_1]; assumption
theorem v_X11_leans_25_2 {K : Nat → Nat} {F : Nat → Nat → Nat} (a : Nat) (G : XG) (p0 : Int32) (p1 : Int32) (x8 : Int32) (p2 : Int32)
    (ha : K a = 13)
    (z5 : ¬ (0 ≤ p0.toInt ∧ p0.toInt < 3 ∧ 0 ≤ p1.toInt ∧ p1.toInt < 30) → (cel (mw (G.2.1 (F a 1)) 0) (p0.toInt) (p1.toInt) 0) = -2000)
    (t8 : (x8.toInt = 1 ∧ (cel (mw (G.2.1 (F a 1)) 0) (p0.toInt) (p1.toInt) 0) ≠ -2000) ∨ (x8.toInt = 0 ∧ (cel (mw (G.2.1 (F a 1)) 0) (p0.toInt) (p1.toInt) 0) = -2000))
    (c11 : x8.toInt = 0) :
    (¬ (cel (mw (G.2.1 (F a 1)) 0) p0.toInt p1.toInt 0 ≠ -2000 ∧ 0 ≤ p2.toInt ∧ p2.toInt ≤ 1) ∧ (-1 : Int) = -1) ∨ ((cel (mw (G.2.1 (F a 1)) 0) p0.toInt p1.toInt 0 ≠ -2000 ∧ 0 ≤ p2.toInt ∧ p2.toInt ≤ 1) ∧ ((p2.toInt = 0 ∧ (-1 : Int) = bsI (lnI (G.2.1 (F a 10)) (mw (G.2.1 (F a 1)) 0) p0.toInt p1.toInt) 90) ∨ (p2.toInt = 1 ∧ ∃ g : Int → Int, (-1 : Int) = bsI (lnK g (30 * p0.toInt + p1.toInt)) 90 ∧ ∀ z : Int, 0 ≤ z → z < 90 → (g z = 1 ↔ RC1 (lnM (G.2.1 (F a 10)) (mw (G.2.1 (F a 1)) 0) 12) p0.toInt p1.toInt (z / 30) (z % 30))))) := by
  exact Or.inl ⟨by omega, rfl⟩
theorem v_X11_leans_253_3 {K : Nat → Nat} {F : Nat → Nat → Nat} (a : Nat) (G : XG) (G_32 : XG) (G_91 : XG) (l5_32 : Int32) (p0 : Int32) (p1 : Int32) (l5_91 : Int32) (x8 : Int32) (x18 : Int32) (p2 : Int32) (l4_32 : Int32) (N32 : Nat) (N91 : Nat) (l7_198 : Int32) (l6_198 : Int32) (N198 : Nat)
    (ha : K a = 13)
    (lq : LQ (G.2.1 (F a 10)) (mw (G.2.1 (F a 1)) 0) p0.toInt p1.toInt (aI (G_91.2.1 (F a 51))))
    (lz : l5_91.toInt = 0 → LZ (G.2.1 (F a 10)) (mw (G.2.1 (F a 1)) 0) (aI (G_91.2.1 (F a 51))) 90 0)
    (z5 : ¬ (0 ≤ p0.toInt ∧ p0.toInt < 3 ∧ 0 ≤ p1.toInt ∧ p1.toInt < 30) → (cel (mw (G.2.1 (F a 1)) 0) (p0.toInt) (p1.toInt) 0) = -2000)
    (t8 : (x8.toInt = 1 ∧ (cel (mw (G.2.1 (F a 1)) 0) (p0.toInt) (p1.toInt) 0) ≠ -2000) ∨ (x8.toInt = 0 ∧ (cel (mw (G.2.1 (F a 1)) 0) (p0.toInt) (p1.toInt) 0) = -2000))
    (c11 : ¬ (x8.toInt = 0))
    (t18 : (x18.toInt = 1 ∧ (0 : Int) ≤ p2.toInt ∧ p2.toInt ≤ (1 : Int)) ∨ (x18.toInt = 0 ∧ (p2.toInt < (0 : Int) ∨ (1 : Int) < p2.toInt)))
    (c21 : x18.toInt ≠ 0)
    (z29 : (bsI (lnI (G.2.1 (F a 10)) (mw (G.2.1 (F a 1)) 0) p0.toInt p1.toInt) 0) = 0)
    (I32_0 : 0 ≤ l5_32.toInt ∧ l5_32.toInt ≤ 90)
    (I32_1 : l4_32.toInt = (bsI (lnI (G.2.1 (F a 10)) (mw (G.2.1 (F a 1)) 0) p0.toInt p1.toInt) (l5_32.toInt)))
    (I32_2 : 0 ≤ l4_32.toInt ∧ l4_32.toInt ≤ l5_32.toInt)
    (hm32 : 2147483648 - l5_32.toInt < (((N32) + 1 : Nat) : Int))
    (c36 : (90 : Int) ≤ l5_32.toInt)
    (z88 : 0 ≤ (czI (G_32.2.1 (F a 51))) ∧ (czI (G_32.2.1 (F a 51))) ≤ 90)
    (z88a : l5_32.toInt = 90 → (bsI (lnI (G.2.1 (F a 10)) (mw (G.2.1 (F a 1)) 0) p0.toInt p1.toInt) (l5_32.toInt)) = (bsI (lnI (G.2.1 (F a 10)) (mw (G.2.1 (F a 1)) 0) p0.toInt p1.toInt) 90))
    (I91_0 : (l5_91.toInt = 0 ∨ l5_91.toInt = 1))
    (I91_1 : 0 ≤ (czI (G_91.2.1 (F a 51))) ∧ (czI (G_91.2.1 (F a 51))) ≤ 90)
    (hm91 : 2 * (czI (G_91.2.1 (F a 51))) + l5_91.toInt < (((N91) + 1 : Nat) : Int))
    (c93 : l5_91.toInt = 0)
    (z195 : (bsI (lnK (aI (G_91.2.1 (F a 51))) (30 * p0.toInt + p1.toInt)) 0) = 0)
    (I198_0 : 0 ≤ l7_198.toInt ∧ l7_198.toInt ≤ 90)
    (I198_1 : l6_198.toInt = (bsI (lnK (aI (G_91.2.1 (F a 51))) (30 * p0.toInt + p1.toInt)) (l7_198.toInt)))
    (I198_2 : 0 ≤ l6_198.toInt ∧ l6_198.toInt ≤ l7_198.toInt)
    (hm198 : 2147483648 - l7_198.toInt < (((N198) + 1 : Nat) : Int))
    (c202 : (90 : Int) ≤ l7_198.toInt)
    (z242 : l7_198.toInt = 90 → (bsI (lnK (aI (G_91.2.1 (F a 51))) (30 * p0.toInt + p1.toInt)) (l7_198.toInt)) = (bsI (lnK (aI (G_91.2.1 (F a 51))) (30 * p0.toInt + p1.toInt)) 90))
    (c243 : p2.toInt ≠ 0) :
    (¬ (cel (mw (G.2.1 (F a 1)) 0) p0.toInt p1.toInt 0 ≠ -2000 ∧ 0 ≤ p2.toInt ∧ p2.toInt ≤ 1) ∧ l6_198.toInt = -1) ∨ ((cel (mw (G.2.1 (F a 1)) 0) p0.toInt p1.toInt 0 ≠ -2000 ∧ 0 ≤ p2.toInt ∧ p2.toInt ≤ 1) ∧ ((p2.toInt = 0 ∧ l6_198.toInt = bsI (lnI (G.2.1 (F a 10)) (mw (G.2.1 (F a 1)) 0) p0.toInt p1.toInt) 90) ∨ (p2.toInt = 1 ∧ ∃ g : Int → Int, l6_198.toInt = bsI (lnK g (30 * p0.toInt + p1.toInt)) 90 ∧ ∀ z : Int, 0 ≤ z → z < 90 → (g z = 1 ↔ RC1 (lnM (G.2.1 (F a 10)) (mw (G.2.1 (F a 1)) 0) 12) p0.toInt p1.toInt (z / 30) (z % 30))))) := by
  first
    | exact Or.inr ⟨by omega, Or.inl ⟨by omega, by omega⟩⟩
    | exact Or.inr ⟨by omega, Or.inr ⟨by omega, aI (G_91.2.1 (F a 51)), by omega, LQ_end lq (lz (by omega))⟩⟩
theorem v_X11_leans_253_4 {K : Nat → Nat} {F : Nat → Nat → Nat} (a : Nat) (G : XG) (G_32 : XG) (G_91 : XG) (l5_32 : Int32) (p0 : Int32) (p1 : Int32) (l5_91 : Int32) (x8 : Int32) (x18 : Int32) (p2 : Int32) (l4_32 : Int32) (N32 : Nat) (N91 : Nat) (l7_198 : Int32) (l6_198 : Int32) (N198 : Nat)
    (ha : K a = 13)
    (lq : LQ (G.2.1 (F a 10)) (mw (G.2.1 (F a 1)) 0) p0.toInt p1.toInt (aI (G_91.2.1 (F a 51))))
    (lz : l5_91.toInt = 0 → LZ (G.2.1 (F a 10)) (mw (G.2.1 (F a 1)) 0) (aI (G_91.2.1 (F a 51))) 90 0)
    (z5 : ¬ (0 ≤ p0.toInt ∧ p0.toInt < 3 ∧ 0 ≤ p1.toInt ∧ p1.toInt < 30) → (cel (mw (G.2.1 (F a 1)) 0) (p0.toInt) (p1.toInt) 0) = -2000)
    (t8 : (x8.toInt = 1 ∧ (cel (mw (G.2.1 (F a 1)) 0) (p0.toInt) (p1.toInt) 0) ≠ -2000) ∨ (x8.toInt = 0 ∧ (cel (mw (G.2.1 (F a 1)) 0) (p0.toInt) (p1.toInt) 0) = -2000))
    (c11 : ¬ (x8.toInt = 0))
    (t18 : (x18.toInt = 1 ∧ (0 : Int) ≤ p2.toInt ∧ p2.toInt ≤ (1 : Int)) ∨ (x18.toInt = 0 ∧ (p2.toInt < (0 : Int) ∨ (1 : Int) < p2.toInt)))
    (c21 : x18.toInt ≠ 0)
    (z29 : (bsI (lnI (G.2.1 (F a 10)) (mw (G.2.1 (F a 1)) 0) p0.toInt p1.toInt) 0) = 0)
    (I32_0 : 0 ≤ l5_32.toInt ∧ l5_32.toInt ≤ 90)
    (I32_1 : l4_32.toInt = (bsI (lnI (G.2.1 (F a 10)) (mw (G.2.1 (F a 1)) 0) p0.toInt p1.toInt) (l5_32.toInt)))
    (I32_2 : 0 ≤ l4_32.toInt ∧ l4_32.toInt ≤ l5_32.toInt)
    (hm32 : 2147483648 - l5_32.toInt < (((N32) + 1 : Nat) : Int))
    (c36 : (90 : Int) ≤ l5_32.toInt)
    (z88 : 0 ≤ (czI (G_32.2.1 (F a 51))) ∧ (czI (G_32.2.1 (F a 51))) ≤ 90)
    (z88a : l5_32.toInt = 90 → (bsI (lnI (G.2.1 (F a 10)) (mw (G.2.1 (F a 1)) 0) p0.toInt p1.toInt) (l5_32.toInt)) = (bsI (lnI (G.2.1 (F a 10)) (mw (G.2.1 (F a 1)) 0) p0.toInt p1.toInt) 90))
    (I91_0 : (l5_91.toInt = 0 ∨ l5_91.toInt = 1))
    (I91_1 : 0 ≤ (czI (G_91.2.1 (F a 51))) ∧ (czI (G_91.2.1 (F a 51))) ≤ 90)
    (hm91 : 2 * (czI (G_91.2.1 (F a 51))) + l5_91.toInt < (((N91) + 1 : Nat) : Int))
    (c93 : l5_91.toInt = 0)
    (z195 : (bsI (lnK (aI (G_91.2.1 (F a 51))) (30 * p0.toInt + p1.toInt)) 0) = 0)
    (I198_0 : 0 ≤ l7_198.toInt ∧ l7_198.toInt ≤ 90)
    (I198_1 : l6_198.toInt = (bsI (lnK (aI (G_91.2.1 (F a 51))) (30 * p0.toInt + p1.toInt)) (l7_198.toInt)))
    (I198_2 : 0 ≤ l6_198.toInt ∧ l6_198.toInt ≤ l7_198.toInt)
    (hm198 : 2147483648 - l7_198.toInt < (((N198) + 1 : Nat) : Int))
    (c202 : (90 : Int) ≤ l7_198.toInt)
    (z242 : l7_198.toInt = 90 → (bsI (lnK (aI (G_91.2.1 (F a 51))) (30 * p0.toInt + p1.toInt)) (l7_198.toInt)) = (bsI (lnK (aI (G_91.2.1 (F a 51))) (30 * p0.toInt + p1.toInt)) 90))
    (c243 : ¬ (p2.toInt ≠ 0)) :
    (¬ (cel (mw (G.2.1 (F a 1)) 0) p0.toInt p1.toInt 0 ≠ -2000 ∧ 0 ≤ p2.toInt ∧ p2.toInt ≤ 1) ∧ l4_32.toInt = -1) ∨ ((cel (mw (G.2.1 (F a 1)) 0) p0.toInt p1.toInt 0 ≠ -2000 ∧ 0 ≤ p2.toInt ∧ p2.toInt ≤ 1) ∧ ((p2.toInt = 0 ∧ l4_32.toInt = bsI (lnI (G.2.1 (F a 10)) (mw (G.2.1 (F a 1)) 0) p0.toInt p1.toInt) 90) ∨ (p2.toInt = 1 ∧ ∃ g : Int → Int, l4_32.toInt = bsI (lnK g (30 * p0.toInt + p1.toInt)) 90 ∧ ∀ z : Int, 0 ≤ z → z < 90 → (g z = 1 ↔ RC1 (lnM (G.2.1 (F a 10)) (mw (G.2.1 (F a 1)) 0) 12) p0.toInt p1.toInt (z / 30) (z % 30))))) := by
  first
    | exact Or.inr ⟨by omega, Or.inl ⟨by omega, by omega⟩⟩
    | exact Or.inr ⟨by omega, Or.inr ⟨by omega, aI (G_91.2.1 (F a 51)), by omega, LQ_end lq (lz (by omega))⟩⟩
theorem v_X11_leans_189_5 {F : Nat → Nat → Nat} (a : Nat) (G : XG) (G_102 : XG) (p0 : Int32) (p1 : Int32)
    (lq : LQ (G.2.1 (F a 10)) (mw (G.2.1 (F a 1)) 0) p0.toInt p1.toInt (aI (G_102.2.1 (F a 51)))) :
    LQ (G.2.1 (F a 10)) (mw (G.2.1 (F a 1)) 0) p0.toInt p1.toInt (aI (G_102.2.1 (F a 51))) := by
  exact lq
theorem v_X11_leans_189_6 {K : Nat → Nat} {F : Nat → Nat → Nat} (a : Nat) (G : XG) (G_32 : XG) (G_91 : XG) (G_102 : XG) (l5_32 : Int32) (p0 : Int32) (p1 : Int32) (l5_102 : Int32) (l6_102 : Int32) (x8 : Int32) (x18 : Int32) (p2 : Int32) (l4_32 : Int32) (N32 : Nat) (l5_91 : Int32) (N91 : Nat) (N102 : Nat)
    (ha : K a = 13)
    (lq : LQ (G.2.1 (F a 10)) (mw (G.2.1 (F a 1)) 0) p0.toInt p1.toInt (aI (G_102.2.1 (F a 51))))
    (lz : l5_102.toInt = 0 → LZ (G.2.1 (F a 10)) (mw (G.2.1 (F a 1)) 0) (aI (G_102.2.1 (F a 51))) l6_102.toInt 0)
    (z5 : ¬ (0 ≤ p0.toInt ∧ p0.toInt < 3 ∧ 0 ≤ p1.toInt ∧ p1.toInt < 30) → (cel (mw (G.2.1 (F a 1)) 0) (p0.toInt) (p1.toInt) 0) = -2000)
    (t8 : (x8.toInt = 1 ∧ (cel (mw (G.2.1 (F a 1)) 0) (p0.toInt) (p1.toInt) 0) ≠ -2000) ∨ (x8.toInt = 0 ∧ (cel (mw (G.2.1 (F a 1)) 0) (p0.toInt) (p1.toInt) 0) = -2000))
    (c11 : ¬ (x8.toInt = 0))
    (t18 : (x18.toInt = 1 ∧ (0 : Int) ≤ p2.toInt ∧ p2.toInt ≤ (1 : Int)) ∨ (x18.toInt = 0 ∧ (p2.toInt < (0 : Int) ∨ (1 : Int) < p2.toInt)))
    (c21 : x18.toInt ≠ 0)
    (z29 : (bsI (lnI (G.2.1 (F a 10)) (mw (G.2.1 (F a 1)) 0) p0.toInt p1.toInt) 0) = 0)
    (I32_0 : 0 ≤ l5_32.toInt ∧ l5_32.toInt ≤ 90)
    (I32_1 : l4_32.toInt = (bsI (lnI (G.2.1 (F a 10)) (mw (G.2.1 (F a 1)) 0) p0.toInt p1.toInt) (l5_32.toInt)))
    (I32_2 : 0 ≤ l4_32.toInt ∧ l4_32.toInt ≤ l5_32.toInt)
    (hm32 : 2147483648 - l5_32.toInt < (((N32) + 1 : Nat) : Int))
    (c36 : (90 : Int) ≤ l5_32.toInt)
    (z88 : 0 ≤ (czI (G_32.2.1 (F a 51))) ∧ (czI (G_32.2.1 (F a 51))) ≤ 90)
    (z88a : l5_32.toInt = 90 → (bsI (lnI (G.2.1 (F a 10)) (mw (G.2.1 (F a 1)) 0) p0.toInt p1.toInt) (l5_32.toInt)) = (bsI (lnI (G.2.1 (F a 10)) (mw (G.2.1 (F a 1)) 0) p0.toInt p1.toInt) 90))
    (I91_0 : (l5_91.toInt = 0 ∨ l5_91.toInt = 1))
    (I91_1 : 0 ≤ (czI (G_91.2.1 (F a 51))) ∧ (czI (G_91.2.1 (F a 51))) ≤ 90)
    (hm91 : 2 * (czI (G_91.2.1 (F a 51))) + l5_91.toInt < (((N91) + 1 : Nat) : Int))
    (c93 : ¬ (l5_91.toInt = 0))
    (I102_0 : 0 ≤ l6_102.toInt ∧ l6_102.toInt ≤ 90)
    (I102_1 : (l5_102.toInt = 0 ∨ l5_102.toInt = 1) ∧ (czI (G_102.2.1 (F a 51))) ≤ (czI (G_91.2.1 (F a 51))) ∧ (l5_102.toInt = 1 → (czI (G_102.2.1 (F a 51))) + 1 ≤ (czI (G_91.2.1 (F a 51)))))
    (hm102 : 100 - l6_102.toInt < (((N102) + 1 : Nat) : Int))
    (c106 : (90 : Int) ≤ l6_102.toInt)
    (z189 : 0 ≤ (czI (G_102.2.1 (F a 51))) ∧ (czI (G_102.2.1 (F a 51))) ≤ 90) :
    l5_102.toInt = 0 → LZ (G.2.1 (F a 10)) (mw (G.2.1 (F a 1)) 0) (aI (G_102.2.1 (F a 51))) 90 0 := by
  intro h
  have e : l6_102.toInt = 90 := by omega
  have h2 := lz (by omega)
  rw [e] at h2
  exact h2
theorem v_X11_leans_186_7 {F : Nat → Nat → Nat} (a : Nat) (G : XG) (G_112 : XG) (p0 : Int32) (p1 : Int32)
    (lq : LQ (G.2.1 (F a 10)) (mw (G.2.1 (F a 1)) 0) p0.toInt p1.toInt (aI (G_112.2.1 (F a 51)))) :
    LQ (G.2.1 (F a 10)) (mw (G.2.1 (F a 1)) 0) p0.toInt p1.toInt (aI (G_112.2.1 (F a 51))) := by
  exact lq
theorem v_X11_leans_186_8 {K : Nat → Nat} {F : Nat → Nat → Nat} (a : Nat) (G : XG) (G_32 : XG) (G_91 : XG) (G_102 : XG) (G_112 : XG) (l5_32 : Int32) (p0 : Int32) (p1 : Int32) (l5_112 : Int32) (l6_102 : Int32) (l7_112 : Int32) (x8 : Int32) (x18 : Int32) (p2 : Int32) (l4_32 : Int32) (N32 : Nat) (l5_91 : Int32) (N91 : Nat) (l5_102 : Int32) (N102 : Nat) (N112 : Nat)
    (ha : K a = 13)
    (lq : LQ (G.2.1 (F a 10)) (mw (G.2.1 (F a 1)) 0) p0.toInt p1.toInt (aI (G_112.2.1 (F a 51))))
    (lz : l5_112.toInt = 0 → LZ (G.2.1 (F a 10)) (mw (G.2.1 (F a 1)) 0) (aI (G_112.2.1 (F a 51))) l6_102.toInt l7_112.toInt)
    (z5 : ¬ (0 ≤ p0.toInt ∧ p0.toInt < 3 ∧ 0 ≤ p1.toInt ∧ p1.toInt < 30) → (cel (mw (G.2.1 (F a 1)) 0) (p0.toInt) (p1.toInt) 0) = -2000)
    (t8 : (x8.toInt = 1 ∧ (cel (mw (G.2.1 (F a 1)) 0) (p0.toInt) (p1.toInt) 0) ≠ -2000) ∨ (x8.toInt = 0 ∧ (cel (mw (G.2.1 (F a 1)) 0) (p0.toInt) (p1.toInt) 0) = -2000))
    (c11 : ¬ (x8.toInt = 0))
    (t18 : (x18.toInt = 1 ∧ (0 : Int) ≤ p2.toInt ∧ p2.toInt ≤ (1 : Int)) ∨ (x18.toInt = 0 ∧ (p2.toInt < (0 : Int) ∨ (1 : Int) < p2.toInt)))
    (c21 : x18.toInt ≠ 0)
    (z29 : (bsI (lnI (G.2.1 (F a 10)) (mw (G.2.1 (F a 1)) 0) p0.toInt p1.toInt) 0) = 0)
    (I32_0 : 0 ≤ l5_32.toInt ∧ l5_32.toInt ≤ 90)
    (I32_1 : l4_32.toInt = (bsI (lnI (G.2.1 (F a 10)) (mw (G.2.1 (F a 1)) 0) p0.toInt p1.toInt) (l5_32.toInt)))
    (I32_2 : 0 ≤ l4_32.toInt ∧ l4_32.toInt ≤ l5_32.toInt)
    (hm32 : 2147483648 - l5_32.toInt < (((N32) + 1 : Nat) : Int))
    (c36 : (90 : Int) ≤ l5_32.toInt)
    (z88 : 0 ≤ (czI (G_32.2.1 (F a 51))) ∧ (czI (G_32.2.1 (F a 51))) ≤ 90)
    (z88a : l5_32.toInt = 90 → (bsI (lnI (G.2.1 (F a 10)) (mw (G.2.1 (F a 1)) 0) p0.toInt p1.toInt) (l5_32.toInt)) = (bsI (lnI (G.2.1 (F a 10)) (mw (G.2.1 (F a 1)) 0) p0.toInt p1.toInt) 90))
    (I91_0 : (l5_91.toInt = 0 ∨ l5_91.toInt = 1))
    (I91_1 : 0 ≤ (czI (G_91.2.1 (F a 51))) ∧ (czI (G_91.2.1 (F a 51))) ≤ 90)
    (hm91 : 2 * (czI (G_91.2.1 (F a 51))) + l5_91.toInt < (((N91) + 1 : Nat) : Int))
    (c93 : ¬ (l5_91.toInt = 0))
    (I102_0 : 0 ≤ l6_102.toInt ∧ l6_102.toInt ≤ 90)
    (I102_1 : (l5_102.toInt = 0 ∨ l5_102.toInt = 1) ∧ (czI (G_102.2.1 (F a 51))) ≤ (czI (G_91.2.1 (F a 51))) ∧ (l5_102.toInt = 1 → (czI (G_102.2.1 (F a 51))) + 1 ≤ (czI (G_91.2.1 (F a 51)))))
    (hm102 : 100 - l6_102.toInt < (((N102) + 1 : Nat) : Int))
    (c106 : ¬ ((90 : Int) ≤ l6_102.toInt))
    (I112_0 : 0 ≤ l7_112.toInt ∧ l7_112.toInt ≤ 90)
    (I112_1 : (l5_112.toInt = 0 ∨ l5_112.toInt = 1) ∧ (czI (G_112.2.1 (F a 51))) ≤ (czI (G_91.2.1 (F a 51))) ∧ (l5_112.toInt = 1 → (czI (G_112.2.1 (F a 51))) + 1 ≤ (czI (G_91.2.1 (F a 51)))))
    (hm112 : 100 - l7_112.toInt < (((N112) + 1 : Nat) : Int))
    (c116 : (90 : Int) ≤ l7_112.toInt) :
    l5_112.toInt = 0 → LZ (G.2.1 (F a 10)) (mw (G.2.1 (F a 1)) 0) (aI (G_112.2.1 (F a 51))) (l6_102.toInt + 1) 0 := by
  intro h
  first
    | exact LZ_row (lz (by omega)) (by omega)
    | exact LZ_one (lz (by omega)).1 (by omega)
theorem v_X11_leans_186_9 {F : Nat → Nat → Nat} (a : Nat) (G : XG) (G_112 : XG) (p0 : Int32) (p1 : Int32)
    (lq : LQ (G.2.1 (F a 10)) (mw (G.2.1 (F a 1)) 0) p0.toInt p1.toInt (aI (G_112.2.1 (F a 51)))) :
    LQ (G.2.1 (F a 10)) (mw (G.2.1 (F a 1)) 0) p0.toInt p1.toInt (aI (G_112.2.1 (F a 51))) := by
  exact lq
theorem v_X11_leans_186_10 {K : Nat → Nat} {F : Nat → Nat → Nat} (a : Nat) (G : XG) (G_32 : XG) (G_91 : XG) (G_102 : XG) (G_112 : XG) (l5_32 : Int32) (p0 : Int32) (p1 : Int32) (l5_112 : Int32) (l6_102 : Int32) (l7_112 : Int32) (x8 : Int32) (x18 : Int32) (p2 : Int32) (l4_32 : Int32) (N32 : Nat) (l5_91 : Int32) (N91 : Nat) (l5_102 : Int32) (N102 : Nat) (N112 : Nat)
    (ha : K a = 13)
    (lq : LQ (G.2.1 (F a 10)) (mw (G.2.1 (F a 1)) 0) p0.toInt p1.toInt (aI (G_112.2.1 (F a 51))))
    (lz : l5_112.toInt = 0 → LZ (G.2.1 (F a 10)) (mw (G.2.1 (F a 1)) 0) (aI (G_112.2.1 (F a 51))) l6_102.toInt l7_112.toInt)
    (z5 : ¬ (0 ≤ p0.toInt ∧ p0.toInt < 3 ∧ 0 ≤ p1.toInt ∧ p1.toInt < 30) → (cel (mw (G.2.1 (F a 1)) 0) (p0.toInt) (p1.toInt) 0) = -2000)
    (t8 : (x8.toInt = 1 ∧ (cel (mw (G.2.1 (F a 1)) 0) (p0.toInt) (p1.toInt) 0) ≠ -2000) ∨ (x8.toInt = 0 ∧ (cel (mw (G.2.1 (F a 1)) 0) (p0.toInt) (p1.toInt) 0) = -2000))
    (c11 : ¬ (x8.toInt = 0))
    (t18 : (x18.toInt = 1 ∧ (0 : Int) ≤ p2.toInt ∧ p2.toInt ≤ (1 : Int)) ∨ (x18.toInt = 0 ∧ (p2.toInt < (0 : Int) ∨ (1 : Int) < p2.toInt)))
    (c21 : x18.toInt ≠ 0)
    (z29 : (bsI (lnI (G.2.1 (F a 10)) (mw (G.2.1 (F a 1)) 0) p0.toInt p1.toInt) 0) = 0)
    (I32_0 : 0 ≤ l5_32.toInt ∧ l5_32.toInt ≤ 90)
    (I32_1 : l4_32.toInt = (bsI (lnI (G.2.1 (F a 10)) (mw (G.2.1 (F a 1)) 0) p0.toInt p1.toInt) (l5_32.toInt)))
    (I32_2 : 0 ≤ l4_32.toInt ∧ l4_32.toInt ≤ l5_32.toInt)
    (hm32 : 2147483648 - l5_32.toInt < (((N32) + 1 : Nat) : Int))
    (c36 : (90 : Int) ≤ l5_32.toInt)
    (z88 : 0 ≤ (czI (G_32.2.1 (F a 51))) ∧ (czI (G_32.2.1 (F a 51))) ≤ 90)
    (z88a : l5_32.toInt = 90 → (bsI (lnI (G.2.1 (F a 10)) (mw (G.2.1 (F a 1)) 0) p0.toInt p1.toInt) (l5_32.toInt)) = (bsI (lnI (G.2.1 (F a 10)) (mw (G.2.1 (F a 1)) 0) p0.toInt p1.toInt) 90))
    (I91_0 : (l5_91.toInt = 0 ∨ l5_91.toInt = 1))
    (I91_1 : 0 ≤ (czI (G_91.2.1 (F a 51))) ∧ (czI (G_91.2.1 (F a 51))) ≤ 90)
    (hm91 : 2 * (czI (G_91.2.1 (F a 51))) + l5_91.toInt < (((N91) + 1 : Nat) : Int))
    (c93 : ¬ (l5_91.toInt = 0))
    (I102_0 : 0 ≤ l6_102.toInt ∧ l6_102.toInt ≤ 90)
    (I102_1 : (l5_102.toInt = 0 ∨ l5_102.toInt = 1) ∧ (czI (G_102.2.1 (F a 51))) ≤ (czI (G_91.2.1 (F a 51))) ∧ (l5_102.toInt = 1 → (czI (G_102.2.1 (F a 51))) + 1 ≤ (czI (G_91.2.1 (F a 51)))))
    (hm102 : 100 - l6_102.toInt < (((N102) + 1 : Nat) : Int))
    (c106 : ¬ ((90 : Int) ≤ l6_102.toInt))
    (I112_0 : 0 ≤ l7_112.toInt ∧ l7_112.toInt ≤ 90)
    (I112_1 : (l5_112.toInt = 0 ∨ l5_112.toInt = 1) ∧ (czI (G_112.2.1 (F a 51))) ≤ (czI (G_91.2.1 (F a 51))) ∧ (l5_112.toInt = 1 → (czI (G_112.2.1 (F a 51))) + 1 ≤ (czI (G_91.2.1 (F a 51)))))
    (hm112 : 100 - l7_112.toInt < (((N112) + 1 : Nat) : Int))
    (c116 : ¬ ((90 : Int) ≤ l7_112.toInt))
    (f44 : (aI (G_112.2.1 (F a 51)) (l6_102.toInt)) = 0 ∨ (aI (G_112.2.1 (F a 51)) (l6_102.toInt)) = 1)
    (c126 : (aI (G_112.2.1 (F a 51)) (l6_102.toInt)) ≠ 0) :
    l5_112.toInt = 0 → LZ (G.2.1 (F a 10)) (mw (G.2.1 (F a 1)) 0) (aI (G_112.2.1 (F a 51))) (l6_102.toInt + 1) 0 := by
  intro h
  first
    | exact LZ_row (lz (by omega)) (by omega)
    | exact LZ_one (lz (by omega)).1 (by omega)
theorem v_X11_leans_180_11 {K : Nat → Nat} {F : Nat → Nat → Nat} (a : Nat) (G : XG) (G_32 : XG) (G_91 : XG) (G_102 : XG) (G_112 : XG) (l5_32 : Int32) (p0 : Int32) (p1 : Int32) (l5_112 : Int32) (l6_102 : Int32) (l7_112 : Int32) (x8 : Int32) (x18 : Int32) (p2 : Int32) (l4_32 : Int32) (N32 : Nat) (l5_91 : Int32) (N91 : Nat) (l5_102 : Int32) (N102 : Nat) (N112 : Nat)
    (ha : K a = 13)
    (lq : LQ (G.2.1 (F a 10)) (mw (G.2.1 (F a 1)) 0) p0.toInt p1.toInt (aI (G_112.2.1 (F a 51))))
    (lz : l5_112.toInt = 0 → LZ (G.2.1 (F a 10)) (mw (G.2.1 (F a 1)) 0) (aI (G_112.2.1 (F a 51))) l6_102.toInt l7_112.toInt)
    (z5 : ¬ (0 ≤ p0.toInt ∧ p0.toInt < 3 ∧ 0 ≤ p1.toInt ∧ p1.toInt < 30) → (cel (mw (G.2.1 (F a 1)) 0) (p0.toInt) (p1.toInt) 0) = -2000)
    (t8 : (x8.toInt = 1 ∧ (cel (mw (G.2.1 (F a 1)) 0) (p0.toInt) (p1.toInt) 0) ≠ -2000) ∨ (x8.toInt = 0 ∧ (cel (mw (G.2.1 (F a 1)) 0) (p0.toInt) (p1.toInt) 0) = -2000))
    (c11 : ¬ (x8.toInt = 0))
    (t18 : (x18.toInt = 1 ∧ (0 : Int) ≤ p2.toInt ∧ p2.toInt ≤ (1 : Int)) ∨ (x18.toInt = 0 ∧ (p2.toInt < (0 : Int) ∨ (1 : Int) < p2.toInt)))
    (c21 : x18.toInt ≠ 0)
    (z29 : (bsI (lnI (G.2.1 (F a 10)) (mw (G.2.1 (F a 1)) 0) p0.toInt p1.toInt) 0) = 0)
    (I32_0 : 0 ≤ l5_32.toInt ∧ l5_32.toInt ≤ 90)
    (I32_1 : l4_32.toInt = (bsI (lnI (G.2.1 (F a 10)) (mw (G.2.1 (F a 1)) 0) p0.toInt p1.toInt) (l5_32.toInt)))
    (I32_2 : 0 ≤ l4_32.toInt ∧ l4_32.toInt ≤ l5_32.toInt)
    (hm32 : 2147483648 - l5_32.toInt < (((N32) + 1 : Nat) : Int))
    (c36 : (90 : Int) ≤ l5_32.toInt)
    (z88 : 0 ≤ (czI (G_32.2.1 (F a 51))) ∧ (czI (G_32.2.1 (F a 51))) ≤ 90)
    (z88a : l5_32.toInt = 90 → (bsI (lnI (G.2.1 (F a 10)) (mw (G.2.1 (F a 1)) 0) p0.toInt p1.toInt) (l5_32.toInt)) = (bsI (lnI (G.2.1 (F a 10)) (mw (G.2.1 (F a 1)) 0) p0.toInt p1.toInt) 90))
    (I91_0 : (l5_91.toInt = 0 ∨ l5_91.toInt = 1))
    (I91_1 : 0 ≤ (czI (G_91.2.1 (F a 51))) ∧ (czI (G_91.2.1 (F a 51))) ≤ 90)
    (hm91 : 2 * (czI (G_91.2.1 (F a 51))) + l5_91.toInt < (((N91) + 1 : Nat) : Int))
    (c93 : ¬ (l5_91.toInt = 0))
    (I102_0 : 0 ≤ l6_102.toInt ∧ l6_102.toInt ≤ 90)
    (I102_1 : (l5_102.toInt = 0 ∨ l5_102.toInt = 1) ∧ (czI (G_102.2.1 (F a 51))) ≤ (czI (G_91.2.1 (F a 51))) ∧ (l5_102.toInt = 1 → (czI (G_102.2.1 (F a 51))) + 1 ≤ (czI (G_91.2.1 (F a 51)))))
    (hm102 : 100 - l6_102.toInt < (((N102) + 1 : Nat) : Int))
    (c106 : ¬ ((90 : Int) ≤ l6_102.toInt))
    (I112_0 : 0 ≤ l7_112.toInt ∧ l7_112.toInt ≤ 90)
    (I112_1 : (l5_112.toInt = 0 ∨ l5_112.toInt = 1) ∧ (czI (G_112.2.1 (F a 51))) ≤ (czI (G_91.2.1 (F a 51))) ∧ (l5_112.toInt = 1 → (czI (G_112.2.1 (F a 51))) + 1 ≤ (czI (G_91.2.1 (F a 51)))))
    (hm112 : 100 - l7_112.toInt < (((N112) + 1 : Nat) : Int))
    (c116 : ¬ ((90 : Int) ≤ l7_112.toInt))
    (f45 : (aI (G_112.2.1 (F a 51)) (l6_102.toInt)) = 0 ∨ (aI (G_112.2.1 (F a 51)) (l6_102.toInt)) = 1)
    (c126 : ¬ ((aI (G_112.2.1 (F a 51)) (l6_102.toInt)) ≠ 0))
    (f47 : (aI (G_112.2.1 (F a 51)) (l7_112.toInt)) = 0 ∨ (aI (G_112.2.1 (F a 51)) (l7_112.toInt)) = 1)
    (c136 : (aI (G_112.2.1 (F a 51)) (l7_112.toInt)) = 0) :
    LQ (G.2.1 (F a 10)) (mw (G.2.1 (F a 1)) 0) p0.toInt p1.toInt (aI (G_112.2.1 (F a 51))) := by
  first
    | exact lq
    | (have e144 : x144.toInt = l6_102.toInt / 30 := by omega
       have e149 : x149.toInt = l6_102.toInt % 30 := by omega
       have e154 : x154.toInt = l7_112.toInt / 30 := by omega
       have e159 : x159.toInt = l7_112.toInt % 30 := by omega
       rw [e144, e149, e154, e159] at oq160
       exact LQ_set lq ⟨by omega, by omega⟩ ⟨by omega, by omega⟩ (oq160.resolve_right (fun h => by omega)).2 (by omega) (aI_pu hG173 rfl rfl (show Int32.toInt 1 = 1 by decide) (by omega)))
theorem v_X11_leans_180_12 {K : Nat → Nat} {F : Nat → Nat → Nat} (a : Nat) (G : XG) (G_32 : XG) (G_91 : XG) (G_102 : XG) (G_112 : XG) (l5_32 : Int32) (p0 : Int32) (p1 : Int32) (l5_112 : Int32) (l6_102 : Int32) (l7_112 : Int32) (x8 : Int32) (x18 : Int32) (p2 : Int32) (l4_32 : Int32) (N32 : Nat) (l5_91 : Int32) (N91 : Nat) (l5_102 : Int32) (N102 : Nat) (N112 : Nat)
    (ha : K a = 13)
    (lq : LQ (G.2.1 (F a 10)) (mw (G.2.1 (F a 1)) 0) p0.toInt p1.toInt (aI (G_112.2.1 (F a 51))))
    (lz : l5_112.toInt = 0 → LZ (G.2.1 (F a 10)) (mw (G.2.1 (F a 1)) 0) (aI (G_112.2.1 (F a 51))) l6_102.toInt l7_112.toInt)
    (z5 : ¬ (0 ≤ p0.toInt ∧ p0.toInt < 3 ∧ 0 ≤ p1.toInt ∧ p1.toInt < 30) → (cel (mw (G.2.1 (F a 1)) 0) (p0.toInt) (p1.toInt) 0) = -2000)
    (t8 : (x8.toInt = 1 ∧ (cel (mw (G.2.1 (F a 1)) 0) (p0.toInt) (p1.toInt) 0) ≠ -2000) ∨ (x8.toInt = 0 ∧ (cel (mw (G.2.1 (F a 1)) 0) (p0.toInt) (p1.toInt) 0) = -2000))
    (c11 : ¬ (x8.toInt = 0))
    (t18 : (x18.toInt = 1 ∧ (0 : Int) ≤ p2.toInt ∧ p2.toInt ≤ (1 : Int)) ∨ (x18.toInt = 0 ∧ (p2.toInt < (0 : Int) ∨ (1 : Int) < p2.toInt)))
    (c21 : x18.toInt ≠ 0)
    (z29 : (bsI (lnI (G.2.1 (F a 10)) (mw (G.2.1 (F a 1)) 0) p0.toInt p1.toInt) 0) = 0)
    (I32_0 : 0 ≤ l5_32.toInt ∧ l5_32.toInt ≤ 90)
    (I32_1 : l4_32.toInt = (bsI (lnI (G.2.1 (F a 10)) (mw (G.2.1 (F a 1)) 0) p0.toInt p1.toInt) (l5_32.toInt)))
    (I32_2 : 0 ≤ l4_32.toInt ∧ l4_32.toInt ≤ l5_32.toInt)
    (hm32 : 2147483648 - l5_32.toInt < (((N32) + 1 : Nat) : Int))
    (c36 : (90 : Int) ≤ l5_32.toInt)
    (z88 : 0 ≤ (czI (G_32.2.1 (F a 51))) ∧ (czI (G_32.2.1 (F a 51))) ≤ 90)
    (z88a : l5_32.toInt = 90 → (bsI (lnI (G.2.1 (F a 10)) (mw (G.2.1 (F a 1)) 0) p0.toInt p1.toInt) (l5_32.toInt)) = (bsI (lnI (G.2.1 (F a 10)) (mw (G.2.1 (F a 1)) 0) p0.toInt p1.toInt) 90))
    (I91_0 : (l5_91.toInt = 0 ∨ l5_91.toInt = 1))
    (I91_1 : 0 ≤ (czI (G_91.2.1 (F a 51))) ∧ (czI (G_91.2.1 (F a 51))) ≤ 90)
    (hm91 : 2 * (czI (G_91.2.1 (F a 51))) + l5_91.toInt < (((N91) + 1 : Nat) : Int))
    (c93 : ¬ (l5_91.toInt = 0))
    (I102_0 : 0 ≤ l6_102.toInt ∧ l6_102.toInt ≤ 90)
    (I102_1 : (l5_102.toInt = 0 ∨ l5_102.toInt = 1) ∧ (czI (G_102.2.1 (F a 51))) ≤ (czI (G_91.2.1 (F a 51))) ∧ (l5_102.toInt = 1 → (czI (G_102.2.1 (F a 51))) + 1 ≤ (czI (G_91.2.1 (F a 51)))))
    (hm102 : 100 - l6_102.toInt < (((N102) + 1 : Nat) : Int))
    (c106 : ¬ ((90 : Int) ≤ l6_102.toInt))
    (I112_0 : 0 ≤ l7_112.toInt ∧ l7_112.toInt ≤ 90)
    (I112_1 : (l5_112.toInt = 0 ∨ l5_112.toInt = 1) ∧ (czI (G_112.2.1 (F a 51))) ≤ (czI (G_91.2.1 (F a 51))) ∧ (l5_112.toInt = 1 → (czI (G_112.2.1 (F a 51))) + 1 ≤ (czI (G_91.2.1 (F a 51)))))
    (hm112 : 100 - l7_112.toInt < (((N112) + 1 : Nat) : Int))
    (c116 : ¬ ((90 : Int) ≤ l7_112.toInt))
    (f45 : (aI (G_112.2.1 (F a 51)) (l6_102.toInt)) = 0 ∨ (aI (G_112.2.1 (F a 51)) (l6_102.toInt)) = 1)
    (c126 : ¬ ((aI (G_112.2.1 (F a 51)) (l6_102.toInt)) ≠ 0))
    (f47 : (aI (G_112.2.1 (F a 51)) (l7_112.toInt)) = 0 ∨ (aI (G_112.2.1 (F a 51)) (l7_112.toInt)) = 1)
    (c136 : (aI (G_112.2.1 (F a 51)) (l7_112.toInt)) = 0) :
    l5_112.toInt = 0 → LZ (G.2.1 (F a 10)) (mw (G.2.1 (F a 1)) 0) (aI (G_112.2.1 (F a 51))) l6_102.toInt (l7_112.toInt + 1) := by
  intro h
  first
    | exact absurd h (by decide)
    | exact LZ_skip (lz (by omega)) (Or.inl (by omega))
    | (have e144 : x144.toInt = l6_102.toInt / 30 := by omega
       have e149 : x149.toInt = l6_102.toInt % 30 := by omega
       have e154 : x154.toInt = l7_112.toInt / 30 := by omega
       have e159 : x159.toInt = l7_112.toInt % 30 := by omega
       rw [e144, e149, e154, e159] at oq160
       exact LZ_skip (lz (by omega)) (Or.inr (oq160.resolve_left (fun h => by omega)).2))
theorem v_X11_leans_160_13 {F : Nat → Nat → Nat} (a : Nat) (G : XG) (G_112 : XG)
    (hR : RV (G.2.1 (F a 10)))
    (c_G_112_F_a_10 : G_112.2.1 (F a 10) = G.2.1 (F a 10)) :
    RV (G_112.2.1 (F a 10)) := by simp only [c_G_112_F_a_10]; assumption
theorem v_X11_leans_160_14 {F : Nat → Nat → Nat} (a : Nat) (G : XG) (G_112 : XG)
    (hM : RM (G.2.1 (F a 1)) (0))
    (c_G_112_F_a_1 : G_112.2.1 (F a 1) = G.2.1 (F a 1)) :
    RM (G_112.2.1 (F a 1)) (0) := by simp only [c_G_112_F_a_1]; assumption
theorem v_X11_leans_180_15 {K : Nat → Nat} {F : Nat → Nat → Nat} (a : Nat) (G : XG) (G_32 : XG) (G_91 : XG) (G_102 : XG) (G_112 : XG) (l5_32 : Int32) (p0 : Int32) (p1 : Int32) (l5_112 : Int32) (l6_102 : Int32) (l7_112 : Int32) (x160 : Int32) (x144 : Int32) (x149 : Int32) (x154 : Int32) (x159 : Int32) (x8 : Int32) (x18 : Int32) (p2 : Int32) (l4_32 : Int32) (N32 : Nat) (l5_91 : Int32) (N91 : Nat) (l5_102 : Int32) (N102 : Nat) (N112 : Nat)
    (ha : K a = 13)
    (lq : LQ (G.2.1 (F a 10)) (mw (G.2.1 (F a 1)) 0) p0.toInt p1.toInt (aI (G_112.2.1 (F a 51))))
    (lz : l5_112.toInt = 0 → LZ (G.2.1 (F a 10)) (mw (G.2.1 (F a 1)) 0) (aI (G_112.2.1 (F a 51))) l6_102.toInt l7_112.toInt)
    (oq160 : (x160.toInt = 1 ∧ lnM (G.2.1 (F a 10)) (mw (G.2.1 (F a 1)) 0) 12 x144.toInt x149.toInt x154.toInt x159.toInt) ∨ (x160.toInt = 0 ∧ ¬ lnM (G.2.1 (F a 10)) (mw (G.2.1 (F a 1)) 0) 12 x144.toInt x149.toInt x154.toInt x159.toInt))
    (z5 : ¬ (0 ≤ p0.toInt ∧ p0.toInt < 3 ∧ 0 ≤ p1.toInt ∧ p1.toInt < 30) → (cel (mw (G.2.1 (F a 1)) 0) (p0.toInt) (p1.toInt) 0) = -2000)
    (t8 : (x8.toInt = 1 ∧ (cel (mw (G.2.1 (F a 1)) 0) (p0.toInt) (p1.toInt) 0) ≠ -2000) ∨ (x8.toInt = 0 ∧ (cel (mw (G.2.1 (F a 1)) 0) (p0.toInt) (p1.toInt) 0) = -2000))
    (c11 : ¬ (x8.toInt = 0))
    (t18 : (x18.toInt = 1 ∧ (0 : Int) ≤ p2.toInt ∧ p2.toInt ≤ (1 : Int)) ∨ (x18.toInt = 0 ∧ (p2.toInt < (0 : Int) ∨ (1 : Int) < p2.toInt)))
    (c21 : x18.toInt ≠ 0)
    (z29 : (bsI (lnI (G.2.1 (F a 10)) (mw (G.2.1 (F a 1)) 0) p0.toInt p1.toInt) 0) = 0)
    (I32_0 : 0 ≤ l5_32.toInt ∧ l5_32.toInt ≤ 90)
    (I32_1 : l4_32.toInt = (bsI (lnI (G.2.1 (F a 10)) (mw (G.2.1 (F a 1)) 0) p0.toInt p1.toInt) (l5_32.toInt)))
    (I32_2 : 0 ≤ l4_32.toInt ∧ l4_32.toInt ≤ l5_32.toInt)
    (hm32 : 2147483648 - l5_32.toInt < (((N32) + 1 : Nat) : Int))
    (c36 : (90 : Int) ≤ l5_32.toInt)
    (z88 : 0 ≤ (czI (G_32.2.1 (F a 51))) ∧ (czI (G_32.2.1 (F a 51))) ≤ 90)
    (z88a : l5_32.toInt = 90 → (bsI (lnI (G.2.1 (F a 10)) (mw (G.2.1 (F a 1)) 0) p0.toInt p1.toInt) (l5_32.toInt)) = (bsI (lnI (G.2.1 (F a 10)) (mw (G.2.1 (F a 1)) 0) p0.toInt p1.toInt) 90))
    (I91_0 : (l5_91.toInt = 0 ∨ l5_91.toInt = 1))
    (I91_1 : 0 ≤ (czI (G_91.2.1 (F a 51))) ∧ (czI (G_91.2.1 (F a 51))) ≤ 90)
    (hm91 : 2 * (czI (G_91.2.1 (F a 51))) + l5_91.toInt < (((N91) + 1 : Nat) : Int))
    (c93 : ¬ (l5_91.toInt = 0))
    (I102_0 : 0 ≤ l6_102.toInt ∧ l6_102.toInt ≤ 90)
    (I102_1 : (l5_102.toInt = 0 ∨ l5_102.toInt = 1) ∧ (czI (G_102.2.1 (F a 51))) ≤ (czI (G_91.2.1 (F a 51))) ∧ (l5_102.toInt = 1 → (czI (G_102.2.1 (F a 51))) + 1 ≤ (czI (G_91.2.1 (F a 51)))))
    (hm102 : 100 - l6_102.toInt < (((N102) + 1 : Nat) : Int))
    (c106 : ¬ ((90 : Int) ≤ l6_102.toInt))
    (I112_0 : 0 ≤ l7_112.toInt ∧ l7_112.toInt ≤ 90)
    (I112_1 : (l5_112.toInt = 0 ∨ l5_112.toInt = 1) ∧ (czI (G_112.2.1 (F a 51))) ≤ (czI (G_91.2.1 (F a 51))) ∧ (l5_112.toInt = 1 → (czI (G_112.2.1 (F a 51))) + 1 ≤ (czI (G_91.2.1 (F a 51)))))
    (hm112 : 100 - l7_112.toInt < (((N112) + 1 : Nat) : Int))
    (c116 : ¬ ((90 : Int) ≤ l7_112.toInt))
    (f46 : (aI (G_112.2.1 (F a 51)) (l6_102.toInt)) = 0 ∨ (aI (G_112.2.1 (F a 51)) (l6_102.toInt)) = 1)
    (c126 : ¬ ((aI (G_112.2.1 (F a 51)) (l6_102.toInt)) ≠ 0))
    (f48 : (aI (G_112.2.1 (F a 51)) (l7_112.toInt)) = 0 ∨ (aI (G_112.2.1 (F a 51)) (l7_112.toInt)) = 1)
    (c136 : ¬ ((aI (G_112.2.1 (F a 51)) (l7_112.toInt)) = 0))
    (t144 : 0 ≤ l6_102.toInt → x144.toInt = l6_102.toInt / (30 : Int))
    (t149 : 0 ≤ l6_102.toInt → x149.toInt = l6_102.toInt % (30 : Int))
    (t154 : 0 ≤ l7_112.toInt → x154.toInt = l7_112.toInt / (30 : Int))
    (t159 : 0 ≤ l7_112.toInt → x159.toInt = l7_112.toInt % (30 : Int))
    (c163 : x160.toInt = 0) :
    LQ (G.2.1 (F a 10)) (mw (G.2.1 (F a 1)) 0) p0.toInt p1.toInt (aI (G_112.2.1 (F a 51))) := by
  first
    | exact lq
    | (have e144 : x144.toInt = l6_102.toInt / 30 := by omega
       have e149 : x149.toInt = l6_102.toInt % 30 := by omega
       have e154 : x154.toInt = l7_112.toInt / 30 := by omega
       have e159 : x159.toInt = l7_112.toInt % 30 := by omega
       rw [e144, e149, e154, e159] at oq160
       exact LQ_set lq ⟨by omega, by omega⟩ ⟨by omega, by omega⟩ (oq160.resolve_right (fun h => by omega)).2 (by omega) (aI_pu hG173 rfl rfl (show Int32.toInt 1 = 1 by decide) (by omega)))
theorem v_X11_leans_180_16 {K : Nat → Nat} {F : Nat → Nat → Nat} (a : Nat) (G : XG) (G_32 : XG) (G_91 : XG) (G_102 : XG) (G_112 : XG) (l5_32 : Int32) (p0 : Int32) (p1 : Int32) (l5_112 : Int32) (l6_102 : Int32) (l7_112 : Int32) (x160 : Int32) (x144 : Int32) (x149 : Int32) (x154 : Int32) (x159 : Int32) (x8 : Int32) (x18 : Int32) (p2 : Int32) (l4_32 : Int32) (N32 : Nat) (l5_91 : Int32) (N91 : Nat) (l5_102 : Int32) (N102 : Nat) (N112 : Nat)
    (ha : K a = 13)
    (lq : LQ (G.2.1 (F a 10)) (mw (G.2.1 (F a 1)) 0) p0.toInt p1.toInt (aI (G_112.2.1 (F a 51))))
    (lz : l5_112.toInt = 0 → LZ (G.2.1 (F a 10)) (mw (G.2.1 (F a 1)) 0) (aI (G_112.2.1 (F a 51))) l6_102.toInt l7_112.toInt)
    (oq160 : (x160.toInt = 1 ∧ lnM (G.2.1 (F a 10)) (mw (G.2.1 (F a 1)) 0) 12 x144.toInt x149.toInt x154.toInt x159.toInt) ∨ (x160.toInt = 0 ∧ ¬ lnM (G.2.1 (F a 10)) (mw (G.2.1 (F a 1)) 0) 12 x144.toInt x149.toInt x154.toInt x159.toInt))
    (z5 : ¬ (0 ≤ p0.toInt ∧ p0.toInt < 3 ∧ 0 ≤ p1.toInt ∧ p1.toInt < 30) → (cel (mw (G.2.1 (F a 1)) 0) (p0.toInt) (p1.toInt) 0) = -2000)
    (t8 : (x8.toInt = 1 ∧ (cel (mw (G.2.1 (F a 1)) 0) (p0.toInt) (p1.toInt) 0) ≠ -2000) ∨ (x8.toInt = 0 ∧ (cel (mw (G.2.1 (F a 1)) 0) (p0.toInt) (p1.toInt) 0) = -2000))
    (c11 : ¬ (x8.toInt = 0))
    (t18 : (x18.toInt = 1 ∧ (0 : Int) ≤ p2.toInt ∧ p2.toInt ≤ (1 : Int)) ∨ (x18.toInt = 0 ∧ (p2.toInt < (0 : Int) ∨ (1 : Int) < p2.toInt)))
    (c21 : x18.toInt ≠ 0)
    (z29 : (bsI (lnI (G.2.1 (F a 10)) (mw (G.2.1 (F a 1)) 0) p0.toInt p1.toInt) 0) = 0)
    (I32_0 : 0 ≤ l5_32.toInt ∧ l5_32.toInt ≤ 90)
    (I32_1 : l4_32.toInt = (bsI (lnI (G.2.1 (F a 10)) (mw (G.2.1 (F a 1)) 0) p0.toInt p1.toInt) (l5_32.toInt)))
    (I32_2 : 0 ≤ l4_32.toInt ∧ l4_32.toInt ≤ l5_32.toInt)
    (hm32 : 2147483648 - l5_32.toInt < (((N32) + 1 : Nat) : Int))
    (c36 : (90 : Int) ≤ l5_32.toInt)
    (z88 : 0 ≤ (czI (G_32.2.1 (F a 51))) ∧ (czI (G_32.2.1 (F a 51))) ≤ 90)
    (z88a : l5_32.toInt = 90 → (bsI (lnI (G.2.1 (F a 10)) (mw (G.2.1 (F a 1)) 0) p0.toInt p1.toInt) (l5_32.toInt)) = (bsI (lnI (G.2.1 (F a 10)) (mw (G.2.1 (F a 1)) 0) p0.toInt p1.toInt) 90))
    (I91_0 : (l5_91.toInt = 0 ∨ l5_91.toInt = 1))
    (I91_1 : 0 ≤ (czI (G_91.2.1 (F a 51))) ∧ (czI (G_91.2.1 (F a 51))) ≤ 90)
    (hm91 : 2 * (czI (G_91.2.1 (F a 51))) + l5_91.toInt < (((N91) + 1 : Nat) : Int))
    (c93 : ¬ (l5_91.toInt = 0))
    (I102_0 : 0 ≤ l6_102.toInt ∧ l6_102.toInt ≤ 90)
    (I102_1 : (l5_102.toInt = 0 ∨ l5_102.toInt = 1) ∧ (czI (G_102.2.1 (F a 51))) ≤ (czI (G_91.2.1 (F a 51))) ∧ (l5_102.toInt = 1 → (czI (G_102.2.1 (F a 51))) + 1 ≤ (czI (G_91.2.1 (F a 51)))))
    (hm102 : 100 - l6_102.toInt < (((N102) + 1 : Nat) : Int))
    (c106 : ¬ ((90 : Int) ≤ l6_102.toInt))
    (I112_0 : 0 ≤ l7_112.toInt ∧ l7_112.toInt ≤ 90)
    (I112_1 : (l5_112.toInt = 0 ∨ l5_112.toInt = 1) ∧ (czI (G_112.2.1 (F a 51))) ≤ (czI (G_91.2.1 (F a 51))) ∧ (l5_112.toInt = 1 → (czI (G_112.2.1 (F a 51))) + 1 ≤ (czI (G_91.2.1 (F a 51)))))
    (hm112 : 100 - l7_112.toInt < (((N112) + 1 : Nat) : Int))
    (c116 : ¬ ((90 : Int) ≤ l7_112.toInt))
    (f46 : (aI (G_112.2.1 (F a 51)) (l6_102.toInt)) = 0 ∨ (aI (G_112.2.1 (F a 51)) (l6_102.toInt)) = 1)
    (c126 : ¬ ((aI (G_112.2.1 (F a 51)) (l6_102.toInt)) ≠ 0))
    (f48 : (aI (G_112.2.1 (F a 51)) (l7_112.toInt)) = 0 ∨ (aI (G_112.2.1 (F a 51)) (l7_112.toInt)) = 1)
    (c136 : ¬ ((aI (G_112.2.1 (F a 51)) (l7_112.toInt)) = 0))
    (t144 : 0 ≤ l6_102.toInt → x144.toInt = l6_102.toInt / (30 : Int))
    (t149 : 0 ≤ l6_102.toInt → x149.toInt = l6_102.toInt % (30 : Int))
    (t154 : 0 ≤ l7_112.toInt → x154.toInt = l7_112.toInt / (30 : Int))
    (t159 : 0 ≤ l7_112.toInt → x159.toInt = l7_112.toInt % (30 : Int))
    (c163 : x160.toInt = 0) :
    l5_112.toInt = 0 → LZ (G.2.1 (F a 10)) (mw (G.2.1 (F a 1)) 0) (aI (G_112.2.1 (F a 51))) l6_102.toInt (l7_112.toInt + 1) := by
  intro h
  first
    | exact absurd h (by decide)
    | exact LZ_skip (lz (by omega)) (Or.inl (by omega))
    | (have e144 : x144.toInt = l6_102.toInt / 30 := by omega
       have e149 : x149.toInt = l6_102.toInt % 30 := by omega
       have e154 : x154.toInt = l7_112.toInt / 30 := by omega
       have e159 : x159.toInt = l7_112.toInt % 30 := by omega
       rw [e144, e149, e154, e159] at oq160
       exact LZ_skip (lz (by omega)) (Or.inr (oq160.resolve_left (fun h => by omega)).2))
theorem v_X11_leans_174_17 {F : Nat → Nat → Nat} (G173 : XG) (G_112 : XG) (a : Nat) (l6_102 : Int32)
    (hG173 : G173 = cput G_112 (F a 51) l6_102.toNatClampNeg 1)
    (I102_0 : 0 ≤ l6_102.toInt ∧ l6_102.toInt ≤ 90)
    (c106 : ¬ ((90 : Int) ≤ l6_102.toInt))
    (c126 : ¬ ((aI (G_112.2.1 (F a 51)) (l6_102.toInt)) ≠ 0)) :
    (czI (G173.2.1 (F a 51))) + 1 = (czI (G_112.2.1 (F a 51))) := by
  refine czI_set (i := l6_102.toInt.toNat) (by omega) ?_ ?_ ?_
  · have h9 : aI (G_112.2.1 (F a 51)) l6_102.toInt = 0 := by omega
    exact h9
  · rw [cput_j hG173]
    show (if l6_102.toInt.toNat = l6_102.toInt.toNat then (1 : Int32) else _).toInt ≠ 0
    rw [if_pos rfl]; decide
  · intro j hj
    rw [cput_j hG173]
    exact if_neg hj
theorem v_X11_leans_180_18 {K : Nat → Nat} {F : Nat → Nat → Nat} (a : Nat) (G : XG) (G_32 : XG) (G_91 : XG) (G_102 : XG) (G_112 : XG) (G173 : XG) (l6_102 : Int32) (l5_32 : Int32) (p0 : Int32) (p1 : Int32) (l5_112 : Int32) (l7_112 : Int32) (x160 : Int32) (x144 : Int32) (x149 : Int32) (x154 : Int32) (x159 : Int32) (x8 : Int32) (x18 : Int32) (p2 : Int32) (l4_32 : Int32) (N32 : Nat) (l5_91 : Int32) (N91 : Nat) (l5_102 : Int32) (N102 : Nat) (N112 : Nat)
    (ha : K a = 13)
    (hG173 : G173 = cput G_112 (F a 51) l6_102.toNatClampNeg 1)
    (lq : LQ (G.2.1 (F a 10)) (mw (G.2.1 (F a 1)) 0) p0.toInt p1.toInt (aI (G_112.2.1 (F a 51))))
    (lz : l5_112.toInt = 0 → LZ (G.2.1 (F a 10)) (mw (G.2.1 (F a 1)) 0) (aI (G_112.2.1 (F a 51))) l6_102.toInt l7_112.toInt)
    (oq160 : (x160.toInt = 1 ∧ lnM (G.2.1 (F a 10)) (mw (G.2.1 (F a 1)) 0) 12 x144.toInt x149.toInt x154.toInt x159.toInt) ∨ (x160.toInt = 0 ∧ ¬ lnM (G.2.1 (F a 10)) (mw (G.2.1 (F a 1)) 0) 12 x144.toInt x149.toInt x154.toInt x159.toInt))
    (z5 : ¬ (0 ≤ p0.toInt ∧ p0.toInt < 3 ∧ 0 ≤ p1.toInt ∧ p1.toInt < 30) → (cel (mw (G.2.1 (F a 1)) 0) (p0.toInt) (p1.toInt) 0) = -2000)
    (t8 : (x8.toInt = 1 ∧ (cel (mw (G.2.1 (F a 1)) 0) (p0.toInt) (p1.toInt) 0) ≠ -2000) ∨ (x8.toInt = 0 ∧ (cel (mw (G.2.1 (F a 1)) 0) (p0.toInt) (p1.toInt) 0) = -2000))
    (c11 : ¬ (x8.toInt = 0))
    (t18 : (x18.toInt = 1 ∧ (0 : Int) ≤ p2.toInt ∧ p2.toInt ≤ (1 : Int)) ∨ (x18.toInt = 0 ∧ (p2.toInt < (0 : Int) ∨ (1 : Int) < p2.toInt)))
    (c21 : x18.toInt ≠ 0)
    (z29 : (bsI (lnI (G.2.1 (F a 10)) (mw (G.2.1 (F a 1)) 0) p0.toInt p1.toInt) 0) = 0)
    (I32_0 : 0 ≤ l5_32.toInt ∧ l5_32.toInt ≤ 90)
    (I32_1 : l4_32.toInt = (bsI (lnI (G.2.1 (F a 10)) (mw (G.2.1 (F a 1)) 0) p0.toInt p1.toInt) (l5_32.toInt)))
    (I32_2 : 0 ≤ l4_32.toInt ∧ l4_32.toInt ≤ l5_32.toInt)
    (hm32 : 2147483648 - l5_32.toInt < (((N32) + 1 : Nat) : Int))
    (c36 : (90 : Int) ≤ l5_32.toInt)
    (z88 : 0 ≤ (czI (G_32.2.1 (F a 51))) ∧ (czI (G_32.2.1 (F a 51))) ≤ 90)
    (z88a : l5_32.toInt = 90 → (bsI (lnI (G.2.1 (F a 10)) (mw (G.2.1 (F a 1)) 0) p0.toInt p1.toInt) (l5_32.toInt)) = (bsI (lnI (G.2.1 (F a 10)) (mw (G.2.1 (F a 1)) 0) p0.toInt p1.toInt) 90))
    (I91_0 : (l5_91.toInt = 0 ∨ l5_91.toInt = 1))
    (I91_1 : 0 ≤ (czI (G_91.2.1 (F a 51))) ∧ (czI (G_91.2.1 (F a 51))) ≤ 90)
    (hm91 : 2 * (czI (G_91.2.1 (F a 51))) + l5_91.toInt < (((N91) + 1 : Nat) : Int))
    (c93 : ¬ (l5_91.toInt = 0))
    (I102_0 : 0 ≤ l6_102.toInt ∧ l6_102.toInt ≤ 90)
    (I102_1 : (l5_102.toInt = 0 ∨ l5_102.toInt = 1) ∧ (czI (G_102.2.1 (F a 51))) ≤ (czI (G_91.2.1 (F a 51))) ∧ (l5_102.toInt = 1 → (czI (G_102.2.1 (F a 51))) + 1 ≤ (czI (G_91.2.1 (F a 51)))))
    (hm102 : 100 - l6_102.toInt < (((N102) + 1 : Nat) : Int))
    (c106 : ¬ ((90 : Int) ≤ l6_102.toInt))
    (I112_0 : 0 ≤ l7_112.toInt ∧ l7_112.toInt ≤ 90)
    (I112_1 : (l5_112.toInt = 0 ∨ l5_112.toInt = 1) ∧ (czI (G_112.2.1 (F a 51))) ≤ (czI (G_91.2.1 (F a 51))) ∧ (l5_112.toInt = 1 → (czI (G_112.2.1 (F a 51))) + 1 ≤ (czI (G_91.2.1 (F a 51)))))
    (hm112 : 100 - l7_112.toInt < (((N112) + 1 : Nat) : Int))
    (c116 : ¬ ((90 : Int) ≤ l7_112.toInt))
    (f47 : (aI (G_112.2.1 (F a 51)) (l6_102.toInt)) = 0 ∨ (aI (G_112.2.1 (F a 51)) (l6_102.toInt)) = 1)
    (c126 : ¬ ((aI (G_112.2.1 (F a 51)) (l6_102.toInt)) ≠ 0))
    (f49 : (aI (G_112.2.1 (F a 51)) (l7_112.toInt)) = 0 ∨ (aI (G_112.2.1 (F a 51)) (l7_112.toInt)) = 1)
    (c136 : ¬ ((aI (G_112.2.1 (F a 51)) (l7_112.toInt)) = 0))
    (t144 : 0 ≤ l6_102.toInt → x144.toInt = l6_102.toInt / (30 : Int))
    (t149 : 0 ≤ l6_102.toInt → x149.toInt = l6_102.toInt % (30 : Int))
    (t154 : 0 ≤ l7_112.toInt → x154.toInt = l7_112.toInt / (30 : Int))
    (t159 : 0 ≤ l7_112.toInt → x159.toInt = l7_112.toInt % (30 : Int))
    (c163 : ¬ (x160.toInt = 0))
    (cz173 : (czI (G173.2.1 (F a 51))) + 1 = (czI (G_112.2.1 (F a 51)))) :
    LQ (G.2.1 (F a 10)) (mw (G.2.1 (F a 1)) 0) p0.toInt p1.toInt (aI (G173.2.1 (F a 51))) := by
  first
    | exact lq
    | (have e144 : x144.toInt = l6_102.toInt / 30 := by omega
       have e149 : x149.toInt = l6_102.toInt % 30 := by omega
       have e154 : x154.toInt = l7_112.toInt / 30 := by omega
       have e159 : x159.toInt = l7_112.toInt % 30 := by omega
       rw [e144, e149, e154, e159] at oq160
       exact LQ_set lq ⟨by omega, by omega⟩ ⟨by omega, by omega⟩ (oq160.resolve_right (fun h => by omega)).2 (by omega) (aI_pu hG173 rfl rfl (show Int32.toInt 1 = 1 by decide) (by omega)))
theorem v_X11_leans_180_19 {K : Nat → Nat} {F : Nat → Nat → Nat} (a : Nat) (G : XG) (G_32 : XG) (G_91 : XG) (G_102 : XG) (G_112 : XG) (G173 : XG) (l6_102 : Int32) (l5_32 : Int32) (p0 : Int32) (p1 : Int32) (l5_112 : Int32) (l7_112 : Int32) (x160 : Int32) (x144 : Int32) (x149 : Int32) (x154 : Int32) (x159 : Int32) (x8 : Int32) (x18 : Int32) (p2 : Int32) (l4_32 : Int32) (N32 : Nat) (l5_91 : Int32) (N91 : Nat) (l5_102 : Int32) (N102 : Nat) (N112 : Nat)
    (ha : K a = 13)
    (lq : LQ (G.2.1 (F a 10)) (mw (G.2.1 (F a 1)) 0) p0.toInt p1.toInt (aI (G_112.2.1 (F a 51))))
    (lz : l5_112.toInt = 0 → LZ (G.2.1 (F a 10)) (mw (G.2.1 (F a 1)) 0) (aI (G_112.2.1 (F a 51))) l6_102.toInt l7_112.toInt)
    (oq160 : (x160.toInt = 1 ∧ lnM (G.2.1 (F a 10)) (mw (G.2.1 (F a 1)) 0) 12 x144.toInt x149.toInt x154.toInt x159.toInt) ∨ (x160.toInt = 0 ∧ ¬ lnM (G.2.1 (F a 10)) (mw (G.2.1 (F a 1)) 0) 12 x144.toInt x149.toInt x154.toInt x159.toInt))
    (z5 : ¬ (0 ≤ p0.toInt ∧ p0.toInt < 3 ∧ 0 ≤ p1.toInt ∧ p1.toInt < 30) → (cel (mw (G.2.1 (F a 1)) 0) (p0.toInt) (p1.toInt) 0) = -2000)
    (t8 : (x8.toInt = 1 ∧ (cel (mw (G.2.1 (F a 1)) 0) (p0.toInt) (p1.toInt) 0) ≠ -2000) ∨ (x8.toInt = 0 ∧ (cel (mw (G.2.1 (F a 1)) 0) (p0.toInt) (p1.toInt) 0) = -2000))
    (c11 : ¬ (x8.toInt = 0))
    (t18 : (x18.toInt = 1 ∧ (0 : Int) ≤ p2.toInt ∧ p2.toInt ≤ (1 : Int)) ∨ (x18.toInt = 0 ∧ (p2.toInt < (0 : Int) ∨ (1 : Int) < p2.toInt)))
    (c21 : x18.toInt ≠ 0)
    (z29 : (bsI (lnI (G.2.1 (F a 10)) (mw (G.2.1 (F a 1)) 0) p0.toInt p1.toInt) 0) = 0)
    (I32_0 : 0 ≤ l5_32.toInt ∧ l5_32.toInt ≤ 90)
    (I32_1 : l4_32.toInt = (bsI (lnI (G.2.1 (F a 10)) (mw (G.2.1 (F a 1)) 0) p0.toInt p1.toInt) (l5_32.toInt)))
    (I32_2 : 0 ≤ l4_32.toInt ∧ l4_32.toInt ≤ l5_32.toInt)
    (hm32 : 2147483648 - l5_32.toInt < (((N32) + 1 : Nat) : Int))
    (c36 : (90 : Int) ≤ l5_32.toInt)
    (z88 : 0 ≤ (czI (G_32.2.1 (F a 51))) ∧ (czI (G_32.2.1 (F a 51))) ≤ 90)
    (z88a : l5_32.toInt = 90 → (bsI (lnI (G.2.1 (F a 10)) (mw (G.2.1 (F a 1)) 0) p0.toInt p1.toInt) (l5_32.toInt)) = (bsI (lnI (G.2.1 (F a 10)) (mw (G.2.1 (F a 1)) 0) p0.toInt p1.toInt) 90))
    (I91_0 : (l5_91.toInt = 0 ∨ l5_91.toInt = 1))
    (I91_1 : 0 ≤ (czI (G_91.2.1 (F a 51))) ∧ (czI (G_91.2.1 (F a 51))) ≤ 90)
    (hm91 : 2 * (czI (G_91.2.1 (F a 51))) + l5_91.toInt < (((N91) + 1 : Nat) : Int))
    (c93 : ¬ (l5_91.toInt = 0))
    (I102_0 : 0 ≤ l6_102.toInt ∧ l6_102.toInt ≤ 90)
    (I102_1 : (l5_102.toInt = 0 ∨ l5_102.toInt = 1) ∧ (czI (G_102.2.1 (F a 51))) ≤ (czI (G_91.2.1 (F a 51))) ∧ (l5_102.toInt = 1 → (czI (G_102.2.1 (F a 51))) + 1 ≤ (czI (G_91.2.1 (F a 51)))))
    (hm102 : 100 - l6_102.toInt < (((N102) + 1 : Nat) : Int))
    (c106 : ¬ ((90 : Int) ≤ l6_102.toInt))
    (I112_0 : 0 ≤ l7_112.toInt ∧ l7_112.toInt ≤ 90)
    (I112_1 : (l5_112.toInt = 0 ∨ l5_112.toInt = 1) ∧ (czI (G_112.2.1 (F a 51))) ≤ (czI (G_91.2.1 (F a 51))) ∧ (l5_112.toInt = 1 → (czI (G_112.2.1 (F a 51))) + 1 ≤ (czI (G_91.2.1 (F a 51)))))
    (hm112 : 100 - l7_112.toInt < (((N112) + 1 : Nat) : Int))
    (c116 : ¬ ((90 : Int) ≤ l7_112.toInt))
    (f47 : (aI (G_112.2.1 (F a 51)) (l6_102.toInt)) = 0 ∨ (aI (G_112.2.1 (F a 51)) (l6_102.toInt)) = 1)
    (c126 : ¬ ((aI (G_112.2.1 (F a 51)) (l6_102.toInt)) ≠ 0))
    (f49 : (aI (G_112.2.1 (F a 51)) (l7_112.toInt)) = 0 ∨ (aI (G_112.2.1 (F a 51)) (l7_112.toInt)) = 1)
    (c136 : ¬ ((aI (G_112.2.1 (F a 51)) (l7_112.toInt)) = 0))
    (t144 : 0 ≤ l6_102.toInt → x144.toInt = l6_102.toInt / (30 : Int))
    (t149 : 0 ≤ l6_102.toInt → x149.toInt = l6_102.toInt % (30 : Int))
    (t154 : 0 ≤ l7_112.toInt → x154.toInt = l7_112.toInt / (30 : Int))
    (t159 : 0 ≤ l7_112.toInt → x159.toInt = l7_112.toInt % (30 : Int))
    (c163 : ¬ (x160.toInt = 0))
    (cz173 : (czI (G173.2.1 (F a 51))) + 1 = (czI (G_112.2.1 (F a 51)))) :
    (1 : Int) = 0 → LZ (G.2.1 (F a 10)) (mw (G.2.1 (F a 1)) 0) (aI (G173.2.1 (F a 51))) l6_102.toInt (l7_112.toInt + 1) := by
  intro h
  first
    | exact absurd h (by decide)
    | exact LZ_skip (lz (by omega)) (Or.inl (by omega))
    | (have e144 : x144.toInt = l6_102.toInt / 30 := by omega
       have e149 : x149.toInt = l6_102.toInt % 30 := by omega
       have e154 : x154.toInt = l7_112.toInt / 30 := by omega
       have e159 : x159.toInt = l7_112.toInt % 30 := by omega
       rw [e144, e149, e154, e159] at oq160
       exact LZ_skip (lz (by omega)) (Or.inr (oq160.resolve_left (fun h => by omega)).2))
theorem v_X11_leans_110_20 {F : Nat → Nat → Nat} (a : Nat) (G : XG) (G_102 : XG) (p0 : Int32) (p1 : Int32)
    (lq : LQ (G.2.1 (F a 10)) (mw (G.2.1 (F a 1)) 0) p0.toInt p1.toInt (aI (G_102.2.1 (F a 51)))) :
    LQ (G.2.1 (F a 10)) (mw (G.2.1 (F a 1)) 0) p0.toInt p1.toInt (aI (G_102.2.1 (F a 51))) := by
  exact lq
theorem v_X11_leans_110_21 {K : Nat → Nat} {F : Nat → Nat → Nat} (a : Nat) (G : XG) (G_32 : XG) (G_91 : XG) (G_102 : XG) (l5_32 : Int32) (p0 : Int32) (p1 : Int32) (l5_102 : Int32) (l6_102 : Int32) (x8 : Int32) (x18 : Int32) (p2 : Int32) (l4_32 : Int32) (N32 : Nat) (l5_91 : Int32) (N91 : Nat) (N102 : Nat)
    (ha : K a = 13)
    (lq : LQ (G.2.1 (F a 10)) (mw (G.2.1 (F a 1)) 0) p0.toInt p1.toInt (aI (G_102.2.1 (F a 51))))
    (lz : l5_102.toInt = 0 → LZ (G.2.1 (F a 10)) (mw (G.2.1 (F a 1)) 0) (aI (G_102.2.1 (F a 51))) l6_102.toInt 0)
    (z5 : ¬ (0 ≤ p0.toInt ∧ p0.toInt < 3 ∧ 0 ≤ p1.toInt ∧ p1.toInt < 30) → (cel (mw (G.2.1 (F a 1)) 0) (p0.toInt) (p1.toInt) 0) = -2000)
    (t8 : (x8.toInt = 1 ∧ (cel (mw (G.2.1 (F a 1)) 0) (p0.toInt) (p1.toInt) 0) ≠ -2000) ∨ (x8.toInt = 0 ∧ (cel (mw (G.2.1 (F a 1)) 0) (p0.toInt) (p1.toInt) 0) = -2000))
    (c11 : ¬ (x8.toInt = 0))
    (t18 : (x18.toInt = 1 ∧ (0 : Int) ≤ p2.toInt ∧ p2.toInt ≤ (1 : Int)) ∨ (x18.toInt = 0 ∧ (p2.toInt < (0 : Int) ∨ (1 : Int) < p2.toInt)))
    (c21 : x18.toInt ≠ 0)
    (z29 : (bsI (lnI (G.2.1 (F a 10)) (mw (G.2.1 (F a 1)) 0) p0.toInt p1.toInt) 0) = 0)
    (I32_0 : 0 ≤ l5_32.toInt ∧ l5_32.toInt ≤ 90)
    (I32_1 : l4_32.toInt = (bsI (lnI (G.2.1 (F a 10)) (mw (G.2.1 (F a 1)) 0) p0.toInt p1.toInt) (l5_32.toInt)))
    (I32_2 : 0 ≤ l4_32.toInt ∧ l4_32.toInt ≤ l5_32.toInt)
    (hm32 : 2147483648 - l5_32.toInt < (((N32) + 1 : Nat) : Int))
    (c36 : (90 : Int) ≤ l5_32.toInt)
    (z88 : 0 ≤ (czI (G_32.2.1 (F a 51))) ∧ (czI (G_32.2.1 (F a 51))) ≤ 90)
    (z88a : l5_32.toInt = 90 → (bsI (lnI (G.2.1 (F a 10)) (mw (G.2.1 (F a 1)) 0) p0.toInt p1.toInt) (l5_32.toInt)) = (bsI (lnI (G.2.1 (F a 10)) (mw (G.2.1 (F a 1)) 0) p0.toInt p1.toInt) 90))
    (I91_0 : (l5_91.toInt = 0 ∨ l5_91.toInt = 1))
    (I91_1 : 0 ≤ (czI (G_91.2.1 (F a 51))) ∧ (czI (G_91.2.1 (F a 51))) ≤ 90)
    (hm91 : 2 * (czI (G_91.2.1 (F a 51))) + l5_91.toInt < (((N91) + 1 : Nat) : Int))
    (c93 : ¬ (l5_91.toInt = 0))
    (I102_0 : 0 ≤ l6_102.toInt ∧ l6_102.toInt ≤ 90)
    (I102_1 : (l5_102.toInt = 0 ∨ l5_102.toInt = 1) ∧ (czI (G_102.2.1 (F a 51))) ≤ (czI (G_91.2.1 (F a 51))) ∧ (l5_102.toInt = 1 → (czI (G_102.2.1 (F a 51))) + 1 ≤ (czI (G_91.2.1 (F a 51)))))
    (hm102 : 100 - l6_102.toInt < (((N102) + 1 : Nat) : Int))
    (c106 : ¬ ((90 : Int) ≤ l6_102.toInt)) :
    l5_102.toInt = 0 → LZ (G.2.1 (F a 10)) (mw (G.2.1 (F a 1)) 0) (aI (G_102.2.1 (F a 51))) l6_102.toInt (0 : Int) := by
  intro h
  exact LZ_new (lz (by omega)).1
theorem v_X11_leans_100_22 {F : Nat → Nat → Nat} (a : Nat) (G : XG) (G_91 : XG) (p0 : Int32) (p1 : Int32)
    (lq : LQ (G.2.1 (F a 10)) (mw (G.2.1 (F a 1)) 0) p0.toInt p1.toInt (aI (G_91.2.1 (F a 51)))) :
    LQ (G.2.1 (F a 10)) (mw (G.2.1 (F a 1)) 0) p0.toInt p1.toInt (aI (G_91.2.1 (F a 51))) := by
  exact lq
theorem v_X11_leans_100_23 {F : Nat → Nat → Nat} (a : Nat) (G : XG) (G_91 : XG) :
    (0 : Int) = 0 → LZ (G.2.1 (F a 10)) (mw (G.2.1 (F a 1)) 0) (aI (G_91.2.1 (F a 51))) (0 : Int) 0 := by
  intro _
  exact LZ_0
theorem v_X11_leans_89_24 {K : Nat → Nat} {F : Nat → Nat → Nat} (a : Nat) (G : XG) (G_32 : XG) (l5_32 : Int32) (p0 : Int32) (p1 : Int32) (x8 : Int32) (x18 : Int32) (p2 : Int32) (l4_32 : Int32) (N32 : Nat)
    (ha : K a = 13)
    (ps : ∀ z : Int, 0 ≤ z → z < l5_32.toInt → ((aI (G_32.2.1 (F a 51))) z = 1 ∧ lnM (G.2.1 (F a 10)) (mw (G.2.1 (F a 1)) 0) 12 (z / 30) (z % 30) p0.toInt p1.toInt) ∨ ((aI (G_32.2.1 (F a 51))) z = 0 ∧ ¬ lnM (G.2.1 (F a 10)) (mw (G.2.1 (F a 1)) 0) 12 (z / 30) (z % 30) p0.toInt p1.toInt))
    (z5 : ¬ (0 ≤ p0.toInt ∧ p0.toInt < 3 ∧ 0 ≤ p1.toInt ∧ p1.toInt < 30) → (cel (mw (G.2.1 (F a 1)) 0) (p0.toInt) (p1.toInt) 0) = -2000)
    (t8 : (x8.toInt = 1 ∧ (cel (mw (G.2.1 (F a 1)) 0) (p0.toInt) (p1.toInt) 0) ≠ -2000) ∨ (x8.toInt = 0 ∧ (cel (mw (G.2.1 (F a 1)) 0) (p0.toInt) (p1.toInt) 0) = -2000))
    (c11 : ¬ (x8.toInt = 0))
    (t18 : (x18.toInt = 1 ∧ (0 : Int) ≤ p2.toInt ∧ p2.toInt ≤ (1 : Int)) ∨ (x18.toInt = 0 ∧ (p2.toInt < (0 : Int) ∨ (1 : Int) < p2.toInt)))
    (c21 : x18.toInt ≠ 0)
    (z29 : (bsI (lnI (G.2.1 (F a 10)) (mw (G.2.1 (F a 1)) 0) p0.toInt p1.toInt) 0) = 0)
    (I32_0 : 0 ≤ l5_32.toInt ∧ l5_32.toInt ≤ 90)
    (I32_1 : l4_32.toInt = (bsI (lnI (G.2.1 (F a 10)) (mw (G.2.1 (F a 1)) 0) p0.toInt p1.toInt) (l5_32.toInt)))
    (I32_2 : 0 ≤ l4_32.toInt ∧ l4_32.toInt ≤ l5_32.toInt)
    (hm32 : 2147483648 - l5_32.toInt < (((N32) + 1 : Nat) : Int))
    (c36 : (90 : Int) ≤ l5_32.toInt)
    (z88 : 0 ≤ (czI (G_32.2.1 (F a 51))) ∧ (czI (G_32.2.1 (F a 51))) ≤ 90)
    (z88a : l5_32.toInt = 90 → (bsI (lnI (G.2.1 (F a 10)) (mw (G.2.1 (F a 1)) 0) p0.toInt p1.toInt) (l5_32.toInt)) = (bsI (lnI (G.2.1 (F a 10)) (mw (G.2.1 (F a 1)) 0) p0.toInt p1.toInt) 90)) :
    LQ (G.2.1 (F a 10)) (mw (G.2.1 (F a 1)) 0) p0.toInt p1.toInt (aI (G_32.2.1 (F a 51))) := by
  exact LQ_0 ps (by omega)
theorem v_X11_leans_89_25 {F : Nat → Nat → Nat} (a : Nat) (G : XG) (G_32 : XG) :
    (1 : Int) = 0 → LZ (G.2.1 (F a 10)) (mw (G.2.1 (F a 1)) 0) (aI (G_32.2.1 (F a 51))) 90 0 := by
  intro h
  exact absurd h (by decide)
theorem v_X11_leans_58_26 {F : Nat → Nat → Nat} (a : Nat) (G : XG) (G_32 : XG)
    (hR : RV (G.2.1 (F a 10)))
    (c_G_32_F_a_10 : G_32.2.1 (F a 10) = G.2.1 (F a 10)) :
    RV (G_32.2.1 (F a 10)) := by simp only [c_G_32_F_a_10]; assumption
theorem v_X11_leans_58_27 {F : Nat → Nat → Nat} (a : Nat) (G : XG) (G_32 : XG)
    (hM : RM (G.2.1 (F a 1)) (0))
    (c_G_32_F_a_1 : G_32.2.1 (F a 1) = G.2.1 (F a 1)) :
    RM (G_32.2.1 (F a 1)) (0) := by simp only [c_G_32_F_a_1]; assumption
theorem v_X11_leans_62_28 {K : Nat → Nat} {F : Nat → Nat → Nat} (a : Nat) (G : XG) (l5_32 : Int32) (x58 : Int32) (p0 : Int32) (p1 : Int32) (x50 : Int32) (x55 : Int32) (x8 : Int32) (x18 : Int32) (p2 : Int32) (l4_32 : Int32) (N32 : Nat)
    (ha : K a = 13)
    (oq58 : (x58.toInt = 1 ∧ lnM (G.2.1 (F a 10)) (mw (G.2.1 (F a 1)) 0) 12 x50.toInt x55.toInt p0.toInt p1.toInt) ∨ (x58.toInt = 0 ∧ ¬ lnM (G.2.1 (F a 10)) (mw (G.2.1 (F a 1)) 0) 12 x50.toInt x55.toInt p0.toInt p1.toInt))
    (z5 : ¬ (0 ≤ p0.toInt ∧ p0.toInt < 3 ∧ 0 ≤ p1.toInt ∧ p1.toInt < 30) → (cel (mw (G.2.1 (F a 1)) 0) (p0.toInt) (p1.toInt) 0) = -2000)
    (t8 : (x8.toInt = 1 ∧ (cel (mw (G.2.1 (F a 1)) 0) (p0.toInt) (p1.toInt) 0) ≠ -2000) ∨ (x8.toInt = 0 ∧ (cel (mw (G.2.1 (F a 1)) 0) (p0.toInt) (p1.toInt) 0) = -2000))
    (c11 : ¬ (x8.toInt = 0))
    (t18 : (x18.toInt = 1 ∧ (0 : Int) ≤ p2.toInt ∧ p2.toInt ≤ (1 : Int)) ∨ (x18.toInt = 0 ∧ (p2.toInt < (0 : Int) ∨ (1 : Int) < p2.toInt)))
    (c21 : x18.toInt ≠ 0)
    (z29 : (bsI (lnI (G.2.1 (F a 10)) (mw (G.2.1 (F a 1)) 0) p0.toInt p1.toInt) 0) = 0)
    (I32_0 : 0 ≤ l5_32.toInt ∧ l5_32.toInt ≤ 90)
    (I32_1 : l4_32.toInt = (bsI (lnI (G.2.1 (F a 10)) (mw (G.2.1 (F a 1)) 0) p0.toInt p1.toInt) (l5_32.toInt)))
    (I32_2 : 0 ≤ l4_32.toInt ∧ l4_32.toInt ≤ l5_32.toInt)
    (hm32 : 2147483648 - l5_32.toInt < (((N32) + 1 : Nat) : Int))
    (c36 : ¬ ((90 : Int) ≤ l5_32.toInt))
    (t50 : 0 ≤ l5_32.toInt → x50.toInt = l5_32.toInt / (30 : Int))
    (t55 : 0 ≤ l5_32.toInt → x55.toInt = l5_32.toInt % (30 : Int)) :
    (x58.toInt = 1 → (lnI (G.2.1 (F a 10)) (mw (G.2.1 (F a 1)) 0) p0.toInt p1.toInt (l5_32.toInt)) = 1) ∧ (x58.toInt = 0 → (lnI (G.2.1 (F a 10)) (mw (G.2.1 (F a 1)) 0) p0.toInt p1.toInt (l5_32.toInt)) = 0) := by
  have e50 : x50.toInt = l5_32.toInt / 30 := by omega
  have e55 : x55.toInt = l5_32.toInt % 30 := by omega
  rw [e50, e55] at oq58
  rcases oq58 with ⟨a1, a2⟩ | ⟨a1, a2⟩
  · exact ⟨fun _ => lnI_y a2, fun h => absurd (a1.symm.trans h) (by decide)⟩
  · exact ⟨fun h => absurd (a1.symm.trans h) (by decide), fun _ => lnI_n a2⟩
theorem v_X11_leans_85_29 {K : Nat → Nat} {F : Nat → Nat → Nat} (a : Nat) (G : XG) (G_32 : XG) (G61 : XG) (l5_32 : Int32) (x58 : Int32) (p0 : Int32) (p1 : Int32) (x50 : Int32) (x55 : Int32) (l4_32 : Int32) (x8 : Int32) (x18 : Int32) (p2 : Int32) (N32 : Nat)
    (ha : K a = 13)
    (hG61 : G61 = cput G_32 (F a 51) l5_32.toNatClampNeg x58)
    (ps : ∀ z : Int, 0 ≤ z → z < l5_32.toInt → ((aI (G_32.2.1 (F a 51))) z = 1 ∧ lnM (G.2.1 (F a 10)) (mw (G.2.1 (F a 1)) 0) 12 (z / 30) (z % 30) p0.toInt p1.toInt) ∨ ((aI (G_32.2.1 (F a 51))) z = 0 ∧ ¬ lnM (G.2.1 (F a 10)) (mw (G.2.1 (F a 1)) 0) 12 (z / 30) (z % 30) p0.toInt p1.toInt))
    (oq58 : (x58.toInt = 1 ∧ lnM (G.2.1 (F a 10)) (mw (G.2.1 (F a 1)) 0) 12 x50.toInt x55.toInt p0.toInt p1.toInt) ∨ (x58.toInt = 0 ∧ ¬ lnM (G.2.1 (F a 10)) (mw (G.2.1 (F a 1)) 0) 12 x50.toInt x55.toInt p0.toInt p1.toInt))
    (z5 : ¬ (0 ≤ p0.toInt ∧ p0.toInt < 3 ∧ 0 ≤ p1.toInt ∧ p1.toInt < 30) → (cel (mw (G.2.1 (F a 1)) 0) (p0.toInt) (p1.toInt) 0) = -2000)
    (t8 : (x8.toInt = 1 ∧ (cel (mw (G.2.1 (F a 1)) 0) (p0.toInt) (p1.toInt) 0) ≠ -2000) ∨ (x8.toInt = 0 ∧ (cel (mw (G.2.1 (F a 1)) 0) (p0.toInt) (p1.toInt) 0) = -2000))
    (c11 : ¬ (x8.toInt = 0))
    (t18 : (x18.toInt = 1 ∧ (0 : Int) ≤ p2.toInt ∧ p2.toInt ≤ (1 : Int)) ∨ (x18.toInt = 0 ∧ (p2.toInt < (0 : Int) ∨ (1 : Int) < p2.toInt)))
    (c21 : x18.toInt ≠ 0)
    (z29 : (bsI (lnI (G.2.1 (F a 10)) (mw (G.2.1 (F a 1)) 0) p0.toInt p1.toInt) 0) = 0)
    (I32_0 : 0 ≤ l5_32.toInt ∧ l5_32.toInt ≤ 90)
    (I32_1 : l4_32.toInt = (bsI (lnI (G.2.1 (F a 10)) (mw (G.2.1 (F a 1)) 0) p0.toInt p1.toInt) (l5_32.toInt)))
    (I32_2 : 0 ≤ l4_32.toInt ∧ l4_32.toInt ≤ l5_32.toInt)
    (hm32 : 2147483648 - l5_32.toInt < (((N32) + 1 : Nat) : Int))
    (c36 : ¬ ((90 : Int) ≤ l5_32.toInt))
    (t50 : 0 ≤ l5_32.toInt → x50.toInt = l5_32.toInt / (30 : Int))
    (t55 : 0 ≤ l5_32.toInt → x55.toInt = l5_32.toInt % (30 : Int))
    (lni62 : (x58.toInt = 1 → (lnI (G.2.1 (F a 10)) (mw (G.2.1 (F a 1)) 0) p0.toInt p1.toInt (l5_32.toInt)) = 1) ∧ (x58.toInt = 0 → (lnI (G.2.1 (F a 10)) (mw (G.2.1 (F a 1)) 0) p0.toInt p1.toInt (l5_32.toInt)) = 0))
    (z62 : (bsI (lnI (G.2.1 (F a 10)) (mw (G.2.1 (F a 1)) 0) p0.toInt p1.toInt) (l5_32.toInt + 1)) = (bsI (lnI (G.2.1 (F a 10)) (mw (G.2.1 (F a 1)) 0) p0.toInt p1.toInt) (l5_32.toInt)) + (lnI (G.2.1 (F a 10)) (mw (G.2.1 (F a 1)) 0) p0.toInt p1.toInt (l5_32.toInt)))
    (hc70 : (l5_32.toInt = l5_32.toInt → (aI (G61.2.1 (F a 51)) (l5_32.toInt)) = x58.toInt) ∧ (l5_32.toInt ≠ l5_32.toInt → (aI (G61.2.1 (F a 51)) (l5_32.toInt)) = (aI (G_32.2.1 (F a 51)) (l5_32.toInt))))
    (f33 : (aI (G61.2.1 (F a 51)) (l5_32.toInt)) = 0 ∨ (aI (G61.2.1 (F a 51)) (l5_32.toInt)) = 1)
    (c71 : (aI (G61.2.1 (F a 51)) (l5_32.toInt)) = 0) :
    ∀ z : Int, 0 ≤ z → z < (l5_32.toInt + 1) → ((aI (G61.2.1 (F a 51))) z = 1 ∧ lnM (G.2.1 (F a 10)) (mw (G.2.1 (F a 1)) 0) 12 (z / 30) (z % 30) p0.toInt p1.toInt) ∨ ((aI (G61.2.1 (F a 51))) z = 0 ∧ ¬ lnM (G.2.1 (F a 10)) (mw (G.2.1 (F a 1)) 0) 12 (z / 30) (z % 30) p0.toInt p1.toInt) := by
  have e50 : x50.toInt = l5_32.toInt / 30 := by omega
  have e55 : x55.toInt = l5_32.toInt % 30 := by omega
  rw [e50, e55] at oq58
  intro z z0 z1
  rw [aI_pu hG61 rfl rfl rfl (by omega) z z0]
  by_cases e : z = l5_32.toInt
  · rw [if_pos e, e]; exact oq58
  · rw [if_neg e]; exact ps z z0 (by omega)
theorem v_X11_leans_85_30 {K : Nat → Nat} {F : Nat → Nat → Nat} (a : Nat) (G : XG) (G_32 : XG) (G61 : XG) (l5_32 : Int32) (x58 : Int32) (p0 : Int32) (p1 : Int32) (x50 : Int32) (x55 : Int32) (l4_32 : Int32) (x8 : Int32) (x18 : Int32) (p2 : Int32) (N32 : Nat)
    (ha : K a = 13)
    (hG61 : G61 = cput G_32 (F a 51) l5_32.toNatClampNeg x58)
    (ps : ∀ z : Int, 0 ≤ z → z < l5_32.toInt → ((aI (G_32.2.1 (F a 51))) z = 1 ∧ lnM (G.2.1 (F a 10)) (mw (G.2.1 (F a 1)) 0) 12 (z / 30) (z % 30) p0.toInt p1.toInt) ∨ ((aI (G_32.2.1 (F a 51))) z = 0 ∧ ¬ lnM (G.2.1 (F a 10)) (mw (G.2.1 (F a 1)) 0) 12 (z / 30) (z % 30) p0.toInt p1.toInt))
    (oq58 : (x58.toInt = 1 ∧ lnM (G.2.1 (F a 10)) (mw (G.2.1 (F a 1)) 0) 12 x50.toInt x55.toInt p0.toInt p1.toInt) ∨ (x58.toInt = 0 ∧ ¬ lnM (G.2.1 (F a 10)) (mw (G.2.1 (F a 1)) 0) 12 x50.toInt x55.toInt p0.toInt p1.toInt))
    (z5 : ¬ (0 ≤ p0.toInt ∧ p0.toInt < 3 ∧ 0 ≤ p1.toInt ∧ p1.toInt < 30) → (cel (mw (G.2.1 (F a 1)) 0) (p0.toInt) (p1.toInt) 0) = -2000)
    (t8 : (x8.toInt = 1 ∧ (cel (mw (G.2.1 (F a 1)) 0) (p0.toInt) (p1.toInt) 0) ≠ -2000) ∨ (x8.toInt = 0 ∧ (cel (mw (G.2.1 (F a 1)) 0) (p0.toInt) (p1.toInt) 0) = -2000))
    (c11 : ¬ (x8.toInt = 0))
    (t18 : (x18.toInt = 1 ∧ (0 : Int) ≤ p2.toInt ∧ p2.toInt ≤ (1 : Int)) ∨ (x18.toInt = 0 ∧ (p2.toInt < (0 : Int) ∨ (1 : Int) < p2.toInt)))
    (c21 : x18.toInt ≠ 0)
    (z29 : (bsI (lnI (G.2.1 (F a 10)) (mw (G.2.1 (F a 1)) 0) p0.toInt p1.toInt) 0) = 0)
    (I32_0 : 0 ≤ l5_32.toInt ∧ l5_32.toInt ≤ 90)
    (I32_1 : l4_32.toInt = (bsI (lnI (G.2.1 (F a 10)) (mw (G.2.1 (F a 1)) 0) p0.toInt p1.toInt) (l5_32.toInt)))
    (I32_2 : 0 ≤ l4_32.toInt ∧ l4_32.toInt ≤ l5_32.toInt)
    (hm32 : 2147483648 - l5_32.toInt < (((N32) + 1 : Nat) : Int))
    (c36 : ¬ ((90 : Int) ≤ l5_32.toInt))
    (t50 : 0 ≤ l5_32.toInt → x50.toInt = l5_32.toInt / (30 : Int))
    (t55 : 0 ≤ l5_32.toInt → x55.toInt = l5_32.toInt % (30 : Int))
    (lni62 : (x58.toInt = 1 → (lnI (G.2.1 (F a 10)) (mw (G.2.1 (F a 1)) 0) p0.toInt p1.toInt (l5_32.toInt)) = 1) ∧ (x58.toInt = 0 → (lnI (G.2.1 (F a 10)) (mw (G.2.1 (F a 1)) 0) p0.toInt p1.toInt (l5_32.toInt)) = 0))
    (z62 : (bsI (lnI (G.2.1 (F a 10)) (mw (G.2.1 (F a 1)) 0) p0.toInt p1.toInt) (l5_32.toInt + 1)) = (bsI (lnI (G.2.1 (F a 10)) (mw (G.2.1 (F a 1)) 0) p0.toInt p1.toInt) (l5_32.toInt)) + (lnI (G.2.1 (F a 10)) (mw (G.2.1 (F a 1)) 0) p0.toInt p1.toInt (l5_32.toInt)))
    (hc70 : (l5_32.toInt = l5_32.toInt → (aI (G61.2.1 (F a 51)) (l5_32.toInt)) = x58.toInt) ∧ (l5_32.toInt ≠ l5_32.toInt → (aI (G61.2.1 (F a 51)) (l5_32.toInt)) = (aI (G_32.2.1 (F a 51)) (l5_32.toInt))))
    (f33 : (aI (G61.2.1 (F a 51)) (l5_32.toInt)) = 0 ∨ (aI (G61.2.1 (F a 51)) (l5_32.toInt)) = 1)
    (c71 : ¬ ((aI (G61.2.1 (F a 51)) (l5_32.toInt)) = 0)) :
    ∀ z : Int, 0 ≤ z → z < (l5_32.toInt + 1) → ((aI (G61.2.1 (F a 51))) z = 1 ∧ lnM (G.2.1 (F a 10)) (mw (G.2.1 (F a 1)) 0) 12 (z / 30) (z % 30) p0.toInt p1.toInt) ∨ ((aI (G61.2.1 (F a 51))) z = 0 ∧ ¬ lnM (G.2.1 (F a 10)) (mw (G.2.1 (F a 1)) 0) 12 (z / 30) (z % 30) p0.toInt p1.toInt) := by
  have e50 : x50.toInt = l5_32.toInt / 30 := by omega
  have e55 : x55.toInt = l5_32.toInt % 30 := by omega
  rw [e50, e55] at oq58
  intro z z0 z1
  rw [aI_pu hG61 rfl rfl rfl (by omega) z z0]
  by_cases e : z = l5_32.toInt
  · rw [if_pos e, e]; exact oq58
  · rw [if_neg e]; exact ps z z0 (by omega)
theorem v_X11_leans_30_31 {K : Nat → Nat} {F : Nat → Nat → Nat} (a : Nat) (G : XG) (p0 : Int32) (p1 : Int32) (x8 : Int32) (x18 : Int32) (p2 : Int32)
    (ha : K a = 13)
    (z5 : ¬ (0 ≤ p0.toInt ∧ p0.toInt < 3 ∧ 0 ≤ p1.toInt ∧ p1.toInt < 30) → (cel (mw (G.2.1 (F a 1)) 0) (p0.toInt) (p1.toInt) 0) = -2000)
    (t8 : (x8.toInt = 1 ∧ (cel (mw (G.2.1 (F a 1)) 0) (p0.toInt) (p1.toInt) 0) ≠ -2000) ∨ (x8.toInt = 0 ∧ (cel (mw (G.2.1 (F a 1)) 0) (p0.toInt) (p1.toInt) 0) = -2000))
    (c11 : ¬ (x8.toInt = 0))
    (t18 : (x18.toInt = 1 ∧ (0 : Int) ≤ p2.toInt ∧ p2.toInt ≤ (1 : Int)) ∨ (x18.toInt = 0 ∧ (p2.toInt < (0 : Int) ∨ (1 : Int) < p2.toInt)))
    (c21 : x18.toInt ≠ 0)
    (z29 : (bsI (lnI (G.2.1 (F a 10)) (mw (G.2.1 (F a 1)) 0) p0.toInt p1.toInt) 0) = 0) :
    ∀ z : Int, 0 ≤ z → z < (0 : Int) → ((aI (G.2.1 (F a 51))) z = 1 ∧ lnM (G.2.1 (F a 10)) (mw (G.2.1 (F a 1)) 0) 12 (z / 30) (z % 30) p0.toInt p1.toInt) ∨ ((aI (G.2.1 (F a 51))) z = 0 ∧ ¬ lnM (G.2.1 (F a 10)) (mw (G.2.1 (F a 1)) 0) 12 (z / 30) (z % 30) p0.toInt p1.toInt) := by
  intro z z0 z1
  exact absurd z0 (by omega)
theorem v_X11_leans_25_32 {K : Nat → Nat} {F : Nat → Nat → Nat} (a : Nat) (G : XG) (p0 : Int32) (p1 : Int32) (x8 : Int32) (x18 : Int32) (p2 : Int32)
    (ha : K a = 13)
    (z5 : ¬ (0 ≤ p0.toInt ∧ p0.toInt < 3 ∧ 0 ≤ p1.toInt ∧ p1.toInt < 30) → (cel (mw (G.2.1 (F a 1)) 0) (p0.toInt) (p1.toInt) 0) = -2000)
    (t8 : (x8.toInt = 1 ∧ (cel (mw (G.2.1 (F a 1)) 0) (p0.toInt) (p1.toInt) 0) ≠ -2000) ∨ (x8.toInt = 0 ∧ (cel (mw (G.2.1 (F a 1)) 0) (p0.toInt) (p1.toInt) 0) = -2000))
    (c11 : ¬ (x8.toInt = 0))
    (t18 : (x18.toInt = 1 ∧ (0 : Int) ≤ p2.toInt ∧ p2.toInt ≤ (1 : Int)) ∨ (x18.toInt = 0 ∧ (p2.toInt < (0 : Int) ∨ (1 : Int) < p2.toInt)))
    (c21 : ¬ (x18.toInt ≠ 0)) :
    (¬ (cel (mw (G.2.1 (F a 1)) 0) p0.toInt p1.toInt 0 ≠ -2000 ∧ 0 ≤ p2.toInt ∧ p2.toInt ≤ 1) ∧ (-1 : Int) = -1) ∨ ((cel (mw (G.2.1 (F a 1)) 0) p0.toInt p1.toInt 0 ≠ -2000 ∧ 0 ≤ p2.toInt ∧ p2.toInt ≤ 1) ∧ ((p2.toInt = 0 ∧ (-1 : Int) = bsI (lnI (G.2.1 (F a 10)) (mw (G.2.1 (F a 1)) 0) p0.toInt p1.toInt) 90) ∨ (p2.toInt = 1 ∧ ∃ g : Int → Int, (-1 : Int) = bsI (lnK g (30 * p0.toInt + p1.toInt)) 90 ∧ ∀ z : Int, 0 ≤ z → z < 90 → (g z = 1 ↔ RC1 (lnM (G.2.1 (F a 10)) (mw (G.2.1 (F a 1)) 0) 12) p0.toInt p1.toInt (z / 30) (z % 30))))) := by
  exact Or.inl ⟨by omega, rfl⟩
