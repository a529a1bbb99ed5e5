theorem z_X3_clear_1 (a0 : Int) (h0 : 0 ≤ a0 ∧ a0 ≤ 3) : ¬ (2147483648 - a0 < ((0 : Nat) : Int)) := by omega
theorem z_X3_clear_2 (a0 : Int) (h0 : 0 ≤ a0 ∧ a0 ≤ 3) (h1 : ¬ ((3 : Int) ≤ a0)) : 0 ≤ a0 ∧ a0 < ((3 : Nat) : Int) := by omega
theorem z_X3_clear_3 (a0 : Int) (a1 : Int) (h0 : 0 ≤ a0 ∧ a0 ≤ 3) (h1 : a1 = (a0 + 1) ∨ (a0 + 1) < -2147483648 ∨ 2147483648 ≤ (a0 + 1)) : a1 = (a0 + 1) := by omega
theorem z_X3_clear_4 (a0 : Int) (h0 : 0 ≤ a0 ∧ a0 ≤ 3) (h1 : ¬ ((3 : Int) ≤ a0)) : 0 ≤ (a0 + 1) ∧ (a0 + 1) ≤ 3 := by omega
theorem z_X3_clear_5 (a0 : Int) (h0 : 0 ≤ a0 ∧ a0 ≤ 3) : (0 : Int) ≤ (a0 + 1) := by omega
theorem z_X3_clear_6 (a0 : Int) (a1 : Nat) (h0 : 2147483648 - a0 < ((a1 + 1 : Nat) : Int)) : 2147483648 - (a0 + 1) < ((a1 : Nat) : Int) := by omega
abbrev rm_X3_clear : Room := { frames := 0, cells := 0, slots := 0, locals := 0 }
set_option maxHeartbeats 4000000 in
set_option maxRecDepth 100000 in
theorem c_X3_clear (l : Launch) (E : XE) (K : Nat → Nat) (F : Nat → Nat → Nat) (G : XG) (a : Nat) (ha : K a = 5) : Met l yX3_clear (xw yX3_clear cX3_clear 2 none) rm_X3_clear (va_Pc [.ref a] (XP E K F G)) (XQv E (fun (u : XG) => XFr [(a, 3)] [F a 0] [] G u ∧ (((u.1 a 3).toInt) = 0) ∧ (∀ t : Int, 0 ≤ t → t < 3 → aI (u.2.1 (F a 0)) t = 0)) (fun u H => TW E K F u H)) 0 0 (xA E) := by
  refine x_enter (by decide) (Nat.le_of_ble_eq_true rfl) ?_
  intro p e s m args below meth c Q S hr hlk hnm hQ hP ls hl
  obtain ⟨hz, hK, hT⟩ := hP
  obtain ⟨hx, hb, -, -, -⟩ := id S
  obtain ⟨H, hT, hS, hgo⟩ : ∃ H : Heap, TW E K F G H ∧ va_S (xA E) s.heap H [] ∧ H = s.heap := ⟨_, hT, va_S.rf, rfl⟩
  rw [← hgo]
  have hl : lv_has ls 2 [(0, .ref a)] := hl
  obtain ⟨hk9999, hj9999⟩ := fkX3_0 hT ha
  refine lv_aload_n hx hb dX3_clear_0 rfl (lv_at hl 0 rfl) ?_
  refine lv_iconst (v := 0) hx hb dX3_clear_1 (by decide) ?_
  refine pX3_3 (v := 0) S hK hT hS ha kf_X3_28 dX3_clear_2 (fun H locs hT hS => ?_)
  obtain ⟨G2, hG2⟩ : ∃ GG : XG, GG = dput G a 3 0 := ⟨_, rfl⟩
  rw [← hG2] at hT
  refine lv_iconst (v := 0) hx hb dX3_clear_5 (by decide) ?_
  refine lv_istore_n (lv' := [(1, .int 0), (0, .ref a)]) hx hb dX3_clear_6 rfl hl (by decide) rfl (fun ls hl => ?_)
  have L7 : ∀ (N7 : Nat) (l1_7 : Int32) (G_7 : XG) (H : Heap) (locs : List Loc) (ls : Array Slot), XFr [] [F a 0] [] G2 G_7 → (∀ t : Int, 0 ≤ t → t < l1_7.toInt → aI (G_7.2.1 (F a 0)) t = 0) → 0 ≤ l1_7.toInt ∧ l1_7.toInt ≤ 3 → (0 : Int) ≤ l1_7.toInt → 2147483648 - l1_7.toInt < ((N7 : Nat) : Int) → TW E K F G_7 H → va_S (xA E) s.heap H locs → lv_has ls 2 [(0, .ref a), (1, .int l1_7)] → W p l e rm_X3_clear s m args below meth c H locs 0 0 Q (F0 m 7 ls []) := by
    intro N7
    induction N7 with
    | zero =>
      intro l1_7 G_7 H locs ls hF_7 pz I7_0 I7_1 hm7
      exact absurd hm7 (z_X3_clear_1 l1_7.toInt I7_0)
    | succ N7 ih7 =>
      intro l1_7 G_7 H locs ls hF_7 pz I7_0 I7_1 hm7 hT hS hl
      refine lv_iload_n hx hb dX3_clear_7 rfl (lv_at hl 1 rfl) ?_
      refine lv_iconst (v := 3) hx hb dX3_clear_8 (by decide) ?_
      refine xi_cge (tgt := 25) hx hb (rfl : Int32.toInt l1_7 = l1_7.toInt) ((by decide) : Int32.toInt 3 = (3 : Int)) dX3_clear_9 (by decide) (fun c9 => ?_) (fun c9 => ?_)
      · exact x_rv hx hb hr hlk hQ (Nat.le_of_ble_eq_true rfl) (Nat.le_of_ble_eq_true rfl) hS dX3_clear_25 G_7 ⟨(XFr.call (by rw [hG2]; exact XFr.dput XFr.rf (List.mem_of_getElem? (i := 0) rfl)) hF_7 xm0 (xm1 0 rfl xm0) xm0), (by rw [(show (G_7.1 a 3).toInt = (0 : Int) from (congrArg Int32.toInt ((hF_7.1 _ _ xn0).trans (ld_at hG2))).trans ((by decide) : Int32.toInt 0 = (0 : Int)))] <;> exact (by decide)), (v_X3_clear_25_1 (K := K) (F := F) a G_7 l1_7 N7 ha pz I7_0 I7_1 hm7 c9)⟩ hT
      · refine lv_aload_n hx hb dX3_clear_12 rfl (lv_at hl 0 rfl) ?_
        refine gX3_0 S hK hT ha kf_X3_9 dX3_clear_13 (fun _ _ => ?_)
        refine lv_iload_n hx hb dX3_clear_16 rfl (lv_at hl 1 rfl) ?_
        refine lv_iconst (v := 0) hx hb dX3_clear_17 (by decide) ?_
        refine as_0 (x := 0) S hK hT hS hk9999 ar_21 aw_21 (by decide) (z_X3_clear_2 l1_7.toInt I7_0 c9) dX3_clear_18 (fun H locs hT hS => ?_)
        obtain ⟨G18, hG18⟩ : ∃ GG : XG, GG = cput G_7 (F a 0) l1_7.toNatClampNeg 0 := ⟨_, rfl⟩
        rw [← hG18] at hT
        refine xi_iinc (n := 1) (lv' := fun z9 => [(1, .int z9), (0, .ref a)]) (k := 1) hx hb (rfl : Int32.toInt l1_7 = l1_7.toInt) (by decide) dX3_clear_19 hl rfl (by decide) (fun _ => rfl) (fun x19 ls t19 hl => ?_)
        have e19 : x19.toInt = (l1_7.toInt + 1) := (z_X3_clear_3 l1_7.toInt x19.toInt I7_0 t19)
        have hl : lv_has ls 2 [(1, .int x19), (0, .ref a)] := hl
        refine lv_goto (tgt := 7) hx hb dX3_clear_22 (by decide) ?_
        exact ih7 x19 G18 _ _ _ (by rw [hG18]; exact XFr.cput (XFr.call XFr.rf hF_7 xm0 (xm1 0 rfl xm0) xm0) (List.mem_of_getElem? (i := 0) rfl)) (by rw [(e19 : Int32.toInt x19 = (l1_7.toInt + 1))] <;> exact (v_X3_clear_22_2 (K := K) (F := F) a G_7 G18 l1_7 N7 ha hG18 pz I7_0 I7_1 hm7 c9)) (by rw [(e19 : Int32.toInt x19 = (l1_7.toInt + 1))] <;> exact (z_X3_clear_4 l1_7.toInt I7_0 c9)) (by rw [(e19 : Int32.toInt x19 = (l1_7.toInt + 1))] <;> exact (z_X3_clear_5 l1_7.toInt I7_0)) (by rw [(e19 : Int32.toInt x19 = (l1_7.toInt + 1))] <;> exact (z_X3_clear_6 l1_7.toInt N7 hm7)) hT hS (lv_sub hl [1, 0] rfl)
  exact L7 4294967297 0 G2 _ _ _ XFr.rf (v_X3_clear_6_3 (K := K) (F := F) a G2 ha) (by decide) (by decide) (by decide) hT hS (lv_sub hl [1, 0] rfl)

theorem z_X3_reach_1 (a0 : Int) (a1 : Int) (h0 : (a1 = 1 ∧ 0 ≤ a0 ∧ a0 < 3) ∨ (a1 = 0 ∧ (a0 < 0 ∨ 3 ≤ a0))) (h1 : ¬ (a1 = 0)) : 0 ≤ a0 ∧ a0 < ((3 : Nat) : Int) := by omega
theorem z_X3_reach_2 (a0 : Int) (a1 : Int) (h0 : (a1 = 1 ∧ 0 ≤ a0 ∧ a0 < 30) ∨ (a1 = 0 ∧ (a0 < 0 ∨ 30 ≤ a0))) (h1 : ¬ (a1 = 0)) : 0 ≤ a0 ∧ a0 < 32 := by omega
theorem z_X3_reach_5 (a0 : Int) (h0 : ¬ (a0 < 0)) (h1 : ¬ ((90 : Int) ≤ a0)) : 0 ≤ a0 ∧ a0 < ((90 : Nat) : Int) := by omega
theorem z_X3_reach_7 (a0 : Int) (a1 : Int) (h0 : ¬ (a1 < 0)) (h1 : ¬ ((90 : Int) ≤ a1)) (h2 : a0 = (a1 + (1 : Int)) ∨ (a1 + (1 : Int)) < -2147483648 ∨ 2147483648 ≤ (a1 + (1 : Int))) : a0 = (a1 + (1 : Int)) := by omega
abbrev rm_X3_reach : Room := { frames := 1, cells := 0, slots := 0, locals := 20 }
set_option maxHeartbeats 4000000 in
set_option maxRecDepth 100000 in
theorem c_X3_reach (l : Launch) (E : XE) (K : Nat → Nat) (F : Nat → Nat → Nat) (G : XG) (a : Nat) (p0 : Int32) (p1 : Int32) (ha : K a = 5) (li : LIv (aI (G.2.1 (F a 0))) (aI (G.2.1 (F a 1))) (aI (G.2.1 (F a 2))) ((G.1 a 3).toInt)) : Met l yX3_reach (xw yX3_reach cX3_reach 3 none) rm_X3_reach (va_Pc [.ref a, .int p0, .int p1] (XP E K F G)) (XQv E (fun (u : XG) => XFr [(a, 3)] [F a 0, F a 1, F a 2] [] G u ∧ (LGo (aI (G.2.1 (F a 0))) (aI (G.2.1 (F a 1))) (aI (G.2.1 (F a 2))) ((G.1 a 3).toInt) (aI (u.2.1 (F a 0))) (aI (u.2.1 (F a 1))) (aI (u.2.1 (F a 2))) ((u.1 a 3).toInt) (fun u9 k9 => u9 = p0.toInt ∧ k9 = p1.toInt))) (fun u H => TW E K F u H)) 0 0 (xA E) := by
  refine x_enter (by decide) (Nat.le_of_ble_eq_true rfl) ?_
  intro p e s m args below meth c Q S hr hlk hnm hQ hP ls hl
  obtain ⟨hz, hK, hT⟩ := hP
  obtain ⟨hx, hb, -, -, -⟩ := id S
  obtain ⟨H, hT, hS, hgo⟩ : ∃ H : Heap, TW E K F G H ∧ va_S (xA E) s.heap H [] ∧ H = s.heap := ⟨_, hT, va_S.rf, rfl⟩
  rw [← hgo]
  have hl : lv_has ls 3 [(0, .ref a), (1, .int p0), (2, .int p1)] := hl
  obtain ⟨hk9999, hj9999⟩ := fkX3_0 hT ha
  obtain ⟨hk9999a, hj9999a⟩ := fkX3_1 hT ha
  obtain ⟨hk9999b, hj9999b⟩ := fkX3_2 hT ha
  refine lv_iload_n hx hb dX3_reach_0 rfl (lv_at hl 1 rfl) ?_
  refine x_clp (x_runSN (As := [.int p0]) (rest := []) S (c_X10_isTable l E K F G H p0) ms_X10_isTable (by decide +kernel) rfl rfl ⟨Nat.le_of_ble_eq_true rfl, Nat.le_of_ble_eq_true rfl⟩ hK (fun _ => XPh.blind) (fun U hU hW => XPh.at hK hz hS hT hU hW) rfl hl.1 (Nat.le_of_ble_eq_true rfl) dX3_reach_1 ⟨Nat.le_of_ble_eq_true rfl, Nat.le_of_ble_eq_true rfl⟩) hS ?_
  rintro _ _ locs ⟨x1, rfl, b1, t1⟩ hS
  have t1 : (x1.toInt = 1 ∧ 0 ≤ p0.toInt ∧ p0.toInt < 3) ∨ (x1.toInt = 0 ∧ (p0.toInt < 0 ∨ 3 ≤ p0.toInt)) := t1
  refine xi_zeq (tgt := 27) hx hb (rfl : Int32.toInt x1 = x1.toInt) dX3_reach_4 (by decide) (fun c4 => ?_) (fun c4 => ?_)
  · exact x_rv hx hb hr hlk hQ (Nat.le_of_ble_eq_true rfl) (Nat.le_of_ble_eq_true rfl) hS dX3_reach_27 G ⟨XFr.rf, (v_X3_reach_27_1 (K := K) (F := F) a G x1 p0 p1 ha li t1 c4)⟩ hT
  · refine lv_iload_n hx hb dX3_reach_7 rfl (lv_at hl 2 rfl) ?_
    refine x_clp (x_runSN (As := [.int p1]) (rest := []) S (c_X10_isKey l E K F G H p1) ms_X10_isKey (by decide +kernel) rfl rfl ⟨Nat.le_of_ble_eq_true rfl, Nat.le_of_ble_eq_true rfl⟩ hK (fun _ => XPh.blind) (fun U hU hW => XPh.at hK hz hS hT hU hW) rfl hl.1 (Nat.le_of_ble_eq_true rfl) dX3_reach_8 ⟨Nat.le_of_ble_eq_true rfl, Nat.le_of_ble_eq_true rfl⟩) hS ?_
    rintro _ _ locs ⟨x8, rfl, b8, t8⟩ hS
    have t8 : (x8.toInt = 1 ∧ 0 ≤ p1.toInt ∧ p1.toInt < 30) ∨ (x8.toInt = 0 ∧ (p1.toInt < 0 ∨ 30 ≤ p1.toInt)) := t8
    refine xi_zeq (tgt := 27) hx hb (rfl : Int32.toInt x8 = x8.toInt) dX3_reach_11 (by decide) (fun c11 => ?_) (fun c11 => ?_)
    · exact x_rv hx hb hr hlk hQ (Nat.le_of_ble_eq_true rfl) (Nat.le_of_ble_eq_true rfl) hS dX3_reach_27 G ⟨XFr.rf, (v_X3_reach_27_2 (K := K) (F := F) a G x1 p0 x8 p1 ha li t1 c4 t8 c11)⟩ hT
    · refine lv_aload_n hx hb dX3_reach_14 rfl (lv_at hl 0 rfl) ?_
      refine gX3_0 S hK hT ha kf_X3_9 dX3_reach_15 (fun _ _ => ?_)
      refine lv_iload_n hx hb dX3_reach_18 rfl (lv_at hl 1 rfl) ?_
      refine al_0 S hK hT hk9999 ar_21 (by decide) (z_X3_reach_1 p0.toInt x1.toInt t1 c4) dX3_reach_19 (fun x19 hv19 o19 => ?_)
      have hv19 : x19.toInt = (aI (G.2.1 (F a 0)) (p0.toInt)) := hv19.trans (by rw [(rfl : Int32.toInt p0 = p0.toInt)])
      refine lv_iload_n hx hb dX3_reach_20 rfl (lv_at hl 2 rfl) ?_
      refine lv_ishr hx hb dX3_reach_21 (lv_topi (fun x21 he21 => ?_))
      refine lv_iconst (v := 1) hx hb dX3_reach_22 (by decide) ?_
      refine lv_iand hx hb dX3_reach_23 (lv_topi (fun x23 he23 => ?_))
      have hb23 : x23.toInt = (bI (aI (G.2.1 (F a 0)) (p0.toInt)) (p1.toInt)) := bI_and he21 he23 (hv19 : Int32.toInt x19 = (aI (G.2.1 (F a 0)) (p0.toInt))) (rfl : Int32.toInt p1 = p1.toInt) (z_X3_reach_2 p1.toInt x8.toInt t8 c11)
      have hb23a : x23.toInt = 0 ∨ x23.toInt = 1 := by rw [hb23]; exact bI01 _ _
      refine xi_zeq (tgt := 28) hx hb (rfl : Int32.toInt x23 = x23.toInt) dX3_reach_24 (by decide) (fun c24 => ?_) (fun c24 => ?_)
      · refine lv_aload_n hx hb dX3_reach_28 rfl (lv_at hl 0 rfl) ?_
        refine gX3_3 S hK hT ha kf_X3_28 dX3_reach_29 (v := (G.1 a 3)) rfl (?_)
        refine xi_zlt (tgt := 86) hx hb (rfl : Int32.toInt (G.1 a 3) = ((G.1 a 3).toInt)) dX3_reach_32 (by decide) (fun c32 => ?_) (fun c32 => ?_)
        · exact x_rv hx hb hr hlk hQ (Nat.le_of_ble_eq_true rfl) (Nat.le_of_ble_eq_true rfl) hS dX3_reach_86 G ⟨XFr.rf, (v_X3_reach_86_3 (K := K) (F := F) a G x19 p0 x21 p1 x23 x1 x8 ha li hv19 he21 he23 t1 c4 t8 c11 hb23 hb23a c24 c32)⟩ hT
        · refine lv_aload_n hx hb dX3_reach_35 rfl (lv_at hl 0 rfl) ?_
          refine gX3_3 S hK hT ha kf_X3_28 dX3_reach_36 (v := (G.1 a 3)) rfl (?_)
          refine lv_bipush (v := 90) hx hb dX3_reach_39 (by decide) ?_
          refine xi_cge (tgt := 86) hx hb (rfl : Int32.toInt (G.1 a 3) = ((G.1 a 3).toInt)) ((by decide) : Int32.toInt 90 = (90 : Int)) dX3_reach_41 (by decide) (fun c41 => ?_) (fun c41 => ?_)
          · exact x_rv hx hb hr hlk hQ (Nat.le_of_ble_eq_true rfl) (Nat.le_of_ble_eq_true rfl) hS dX3_reach_86 G ⟨XFr.rf, (v_X3_reach_86_4 (K := K) (F := F) a G x19 p0 x21 p1 x23 x1 x8 ha li hv19 he21 he23 t1 c4 t8 c11 hb23 hb23a c24 c32 c41)⟩ hT
          · refine lv_aload_n hx hb dX3_reach_44 rfl (lv_at hl 0 rfl) ?_
            refine gX3_0 S hK hT ha kf_X3_9 dX3_reach_45 (fun _ _ => ?_)
            refine lv_iload_n hx hb dX3_reach_48 rfl (lv_at hl 1 rfl) ?_
            refine lv_dup2_11 hx hb dX3_reach_49 rfl rfl ?_
            refine al_0 S hK hT hk9999 ar_21 (by decide) (z_X3_reach_1 p0.toInt x1.toInt t1 c4) dX3_reach_50 (fun x50 hv50 o50 => ?_)
            have hv50 : x50.toInt = (aI (G.2.1 (F a 0)) (p0.toInt)) := hv50.trans (by rw [(rfl : Int32.toInt p0 = p0.toInt)])
            refine lv_iconst (v := 1) hx hb dX3_reach_51 (by decide) ?_
            refine lv_iload_n hx hb dX3_reach_52 rfl (lv_at hl 2 rfl) ?_
            refine lv_ishl hx hb dX3_reach_53 (lv_topi (fun x53 he53 => ?_))
            refine lv_ior hx hb dX3_reach_54 (lv_topi (fun x54 he54 => ?_))
            refine as_0 (x := x54) S hK hT hS hk9999 ar_21 aw_21 (by decide) (z_X3_reach_1 p0.toInt x1.toInt t1 c4) dX3_reach_55 (fun H locs hT hS => ?_)
            obtain ⟨G55, hG55⟩ : ∃ GG : XG, GG = cput G (F a 0) p0.toNatClampNeg x54 := ⟨_, rfl⟩
            rw [← hG55] at hT
            refine lv_aload_n hx hb dX3_reach_56 rfl (lv_at hl 0 rfl) ?_
            refine gX3_1 S hK hT ha kf_X3_15 dX3_reach_57 (fun _ _ => ?_)
            refine lv_aload_n hx hb dX3_reach_60 rfl (lv_at hl 0 rfl) ?_
            refine gX3_3 S hK hT ha kf_X3_28 dX3_reach_61 (v := (G.1 a 3)) (lc_d hG55) (?_)
            refine lv_iload_n hx hb dX3_reach_64 rfl (lv_at hl 1 rfl) ?_
            refine as_0 (x := p0) S hK hT hS hk9999a ar_24 aw_24 (by decide) (z_X3_reach_5 ((G.1 a 3).toInt) c32 c41) dX3_reach_65 (fun H locs hT hS => ?_)
            obtain ⟨G65, hG65⟩ : ∃ GG : XG, GG = cput G55 (F a 1) (G.1 a 3).toNatClampNeg p0 := ⟨_, rfl⟩
            rw [← hG65] at hT
            refine lv_aload_n hx hb dX3_reach_66 rfl (lv_at hl 0 rfl) ?_
            refine gX3_2 S hK hT ha kf_X3_18 dX3_reach_67 (fun _ _ => ?_)
            refine lv_aload_n hx hb dX3_reach_70 rfl (lv_at hl 0 rfl) ?_
            refine gX3_3 S hK hT ha kf_X3_28 dX3_reach_71 (v := (G.1 a 3)) ((lc_d hG65).trans (lc_d hG55)) (?_)
            refine lv_iload_n hx hb dX3_reach_74 rfl (lv_at hl 2 rfl) ?_
            refine as_0 (x := p1) S hK hT hS hk9999b ar_24 aw_24 (by decide) (z_X3_reach_5 ((G.1 a 3).toInt) c32 c41) dX3_reach_75 (fun H locs hT hS => ?_)
            obtain ⟨G75, hG75⟩ : ∃ GG : XG, GG = cput G65 (F a 2) (G.1 a 3).toNatClampNeg p1 := ⟨_, rfl⟩
            rw [← hG75] at hT
            refine lv_aload_n hx hb dX3_reach_76 rfl (lv_at hl 0 rfl) ?_
            refine lv_dup hx hb dX3_reach_77 rfl ?_
            refine gX3_3 S hK hT ha kf_X3_28 dX3_reach_78 (v := (G.1 a 3)) ((lc_d hG75).trans ((lc_d hG65).trans (lc_d hG55))) (?_)
            refine lv_iconst (v := 1) hx hb dX3_reach_81 (by decide) ?_
            refine xi_iadd hx hb (rfl : Int32.toInt (G.1 a 3) = ((G.1 a 3).toInt)) ((by decide) : Int32.toInt 1 = (1 : Int)) dX3_reach_82 (fun x82 t82 => ?_)
            have e82 : x82.toInt = (((G.1 a 3).toInt) + (1 : Int)) := (z_X3_reach_7 x82.toInt ((G.1 a 3).toInt) c32 c41 t82)
            refine pX3_3 (v := x82) S hK hT hS ha kf_X3_28 dX3_reach_83 (fun H locs hT hS => ?_)
            obtain ⟨G83, hG83⟩ : ∃ GG : XG, GG = dput G75 a 3 x82 := ⟨_, rfl⟩
            rw [← hG83] at hT
            exact x_rv hx hb hr hlk hQ (Nat.le_of_ble_eq_true rfl) (Nat.le_of_ble_eq_true rfl) hS dX3_reach_86 G83 ⟨(by rw [hG83]; exact XFr.dput (by rw [hG75]; exact XFr.cput (by rw [hG65]; exact XFr.cput (by rw [hG55]; exact XFr.cput XFr.rf (List.mem_of_getElem? (i := 0) rfl)) (List.mem_of_getElem? (i := 1) rfl)) (List.mem_of_getElem? (i := 2) rfl)) (List.mem_of_getElem? (i := 0) rfl)), (v_X3_reach_86_5 (K := K) (F := F) a G55 G p0 x54 G65 G75 p1 G83 x82 x19 x21 x23 x50 x53 x1 x8 ha hG55 hG65 hG75 li hv19 he21 he23 hv50 he53 he54 e82 t1 c4 t8 c11 hb23 hb23a c24 c32 c41 (lc_c hG55 (xne_k hk9999a hk9999 (by decide))) ((lc_c hG65 (xne_j hj9999b hj9999a (by first | decide | omega))).trans (lc_c hG55 (xne_k hk9999b hk9999 (by decide)))) ((ld_c hG83).trans ((lc_c hG75 (xne_k hk9999 hk9999b (by decide))).trans (lc_c hG65 (xne_k hk9999 hk9999a (by decide))))) ((ld_c hG83).trans (lc_c hG75 (xne_j hj9999a hj9999b (by first | decide | omega)))) (ld_c hG83) (ld_at hG83))⟩ hT
      · exact x_rv hx hb hr hlk hQ (Nat.le_of_ble_eq_true rfl) (Nat.le_of_ble_eq_true rfl) hS dX3_reach_27 G ⟨XFr.rf, (v_X3_reach_27_6 (K := K) (F := F) a G x19 p0 x21 p1 x23 x1 x8 ha li hv19 he21 he23 t1 c4 t8 c11 hb23 hb23a c24)⟩ hT

theorem z_X3_reachFrom_1 (a0 : Int) (h0 : -2147483648 ≤ a0 ∧ a0 < 2147483648) : ¬ (2147483648 - a0 < ((0 : Nat) : Int)) := by omega
theorem z_X3_reachFrom_2 (a0 : Int) (a1 : Int) (a2 : Int) (h0 : 0 ≤ a2 ∧ a2 ≤ 12) (h1 : 0 ≤ a0 ∧ a0 ≤ a2) (h2 : a1 = (a0 + 1) ∨ (a0 + 1) < -2147483648 ∨ 2147483648 ≤ (a0 + 1)) : a1 = (a0 + 1) := by omega
theorem z_X3_reachFrom_3 (a0 : Int) (a1 : Int) (h0 : 0 ≤ a0 ∧ a0 ≤ a1) (h1 : ¬ (a1 ≤ a0)) : 0 ≤ (a0 + 1) ∧ (a0 + 1) ≤ a1 := by omega
theorem z_X3_reachFrom_5 (a0 : Int) (a1 : Int) (a2 : Int) (h0 : 0 ≤ a0 ∧ a0 < a2 ∧ a0 < 12) (h1 : a1 = (a0 + 1) ∨ (a0 + 1) < -2147483648 ∨ 2147483648 ≤ (a0 + 1)) : a1 = (a0 + 1) := by omega
theorem z_X3_reachFrom_8 (a0 : Int) (h0 : 0 ≤ a0 ∧ a0 ≤ 30) : ¬ (2147483648 - a0 < ((0 : Nat) : Int)) := by omega
theorem z_X3_reachFrom_12 (a0 : Int) (a1 : Int) (h0 : 0 ≤ a0 ∧ a0 ≤ 30) (h1 : a1 = (a0 + 1) ∨ (a0 + 1) < -2147483648 ∨ 2147483648 ≤ (a0 + 1)) : a1 = (a0 + 1) := by omega
theorem z_X3_reachFrom_13 (a0 : Int) (h0 : 0 ≤ a0 ∧ a0 ≤ 30) (h1 : ¬ ((30 : Int) ≤ a0)) : 0 ≤ (a0 + 1) ∧ (a0 + 1) ≤ 30 := by omega
theorem z_X3_reachFrom_14 (a0 : Int) (h0 : 0 ≤ a0 ∧ a0 ≤ 30) : (0 : Int) ≤ (a0 + 1) := by omega
theorem z_X3_reachFrom_23 (a0 : Int) (h0 : 0 ≤ a0 ∧ a0 ≤ 12) : 0 ≤ (0 : Int) ∧ (0 : Int) ≤ a0 := by omega
abbrev rm_X3_reachFrom : Room := { frames := 2, cells := 0, slots := 0, locals := 44 }
set_option maxHeartbeats 4000000 in
set_option maxRecDepth 100000 in
theorem c_X3_reachFrom (l : Launch) (E : XE) (K : Nat → Nat) (F : Nat → Nat → Nat) (G : XG) (a : Nat) (p0 : Nat) (p1 : Nat) (p2 : Int32) (p3 : Int32) (ha : K a = 5) (hp0 : K p0 = 8) (hp1 : K p1 = 2) (sb : 0 ≤ ((G.1 p1 2).toInt) ∧ ((G.1 p1 2).toInt) ≤ 12) (li : LIv (aI (G.2.1 (F a 0))) (aI (G.2.1 (F a 1))) (aI (G.2.1 (F a 2))) ((G.1 a 3).toInt)) : Met l yX3_reachFrom (xw yX3_reachFrom cX3_reachFrom 8 none) rm_X3_reachFrom (va_Pc [.ref a, .ref p0, .ref p1, .int p2, .int p3] (XP E K F G)) (XQv E (fun (u : XG) => XFr [(a, 3)] [F a 0, F a 1, F a 2] [] G u ∧ (LGo (aI (G.2.1 (F a 0))) (aI (G.2.1 (F a 1))) (aI (G.2.1 (F a 2))) ((G.1 a 3).toInt) (aI (u.2.1 (F a 0))) (aI (u.2.1 (F a 1))) (aI (u.2.1 (F a 2))) ((u.1 a 3).toInt) (fun u9 k9 => lnC G (G.2.2.1 (F p1 1)) (vw (G.2.1 (F p0 0))) ((G.1 p1 2).toInt) u9 k9 p2.toInt p3.toInt))) (fun u H => TW E K F u H)) 0 0 (xA E) := by
  refine x_enter (by decide) (Nat.le_of_ble_eq_true rfl) ?_
  intro p e s m args below meth c Q S hr hlk hnm hQ hP ls hl
  obtain ⟨hz, hK, hT⟩ := hP
  obtain ⟨hx, hb, -, -, -⟩ := id S
  obtain ⟨H, hT, hS, hgo⟩ : ∃ H : Heap, TW E K F G H ∧ va_S (xA E) s.heap H [] ∧ H = s.heap := ⟨_, hT, va_S.rf, rfl⟩
  rw [← hgo]
  have hl : lv_has ls 8 [(0, .ref a), (1, .ref p0), (2, .ref p1), (3, .int p2), (4, .int p3)] := hl
  obtain ⟨hk9999, hj9999⟩ := fkX3_0 hT ha
  obtain ⟨hk9999a, hj9999a⟩ := fkX3_1 hT ha
  obtain ⟨hk9999b, hj9999b⟩ := fkX3_2 hT ha
  obtain ⟨hk9999c, hj9999c⟩ := fkX0_1 hT hp1
  obtain ⟨hk9999d, hj9999d⟩ := fkX6_0 hT hp0
  refine lv_iconst (v := 0) hx hb dX3_reachFrom_0 (by decide) ?_
  refine lv_istore (lv' := [(5, .int 0), (0, .ref a), (1, .ref p0), (2, .ref p1), (3, .int p2), (4, .int p3)]) hx hb dX3_reachFrom_1 hl (by decide) rfl (fun ls hl => ?_)
  have L3 : ∀ (N3 : Nat) (l5_3 : Int32) (G_3 : XG) (H : Heap) (locs : List Loc) (ls : Array Slot), XFr [(a, 3)] [F a 0, F a 1, F a 2] [] G G_3 → LGo (aI (G.2.1 (F a 0))) (aI (G.2.1 (F a 1))) (aI (G.2.1 (F a 2))) ((G.1 a 3).toInt) (aI (G_3.2.1 (F a 0))) (aI (G_3.2.1 (F a 1))) (aI (G_3.2.1 (F a 2))) ((G_3.1 a 3).toInt) (fun u9 k9 => lnC G (G.2.2.1 (F p1 1)) (vw (G.2.1 (F p0 0))) l5_3.toInt u9 k9 p2.toInt p3.toInt) → 0 ≤ l5_3.toInt ∧ l5_3.toInt ≤ ((G.1 p1 2).toInt) → 2147483648 - l5_3.toInt < ((N3 : Nat) : Int) → TW E K F G_3 H → va_S (xA E) s.heap H locs → lv_has ls 8 [(0, .ref a), (1, .ref p0), (2, .ref p1), (3, .int p2), (4, .int p3), (5, .int l5_3)] → W p l e rm_X3_reachFrom s m args below meth c H locs 0 0 Q (F0 m 3 ls []) := by
    intro N3
    induction N3 with
    | zero =>
      intro l5_3 G_3 H locs ls hF_3 pl I3_0 hm3
      exact absurd hm3 (z_X3_reachFrom_1 l5_3.toInt (xr l5_3))
    | succ N3 ih3 =>
      intro l5_3 G_3 H locs ls hF_3 pl I3_0 hm3 hT hS hl
      refine lv_iload hx hb dX3_reachFrom_3 (lv_at hl 5 rfl) ?_
      refine lv_aload_n hx hb dX3_reachFrom_5 rfl (lv_at hl 2 rfl) ?_
      refine x_clp (x_runV (b := p1) (As := []) (rest := [.int l5_3]) S (c_X0_size l E K F G_3 H p1 hp1) mv_X0_size km_X3_36 rfl rfl ⟨Nat.le_of_ble_eq_true rfl, Nat.le_of_ble_eq_true rfl⟩ (rc_2 hK hT hp1) hK (fun _ => XPh.blind) (fun U hU hW => XPh.at hK hz hS hT hU hW) rfl hl.1 (Nat.le_of_ble_eq_true rfl) dX3_reachFrom_6 ⟨Nat.le_of_ble_eq_true rfl, Nat.le_of_ble_eq_true rfl⟩) hS ?_
      rintro _ _ locs ⟨x6, rfl, t6⟩ hS
      have t6 : x6.toInt = ((G.1 p1 2).toInt) := by rw [(show (G_3.1 p1 2).toInt = ((G.1 p1 2).toInt) from (congrArg Int32.toInt (hF_3.1 _ _ (xnj (by decide) xn0))).trans (rfl : Int32.toInt (G.1 p1 2) = ((G.1 p1 2).toInt)))] at t6; exact t6
      refine xi_cge (tgt := 100) hx hb (rfl : Int32.toInt l5_3 = l5_3.toInt) (t6 : Int32.toInt x6 = ((G.1 p1 2).toInt)) dX3_reachFrom_9 (by decide) (fun c9 => ?_) (fun c9 => ?_)
      · exact x_rv hx hb hr hlk hQ (Nat.le_of_ble_eq_true rfl) (Nat.le_of_ble_eq_true rfl) hS dX3_reachFrom_100 G_3 ⟨(XFr.call XFr.rf hF_3 (xm1 0 rfl xm0) (xm1 0 rfl (xm1 1 rfl (xm1 2 rfl xm0))) xm0), (v_X3_reachFrom_100_1 (K := K) (F := F) a p0 p1 G G_3 l5_3 p2 p3 N3 ha hp0 hp1 li pl sb I3_0 hm3 c9)⟩ hT
      · refine lv_aload_n hx hb dX3_reachFrom_12 rfl (lv_at hl 2 rfl) ?_
        refine lv_iload hx hb dX3_reachFrom_13 (lv_at hl 5 rfl) ?_
        refine x_clp (x_runV (b := p1) (As := [.int l5_3]) (rest := []) S (c_X0_inOrder l E K F G_3 H p1 l5_3 hp1) mv_X0_inOrder km_X3_41 rfl rfl ⟨Nat.le_of_ble_eq_true rfl, Nat.le_of_ble_eq_true rfl⟩ (rc_2 hK hT hp1) hK (fun _ => XPh.blind) (fun U hU hW => XPh.at hK hz hS hT hU hW) rfl hl.1 (Nat.le_of_ble_eq_true rfl) dX3_reachFrom_15 ⟨Nat.le_of_ble_eq_true rfl, Nat.le_of_ble_eq_true rfl⟩) hS ?_
        rintro _ _ locs (⟨rfl, hn15⟩ | ⟨q15, rfl, hk15, ht15, hs15⟩) hS
        · refine lv_astoreN (lv' := [(6, .null), (0, .ref a), (1, .ref p0), (2, .ref p1), (3, .int p2), (4, .int p3), (5, .int l5_3)]) hx hb dX3_reachFrom_18 hl (by decide) rfl (fun ls hl => ?_)
          refine lv_aloadN hx hb dX3_reachFrom_20 (lv_at hl 0 rfl) ?_
          refine lv_ifnullN (tgt := 94) hx hb dX3_reachFrom_22 (by decide) ?_
          refine xi_iinc (n := 1) (lv' := fun z9 => [(5, .int z9), (6, .null), (0, .ref a), (1, .ref p0), (2, .ref p1), (3, .int p2), (4, .int p3)]) (k := 6) hx hb (rfl : Int32.toInt l5_3 = l5_3.toInt) (by decide) dX3_reachFrom_94 hl rfl (by decide) (fun _ => rfl) (fun x94 ls t94 hl => ?_)
          have e94 : x94.toInt = (l5_3.toInt + 1) := (z_X3_reachFrom_2 l5_3.toInt x94.toInt ((G.1 p1 2).toInt) sb I3_0 t94)
          have hl : lv_has ls 8 [(5, .int x94), (6, .null), (0, .ref a), (1, .ref p0), (2, .ref p1), (3, .int p2), (4, .int p3)] := hl
          refine lv_goto (tgt := 3) hx hb dX3_reachFrom_97 (by decide) ?_
          exact ih3 x94 G_3 _ _ _ (XFr.call XFr.rf hF_3 (xm1 0 rfl xm0) (xm1 0 rfl (xm1 1 rfl (xm1 2 rfl xm0))) xm0) (by rw [(e94 : Int32.toInt x94 = (l5_3.toInt + 1))] <;> exact (v_X3_reachFrom_97_2 (K := K) (F := F) a p0 p1 G G_3 l5_3 p2 p3 N3 ha hp0 hp1 li pl hn15 sb I3_0 hm3 c9 (hF_3.2.2 _ xn0) (hF_3.1 _ _ (xnj (by decide) xn0)))) (by rw [(e94 : Int32.toInt x94 = (l5_3.toInt + 1))] <;> exact (z_X3_reachFrom_3 l5_3.toInt ((G.1 p1 2).toInt) I3_0 c9)) (by rw [(e94 : Int32.toInt x94 = (l5_3.toInt + 1))] <;> exact (z_X3_clear_6 l5_3.toInt N3 hm3)) hT hS (lv_sub hl [2, 3, 4, 5, 6, 0] rfl)
        · have ht15 : 0 ≤ l5_3.toInt ∧ l5_3.toInt < ((G.1 p1 2).toInt) ∧ l5_3.toInt < 12 := by rw [(show (G_3.1 p1 2).toInt = ((G.1 p1 2).toInt) from (congrArg Int32.toInt (hF_3.1 _ _ (xnj (by decide) xn0))).trans (rfl : Int32.toInt (G.1 p1 2) = ((G.1 p1 2).toInt)))] at ht15; exact ht15
          refine lv_astore (lv' := [(6, .ref q15), (0, .ref a), (1, .ref p0), (2, .ref p1), (3, .int p2), (4, .int p3), (5, .int l5_3)]) hx hb dX3_reachFrom_18 hl (by decide) rfl (fun ls hl => ?_)
          refine lv_aload hx hb dX3_reachFrom_20 (lv_at hl 0 rfl) ?_
          refine lv_ifnull hx hb dX3_reachFrom_22 ?_
          refine lv_aload hx hb dX3_reachFrom_25 (lv_at hl 0 rfl) ?_
          refine gX7_0 S hK hT hk15 kf_X3_45 dX3_reachFrom_27 (v := (G.1 q15 0)) (hF_3.1 _ _ (xnj (by decide) xn0)) (?_)
          refine lv_iconst (v := 1) hx hb dX3_reachFrom_30 (by decide) ?_
          refine xi_cne (tgt := 94) hx hb (rfl : Int32.toInt (G.1 q15 0) = ((G.1 q15 0).toInt)) ((by decide) : Int32.toInt 1 = (1 : Int)) dX3_reachFrom_31 (by decide) (fun c31 => ?_) (fun c31 => ?_)
          · refine xi_iinc (n := 1) (lv' := fun z9 => [(5, .int z9), (6, .ref q15), (0, .ref a), (1, .ref p0), (2, .ref p1), (3, .int p2), (4, .int p3)]) (k := 6) hx hb (rfl : Int32.toInt l5_3 = l5_3.toInt) (by decide) dX3_reachFrom_94 hl rfl (by decide) (fun _ => rfl) (fun x94 ls t94 hl => ?_)
            have e94 : x94.toInt = (l5_3.toInt + 1) := (z_X3_reachFrom_5 l5_3.toInt x94.toInt ((G.1 p1 2).toInt) ht15 t94)
            have hl : lv_has ls 8 [(5, .int x94), (6, .ref q15), (0, .ref a), (1, .ref p0), (2, .ref p1), (3, .int p2), (4, .int p3)] := hl
            refine lv_goto (tgt := 3) hx hb dX3_reachFrom_97 (by decide) ?_
            exact ih3 x94 G_3 _ _ _ (XFr.call XFr.rf hF_3 (xm1 0 rfl xm0) (xm1 0 rfl (xm1 1 rfl (xm1 2 rfl xm0))) xm0) (by rw [(e94 : Int32.toInt x94 = (l5_3.toInt + 1))] <;> exact (v_X3_reachFrom_97_3 (K := K) (F := F) a p0 p1 q15 G G_3 l5_3 p2 p3 N3 ha hp0 hp1 li pl hs15 sb I3_0 hm3 c9 ht15 c31 (hF_3.2.2 _ xn0) (hF_3.1 _ _ (xnj (by decide) xn0)))) (by rw [(e94 : Int32.toInt x94 = (l5_3.toInt + 1))] <;> exact (z_X3_reachFrom_3 l5_3.toInt ((G.1 p1 2).toInt) I3_0 c9)) (by rw [(e94 : Int32.toInt x94 = (l5_3.toInt + 1))] <;> exact (z_X3_clear_6 l5_3.toInt N3 hm3)) hT hS (lv_sub hl [2, 3, 4, 5, 6, 0] rfl)
          · refine lv_aload hx hb dX3_reachFrom_34 (lv_at hl 0 rfl) ?_
            refine gX7_4 S hK hT hk15 kf_X3_50 dX3_reachFrom_36 (v := (G.1 q15 4)) (hF_3.1 _ _ (xnj (by decide) xn0)) (?_)
            refine lv_iload_n hx hb dX3_reachFrom_39 rfl (lv_at hl 4 rfl) ?_
            refine xi_ceq (tgt := 46) hx hb (rfl : Int32.toInt (G.1 q15 4) = ((G.1 q15 4).toInt)) (rfl : Int32.toInt p2 = p2.toInt) dX3_reachFrom_40 (by decide) (fun c40 => ?_) (fun c40 => ?_)
            · refine lv_iconst (v := 0) hx hb dX3_reachFrom_46 (by decide) ?_
              refine lv_istore (lv' := [(7, .int 0), (6, .ref q15), (0, .ref a), (1, .ref p0), (2, .ref p1), (3, .int p2), (4, .int p3), (5, .int l5_3)]) hx hb dX3_reachFrom_47 hl (by decide) rfl (fun ls hl => ?_)
              have L49 : ∀ (N49 : Nat) (l7_49 : Int32) (G_49 : XG) (H : Heap) (locs : List Loc) (ls : Array Slot), XFr [(a, 3)] [F a 0, F a 1, F a 2] [] G_3 G_49 → LGo (aI (G_3.2.1 (F a 0))) (aI (G_3.2.1 (F a 1))) (aI (G_3.2.1 (F a 2))) ((G_3.1 a 3).toInt) (aI (G_49.2.1 (F a 0))) (aI (G_49.2.1 (F a 1))) (aI (G_49.2.1 (F a 2))) ((G_49.1 a 3).toInt) (fun u9 k9 => u9 = ((G.1 q15 2).toInt) ∧ k9 < l7_49.toInt ∧ cel (vw (G.2.1 (F p0 0))) u9 k9 ((G.1 q15 3).toInt) = p3.toInt) → 0 ≤ l7_49.toInt ∧ l7_49.toInt ≤ 30 → (0 : Int) ≤ l7_49.toInt → 2147483648 - l7_49.toInt < ((N49 : Nat) : Int) → TW E K F G_49 H → va_S (xA E) s.heap H locs → lv_has ls 8 [(0, .ref a), (1, .ref p0), (2, .ref p1), (3, .int p2), (4, .int p3), (5, .int l5_3), (6, .ref q15), (7, .int l7_49)] → W p l e rm_X3_reachFrom s m args below meth c H locs 0 0 Q (F0 m 49 ls []) := by
                intro N49
                induction N49 with
                | zero =>
                  intro l7_49 G_49 H locs ls hF_49 pk I49_0 I49_1 hm49
                  exact absurd hm49 (z_X3_reachFrom_8 l7_49.toInt I49_0)
                | succ N49 ih49 =>
                  intro l7_49 G_49 H locs ls hF_49 pk I49_0 I49_1 hm49 hT hS hl
                  refine lv_iload hx hb dX3_reachFrom_49 (lv_at hl 7 rfl) ?_
                  refine lv_bipush (v := 30) hx hb dX3_reachFrom_51 (by decide) ?_
                  refine xi_cge (tgt := 94) hx hb (rfl : Int32.toInt l7_49 = l7_49.toInt) ((by decide) : Int32.toInt 30 = (30 : Int)) dX3_reachFrom_53 (by decide) (fun c53 => ?_) (fun c53 => ?_)
                  · refine xi_iinc (n := 1) (lv' := fun z9 => [(5, .int z9), (0, .ref a), (1, .ref p0), (2, .ref p1), (3, .int p2), (4, .int p3), (6, .ref q15), (7, .int l7_49)]) (k := 5) hx hb (rfl : Int32.toInt l5_3 = l5_3.toInt) (by decide) dX3_reachFrom_94 hl rfl (by decide) (fun _ => rfl) (fun x94 ls t94 hl => ?_)
                    have e94 : x94.toInt = (l5_3.toInt + 1) := (z_X3_reachFrom_5 l5_3.toInt x94.toInt ((G.1 p1 2).toInt) ht15 t94)
                    have hl : lv_has ls 8 [(5, .int x94), (0, .ref a), (1, .ref p0), (2, .ref p1), (3, .int p2), (4, .int p3), (6, .ref q15), (7, .int l7_49)] := hl
                    refine lv_goto (tgt := 3) hx hb dX3_reachFrom_97 (by decide) ?_
                    exact ih3 x94 G_49 _ _ _ (XFr.call (XFr.call XFr.rf hF_3 (xm1 0 rfl xm0) (xm1 0 rfl (xm1 1 rfl (xm1 2 rfl xm0))) xm0) hF_49 (xm1 0 rfl xm0) (xm1 0 rfl (xm1 1 rfl (xm1 2 rfl xm0))) xm0) (by rw [(e94 : Int32.toInt x94 = (l5_3.toInt + 1))] <;> exact (v_X3_reachFrom_97_4 (K := K) (F := F) a p0 p1 q15 G G_3 G_49 l5_3 p2 p3 l7_49 N3 N49 ha hp0 hp1 li pl hs15 pk sb I3_0 hm3 c9 ht15 c31 c40 I49_0 I49_1 hm49 c53 (hF_3.2.2 _ xn0) (hF_3.1 _ _ (xnj (by decide) xn0)))) (by rw [(e94 : Int32.toInt x94 = (l5_3.toInt + 1))] <;> exact (z_X3_reachFrom_3 l5_3.toInt ((G.1 p1 2).toInt) I3_0 c9)) (by rw [(e94 : Int32.toInt x94 = (l5_3.toInt + 1))] <;> exact (z_X3_clear_6 l5_3.toInt N3 hm3)) hT hS (lv_sub hl [1, 2, 3, 4, 5, 0] rfl)
                  · refine lv_aload_n hx hb dX3_reachFrom_56 rfl (lv_at hl 1 rfl) ?_
                    refine lv_aload hx hb dX3_reachFrom_57 (lv_at hl 6 rfl) ?_
                    refine gX7_2 S hK hT hk15 kf_X3_53 dX3_reachFrom_59 (v := (G.1 q15 2)) ((hF_49.1 _ _ (xnj (by decide) xn0)).trans (hF_3.1 _ _ (xnj (by decide) xn0))) (?_)
                    refine lv_iload hx hb dX3_reachFrom_62 (lv_at hl 7 rfl) ?_
                    refine lv_aload hx hb dX3_reachFrom_64 (lv_at hl 6 rfl) ?_
                    refine gX7_3 S hK hT hk15 kf_X3_56 dX3_reachFrom_66 (v := (G.1 q15 3)) ((hF_49.1 _ _ (xna (xne_k hk15 ha (by decide)) xn0)).trans (hF_3.1 _ _ (xna (xne_k hk15 ha (by decide)) xn0))) (?_)
                    refine x_clp (x_runV (b := p0) (As := [.int (G.1 q15 2), .int l7_49, .int (G.1 q15 3)]) (rest := []) S (c_X6_cell l E K F G_49 H p0 (G.1 q15 2) l7_49 (G.1 q15 3) hp0) mv_X6_cell km_X3_59 rfl rfl ⟨Nat.le_of_ble_eq_true rfl, Nat.le_of_ble_eq_true rfl⟩ (rc_8 hK hT hp0) hK (fun _ => XPh.blind) (fun U hU hW => XPh.at hK hz hS hT hU hW) rfl hl.1 (Nat.le_of_ble_eq_true rfl) dX3_reachFrom_69 ⟨Nat.le_of_ble_eq_true rfl, Nat.le_of_ble_eq_true rfl⟩) hS ?_
                    rintro _ _ locs ⟨x69, rfl, t69⟩ hS
                    have t69 : x69.toInt = (cel (vw (G.2.1 (F p0 0))) ((G.1 q15 2).toInt) (l7_49.toInt) ((G.1 q15 3).toInt)) := by rw [(show G_49.2.1 (F p0 0) = G.2.1 (F p0 0) from ((hF_49.2.1 _ (xn1 (xne_k hk9999d hk9999 (by decide)) (xn1 (xne_k hk9999d hk9999a (by decide)) (xn1 (xne_k hk9999d hk9999b (by decide)) xn0)))).trans (hF_3.2.1 _ (xn1 (xne_k hk9999d hk9999 (by decide)) (xn1 (xne_k hk9999d hk9999a (by decide)) (xn1 (xne_k hk9999d hk9999b (by decide)) xn0))))))] at t69; exact t69
                    refine lv_iload hx hb dX3_reachFrom_72 (lv_at hl 4 rfl) ?_
                    refine xi_cne (tgt := 88) hx hb (t69 : Int32.toInt x69 = (cel (vw (G.2.1 (F p0 0))) ((G.1 q15 2).toInt) (l7_49.toInt) ((G.1 q15 3).toInt))) (rfl : Int32.toInt p3 = p3.toInt) dX3_reachFrom_74 (by decide) (fun c74 => ?_) (fun c74 => ?_)
                    · refine xi_iinc (n := 1) (lv' := fun z9 => [(7, .int z9), (0, .ref a), (1, .ref p0), (2, .ref p1), (3, .int p2), (4, .int p3), (5, .int l5_3), (6, .ref q15)]) (k := 7) hx hb (rfl : Int32.toInt l7_49 = l7_49.toInt) (by decide) dX3_reachFrom_88 hl rfl (by decide) (fun _ => rfl) (fun x88 ls t88 hl => ?_)
                      have e88 : x88.toInt = (l7_49.toInt + 1) := (z_X3_reachFrom_12 l7_49.toInt x88.toInt I49_0 t88)
                      have hl : lv_has ls 8 [(7, .int x88), (0, .ref a), (1, .ref p0), (2, .ref p1), (3, .int p2), (4, .int p3), (5, .int l5_3), (6, .ref q15)] := hl
                      refine lv_goto (tgt := 49) hx hb dX3_reachFrom_91 (by decide) ?_
                      exact ih49 x88 G_49 _ _ _ (XFr.call XFr.rf hF_49 (xm1 0 rfl xm0) (xm1 0 rfl (xm1 1 rfl (xm1 2 rfl xm0))) xm0) (by rw [(e88 : Int32.toInt x88 = (l7_49.toInt + 1))] <;> exact (v_X3_reachFrom_91_5 (K := K) (F := F) a p0 p1 q15 G G_3 G_49 l5_3 p2 p3 l7_49 N3 N49 ha hp0 hp1 li pl hs15 pk sb I3_0 hm3 c9 ht15 c31 c40 I49_0 I49_1 hm49 c53 c74)) (by rw [(e88 : Int32.toInt x88 = (l7_49.toInt + 1))] <;> exact (z_X3_reachFrom_13 l7_49.toInt I49_0 c53)) (by rw [(e88 : Int32.toInt x88 = (l7_49.toInt + 1))] <;> exact (z_X3_reachFrom_14 l7_49.toInt I49_0)) (by rw [(e88 : Int32.toInt x88 = (l7_49.toInt + 1))] <;> exact (z_X3_clear_6 l7_49.toInt N49 hm49)) hT hS (lv_sub hl [1, 2, 3, 4, 5, 6, 7, 0] rfl)
                    · refine lv_aload_n hx hb dX3_reachFrom_77 rfl (lv_at hl 0 rfl) ?_
                      refine lv_aload hx hb dX3_reachFrom_78 (lv_at hl 6 rfl) ?_
                      refine gX7_2 S hK hT hk15 kf_X3_53 dX3_reachFrom_80 (v := (G.1 q15 2)) ((hF_49.1 _ _ (xnj (by decide) xn0)).trans (hF_3.1 _ _ (xnj (by decide) xn0))) (?_)
                      refine lv_iload hx hb dX3_reachFrom_83 (lv_at hl 7 rfl) ?_
                      refine x_cv0 (x_runV (b := a) (As := [.int (G.1 q15 2), .int l7_49]) (rest := []) S (c_X3_reach l E K F G_49 a (G.1 q15 2) l7_49 ha (v_X3_reachFrom_85_6 (F := F) G_3 a G_49 G q15 l7_49 p0 p3 pk)) mv_X3_reach km_X3_32 rfl rfl ⟨Nat.le_of_ble_eq_true rfl, Nat.le_of_ble_eq_true rfl⟩ (rc_5 hK hT ha) hK (fun _ => XP.blind) (fun U hU hW => XP.at hK hz hS hT hU hW) rfl hl.1 (Nat.le_of_ble_eq_true rfl) dX3_reachFrom_85 ⟨Nat.le_of_ble_eq_true rfl, Nat.le_of_ble_eq_true rfl⟩) hS ?_
                      rintro G85 H locs ⟨hF85, oq85⟩ hT hS
                      refine xi_iinc (n := 1) (lv' := fun z9 => [(7, .int z9), (0, .ref a), (1, .ref p0), (2, .ref p1), (3, .int p2), (4, .int p3), (5, .int l5_3), (6, .ref q15)]) (k := 7) hx hb (rfl : Int32.toInt l7_49 = l7_49.toInt) (by decide) dX3_reachFrom_88 hl rfl (by decide) (fun _ => rfl) (fun x88 ls t88 hl => ?_)
                      have e88 : x88.toInt = (l7_49.toInt + 1) := (z_X3_reachFrom_12 l7_49.toInt x88.toInt I49_0 t88)
                      have hl : lv_has ls 8 [(7, .int x88), (0, .ref a), (1, .ref p0), (2, .ref p1), (3, .int p2), (4, .int p3), (5, .int l5_3), (6, .ref q15)] := hl
                      refine lv_goto (tgt := 49) hx hb dX3_reachFrom_91 (by decide) ?_
                      exact ih49 x88 G85 _ _ _ (XFr.call (XFr.call XFr.rf hF_49 (xm1 0 rfl xm0) (xm1 0 rfl (xm1 1 rfl (xm1 2 rfl xm0))) xm0) hF85 (xm1 0 rfl xm0) (xm1 0 rfl (xm1 1 rfl (xm1 2 rfl xm0))) xm0) (by rw [(e88 : Int32.toInt x88 = (l7_49.toInt + 1))] <;> exact (v_X3_reachFrom_91_7 (K := K) (F := F) a p0 p1 q15 G G_3 G_49 G85 l5_3 p2 p3 l7_49 N3 N49 ha hp0 hp1 li pl hs15 pk oq85 sb I3_0 hm3 c9 ht15 c31 c40 I49_0 I49_1 hm49 c53 c74)) (by rw [(e88 : Int32.toInt x88 = (l7_49.toInt + 1))] <;> exact (z_X3_reachFrom_13 l7_49.toInt I49_0 c53)) (by rw [(e88 : Int32.toInt x88 = (l7_49.toInt + 1))] <;> exact (z_X3_reachFrom_14 l7_49.toInt I49_0)) (by rw [(e88 : Int32.toInt x88 = (l7_49.toInt + 1))] <;> exact (z_X3_clear_6 l7_49.toInt N49 hm49)) hT hS (lv_sub hl [1, 2, 3, 4, 5, 6, 7, 0] rfl)
              exact L49 4294967297 0 G_3 _ _ _ XFr.rf (v_X3_reachFrom_47_8 (K := K) (F := F) a p0 p1 q15 G G_3 l5_3 p2 p3 N3 ha hp0 hp1 li pl hs15 sb I3_0 hm3 c9 ht15 c31 c40) (by decide) (by decide) (by decide) hT hS (lv_sub hl [2, 3, 4, 5, 6, 7, 1, 0] rfl)
            · refine lv_goto (tgt := 94) hx hb dX3_reachFrom_43 (by decide) ?_
              refine xi_iinc (n := 1) (lv' := fun z9 => [(5, .int z9), (6, .ref q15), (0, .ref a), (1, .ref p0), (2, .ref p1), (3, .int p2), (4, .int p3)]) (k := 6) hx hb (rfl : Int32.toInt l5_3 = l5_3.toInt) (by decide) dX3_reachFrom_94 hl rfl (by decide) (fun _ => rfl) (fun x94 ls t94 hl => ?_)
              have e94 : x94.toInt = (l5_3.toInt + 1) := (z_X3_reachFrom_5 l5_3.toInt x94.toInt ((G.1 p1 2).toInt) ht15 t94)
              have hl : lv_has ls 8 [(5, .int x94), (6, .ref q15), (0, .ref a), (1, .ref p0), (2, .ref p1), (3, .int p2), (4, .int p3)] := hl
              refine lv_goto (tgt := 3) hx hb dX3_reachFrom_97 (by decide) ?_
              exact ih3 x94 G_3 _ _ _ (XFr.call XFr.rf hF_3 (xm1 0 rfl xm0) (xm1 0 rfl (xm1 1 rfl (xm1 2 rfl xm0))) xm0) (by rw [(e94 : Int32.toInt x94 = (l5_3.toInt + 1))] <;> exact (v_X3_reachFrom_97_9 (K := K) (F := F) a p0 p1 q15 G G_3 l5_3 p2 p3 N3 ha hp0 hp1 li pl hs15 sb I3_0 hm3 c9 ht15 c31 c40 (hF_3.2.2 _ xn0) (hF_3.1 _ _ (xnj (by decide) xn0)))) (by rw [(e94 : Int32.toInt x94 = (l5_3.toInt + 1))] <;> exact (z_X3_reachFrom_3 l5_3.toInt ((G.1 p1 2).toInt) I3_0 c9)) (by rw [(e94 : Int32.toInt x94 = (l5_3.toInt + 1))] <;> exact (z_X3_clear_6 l5_3.toInt N3 hm3)) hT hS (lv_sub hl [2, 3, 4, 5, 6, 0] rfl)
  exact L3 4294967297 0 G _ _ _ XFr.rf (v_X3_reachFrom_1_10 (K := K) (F := F) a p0 p1 G p2 p3 ha hp0 hp1 li sb) (z_X3_reachFrom_23 ((G.1 p1 2).toInt) sb) (by decide) hT hS (lv_sub hl [1, 2, 3, 4, 5, 0] rfl)

abbrev rm_X3_straight : Room := { frames := 3, cells := 0, slots := 0, locals := 71 }
set_option maxHeartbeats 4000000 in
set_option maxRecDepth 100000 in
theorem c_X3_straight (l : Launch) (E : XE) (K : Nat → Nat) (F : Nat → Nat → Nat) (G : XG) (a : Nat) (p0 : Nat) (p1 : Nat) (p2 : Int32) (p3 : Int32) (ha : K a = 5) (hp0 : K p0 = 8) (hp1 : K p1 = 2) (sb : 0 ≤ ((G.1 p1 2).toInt) ∧ ((G.1 p1 2).toInt) ≤ 12) (bko : BKr K G (G.2.2.1 (F p1 1))) : Met l yX3_straight (xw yX3_straight cX3_straight 5 (some .int)) rm_X3_straight (va_Pc [.ref a, .ref p0, .ref p1, .int p2, .int p3] (XP E K F G)) (XQ E (fun v (u : XG) => ∃ r : Int32, v = .int r ∧ XFr [(a, 3)] [F a 0, F a 1, F a 2] [] G u ∧ (∃ b : Int → Int, r.toInt = toB b 3 ∧ ∀ t j : Int, inR t j → (bI (b t) j = 1 ↔ lnC G (G.2.2.1 (F p1 1)) (vw (G.2.1 (F p0 0))) ((G.1 p1 2).toInt) t j p2.toInt p3.toInt))) (fun u H => TW E K F u H)) 0 0 (xA E) := by
  refine x_enter (by decide) (Nat.le_of_ble_eq_true rfl) ?_
  intro p e s m args below meth c Q S hr hlk hnm hQ hP ls hl
  obtain ⟨hz, hK, hT⟩ := hP
  obtain ⟨hx, hb, -, -, -⟩ := id S
  obtain ⟨H, hT, hS, hgo⟩ : ∃ H : Heap, TW E K F G H ∧ va_S (xA E) s.heap H [] ∧ H = s.heap := ⟨_, hT, va_S.rf, rfl⟩
  rw [← hgo]
  have hl : lv_has ls 5 [(0, .ref a), (1, .ref p0), (2, .ref p1), (3, .int p2), (4, .int p3)] := hl
  obtain ⟨hk9999, hj9999⟩ := fkX3_0 hT ha
  obtain ⟨hk9999a, hj9999a⟩ := fkX3_1 hT ha
  obtain ⟨hk9999b, hj9999b⟩ := fkX3_2 hT ha
  obtain ⟨hk9999c, hj9999c⟩ := fkX0_1 hT hp1
  obtain ⟨hk9999d, hj9999d⟩ := fkX6_0 hT hp0
  refine lv_aload_n hx hb dX3_straight_0 rfl (lv_at hl 0 rfl) ?_
  refine x_cv0 (x_runV (b := a) (As := []) (rest := []) S (c_X3_clear l E K F G a ha) mv_X3_clear km_X3_21 rfl rfl ⟨Nat.le_of_ble_eq_true rfl, Nat.le_of_ble_eq_true rfl⟩ (rc_5 hK hT ha) hK (fun _ => XP.blind) (fun U hU hW => XP.at hK hz hS hT hU hW) rfl hl.1 (Nat.le_of_ble_eq_true rfl) dX3_straight_1 ⟨Nat.le_of_ble_eq_true rfl, Nat.le_of_ble_eq_true rfl⟩) hS ?_
  rintro G1 H locs ⟨hF1, t1, oq1⟩ hT hS
  have t1 : ((G1.1 a 3).toInt) = 0 := t1
  refine lv_aload_n hx hb dX3_straight_4 rfl (lv_at hl 0 rfl) ?_
  refine lv_aload_n hx hb dX3_straight_5 rfl (lv_at hl 1 rfl) ?_
  refine lv_aload_n hx hb dX3_straight_6 rfl (lv_at hl 2 rfl) ?_
  refine lv_iload_n hx hb dX3_straight_7 rfl (lv_at hl 3 rfl) ?_
  refine lv_iload hx hb dX3_straight_8 (lv_at hl 4 rfl) ?_
  refine x_cv0 (x_runV (b := a) (As := [.ref p0, .ref p1, .int p2, .int p3]) (rest := []) S (c_X3_reachFrom l E K F G1 a p0 p1 p2 p3 ha hp0 hp1 (by rw [(show (G1.1 p1 2).toInt = ((G.1 p1 2).toInt) from (congrArg Int32.toInt (hF1.1 _ _ (xnj (by decide) xn0))).trans (rfl : Int32.toInt (G.1 p1 2) = ((G.1 p1 2).toInt)))] <;> exact (sb)) (v_X3_straight_10_1 (F := F) G1 a oq1 t1)) mv_X3_reachFrom km_X3_24 rfl rfl ⟨Nat.le_of_ble_eq_true rfl, Nat.le_of_ble_eq_true rfl⟩ (rc_5 hK hT ha) hK (fun _ => XP.blind) (fun U hU hW => XP.at hK hz hS hT hU hW) rfl hl.1 (Nat.le_of_ble_eq_true rfl) dX3_straight_10 ⟨Nat.le_of_ble_eq_true rfl, Nat.le_of_ble_eq_true rfl⟩) hS ?_
  rintro G10 H locs ⟨hF10, oq10⟩ hT hS
  have oq10 : LGo (aI (G1.2.1 (F a 0))) (aI (G.2.1 (F a 1))) (aI (G.2.1 (F a 2))) ((G1.1 a 3).toInt) (aI (G10.2.1 (F a 0))) (aI (G10.2.1 (F a 1))) (aI (G10.2.1 (F a 2))) ((G10.1 a 3).toInt) (fun u9 k9 => lnC G1 (G1.2.2.1 (F p1 1)) (vw (G.2.1 (F p0 0))) ((G.1 p1 2).toInt) u9 k9 p2.toInt p3.toInt) := by simp only [(show G1.2.1 (F a 1) = G.2.1 (F a 1) from (hF1.2.1 _ (xn1 (xne_k hk9999a hk9999 (by decide)) xn0))), (show G1.2.1 (F a 2) = G.2.1 (F a 2) from (hF1.2.1 _ (xn1 (xne_k hk9999b hk9999 (by decide)) xn0))), (show G1.2.1 (F p0 0) = G.2.1 (F p0 0) from (hF1.2.1 _ (xn1 (xne_k hk9999d hk9999 (by decide)) xn0))), (show G1.1 p1 2 = G.1 p1 2 from (hF1.1 _ _ (xnj (by decide) xn0)))] at oq10; exact oq10
  refine lv_aload_n hx hb dX3_straight_13 rfl (lv_at hl 0 rfl) ?_
  refine gX3_3 S hK hT ha kf_X3_28 dX3_straight_14 (v := (G10.1 a 3)) rfl (?_)
  exact x_ri hx hb hr hlk hQ (Nat.le_of_ble_eq_true rfl) (Nat.le_of_ble_eq_true rfl) hS dX3_straight_17 G10 ⟨_, rfl, (XFr.call (XFr.call XFr.rf hF1 (xm1 0 rfl xm0) (xm1 0 rfl xm0) xm0) hF10 (xm1 0 rfl xm0) (xm1 0 rfl (xm1 1 rfl (xm1 2 rfl xm0))) xm0), (v_X3_straight_17_2 (K := K) (F := F) a p0 p1 G G1 G10 p2 p3 ha hp0 hp1 hk9999 hj9999 hk9999a hj9999a hk9999b hj9999b hk9999c hj9999c hk9999d hj9999d hF1 bko oq1 oq10 sb t1 (hF1.2.2 _ xn0))⟩ hT

theorem z_X3_straightOrNot_1 (a0 : Int) (h0 : 0 ≤ a0 ∧ a0 ≤ 90) : ¬ (100 - a0 < ((0 : Nat) : Int)) := by omega
theorem z_X3_straightOrNot_2 (a0 : Int) (a1 : Int) (h0 : 0 ≤ a1 ∧ a1 ≤ 90) (h1 : a0 = (a1 - (1 : Int)) ∨ (a1 - (1 : Int)) < -2147483648 ∨ 2147483648 ≤ (a1 - (1 : Int))) : a0 = (a1 - (1 : Int)) := by omega
theorem z_X3_straightOrNot_3 (a0 : Int) (a1 : Int) (a2 : Int) (h0 : ¬ (a2 ≤ a0)) (h1 : (90 : Int) ≤ a0) (h2 : 0 ≤ a2 ∧ a2 ≤ 90) : a1 = (a2 - (1 : Int)) := by omega
theorem z_X3_straightOrNot_4 (a0 : Int) (h0 : 0 ≤ a0 ∧ a0 ≤ 90) (h1 : ¬ ((90 : Int) ≤ a0)) : 0 ≤ a0 ∧ a0 < ((90 : Nat) : Int) := by omega
theorem z_X3_straightOrNot_7 (a0 : Int) (a1 : Int) (h0 : 0 ≤ a0 ∧ a0 ≤ 90) (h1 : a1 = (a0 + 1) ∨ (a0 + 1) < -2147483648 ∨ 2147483648 ≤ (a0 + 1)) : a1 = (a0 + 1) := by omega
theorem z_X3_straightOrNot_8 (a0 : Int) (h0 : 0 ≤ a0 ∧ a0 ≤ 90) (h1 : ¬ ((90 : Int) ≤ a0)) : 0 ≤ (a0 + 1) ∧ (a0 + 1) ≤ 90 := by omega
theorem z_X3_straightOrNot_9 (a0 : Int) (a1 : Nat) (h0 : 100 - a0 < ((a1 + 1 : Nat) : Int)) : 100 - (a0 + 1) < ((a1 : Nat) : Int) := by omega
abbrev rm_X3_straightOrNot : Room := { frames := 3, cells := 0, slots := 0, locals := 71 }
set_option maxHeartbeats 4000000 in
set_option maxRecDepth 100000 in
theorem c_X3_straightOrNot (l : Launch) (E : XE) (K : Nat → Nat) (F : Nat → Nat → Nat) (G : XG) (a : Nat) (p0 : Nat) (p1 : Nat) (p2 : Int32) (p3 : Int32) (ha : K a = 5) (hp0 : K p0 = 8) (hp1 : K p1 = 2) (sb : 0 ≤ ((G.1 p1 2).toInt) ∧ ((G.1 p1 2).toInt) ≤ 12) (e0 : 0 ≤ p2.toInt ∧ p2.toInt < 3 ∧ 0 ≤ p3.toInt ∧ p3.toInt < 30) (bko : BKr K G (G.2.2.1 (F p1 1))) : Met l yX3_straightOrNot (xw yX3_straightOrNot cX3_straightOrNot 6 (some .int)) rm_X3_straightOrNot (va_Pc [.ref a, .ref p0, .ref p1, .int p2, .int p3] (XP E K F G)) (XQ E (fun v (u : XG) => ∃ r : Int32, v = .int r ∧ XFr [(a, 3)] [F a 0, F a 1, F a 2] [] G u ∧ (∃ b : Int → Int, r.toInt = toB b 3 - 1 ∧ ∀ t j : Int, inR t j → (bI (b t) j = 1 ↔ RCH (lnC G (G.2.2.1 (F p1 1)) (vw (G.2.1 (F p0 0))) ((G.1 p1 2).toInt)) p2.toInt p3.toInt t j))) (fun u H => TW E K F u H)) 0 0 (xA E) := by
  refine x_enter (by decide) (Nat.le_of_ble_eq_true rfl) ?_
  intro p e s m args below meth c Q S hr hlk hnm hQ hP ls hl
  obtain ⟨hz, hK, hT⟩ := hP
  obtain ⟨hx, hb, -, -, -⟩ := id S
  obtain ⟨H, hT, hS, hgo⟩ : ∃ H : Heap, TW E K F G H ∧ va_S (xA E) s.heap H [] ∧ H = s.heap := ⟨_, hT, va_S.rf, rfl⟩
  rw [← hgo]
  have hl : lv_has ls 6 [(0, .ref a), (1, .ref p0), (2, .ref p1), (3, .int p2), (4, .int p3)] := hl
  obtain ⟨hk9999, hj9999⟩ := fkX3_0 hT ha
  obtain ⟨hk9999a, hj9999a⟩ := fkX3_1 hT ha
  obtain ⟨hk9999b, hj9999b⟩ := fkX3_2 hT ha
  obtain ⟨hk9999c, hj9999c⟩ := fkX0_1 hT hp1
  obtain ⟨hk9999d, hj9999d⟩ := fkX6_0 hT hp0
  refine lv_aload_n hx hb dX3_straightOrNot_0 rfl (lv_at hl 0 rfl) ?_
  refine x_cv0 (x_runV (b := a) (As := []) (rest := []) S (c_X3_clear l E K F G a ha) mv_X3_clear km_X3_21 rfl rfl ⟨Nat.le_of_ble_eq_true rfl, Nat.le_of_ble_eq_true rfl⟩ (rc_5 hK hT ha) hK (fun _ => XP.blind) (fun U hU hW => XP.at hK hz hS hT hU hW) rfl hl.1 (Nat.le_of_ble_eq_true rfl) dX3_straightOrNot_1 ⟨Nat.le_of_ble_eq_true rfl, Nat.le_of_ble_eq_true rfl⟩) hS ?_
  rintro G1 H locs ⟨hF1, t1, oq1⟩ hT hS
  have t1 : ((G1.1 a 3).toInt) = 0 := t1
  refine lv_aload_n hx hb dX3_straightOrNot_4 rfl (lv_at hl 0 rfl) ?_
  refine lv_iload_n hx hb dX3_straightOrNot_5 rfl (lv_at hl 3 rfl) ?_
  refine lv_iload hx hb dX3_straightOrNot_6 (lv_at hl 4 rfl) ?_
  refine x_cv0 (x_runV (b := a) (As := [.int p2, .int p3]) (rest := []) S (c_X3_reach l E K F G1 a p2 p3 ha (v_X3_straightOrNot_8_1 (F := F) G1 a oq1 t1)) mv_X3_reach km_X3_32 rfl rfl ⟨Nat.le_of_ble_eq_true rfl, Nat.le_of_ble_eq_true rfl⟩ (rc_5 hK hT ha) hK (fun _ => XP.blind) (fun U hU hW => XP.at hK hz hS hT hU hW) rfl hl.1 (Nat.le_of_ble_eq_true rfl) dX3_straightOrNot_8 ⟨Nat.le_of_ble_eq_true rfl, Nat.le_of_ble_eq_true rfl⟩) hS ?_
  rintro G8 H locs ⟨hF8, oq8⟩ hT hS
  have oq8 : LGo (aI (G1.2.1 (F a 0))) (aI (G.2.1 (F a 1))) (aI (G.2.1 (F a 2))) ((G1.1 a 3).toInt) (aI (G8.2.1 (F a 0))) (aI (G8.2.1 (F a 1))) (aI (G8.2.1 (F a 2))) ((G8.1 a 3).toInt) (fun u9 k9 => u9 = p2.toInt ∧ k9 = p3.toInt) := by simp only [(show G1.2.1 (F a 1) = G.2.1 (F a 1) from (hF1.2.1 _ (xn1 (xne_k hk9999a hk9999 (by decide)) xn0))), (show G1.2.1 (F a 2) = G.2.1 (F a 2) from (hF1.2.1 _ (xn1 (xne_k hk9999b hk9999 (by decide)) xn0)))] at oq8; exact oq8
  refine lv_iconst (v := 0) hx hb dX3_straightOrNot_11 (by decide) ?_
  refine lv_istore (lv' := [(5, .int 0), (0, .ref a), (1, .ref p0), (2, .ref p1), (3, .int p2), (4, .int p3)]) hx hb dX3_straightOrNot_12 hl (by decide) rfl (fun ls hl => ?_)
  have L14 : ∀ (N14 : Nat) (l5_14 : Int32) (G_14 : XG) (H : Heap) (locs : List Loc) (ls : Array Slot), XFr [(a, 3)] [F a 0, F a 1, F a 2] [] G8 G_14 → LIv (aI (G_14.2.1 (F a 0))) (aI (G_14.2.1 (F a 1))) (aI (G_14.2.1 (F a 2))) ((G_14.1 a 3).toInt) → bI ((aI (G_14.2.1 (F a 0))) p2.toInt) p3.toInt = 1 → (∀ t j : Int, inR t j → bI ((aI (G_14.2.1 (F a 0))) t) j = 1 → RCH (lnC G (G.2.2.1 (F p1 1)) (vw (G.2.1 (F p0 0))) ((G.1 p1 2).toInt)) p2.toInt p3.toInt t j) → (∀ z : Int, 0 ≤ z → z < l5_14.toInt → ∀ t j : Int, inR t j → lnC G (G.2.2.1 (F p1 1)) (vw (G.2.1 (F p0 0))) ((G.1 p1 2).toInt) t j ((aI (G_14.2.1 (F a 1))) z) ((aI (G_14.2.1 (F a 2))) z) → bI ((aI (G_14.2.1 (F a 0))) t) j = 1) → 0 ≤ l5_14.toInt ∧ l5_14.toInt ≤ 90 → 100 - l5_14.toInt < ((N14 : Nat) : Int) → TW E K F G_14 H → va_S (xA E) s.heap H locs → lv_has ls 6 [(0, .ref a), (1, .ref p0), (2, .ref p1), (5, .int l5_14)] → W p l e rm_X3_straightOrNot s m args below meth c H locs 0 0 Q (F0 m 14 ls []) := by
    intro N14
    induction N14 with
    | zero =>
      intro l5_14 G_14 H locs ls hF_14 pv ps pr pc I14_0 hm14
      exact absurd hm14 (z_X3_straightOrNot_1 l5_14.toInt I14_0)
    | succ N14 ih14 =>
      intro l5_14 G_14 H locs ls hF_14 pv ps pr pc I14_0 hm14 hT hS hl
      refine lv_iload hx hb dX3_straightOrNot_14 (lv_at hl 3 rfl) ?_
      refine lv_aload_n hx hb dX3_straightOrNot_16 rfl (lv_at hl 0 rfl) ?_
      refine gX3_3 S hK hT ha kf_X3_28 dX3_straightOrNot_17 (v := (G_14.1 a 3)) rfl (?_)
      refine xi_cge (tgt := 56) hx hb (rfl : Int32.toInt l5_14 = l5_14.toInt) (rfl : Int32.toInt (G_14.1 a 3) = ((G_14.1 a 3).toInt)) dX3_straightOrNot_20 (by decide) (fun c20 => ?_) (fun c20 => ?_)
      · have z56 : 0 ≤ ((G_14.1 a 3).toInt) ∧ ((G_14.1 a 3).toInt) ≤ 90 := pv.b
        refine lv_aload_n hx hb dX3_straightOrNot_56 rfl (lv_at hl 0 rfl) ?_
        refine gX3_3 S hK hT ha kf_X3_28 dX3_straightOrNot_57 (v := (G_14.1 a 3)) rfl (?_)
        refine lv_iconst (v := 1) hx hb dX3_straightOrNot_60 (by decide) ?_
        refine xi_isub hx hb (rfl : Int32.toInt (G_14.1 a 3) = ((G_14.1 a 3).toInt)) ((by decide) : Int32.toInt 1 = (1 : Int)) dX3_straightOrNot_61 (fun x61 t61 => ?_)
        have e61 : x61.toInt = (((G_14.1 a 3).toInt) - (1 : Int)) := (z_X3_straightOrNot_2 x61.toInt ((G_14.1 a 3).toInt) z56 t61)
        exact x_ri hx hb hr hlk hQ (Nat.le_of_ble_eq_true rfl) (Nat.le_of_ble_eq_true rfl) hS dX3_straightOrNot_62 G_14 ⟨_, rfl, (XFr.call (XFr.call (XFr.call XFr.rf hF1 (xm1 0 rfl xm0) (xm1 0 rfl xm0) xm0) hF8 (xm1 0 rfl xm0) (xm1 0 rfl (xm1 1 rfl (xm1 2 rfl xm0))) xm0) hF_14 (xm1 0 rfl xm0) (xm1 0 rfl (xm1 1 rfl (xm1 2 rfl xm0))) xm0), (by rw [(e61 : Int32.toInt x61 = (((G_14.1 a 3).toInt) - (1 : Int)))] <;> exact (v_X3_straightOrNot_62_2 (K := K) (F := F) a p0 p1 G G_14 G1 G8 p2 p3 l5_14 N14 ha hp0 hp1 oq8 pv ps pr pc sb e0 t1 I14_0 hm14 c20 z56))⟩ hT
      · refine lv_iload hx hb dX3_straightOrNot_23 (lv_at hl 3 rfl) ?_
        refine lv_bipush (v := 90) hx hb dX3_straightOrNot_25 (by decide) ?_
        refine xi_cge (tgt := 56) hx hb (rfl : Int32.toInt l5_14 = l5_14.toInt) ((by decide) : Int32.toInt 90 = (90 : Int)) dX3_straightOrNot_27 (by decide) (fun c27 => ?_) (fun c27 => ?_)
        · have z56 : 0 ≤ ((G_14.1 a 3).toInt) ∧ ((G_14.1 a 3).toInt) ≤ 90 := pv.b
          refine lv_aload_n hx hb dX3_straightOrNot_56 rfl (lv_at hl 0 rfl) ?_
          refine gX3_3 S hK hT ha kf_X3_28 dX3_straightOrNot_57 (v := (G_14.1 a 3)) rfl (?_)
          refine lv_iconst (v := 1) hx hb dX3_straightOrNot_60 (by decide) ?_
          refine xi_isub hx hb (rfl : Int32.toInt (G_14.1 a 3) = ((G_14.1 a 3).toInt)) ((by decide) : Int32.toInt 1 = (1 : Int)) dX3_straightOrNot_61 (fun x61 t61 => ?_)
          have e61 : x61.toInt = (((G_14.1 a 3).toInt) - (1 : Int)) := (z_X3_straightOrNot_3 l5_14.toInt x61.toInt ((G_14.1 a 3).toInt) c20 c27 z56)
          exact x_ri hx hb hr hlk hQ (Nat.le_of_ble_eq_true rfl) (Nat.le_of_ble_eq_true rfl) hS dX3_straightOrNot_62 G_14 ⟨_, rfl, (XFr.call (XFr.call (XFr.call XFr.rf hF1 (xm1 0 rfl xm0) (xm1 0 rfl xm0) xm0) hF8 (xm1 0 rfl xm0) (xm1 0 rfl (xm1 1 rfl (xm1 2 rfl xm0))) xm0) hF_14 (xm1 0 rfl xm0) (xm1 0 rfl (xm1 1 rfl (xm1 2 rfl xm0))) xm0), (by rw [(e61 : Int32.toInt x61 = (((G_14.1 a 3).toInt) - (1 : Int)))] <;> exact (v_X3_straightOrNot_62_3 (K := K) (F := F) a p0 p1 G G_14 G1 G8 p2 p3 l5_14 N14 ha hp0 hp1 oq8 pv ps pr pc sb e0 t1 I14_0 hm14 c20 c27 z56))⟩ hT
        · refine lv_aload_n hx hb dX3_straightOrNot_30 rfl (lv_at hl 0 rfl) ?_
          refine lv_aload_n hx hb dX3_straightOrNot_31 rfl (lv_at hl 1 rfl) ?_
          refine lv_aload_n hx hb dX3_straightOrNot_32 rfl (lv_at hl 2 rfl) ?_
          refine lv_aload_n hx hb dX3_straightOrNot_33 rfl (lv_at hl 0 rfl) ?_
          refine gX3_1 S hK hT ha kf_X3_15 dX3_straightOrNot_34 (fun _ _ => ?_)
          refine lv_iload hx hb dX3_straightOrNot_37 (lv_at hl 3 rfl) ?_
          refine al_0 S hK hT hk9999a ar_24 (by decide) (z_X3_straightOrNot_4 l5_14.toInt I14_0 c27) dX3_straightOrNot_39 (fun x39 hv39 o39 => ?_)
          have hv39 : x39.toInt = (aI (G_14.2.1 (F a 1)) (l5_14.toInt)) := hv39.trans (by rw [(rfl : Int32.toInt l5_14 = l5_14.toInt)])
          refine lv_aload_n hx hb dX3_straightOrNot_40 rfl (lv_at hl 0 rfl) ?_
          refine gX3_2 S hK hT ha kf_X3_18 dX3_straightOrNot_41 (fun _ _ => ?_)
          refine lv_iload hx hb dX3_straightOrNot_44 (lv_at hl 3 rfl) ?_
          refine al_0 S hK hT hk9999b ar_24 (by decide) (z_X3_straightOrNot_4 l5_14.toInt I14_0 c27) dX3_straightOrNot_46 (fun x46 hv46 o46 => ?_)
          have hv46 : x46.toInt = (aI (G_14.2.1 (F a 2)) (l5_14.toInt)) := hv46.trans (by rw [(rfl : Int32.toInt l5_14 = l5_14.toInt)])
          refine x_cv0 (x_runV (b := a) (As := [.ref p0, .ref p1, .int x39, .int x46]) (rest := []) S (c_X3_reachFrom l E K F G_14 a p0 p1 x39 x46 ha hp0 hp1 (by rw [(show (G_14.1 p1 2).toInt = ((G.1 p1 2).toInt) from (congrArg Int32.toInt ((hF_14.1 _ _ (xnj (by decide) xn0)).trans ((hF8.1 _ _ (xnj (by decide) xn0)).trans (hF1.1 _ _ (xnj (by decide) xn0))))).trans (rfl : Int32.toInt (G.1 p1 2) = ((G.1 p1 2).toInt)))] <;> exact (sb)) (v_X3_straightOrNot_47_4 (F := F) G_14 a pv)) mv_X3_reachFrom km_X3_24 rfl rfl ⟨Nat.le_of_ble_eq_true rfl, Nat.le_of_ble_eq_true rfl⟩ (rc_5 hK hT ha) hK (fun _ => XP.blind) (fun U hU hW => XP.at hK hz hS hT hU hW) rfl hl.1 (Nat.le_of_ble_eq_true rfl) dX3_straightOrNot_47 ⟨Nat.le_of_ble_eq_true rfl, Nat.le_of_ble_eq_true rfl⟩) hS ?_
          rintro G47 H locs ⟨hF47, oq47⟩ hT hS
          have oq47 : LGo (aI (G_14.2.1 (F a 0))) (aI (G_14.2.1 (F a 1))) (aI (G_14.2.1 (F a 2))) ((G_14.1 a 3).toInt) (aI (G47.2.1 (F a 0))) (aI (G47.2.1 (F a 1))) (aI (G47.2.1 (F a 2))) ((G47.1 a 3).toInt) (fun u9 k9 => lnC G_14 (G_14.2.2.1 (F p1 1)) (vw (G.2.1 (F p0 0))) ((G.1 p1 2).toInt) u9 k9 (aI (G_14.2.1 (F a 1)) (l5_14.toInt)) (aI (G_14.2.1 (F a 2)) (l5_14.toInt))) := by simp only [(hv39 : Int32.toInt x39 = (aI (G_14.2.1 (F a 1)) (l5_14.toInt))), (hv46 : Int32.toInt x46 = (aI (G_14.2.1 (F a 2)) (l5_14.toInt))), (show G_14.2.1 (F p0 0) = G.2.1 (F p0 0) from ((hF_14.2.1 _ (xn1 (xne_k hk9999d hk9999 (by decide)) (xn1 (xne_k hk9999d hk9999a (by decide)) (xn1 (xne_k hk9999d hk9999b (by decide)) xn0)))).trans ((hF8.2.1 _ (xn1 (xne_k hk9999d hk9999 (by decide)) (xn1 (xne_k hk9999d hk9999a (by decide)) (xn1 (xne_k hk9999d hk9999b (by decide)) xn0)))).trans (hF1.2.1 _ (xn1 (xne_k hk9999d hk9999 (by decide)) xn0))))), (show G_14.1 p1 2 = G.1 p1 2 from ((hF_14.1 _ _ (xnj (by decide) xn0)).trans ((hF8.1 _ _ (xnj (by decide) xn0)).trans (hF1.1 _ _ (xnj (by decide) xn0)))))] at oq47; exact oq47
          refine xi_iinc (n := 1) (lv' := fun z9 => [(5, .int z9), (0, .ref a), (1, .ref p0), (2, .ref p1)]) (k := 3) hx hb (rfl : Int32.toInt l5_14 = l5_14.toInt) (by decide) dX3_straightOrNot_50 hl rfl (by decide) (fun _ => rfl) (fun x50 ls t50 hl => ?_)
          have e50 : x50.toInt = (l5_14.toInt + 1) := (z_X3_straightOrNot_7 l5_14.toInt x50.toInt I14_0 t50)
          have hl : lv_has ls 6 [(5, .int x50), (0, .ref a), (1, .ref p0), (2, .ref p1)] := hl
          refine lv_goto (tgt := 14) hx hb dX3_straightOrNot_53 (by decide) ?_
          exact ih14 x50 G47 _ _ _ (XFr.call (XFr.call XFr.rf hF_14 (xm1 0 rfl xm0) (xm1 0 rfl (xm1 1 rfl (xm1 2 rfl xm0))) xm0) hF47 (xm1 0 rfl xm0) (xm1 0 rfl (xm1 1 rfl (xm1 2 rfl xm0))) xm0) (v_X3_straightOrNot_53_5 (F := F) G_14 a G47 p1 G p0 l5_14 oq47) (v_X3_straightOrNot_53_6 (K := K) (F := F) a p0 p1 G G47 G1 G8 G_14 p2 p3 l5_14 N14 ha hp0 hp1 oq8 pv ps oq47 sb e0 t1 I14_0 hm14 c20 c27) (v_X3_straightOrNot_53_7 (K := K) (F := F) a p0 p1 G G47 G1 G8 G_14 p2 p3 l5_14 N14 ha hp0 hp1 hk9999 hj9999 hk9999a hj9999a hk9999b hj9999b hk9999c hj9999c hk9999d hj9999d hF1 hF8 hF_14 bko oq8 pv ps pr oq47 sb e0 t1 I14_0 hm14 c20 c27 ((hF_14.2.2 _ xn0).trans ((hF8.2.2 _ xn0).trans (hF1.2.2 _ xn0)))) (by rw [(e50 : Int32.toInt x50 = (l5_14.toInt + 1))] <;> exact (v_X3_straightOrNot_53_8 (K := K) (F := F) a p0 p1 G G47 G1 G8 G_14 p2 p3 l5_14 N14 ha hp0 hp1 hk9999 hj9999 hk9999a hj9999a hk9999b hj9999b hk9999c hj9999c hk9999d hj9999d hF1 hF8 hF_14 bko oq8 pv ps pc oq47 sb e0 t1 I14_0 hm14 c20 c27 ((hF_14.2.2 _ xn0).trans ((hF8.2.2 _ xn0).trans (hF1.2.2 _ xn0))))) (by rw [(e50 : Int32.toInt x50 = (l5_14.toInt + 1))] <;> exact (z_X3_straightOrNot_8 l5_14.toInt I14_0 c27)) (by rw [(e50 : Int32.toInt x50 = (l5_14.toInt + 1))] <;> exact (z_X3_straightOrNot_9 l5_14.toInt N14 hm14)) hT hS (lv_sub hl [1, 2, 3, 0] rfl)
  exact L14 4294967297 0 G8 _ _ _ XFr.rf (v_X3_straightOrNot_12_9 (F := F) G1 a G G8 p2 p3 oq8) (v_X3_straightOrNot_12_10 (K := K) (F := F) a p0 p1 G G8 G1 p2 p3 ha hp0 hp1 oq8 sb e0 t1) (v_X3_straightOrNot_12_11 (F := F) a p0 p1 G G8 G1 p2 p3 oq1 oq8) (v_X3_straightOrNot_12_12 (K := K) (F := F) a p0 p1 G G8 G1 p2 p3 ha hp0 hp1 oq8 sb e0 t1) (by decide) (by decide) hT hS (lv_sub hl [1, 2, 3, 0] rfl)

theorem z_X10_leans_1 (a0 : Int) : (¬ a0 = 0 ∧ ¬ a0 = 1) ∨ (a0 = 0) ∨ (a0 = 1) := by omega
theorem z_X10_leans_4 (a0 : Int) (a1 : Int) (a2 : Int) (a3 : Int) (h0 : ¬ (0 ≤ a0 ∧ a0 < 3 ∧ 0 ≤ a1 ∧ a1 < 30) → a3 = -2000) (h1 : (a2 = 1 ∧ a3 ≠ -2000) ∨ (a2 = 0 ∧ a3 = -2000)) (h2 : a2 ≠ 0) : 0 ≤ a0 ∧ a0 < 3 ∧ 0 ≤ a1 ∧ a1 < 30 := by omega
abbrev rm_X10_leans : Room := { frames := 4, cells := 0, slots := 0, locals := 96 }
set_option maxHeartbeats 4000000 in
set_option maxRecDepth 100000 in
theorem c_X10_leans (l : Launch) (E : XE) (K : Nat → Nat) (F : Nat → Nat → Nat) (G : XG) (a : Nat) (p0 : Int32) (p1 : Int32) (p2 : Int32) (ha : K a = 12) (sb : 0 ≤ ((G.1 (F a 2) 2).toInt) ∧ ((G.1 (F a 2) 2).toInt) ≤ 12) (ron : RO (vw (G.2.1 (F (F a 3) 0))) (aI (G.2.1 (F (F a 3) 1)))) (bko : BKr K G (G.2.2.1 (F (F a 2) 1))) : Met l yX10_leans (xw yX10_leans cX10_leans 4 (some .int)) rm_X10_leans (va_Pc [.ref a, .int p0, .int p1, .int p2] (XP E K F G)) (XQ E (fun v (u : XG) => ∃ r : Int32, v = .int r ∧ XFr [(F a 13, 3)] [F (F a 13) 0, F (F a 13) 1, F (F a 13) 2] [] G u ∧ (((cel (vw (G.2.1 (F (F a 3) 0))) p0.toInt p1.toInt 0 = -2000 ∨ (p2.toInt ≠ 0 ∧ p2.toInt ≠ 1)) ∧ r.toInt = -1) ∨ (cel (vw (G.2.1 (F (F a 3) 0))) p0.toInt p1.toInt 0 ≠ -2000 ∧ ((p2.toInt = 0 ∧ ∃ b : Int → Int, r.toInt = toB b 3 ∧ ∀ t j : Int, inR t j → (bI (b t) j = 1 ↔ lnC G (G.2.2.1 (F (F a 2) 1)) (vw (G.2.1 (F (F a 3) 0))) ((G.1 (F a 2) 2).toInt) t j p0.toInt p1.toInt)) ∨ (p2.toInt = 1 ∧ ∃ b : Int → Int, r.toInt = toB b 3 - 1 ∧ ∀ t j : Int, inR t j → (bI (b t) j = 1 ↔ RCH (lnC G (G.2.2.1 (F (F a 2) 1)) (vw (G.2.1 (F (F a 3) 0))) ((G.1 (F a 2) 2).toInt)) p0.toInt p1.toInt t j)))))) (fun u H => TW E K F u H)) 0 0 (xA E) := by
  refine x_enter (by decide) (Nat.le_of_ble_eq_true rfl) ?_
  intro p e s m args below meth c Q S hr hlk hnm hQ hP ls hl
  obtain ⟨hz, hK, hT⟩ := hP
  obtain ⟨hx, hb, -, -, -⟩ := id S
  obtain ⟨H, hT, hS, hgo⟩ : ∃ H : Heap, TW E K F G H ∧ va_S (xA E) s.heap H [] ∧ H = s.heap := ⟨_, hT, va_S.rf, rfl⟩
  rw [← hgo]
  have hl : lv_has ls 4 [(0, .ref a), (1, .int p0), (2, .int p1), (3, .int p2)] := hl
  obtain ⟨hk9999, hj9999⟩ := fkX10_13 hT ha
  obtain ⟨hk9999a, hj9999a⟩ := fkX3_0 hT hk9999
  obtain ⟨hk9999b, hj9999b⟩ := fkX3_1 hT hk9999
  obtain ⟨hk9999c, hj9999c⟩ := fkX3_2 hT hk9999
  obtain ⟨hk9999d, hj9999d⟩ := fkX10_2 hT ha
  obtain ⟨hk9999e, hj9999e⟩ := fkX0_1 hT hk9999d
  obtain ⟨hk9999f, hj9999f⟩ := fkX10_3 hT ha
  obtain ⟨hk9999g, hj9999g⟩ := fkX6_0 hT hk9999f
  have hj9999h : F (F (F a 3) 0) 99 = 0 := by rw [hj9999g, hj9999f]
  obtain ⟨hk9999h, hj9999i⟩ := fkX6_1 hT hk9999f
  have hj9999j : F (F (F a 3) 1) 99 = 0 := by rw [hj9999i, hj9999f]
  refine lv_aload_n hx hb dX10_leans_0 rfl (lv_at hl 0 rfl) ?_
  refine gX10_3 S hK hT ha kf_X10_37 dX10_leans_1 (fun _ _ => ?_)
  refine lv_iload_n hx hb dX10_leans_4 rfl (lv_at hl 1 rfl) ?_
  have z5 : ¬ (0 ≤ p0.toInt ∧ p0.toInt < 3 ∧ 0 ≤ p1.toInt ∧ p1.toInt < 30) → (cel (vw (G.2.1 (F (F a 3) 0))) (p0.toInt) (p1.toInt) 0) = -2000 := fun h9 => cel_out (by omega)
  refine lv_iload_n hx hb dX10_leans_5 rfl (lv_at hl 2 rfl) ?_
  refine x_clp (x_runV (b := (F a 3)) (As := [.int p0, .int p1]) (rest := []) S (c_X6_has l E K F G H (F a 3) p0 p1 hk9999f (v_X10_leans_6_1 (F := F) a G ron)) mv_X6_has km_X10_191 rfl rfl ⟨Nat.le_of_ble_eq_true rfl, Nat.le_of_ble_eq_true rfl⟩ (rc_8 hK hT hk9999f) hK (fun _ => XPh.blind) (fun U hU hW => XPh.at hK hz hS hT hU hW) rfl hl.1 (Nat.le_of_ble_eq_true rfl) dX10_leans_6 ⟨Nat.le_of_ble_eq_true rfl, Nat.le_of_ble_eq_true rfl⟩) hS ?_
  rintro _ _ locs ⟨x6, rfl, b6, t6⟩ hS
  have t6 : (x6.toInt = 1 ∧ (cel (vw (G.2.1 (F (F a 3) 0))) (p0.toInt) (p1.toInt) 0) ≠ -2000) ∨ (x6.toInt = 0 ∧ (cel (vw (G.2.1 (F (F a 3) 0))) (p0.toInt) (p1.toInt) 0) = -2000) := t6
  refine xi_zne (tgt := 14) hx hb (rfl : Int32.toInt x6 = x6.toInt) dX10_leans_9 (by decide) (fun c9 => ?_) (fun c9 => ?_)
  · refine lv_iload_n hx hb dX10_leans_14 rfl (lv_at hl 3 rfl) ?_
    rcases ((z_X10_leans_1 p2.toInt) : (¬ p2.toInt = 0 ∧ ¬ p2.toInt = 1) ∨ (p2.toInt = 0) ∨ (p2.toInt = 1)) with c15 | c15 | c15
    · refine lv_lookup (off := 61) (tgt := 76) hx hb dX10_leans_15 (by decide) (by first | (simp only [Op.lookupswitch.offset_cons, Op.lookupswitch.offset_nil]; (repeat' split) <;> omega) | (simp [Op.lookupswitch.offset]; (repeat' split) <;> omega) | (simp [Op.lookupswitch.offset]; omega)) (by decide) ?_
      refine lv_iconst (v := (-1)) hx hb dX10_leans_76 (by decide) ?_
      exact x_ri hx hb hr hlk hQ (Nat.le_of_ble_eq_true rfl) (Nat.le_of_ble_eq_true rfl) hS dX10_leans_77 G ⟨_, rfl, XFr.rf, (by rw [((by decide) : Int32.toInt (-1) = (-1 : Int))] <;> exact (v_X10_leans_77_2 (K := K) (F := F) a G p0 p1 x6 p2 ha sb z5 t6 c9 c15))⟩ hT
    · refine lv_lookup (off := 25) (tgt := 40) hx hb dX10_leans_15 (by decide) (by rw [c15]; rfl) (by decide) ?_
      refine lv_aload_n hx hb dX10_leans_40 rfl (lv_at hl 0 rfl) ?_
      refine gX10_13 S hK hT ha kf_X10_84 dX10_leans_41 (fun _ _ => ?_)
      refine lv_aload_n hx hb dX10_leans_44 rfl (lv_at hl 0 rfl) ?_
      refine gX10_3 S hK hT ha kf_X10_37 dX10_leans_45 (fun _ _ => ?_)
      refine lv_aload_n hx hb dX10_leans_48 rfl (lv_at hl 0 rfl) ?_
      refine gX10_2 S hK hT ha kf_X10_30 dX10_leans_49 (fun _ _ => ?_)
      refine lv_iload_n hx hb dX10_leans_52 rfl (lv_at hl 1 rfl) ?_
      refine lv_iload_n hx hb dX10_leans_53 rfl (lv_at hl 2 rfl) ?_
      refine x_cl0 (x_runV (b := (F a 13)) (As := [.ref (F a 3), .ref (F a 2), .int p0, .int p1]) (rest := []) S (c_X3_straight l E K F G (F a 13) (F a 3) (F a 2) p0 p1 hk9999 hk9999f hk9999d (sb) (v_X10_leans_54_3 (K := K) (F := F) a G bko)) mv_X3_straight km_X10_358 rfl rfl ⟨Nat.le_of_ble_eq_true rfl, Nat.le_of_ble_eq_true rfl⟩ (rc_5 hK hT hk9999) hK (fun _ => XP.blind) (fun U hU hW => XP.at hK hz hS hT hU hW) rfl hl.1 (Nat.le_of_ble_eq_true rfl) dX10_leans_54 ⟨Nat.le_of_ble_eq_true rfl, Nat.le_of_ble_eq_true rfl⟩) hS ?_
      rintro _ G54 H locs ⟨x54, rfl, hF54, oq54⟩ hT hS
      exact x_ri hx hb hr hlk hQ (Nat.le_of_ble_eq_true rfl) (Nat.le_of_ble_eq_true rfl) hS dX10_leans_57 G54 ⟨_, rfl, (XFr.call XFr.rf hF54 (xm1 0 rfl xm0) (xm1 0 rfl (xm1 1 rfl (xm1 2 rfl xm0))) xm0), (v_X10_leans_57_4 (K := K) (F := F) a G x54 p0 p1 x6 p2 ha oq54 sb z5 t6 c9 c15)⟩ hT
    · refine lv_lookup (off := 43) (tgt := 58) hx hb dX10_leans_15 (by decide) (by rw [c15]; rfl) (by decide) ?_
      refine lv_aload_n hx hb dX10_leans_58 rfl (lv_at hl 0 rfl) ?_
      refine gX10_13 S hK hT ha kf_X10_84 dX10_leans_59 (fun _ _ => ?_)
      refine lv_aload_n hx hb dX10_leans_62 rfl (lv_at hl 0 rfl) ?_
      refine gX10_3 S hK hT ha kf_X10_37 dX10_leans_63 (fun _ _ => ?_)
      refine lv_aload_n hx hb dX10_leans_66 rfl (lv_at hl 0 rfl) ?_
      refine gX10_2 S hK hT ha kf_X10_30 dX10_leans_67 (fun _ _ => ?_)
      refine lv_iload_n hx hb dX10_leans_70 rfl (lv_at hl 1 rfl) ?_
      refine lv_iload_n hx hb dX10_leans_71 rfl (lv_at hl 2 rfl) ?_
      refine x_cl0 (x_runV (b := (F a 13)) (As := [.ref (F a 3), .ref (F a 2), .int p0, .int p1]) (rest := []) S (c_X3_straightOrNot l E K F G (F a 13) (F a 3) (F a 2) p0 p1 hk9999 hk9999f hk9999d (sb) (z_X10_leans_4 p0.toInt p1.toInt x6.toInt (cel (vw (G.2.1 (F (F a 3) 0))) (p0.toInt) (p1.toInt) 0) z5 t6 c9) (v_X10_leans_72_5 (K := K) (F := F) a G bko)) mv_X3_straightOrNot km_X10_362 rfl rfl ⟨Nat.le_of_ble_eq_true rfl, Nat.le_of_ble_eq_true rfl⟩ (rc_5 hK hT hk9999) hK (fun _ => XP.blind) (fun U hU hW => XP.at hK hz hS hT hU hW) rfl hl.1 (Nat.le_of_ble_eq_true rfl) dX10_leans_72 ⟨Nat.le_of_ble_eq_true rfl, Nat.le_of_ble_eq_true rfl⟩) hS ?_
      rintro _ G72 H locs ⟨x72, rfl, hF72, oq72⟩ hT hS
      exact x_ri hx hb hr hlk hQ (Nat.le_of_ble_eq_true rfl) (Nat.le_of_ble_eq_true rfl) hS dX10_leans_75 G72 ⟨_, rfl, (XFr.call XFr.rf hF72 (xm1 0 rfl xm0) (xm1 0 rfl (xm1 1 rfl (xm1 2 rfl xm0))) xm0), (v_X10_leans_75_6 (K := K) (F := F) a G x72 p0 p1 x6 p2 ha oq72 sb z5 t6 c9 c15)⟩ hT
  · refine lv_iconst (v := (-1)) hx hb dX10_leans_12 (by decide) ?_
    exact x_ri hx hb hr hlk hQ (Nat.le_of_ble_eq_true rfl) (Nat.le_of_ble_eq_true rfl) hS dX10_leans_13 G ⟨_, rfl, XFr.rf, (by rw [((by decide) : Int32.toInt (-1) = (-1 : Int))] <;> exact (v_X10_leans_13_7 (K := K) (F := F) a G p0 p1 x6 p2 ha sb z5 t6 c9))⟩ hT
/-! ===== the reader's place: within the text ===== -/
theorem bl_p9 {t : Int → Int} {n z : Int} (hx : TXe t n) (h : 0 ≤ z ∧ z ≤ n) : 0 ≤ rn cBl t z ∧ rn cBl t z ≤ n := by
  obtain ⟨-, r1, r2⟩ := rn_in (P := cBl) (by unfold cBl; decide) hx h.2
  omega
theorem tkW_b {t : Int → Int} {n : Int} {w : List Int} {S : RSt} (hx : TXe t n) (h : 0 ≤ S.2 ∧ S.2 ≤ n) : 0 ≤ (tkW t w S).2.2 ∧ (tkW t w S).2.2 ≤ n := by
  by_cases c : S.1 = 1 ∧ wOk t S.2 w
  · rw [tkW_t c.1 c.2]
    obtain ⟨-, r1, r2⟩ := rn_in (P := cLt) (by unfold cLt; decide) hx h.2
    have e := c.2.1
    exact bl_p9 hx (by omega)
  · rw [tkW_f c]; exact h
theorem tkN_p {t : Int → Int} {n lo hi : Int} {S : RSt} (hx : TXe t n) (h : 0 ≤ S.2 ∧ S.2 ≤ n) : 0 ≤ (tkN t lo hi S).2.2 ∧ (tkN t lo hi S).2.2 ≤ n := by
  by_cases c : S.1 = 1 ∧ nOk t S.2 ∧ lo ≤ nVl t S.2 ∧ nVl t S.2 ≤ hi
  · rw [tkN_t c.1 c.2.1 c.2.2.1 c.2.2.2]
    have hs : 0 ≤ nS t S.2 ∧ nS t S.2 ≤ n := by
      unfold nS
      split
      · rename_i e
        by_cases g : n ≤ S.2
        · have := hx S.2 g
          omega
        · omega
      · exact h
    obtain ⟨-, r1, r2⟩ := rn_in (P := cDg) (by unfold cDg; decide) hx hs.2
    have e : nE t S.2 = rn cDg t (nS t S.2) := rfl
    exact bl_p9 hx (by omega)
  · rw [tkN_f c]; exact h
theorem tkK_p {t : Int → Int} {n : Int} {S : RSt} (hx : TXe t n) (h : 0 ≤ S.2 ∧ S.2 ≤ n) : 0 ≤ (tkK t S).2.2 ∧ (tkK t S).2.2 ≤ n := by
  have key : ∀ f k : Nat, 0 ≤ (tkKf t S f k).2.2 ∧ (tkKf t S f k).2.2 ≤ n := by
    intro f
    induction f with
    | zero => intro k; exact h
    | succ f ih =>
      intro k
      show 0 ≤ (if (tkW t (kw k) S).1 = 1 then ((k : Int), (tkW t (kw k) S).2) else tkKf t S f (k + 1)).2.2 ∧ (if (tkW t (kw k) S).1 = 1 then ((k : Int), (tkW t (kw k) S).2) else tkKf t S f (k + 1)).2.2 ≤ n
      split
      · exact tkW_b hx h
      · exact ih _
  exact key 6 0
theorem tkA_p {t : Int → Int} {n : Int} {S : RSt} (hx : TXe t n) (h : 0 ≤ S.2 ∧ S.2 ≤ n) : 0 ≤ (tkA t S).2.2 ∧ (tkA t S).2.2 ≤ n := by
  unfold tkA
  split
  · exact tkW_b hx h
  · split
    · exact tkW_b hx h
    · exact h
theorem rS9_b {t : Int → Int} {n : Int} (hx : TXe t n) (hn : 0 ≤ n) : 0 ≤ (rS9 t).2.2 ∧ (rS9 t).2.2 ≤ n := by
  have b1 : 0 ≤ (rS1 t).2.2 ∧ (rS1 t).2.2 ≤ n := tkK_p hx (bl_p9 hx ⟨by omega, hn⟩)
  have b2 : 0 ≤ (rS2 t).2.2 ∧ (rS2 t).2.2 ≤ n := tkN_p hx b1
  have b3 : 0 ≤ (rS3 t).2.2 ∧ (rS3 t).2.2 ≤ n := tkN_p hx b2
  have b4 : 0 ≤ (rS4 t).2.2 ∧ (rS4 t).2.2 ≤ n := by
    unfold rS4
    split
    · exact tkN_p hx b3
    · exact b3
  have b5 : 0 ≤ (rS5 t).2.2 ∧ (rS5 t).2.2 ≤ n := by
    unfold rS5
    split
    · exact tkN_p hx b4
    · exact b4
  have b6 : 0 ≤ (rS6 t).2.2 ∧ (rS6 t).2.2 ≤ n := by
    unfold rS6
    split
    · exact tkN_p hx b5
    · exact b5
  have b7 : 0 ≤ (rS7 t).2.2 ∧ (rS7 t).2.2 ≤ n := by
    unfold rS7
    split
    · exact tkA_p hx b6
    · exact b6
  have b8 : 0 ≤ (rS8 t).2.2 ∧ (rS8 t).2.2 ≤ n := tkW_b hx b7
  unfold rS9
  split
  · exact tkN_p hx (tkW_b hx b8)
  · exact tkW_b hx b8
theorem v_X10_rule_39_1 {F : Nat → Nat → Nat} (G : XG) (a : Nat) (x20 : Int32) (G20 : XG)
    (n1 : 0 ≤ ((G.1 (F a 0) 1).toInt))
    (t20 : (((0 : Int) < 0 ∨ ((G.1 (F a 0) 1).toInt) < (0 : Int)) ∧ x20.toInt = 0 ∧ ((G20.1 (F a 0) 1).toInt) = ((G.1 (F a 0) 1).toInt)) ∨ ((0 ≤ (0 : Int) ∧ (0 : Int) ≤ ((G.1 (F a 0) 1).toInt)) ∧ x20.toInt = 1 ∧ ((G20.1 (F a 0) 1).toInt) = (0 : Int))) :
    (G20.1 (F a 0) 1).toInt = 0 := by
  omega
theorem v_X10_rule_39_2 {F : Nat → Nat → Nat} (G11 : XG) (a : Nat) (G : XG) (x38 : Int32) (G20 : XG) (q11 : Nat)
    (oq11 : (G11.1 (F a 1) 2).toInt = (rS9 (tC (G.2.1 (F (F (F a 1) 0) 0)) ((G.1 (F (F a 1) 0) 1).toInt))).2.2)
    (hn11 : ¬ rOk (tC (G.2.1 (F (F (F a 1) 0) 0)) ((G.1 (F (F a 1) 0) 1).toInt)) ((G.1 (F (F a 1) 0) 1).toInt))
    (n0 : 0 ≤ ((G.1 (F (F a 1) 0) 1).toInt) ∧ ((G.1 (F (F a 1) 0) 1).toInt) ≤ 80)
    (n1 : 0 ≤ ((G.1 (F a 0) 1).toInt))
    (t38 : x38.toInt = (-1000 : Int) - ((G11.1 (F a 1) 2).toInt) ∨ (-1000 : Int) - ((G11.1 (F a 1) 2).toInt) < -2147483648 ∨ 2147483648 ≤ (-1000 : Int) - ((G11.1 (F a 1) 2).toInt))
    (r_G20_F_F_a_2_0 : G20.2.2.1 (F (F a 2) 0) = G.2.2.1 (F (F a 2) 0))
    (r_G20_F_F_a_2_1 : G20.2.2.1 (F (F a 2) 1) = G.2.2.1 (F (F a 2) 1))
    (d_G20_F_a_2_2 : G20.1 (F a 2) 2 = G.1 (F a 2) 2) :
    (¬ rOk (tC (G.2.1 (F (F (F a 1) 0) 0)) ((G.1 (F (F a 1) 0) 1).toInt)) ((G.1 (F (F a 1) 0) 1).toInt) ∧ x38.toInt = -1000 - (rS9 (tC (G.2.1 (F (F (F a 1) 0) 0)) ((G.1 (F (F a 1) 0) 1).toInt))).2.2 ∧ (G20.2.2.1 (F (F a 2) 0) = G.2.2.1 (F (F a 2) 0) ∧ G20.2.2.1 (F (F a 2) 1) = G.2.2.1 (F (F a 2) 1) ∧ G20.1 (F a 2) 2 = G.1 (F a 2) 2)) ∨ (rOk (tC (G.2.1 (F (F (F a 1) 0) 0)) ((G.1 (F (F a 1) 0) 1).toInt)) ((G.1 (F (F a 1) 0) 1).toInt) ∧ (G.1 a 18).toInt ≠ 0 ∧ x38.toInt = -3 ∧ (G20.2.2.1 (F (F a 2) 0) = G.2.2.1 (F (F a 2) 0) ∧ G20.2.2.1 (F (F a 2) 1) = G.2.2.1 (F (F a 2) 1) ∧ G20.1 (F a 2) 2 = G.1 (F a 2) 2)) ∨ (rOk (tC (G.2.1 (F (F (F a 1) 0) 0)) ((G.1 (F (F a 1) 0) 1).toInt)) ((G.1 (F (F a 1) 0) 1).toInt) ∧ (G.1 a 18).toInt = 0 ∧ (∀ i : Nat, i < 12 → G.2.2.1 (F (F a 2) 0) i ≠ none) ∧ x38.toInt = -4 ∧ (G20.2.2.1 (F (F a 2) 0) = G.2.2.1 (F (F a 2) 0) ∧ G20.2.2.1 (F (F a 2) 1) = G.2.2.1 (F (F a 2) 1) ∧ G20.1 (F a 2) 2 = G.1 (F a 2) 2)) ∨ (rOk (tC (G.2.1 (F (F (F a 1) 0) 0)) ((G.1 (F (F a 1) 0) 1).toInt)) ((G.1 (F (F a 1) 0) 1).toInt) ∧ (G.1 a 18).toInt = 0 ∧ (0 ≤ (G20.1 q11 1).toInt ∧ (G20.1 q11 1).toInt ≤ 11) ∧ G.2.2.1 (F (F a 2) 0) ((G20.1 q11 1).toInt).toNat = none ∧ (∀ i : Nat, (i : Int) < (G20.1 q11 1).toInt → G.2.2.1 (F (F a 2) 0) i ≠ none) ∧ ((G20.1 q11 0).toInt = (rS1 (tC (G.2.1 (F (F (F a 1) 0) 0)) ((G.1 (F (F a 1) 0) 1).toInt))).1 ∧ (G20.1 q11 2).toInt = (rS2 (tC (G.2.1 (F (F (F a 1) 0) 0)) ((G.1 (F (F a 1) 0) 1).toInt))).1 ∧ (G20.1 q11 3).toInt = (rS3 (tC (G.2.1 (F (F (F a 1) 0) 0)) ((G.1 (F (F a 1) 0) 1).toInt))).1 ∧ (G20.1 q11 4).toInt = (rS4 (tC (G.2.1 (F (F (F a 1) 0) 0)) ((G.1 (F (F a 1) 0) 1).toInt))).1 ∧ (G20.1 q11 5).toInt = (rS5 (tC (G.2.1 (F (F (F a 1) 0) 0)) ((G.1 (F (F a 1) 0) 1).toInt))).1 ∧ (G20.1 q11 6).toInt = (rS6 (tC (G.2.1 (F (F (F a 1) 0) 0)) ((G.1 (F (F a 1) 0) 1).toInt))).1 ∧ (G20.1 q11 7).toInt = (rS7 (tC (G.2.1 (F (F (F a 1) 0) 0)) ((G.1 (F (F a 1) 0) 1).toInt))).1 ∧ (G20.1 q11 8).toInt = (rS9 (tC (G.2.1 (F (F (F a 1) 0) 0)) ((G.1 (F (F a 1) 0) 1).toInt))).1 ∧ (G20.1 q11 9).toInt = (rS8 (tC (G.2.1 (F (F (F a 1) 0) 0)) ((G.1 (F (F a 1) 0) 1).toInt))).1) ∧ ((ffL (uqs (vw (G.2.1 (F (F a 6) 0))) (vw (G.2.1 (F (F a 3) 0))) (G20.1 q11)) ≠ -1 ∧ x38.toInt = -5 ∧ (G20.2.2.1 (F (F a 2) 0) = G.2.2.1 (F (F a 2) 0) ∧ G20.2.2.1 (F (F a 2) 1) = G.2.2.1 (F (F a 2) 1) ∧ G20.1 (F a 2) 2 = G.1 (F a 2) 2)) ∨ (ffL (uqs (vw (G.2.1 (F (F a 6) 0))) (vw (G.2.1 (F (F a 3) 0))) (G20.1 q11)) = -1 ∧ x38.toInt = (G20.1 q11 1).toInt ∧ (∀ i : Nat, G20.2.2.1 (F (F a 2) 0) i = if i = ((G20.1 q11 1).toInt).toNat then some q11 else G.2.2.1 (F (F a 2) 0) i) ∧ BO G20 F (F a 2)))) := by
  have pb := rS9_b (tC_e (G.2.1 (F (F (F a 1) 0) 0)) ((G.1 (F (F a 1) 0) 1).toInt)) (by omega)
  exact Or.inl ⟨hn11, by omega, ⟨r_G20_F_F_a_2_0, r_G20_F_F_a_2_1, d_G20_F_a_2_2⟩⟩
theorem v_X10_rule_39_3 {F : Nat → Nat → Nat} (G20 : XG) (a : Nat) (G : XG)
    (r_G20_F_F_a_2_1 : G20.2.2.1 (F (F a 2) 1) = G.2.2.1 (F (F a 2) 1)) :
    ∀ (i p : Nat), G20.2.2.1 (F (F a 2) 1) i = some p → (∃ j : Nat, G.2.2.1 (F (F a 2) 1) j = some p) ∨ ∃ j : Nat, G20.2.2.1 (F (F a 2) 0) j = some p := by
  intro i p h
  rw [r_G20_F_F_a_2_1] at h
  exact Or.inl ⟨i, h⟩
theorem v_X10_rule_73_4 {F : Nat → Nat → Nat} (a : Nat) (G : XG) (G68 : XG)
    (ro0 : RO (vw (G.2.1 (F (F a 6) 0))) (aI (G.2.1 (F (F a 6) 1))))
    (ron : RO (vw (G.2.1 (F (F a 3) 0))) (aI (G.2.1 (F (F a 3) 1))))
    (c_G68_F_F_a_6_0 : G68.2.1 (F (F a 6) 0) = G.2.1 (F (F a 6) 0))
    (c_G68_F_F_a_6_1 : G68.2.1 (F (F a 6) 1) = G.2.1 (F (F a 6) 1)) :
    RO (vw (G68.2.1 (F (F a 6) 0))) (aI (G68.2.1 (F (F a 6) 1))) := by simp only [c_G68_F_F_a_6_0, c_G68_F_F_a_6_1]; assumption
theorem v_X10_rule_73_5 {F : Nat → Nat → Nat} (a : Nat) (G : XG) (G68 : XG)
    (ro0 : RO (vw (G.2.1 (F (F a 6) 0))) (aI (G.2.1 (F (F a 6) 1))))
    (ron : RO (vw (G.2.1 (F (F a 3) 0))) (aI (G.2.1 (F (F a 3) 1))))
    (c_G68_F_F_a_3_0 : G68.2.1 (F (F a 3) 0) = G.2.1 (F (F a 3) 0))
    (c_G68_F_F_a_3_1 : G68.2.1 (F (F a 3) 1) = G.2.1 (F (F a 3) 1)) :
    RO (vw (G68.2.1 (F (F a 3) 0))) (aI (G68.2.1 (F (F a 3) 1))) := by simp only [c_G68_F_F_a_3_0, c_G68_F_F_a_3_1]; assumption
theorem v_X10_rule_73_6 {F : Nat → Nat → Nat} (G11 : XG) (q11 : Nat) (G : XG) (a : Nat) (G68 : XG)
    (hf11 : (G11.1 q11 1).toInt = -1 ∧ (G11.1 q11 0).toInt = (rS1 (tC (G.2.1 (F (F (F a 1) 0) 0)) ((G.1 (F (F a 1) 0) 1).toInt))).1 ∧ (G11.1 q11 2).toInt = (rS2 (tC (G.2.1 (F (F (F a 1) 0) 0)) ((G.1 (F (F a 1) 0) 1).toInt))).1 ∧ (G11.1 q11 3).toInt = (rS3 (tC (G.2.1 (F (F (F a 1) 0) 0)) ((G.1 (F (F a 1) 0) 1).toInt))).1 ∧ (G11.1 q11 4).toInt = (rS4 (tC (G.2.1 (F (F (F a 1) 0) 0)) ((G.1 (F (F a 1) 0) 1).toInt))).1 ∧ (G11.1 q11 5).toInt = (rS5 (tC (G.2.1 (F (F (F a 1) 0) 0)) ((G.1 (F (F a 1) 0) 1).toInt))).1 ∧ (G11.1 q11 6).toInt = (rS6 (tC (G.2.1 (F (F (F a 1) 0) 0)) ((G.1 (F (F a 1) 0) 1).toInt))).1 ∧ (G11.1 q11 7).toInt = (rS7 (tC (G.2.1 (F (F (F a 1) 0) 0)) ((G.1 (F (F a 1) 0) 1).toInt))).1 ∧ (G11.1 q11 9).toInt = (rS8 (tC (G.2.1 (F (F (F a 1) 0) 0)) ((G.1 (F (F a 1) 0) 1).toInt))).1 ∧ (G11.1 q11 8).toInt = (rS9 (tC (G.2.1 (F (F (F a 1) 0) 0)) ((G.1 (F (F a 1) 0) 1).toInt))).1)
    (d_G68_q11_0 : G68.1 q11 0 = G11.1 q11 0)
    (d_G68_q11_2 : G68.1 q11 2 = G11.1 q11 2)
    (d_G68_q11_3 : G68.1 q11 3 = G11.1 q11 3)
    (d_G68_q11_4 : G68.1 q11 4 = G11.1 q11 4) :
    RW (G68.1 q11) := by
  obtain ⟨f1, f0, f2, f3, f4, f5, f6, f7, f9, f8⟩ := hf11
  have b := rS_b (tC (G.2.1 (F (F (F a 1) 0) 0)) ((G.1 (F (F a 1) 0) 1).toInt))
  unfold RW
  rw [d_G68_q11_0, d_G68_q11_2, d_G68_q11_3, d_G68_q11_4, f0, f2, f3, f4]
  exact ⟨b.1, b.2.1, b.2.2.1, b.2.2.2.1, b.2.2.2.2.1⟩
theorem v_X10_rule_117_7 {F : Nat → Nat → Nat} (G : XG) (a : Nat) (x20 : Int32) (G20 : XG) (G113 : XG)
    (n1 : 0 ≤ ((G.1 (F a 0) 1).toInt))
    (t20 : (((0 : Int) < 0 ∨ ((G.1 (F a 0) 1).toInt) < (0 : Int)) ∧ x20.toInt = 0 ∧ ((G20.1 (F a 0) 1).toInt) = ((G.1 (F a 0) 1).toInt)) ∨ ((0 ≤ (0 : Int) ∧ (0 : Int) ≤ ((G.1 (F a 0) 1).toInt)) ∧ x20.toInt = 1 ∧ ((G20.1 (F a 0) 1).toInt) = (0 : Int)))
    (d_G113_F_a_0_1 : G113.1 (F a 0) 1 = G20.1 (F a 0) 1) :
    (G113.1 (F a 0) 1).toInt = 0 := by
  rw [d_G113_F_a_0_1]
  omega
theorem v_X10_rule_117_8 {F : Nat → Nat → Nat} (G : XG) (a : Nat) (G11 : XG) (q11 : Nat) (x54 : Int32) (G20 : XG) (x73 : Int32) (G73 : XG) (G68 : XG) (G113 : XG)
    (hs11 : rOk (tC (G.2.1 (F (F (F a 1) 0) 0)) ((G.1 (F (F a 1) 0) 1).toInt)) ((G.1 (F (F a 1) 0) 1).toInt))
    (hf11 : (G11.1 q11 1).toInt = -1 ∧ (G11.1 q11 0).toInt = (rS1 (tC (G.2.1 (F (F (F a 1) 0) 0)) ((G.1 (F (F a 1) 0) 1).toInt))).1 ∧ (G11.1 q11 2).toInt = (rS2 (tC (G.2.1 (F (F (F a 1) 0) 0)) ((G.1 (F (F a 1) 0) 1).toInt))).1 ∧ (G11.1 q11 3).toInt = (rS3 (tC (G.2.1 (F (F (F a 1) 0) 0)) ((G.1 (F (F a 1) 0) 1).toInt))).1 ∧ (G11.1 q11 4).toInt = (rS4 (tC (G.2.1 (F (F (F a 1) 0) 0)) ((G.1 (F (F a 1) 0) 1).toInt))).1 ∧ (G11.1 q11 5).toInt = (rS5 (tC (G.2.1 (F (F (F a 1) 0) 0)) ((G.1 (F (F a 1) 0) 1).toInt))).1 ∧ (G11.1 q11 6).toInt = (rS6 (tC (G.2.1 (F (F (F a 1) 0) 0)) ((G.1 (F (F a 1) 0) 1).toInt))).1 ∧ (G11.1 q11 7).toInt = (rS7 (tC (G.2.1 (F (F (F a 1) 0) 0)) ((G.1 (F (F a 1) 0) 1).toInt))).1 ∧ (G11.1 q11 9).toInt = (rS8 (tC (G.2.1 (F (F (F a 1) 0) 0)) ((G.1 (F (F a 1) 0) 1).toInt))).1 ∧ (G11.1 q11 8).toInt = (rS9 (tC (G.2.1 (F (F (F a 1) 0) 0)) ((G.1 (F (F a 1) 0) 1).toInt))).1)
    (oq54 : (x54.toInt = -1 ∧ ∀ i : Nat, i < 12 → G20.2.2.1 (F (F a 2) 0) i ≠ none) ∨ (0 ≤ x54.toInt ∧ G20.2.2.1 (F (F a 2) 0) (x54.toInt).toNat = none ∧ ∀ i : Nat, (i : Int) < x54.toInt → G20.2.2.1 (F (F a 2) 0) i ≠ none))
    (oq73 : x73.toInt = ffL (qL G73 F (F a 9)))
    (oq73a : qL G73 F (F a 9) = uqs (vw (G.2.1 (F (F a 6) 0))) (vw (G.2.1 (F (F a 3) 0))) (G68.1 q11))
    (oq113 : ∀ i : Nat, G113.2.2.1 (F (F a 2) 0) i = if i = (((G73.1 q11 1).toInt)).toNat then some q11 else G73.2.2.1 (F (F a 2) 0) i)
    (oq113a : BO G113 F (F a 2))
    (c44 : ((G.1 a 18).toInt) = 0)
    (t54 : -1 ≤ x54.toInt ∧ x54.toInt ≤ 11)
    (c60 : x54.toInt ≠ (-1 : Int))
    (t73 : -1 ≤ x73.toInt)
    (c79 : x73.toInt = (-1 : Int))
    (r_G20_F_F_a_2_0 : G20.2.2.1 (F (F a 2) 0) = G.2.2.1 (F (F a 2) 0))
    (r_G73_F_F_a_2_0 : G73.2.2.1 (F (F a 2) 0) = G.2.2.1 (F (F a 2) 0))
    (D_G113_q11 : G113.1 q11 = G68.1 q11)
    (D_G73_q11 : G73.1 q11 = G68.1 q11)
    (d_G68_q11_0 : G68.1 q11 0 = G11.1 q11 0)
    (d_G68_q11_1 : G68.1 q11 1 = x54)
    (d_G68_q11_2 : G68.1 q11 2 = G11.1 q11 2)
    (d_G68_q11_3 : G68.1 q11 3 = G11.1 q11 3)
    (d_G68_q11_4 : G68.1 q11 4 = G11.1 q11 4)
    (d_G68_q11_5 : G68.1 q11 5 = G11.1 q11 5)
    (d_G68_q11_6 : G68.1 q11 6 = G11.1 q11 6)
    (d_G68_q11_7 : G68.1 q11 7 = G11.1 q11 7)
    (d_G68_q11_8 : G68.1 q11 8 = G11.1 q11 8)
    (d_G68_q11_9 : G68.1 q11 9 = G11.1 q11 9) :
    (¬ rOk (tC (G.2.1 (F (F (F a 1) 0) 0)) ((G.1 (F (F a 1) 0) 1).toInt)) ((G.1 (F (F a 1) 0) 1).toInt) ∧ x54.toInt = -1000 - (rS9 (tC (G.2.1 (F (F (F a 1) 0) 0)) ((G.1 (F (F a 1) 0) 1).toInt))).2.2 ∧ (G113.2.2.1 (F (F a 2) 0) = G.2.2.1 (F (F a 2) 0) ∧ G113.2.2.1 (F (F a 2) 1) = G.2.2.1 (F (F a 2) 1) ∧ G113.1 (F a 2) 2 = G.1 (F a 2) 2)) ∨ (rOk (tC (G.2.1 (F (F (F a 1) 0) 0)) ((G.1 (F (F a 1) 0) 1).toInt)) ((G.1 (F (F a 1) 0) 1).toInt) ∧ (G.1 a 18).toInt ≠ 0 ∧ x54.toInt = -3 ∧ (G113.2.2.1 (F (F a 2) 0) = G.2.2.1 (F (F a 2) 0) ∧ G113.2.2.1 (F (F a 2) 1) = G.2.2.1 (F (F a 2) 1) ∧ G113.1 (F a 2) 2 = G.1 (F a 2) 2)) ∨ (rOk (tC (G.2.1 (F (F (F a 1) 0) 0)) ((G.1 (F (F a 1) 0) 1).toInt)) ((G.1 (F (F a 1) 0) 1).toInt) ∧ (G.1 a 18).toInt = 0 ∧ (∀ i : Nat, i < 12 → G.2.2.1 (F (F a 2) 0) i ≠ none) ∧ x54.toInt = -4 ∧ (G113.2.2.1 (F (F a 2) 0) = G.2.2.1 (F (F a 2) 0) ∧ G113.2.2.1 (F (F a 2) 1) = G.2.2.1 (F (F a 2) 1) ∧ G113.1 (F a 2) 2 = G.1 (F a 2) 2)) ∨ (rOk (tC (G.2.1 (F (F (F a 1) 0) 0)) ((G.1 (F (F a 1) 0) 1).toInt)) ((G.1 (F (F a 1) 0) 1).toInt) ∧ (G.1 a 18).toInt = 0 ∧ (0 ≤ (G113.1 q11 1).toInt ∧ (G113.1 q11 1).toInt ≤ 11) ∧ G.2.2.1 (F (F a 2) 0) ((G113.1 q11 1).toInt).toNat = none ∧ (∀ i : Nat, (i : Int) < (G113.1 q11 1).toInt → G.2.2.1 (F (F a 2) 0) i ≠ none) ∧ ((G113.1 q11 0).toInt = (rS1 (tC (G.2.1 (F (F (F a 1) 0) 0)) ((G.1 (F (F a 1) 0) 1).toInt))).1 ∧ (G113.1 q11 2).toInt = (rS2 (tC (G.2.1 (F (F (F a 1) 0) 0)) ((G.1 (F (F a 1) 0) 1).toInt))).1 ∧ (G113.1 q11 3).toInt = (rS3 (tC (G.2.1 (F (F (F a 1) 0) 0)) ((G.1 (F (F a 1) 0) 1).toInt))).1 ∧ (G113.1 q11 4).toInt = (rS4 (tC (G.2.1 (F (F (F a 1) 0) 0)) ((G.1 (F (F a 1) 0) 1).toInt))).1 ∧ (G113.1 q11 5).toInt = (rS5 (tC (G.2.1 (F (F (F a 1) 0) 0)) ((G.1 (F (F a 1) 0) 1).toInt))).1 ∧ (G113.1 q11 6).toInt = (rS6 (tC (G.2.1 (F (F (F a 1) 0) 0)) ((G.1 (F (F a 1) 0) 1).toInt))).1 ∧ (G113.1 q11 7).toInt = (rS7 (tC (G.2.1 (F (F (F a 1) 0) 0)) ((G.1 (F (F a 1) 0) 1).toInt))).1 ∧ (G113.1 q11 8).toInt = (rS9 (tC (G.2.1 (F (F (F a 1) 0) 0)) ((G.1 (F (F a 1) 0) 1).toInt))).1 ∧ (G113.1 q11 9).toInt = (rS8 (tC (G.2.1 (F (F (F a 1) 0) 0)) ((G.1 (F (F a 1) 0) 1).toInt))).1) ∧ ((ffL (uqs (vw (G.2.1 (F (F a 6) 0))) (vw (G.2.1 (F (F a 3) 0))) (G113.1 q11)) ≠ -1 ∧ x54.toInt = -5 ∧ (G113.2.2.1 (F (F a 2) 0) = G.2.2.1 (F (F a 2) 0) ∧ G113.2.2.1 (F (F a 2) 1) = G.2.2.1 (F (F a 2) 1) ∧ G113.1 (F a 2) 2 = G.1 (F a 2) 2)) ∨ (ffL (uqs (vw (G.2.1 (F (F a 6) 0))) (vw (G.2.1 (F (F a 3) 0))) (G113.1 q11)) = -1 ∧ x54.toInt = (G113.1 q11 1).toInt ∧ (∀ i : Nat, G113.2.2.1 (F (F a 2) 0) i = if i = ((G113.1 q11 1).toInt).toNat then some q11 else G.2.2.1 (F (F a 2) 0) i) ∧ BO G113 F (F a 2)))) := by
  obtain ⟨f1, f0, f2, f3, f4, f5, f6, f7, f9, f8⟩ := hf11
  have lf := oq54
  rw [r_G20_F_F_a_2_0] at lf
  have kk : (G113.1 q11 1).toInt = x54.toInt := by rw [D_G113_q11, d_G68_q11_1]
  rcases lf with ⟨h1, -⟩ | ⟨h1, h2, h3⟩
  · exfalso; omega
  · refine Or.inr (Or.inr (Or.inr ⟨hs11, by omega, by omega, by rw [kk]; exact h2, fun i hi => h3 i (by rw [← kk]; exact hi), ⟨(by rw [D_G113_q11, d_G68_q11_0]; exact f0), (by rw [D_G113_q11, d_G68_q11_2]; exact f2), (by rw [D_G113_q11, d_G68_q11_3]; exact f3), (by rw [D_G113_q11, d_G68_q11_4]; exact f4), (by rw [D_G113_q11, d_G68_q11_5]; exact f5), (by rw [D_G113_q11, d_G68_q11_6]; exact f6), (by rw [D_G113_q11, d_G68_q11_7]; exact f7), (by rw [D_G113_q11, d_G68_q11_8]; exact f8), (by rw [D_G113_q11, d_G68_q11_9]; exact f9)⟩, ?_⟩))
    have e9 : G113.1 q11 = G68.1 q11 := D_G113_q11
    rw [e9]
    have ff : x73.toInt = ffL (uqs (vw (G.2.1 (F (F a 6) 0))) (vw (G.2.1 (F (F a 3) 0))) (G68.1 q11)) := by rw [← oq73a]; exact oq73
    refine Or.inr ⟨by omega, by rw [d_G68_q11_1], fun i => ?_, oq113a⟩
    rw [oq113 i, r_G73_F_F_a_2_0]
    rw [show (G73.1 q11 1) = x54 from by rw [D_G73_q11, d_G68_q11_1], d_G68_q11_1]
theorem v_X10_rule_117_9 {F : Nat → Nat → Nat} (G113 : XG) (a : Nat) (G73 : XG) (G : XG)
    (oq113b : ∀ (i q : Nat), G113.2.2.1 (F (F a 2) 1) i = some q → (∃ j : Nat, G73.2.2.1 (F (F a 2) 1) j = some q) ∨ ∃ j : Nat, G113.2.2.1 (F (F a 2) 0) j = some q)
    (r_G73_F_F_a_2_1 : G73.2.2.1 (F (F a 2) 1) = G.2.2.1 (F (F a 2) 1)) :
    ∀ (i p : Nat), G113.2.2.1 (F (F a 2) 1) i = some p → (∃ j : Nat, G.2.2.1 (F (F a 2) 1) j = some p) ∨ ∃ j : Nat, G113.2.2.1 (F (F a 2) 0) j = some p := by
  intro i p h
  rcases oq113b i p h with ⟨j, e⟩ | ⟨j, e⟩
  · exact Or.inl ⟨j, by rw [← r_G73_F_F_a_2_1]; exact e⟩
  · exact Or.inr ⟨j, e⟩
theorem v_X10_rule_107_10 {F : Nat → Nat → Nat} (G : XG) (a : Nat) (x20 : Int32) (G20 : XG) (G102 : XG)
    (n1 : 0 ≤ ((G.1 (F a 0) 1).toInt))
    (t20 : (((0 : Int) < 0 ∨ ((G.1 (F a 0) 1).toInt) < (0 : Int)) ∧ x20.toInt = 0 ∧ ((G20.1 (F a 0) 1).toInt) = ((G.1 (F a 0) 1).toInt)) ∨ ((0 ≤ (0 : Int) ∧ (0 : Int) ≤ ((G.1 (F a 0) 1).toInt)) ∧ x20.toInt = 1 ∧ ((G20.1 (F a 0) 1).toInt) = (0 : Int)))
    (d_G102_F_a_0_1 : G102.1 (F a 0) 1 = G20.1 (F a 0) 1) :
    (G102.1 (F a 0) 1).toInt = 0 := by
  rw [d_G102_F_a_0_1]
  omega
theorem v_X10_rule_107_11 {F : Nat → Nat → Nat} (G : XG) (a : Nat) (G11 : XG) (q11 : Nat) (x54 : Int32) (G20 : XG) (x73 : Int32) (G73 : XG) (G68 : XG) (G102 : XG)
    (hs11 : rOk (tC (G.2.1 (F (F (F a 1) 0) 0)) ((G.1 (F (F a 1) 0) 1).toInt)) ((G.1 (F (F a 1) 0) 1).toInt))
    (hf11 : (G11.1 q11 1).toInt = -1 ∧ (G11.1 q11 0).toInt = (rS1 (tC (G.2.1 (F (F (F a 1) 0) 0)) ((G.1 (F (F a 1) 0) 1).toInt))).1 ∧ (G11.1 q11 2).toInt = (rS2 (tC (G.2.1 (F (F (F a 1) 0) 0)) ((G.1 (F (F a 1) 0) 1).toInt))).1 ∧ (G11.1 q11 3).toInt = (rS3 (tC (G.2.1 (F (F (F a 1) 0) 0)) ((G.1 (F (F a 1) 0) 1).toInt))).1 ∧ (G11.1 q11 4).toInt = (rS4 (tC (G.2.1 (F (F (F a 1) 0) 0)) ((G.1 (F (F a 1) 0) 1).toInt))).1 ∧ (G11.1 q11 5).toInt = (rS5 (tC (G.2.1 (F (F (F a 1) 0) 0)) ((G.1 (F (F a 1) 0) 1).toInt))).1 ∧ (G11.1 q11 6).toInt = (rS6 (tC (G.2.1 (F (F (F a 1) 0) 0)) ((G.1 (F (F a 1) 0) 1).toInt))).1 ∧ (G11.1 q11 7).toInt = (rS7 (tC (G.2.1 (F (F (F a 1) 0) 0)) ((G.1 (F (F a 1) 0) 1).toInt))).1 ∧ (G11.1 q11 9).toInt = (rS8 (tC (G.2.1 (F (F (F a 1) 0) 0)) ((G.1 (F (F a 1) 0) 1).toInt))).1 ∧ (G11.1 q11 8).toInt = (rS9 (tC (G.2.1 (F (F (F a 1) 0) 0)) ((G.1 (F (F a 1) 0) 1).toInt))).1)
    (oq54 : (x54.toInt = -1 ∧ ∀ i : Nat, i < 12 → G20.2.2.1 (F (F a 2) 0) i ≠ none) ∨ (0 ≤ x54.toInt ∧ G20.2.2.1 (F (F a 2) 0) (x54.toInt).toNat = none ∧ ∀ i : Nat, (i : Int) < x54.toInt → G20.2.2.1 (F (F a 2) 0) i ≠ none))
    (oq73 : x73.toInt = ffL (qL G73 F (F a 9)))
    (oq73a : qL G73 F (F a 9) = uqs (vw (G.2.1 (F (F a 6) 0))) (vw (G.2.1 (F (F a 3) 0))) (G68.1 q11))
    (c44 : ((G.1 a 18).toInt) = 0)
    (t54 : -1 ≤ x54.toInt ∧ x54.toInt ≤ 11)
    (c60 : x54.toInt ≠ (-1 : Int))
    (t73 : -1 ≤ x73.toInt)
    (c79 : ¬ (x73.toInt = (-1 : Int)))
    (r_G102_F_F_a_2_0 : G102.2.2.1 (F (F a 2) 0) = G.2.2.1 (F (F a 2) 0))
    (r_G102_F_F_a_2_1 : G102.2.2.1 (F (F a 2) 1) = G.2.2.1 (F (F a 2) 1))
    (r_G20_F_F_a_2_0 : G20.2.2.1 (F (F a 2) 0) = G.2.2.1 (F (F a 2) 0))
    (D_G102_q11 : G102.1 q11 = G68.1 q11)
    (d_G102_F_a_2_2 : G102.1 (F a 2) 2 = G.1 (F a 2) 2)
    (d_G68_q11_0 : G68.1 q11 0 = G11.1 q11 0)
    (d_G68_q11_1 : G68.1 q11 1 = x54)
    (d_G68_q11_2 : G68.1 q11 2 = G11.1 q11 2)
    (d_G68_q11_3 : G68.1 q11 3 = G11.1 q11 3)
    (d_G68_q11_4 : G68.1 q11 4 = G11.1 q11 4)
    (d_G68_q11_5 : G68.1 q11 5 = G11.1 q11 5)
    (d_G68_q11_6 : G68.1 q11 6 = G11.1 q11 6)
    (d_G68_q11_7 : G68.1 q11 7 = G11.1 q11 7)
    (d_G68_q11_8 : G68.1 q11 8 = G11.1 q11 8)
    (d_G68_q11_9 : G68.1 q11 9 = G11.1 q11 9) :
    (¬ rOk (tC (G.2.1 (F (F (F a 1) 0) 0)) ((G.1 (F (F a 1) 0) 1).toInt)) ((G.1 (F (F a 1) 0) 1).toInt) ∧ (-5 : Int) = -1000 - (rS9 (tC (G.2.1 (F (F (F a 1) 0) 0)) ((G.1 (F (F a 1) 0) 1).toInt))).2.2 ∧ (G102.2.2.1 (F (F a 2) 0) = G.2.2.1 (F (F a 2) 0) ∧ G102.2.2.1 (F (F a 2) 1) = G.2.2.1 (F (F a 2) 1) ∧ G102.1 (F a 2) 2 = G.1 (F a 2) 2)) ∨ (rOk (tC (G.2.1 (F (F (F a 1) 0) 0)) ((G.1 (F (F a 1) 0) 1).toInt)) ((G.1 (F (F a 1) 0) 1).toInt) ∧ (G.1 a 18).toInt ≠ 0 ∧ (-5 : Int) = -3 ∧ (G102.2.2.1 (F (F a 2) 0) = G.2.2.1 (F (F a 2) 0) ∧ G102.2.2.1 (F (F a 2) 1) = G.2.2.1 (F (F a 2) 1) ∧ G102.1 (F a 2) 2 = G.1 (F a 2) 2)) ∨ (rOk (tC (G.2.1 (F (F (F a 1) 0) 0)) ((G.1 (F (F a 1) 0) 1).toInt)) ((G.1 (F (F a 1) 0) 1).toInt) ∧ (G.1 a 18).toInt = 0 ∧ (∀ i : Nat, i < 12 → G.2.2.1 (F (F a 2) 0) i ≠ none) ∧ (-5 : Int) = -4 ∧ (G102.2.2.1 (F (F a 2) 0) = G.2.2.1 (F (F a 2) 0) ∧ G102.2.2.1 (F (F a 2) 1) = G.2.2.1 (F (F a 2) 1) ∧ G102.1 (F a 2) 2 = G.1 (F a 2) 2)) ∨ (rOk (tC (G.2.1 (F (F (F a 1) 0) 0)) ((G.1 (F (F a 1) 0) 1).toInt)) ((G.1 (F (F a 1) 0) 1).toInt) ∧ (G.1 a 18).toInt = 0 ∧ (0 ≤ (G102.1 q11 1).toInt ∧ (G102.1 q11 1).toInt ≤ 11) ∧ G.2.2.1 (F (F a 2) 0) ((G102.1 q11 1).toInt).toNat = none ∧ (∀ i : Nat, (i : Int) < (G102.1 q11 1).toInt → G.2.2.1 (F (F a 2) 0) i ≠ none) ∧ ((G102.1 q11 0).toInt = (rS1 (tC (G.2.1 (F (F (F a 1) 0) 0)) ((G.1 (F (F a 1) 0) 1).toInt))).1 ∧ (G102.1 q11 2).toInt = (rS2 (tC (G.2.1 (F (F (F a 1) 0) 0)) ((G.1 (F (F a 1) 0) 1).toInt))).1 ∧ (G102.1 q11 3).toInt = (rS3 (tC (G.2.1 (F (F (F a 1) 0) 0)) ((G.1 (F (F a 1) 0) 1).toInt))).1 ∧ (G102.1 q11 4).toInt = (rS4 (tC (G.2.1 (F (F (F a 1) 0) 0)) ((G.1 (F (F a 1) 0) 1).toInt))).1 ∧ (G102.1 q11 5).toInt = (rS5 (tC (G.2.1 (F (F (F a 1) 0) 0)) ((G.1 (F (F a 1) 0) 1).toInt))).1 ∧ (G102.1 q11 6).toInt = (rS6 (tC (G.2.1 (F (F (F a 1) 0) 0)) ((G.1 (F (F a 1) 0) 1).toInt))).1 ∧ (G102.1 q11 7).toInt = (rS7 (tC (G.2.1 (F (F (F a 1) 0) 0)) ((G.1 (F (F a 1) 0) 1).toInt))).1 ∧ (G102.1 q11 8).toInt = (rS9 (tC (G.2.1 (F (F (F a 1) 0) 0)) ((G.1 (F (F a 1) 0) 1).toInt))).1 ∧ (G102.1 q11 9).toInt = (rS8 (tC (G.2.1 (F (F (F a 1) 0) 0)) ((G.1 (F (F a 1) 0) 1).toInt))).1) ∧ ((ffL (uqs (vw (G.2.1 (F (F a 6) 0))) (vw (G.2.1 (F (F a 3) 0))) (G102.1 q11)) ≠ -1 ∧ (-5 : Int) = -5 ∧ (G102.2.2.1 (F (F a 2) 0) = G.2.2.1 (F (F a 2) 0) ∧ G102.2.2.1 (F (F a 2) 1) = G.2.2.1 (F (F a 2) 1) ∧ G102.1 (F a 2) 2 = G.1 (F a 2) 2)) ∨ (ffL (uqs (vw (G.2.1 (F (F a 6) 0))) (vw (G.2.1 (F (F a 3) 0))) (G102.1 q11)) = -1 ∧ (-5 : Int) = (G102.1 q11 1).toInt ∧ (∀ i : Nat, G102.2.2.1 (F (F a 2) 0) i = if i = ((G102.1 q11 1).toInt).toNat then some q11 else G.2.2.1 (F (F a 2) 0) i) ∧ BO G102 F (F a 2)))) := by
  obtain ⟨f1, f0, f2, f3, f4, f5, f6, f7, f9, f8⟩ := hf11
  have lf := oq54
  rw [r_G20_F_F_a_2_0] at lf
  have kk : (G102.1 q11 1).toInt = x54.toInt := by rw [D_G102_q11, d_G68_q11_1]
  rcases lf with ⟨h1, -⟩ | ⟨h1, h2, h3⟩
  · exfalso; omega
  · refine Or.inr (Or.inr (Or.inr ⟨hs11, by omega, by omega, by rw [kk]; exact h2, fun i hi => h3 i (by rw [← kk]; exact hi), ⟨(by rw [D_G102_q11, d_G68_q11_0]; exact f0), (by rw [D_G102_q11, d_G68_q11_2]; exact f2), (by rw [D_G102_q11, d_G68_q11_3]; exact f3), (by rw [D_G102_q11, d_G68_q11_4]; exact f4), (by rw [D_G102_q11, d_G68_q11_5]; exact f5), (by rw [D_G102_q11, d_G68_q11_6]; exact f6), (by rw [D_G102_q11, d_G68_q11_7]; exact f7), (by rw [D_G102_q11, d_G68_q11_8]; exact f8), (by rw [D_G102_q11, d_G68_q11_9]; exact f9)⟩, ?_⟩))
    have e9 : G102.1 q11 = G68.1 q11 := D_G102_q11
    rw [e9]
    have ff : x73.toInt = ffL (uqs (vw (G.2.1 (F (F a 6) 0))) (vw (G.2.1 (F (F a 3) 0))) (G68.1 q11)) := by rw [← oq73a]; exact oq73
    exact Or.inl ⟨by omega, by omega, ⟨r_G102_F_F_a_2_0, r_G102_F_F_a_2_1, d_G102_F_a_2_2⟩⟩
theorem v_X10_rule_107_12 {F : Nat → Nat → Nat} (G102 : XG) (a : Nat) (G : XG)
    (r_G102_F_F_a_2_1 : G102.2.2.1 (F (F a 2) 1) = G.2.2.1 (F (F a 2) 1)) :
    ∀ (i p : Nat), G102.2.2.1 (F (F a 2) 1) i = some p → (∃ j : Nat, G.2.2.1 (F (F a 2) 1) j = some p) ∨ ∃ j : Nat, G102.2.2.1 (F (F a 2) 0) j = some p := by
  intro i p h
  rw [r_G102_F_F_a_2_1] at h
  exact Or.inl ⟨i, h⟩
theorem v_X10_rule_65_13 {F : Nat → Nat → Nat} (G : XG) (a : Nat) (x20 : Int32) (G20 : XG)
    (n1 : 0 ≤ ((G.1 (F a 0) 1).toInt))
    (t20 : (((0 : Int) < 0 ∨ ((G.1 (F a 0) 1).toInt) < (0 : Int)) ∧ x20.toInt = 0 ∧ ((G20.1 (F a 0) 1).toInt) = ((G.1 (F a 0) 1).toInt)) ∨ ((0 ≤ (0 : Int) ∧ (0 : Int) ≤ ((G.1 (F a 0) 1).toInt)) ∧ x20.toInt = 1 ∧ ((G20.1 (F a 0) 1).toInt) = (0 : Int))) :
    (G20.1 (F a 0) 1).toInt = 0 := by
  omega
theorem v_X10_rule_65_14 {F : Nat → Nat → Nat} (G : XG) (a : Nat) (x54 : Int32) (G20 : XG) (q11 : Nat)
    (hs11 : rOk (tC (G.2.1 (F (F (F a 1) 0) 0)) ((G.1 (F (F a 1) 0) 1).toInt)) ((G.1 (F (F a 1) 0) 1).toInt))
    (oq54 : (x54.toInt = -1 ∧ ∀ i : Nat, i < 12 → G20.2.2.1 (F (F a 2) 0) i ≠ none) ∨ (0 ≤ x54.toInt ∧ G20.2.2.1 (F (F a 2) 0) (x54.toInt).toNat = none ∧ ∀ i : Nat, (i : Int) < x54.toInt → G20.2.2.1 (F (F a 2) 0) i ≠ none))
    (c44 : ((G.1 a 18).toInt) = 0)
    (t54 : -1 ≤ x54.toInt ∧ x54.toInt ≤ 11)
    (c60 : ¬ (x54.toInt ≠ (-1 : Int)))
    (r_G20_F_F_a_2_0 : G20.2.2.1 (F (F a 2) 0) = G.2.2.1 (F (F a 2) 0))
    (r_G20_F_F_a_2_1 : G20.2.2.1 (F (F a 2) 1) = G.2.2.1 (F (F a 2) 1))
    (d_G20_F_a_2_2 : G20.1 (F a 2) 2 = G.1 (F a 2) 2) :
    (¬ rOk (tC (G.2.1 (F (F (F a 1) 0) 0)) ((G.1 (F (F a 1) 0) 1).toInt)) ((G.1 (F (F a 1) 0) 1).toInt) ∧ (-4 : Int) = -1000 - (rS9 (tC (G.2.1 (F (F (F a 1) 0) 0)) ((G.1 (F (F a 1) 0) 1).toInt))).2.2 ∧ (G20.2.2.1 (F (F a 2) 0) = G.2.2.1 (F (F a 2) 0) ∧ G20.2.2.1 (F (F a 2) 1) = G.2.2.1 (F (F a 2) 1) ∧ G20.1 (F a 2) 2 = G.1 (F a 2) 2)) ∨ (rOk (tC (G.2.1 (F (F (F a 1) 0) 0)) ((G.1 (F (F a 1) 0) 1).toInt)) ((G.1 (F (F a 1) 0) 1).toInt) ∧ (G.1 a 18).toInt ≠ 0 ∧ (-4 : Int) = -3 ∧ (G20.2.2.1 (F (F a 2) 0) = G.2.2.1 (F (F a 2) 0) ∧ G20.2.2.1 (F (F a 2) 1) = G.2.2.1 (F (F a 2) 1) ∧ G20.1 (F a 2) 2 = G.1 (F a 2) 2)) ∨ (rOk (tC (G.2.1 (F (F (F a 1) 0) 0)) ((G.1 (F (F a 1) 0) 1).toInt)) ((G.1 (F (F a 1) 0) 1).toInt) ∧ (G.1 a 18).toInt = 0 ∧ (∀ i : Nat, i < 12 → G.2.2.1 (F (F a 2) 0) i ≠ none) ∧ (-4 : Int) = -4 ∧ (G20.2.2.1 (F (F a 2) 0) = G.2.2.1 (F (F a 2) 0) ∧ G20.2.2.1 (F (F a 2) 1) = G.2.2.1 (F (F a 2) 1) ∧ G20.1 (F a 2) 2 = G.1 (F a 2) 2)) ∨ (rOk (tC (G.2.1 (F (F (F a 1) 0) 0)) ((G.1 (F (F a 1) 0) 1).toInt)) ((G.1 (F (F a 1) 0) 1).toInt) ∧ (G.1 a 18).toInt = 0 ∧ (0 ≤ (G20.1 q11 1).toInt ∧ (G20.1 q11 1).toInt ≤ 11) ∧ G.2.2.1 (F (F a 2) 0) ((G20.1 q11 1).toInt).toNat = none ∧ (∀ i : Nat, (i : Int) < (G20.1 q11 1).toInt → G.2.2.1 (F (F a 2) 0) i ≠ none) ∧ ((G20.1 q11 0).toInt = (rS1 (tC (G.2.1 (F (F (F a 1) 0) 0)) ((G.1 (F (F a 1) 0) 1).toInt))).1 ∧ (G20.1 q11 2).toInt = (rS2 (tC (G.2.1 (F (F (F a 1) 0) 0)) ((G.1 (F (F a 1) 0) 1).toInt))).1 ∧ (G20.1 q11 3).toInt = (rS3 (tC (G.2.1 (F (F (F a 1) 0) 0)) ((G.1 (F (F a 1) 0) 1).toInt))).1 ∧ (G20.1 q11 4).toInt = (rS4 (tC (G.2.1 (F (F (F a 1) 0) 0)) ((G.1 (F (F a 1) 0) 1).toInt))).1 ∧ (G20.1 q11 5).toInt = (rS5 (tC (G.2.1 (F (F (F a 1) 0) 0)) ((G.1 (F (F a 1) 0) 1).toInt))).1 ∧ (G20.1 q11 6).toInt = (rS6 (tC (G.2.1 (F (F (F a 1) 0) 0)) ((G.1 (F (F a 1) 0) 1).toInt))).1 ∧ (G20.1 q11 7).toInt = (rS7 (tC (G.2.1 (F (F (F a 1) 0) 0)) ((G.1 (F (F a 1) 0) 1).toInt))).1 ∧ (G20.1 q11 8).toInt = (rS9 (tC (G.2.1 (F (F (F a 1) 0) 0)) ((G.1 (F (F a 1) 0) 1).toInt))).1 ∧ (G20.1 q11 9).toInt = (rS8 (tC (G.2.1 (F (F (F a 1) 0) 0)) ((G.1 (F (F a 1) 0) 1).toInt))).1) ∧ ((ffL (uqs (vw (G.2.1 (F (F a 6) 0))) (vw (G.2.1 (F (F a 3) 0))) (G20.1 q11)) ≠ -1 ∧ (-4 : Int) = -5 ∧ (G20.2.2.1 (F (F a 2) 0) = G.2.2.1 (F (F a 2) 0) ∧ G20.2.2.1 (F (F a 2) 1) = G.2.2.1 (F (F a 2) 1) ∧ G20.1 (F a 2) 2 = G.1 (F a 2) 2)) ∨ (ffL (uqs (vw (G.2.1 (F (F a 6) 0))) (vw (G.2.1 (F (F a 3) 0))) (G20.1 q11)) = -1 ∧ (-4 : Int) = (G20.1 q11 1).toInt ∧ (∀ i : Nat, G20.2.2.1 (F (F a 2) 0) i = if i = ((G20.1 q11 1).toInt).toNat then some q11 else G.2.2.1 (F (F a 2) 0) i) ∧ BO G20 F (F a 2)))) := by
  have lf := oq54
  rw [r_G20_F_F_a_2_0] at lf
  rcases lf with ⟨h1, h2⟩ | ⟨h1, h2⟩
  · exact Or.inr (Or.inr (Or.inl ⟨hs11, by omega, h2, by omega, ⟨r_G20_F_F_a_2_0, r_G20_F_F_a_2_1, d_G20_F_a_2_2⟩⟩))
  · exfalso; omega
theorem v_X10_rule_65_15 {F : Nat → Nat → Nat} (G20 : XG) (a : Nat) (G : XG)
    (r_G20_F_F_a_2_1 : G20.2.2.1 (F (F a 2) 1) = G.2.2.1 (F (F a 2) 1)) :
    ∀ (i p : Nat), G20.2.2.1 (F (F a 2) 1) i = some p → (∃ j : Nat, G.2.2.1 (F (F a 2) 1) j = some p) ∨ ∃ j : Nat, G20.2.2.1 (F (F a 2) 0) j = some p := by
  intro i p h
  rw [r_G20_F_F_a_2_1] at h
  exact Or.inl ⟨i, h⟩
theorem v_X10_rule_49_16 {F : Nat → Nat → Nat} (G : XG) (a : Nat) (x20 : Int32) (G20 : XG)
    (n1 : 0 ≤ ((G.1 (F a 0) 1).toInt))
    (t20 : (((0 : Int) < 0 ∨ ((G.1 (F a 0) 1).toInt) < (0 : Int)) ∧ x20.toInt = 0 ∧ ((G20.1 (F a 0) 1).toInt) = ((G.1 (F a 0) 1).toInt)) ∨ ((0 ≤ (0 : Int) ∧ (0 : Int) ≤ ((G.1 (F a 0) 1).toInt)) ∧ x20.toInt = 1 ∧ ((G20.1 (F a 0) 1).toInt) = (0 : Int))) :
    (G20.1 (F a 0) 1).toInt = 0 := by
  omega
theorem v_X10_rule_49_17 {F : Nat → Nat → Nat} (G : XG) (a : Nat) (G20 : XG) (q11 : Nat)
    (hs11 : rOk (tC (G.2.1 (F (F (F a 1) 0) 0)) ((G.1 (F (F a 1) 0) 1).toInt)) ((G.1 (F (F a 1) 0) 1).toInt))
    (c44 : ¬ (((G.1 a 18).toInt) = 0))
    (r_G20_F_F_a_2_0 : G20.2.2.1 (F (F a 2) 0) = G.2.2.1 (F (F a 2) 0))
    (r_G20_F_F_a_2_1 : G20.2.2.1 (F (F a 2) 1) = G.2.2.1 (F (F a 2) 1))
    (d_G20_F_a_2_2 : G20.1 (F a 2) 2 = G.1 (F a 2) 2) :
    (¬ rOk (tC (G.2.1 (F (F (F a 1) 0) 0)) ((G.1 (F (F a 1) 0) 1).toInt)) ((G.1 (F (F a 1) 0) 1).toInt) ∧ (-3 : Int) = -1000 - (rS9 (tC (G.2.1 (F (F (F a 1) 0) 0)) ((G.1 (F (F a 1) 0) 1).toInt))).2.2 ∧ (G20.2.2.1 (F (F a 2) 0) = G.2.2.1 (F (F a 2) 0) ∧ G20.2.2.1 (F (F a 2) 1) = G.2.2.1 (F (F a 2) 1) ∧ G20.1 (F a 2) 2 = G.1 (F a 2) 2)) ∨ (rOk (tC (G.2.1 (F (F (F a 1) 0) 0)) ((G.1 (F (F a 1) 0) 1).toInt)) ((G.1 (F (F a 1) 0) 1).toInt) ∧ (G.1 a 18).toInt ≠ 0 ∧ (-3 : Int) = -3 ∧ (G20.2.2.1 (F (F a 2) 0) = G.2.2.1 (F (F a 2) 0) ∧ G20.2.2.1 (F (F a 2) 1) = G.2.2.1 (F (F a 2) 1) ∧ G20.1 (F a 2) 2 = G.1 (F a 2) 2)) ∨ (rOk (tC (G.2.1 (F (F (F a 1) 0) 0)) ((G.1 (F (F a 1) 0) 1).toInt)) ((G.1 (F (F a 1) 0) 1).toInt) ∧ (G.1 a 18).toInt = 0 ∧ (∀ i : Nat, i < 12 → G.2.2.1 (F (F a 2) 0) i ≠ none) ∧ (-3 : Int) = -4 ∧ (G20.2.2.1 (F (F a 2) 0) = G.2.2.1 (F (F a 2) 0) ∧ G20.2.2.1 (F (F a 2) 1) = G.2.2.1 (F (F a 2) 1) ∧ G20.1 (F a 2) 2 = G.1 (F a 2) 2)) ∨ (rOk (tC (G.2.1 (F (F (F a 1) 0) 0)) ((G.1 (F (F a 1) 0) 1).toInt)) ((G.1 (F (F a 1) 0) 1).toInt) ∧ (G.1 a 18).toInt = 0 ∧ (0 ≤ (G20.1 q11 1).toInt ∧ (G20.1 q11 1).toInt ≤ 11) ∧ G.2.2.1 (F (F a 2) 0) ((G20.1 q11 1).toInt).toNat = none ∧ (∀ i : Nat, (i : Int) < (G20.1 q11 1).toInt → G.2.2.1 (F (F a 2) 0) i ≠ none) ∧ ((G20.1 q11 0).toInt = (rS1 (tC (G.2.1 (F (F (F a 1) 0) 0)) ((G.1 (F (F a 1) 0) 1).toInt))).1 ∧ (G20.1 q11 2).toInt = (rS2 (tC (G.2.1 (F (F (F a 1) 0) 0)) ((G.1 (F (F a 1) 0) 1).toInt))).1 ∧ (G20.1 q11 3).toInt = (rS3 (tC (G.2.1 (F (F (F a 1) 0) 0)) ((G.1 (F (F a 1) 0) 1).toInt))).1 ∧ (G20.1 q11 4).toInt = (rS4 (tC (G.2.1 (F (F (F a 1) 0) 0)) ((G.1 (F (F a 1) 0) 1).toInt))).1 ∧ (G20.1 q11 5).toInt = (rS5 (tC (G.2.1 (F (F (F a 1) 0) 0)) ((G.1 (F (F a 1) 0) 1).toInt))).1 ∧ (G20.1 q11 6).toInt = (rS6 (tC (G.2.1 (F (F (F a 1) 0) 0)) ((G.1 (F (F a 1) 0) 1).toInt))).1 ∧ (G20.1 q11 7).toInt = (rS7 (tC (G.2.1 (F (F (F a 1) 0) 0)) ((G.1 (F (F a 1) 0) 1).toInt))).1 ∧ (G20.1 q11 8).toInt = (rS9 (tC (G.2.1 (F (F (F a 1) 0) 0)) ((G.1 (F (F a 1) 0) 1).toInt))).1 ∧ (G20.1 q11 9).toInt = (rS8 (tC (G.2.1 (F (F (F a 1) 0) 0)) ((G.1 (F (F a 1) 0) 1).toInt))).1) ∧ ((ffL (uqs (vw (G.2.1 (F (F a 6) 0))) (vw (G.2.1 (F (F a 3) 0))) (G20.1 q11)) ≠ -1 ∧ (-3 : Int) = -5 ∧ (G20.2.2.1 (F (F a 2) 0) = G.2.2.1 (F (F a 2) 0) ∧ G20.2.2.1 (F (F a 2) 1) = G.2.2.1 (F (F a 2) 1) ∧ G20.1 (F a 2) 2 = G.1 (F a 2) 2)) ∨ (ffL (uqs (vw (G.2.1 (F (F a 6) 0))) (vw (G.2.1 (F (F a 3) 0))) (G20.1 q11)) = -1 ∧ (-3 : Int) = (G20.1 q11 1).toInt ∧ (∀ i : Nat, G20.2.2.1 (F (F a 2) 0) i = if i = ((G20.1 q11 1).toInt).toNat then some q11 else G.2.2.1 (F (F a 2) 0) i) ∧ BO G20 F (F a 2)))) := by
  exact Or.inr (Or.inl ⟨hs11, by omega, by omega, ⟨r_G20_F_F_a_2_0, r_G20_F_F_a_2_1, d_G20_F_a_2_2⟩⟩)
theorem v_X10_rule_49_18 {F : Nat → Nat → Nat} (G20 : XG) (a : Nat) (G : XG)
    (r_G20_F_F_a_2_1 : G20.2.2.1 (F (F a 2) 1) = G.2.2.1 (F (F a 2) 1)) :
    ∀ (i p : Nat), G20.2.2.1 (F (F a 2) 1) i = some p → (∃ j : Nat, G.2.2.1 (F (F a 2) 1) j = some p) ∨ ∃ j : Nat, G20.2.2.1 (F (F a 2) 0) j = some p := by
  intro i p h
  rw [r_G20_F_F_a_2_1] at h
  exact Or.inl ⟨i, h⟩
theorem z_X10_rule_2 (a0 : Int) (h0 : -1 ≤ a0 ∧ a0 ≤ 11) (h1 : a0 ≠ (-1 : Int)) : 0 ≤ a0 ∧ a0 ≤ 11 := by omega
abbrev rm_X10_rule : Room := { frames := 7, cells := 9, slots := 810, locals := 171 }
set_option maxHeartbeats 4000000 in
set_option maxRecDepth 100000 in
theorem c_X10_rule (l : Launch) (E : XE) (K : Nat → Nat) (F : Nat → Nat → Nat) (G : XG) (a : Nat) (ha : K a = 12) (n0 : 0 ≤ ((G.1 (F (F a 1) 0) 1).toInt) ∧ ((G.1 (F (F a 1) 0) 1).toInt) ≤ 80) (n1 : 0 ≤ ((G.1 (F a 0) 1).toInt)) (ro0 : RO (vw (G.2.1 (F (F a 6) 0))) (aI (G.2.1 (F (F a 6) 1)))) (ron : RO (vw (G.2.1 (F (F a 3) 0))) (aI (G.2.1 (F (F a 3) 1)))) : Met l yX10_rule (xw yX10_rule cX10_rule 4 (some .int)) rm_X10_rule (va_Pc [.ref a] (XP E K F G)) (XQ E (fun v (u : (Nat → Nat) × XG) => ∃ r : Int32, v = .int r ∧ ∃ q : Nat, K q = 0 ∧ u.1 q = 9 ∧ KM K u.1 ∧ XFr [(F a 14, 1), (F a 14, 2), (F a 14, 3), (F a 1, 1), (F a 1, 2), (F a 1, 3), (F a 1, 4), (F a 1, 5), (q, 0), (q, 1), (q, 2), (q, 3), (q, 4), (q, 5), (q, 6), (q, 7), (q, 8), (q, 9), (F a 0, 1), (F a 11, 3), (F a 9, 6), (F a 2, 2)] [F (F a 11) 0, F (F a 11) 1, F (F a 11) 2, F (F a 9) 0, F (F a 9) 1, F (F a 9) 2, F (F a 9) 3, F (F a 9) 4, F (F a 9) 5] [F (F a 2) 0, F (F a 2) 1] G u.2 ∧ (u.2.1 (F a 0) 1).toInt = 0 ∧ ((¬ rOk (tC (G.2.1 (F (F (F a 1) 0) 0)) ((G.1 (F (F a 1) 0) 1).toInt)) ((G.1 (F (F a 1) 0) 1).toInt) ∧ r.toInt = -1000 - (rS9 (tC (G.2.1 (F (F (F a 1) 0) 0)) ((G.1 (F (F a 1) 0) 1).toInt))).2.2 ∧ (u.2.2.2.1 (F (F a 2) 0) = G.2.2.1 (F (F a 2) 0) ∧ u.2.2.2.1 (F (F a 2) 1) = G.2.2.1 (F (F a 2) 1) ∧ u.2.1 (F a 2) 2 = G.1 (F a 2) 2)) ∨ (rOk (tC (G.2.1 (F (F (F a 1) 0) 0)) ((G.1 (F (F a 1) 0) 1).toInt)) ((G.1 (F (F a 1) 0) 1).toInt) ∧ (G.1 a 18).toInt ≠ 0 ∧ r.toInt = -3 ∧ (u.2.2.2.1 (F (F a 2) 0) = G.2.2.1 (F (F a 2) 0) ∧ u.2.2.2.1 (F (F a 2) 1) = G.2.2.1 (F (F a 2) 1) ∧ u.2.1 (F a 2) 2 = G.1 (F a 2) 2)) ∨ (rOk (tC (G.2.1 (F (F (F a 1) 0) 0)) ((G.1 (F (F a 1) 0) 1).toInt)) ((G.1 (F (F a 1) 0) 1).toInt) ∧ (G.1 a 18).toInt = 0 ∧ (∀ i : Nat, i < 12 → G.2.2.1 (F (F a 2) 0) i ≠ none) ∧ r.toInt = -4 ∧ (u.2.2.2.1 (F (F a 2) 0) = G.2.2.1 (F (F a 2) 0) ∧ u.2.2.2.1 (F (F a 2) 1) = G.2.2.1 (F (F a 2) 1) ∧ u.2.1 (F a 2) 2 = G.1 (F a 2) 2)) ∨ (rOk (tC (G.2.1 (F (F (F a 1) 0) 0)) ((G.1 (F (F a 1) 0) 1).toInt)) ((G.1 (F (F a 1) 0) 1).toInt) ∧ (G.1 a 18).toInt = 0 ∧ (0 ≤ (u.2.1 q 1).toInt ∧ (u.2.1 q 1).toInt ≤ 11) ∧ G.2.2.1 (F (F a 2) 0) ((u.2.1 q 1).toInt).toNat = none ∧ (∀ i : Nat, (i : Int) < (u.2.1 q 1).toInt → G.2.2.1 (F (F a 2) 0) i ≠ none) ∧ ((u.2.1 q 0).toInt = (rS1 (tC (G.2.1 (F (F (F a 1) 0) 0)) ((G.1 (F (F a 1) 0) 1).toInt))).1 ∧ (u.2.1 q 2).toInt = (rS2 (tC (G.2.1 (F (F (F a 1) 0) 0)) ((G.1 (F (F a 1) 0) 1).toInt))).1 ∧ (u.2.1 q 3).toInt = (rS3 (tC (G.2.1 (F (F (F a 1) 0) 0)) ((G.1 (F (F a 1) 0) 1).toInt))).1 ∧ (u.2.1 q 4).toInt = (rS4 (tC (G.2.1 (F (F (F a 1) 0) 0)) ((G.1 (F (F a 1) 0) 1).toInt))).1 ∧ (u.2.1 q 5).toInt = (rS5 (tC (G.2.1 (F (F (F a 1) 0) 0)) ((G.1 (F (F a 1) 0) 1).toInt))).1 ∧ (u.2.1 q 6).toInt = (rS6 (tC (G.2.1 (F (F (F a 1) 0) 0)) ((G.1 (F (F a 1) 0) 1).toInt))).1 ∧ (u.2.1 q 7).toInt = (rS7 (tC (G.2.1 (F (F (F a 1) 0) 0)) ((G.1 (F (F a 1) 0) 1).toInt))).1 ∧ (u.2.1 q 8).toInt = (rS9 (tC (G.2.1 (F (F (F a 1) 0) 0)) ((G.1 (F (F a 1) 0) 1).toInt))).1 ∧ (u.2.1 q 9).toInt = (rS8 (tC (G.2.1 (F (F (F a 1) 0) 0)) ((G.1 (F (F a 1) 0) 1).toInt))).1) ∧ ((ffL (uqs (vw (G.2.1 (F (F a 6) 0))) (vw (G.2.1 (F (F a 3) 0))) (u.2.1 q)) ≠ -1 ∧ r.toInt = -5 ∧ (u.2.2.2.1 (F (F a 2) 0) = G.2.2.1 (F (F a 2) 0) ∧ u.2.2.2.1 (F (F a 2) 1) = G.2.2.1 (F (F a 2) 1) ∧ u.2.1 (F a 2) 2 = G.1 (F a 2) 2)) ∨ (ffL (uqs (vw (G.2.1 (F (F a 6) 0))) (vw (G.2.1 (F (F a 3) 0))) (u.2.1 q)) = -1 ∧ r.toInt = (u.2.1 q 1).toInt ∧ (∀ i : Nat, u.2.2.2.1 (F (F a 2) 0) i = if i = ((u.2.1 q 1).toInt).toNat then some q else G.2.2.1 (F (F a 2) 0) i) ∧ BO u.2 F (F a 2))))) ∧ (∀ (i p : Nat), u.2.2.2.1 (F (F a 2) 1) i = some p → (∃ j : Nat, G.2.2.1 (F (F a 2) 1) j = some p) ∨ ∃ j : Nat, u.2.2.2.1 (F (F a 2) 0) j = some p)) (fun u H => TW E u.1 F u.2 H)) 9 810 (xA E) := by
  refine x_enter (by decide) (Nat.le_of_ble_eq_true rfl) ?_
  intro p e s m args below meth c Q S hr hlk hnm hQ hP ls hl
  obtain ⟨hz, hK, hT⟩ := hP
  obtain ⟨hx, hb, -, -, -⟩ := id S
  obtain ⟨H, hT, hS, hgo⟩ : ∃ H : Heap, TW E K F G H ∧ va_S (xA E) s.heap H [] ∧ H = s.heap := ⟨_, hT, va_S.rf, rfl⟩
  rw [← hgo]
  have hl : lv_has ls 4 [(0, .ref a)] := hl
  obtain ⟨hk9999, hj9999⟩ := fkX10_14 hT ha
  obtain ⟨hk9999a, hj9999a⟩ := fkX10_1 hT ha
  obtain ⟨hk9999b, hj9999b⟩ := fkX10_0 hT ha
  obtain ⟨hk9999c, hj9999c⟩ := fkX10_11 hT ha
  obtain ⟨hk9999d, hj9999d⟩ := fkX10_9 hT ha
  obtain ⟨hk9999e, hj9999e⟩ := fkX10_2 hT ha
  obtain ⟨hk9999f, hj9999f⟩ := fkX1_0 hT hk9999c
  obtain ⟨hk9999g, hj9999g⟩ := fkX1_1 hT hk9999c
  obtain ⟨hk9999h, hj9999h⟩ := fkX1_2 hT hk9999c
  obtain ⟨hk9999i, hj9999i⟩ := fkX4_0 hT hk9999d
  have hj9999j : F (F (F a 9) 0) 99 = 10 * 1 + 0 := by rw [hj9999i, hj9999d]
  obtain ⟨hk9999j, hj9999k⟩ := fkX4_1 hT hk9999d
  have hj9999l : F (F (F a 9) 1) 99 = 10 * 1 + 1 := by rw [hj9999k, hj9999d]
  obtain ⟨hk9999k, hj9999m⟩ := fkX4_2 hT hk9999d
  have hj9999n : F (F (F a 9) 2) 99 = 10 * 1 + 2 := by rw [hj9999m, hj9999d]
  obtain ⟨hk9999l, hj9999o⟩ := fkX4_3 hT hk9999d
  have hj9999p : F (F (F a 9) 3) 99 = 10 * 1 + 3 := by rw [hj9999o, hj9999d]
  obtain ⟨hk9999m, hj9999q⟩ := fkX4_4 hT hk9999d
  have hj9999r : F (F (F a 9) 4) 99 = 10 * 1 + 4 := by rw [hj9999q, hj9999d]
  obtain ⟨hk9999n, hj9999s⟩ := fkX4_5 hT hk9999d
  have hj9999t : F (F (F a 9) 5) 99 = 10 * 1 + 5 := by rw [hj9999s, hj9999d]
  obtain ⟨hk9999o, hj9999u⟩ := fkX0_0 hT hk9999e
  obtain ⟨hk9999p, hj9999v⟩ := fkX0_1 hT hk9999e
  obtain ⟨hk9999q, hj9999w⟩ := fkX5_0 hT hk9999a
  obtain ⟨hk9999r, hj9999y⟩ := fkX8_0 hT hk9999q
  obtain ⟨hk9999s, hj9999z25⟩ := fkX10_6 hT ha
  obtain ⟨hk9999t, hj9999z26⟩ := fkX6_0 hT hk9999s
  have hj9999z27 : F (F (F a 6) 0) 99 = 3 := by rw [hj9999z26, hj9999z25]
  obtain ⟨hk9999u, hj9999z28⟩ := fkX6_1 hT hk9999s
  have hj9999z29 : F (F (F a 6) 1) 99 = 3 := by rw [hj9999z28, hj9999z25]
  obtain ⟨hk9999v, hj9999z30⟩ := fkX10_3 hT ha
  obtain ⟨hk9999w, hj9999z31⟩ := fkX6_0 hT hk9999v
  have hj9999z32 : F (F (F a 3) 0) 99 = 0 := by rw [hj9999z31, hj9999z30]
  obtain ⟨hk9999y, hj9999z33⟩ := fkX6_1 hT hk9999v
  have hj9999z34 : F (F (F a 3) 1) 99 = 0 := by rw [hj9999z33, hj9999z30]
  refine lv_aload_n hx hb dX10_rule_0 rfl (lv_at hl 0 rfl) ?_
  refine gX10_14 S hK hT ha kf_X10_91 dX10_rule_1 (fun _ _ => ?_)
  refine x_cv (x_runV (b := (F a 14)) (As := []) (rest := []) S (c_X9_clear l E K F G (F a 14) hk9999) mv_X9_clear km_X10_113 rfl rfl ⟨Nat.le_of_ble_eq_true rfl, Nat.le_of_ble_eq_true rfl⟩ (rc_11 hK hT hk9999) hK (fun _ => XP.blind) (fun U hU hW => XP.at hK hz hS hT hU hW) rfl hl.1 (Nat.le_of_ble_eq_true rfl) dX10_rule_4 ⟨Nat.le_of_ble_eq_true rfl, Nat.le_of_ble_eq_true rfl⟩) hS ?_
  rintro G4 H locs ⟨hF4, t4⟩ hT hS
  have t4 : ((G4.1 (F a 14) 1).toInt) = 0 := t4
  refine lv_aload_n hx hb dX10_rule_7 rfl (lv_at hl 0 rfl) ?_
  refine gX10_1 S hK hT ha kf_X10_23 dX10_rule_8 (fun _ _ => ?_)
  refine x_cl (x_runV (b := (F a 1)) (As := []) (rest := []) S (c_X5_read l E K F G4 (F a 1) hk9999a (by rw [(show (G4.1 (F (F a 1) 0) 1).toInt = ((G.1 (F (F a 1) 0) 1).toInt) from (congrArg Int32.toInt (hF4.1 _ _ (xna (xne_k hk9999q hk9999 (by decide)) xn0))).trans (rfl : Int32.toInt (G.1 (F (F a 1) 0) 1) = ((G.1 (F (F a 1) 0) 1).toInt)))] <;> exact (n0))) mv_X5_read km_X10_116 rfl rfl ⟨Nat.le_of_ble_eq_true rfl, Nat.le_of_ble_eq_true rfl⟩ (rc_7 hK hT hk9999a) hK (fun _ => XP.blind) (fun U hU hW => XP.at hK hz hS hT hU hW) rfl hl.1 (Nat.le_of_ble_eq_true rfl) dX10_rule_11 ⟨Nat.le_of_ble_eq_true rfl, Nat.le_of_ble_eq_true rfl⟩) hS ?_
  rintro v ⟨K, G11⟩ H locs ⟨q11, hq0, hk11, hM, hF11, oq11, hc11⟩ hT hS
  have hT : TW E K F G11 H := hT
  have hM : KM _ K := hM
  have hk11 : K q11 = 9 := hk11
  have hF11 : XFr [(F a 1, 1), (F a 1, 2), (F a 1, 3), (F a 1, 4), (F a 1, 5), (q11, 0), (q11, 1), (q11, 2), (q11, 3), (q11, 4), (q11, 5), (q11, 6), (q11, 7), (q11, 8), (q11, 9)] [] [] G4 G11 := hF11
  have oq11 : (G11.1 (F a 1) 2).toInt = (rS9 (tC (G.2.1 (F (F (F a 1) 0) 0)) ((G.1 (F (F a 1) 0) 1).toInt))).2.2 := by have h9 := oq11; simp only [(show G4.2.1 (F (F (F a 1) 0) 0) = G.2.1 (F (F (F a 1) 0) 0) from (hF4.2.1 _ xn0)), (show G4.1 (F (F a 1) 0) 1 = G.1 (F (F a 1) 0) 1 from (hF4.1 _ _ (xna (xne_k hk9999q hk9999 (by decide)) xn0)))] at h9; exact h9
  have hc11 : ((v = .null ∧ ¬ rOk (tC (G.2.1 (F (F (F a 1) 0) 0)) ((G.1 (F (F a 1) 0) 1).toInt)) ((G.1 (F (F a 1) 0) 1).toInt)) ∨ (v = .ref q11 ∧ rOk (tC (G.2.1 (F (F (F a 1) 0) 0)) ((G.1 (F (F a 1) 0) 1).toInt)) ((G.1 (F (F a 1) 0) 1).toInt) ∧ ((G11.1 q11 1).toInt = -1 ∧ (G11.1 q11 0).toInt = (rS1 (tC (G.2.1 (F (F (F a 1) 0) 0)) ((G.1 (F (F a 1) 0) 1).toInt))).1 ∧ (G11.1 q11 2).toInt = (rS2 (tC (G.2.1 (F (F (F a 1) 0) 0)) ((G.1 (F (F a 1) 0) 1).toInt))).1 ∧ (G11.1 q11 3).toInt = (rS3 (tC (G.2.1 (F (F (F a 1) 0) 0)) ((G.1 (F (F a 1) 0) 1).toInt))).1 ∧ (G11.1 q11 4).toInt = (rS4 (tC (G.2.1 (F (F (F a 1) 0) 0)) ((G.1 (F (F a 1) 0) 1).toInt))).1 ∧ (G11.1 q11 5).toInt = (rS5 (tC (G.2.1 (F (F (F a 1) 0) 0)) ((G.1 (F (F a 1) 0) 1).toInt))).1 ∧ (G11.1 q11 6).toInt = (rS6 (tC (G.2.1 (F (F (F a 1) 0) 0)) ((G.1 (F (F a 1) 0) 1).toInt))).1 ∧ (G11.1 q11 7).toInt = (rS7 (tC (G.2.1 (F (F (F a 1) 0) 0)) ((G.1 (F (F a 1) 0) 1).toInt))).1 ∧ (G11.1 q11 9).toInt = (rS8 (tC (G.2.1 (F (F (F a 1) 0) 0)) ((G.1 (F (F a 1) 0) 1).toInt))).1 ∧ (G11.1 q11 8).toInt = (rS9 (tC (G.2.1 (F (F (F a 1) 0) 0)) ((G.1 (F (F a 1) 0) 1).toInt))).1))) := by have h9 := hc11; simp only [(show G4.2.1 (F (F (F a 1) 0) 0) = G.2.1 (F (F (F a 1) 0) 0) from (hF4.2.1 _ xn0)), (show G4.1 (F (F a 1) 0) 1 = G.1 (F (F a 1) 0) 1 from (hF4.1 _ _ (xna (xne_k hk9999q hk9999 (by decide)) xn0)))] at h9; exact h9
  have ha : K a = 12 := hM _ _ ha (by decide)
  have hk9999 : K (F a 14) = 11 := hM _ _ hk9999 (by decide)
  have hk9999a : K (F a 1) = 7 := hM _ _ hk9999a (by decide)
  have hk9999b : K (F a 0) = 10 := hM _ _ hk9999b (by decide)
  have hk9999c : K (F a 11) = 3 := hM _ _ hk9999c (by decide)
  have hk9999d : K (F a 9) = 6 := hM _ _ hk9999d (by decide)
  have hk9999e : K (F a 2) = 2 := hM _ _ hk9999e (by decide)
  have hk9999f : K (F (F a 11) 0) = 21 := hM _ _ hk9999f (by decide)
  have hk9999g : K (F (F a 11) 1) = 21 := hM _ _ hk9999g (by decide)
  have hk9999h : K (F (F a 11) 2) = 24 := hM _ _ hk9999h (by decide)
  have hk9999i : K (F (F a 9) 0) = 22 := hM _ _ hk9999i (by decide)
  have hk9999j : K (F (F a 9) 1) = 22 := hM _ _ hk9999j (by decide)
  have hk9999k : K (F (F a 9) 2) = 22 := hM _ _ hk9999k (by decide)
  have hk9999l : K (F (F a 9) 3) = 22 := hM _ _ hk9999l (by decide)
  have hk9999m : K (F (F a 9) 4) = 23 := hM _ _ hk9999m (by decide)
  have hk9999n : K (F (F a 9) 5) = 23 := hM _ _ hk9999n (by decide)
  have hk9999o : K (F (F a 2) 0) = 15 := hM _ _ hk9999o (by decide)
  have hk9999p : K (F (F a 2) 1) = 15 := hM _ _ hk9999p (by decide)
  have hk9999q : K (F (F a 1) 0) = 10 := hM _ _ hk9999q (by decide)
  have hk9999r : K (F (F (F a 1) 0) 0) = 25 := hM _ _ hk9999r (by decide)
  have hk9999s : K (F a 6) = 8 := hM _ _ hk9999s (by decide)
  have hk9999t : K (F (F a 6) 0) = 20 := hM _ _ hk9999t (by decide)
  have hk9999u : K (F (F a 6) 1) = 21 := hM _ _ hk9999u (by decide)
  have hk9999v : K (F a 3) = 8 := hM _ _ hk9999v (by decide)
  have hk9999w : K (F (F a 3) 0) = 20 := hM _ _ hk9999w (by decide)
  have hk9999y : K (F (F a 3) 1) = 21 := hM _ _ hk9999y (by decide)
  rcases hc11 with ⟨rfl, hn11⟩ | ⟨rfl, hs11, hf11⟩
  · skip
    refine lv_astore_nN (lv' := [(1, .null), (0, .ref a)]) hx hb dX10_rule_14 rfl hl (by decide) rfl (fun ls hl => ?_)
    refine lv_aload_n hx hb dX10_rule_15 rfl (lv_at hl 1 rfl) ?_
    refine gX10_0 S hK hT ha kf_X10_12 dX10_rule_16 (fun _ _ => ?_)
    refine lv_iconst (v := 0) hx hb dX10_rule_19 (by decide) ?_
    refine x_cl0 (x_runV (b := (F a 0)) (As := [.int 0]) (rest := []) S (c_X8_shorten l E K F G11 (F a 0) 0 hk9999b) mv_X8_shorten km_X10_110 rfl rfl ⟨Nat.le_of_ble_eq_true rfl, Nat.le_of_ble_eq_true rfl⟩ (rc_10 hK hT hk9999b) hK (fun _ => XP.blind) (fun U hU hW => XP.at hK hz hS hT hU hW) rfl hl.1 (Nat.le_of_ble_eq_true rfl) dX10_rule_20 ⟨Nat.le_of_ble_eq_true rfl, Nat.le_of_ble_eq_true rfl⟩) hS ?_
    rintro _ G20 H locs ⟨x20, rfl, b20, hF20, t20⟩ hT hS
    have t20 : (((0 : Int) < 0 ∨ ((G.1 (F a 0) 1).toInt) < (0 : Int)) ∧ x20.toInt = 0 ∧ ((G20.1 (F a 0) 1).toInt) = ((G.1 (F a 0) 1).toInt)) ∨ ((0 ≤ (0 : Int) ∧ (0 : Int) ≤ ((G.1 (F a 0) 1).toInt)) ∧ x20.toInt = 1 ∧ ((G20.1 (F a 0) 1).toInt) = (0 : Int)) := by rw [(show (G11.1 (F a 0) 1).toInt = ((G.1 (F a 0) 1).toInt) from (congrArg Int32.toInt ((hF11.1 _ _ (xna (xne_k hk9999b hk9999a (by decide)) (xnj (by decide) (xnj (by decide) (xnj (by decide) (xnj (by decide) (xnj (by decide) (xna (xne_k hk9999b hk11 (by decide)) (xnj (by decide) (xnj (by decide) (xnj (by decide) (xnj (by decide) (xnj (by decide) (xnj (by decide) (xnj (by decide) (xnj (by decide) xn0)))))))))))))))).trans (hF4.1 _ _ (xna (xne_k hk9999b hk9999 (by decide)) xn0)))).trans (rfl : Int32.toInt (G.1 (F a 0) 1) = ((G.1 (F a 0) 1).toInt)))] at t20; exact t20
    refine lv_pop hx hb dX10_rule_23 rfl ?_
    refine lv_aload_nN hx hb dX10_rule_24 rfl (lv_at hl 0 rfl) ?_
    refine lv_ifnonnullN hx hb dX10_rule_25 ?_
    refine lv_sipush (v := (-1000)) hx hb dX10_rule_28 (by decide) ?_
    refine lv_aload_n hx hb dX10_rule_31 rfl (lv_at hl 1 rfl) ?_
    refine gX10_1 S hK hT ha kf_X10_23 dX10_rule_32 (fun _ _ => ?_)
    refine x_clp (x_runV (b := (F a 1)) (As := []) (rest := [.int (-1000)]) S (c_X5_faultPlace l E K F G20 H (F a 1) hk9999a) mv_X5_faultPlace km_X10_120 rfl rfl ⟨Nat.le_of_ble_eq_true rfl, Nat.le_of_ble_eq_true rfl⟩ (rc_7 hK hT hk9999a) hK (fun _ => XPh.blind) (fun U hU hW => XPh.at hK hz hS hT hU hW) rfl hl.1 (Nat.le_of_ble_eq_true rfl) dX10_rule_35 ⟨Nat.le_of_ble_eq_true rfl, Nat.le_of_ble_eq_true rfl⟩) hS ?_
    rintro _ _ locs ⟨x35, rfl, t35⟩ hS
    have t35 : x35.toInt = ((G11.1 (F a 1) 2).toInt) := by rw [(show (G20.1 (F a 1) 2).toInt = ((G11.1 (F a 1) 2).toInt) from (congrArg Int32.toInt (hF20.1 _ _ (xnj (by decide) xn0))).trans (rfl : Int32.toInt (G11.1 (F a 1) 2) = ((G11.1 (F a 1) 2).toInt)))] at t35; exact t35
    refine xi_isub hx hb ((by decide) : Int32.toInt (-1000) = (-1000 : Int)) (t35 : Int32.toInt x35 = ((G11.1 (F a 1) 2).toInt)) dX10_rule_38 (fun x38 t38 => ?_)
    exact x_ri hx hb hr hlk hQ (Nat.le_of_ble_eq_true rfl) (Nat.le_of_ble_eq_true rfl) hS dX10_rule_39 (K, G20) ⟨_, rfl, q11, hq0, hk11, hM, (XFr.call (XFr.call (XFr.call XFr.rf hF4 (xm1 0 rfl xm0) xm0 xm0) hF11 (xm1 3 rfl (xm1 4 rfl (xm1 5 rfl (xm1 6 rfl (xm1 7 rfl (xm1 8 rfl (xm1 9 rfl (xm1 10 rfl (xm1 11 rfl (xm1 12 rfl (xm1 13 rfl (xm1 14 rfl (xm1 15 rfl (xm1 16 rfl (xm1 17 rfl xm0))))))))))))))) xm0 xm0) hF20 (xm1 18 rfl xm0) xm0 xm0), (v_X10_rule_39_1 (F := F) G a x20 G20 n1 t20), (v_X10_rule_39_2 (F := F) G11 a G x38 G20 q11 oq11 hn11 n0 n1 t38 ((hF20.2.2 _ xn0).trans ((hF11.2.2 _ xn0).trans (hF4.2.2 _ xn0))) ((hF20.2.2 _ xn0).trans ((hF11.2.2 _ xn0).trans (hF4.2.2 _ xn0))) ((hF20.1 _ _ (xnj (by decide) xn0)).trans ((hF11.1 _ _ (xnj (by decide) (xna (xne_k hk9999e hk9999a (by decide)) (xnj (by decide) (xnj (by decide) (xnj (by decide) (xnj (by decide) (xnj (by decide) (xna (xne_k hk9999e hk11 (by decide)) (xnj (by decide) (xnj (by decide) (xnj (by decide) (xnj (by decide) (xnj (by decide) (xnj (by decide) (xnj (by decide) xn0)))))))))))))))).trans (hF4.1 _ _ (xnj (by decide) xn0))))), (v_X10_rule_39_3 (F := F) G20 a G ((hF20.2.2 _ xn0).trans ((hF11.2.2 _ xn0).trans (hF4.2.2 _ xn0))))⟩ hT
  · skip
    refine lv_astore_n (lv' := [(1, .ref q11), (0, .ref a)]) hx hb dX10_rule_14 rfl hl (by decide) rfl (fun ls hl => ?_)
    refine lv_aload_n hx hb dX10_rule_15 rfl (lv_at hl 1 rfl) ?_
    refine gX10_0 S hK hT ha kf_X10_12 dX10_rule_16 (fun _ _ => ?_)
    refine lv_iconst (v := 0) hx hb dX10_rule_19 (by decide) ?_
    refine x_cl0 (x_runV (b := (F a 0)) (As := [.int 0]) (rest := []) S (c_X8_shorten l E K F G11 (F a 0) 0 hk9999b) mv_X8_shorten km_X10_110 rfl rfl ⟨Nat.le_of_ble_eq_true rfl, Nat.le_of_ble_eq_true rfl⟩ (rc_10 hK hT hk9999b) hK (fun _ => XP.blind) (fun U hU hW => XP.at hK hz hS hT hU hW) rfl hl.1 (Nat.le_of_ble_eq_true rfl) dX10_rule_20 ⟨Nat.le_of_ble_eq_true rfl, Nat.le_of_ble_eq_true rfl⟩) hS ?_
    rintro _ G20 H locs ⟨x20, rfl, b20, hF20, t20⟩ hT hS
    have t20 : (((0 : Int) < 0 ∨ ((G.1 (F a 0) 1).toInt) < (0 : Int)) ∧ x20.toInt = 0 ∧ ((G20.1 (F a 0) 1).toInt) = ((G.1 (F a 0) 1).toInt)) ∨ ((0 ≤ (0 : Int) ∧ (0 : Int) ≤ ((G.1 (F a 0) 1).toInt)) ∧ x20.toInt = 1 ∧ ((G20.1 (F a 0) 1).toInt) = (0 : Int)) := by rw [(show (G11.1 (F a 0) 1).toInt = ((G.1 (F a 0) 1).toInt) from (congrArg Int32.toInt ((hF11.1 _ _ (xna (xne_k hk9999b hk9999a (by decide)) (xnj (by decide) (xnj (by decide) (xnj (by decide) (xnj (by decide) (xnj (by decide) (xna (xne_k hk9999b hk11 (by decide)) (xnj (by decide) (xnj (by decide) (xnj (by decide) (xnj (by decide) (xnj (by decide) (xnj (by decide) (xnj (by decide) (xnj (by decide) xn0)))))))))))))))).trans (hF4.1 _ _ (xna (xne_k hk9999b hk9999 (by decide)) xn0)))).trans (rfl : Int32.toInt (G.1 (F a 0) 1) = ((G.1 (F a 0) 1).toInt)))] at t20; exact t20
    refine lv_pop hx hb dX10_rule_23 rfl ?_
    refine lv_aload_n hx hb dX10_rule_24 rfl (lv_at hl 0 rfl) ?_
    refine lv_ifnonnull (tgt := 40) hx hb dX10_rule_25 (by decide) ?_
    refine lv_aload_n hx hb dX10_rule_40 rfl (lv_at hl 1 rfl) ?_
    refine gX10_18 S hK hT ha kf_X10_123 dX10_rule_41 (v := (G.1 a 18)) ((hF20.1 _ _ (xnj (by decide) xn0)).trans ((hF11.1 _ _ (xnj (by decide) (xnj (by decide) (xnj (by decide) (xnj (by decide) (xnj (by decide) (xnj (by decide) (xnj (by decide) (xnj (by decide) (xnj (by decide) (xnj (by decide) (xnj (by decide) (xnj (by decide) (xnj (by decide) (xnj (by decide) (xnj (by decide) xn0)))))))))))))))).trans (hF4.1 _ _ (xnj (by decide) xn0)))) (fun hz41 => ?_)
    refine xi_zeq (tgt := 50) hx hb (rfl : Int32.toInt (G.1 a 18) = ((G.1 a 18).toInt)) dX10_rule_44 (by decide) (fun c44 => ?_) (fun c44 => ?_)
    · refine lv_aload_n hx hb dX10_rule_50 rfl (lv_at hl 1 rfl) ?_
      refine gX10_2 S hK hT ha kf_X10_30 dX10_rule_51 (fun _ _ => ?_)
      refine x_clp (x_runV (b := (F a 2)) (As := []) (rest := []) S (c_X0_leastFree l E K F G20 H (F a 2) hk9999e) mv_X0_leastFree km_X10_127 rfl rfl ⟨Nat.le_of_ble_eq_true rfl, Nat.le_of_ble_eq_true rfl⟩ (rc_2 hK hT hk9999e) hK (fun _ => XPh.blind) (fun U hU hW => XPh.at hK hz hS hT hU hW) rfl hl.1 (Nat.le_of_ble_eq_true rfl) dX10_rule_54 ⟨Nat.le_of_ble_eq_true rfl, Nat.le_of_ble_eq_true rfl⟩) hS ?_
      rintro _ _ locs ⟨x54, rfl, t54, oq54⟩ hS
      have t54 : -1 ≤ x54.toInt ∧ x54.toInt ≤ 11 := t54
      refine lv_istore_n (lv' := [(2, .int x54), (1, .ref q11), (0, .ref a)]) hx hb dX10_rule_57 rfl hl (by decide) rfl (fun ls hl => ?_)
      refine lv_iload_n hx hb dX10_rule_58 rfl (lv_at hl 0 rfl) ?_
      refine lv_iconst (v := (-1)) hx hb dX10_rule_59 (by decide) ?_
      refine xi_cne (tgt := 66) hx hb (rfl : Int32.toInt x54 = x54.toInt) ((by decide) : Int32.toInt (-1) = (-1 : Int)) dX10_rule_60 (by decide) (fun c60 => ?_) (fun c60 => ?_)
      · refine lv_aload_n hx hb dX10_rule_66 rfl (lv_at hl 1 rfl) ?_
        refine lv_iload_n hx hb dX10_rule_67 rfl (lv_at hl 0 rfl) ?_
        refine pX7_1 (v := x54) S hK hT hS hk11 kf_X10_130 dX10_rule_68 (fun H locs hT hS => ?_)
        obtain ⟨G68, hG68⟩ : ∃ GG : XG, GG = dput G20 q11 1 x54 := ⟨_, rfl⟩
        rw [← hG68] at hT
        refine lv_aload_n hx hb dX10_rule_71 rfl (lv_at hl 2 rfl) ?_
        refine lv_aload_n hx hb dX10_rule_72 rfl (lv_at hl 1 rfl) ?_
        refine x_cl0 (x_runV (b := a) (As := [.ref q11]) (rest := []) S (c_X10_firstFailingOf l E K F G68 a q11 ha hk11 (v_X10_rule_73_4 (F := F) a G G68 ro0 ron ((ld_c hG68).trans ((hF20.2.1 _ xn0).trans ((hF11.2.1 _ xn0).trans (hF4.2.1 _ xn0)))) ((ld_c hG68).trans ((hF20.2.1 _ xn0).trans ((hF11.2.1 _ xn0).trans (hF4.2.1 _ xn0))))) (v_X10_rule_73_5 (F := F) a G G68 ro0 ron ((ld_c hG68).trans ((hF20.2.1 _ xn0).trans ((hF11.2.1 _ xn0).trans (hF4.2.1 _ xn0)))) ((ld_c hG68).trans ((hF20.2.1 _ xn0).trans ((hF11.2.1 _ xn0).trans (hF4.2.1 _ xn0))))) (v_X10_rule_73_6 (F := F) G11 q11 G a G68 hf11 ((ld_j hG68 (by decide)).trans (hF20.1 _ _ (xnj (by decide) xn0))) ((ld_j hG68 (by decide)).trans (hF20.1 _ _ (xnj (by decide) xn0))) ((ld_j hG68 (by decide)).trans (hF20.1 _ _ (xnj (by decide) xn0))) ((ld_j hG68 (by decide)).trans (hF20.1 _ _ (xnj (by decide) xn0))))) mv_X10_firstFailingOf km_X10_136 rfl rfl ⟨Nat.le_of_ble_eq_true rfl, Nat.le_of_ble_eq_true rfl⟩ (rc_12 hK hT ha) hK (fun _ => XP.blind) (fun U hU hW => XP.at hK hz hS hT hU hW) rfl hl.1 (Nat.le_of_ble_eq_true rfl) dX10_rule_73 ⟨Nat.le_of_ble_eq_true rfl, Nat.le_of_ble_eq_true rfl⟩) hS ?_
        rintro _ G73 H locs ⟨x73, rfl, hF73, t73, oq73, oq73a⟩ hT hS
        have t73 : -1 ≤ x73.toInt := t73
        have oq73a : qL G73 F (F a 9) = uqs (vw (G.2.1 (F (F a 6) 0))) (vw (G.2.1 (F (F a 3) 0))) (G68.1 q11) := by simp only [(show G68.2.1 (F (F a 6) 0) = G.2.1 (F (F a 6) 0) from ((ld_c hG68).trans ((hF20.2.1 _ xn0).trans ((hF11.2.1 _ xn0).trans (hF4.2.1 _ xn0))))), (show G68.2.1 (F (F a 3) 0) = G.2.1 (F (F a 3) 0) from ((ld_c hG68).trans ((hF20.2.1 _ xn0).trans ((hF11.2.1 _ xn0).trans (hF4.2.1 _ xn0)))))] at oq73a; exact oq73a
        refine lv_istore_n (lv' := [(3, .int x73), (2, .int x54), (1, .ref q11), (0, .ref a)]) hx hb dX10_rule_76 rfl hl (by decide) rfl (fun ls hl => ?_)
        refine lv_iload_n hx hb dX10_rule_77 rfl (lv_at hl 0 rfl) ?_
        refine lv_iconst (v := (-1)) hx hb dX10_rule_78 (by decide) ?_
        refine xi_ceq (tgt := 108) hx hb (rfl : Int32.toInt x73 = x73.toInt) ((by decide) : Int32.toInt (-1) = (-1 : Int)) dX10_rule_79 (by decide) (fun c79 => ?_) (fun c79 => ?_)
        · refine lv_aload_n hx hb dX10_rule_108 rfl (lv_at hl 3 rfl) ?_
          refine gX10_2 S hK hT ha kf_X10_30 dX10_rule_109 (fun _ _ => ?_)
          refine lv_aload_n hx hb dX10_rule_112 rfl (lv_at hl 2 rfl) ?_
          refine x_cv0 (x_runV (b := (F a 2)) (As := [.ref q11]) (rest := []) S (c_X0_enter l E K F G73 (F a 2) q11 hk9999e hk11 (by rw [(show (G73.1 q11 1).toInt = x54.toInt from (congrArg Int32.toInt ((hF73.1 _ _ (xnj (by decide) (xnj (by decide) xn0))).trans (ld_at hG68))).trans (rfl : Int32.toInt x54 = x54.toInt))] <;> exact (z_X10_rule_2 x54.toInt t54 c60))) mv_X0_enter km_X10_155 rfl rfl ⟨Nat.le_of_ble_eq_true rfl, Nat.le_of_ble_eq_true rfl⟩ (rc_2 hK hT hk9999e) hK (fun _ => XP.blind) (fun U hU hW => XP.at hK hz hS hT hU hW) rfl hl.1 (Nat.le_of_ble_eq_true rfl) dX10_rule_113 ⟨Nat.le_of_ble_eq_true rfl, Nat.le_of_ble_eq_true rfl⟩) hS ?_
          rintro G113 H locs ⟨hF113, oq113, oq113a, oq113b⟩ hT hS
          refine lv_iload_n hx hb dX10_rule_116 rfl (lv_at hl 1 rfl) ?_
          exact x_ri hx hb hr hlk hQ (Nat.le_of_ble_eq_true rfl) (Nat.le_of_ble_eq_true rfl) hS dX10_rule_117 (K, G113) ⟨_, rfl, q11, hq0, hk11, hM, (XFr.call (XFr.call (by rw [hG68]; exact XFr.dput (XFr.call (XFr.call (XFr.call XFr.rf hF4 (xm1 0 rfl xm0) xm0 xm0) hF11 (xm1 3 rfl (xm1 4 rfl (xm1 5 rfl (xm1 6 rfl (xm1 7 rfl (xm1 8 rfl (xm1 9 rfl (xm1 10 rfl (xm1 11 rfl (xm1 12 rfl (xm1 13 rfl (xm1 14 rfl (xm1 15 rfl (xm1 16 rfl (xm1 17 rfl xm0))))))))))))))) xm0 xm0) hF20 (xm1 18 rfl xm0) xm0 xm0) (List.mem_of_getElem? (i := 9) rfl)) hF73 (xm1 19 rfl (xm1 20 rfl xm0)) (xm1 0 rfl (xm1 1 rfl (xm1 2 rfl (xm1 3 rfl (xm1 4 rfl (xm1 5 rfl (xm1 6 rfl (xm1 7 rfl (xm1 8 rfl xm0))))))))) xm0) hF113 (xm1 21 rfl xm0) xm0 (xm1 0 rfl (xm1 1 rfl xm0))), (v_X10_rule_117_7 (F := F) G a x20 G20 G113 n1 t20 ((hF113.1 _ _ (xnj (by decide) xn0)).trans ((hF73.1 _ _ (xnj (by decide) (xnj (by decide) xn0))).trans (ld_a hG68 (xne_k hk9999b hk11 (by decide)))))), (v_X10_rule_117_8 (F := F) G a G11 q11 x54 G20 x73 G73 G68 G113 hs11 hf11 oq54 oq73 oq73a oq113 oq113a c44 t54 c60 t73 c79 ((hF20.2.2 _ xn0).trans ((hF11.2.2 _ xn0).trans (hF4.2.2 _ xn0))) ((hF73.2.2 _ xn0).trans ((ld_r hG68).trans ((hF20.2.2 _ xn0).trans ((hF11.2.2 _ xn0).trans (hF4.2.2 _ xn0))))) ((fr_A hF113 (fun _ => (xna (xne_k hk11 hk9999e (by decide)) xn0))).trans (fr_A hF73 (fun _ => (xna (xne_k hk11 hk9999c (by decide)) (xna (xne_k hk11 hk9999d (by decide)) xn0))))) (fr_A hF73 (fun _ => (xna (xne_k hk11 hk9999c (by decide)) (xna (xne_k hk11 hk9999d (by decide)) xn0)))) ((ld_j hG68 (by decide)).trans (hF20.1 _ _ (xnj (by decide) xn0))) (ld_at hG68) ((ld_j hG68 (by decide)).trans (hF20.1 _ _ (xnj (by decide) xn0))) ((ld_j hG68 (by decide)).trans (hF20.1 _ _ (xnj (by decide) xn0))) ((ld_j hG68 (by decide)).trans (hF20.1 _ _ (xnj (by decide) xn0))) ((ld_j hG68 (by decide)).trans (hF20.1 _ _ (xnj (by decide) xn0))) ((ld_j hG68 (by decide)).trans (hF20.1 _ _ (xnj (by decide) xn0))) ((ld_j hG68 (by decide)).trans (hF20.1 _ _ (xnj (by decide) xn0))) ((ld_j hG68 (by decide)).trans (hF20.1 _ _ (xnj (by decide) xn0))) ((ld_j hG68 (by decide)).trans (hF20.1 _ _ (xnj (by decide) xn0)))), (v_X10_rule_117_9 (F := F) G113 a G73 G oq113b ((hF73.2.2 _ xn0).trans ((ld_r hG68).trans ((hF20.2.2 _ xn0).trans ((hF11.2.2 _ xn0).trans (hF4.2.2 _ xn0))))))⟩ hT
        · refine lv_aload_n hx hb dX10_rule_82 rfl (lv_at hl 3 rfl) ?_
          refine gX10_14 S hK hT ha kf_X10_91 dX10_rule_83 (fun _ _ => ?_)
          refine lv_iload_n hx hb dX10_rule_86 rfl (lv_at hl 1 rfl) ?_
          refine lv_aload_n hx hb dX10_rule_87 rfl (lv_at hl 2 rfl) ?_
          refine gX7_0 S hK hT hk11 kf_X10_140 dX10_rule_88 (v := (G11.1 q11 0)) ((hF73.1 _ _ (xnj (by decide) (xnj (by decide) xn0))).trans ((ld_j hG68 (by decide)).trans (hF20.1 _ _ (xnj (by decide) xn0)))) (?_)
          refine x_clp (x_runS (As := [.int (G11.1 q11 0)]) (rest := [.int x54, .ref (F a 14)]) S (c_X10_wordOf l E K F G73 H (G11.1 q11 0)) ms_X10_wordOf km_X10_143 rfl rfl ⟨Nat.le_of_ble_eq_true rfl, Nat.le_of_ble_eq_true rfl⟩ hK (fun _ => XPh.blind) (fun U hU hW => XPh.at hK hz hS hT hU hW) rfl hl.1 (Nat.le_of_ble_eq_true rfl) dX10_rule_91 ⟨Nat.le_of_ble_eq_true rfl, Nat.le_of_ble_eq_true rfl⟩) hS ?_
          rintro _ _ locs ⟨q91, hi91, rfl, hw91⟩ hS
          refine lv_aload_n hx hb dX10_rule_94 rfl (lv_at hl 3 rfl) ?_
          refine gX10_9 S hK hT ha kf_X10_61 dX10_rule_95 (fun _ _ => ?_)
          refine lv_iload_n hx hb dX10_rule_98 rfl (lv_at hl 0 rfl) ?_
          refine x_clp (x_runV (b := (F a 9)) (As := [.int x73]) (rest := [.ref (E.2.2.2.2.1 q91), .int x54, .ref (F a 14)]) S (c_X4_subject l E K F G73 H (F a 9) x73 hk9999d) mv_X4_subject km_X10_147 rfl rfl ⟨Nat.le_of_ble_eq_true rfl, Nat.le_of_ble_eq_true rfl⟩ (rc_6 hK hT hk9999d) hK (fun _ => XPh.blind) (fun U hU hW => XPh.at hK hz hS hT hU hW) rfl hl.1 (Nat.le_of_ble_eq_true rfl) dX10_rule_99 ⟨Nat.le_of_ble_eq_true rfl, Nat.le_of_ble_eq_true rfl⟩) hS ?_
          rintro _ _ locs ⟨x99, rfl, t99⟩ hS
          have t99 : ((0 ≤ x73.toInt ∧ x73.toInt < ((G73.1 (F a 9) 6).toInt) ∧ x73.toInt < 1080) ∧ x99.toInt = (aI (G73.2.1 (F (F a 9) 1)) (x73.toInt))) ∨ (¬ (0 ≤ x73.toInt ∧ x73.toInt < ((G73.1 (F a 9) 6).toInt) ∧ x73.toInt < 1080) ∧ x99.toInt = -1) := t99
          refine x_cv (x_runV (b := (F a 14)) (As := [.int x54, .ref (E.2.2.2.2.1 q91), .int x99]) (rest := []) S (c_X9_tell l E K F G73 (F a 14) x54 q91 x99 hk9999 (Nat.lt_of_lt_of_le hi91 (by decide)) (xlen6 hi91)) mv_X9_tell km_X10_151 rfl rfl ⟨Nat.le_of_ble_eq_true rfl, Nat.le_of_ble_eq_true rfl⟩ (rc_11 hK hT hk9999) hK (fun _ => XP.blind) (fun U hU hW => XP.at hK hz hS hT hU hW) rfl hl.1 (Nat.le_of_ble_eq_true rfl) dX10_rule_102 ⟨Nat.le_of_ble_eq_true rfl, Nat.le_of_ble_eq_true rfl⟩) hS ?_
          rintro G102 H locs ⟨hF102, t102⟩ hT hS
          have t102 : ((G102.1 (F a 14) 1).toInt) = 1 ∧ ((G102.1 (F a 14) 2).toInt) = x54.toInt ∧ ((G102.1 (F a 14) 3).toInt) = x99.toInt := t102
          refine lv_bipush (v := (-5)) hx hb dX10_rule_105 (by decide) ?_
          exact x_ri hx hb hr hlk hQ (Nat.le_of_ble_eq_true rfl) (Nat.le_of_ble_eq_true rfl) hS dX10_rule_107 (K, G102) ⟨_, rfl, q11, hq0, hk11, hM, (XFr.call (XFr.call (by rw [hG68]; exact XFr.dput (XFr.call (XFr.call (XFr.call XFr.rf hF4 (xm1 0 rfl xm0) xm0 xm0) hF11 (xm1 3 rfl (xm1 4 rfl (xm1 5 rfl (xm1 6 rfl (xm1 7 rfl (xm1 8 rfl (xm1 9 rfl (xm1 10 rfl (xm1 11 rfl (xm1 12 rfl (xm1 13 rfl (xm1 14 rfl (xm1 15 rfl (xm1 16 rfl (xm1 17 rfl xm0))))))))))))))) xm0 xm0) hF20 (xm1 18 rfl xm0) xm0 xm0) (List.mem_of_getElem? (i := 9) rfl)) hF73 (xm1 19 rfl (xm1 20 rfl xm0)) (xm1 0 rfl (xm1 1 rfl (xm1 2 rfl (xm1 3 rfl (xm1 4 rfl (xm1 5 rfl (xm1 6 rfl (xm1 7 rfl (xm1 8 rfl xm0))))))))) xm0) hF102 (xm1 0 rfl (xm1 1 rfl (xm1 2 rfl xm0))) xm0 xm0), (v_X10_rule_107_10 (F := F) G a x20 G20 G102 n1 t20 ((hF102.1 _ _ (xna (xne_k hk9999b hk9999 (by decide)) (xnj (by decide) (xnj (by decide) xn0)))).trans ((hF73.1 _ _ (xnj (by decide) (xnj (by decide) xn0))).trans (ld_a hG68 (xne_k hk9999b hk11 (by decide)))))), (by rw [((by decide) : Int32.toInt (-5) = (-5 : Int))] <;> exact (v_X10_rule_107_11 (F := F) G a G11 q11 x54 G20 x73 G73 G68 G102 hs11 hf11 oq54 oq73 oq73a c44 t54 c60 t73 c79 ((hF102.2.2 _ xn0).trans ((hF73.2.2 _ xn0).trans ((ld_r hG68).trans ((hF20.2.2 _ xn0).trans ((hF11.2.2 _ xn0).trans (hF4.2.2 _ xn0)))))) ((hF102.2.2 _ xn0).trans ((hF73.2.2 _ xn0).trans ((ld_r hG68).trans ((hF20.2.2 _ xn0).trans ((hF11.2.2 _ xn0).trans (hF4.2.2 _ xn0)))))) ((hF20.2.2 _ xn0).trans ((hF11.2.2 _ xn0).trans (hF4.2.2 _ xn0))) ((fr_A hF102 (fun _ => (xna (xne_k hk11 hk9999 (by decide)) (xna (xne_k hk11 hk9999 (by decide)) (xna (xne_k hk11 hk9999 (by decide)) xn0))))).trans (fr_A hF73 (fun _ => (xna (xne_k hk11 hk9999c (by decide)) (xna (xne_k hk11 hk9999d (by decide)) xn0))))) ((hF102.1 _ _ (xnj (by decide) (xna (xne_k hk9999e hk9999 (by decide)) (xnj (by decide) xn0)))).trans ((hF73.1 _ _ (xnj (by decide) (xnj (by decide) xn0))).trans ((ld_j hG68 (by decide)).trans ((hF20.1 _ _ (xnj (by decide) xn0)).trans ((hF11.1 _ _ (xnj (by decide) (xna (xne_k hk9999e hk9999a (by decide)) (xnj (by decide) (xnj (by decide) (xnj (by decide) (xnj (by decide) (xnj (by decide) (xna (xne_k hk9999e hk11 (by decide)) (xnj (by decide) (xnj (by decide) (xnj (by decide) (xnj (by decide) (xnj (by decide) (xnj (by decide) (xnj (by decide) xn0)))))))))))))))).trans (hF4.1 _ _ (xnj (by decide) xn0))))))) ((ld_j hG68 (by decide)).trans (hF20.1 _ _ (xnj (by decide) xn0))) (ld_at hG68) ((ld_j hG68 (by decide)).trans (hF20.1 _ _ (xnj (by decide) xn0))) ((ld_j hG68 (by decide)).trans (hF20.1 _ _ (xnj (by decide) xn0))) ((ld_j hG68 (by decide)).trans (hF20.1 _ _ (xnj (by decide) xn0))) ((ld_j hG68 (by decide)).trans (hF20.1 _ _ (xnj (by decide) xn0))) ((ld_j hG68 (by decide)).trans (hF20.1 _ _ (xnj (by decide) xn0))) ((ld_j hG68 (by decide)).trans (hF20.1 _ _ (xnj (by decide) xn0))) ((ld_j hG68 (by decide)).trans (hF20.1 _ _ (xnj (by decide) xn0))) ((ld_j hG68 (by decide)).trans (hF20.1 _ _ (xnj (by decide) xn0))))), (v_X10_rule_107_12 (F := F) G102 a G ((hF102.2.2 _ xn0).trans ((hF73.2.2 _ xn0).trans ((ld_r hG68).trans ((hF20.2.2 _ xn0).trans ((hF11.2.2 _ xn0).trans (hF4.2.2 _ xn0)))))))⟩ hT
      · refine lv_bipush (v := (-4)) hx hb dX10_rule_63 (by decide) ?_
        exact x_ri hx hb hr hlk hQ (Nat.le_of_ble_eq_true rfl) (Nat.le_of_ble_eq_true rfl) hS dX10_rule_65 (K, G20) ⟨_, rfl, q11, hq0, hk11, hM, (XFr.call (XFr.call (XFr.call XFr.rf hF4 (xm1 0 rfl xm0) xm0 xm0) hF11 (xm1 3 rfl (xm1 4 rfl (xm1 5 rfl (xm1 6 rfl (xm1 7 rfl (xm1 8 rfl (xm1 9 rfl (xm1 10 rfl (xm1 11 rfl (xm1 12 rfl (xm1 13 rfl (xm1 14 rfl (xm1 15 rfl (xm1 16 rfl (xm1 17 rfl xm0))))))))))))))) xm0 xm0) hF20 (xm1 18 rfl xm0) xm0 xm0), (v_X10_rule_65_13 (F := F) G a x20 G20 n1 t20), (by rw [((by decide) : Int32.toInt (-4) = (-4 : Int))] <;> exact (v_X10_rule_65_14 (F := F) G a x54 G20 q11 hs11 oq54 c44 t54 c60 ((hF20.2.2 _ xn0).trans ((hF11.2.2 _ xn0).trans (hF4.2.2 _ xn0))) ((hF20.2.2 _ xn0).trans ((hF11.2.2 _ xn0).trans (hF4.2.2 _ xn0))) ((hF20.1 _ _ (xnj (by decide) xn0)).trans ((hF11.1 _ _ (xnj (by decide) (xna (xne_k hk9999e hk9999a (by decide)) (xnj (by decide) (xnj (by decide) (xnj (by decide) (xnj (by decide) (xnj (by decide) (xna (xne_k hk9999e hk11 (by decide)) (xnj (by decide) (xnj (by decide) (xnj (by decide) (xnj (by decide) (xnj (by decide) (xnj (by decide) (xnj (by decide) xn0)))))))))))))))).trans (hF4.1 _ _ (xnj (by decide) xn0)))))), (v_X10_rule_65_15 (F := F) G20 a G ((hF20.2.2 _ xn0).trans ((hF11.2.2 _ xn0).trans (hF4.2.2 _ xn0))))⟩ hT
    · refine lv_bipush (v := (-3)) hx hb dX10_rule_47 (by decide) ?_
      exact x_ri hx hb hr hlk hQ (Nat.le_of_ble_eq_true rfl) (Nat.le_of_ble_eq_true rfl) hS dX10_rule_49 (K, G20) ⟨_, rfl, q11, hq0, hk11, hM, (XFr.call (XFr.call (XFr.call XFr.rf hF4 (xm1 0 rfl xm0) xm0 xm0) hF11 (xm1 3 rfl (xm1 4 rfl (xm1 5 rfl (xm1 6 rfl (xm1 7 rfl (xm1 8 rfl (xm1 9 rfl (xm1 10 rfl (xm1 11 rfl (xm1 12 rfl (xm1 13 rfl (xm1 14 rfl (xm1 15 rfl (xm1 16 rfl (xm1 17 rfl xm0))))))))))))))) xm0 xm0) hF20 (xm1 18 rfl xm0) xm0 xm0), (v_X10_rule_49_16 (F := F) G a x20 G20 n1 t20), (by rw [((by decide) : Int32.toInt (-3) = (-3 : Int))] <;> exact (v_X10_rule_49_17 (F := F) G a G20 q11 hs11 c44 ((hF20.2.2 _ xn0).trans ((hF11.2.2 _ xn0).trans (hF4.2.2 _ xn0))) ((hF20.2.2 _ xn0).trans ((hF11.2.2 _ xn0).trans (hF4.2.2 _ xn0))) ((hF20.1 _ _ (xnj (by decide) xn0)).trans ((hF11.1 _ _ (xnj (by decide) (xna (xne_k hk9999e hk9999a (by decide)) (xnj (by decide) (xnj (by decide) (xnj (by decide) (xnj (by decide) (xnj (by decide) (xna (xne_k hk9999e hk11 (by decide)) (xnj (by decide) (xnj (by decide) (xnj (by decide) (xnj (by decide) (xnj (by decide) (xnj (by decide) (xnj (by decide) xn0)))))))))))))))).trans (hF4.1 _ _ (xnj (by decide) xn0)))))), (v_X10_rule_49_18 (F := F) G20 a G ((hF20.2.2 _ xn0).trans ((hF11.2.2 _ xn0).trans (hF4.2.2 _ xn0))))⟩ hT
/-! one row that is other; how many are not marked -/
theorem bI_one {k y : Int32} {Z : Int} (hy : y = (1 : Int32) <<< (k &&& 31)) (hk : k.toInt = Z) (h0 : 0 ≤ Z ∧ Z < 32) (j : Int) (h1 : 0 ≤ j) (h2 : j < 32) : bI y.toInt j = if j = Z then 1 else 0 := by
  have hw : y = (0 : Int32) ||| y := by
    apply Int32.toBitVec_inj.mp
    simp
  have h := bI_set hy hw (X := 0) (by decide) hk h0 j h1 h2
  rw [bI_0] at h
  exact h
def ONb (cg ch : Int → Int) (t0 k0 : Int) : Prop := ∀ t : Int, 0 ≤ t → t < 3 → ∀ k : Int, 0 ≤ k → k < 30 → bI (cg t) k = 0 ∧ (bI (ch t) k = 1 ↔ t = t0 ∧ k = k0)
theorem cel_rset {r : Int → Int} {t k c v t2 k2 c2 : Int} (h : 0 ≤ t ∧ t < 3 ∧ 0 ≤ k ∧ k < 30 ∧ 0 ≤ c ∧ c < 3) (h2 : 0 ≤ t2 ∧ t2 < 3 ∧ 0 ≤ k2 ∧ k2 < 30 ∧ 0 ≤ c2 ∧ c2 < 3) : ((t2 = t ∧ k2 = k ∧ c2 = c) ∧ cel (rset r (90 * t + 30 * c + k) v) t2 k2 c2 = v) ∨ (¬ (t2 = t ∧ k2 = k ∧ c2 = c) ∧ cel (rset r (90 * t + 30 * c + k) v) t2 k2 c2 = cel r t2 k2 c2) := by
  rw [cel_in h2, cel_in h2]
  unfold rset
  by_cases q : 90 * t2 + 30 * c2 + k2 = 90 * t + 30 * c + k
  · rw [if_pos q]; exact Or.inl ⟨by omega, rfl⟩
  · rw [if_neg q]; exact Or.inr ⟨by omega, rfl⟩
theorem ONb.ch {r b cg ch : Int → Int} {t k c v : Int} (h : ONb cg ch t k) (hr : RO r b) (h0 : 0 ≤ t ∧ t < 3 ∧ 0 ≤ k ∧ k < 30 ∧ 0 ≤ c ∧ c < 3) (hc : cel r t k 0 ≠ -2000) (hd : cel r t k c ≠ v) (hv : v ≠ -2000) : CH r (rset r (90 * t + 30 * c + k) v) cg ch := by
  intro t2 a1 a2 k2 b1 b2
  obtain ⟨z1, z2⟩ := h t2 a1 a2 k2 b1 b2
  have e0 := cel_rset (r := r) (v := v) h0 (t2 := t2) (k2 := k2) (c2 := 0) (by omega)
  have e1 := cel_rset (r := r) (v := v) h0 (t2 := t2) (k2 := k2) (c2 := 1) (by omega)
  have e2 := cel_rset (r := r) (v := v) h0 (t2 := t2) (k2 := k2) (c2 := 2) (by omega)
  by_cases m : t2 = t ∧ k2 = k
  · obtain ⟨m1, m2⟩ := m
    subst m1 m2
    rcases (by omega : c = 0 ∨ c = 1 ∨ c = 2) with rfl | rfl | rfl
    · constructor <;> omega
    · constructor <;> omega
    · constructor <;> omega
  · constructor <;> omega
theorem rset_rset (r : Int → Int) (i x v : Int) : rset (rset r i x) i v = rset r i v := by
  funext z
  unfold rset
  by_cases e : z = i
  · rw [if_pos e, if_pos e]
  · rw [if_neg e, if_neg e, if_neg e]
theorem cel_rset_ne {r : Int → Int} {t k c v : Int} (h : 0 ≤ t ∧ t < 3 ∧ 0 ≤ k ∧ k < 30 ∧ 0 ≤ c ∧ c < 3) (hc : cel r t k 0 ≠ -2000) (hv : v ≠ -2000) : cel (rset r (90 * t + 30 * c + k) v) t k 0 ≠ -2000 := by
  have := cel_rset (r := r) (v := v) h (t2 := t) (k2 := k) (c2 := 0) (by omega)
  omega
/-! the least value that all questions bear -/
theorem gaL_le {G : XG} {f : Nat → Option Nat} {r1 r2 : Int → Int} {w : Int} {m n : Nat} (h : m ≤ n) {x : Qt} (hx : x ∈ gaL G f r1 r2 w m) : x ∈ gaL G f r1 r2 w n := by
  induction n with
  | zero =>
    have e : m = 0 := by omega
    rw [e] at hx
    exact hx
  | succ n ih =>
    by_cases g : m = n + 1
    · rw [g] at hx; exact hx
    · exact List.mem_append_left _ (ih (by omega))
theorem gaL_ff {G : XG} {f : Nat → Option Nat} {r1 r2 : Int → Int} {w : Int} {m n : Nat} (h : ffL (gaL G f r1 r2 w m) ≠ -1) (hm : m ≤ n) : ffL (gaL G f r1 r2 w n) ≠ -1 := by
  intro e
  obtain ⟨x, hx, hf⟩ := ffL_yes h
  exact hf (ffL_no e x (gaL_le hm hx))
def LsS (ok : Int → Prop) (is r : Int) : Prop := (r = -2147483648 ∧ ∀ v : Int, -99 ≤ v → v ≤ 99 → v ≠ is → ¬ ok v) ∨ ((-99 ≤ r ∧ r ≤ 99 ∧ r ≠ is) ∧ ok r ∧ ∀ v : Int, -99 ≤ v → v < r → v ≠ is → ¬ ok v)
theorem LsS_no {ok : Int → Prop} {is : Int} (h : ∀ v : Int, -99 ≤ v → v ≤ 99 → v ≠ is → ¬ ok v) : LsS ok is (-2147483648) := Or.inl ⟨rfl, h⟩
theorem LsS_yes {ok : Int → Prop} {is r : Int} (h0 : -99 ≤ r ∧ r ≤ 99 ∧ r ≠ is) (h1 : ok r) (h2 : ∀ v : Int, -99 ≤ v → v < r → v ≠ is → ¬ ok v) : LsS ok is r := Or.inr ⟨h0, h1, h2⟩
theorem LsS_eq {ok ok2 : Int → Prop} {is r r2 : Int} (h : LsS ok is r) (h2 : LsS ok2 is r2) (he : ∀ v, ok v ↔ ok2 v) : r = r2 := by
  rcases h with ⟨a, b⟩ | ⟨⟨a0, a1, a2⟩, b, c⟩
  · rcases h2 with ⟨a', -⟩ | ⟨⟨a0', a1', a2'⟩, b', -⟩
    · exact a.trans a'.symm
    · exact absurd ((he _).mpr b') (b _ a0' a1' a2')
  · rcases h2 with ⟨-, b'⟩ | ⟨⟨a0', a1', a2'⟩, b', c'⟩
    · exact absurd ((he _).mp b) (b' _ a0 a1 a2)
    · apply Classical.byContradiction
      intro g
      rcases Int.lt_or_gt_of_ne g with g | g
      · exact c' r a0 g a2 ((he _).mp b)
      · exact c r2 a0' g a2' ((he _).mpr b')
/-- how many of a row's first n are 0 -/
def czR (f : Nat → Int32) : Nat → Nat
  | 0 => 0
  | n + 1 => czR f n + if (f n).toInt = 0 then 1 else 0
theorem czR_le (f : Nat → Int32) : ∀ n : Nat, czR f n ≤ n
  | 0 => Nat.le_refl _
  | n + 1 => by
    have := czR_le f n
    show czR f n + (if (f n).toInt = 0 then 1 else 0) ≤ n + 1
    split <;> omega
theorem czR_set {f g : Nat → Int32} {i : Nat} (hi : (f i).toInt = 0) (hg : (g i).toInt ≠ 0) (ho : ∀ j, j ≠ i → g j = f j) : ∀ n : Nat, czR g n + (if i < n then 1 else 0) = czR f n
  | 0 => rfl
  | n + 1 => by
    have ih := czR_set hi hg ho n
    show czR g n + (if (g n).toInt = 0 then 1 else 0) + (if i < n + 1 then 1 else 0) = czR f n + (if (f n).toInt = 0 then 1 else 0)
    by_cases e : n = i
    · subst e
      rw [if_neg hg, if_pos (Nat.lt_succ_self _), if_pos hi]
      rw [if_neg (Nat.lt_irrefl _)] at ih
      omega
    · rw [ho n e]
      by_cases q : i < n
      · rw [if_pos q] at ih; rw [if_pos (show i < n + 1 by omega)]; omega
      · rw [if_neg q] at ih; rw [if_neg (show ¬ i < n + 1 by omega)]; omega
theorem czX (f : Nat → Int32) : ∃ n : Nat, n = czR f 90 := ⟨_, rfl⟩
noncomputable def czf (f : Nat → Int32) : Nat := Classical.choose (czX f)
theorem czf_eq (f : Nat → Int32) : czf f = czR f 90 := Classical.choose_spec (czX f)
noncomputable def czI (f : Nat → Int32) : Int := ((czf f : Nat) : Int)
theorem czI_b (f : Nat → Int32) : 0 ≤ czI f ∧ czI f ≤ 90 := by
  have := czR_le f 90
  unfold czI
  rw [czf_eq]
  omega
theorem czI_set {f g : Nat → Int32} {i : Nat} (h : i < 90) (hi : (f i).toInt = 0) (hg : (g i).toInt ≠ 0) (ho : ∀ j, j ≠ i → g j = f j) : czI g + 1 = czI f := by
  have := czR_set hi hg ho 90
  rw [if_pos h] at this
  unfold czI
  rw [czf_eq, czf_eq]
  omega
theorem rset_same (r : Int → Int) (i : Int) : rset r i (r i) = r := by
  funext z
  unfold rset
  by_cases e : z = i
  · rw [if_pos e, e]
  · rw [if_neg e]
theorem mw_at {f : Nat → Int32} {b t k c : Int} (h0 : 0 ≤ t ∧ t < 3 ∧ 0 ≤ k ∧ k < 30 ∧ 0 ≤ c ∧ c < 3) (h1 : aI f (b + 4 * (30 * t + k)) = 1) : mw f b (90 * t + 30 * c + k) = aI f (b + 4 * (30 * t + k) + 1 + c) := by
  have a1 : (90 * t + 30 * c + k) / 90 = t := by omega
  have a2 : (90 * t + 30 * c + k) % 30 = k := by omega
  have a3 : (90 * t + 30 * c + k) / 30 % 3 = c := by omega
  rw [mw_z, if_pos (by omega), a1, a2, a3, if_pos h1]
