theorem z_X3_clear_1 (a0 : Int) (h0 : (0 : Int) ≤ a0) (r0 : -2147483648 ≤ a0 ∧ a0 < 2147483648) : ¬ (2147483648 - a0 < ((0 : Nat) : Int)) := by omega
theorem z_X3_clear_2 (a0 : Int) (a1 : Nat) (h0 : (0 : Int) ≤ a0) (h1 : 2147483648 - a0 < ((a1 + 1 : Nat) : Int)) (h2 : ¬ ((3 : Int) ≤ a0)) (r0 : -2147483648 ≤ a0 ∧ a0 < 2147483648) : 0 ≤ a0 ∧ a0 < ((3 : Nat) : Int) := by omega
theorem z_X3_clear_3 (a0 : Int) (a1 : Int) (a2 : Nat) (h0 : (0 : Int) ≤ a0) (h1 : 2147483648 - a0 < ((a2 + 1 : Nat) : Int)) (h2 : ¬ ((3 : Int) ≤ a0)) (h3 : a1 = a0 + 1 ∨ a0 + 1 < -2147483648 ∨ 2147483648 ≤ a0 + 1) (r0 : -2147483648 ≤ a0 ∧ a0 < 2147483648) (r1 : -2147483648 ≤ a1 ∧ a1 < 2147483648) : (0 : Int) ≤ a1 := by omega
theorem z_X3_clear_4 (a0 : Int) (a1 : Int) (a2 : Nat) (h0 : (0 : Int) ≤ a0) (h1 : 2147483648 - a0 < ((a2 + 1 : Nat) : Int)) (h2 : ¬ ((3 : Int) ≤ a0)) (h3 : a1 = a0 + 1 ∨ a0 + 1 < -2147483648 ∨ 2147483648 ≤ a0 + 1) (r0 : -2147483648 ≤ a0 ∧ a0 < 2147483648) (r1 : -2147483648 ≤ a1 ∧ a1 < 2147483648) : 2147483648 - a1 < ((a2 : Nat) : Int) := by omega
abbrev rm_X3_clear : Room := { frames := 0, cells := 0, slots := 0, locals := 0 }
set_option maxHeartbeats 4000000 in
set_option maxRecDepth 100000 in
theorem c_X3_clear (l : Launch) (E : XE) (K : Nat → Nat) (F : Nat → Nat → Nat) (G : XG) (a : Nat) (ha : K a = 5) : Met l yX3_clear (xw yX3_clear cX3_clear 2 none) rm_X3_clear (va_Pc [.ref a] (XP E K F G)) (XQv E (fun (u : Unit) => True) (fun _ H => TW E K F G [] H)) 0 0 (xA E) := by
  refine x_enter (by decide) (Nat.le_of_ble_eq_true rfl) ?_
  intro p e s m args below meth c Q S hr hlk hnm hQ hP ls hl
  obtain ⟨hz, hK, hT⟩ := hP
  obtain ⟨hx, hb, -, -, -⟩ := id S
  obtain ⟨H, hT, hS, hgo⟩ : ∃ H : Heap, TW E K F G [] H ∧ va_S (xA E) s.heap H [] ∧ H = s.heap := ⟨_, hT, va_S.rf, rfl⟩
  rw [← hgo]
  have hl : lv_has ls 2 [(0, .ref a)] := hl
  refine lv_aload_n hx hb dX3_clear_0 rfl (lv_at hl 0 rfl) ?_
  refine lv_iconst (v := 0) hx hb dX3_clear_1 (by decide) ?_
  refine pX3_3 (kq := []) S hK hT hS ha kf_X3_28 dX3_clear_2 (fun _ h => by cases h) (fun H locs hT hS => ?_)
  refine lv_iconst (v := 0) hx hb dX3_clear_5 (by decide) ?_
  refine lv_istore_n (lv' := [(1, .int 0), (0, .ref a)]) hx hb dX3_clear_6 rfl hl (by decide) rfl (fun ls hl => ?_)
  have L7 : ∀ (N2 : Nat) (x1 : Int32) (H : Heap) (locs : List Loc) (ls : Array Slot), (0 : Int) ≤ x1.toInt → 2147483648 - x1.toInt < ((N2 : Nat) : Int) → TW E K F G [(a, 3, 0)] H → va_S (xA E) s.heap H locs → lv_has ls 2 [(0, .ref a), (1, .int x1)] → W p l e rm_X3_clear s m args below meth c H locs 0 0 Q (F0 m 7 ls []) := by
    intro N2
    induction N2 with
    | zero =>
      intro x1 H locs ls hf3 hm4
      exact absurd hm4 (z_X3_clear_1 x1.toInt hf3 (xr x1))
    | succ N2 ih5 =>
      intro x1 H locs ls hf3 hm4 hT hS hl
      refine lv_iload_n hx hb dX3_clear_7 rfl (lv_at hl 1 rfl) ?_
      refine lv_iconst (v := 3) hx hb dX3_clear_8 (by decide) ?_
      refine xi_cge (tgt := 25) hx hb (rfl : Int32.toInt x1 = x1.toInt) ((by decide) : Int32.toInt 3 = (3 : Int)) dX3_clear_9 (by decide) (fun c6 => ?_) (fun c6 => ?_)
      · exact x_rv hx hb hr hlk hQ (Nat.le_of_ble_eq_true rfl) (Nat.le_of_ble_eq_true rfl) hS dX3_clear_25 () trivial hT.nil
      · refine lv_aload_n hx hb dX3_clear_12 rfl (lv_at hl 0 rfl) ?_
        refine gX3_0 S hK hT ha kf_X3_9 dX3_clear_13 (fun hk7 => ?_)
        refine lv_iload_n hx hb dX3_clear_16 rfl (lv_at hl 1 rfl) ?_
        refine lv_iconst (v := 0) hx hb dX3_clear_17 (by decide) ?_
        refine as_0 S hK hT hS hk7 ar_21 aw_21 (by decide) (z_X3_clear_2 x1.toInt N2 hf3 hm4 c6 (xr x1)) dX3_clear_18 (fun H locs hT hS => ?_)
        refine xi_iinc (n := 1) (lv' := fun z9 => [(1, .int z9), (0, .ref a)]) (k := 1) hx hb (rfl : Int32.toInt x1 = x1.toInt) (by decide) dX3_clear_19 hl rfl (by decide) (fun _ => rfl) (fun x8 ls t9 hl => ?_)
        have hl : lv_has ls 2 [(1, .int x8), (0, .ref a)] := hl
        refine lv_goto (tgt := 7) hx hb dX3_clear_22 (by decide) ?_
        exact ih5 x8 _ _ _ (z_X3_clear_3 x1.toInt x8.toInt N2 hf3 hm4 c6 t9 (xr x1) (xr x8)) (z_X3_clear_4 x1.toInt x8.toInt N2 hf3 hm4 c6 t9 (xr x1) (xr x8)) hT hS (lv_sub hl [1, 0] rfl)
  exact L7 4294967297 0 _ _ _ (by decide) (by decide) hT hS (lv_sub hl [1, 0] rfl)

theorem z_X3_reach_1 (a0 : Int) (a1 : Int) (h0 : (a1 = 1 ∧ 0 ≤ a0 ∧ a0 < 3) ∨ (a1 = 0 ∧ (a0 < 0 ∨ 3 ≤ a0))) (h1 : ¬ (a1 = 0)) (r0 : -2147483648 ≤ a0 ∧ a0 < 2147483648) (r1 : -2147483648 ≤ a1 ∧ a1 < 2147483648) : 0 ≤ a0 ∧ a0 < ((3 : Nat) : Int) := by omega
theorem z_X3_reach_2 (a0 : Int) (a1 : Int) (h0 : (a1 = 1 ∧ 0 ≤ a0 ∧ a0 < 3) ∨ (a1 = 0 ∧ (a0 < 0 ∨ 3 ≤ a0))) (h1 : ¬ (a1 = 0)) (r0 : -2147483648 ≤ a0 ∧ a0 < 2147483648) (r1 : -2147483648 ≤ a1 ∧ a1 < 2147483648) : 0 ≤ a0 ∧ a0 < ((3 : Nat) : Int) := by omega
theorem z_X3_reach_3 (a0 : Int) (a1 : Int) (h0 : (a1 = 1 ∧ 0 ≤ a0 ∧ a0 < 3) ∨ (a1 = 0 ∧ (a0 < 0 ∨ 3 ≤ a0))) (h1 : ¬ (a1 = 0)) (r0 : -2147483648 ≤ a0 ∧ a0 < 2147483648) (r1 : -2147483648 ≤ a1 ∧ a1 < 2147483648) : 0 ≤ a0 ∧ a0 < ((3 : Nat) : Int) := by omega
theorem z_X3_reach_4 (a0 : Int) (h0 : ¬ (a0 < 0)) (h1 : ¬ ((90 : Int) ≤ a0)) (r0 : -2147483648 ≤ a0 ∧ a0 < 2147483648) : 0 ≤ a0 ∧ a0 < ((90 : Nat) : Int) := by omega
theorem z_X3_reach_5 (a0 : Int) (h0 : ¬ (a0 < 0)) (h1 : ¬ ((90 : Int) ≤ a0)) (r0 : -2147483648 ≤ a0 ∧ a0 < 2147483648) : 0 ≤ a0 ∧ a0 < ((90 : Nat) : Int) := by omega
abbrev rm_X3_reach : Room := { frames := 1, cells := 0, slots := 0, locals := 20 }
set_option maxHeartbeats 4000000 in
set_option maxRecDepth 100000 in
theorem c_X3_reach (l : Launch) (E : XE) (K : Nat → Nat) (F : Nat → Nat → Nat) (G : XG) (a : Nat) (p0 : Int32) (p1 : Int32) (ha : K a = 5) : Met l yX3_reach (xw yX3_reach cX3_reach 3 none) rm_X3_reach (va_Pc [.ref a, .int p0, .int p1] (XP E K F G)) (XQv E (fun (u : Unit) => True) (fun _ H => TW E K F G [] H)) 0 0 (xA E) := by
  refine x_enter (by decide) (Nat.le_of_ble_eq_true rfl) ?_
  intro p e s m args below meth c Q S hr hlk hnm hQ hP ls hl
  obtain ⟨hz, hK, hT⟩ := hP
  obtain ⟨hx, hb, -, -, -⟩ := id S
  obtain ⟨H, hT, hS, hgo⟩ : ∃ H : Heap, TW E K F G [] H ∧ va_S (xA E) s.heap H [] ∧ H = s.heap := ⟨_, hT, va_S.rf, rfl⟩
  rw [← hgo]
  have hl : lv_has ls 3 [(0, .ref a), (1, .int p0), (2, .int p1)] := hl
  refine lv_iload_n hx hb dX3_reach_0 rfl (lv_at hl 1 rfl) ?_
  refine x_clp (x_runSN (As := [.int p0]) (rest := []) S (c_X10_isTable l E K F G H p0) ms_X10_isTable (by decide +kernel) rfl rfl ⟨Nat.le_of_ble_eq_true rfl, Nat.le_of_ble_eq_true rfl⟩ hK (fun _ => XPh.blind) (fun U hU hW => XPh.at hK hz hS hT hU hW) rfl hl.1 (Nat.le_of_ble_eq_true rfl) dX3_reach_1 ⟨Nat.le_of_ble_eq_true rfl, Nat.le_of_ble_eq_true rfl⟩) hS ?_
  rintro _ _ locs ⟨x1, rfl, b2, t3⟩ hS
  have t3 : (x1.toInt = 1 ∧ 0 ≤ p0.toInt ∧ p0.toInt < 3) ∨ (x1.toInt = 0 ∧ (p0.toInt < 0 ∨ 3 ≤ p0.toInt)) := t3
  refine xi_zeq (tgt := 27) hx hb (rfl : Int32.toInt x1 = x1.toInt) dX3_reach_4 (by decide) (fun c4 => ?_) (fun c4 => ?_)
  · exact x_rv hx hb hr hlk hQ (Nat.le_of_ble_eq_true rfl) (Nat.le_of_ble_eq_true rfl) hS dX3_reach_27 () trivial hT.nil
  · refine lv_iload_n hx hb dX3_reach_7 rfl (lv_at hl 2 rfl) ?_
    refine x_clp (x_runSN (As := [.int p1]) (rest := []) S (c_X10_isKey l E K F G H p1) ms_X10_isKey (by decide +kernel) rfl rfl ⟨Nat.le_of_ble_eq_true rfl, Nat.le_of_ble_eq_true rfl⟩ hK (fun _ => XPh.blind) (fun U hU hW => XPh.at hK hz hS hT hU hW) rfl hl.1 (Nat.le_of_ble_eq_true rfl) dX3_reach_8 ⟨Nat.le_of_ble_eq_true rfl, Nat.le_of_ble_eq_true rfl⟩) hS ?_
    rintro _ _ locs ⟨x5, rfl, b6, t7⟩ hS
    have t7 : (x5.toInt = 1 ∧ 0 ≤ p1.toInt ∧ p1.toInt < 30) ∨ (x5.toInt = 0 ∧ (p1.toInt < 0 ∨ 30 ≤ p1.toInt)) := t7
    refine xi_zeq (tgt := 27) hx hb (rfl : Int32.toInt x5 = x5.toInt) dX3_reach_11 (by decide) (fun c8 => ?_) (fun c8 => ?_)
    · exact x_rv hx hb hr hlk hQ (Nat.le_of_ble_eq_true rfl) (Nat.le_of_ble_eq_true rfl) hS dX3_reach_27 () trivial hT.nil
    · refine lv_aload_n hx hb dX3_reach_14 rfl (lv_at hl 0 rfl) ?_
      refine gX3_0 S hK hT ha kf_X3_9 dX3_reach_15 (fun hk9 => ?_)
      refine lv_iload_n hx hb dX3_reach_18 rfl (lv_at hl 1 rfl) ?_
      refine al_0 S hK hT hk9 ar_21 (by decide) (z_X3_reach_1 p0.toInt x1.toInt t3 c4 (xr p0) (xr x1)) dX3_reach_19 (fun x10 o11 => ?_)
      refine lv_iload_n hx hb dX3_reach_20 rfl (lv_at hl 2 rfl) ?_
      refine lv_ishr hx hb dX3_reach_21 (lv_topi (fun x12 _ => ?_))
      refine lv_iconst (v := 1) hx hb dX3_reach_22 (by decide) ?_
      refine lv_iand hx hb dX3_reach_23 (lv_topi (fun x13 _ => ?_))
      refine xi_zeq (tgt := 28) hx hb (rfl : Int32.toInt x13 = x13.toInt) dX3_reach_24 (by decide) (fun c14 => ?_) (fun c14 => ?_)
      · refine lv_aload_n hx hb dX3_reach_28 rfl (lv_at hl 0 rfl) ?_
        refine gX3_3 S hK hT ha kf_X3_28 dX3_reach_29 (fun x15 hT => ?_)
        refine xi_zlt (tgt := 86) hx hb (rfl : Int32.toInt x15 = x15.toInt) dX3_reach_32 (by decide) (fun c16 => ?_) (fun c16 => ?_)
        · exact x_rv hx hb hr hlk hQ (Nat.le_of_ble_eq_true rfl) (Nat.le_of_ble_eq_true rfl) hS dX3_reach_86 () trivial hT.nil
        · refine lv_aload_n hx hb dX3_reach_35 rfl (lv_at hl 0 rfl) ?_
          refine kX3_3 (v := x15) S hK hT ha (List.mem_of_getElem? (i := 0) rfl) kf_X3_28 dX3_reach_36 ?_
          refine lv_bipush (v := 90) hx hb dX3_reach_39 (by decide) ?_
          refine xi_cge (tgt := 86) hx hb (rfl : Int32.toInt x15 = x15.toInt) ((by decide) : Int32.toInt 90 = (90 : Int)) dX3_reach_41 (by decide) (fun c17 => ?_) (fun c17 => ?_)
          · exact x_rv hx hb hr hlk hQ (Nat.le_of_ble_eq_true rfl) (Nat.le_of_ble_eq_true rfl) hS dX3_reach_86 () trivial hT.nil
          · refine lv_aload_n hx hb dX3_reach_44 rfl (lv_at hl 0 rfl) ?_
            refine gX3_0 S hK hT ha kf_X3_9 dX3_reach_45 (fun hk18 => ?_)
            refine lv_iload_n hx hb dX3_reach_48 rfl (lv_at hl 1 rfl) ?_
            refine lv_dup2_11 hx hb dX3_reach_49 rfl rfl ?_
            refine al_0 S hK hT hk18 ar_21 (by decide) (z_X3_reach_2 p0.toInt x1.toInt t3 c4 (xr p0) (xr x1)) dX3_reach_50 (fun x19 o20 => ?_)
            refine lv_iconst (v := 1) hx hb dX3_reach_51 (by decide) ?_
            refine lv_iload_n hx hb dX3_reach_52 rfl (lv_at hl 2 rfl) ?_
            refine lv_ishl hx hb dX3_reach_53 (lv_topi (fun x21 _ => ?_))
            refine lv_ior hx hb dX3_reach_54 (lv_topi (fun x22 _ => ?_))
            refine as_0 S hK hT hS hk18 ar_21 aw_21 (by decide) (z_X3_reach_3 p0.toInt x1.toInt t3 c4 (xr p0) (xr x1)) dX3_reach_55 (fun H locs hT hS => ?_)
            refine lv_aload_n hx hb dX3_reach_56 rfl (lv_at hl 0 rfl) ?_
            refine gX3_1 S hK hT ha kf_X3_15 dX3_reach_57 (fun hk23 => ?_)
            refine lv_aload_n hx hb dX3_reach_60 rfl (lv_at hl 0 rfl) ?_
            refine kX3_3 (v := x15) S hK hT ha (List.mem_of_getElem? (i := 0) rfl) kf_X3_28 dX3_reach_61 ?_
            refine lv_iload_n hx hb dX3_reach_64 rfl (lv_at hl 1 rfl) ?_
            refine as_0 S hK hT hS hk23 ar_24 aw_24 (by decide) (z_X3_reach_4 x15.toInt c16 c17 (xr x15)) dX3_reach_65 (fun H locs hT hS => ?_)
            refine lv_aload_n hx hb dX3_reach_66 rfl (lv_at hl 0 rfl) ?_
            refine gX3_2 S hK hT ha kf_X3_18 dX3_reach_67 (fun hk24 => ?_)
            refine lv_aload_n hx hb dX3_reach_70 rfl (lv_at hl 0 rfl) ?_
            refine kX3_3 (v := x15) S hK hT ha (List.mem_of_getElem? (i := 0) rfl) kf_X3_28 dX3_reach_71 ?_
            refine lv_iload_n hx hb dX3_reach_74 rfl (lv_at hl 2 rfl) ?_
            refine as_0 S hK hT hS hk24 ar_24 aw_24 (by decide) (z_X3_reach_5 x15.toInt c16 c17 (xr x15)) dX3_reach_75 (fun H locs hT hS => ?_)
            refine lv_aload_n hx hb dX3_reach_76 rfl (lv_at hl 0 rfl) ?_
            refine lv_dup hx hb dX3_reach_77 rfl ?_
            refine kX3_3 (v := x15) S hK hT ha (List.mem_of_getElem? (i := 0) rfl) kf_X3_28 dX3_reach_78 ?_
            refine lv_iconst (v := 1) hx hb dX3_reach_81 (by decide) ?_
            refine xi_iadd hx hb (rfl : Int32.toInt x15 = x15.toInt) ((by decide) : Int32.toInt 1 = (1 : Int)) dX3_reach_82 (fun x25 t26 => ?_)
            refine pX3_3 (kq := []) S hK hT hS ha kf_X3_28 dX3_reach_83 (fun _ h => by cases h) (fun H locs hT hS => ?_)
            exact x_rv hx hb hr hlk hQ (Nat.le_of_ble_eq_true rfl) (Nat.le_of_ble_eq_true rfl) hS dX3_reach_86 () trivial hT.nil
      · exact x_rv hx hb hr hlk hQ (Nat.le_of_ble_eq_true rfl) (Nat.le_of_ble_eq_true rfl) hS dX3_reach_27 () trivial hT.nil

theorem z_X3_reachFrom_1 (a0 : Int) (h0 : (0 : Int) ≤ a0) (r0 : -2147483648 ≤ a0 ∧ a0 < 2147483648) : ¬ (2147483648 - a0 < ((0 : Nat) : Int)) := by omega
theorem z_X3_reachFrom_2 (a0 : Int) (a1 : Int) (a2 : Int) (a3 : Nat) (h0 : (0 : Int) ≤ a0) (h1 : 2147483648 - a0 < ((a3 + 1 : Nat) : Int)) (h2 : ¬ (a2 ≤ a0)) (h3 : a1 = a0 + 1 ∨ a0 + 1 < -2147483648 ∨ 2147483648 ≤ a0 + 1) (r0 : -2147483648 ≤ a0 ∧ a0 < 2147483648) (r1 : -2147483648 ≤ a1 ∧ a1 < 2147483648) (r2 : -2147483648 ≤ a2 ∧ a2 < 2147483648) : (0 : Int) ≤ a1 := by omega
theorem z_X3_reachFrom_3 (a0 : Int) (a1 : Int) (a2 : Int) (a3 : Nat) (h0 : (0 : Int) ≤ a0) (h1 : 2147483648 - a0 < ((a3 + 1 : Nat) : Int)) (h2 : ¬ (a2 ≤ a0)) (h3 : a1 = a0 + 1 ∨ a0 + 1 < -2147483648 ∨ 2147483648 ≤ a0 + 1) (r0 : -2147483648 ≤ a0 ∧ a0 < 2147483648) (r1 : -2147483648 ≤ a1 ∧ a1 < 2147483648) (r2 : -2147483648 ≤ a2 ∧ a2 < 2147483648) : 2147483648 - a1 < ((a3 : Nat) : Int) := by omega
theorem z_X3_reachFrom_4 (a0 : Int) (a1 : Int) (a2 : Int) (a3 : Nat) (h0 : (0 : Int) ≤ a0) (h1 : 2147483648 - a0 < ((a3 + 1 : Nat) : Int)) (h2 : ¬ (a2 ≤ a0)) (h3 : a1 = a0 + 1 ∨ a0 + 1 < -2147483648 ∨ 2147483648 ≤ a0 + 1) (r0 : -2147483648 ≤ a0 ∧ a0 < 2147483648) (r1 : -2147483648 ≤ a1 ∧ a1 < 2147483648) (r2 : -2147483648 ≤ a2 ∧ a2 < 2147483648) : (0 : Int) ≤ a1 := by omega
theorem z_X3_reachFrom_5 (a0 : Int) (a1 : Int) (a2 : Int) (a3 : Nat) (h0 : (0 : Int) ≤ a0) (h1 : 2147483648 - a0 < ((a3 + 1 : Nat) : Int)) (h2 : ¬ (a2 ≤ a0)) (h3 : a1 = a0 + 1 ∨ a0 + 1 < -2147483648 ∨ 2147483648 ≤ a0 + 1) (r0 : -2147483648 ≤ a0 ∧ a0 < 2147483648) (r1 : -2147483648 ≤ a1 ∧ a1 < 2147483648) (r2 : -2147483648 ≤ a2 ∧ a2 < 2147483648) : 2147483648 - a1 < ((a3 : Nat) : Int) := by omega
theorem z_X3_reachFrom_6 (a0 : Int) (h0 : (0 : Int) ≤ a0) (r0 : -2147483648 ≤ a0 ∧ a0 < 2147483648) : ¬ (2147483648 - a0 < ((0 : Nat) : Int)) := by omega
theorem z_X3_reachFrom_7 (a0 : Int) (a1 : Int) (a2 : Int) (a3 : Nat) (h0 : (0 : Int) ≤ a0) (h1 : 2147483648 - a0 < ((a3 + 1 : Nat) : Int)) (h2 : ¬ (a2 ≤ a0)) (h3 : a1 = a0 + 1 ∨ a0 + 1 < -2147483648 ∨ 2147483648 ≤ a0 + 1) (r0 : -2147483648 ≤ a0 ∧ a0 < 2147483648) (r1 : -2147483648 ≤ a1 ∧ a1 < 2147483648) (r2 : -2147483648 ≤ a2 ∧ a2 < 2147483648) : (0 : Int) ≤ a1 := by omega
theorem z_X3_reachFrom_8 (a0 : Int) (a1 : Int) (a2 : Int) (a3 : Nat) (h0 : (0 : Int) ≤ a0) (h1 : 2147483648 - a0 < ((a3 + 1 : Nat) : Int)) (h2 : ¬ (a2 ≤ a0)) (h3 : a1 = a0 + 1 ∨ a0 + 1 < -2147483648 ∨ 2147483648 ≤ a0 + 1) (r0 : -2147483648 ≤ a0 ∧ a0 < 2147483648) (r1 : -2147483648 ≤ a1 ∧ a1 < 2147483648) (r2 : -2147483648 ≤ a2 ∧ a2 < 2147483648) : 2147483648 - a1 < ((a3 : Nat) : Int) := by omega
theorem z_X3_reachFrom_9 (a0 : Int) (a1 : Int) (a2 : Nat) (h0 : (0 : Int) ≤ a0) (h1 : 2147483648 - a0 < ((a2 + 1 : Nat) : Int)) (h2 : ¬ ((30 : Int) ≤ a0)) (h3 : a1 = a0 + 1 ∨ a0 + 1 < -2147483648 ∨ 2147483648 ≤ a0 + 1) (r0 : -2147483648 ≤ a0 ∧ a0 < 2147483648) (r1 : -2147483648 ≤ a1 ∧ a1 < 2147483648) : (0 : Int) ≤ a1 := by omega
theorem z_X3_reachFrom_10 (a0 : Int) (a1 : Int) (a2 : Nat) (h0 : (0 : Int) ≤ a0) (h1 : 2147483648 - a0 < ((a2 + 1 : Nat) : Int)) (h2 : ¬ ((30 : Int) ≤ a0)) (h3 : a1 = a0 + 1 ∨ a0 + 1 < -2147483648 ∨ 2147483648 ≤ a0 + 1) (r0 : -2147483648 ≤ a0 ∧ a0 < 2147483648) (r1 : -2147483648 ≤ a1 ∧ a1 < 2147483648) : 2147483648 - a1 < ((a2 : Nat) : Int) := by omega
theorem z_X3_reachFrom_11 (a0 : Int) (a1 : Int) (a2 : Int) (a3 : Nat) (h0 : (0 : Int) ≤ a0) (h1 : 2147483648 - a0 < ((a3 + 1 : Nat) : Int)) (h2 : ¬ (a2 ≤ a0)) (h3 : a1 = a0 + 1 ∨ a0 + 1 < -2147483648 ∨ 2147483648 ≤ a0 + 1) (r0 : -2147483648 ≤ a0 ∧ a0 < 2147483648) (r1 : -2147483648 ≤ a1 ∧ a1 < 2147483648) (r2 : -2147483648 ≤ a2 ∧ a2 < 2147483648) : (0 : Int) ≤ a1 := by omega
theorem z_X3_reachFrom_12 (a0 : Int) (a1 : Int) (a2 : Int) (a3 : Nat) (h0 : (0 : Int) ≤ a0) (h1 : 2147483648 - a0 < ((a3 + 1 : Nat) : Int)) (h2 : ¬ (a2 ≤ a0)) (h3 : a1 = a0 + 1 ∨ a0 + 1 < -2147483648 ∨ 2147483648 ≤ a0 + 1) (r0 : -2147483648 ≤ a0 ∧ a0 < 2147483648) (r1 : -2147483648 ≤ a1 ∧ a1 < 2147483648) (r2 : -2147483648 ≤ a2 ∧ a2 < 2147483648) : 2147483648 - a1 < ((a3 : Nat) : Int) := by omega
abbrev rm_X3_reachFrom : Room := { frames := 2, cells := 0, slots := 0, locals := 44 }
set_option maxHeartbeats 4000000 in
set_option maxRecDepth 100000 in
theorem c_X3_reachFrom (l : Launch) (E : XE) (K : Nat → Nat) (F : Nat → Nat → Nat) (G : XG) (a : Nat) (p0 : Nat) (p1 : Nat) (p2 : Int32) (p3 : Int32) (ha : K a = 5) (hp0 : K p0 = 8) (hp1 : K p1 = 2) : Met l yX3_reachFrom (xw yX3_reachFrom cX3_reachFrom 8 none) rm_X3_reachFrom (va_Pc [.ref a, .ref p0, .ref p1, .int p2, .int p3] (XP E K F G)) (XQv E (fun (u : Unit) => True) (fun _ H => TW E K F G [] H)) 0 0 (xA E) := by
  refine x_enter (by decide) (Nat.le_of_ble_eq_true rfl) ?_
  intro p e s m args below meth c Q S hr hlk hnm hQ hP ls hl
  obtain ⟨hz, hK, hT⟩ := hP
  obtain ⟨hx, hb, -, -, -⟩ := id S
  obtain ⟨H, hT, hS, hgo⟩ : ∃ H : Heap, TW E K F G [] H ∧ va_S (xA E) s.heap H [] ∧ H = s.heap := ⟨_, hT, va_S.rf, rfl⟩
  rw [← hgo]
  have hl : lv_has ls 8 [(0, .ref a), (1, .ref p0), (2, .ref p1), (3, .int p2), (4, .int p3)] := hl
  refine lv_iconst (v := 0) hx hb dX3_reachFrom_0 (by decide) ?_
  refine lv_istore (lv' := [(5, .int 0), (0, .ref a), (1, .ref p0), (2, .ref p1), (3, .int p2), (4, .int p3)]) hx hb dX3_reachFrom_1 hl (by decide) rfl (fun ls hl => ?_)
  have L3 : ∀ (N2 : Nat) (x1 : Int32) (H : Heap) (locs : List Loc) (ls : Array Slot), (0 : Int) ≤ x1.toInt → 2147483648 - x1.toInt < ((N2 : Nat) : Int) → TW E K F G [] H → va_S (xA E) s.heap H locs → lv_has ls 8 [(0, .ref a), (1, .ref p0), (2, .ref p1), (3, .int p2), (4, .int p3), (5, .int x1)] → W p l e rm_X3_reachFrom s m args below meth c H locs 0 0 Q (F0 m 3 ls []) := by
    intro N2
    induction N2 with
    | zero =>
      intro x1 H locs ls hf3 hm4
      exact absurd hm4 (z_X3_reachFrom_1 x1.toInt hf3 (xr x1))
    | succ N2 ih5 =>
      intro x1 H locs ls hf3 hm4 hT hS hl
      refine lv_iload hx hb dX3_reachFrom_3 (lv_at hl 5 rfl) ?_
      refine lv_aload_n hx hb dX3_reachFrom_5 rfl (lv_at hl 2 rfl) ?_
      refine x_clp (x_runV (b := p1) (As := []) (rest := [.int x1]) S (c_X0_size l E K F G H p1 hp1) mv_X0_size km_X3_36 rfl rfl ⟨Nat.le_of_ble_eq_true rfl, Nat.le_of_ble_eq_true rfl⟩ (rc_2 hK hT hp1) hK (fun _ => XPh.blind) (fun U hU hW => XPh.at hK hz hS hT hU hW) rfl hl.1 (Nat.le_of_ble_eq_true rfl) dX3_reachFrom_6 ⟨Nat.le_of_ble_eq_true rfl, Nat.le_of_ble_eq_true rfl⟩) hS ?_
      rintro _ _ locs ⟨x6, rfl⟩ hS
      refine xi_cge (tgt := 100) hx hb (rfl : Int32.toInt x1 = x1.toInt) (rfl : Int32.toInt x6 = x6.toInt) dX3_reachFrom_9 (by decide) (fun c7 => ?_) (fun c7 => ?_)
      · exact x_rv hx hb hr hlk hQ (Nat.le_of_ble_eq_true rfl) (Nat.le_of_ble_eq_true rfl) hS dX3_reachFrom_100 () trivial hT.nil
      · refine lv_aload_n hx hb dX3_reachFrom_12 rfl (lv_at hl 2 rfl) ?_
        refine lv_iload hx hb dX3_reachFrom_13 (lv_at hl 5 rfl) ?_
        refine x_clp (x_runV (b := p1) (As := [.int x1]) (rest := []) S (c_X0_inOrder l E K F G H p1 x1 hp1) mv_X0_inOrder km_X3_41 rfl rfl ⟨Nat.le_of_ble_eq_true rfl, Nat.le_of_ble_eq_true rfl⟩ (rc_2 hK hT hp1) hK (fun _ => XPh.blind) (fun U hU hW => XPh.at hK hz hS hT hU hW) rfl hl.1 (Nat.le_of_ble_eq_true rfl) dX3_reachFrom_15 ⟨Nat.le_of_ble_eq_true rfl, Nat.le_of_ble_eq_true rfl⟩) hS ?_
        rintro _ _ locs (rfl | ⟨q9, rfl, hk10⟩) hS
        · refine lv_astoreN (lv' := [(6, .null), (0, .ref a), (1, .ref p0), (2, .ref p1), (3, .int p2), (4, .int p3), (5, .int x1)]) hx hb dX3_reachFrom_18 hl (by decide) rfl (fun ls hl => ?_)
          refine lv_aloadN hx hb dX3_reachFrom_20 (lv_at hl 0 rfl) ?_
          refine lv_ifnullN (tgt := 94) hx hb dX3_reachFrom_22 (by decide) ?_
          refine xi_iinc (n := 1) (lv' := fun z9 => [(5, .int z9), (6, .null), (0, .ref a), (1, .ref p0), (2, .ref p1), (3, .int p2), (4, .int p3)]) (k := 6) hx hb (rfl : Int32.toInt x1 = x1.toInt) (by decide) dX3_reachFrom_94 hl rfl (by decide) (fun _ => rfl) (fun x11 ls t12 hl => ?_)
          have hl : lv_has ls 8 [(5, .int x11), (6, .null), (0, .ref a), (1, .ref p0), (2, .ref p1), (3, .int p2), (4, .int p3)] := hl
          refine lv_goto (tgt := 3) hx hb dX3_reachFrom_97 (by decide) ?_
          exact ih5 x11 _ _ _ (z_X3_reachFrom_2 x1.toInt x11.toInt x6.toInt N2 hf3 hm4 c7 t12 (xr x1) (xr x11) (xr x6)) (z_X3_reachFrom_3 x1.toInt x11.toInt x6.toInt N2 hf3 hm4 c7 t12 (xr x1) (xr x11) (xr x6)) hT.nil hS (lv_sub hl [2, 3, 4, 5, 6, 0] rfl)
        · refine lv_astore (lv' := [(6, .ref q9), (0, .ref a), (1, .ref p0), (2, .ref p1), (3, .int p2), (4, .int p3), (5, .int x1)]) hx hb dX3_reachFrom_18 hl (by decide) rfl (fun ls hl => ?_)
          refine lv_aload hx hb dX3_reachFrom_20 (lv_at hl 0 rfl) ?_
          refine lv_ifnull hx hb dX3_reachFrom_22 ?_
          refine lv_aload hx hb dX3_reachFrom_25 (lv_at hl 0 rfl) ?_
          refine gX7_0 S hK hT hk10 kf_X3_45 dX3_reachFrom_27 (fun x13 hT => ?_)
          refine lv_iconst (v := 1) hx hb dX3_reachFrom_30 (by decide) ?_
          refine xi_cne (tgt := 94) hx hb (rfl : Int32.toInt x13 = x13.toInt) ((by decide) : Int32.toInt 1 = (1 : Int)) dX3_reachFrom_31 (by decide) (fun c14 => ?_) (fun c14 => ?_)
          · refine xi_iinc (n := 1) (lv' := fun z9 => [(5, .int z9), (6, .ref q9), (0, .ref a), (1, .ref p0), (2, .ref p1), (3, .int p2), (4, .int p3)]) (k := 6) hx hb (rfl : Int32.toInt x1 = x1.toInt) (by decide) dX3_reachFrom_94 hl rfl (by decide) (fun _ => rfl) (fun x15 ls t16 hl => ?_)
            have hl : lv_has ls 8 [(5, .int x15), (6, .ref q9), (0, .ref a), (1, .ref p0), (2, .ref p1), (3, .int p2), (4, .int p3)] := hl
            refine lv_goto (tgt := 3) hx hb dX3_reachFrom_97 (by decide) ?_
            exact ih5 x15 _ _ _ (z_X3_reachFrom_4 x1.toInt x15.toInt x6.toInt N2 hf3 hm4 c7 t16 (xr x1) (xr x15) (xr x6)) (z_X3_reachFrom_5 x1.toInt x15.toInt x6.toInt N2 hf3 hm4 c7 t16 (xr x1) (xr x15) (xr x6)) hT.nil hS (lv_sub hl [2, 3, 4, 5, 6, 0] rfl)
          · refine lv_aload hx hb dX3_reachFrom_34 (lv_at hl 0 rfl) ?_
            refine gX7_4 S hK hT hk10 kf_X3_50 dX3_reachFrom_36 (fun x17 hT => ?_)
            refine lv_iload_n hx hb dX3_reachFrom_39 rfl (lv_at hl 4 rfl) ?_
            refine xi_ceq (tgt := 46) hx hb (rfl : Int32.toInt x17 = x17.toInt) (rfl : Int32.toInt p2 = p2.toInt) dX3_reachFrom_40 (by decide) (fun c18 => ?_) (fun c18 => ?_)
            · refine lv_iconst (v := 0) hx hb dX3_reachFrom_46 (by decide) ?_
              refine lv_istore (lv' := [(7, .int 0), (6, .ref q9), (0, .ref a), (1, .ref p0), (2, .ref p1), (3, .int p2), (4, .int p3), (5, .int x1)]) hx hb dX3_reachFrom_47 hl (by decide) rfl (fun ls hl => ?_)
              have L49 : ∀ (N20 : Nat) (x19 : Int32) (H : Heap) (locs : List Loc) (ls : Array Slot), (0 : Int) ≤ x19.toInt → 2147483648 - x19.toInt < ((N20 : Nat) : Int) → TW E K F G [] H → va_S (xA E) s.heap H locs → lv_has ls 8 [(0, .ref a), (1, .ref p0), (2, .ref p1), (3, .int p2), (4, .int p3), (5, .int x1), (6, .ref q9), (7, .int x19)] → W p l e rm_X3_reachFrom s m args below meth c H locs 0 0 Q (F0 m 49 ls []) := by
                intro N20
                induction N20 with
                | zero =>
                  intro x19 H locs ls hf21 hm22
                  exact absurd hm22 (z_X3_reachFrom_6 x19.toInt hf21 (xr x19))
                | succ N20 ih23 =>
                  intro x19 H locs ls hf21 hm22 hT hS hl
                  refine lv_iload hx hb dX3_reachFrom_49 (lv_at hl 7 rfl) ?_
                  refine lv_bipush (v := 30) hx hb dX3_reachFrom_51 (by decide) ?_
                  refine xi_cge (tgt := 94) hx hb (rfl : Int32.toInt x19 = x19.toInt) ((by decide) : Int32.toInt 30 = (30 : Int)) dX3_reachFrom_53 (by decide) (fun c24 => ?_) (fun c24 => ?_)
                  · refine xi_iinc (n := 1) (lv' := fun z9 => [(5, .int z9), (0, .ref a), (1, .ref p0), (2, .ref p1), (3, .int p2), (4, .int p3), (6, .ref q9), (7, .int x19)]) (k := 5) hx hb (rfl : Int32.toInt x1 = x1.toInt) (by decide) dX3_reachFrom_94 hl rfl (by decide) (fun _ => rfl) (fun x25 ls t26 hl => ?_)
                    have hl : lv_has ls 8 [(5, .int x25), (0, .ref a), (1, .ref p0), (2, .ref p1), (3, .int p2), (4, .int p3), (6, .ref q9), (7, .int x19)] := hl
                    refine lv_goto (tgt := 3) hx hb dX3_reachFrom_97 (by decide) ?_
                    exact ih5 x25 _ _ _ (z_X3_reachFrom_7 x1.toInt x25.toInt x6.toInt N2 hf3 hm4 c7 t26 (xr x1) (xr x25) (xr x6)) (z_X3_reachFrom_8 x1.toInt x25.toInt x6.toInt N2 hf3 hm4 c7 t26 (xr x1) (xr x25) (xr x6)) hT.nil hS (lv_sub hl [1, 2, 3, 4, 5, 0] rfl)
                  · refine lv_aload_n hx hb dX3_reachFrom_56 rfl (lv_at hl 1 rfl) ?_
                    refine lv_aload hx hb dX3_reachFrom_57 (lv_at hl 6 rfl) ?_
                    refine gX7_2 S hK hT hk10 kf_X3_53 dX3_reachFrom_59 (fun x27 hT => ?_)
                    refine lv_iload hx hb dX3_reachFrom_62 (lv_at hl 7 rfl) ?_
                    refine lv_aload hx hb dX3_reachFrom_64 (lv_at hl 6 rfl) ?_
                    refine gX7_3 S hK hT hk10 kf_X3_56 dX3_reachFrom_66 (fun x28 hT => ?_)
                    refine x_clp (x_runV (b := p0) (As := [.int x27, .int x19, .int x28]) (rest := []) S (c_X6_cell l E K F G H p0 x27 x19 x28 hp0) mv_X6_cell km_X3_59 rfl rfl ⟨Nat.le_of_ble_eq_true rfl, Nat.le_of_ble_eq_true rfl⟩ (rc_8 hK hT hp0) hK (fun _ => XPh.blind) (fun U hU hW => XPh.at hK hz hS hT hU hW) rfl hl.1 (Nat.le_of_ble_eq_true rfl) dX3_reachFrom_69 ⟨Nat.le_of_ble_eq_true rfl, Nat.le_of_ble_eq_true rfl⟩) hS ?_
                    rintro _ _ locs ⟨x29, rfl⟩ hS
                    refine lv_iload hx hb dX3_reachFrom_72 (lv_at hl 4 rfl) ?_
                    have J88 : ∀ (H : Heap) (locs : List Loc) (ls : Array Slot), TW E K F G [] H → va_S (xA E) s.heap H locs → lv_has ls 8 [(0, .ref a), (1, .ref p0), (2, .ref p1), (3, .int p2), (4, .int p3), (5, .int x1), (6, .ref q9), (7, .int x19)] → W p l e rm_X3_reachFrom s m args below meth c H locs 0 0 Q (F0 m 88 ls []) := by
                      intro H locs ls hT hS hl
                      refine xi_iinc (n := 1) (lv' := fun z9 => [(7, .int z9), (0, .ref a), (1, .ref p0), (2, .ref p1), (3, .int p2), (4, .int p3), (5, .int x1), (6, .ref q9)]) (k := 7) hx hb (rfl : Int32.toInt x19 = x19.toInt) (by decide) dX3_reachFrom_88 hl rfl (by decide) (fun _ => rfl) (fun x30 ls t31 hl => ?_)
                      have hl : lv_has ls 8 [(7, .int x30), (0, .ref a), (1, .ref p0), (2, .ref p1), (3, .int p2), (4, .int p3), (5, .int x1), (6, .ref q9)] := hl
                      refine lv_goto (tgt := 49) hx hb dX3_reachFrom_91 (by decide) ?_
                      exact ih23 x30 _ _ _ (z_X3_reachFrom_9 x19.toInt x30.toInt N20 hf21 hm22 c24 t31 (xr x19) (xr x30)) (z_X3_reachFrom_10 x19.toInt x30.toInt N20 hf21 hm22 c24 t31 (xr x19) (xr x30)) hT.nil hS (lv_sub hl [1, 2, 3, 4, 5, 6, 7, 0] rfl)
                    refine xi_cne (tgt := 88) hx hb (rfl : Int32.toInt x29 = x29.toInt) (rfl : Int32.toInt p3 = p3.toInt) dX3_reachFrom_74 (by decide) (fun c32 => ?_) (fun c32 => ?_)
                    · exact J88 _ _ _ hT.nil hS (lv_sub hl [0, 1, 2, 3, 4, 5, 6, 7] rfl)
                    · refine lv_aload_n hx hb dX3_reachFrom_77 rfl (lv_at hl 0 rfl) ?_
                      refine lv_aload hx hb dX3_reachFrom_78 (lv_at hl 6 rfl) ?_
                      refine kX7_2 (v := x27) S hK hT hk10 (List.mem_of_getElem? (i := 1) rfl) kf_X3_53 dX3_reachFrom_80 ?_
                      refine lv_iload hx hb dX3_reachFrom_83 (lv_at hl 7 rfl) ?_
                      refine x_cv0 (x_runV (b := a) (As := [.int x27, .int x19]) (rest := []) S (c_X3_reach l E K F G a x27 x19 ha) mv_X3_reach km_X3_32 rfl rfl ⟨Nat.le_of_ble_eq_true rfl, Nat.le_of_ble_eq_true rfl⟩ (rc_5 hK hT ha) hK (fun _ => XP.blind) (fun U hU hW => XP.at hK hz hS hT hU hW) rfl hl.1 (Nat.le_of_ble_eq_true rfl) dX3_reachFrom_85 ⟨Nat.le_of_ble_eq_true rfl, Nat.le_of_ble_eq_true rfl⟩) hS ?_
                      rintro _ H locs - hT hS
                      exact J88 _ _ _ hT.nil hS (lv_sub hl [0, 1, 2, 3, 4, 5, 6, 7] rfl)
              exact L49 4294967297 0 _ _ _ (by decide) (by decide) hT.nil hS (lv_sub hl [2, 3, 4, 5, 6, 7, 1, 0] rfl)
            · refine lv_goto (tgt := 94) hx hb dX3_reachFrom_43 (by decide) ?_
              refine xi_iinc (n := 1) (lv' := fun z9 => [(5, .int z9), (6, .ref q9), (0, .ref a), (1, .ref p0), (2, .ref p1), (3, .int p2), (4, .int p3)]) (k := 6) hx hb (rfl : Int32.toInt x1 = x1.toInt) (by decide) dX3_reachFrom_94 hl rfl (by decide) (fun _ => rfl) (fun x33 ls t34 hl => ?_)
              have hl : lv_has ls 8 [(5, .int x33), (6, .ref q9), (0, .ref a), (1, .ref p0), (2, .ref p1), (3, .int p2), (4, .int p3)] := hl
              refine lv_goto (tgt := 3) hx hb dX3_reachFrom_97 (by decide) ?_
              exact ih5 x33 _ _ _ (z_X3_reachFrom_11 x1.toInt x33.toInt x6.toInt N2 hf3 hm4 c7 t34 (xr x1) (xr x33) (xr x6)) (z_X3_reachFrom_12 x1.toInt x33.toInt x6.toInt N2 hf3 hm4 c7 t34 (xr x1) (xr x33) (xr x6)) hT.nil hS (lv_sub hl [2, 3, 4, 5, 6, 0] rfl)
  exact L3 4294967297 0 _ _ _ (by decide) (by decide) hT.nil hS (lv_sub hl [1, 2, 3, 4, 5, 0] rfl)

abbrev rm_X3_straight : Room := { frames := 3, cells := 0, slots := 0, locals := 71 }
set_option maxHeartbeats 4000000 in
set_option maxRecDepth 100000 in
theorem c_X3_straight (l : Launch) (E : XE) (K : Nat → Nat) (F : Nat → Nat → Nat) (G : XG) (a : Nat) (p0 : Nat) (p1 : Nat) (p2 : Int32) (p3 : Int32) (ha : K a = 5) (hp0 : K p0 = 8) (hp1 : K p1 = 2) : Met l yX3_straight (xw yX3_straight cX3_straight 5 (some .int)) rm_X3_straight (va_Pc [.ref a, .ref p0, .ref p1, .int p2, .int p3] (XP E K F G)) (XQ E (fun v (u : Unit) => ∃ r : Int32, v = .int r) (fun _ H => TW E K F G [] H)) 0 0 (xA E) := by
  refine x_enter (by decide) (Nat.le_of_ble_eq_true rfl) ?_
  intro p e s m args below meth c Q S hr hlk hnm hQ hP ls hl
  obtain ⟨hz, hK, hT⟩ := hP
  obtain ⟨hx, hb, -, -, -⟩ := id S
  obtain ⟨H, hT, hS, hgo⟩ : ∃ H : Heap, TW E K F G [] H ∧ va_S (xA E) s.heap H [] ∧ H = s.heap := ⟨_, hT, va_S.rf, rfl⟩
  rw [← hgo]
  have hl : lv_has ls 5 [(0, .ref a), (1, .ref p0), (2, .ref p1), (3, .int p2), (4, .int p3)] := hl
  refine lv_aload_n hx hb dX3_straight_0 rfl (lv_at hl 0 rfl) ?_
  refine x_cv0 (x_runV (b := a) (As := []) (rest := []) S (c_X3_clear l E K F G a ha) mv_X3_clear km_X3_21 rfl rfl ⟨Nat.le_of_ble_eq_true rfl, Nat.le_of_ble_eq_true rfl⟩ (rc_5 hK hT ha) hK (fun _ => XP.blind) (fun U hU hW => XP.at hK hz hS hT hU hW) rfl hl.1 (Nat.le_of_ble_eq_true rfl) dX3_straight_1 ⟨Nat.le_of_ble_eq_true rfl, Nat.le_of_ble_eq_true rfl⟩) hS ?_
  rintro _ H locs - hT hS
  refine lv_aload_n hx hb dX3_straight_4 rfl (lv_at hl 0 rfl) ?_
  refine lv_aload_n hx hb dX3_straight_5 rfl (lv_at hl 1 rfl) ?_
  refine lv_aload_n hx hb dX3_straight_6 rfl (lv_at hl 2 rfl) ?_
  refine lv_iload_n hx hb dX3_straight_7 rfl (lv_at hl 3 rfl) ?_
  refine lv_iload hx hb dX3_straight_8 (lv_at hl 4 rfl) ?_
  refine x_cv0 (x_runV (b := a) (As := [.ref p0, .ref p1, .int p2, .int p3]) (rest := []) S (c_X3_reachFrom l E K F G a p0 p1 p2 p3 ha hp0 hp1) mv_X3_reachFrom km_X3_24 rfl rfl ⟨Nat.le_of_ble_eq_true rfl, Nat.le_of_ble_eq_true rfl⟩ (rc_5 hK hT ha) hK (fun _ => XP.blind) (fun U hU hW => XP.at hK hz hS hT hU hW) rfl hl.1 (Nat.le_of_ble_eq_true rfl) dX3_straight_10 ⟨Nat.le_of_ble_eq_true rfl, Nat.le_of_ble_eq_true rfl⟩) hS ?_
  rintro _ H locs - hT hS
  refine lv_aload_n hx hb dX3_straight_13 rfl (lv_at hl 0 rfl) ?_
  refine gX3_3 S hK hT ha kf_X3_28 dX3_straight_14 (fun x1 hT => ?_)
  exact x_ri hx hb hr hlk hQ (Nat.le_of_ble_eq_true rfl) (Nat.le_of_ble_eq_true rfl) hS dX3_straight_17 () ⟨_, rfl⟩ hT.nil

theorem z_X3_straightOrNot_1 (a0 : Int) (h0 : (0 : Int) ≤ a0) (r0 : -2147483648 ≤ a0 ∧ a0 < 2147483648) : ¬ (2147483648 - a0 < ((0 : Nat) : Int)) := by omega
theorem z_X3_straightOrNot_2 (a0 : Int) (a1 : Int) (a2 : Nat) (h0 : (0 : Int) ≤ a0) (h1 : 2147483648 - a0 < ((a2 + 1 : Nat) : Int)) (h2 : ¬ (a1 ≤ a0)) (h3 : ¬ ((90 : Int) ≤ a0)) (r0 : -2147483648 ≤ a0 ∧ a0 < 2147483648) (r1 : -2147483648 ≤ a1 ∧ a1 < 2147483648) : 0 ≤ a0 ∧ a0 < ((90 : Nat) : Int) := by omega
theorem z_X3_straightOrNot_3 (a0 : Int) (a1 : Int) (a2 : Nat) (h0 : (0 : Int) ≤ a0) (h1 : 2147483648 - a0 < ((a2 + 1 : Nat) : Int)) (h2 : ¬ (a1 ≤ a0)) (h3 : ¬ ((90 : Int) ≤ a0)) (r0 : -2147483648 ≤ a0 ∧ a0 < 2147483648) (r1 : -2147483648 ≤ a1 ∧ a1 < 2147483648) : 0 ≤ a0 ∧ a0 < ((90 : Nat) : Int) := by omega
theorem z_X3_straightOrNot_4 (a0 : Int) (a1 : Int) (a2 : Int) (a3 : Nat) (h0 : (0 : Int) ≤ a0) (h1 : 2147483648 - a0 < ((a3 + 1 : Nat) : Int)) (h2 : ¬ (a2 ≤ a0)) (h3 : ¬ ((90 : Int) ≤ a0)) (h4 : a1 = a0 + 1 ∨ a0 + 1 < -2147483648 ∨ 2147483648 ≤ a0 + 1) (r0 : -2147483648 ≤ a0 ∧ a0 < 2147483648) (r1 : -2147483648 ≤ a1 ∧ a1 < 2147483648) (r2 : -2147483648 ≤ a2 ∧ a2 < 2147483648) : (0 : Int) ≤ a1 := by omega
theorem z_X3_straightOrNot_5 (a0 : Int) (a1 : Int) (a2 : Int) (a3 : Nat) (h0 : (0 : Int) ≤ a0) (h1 : 2147483648 - a0 < ((a3 + 1 : Nat) : Int)) (h2 : ¬ (a2 ≤ a0)) (h3 : ¬ ((90 : Int) ≤ a0)) (h4 : a1 = a0 + 1 ∨ a0 + 1 < -2147483648 ∨ 2147483648 ≤ a0 + 1) (r0 : -2147483648 ≤ a0 ∧ a0 < 2147483648) (r1 : -2147483648 ≤ a1 ∧ a1 < 2147483648) (r2 : -2147483648 ≤ a2 ∧ a2 < 2147483648) : 2147483648 - a1 < ((a3 : Nat) : Int) := by omega
abbrev rm_X3_straightOrNot : Room := { frames := 3, cells := 0, slots := 0, locals := 71 }
set_option maxHeartbeats 4000000 in
set_option maxRecDepth 100000 in
theorem c_X3_straightOrNot (l : Launch) (E : XE) (K : Nat → Nat) (F : Nat → Nat → Nat) (G : XG) (a : Nat) (p0 : Nat) (p1 : Nat) (p2 : Int32) (p3 : Int32) (ha : K a = 5) (hp0 : K p0 = 8) (hp1 : K p1 = 2) : Met l yX3_straightOrNot (xw yX3_straightOrNot cX3_straightOrNot 6 (some .int)) rm_X3_straightOrNot (va_Pc [.ref a, .ref p0, .ref p1, .int p2, .int p3] (XP E K F G)) (XQ E (fun v (u : Unit) => ∃ r : Int32, v = .int r) (fun _ H => TW E K F G [] H)) 0 0 (xA E) := by
  refine x_enter (by decide) (Nat.le_of_ble_eq_true rfl) ?_
  intro p e s m args below meth c Q S hr hlk hnm hQ hP ls hl
  obtain ⟨hz, hK, hT⟩ := hP
  obtain ⟨hx, hb, -, -, -⟩ := id S
  obtain ⟨H, hT, hS, hgo⟩ : ∃ H : Heap, TW E K F G [] H ∧ va_S (xA E) s.heap H [] ∧ H = s.heap := ⟨_, hT, va_S.rf, rfl⟩
  rw [← hgo]
  have hl : lv_has ls 6 [(0, .ref a), (1, .ref p0), (2, .ref p1), (3, .int p2), (4, .int p3)] := hl
  refine lv_aload_n hx hb dX3_straightOrNot_0 rfl (lv_at hl 0 rfl) ?_
  refine x_cv0 (x_runV (b := a) (As := []) (rest := []) S (c_X3_clear l E K F G a ha) mv_X3_clear km_X3_21 rfl rfl ⟨Nat.le_of_ble_eq_true rfl, Nat.le_of_ble_eq_true rfl⟩ (rc_5 hK hT ha) hK (fun _ => XP.blind) (fun U hU hW => XP.at hK hz hS hT hU hW) rfl hl.1 (Nat.le_of_ble_eq_true rfl) dX3_straightOrNot_1 ⟨Nat.le_of_ble_eq_true rfl, Nat.le_of_ble_eq_true rfl⟩) hS ?_
  rintro _ H locs - hT hS
  refine lv_aload_n hx hb dX3_straightOrNot_4 rfl (lv_at hl 0 rfl) ?_
  refine lv_iload_n hx hb dX3_straightOrNot_5 rfl (lv_at hl 3 rfl) ?_
  refine lv_iload hx hb dX3_straightOrNot_6 (lv_at hl 4 rfl) ?_
  refine x_cv0 (x_runV (b := a) (As := [.int p2, .int p3]) (rest := []) S (c_X3_reach l E K F G a p2 p3 ha) mv_X3_reach km_X3_32 rfl rfl ⟨Nat.le_of_ble_eq_true rfl, Nat.le_of_ble_eq_true rfl⟩ (rc_5 hK hT ha) hK (fun _ => XP.blind) (fun U hU hW => XP.at hK hz hS hT hU hW) rfl hl.1 (Nat.le_of_ble_eq_true rfl) dX3_straightOrNot_8 ⟨Nat.le_of_ble_eq_true rfl, Nat.le_of_ble_eq_true rfl⟩) hS ?_
  rintro _ H locs - hT hS
  refine lv_iconst (v := 0) hx hb dX3_straightOrNot_11 (by decide) ?_
  refine lv_istore (lv' := [(5, .int 0), (0, .ref a), (1, .ref p0), (2, .ref p1), (3, .int p2), (4, .int p3)]) hx hb dX3_straightOrNot_12 hl (by decide) rfl (fun ls hl => ?_)
  have L14 : ∀ (N2 : Nat) (x1 : Int32) (H : Heap) (locs : List Loc) (ls : Array Slot), (0 : Int) ≤ x1.toInt → 2147483648 - x1.toInt < ((N2 : Nat) : Int) → TW E K F G [] H → va_S (xA E) s.heap H locs → lv_has ls 6 [(0, .ref a), (1, .ref p0), (2, .ref p1), (5, .int x1)] → W p l e rm_X3_straightOrNot s m args below meth c H locs 0 0 Q (F0 m 14 ls []) := by
    intro N2
    induction N2 with
    | zero =>
      intro x1 H locs ls hf3 hm4
      exact absurd hm4 (z_X3_straightOrNot_1 x1.toInt hf3 (xr x1))
    | succ N2 ih5 =>
      intro x1 H locs ls hf3 hm4 hT hS hl
      refine lv_iload hx hb dX3_straightOrNot_14 (lv_at hl 3 rfl) ?_
      refine lv_aload_n hx hb dX3_straightOrNot_16 rfl (lv_at hl 0 rfl) ?_
      refine gX3_3 S hK hT ha kf_X3_28 dX3_straightOrNot_17 (fun x6 hT => ?_)
      have J56 : ∀ (H : Heap) (locs : List Loc) (ls : Array Slot), TW E K F G [(a, 3, x6)] H → va_S (xA E) s.heap H locs → lv_has ls 6 [(0, .ref a)] → W p l e rm_X3_straightOrNot s m args below meth c H locs 0 0 Q (F0 m 56 ls []) := by
        intro H locs ls hT hS hl
        refine lv_aload_n hx hb dX3_straightOrNot_56 rfl (lv_at hl 0 rfl) ?_
        refine kX3_3 (v := x6) S hK hT ha (List.mem_of_getElem? (i := 0) rfl) kf_X3_28 dX3_straightOrNot_57 ?_
        refine lv_iconst (v := 1) hx hb dX3_straightOrNot_60 (by decide) ?_
        refine xi_isub hx hb (rfl : Int32.toInt x6 = x6.toInt) ((by decide) : Int32.toInt 1 = (1 : Int)) dX3_straightOrNot_61 (fun x7 t8 => ?_)
        exact x_ri hx hb hr hlk hQ (Nat.le_of_ble_eq_true rfl) (Nat.le_of_ble_eq_true rfl) hS dX3_straightOrNot_62 () ⟨_, rfl⟩ hT.nil
      refine xi_cge (tgt := 56) hx hb (rfl : Int32.toInt x1 = x1.toInt) (rfl : Int32.toInt x6 = x6.toInt) dX3_straightOrNot_20 (by decide) (fun c9 => ?_) (fun c9 => ?_)
      · exact J56 _ _ _ hT hS (lv_sub hl [0] rfl)
      · refine lv_iload hx hb dX3_straightOrNot_23 (lv_at hl 3 rfl) ?_
        refine lv_bipush (v := 90) hx hb dX3_straightOrNot_25 (by decide) ?_
        refine xi_cge (tgt := 56) hx hb (rfl : Int32.toInt x1 = x1.toInt) ((by decide) : Int32.toInt 90 = (90 : Int)) dX3_straightOrNot_27 (by decide) (fun c10 => ?_) (fun c10 => ?_)
        · exact J56 _ _ _ hT hS (lv_sub hl [0] rfl)
        · refine lv_aload_n hx hb dX3_straightOrNot_30 rfl (lv_at hl 0 rfl) ?_
          refine lv_aload_n hx hb dX3_straightOrNot_31 rfl (lv_at hl 1 rfl) ?_
          refine lv_aload_n hx hb dX3_straightOrNot_32 rfl (lv_at hl 2 rfl) ?_
          refine lv_aload_n hx hb dX3_straightOrNot_33 rfl (lv_at hl 0 rfl) ?_
          refine gX3_1 S hK hT ha kf_X3_15 dX3_straightOrNot_34 (fun hk11 => ?_)
          refine lv_iload hx hb dX3_straightOrNot_37 (lv_at hl 3 rfl) ?_
          refine al_0 S hK hT hk11 ar_24 (by decide) (z_X3_straightOrNot_2 x1.toInt x6.toInt N2 hf3 hm4 c9 c10 (xr x1) (xr x6)) dX3_straightOrNot_39 (fun x12 o13 => ?_)
          refine lv_aload_n hx hb dX3_straightOrNot_40 rfl (lv_at hl 0 rfl) ?_
          refine gX3_2 S hK hT ha kf_X3_18 dX3_straightOrNot_41 (fun hk14 => ?_)
          refine lv_iload hx hb dX3_straightOrNot_44 (lv_at hl 3 rfl) ?_
          refine al_0 S hK hT hk14 ar_24 (by decide) (z_X3_straightOrNot_3 x1.toInt x6.toInt N2 hf3 hm4 c9 c10 (xr x1) (xr x6)) dX3_straightOrNot_46 (fun x15 o16 => ?_)
          refine x_cv0 (x_runV (b := a) (As := [.ref p0, .ref p1, .int x12, .int x15]) (rest := []) S (c_X3_reachFrom l E K F G a p0 p1 x12 x15 ha hp0 hp1) mv_X3_reachFrom km_X3_24 rfl rfl ⟨Nat.le_of_ble_eq_true rfl, Nat.le_of_ble_eq_true rfl⟩ (rc_5 hK hT ha) hK (fun _ => XP.blind) (fun U hU hW => XP.at hK hz hS hT hU hW) rfl hl.1 (Nat.le_of_ble_eq_true rfl) dX3_straightOrNot_47 ⟨Nat.le_of_ble_eq_true rfl, Nat.le_of_ble_eq_true rfl⟩) hS ?_
          rintro _ H locs - hT hS
          refine xi_iinc (n := 1) (lv' := fun z9 => [(5, .int z9), (0, .ref a), (1, .ref p0), (2, .ref p1)]) (k := 3) hx hb (rfl : Int32.toInt x1 = x1.toInt) (by decide) dX3_straightOrNot_50 hl rfl (by decide) (fun _ => rfl) (fun x17 ls t18 hl => ?_)
          have hl : lv_has ls 6 [(5, .int x17), (0, .ref a), (1, .ref p0), (2, .ref p1)] := hl
          refine lv_goto (tgt := 14) hx hb dX3_straightOrNot_53 (by decide) ?_
          exact ih5 x17 _ _ _ (z_X3_straightOrNot_4 x1.toInt x17.toInt x6.toInt N2 hf3 hm4 c9 c10 t18 (xr x1) (xr x17) (xr x6)) (z_X3_straightOrNot_5 x1.toInt x17.toInt x6.toInt N2 hf3 hm4 c9 c10 t18 (xr x1) (xr x17) (xr x6)) hT.nil hS (lv_sub hl [1, 2, 3, 0] rfl)
  exact L14 4294967297 0 _ _ _ (by decide) (by decide) hT.nil hS (lv_sub hl [1, 2, 3, 0] rfl)
