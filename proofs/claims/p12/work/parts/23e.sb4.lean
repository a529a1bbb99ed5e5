def XPb (E : XE) (K : Nat → Nat) (F : Nat → Nat → Nat) (G : XG) (v n : Nat) (cnt : Int32) (U : State) : Prop := E.2.2.1 ≤ U.heap.size ∧ XK E U ∧ TWb E K F G v n cnt U.heap
theorem XPb.at {E : XE} {K : Nat → Nat} {F : Nat → Nat → Nat} {G : XG} {v n : Nat} {cnt : Int32} {s U : State} {locs : List Loc} {H : Heap} (hK : XK E s) (hz : E.2.2.1 ≤ s.heap.size) (hS : va_S (xA E) s.heap H locs) (hT : TWb E K F G v n cnt H) (hU : U.heap = H) (hW : s.WarmedH U.vm) : XPb E K F G v n cnt U := ⟨by rw [hU]; exact Nat.le_trans hz hS.1, hK.at hS hU hW, by rw [hU]; exact hT⟩
theorem XPb.blind {E : XE} {K : Nat → Nat} {F : Nat → Nat → Nat} {G : XG} {v n : Nat} {cnt : Int32} {av : List Value} : FrameBlind (va_Pc av (XPb E K F G v n cnt)) := fun a U g mk h => ⟨h.1, h.2.1, h.2.2.1.same (u := U) rfl rfl, h.2.2.2⟩
def XPbh (E : XE) (K : Nat → Nat) (F : Nat → Nat → Nat) (G : XG) (v n : Nat) (cnt : Int32) (h0 : Heap) (U : State) : Prop := XPb E K F G v n cnt U ∧ U.heap = h0
theorem XPbh.blind {E : XE} {K : Nat → Nat} {F : Nat → Nat → Nat} {G : XG} {v n : Nat} {cnt : Int32} {h0 : Heap} {av : List Value} : FrameBlind (va_Pc av (XPbh E K F G v n cnt h0)) := fun a U g mk h => ⟨h.1, ⟨h.2.1.1, h.2.1.2.1.same (u := U) rfl rfl, h.2.1.2.2⟩, h.2.2⟩
theorem XPbh.at {E : XE} {K : Nat → Nat} {F : Nat → Nat → Nat} {G : XG} {v n : Nat} {cnt : Int32} {s U : State} {locs : List Loc} {H : Heap} (hK : XK E s) (hz : E.2.2.1 ≤ s.heap.size) (hS : va_S (xA E) s.heap H locs) (hT : TWb E K F G v n cnt H) (hU : U.heap = H) (hW : s.WarmedH U.vm) : XPbh E K F G v n cnt H U := ⟨XPb.at hK hz hS hT hU hW, hU⟩

theorem z_J5_length_8abf5_1 (a0 : Int) : a0 = a0 := by omega
abbrev rm_J5_length_8abf5 : Room := { frames := 0, cells := 0, slots := 0, locals := 0 }
set_option maxHeartbeats 4000000 in
set_option maxRecDepth 100000 in
theorem c_J5_length_8abf5 (l : Launch) (E : XE) (K : Nat → Nat) (F : Nat → Nat → Nat) (G : XG) (v n : Nat) (cnt : Int32) (h0 : Heap)   : Met l yJ5_length_8abf5 (xw yJ5_length_8abf5 cJ5_length_8abf5 1 (some .int)) rm_J5_length_8abf5 (va_Pc [.ref E.2.2.2.1] (XPbh E K F G v n cnt h0)) (XQ E (fun v (u : Unit) => ∃ r : Int32, v = .int r ∧ (r.toInt = cnt.toInt)) (fun _ H => H = h0)) 0 0 (xA E) := by
  refine x_enter (by decide) (Nat.le_of_ble_eq_true rfl) ?_
  intro p e s m args below meth c Q S hr hlk hnm hQ hP ls hl
  obtain ⟨⟨hz, hK, hT⟩, hh⟩ := hP
  obtain ⟨hx, hb, -, -, -⟩ := id S
  have hS : va_S (xA E) s.heap s.heap [] := va_S.rf
  have hl : lv_has ls 1 [(0, .ref E.2.2.2.1)] := hl
  have e9 := hT.inv
  refine lv_aload_n hx hb dJ5_length_8abf5_0 rfl (lv_at hl 0 rfl) ?_
  refine sbg_count S hK hT kf_J5_79 dJ5_length_8abf5_1 ?_
  exact x_ri hx hb hr hlk hQ (Nat.le_of_ble_eq_true rfl) (Nat.le_of_ble_eq_true rfl) hS dJ5_length_8abf5_4 () ⟨_, rfl, (z_J5_length_8abf5_1 cnt.toInt)⟩ hh

theorem z_J5_newCapacity_0f7a4_1 (a0 : Int) (a1 : Int) (a2 : Nat) (h0 : ((a2 : Nat) : Int) < a0 ∧ a0 ≤ 48) (h1 : a1 = ((a2 : Nat) : Int)) : 0 ≤ a1 ∧ a1 ≤ 100 := by omega
theorem z_J5_newCapacity_0f7a4_2 (a0 : Int) (a1 : Int) (a2 : Int) (a3 : Nat) (h0 : ((a3 : Nat) : Int) < a0 ∧ a0 ≤ 48) (h1 : a1 = ((a3 : Nat) : Int)) (h2 : a2 = a0 - a1 ∨ a0 - a1 < -2147483648 ∨ 2147483648 ≤ a0 - a1) : 0 ≤ a2 ∧ a2 ≤ 100 := by omega
theorem z_J5_newCapacity_0f7a4_3 (a0 : Int) (a1 : Int) (a2 : Int) (a3 : Nat) (h0 : ((a3 : Nat) : Int) < a0 ∧ a0 ≤ 48) (h1 : a1 = ((a3 : Nat) : Int)) (h2 : a2 = a1 + (2 : Int) ∨ a1 + (2 : Int) < -2147483648 ∨ 2147483648 ≤ a1 + (2 : Int)) : 1 ≤ a2 ∧ a2 ≤ 200 := by omega
theorem z_J5_newCapacity_0f7a4_4 (a0 : Int) (a1 : Int) (a2 : Int) (a3 : Int) (a4 : Int) (a5 : Nat) (h0 : ((a5 : Nat) : Int) < a0 ∧ a0 ≤ 48) (h1 : a1 = ((a5 : Nat) : Int)) (h2 : a2 = a0 - a1 ∨ a0 - a1 < -2147483648 ∨ 2147483648 ≤ a0 - a1) (h3 : a3 = a1 + (2 : Int) ∨ a1 + (2 : Int) < -2147483648 ∨ 2147483648 ≤ a1 + (2 : Int)) (h4 : (a3 ≤ a2 ∧ a4 = a1 + a2) ∨ (a2 < a3 ∧ a4 = a1 + a3)) : a0 ≤ a4 ∧ a4 ≤ 100 := by omega
theorem z_J5_newCapacity_0f7a4_5 (a0 : Int) (a1 : Int) (a2 : Int) (a3 : Int) (a4 : Int) (a5 : Nat) (h0 : ((a5 : Nat) : Int) < a0 ∧ a0 ≤ 48) (h1 : a1 = ((a5 : Nat) : Int)) (h2 : a2 = a0 - a1 ∨ a0 - a1 < -2147483648 ∨ 2147483648 ≤ a0 - a1) (h3 : a3 = a1 + (2 : Int) ∨ a1 + (2 : Int) < -2147483648 ∨ 2147483648 ≤ a1 + (2 : Int)) (h4 : (a3 ≤ a2 ∧ a4 = a1 + a2) ∨ (a2 < a3 ∧ a4 = a1 + a3)) (h5 : ¬ (a4 ≠ (2147483647 : Int))) : (0 : Int) = 1 ∧ a4 = a4 := by omega
abbrev rm_J5_newCapacity_0f7a4 : Room := { frames := 2, cells := 0, slots := 0, locals := 44 }
set_option maxHeartbeats 4000000 in
set_option maxRecDepth 100000 in
theorem c_J5_newCapacity_0f7a4 (l : Launch) (E : XE) (K : Nat → Nat) (F : Nat → Nat → Nat) (G : XG) (v n : Nat) (cnt : Int32) (h0 : Heap) (p0 : Int32) (e1 : ((n : Nat) : Int) < p0.toInt ∧ p0.toInt ≤ 48) : Met l yJ5_newCapacity_0f7a4 (xw yJ5_newCapacity_0f7a4 cJ5_newCapacity_0f7a4 6 (some .int)) rm_J5_newCapacity_0f7a4 (va_Pc [.ref E.2.2.2.1, .int p0] (XPbh E K F G v n cnt h0)) (XQ E (fun v (u : Unit) => ∃ r : Int32, v = .int r ∧ (p0.toInt ≤ r.toInt ∧ r.toInt ≤ 100)) (fun _ H => H = h0)) 0 0 (xA E) := by
  refine x_enter (by decide) (Nat.le_of_ble_eq_true rfl) ?_
  intro p e s m args below meth c Q S hr hlk hnm hQ hP ls hl
  obtain ⟨⟨hz, hK, hT⟩, hh⟩ := hP
  obtain ⟨hx, hb, -, -, -⟩ := id S
  have hS : va_S (xA E) s.heap s.heap [] := va_S.rf
  have hl : lv_has ls 6 [(0, .ref E.2.2.2.1), (1, .int p0)] := hl
  have e9 := hT.inv
  refine lv_aload_n hx hb dJ5_newCapacity_0f7a4_0 rfl (lv_at hl 0 rfl) ?_
  refine sbg_value S hK hT kf_J5_15 dJ5_newCapacity_0f7a4_1 ?_
  refine sb_len S hK hT dJ5_newCapacity_0f7a4_4 (fun x1 t2 => ?_)
  refine lv_istore_n (lv' := [(2, .int x1), (0, .ref E.2.2.2.1), (1, .int p0)]) hx hb dJ5_newCapacity_0f7a4_5 rfl hl (by decide) rfl (fun ls hl => ?_)
  refine lv_iload_n hx hb dJ5_newCapacity_0f7a4_6 rfl (lv_at hl 2 rfl) ?_
  refine lv_aload_n hx hb dJ5_newCapacity_0f7a4_7 rfl (lv_at hl 1 rfl) ?_
  refine sbg_coder S hK hT kf_J5_22 dJ5_newCapacity_0f7a4_8 ?_
  refine lv_ishl hx hb dJ5_newCapacity_0f7a4_11 ?_
  rw [sb_shl0]
  refine lv_istore_n (lv' := [(3, .int p0), (2, .int x1), (0, .ref E.2.2.2.1), (1, .int p0)]) hx hb dJ5_newCapacity_0f7a4_12 rfl hl (by decide) rfl (fun ls hl => ?_)
  refine lv_iload_n hx hb dJ5_newCapacity_0f7a4_13 rfl (lv_at hl 0 rfl) ?_
  refine lv_iload_n hx hb dJ5_newCapacity_0f7a4_14 rfl (lv_at hl 1 rfl) ?_
  refine xi_isub hx hb (rfl : Int32.toInt p0 = p0.toInt) (rfl : Int32.toInt x1 = x1.toInt) dJ5_newCapacity_0f7a4_15 (fun x3 t4 => ?_)
  refine lv_istore (lv' := [(4, .int x3), (3, .int p0), (2, .int x1), (0, .ref E.2.2.2.1), (1, .int p0)]) hx hb dJ5_newCapacity_0f7a4_16 hl (by decide) rfl (fun ls hl => ?_)
  refine lv_iload_n hx hb dJ5_newCapacity_0f7a4_18 rfl (lv_at hl 2 rfl) ?_
  refine lv_iload hx hb dJ5_newCapacity_0f7a4_19 (lv_at hl 0 rfl) ?_
  refine lv_iload_n hx hb dJ5_newCapacity_0f7a4_21 rfl (lv_at hl 2 rfl) ?_
  refine lv_iconst (v := 2) hx hb dJ5_newCapacity_0f7a4_22 (by decide) ?_
  refine lv_aload_n hx hb dJ5_newCapacity_0f7a4_23 rfl (lv_at hl 3 rfl) ?_
  refine sbg_coder S hK hT kf_J5_22 dJ5_newCapacity_0f7a4_24 ?_
  refine lv_ishl hx hb dJ5_newCapacity_0f7a4_27 ?_
  rw [sb_shl0]
  refine xi_iadd hx hb (rfl : Int32.toInt x1 = x1.toInt) ((by decide) : Int32.toInt 2 = (2 : Int)) dJ5_newCapacity_0f7a4_28 (fun x5 t6 => ?_)
  refine x_clp (x_runS (As := [.int x1, .int x3, .int x5]) (rest := []) S (c_J8_newLength_cabcc l E K F G s.heap x1 x3 x5 (z_J5_newCapacity_0f7a4_1 p0.toInt x1.toInt n e1 t2) (z_J5_newCapacity_0f7a4_2 p0.toInt x1.toInt x3.toInt n e1 t2 t4) (z_J5_newCapacity_0f7a4_3 p0.toInt x1.toInt x5.toInt n e1 t2 t6)) ms_J8_newLength_cabcc km_J5_114 rfl rfl ⟨Nat.le_of_ble_eq_true rfl, Nat.le_of_ble_eq_true rfl⟩ hK (fun _ => XPh.blind) (fun U hU hW => XPh.at hK hz hS hT.cl hU hW) rfl hl.1 (Nat.le_of_ble_eq_true rfl) dJ5_newCapacity_0f7a4_29 ⟨Nat.le_of_ble_eq_true rfl, Nat.le_of_ble_eq_true rfl⟩) hS ?_
  rintro _ _ locs ⟨x7, rfl, t8⟩ hS
  have t8 : (x5.toInt ≤ x3.toInt ∧ x7.toInt = x1.toInt + x3.toInt) ∨ (x3.toInt < x5.toInt ∧ x7.toInt = x1.toInt + x5.toInt) := t8
  refine lv_istore (lv' := [(5, .int x7), (4, .int x3), (3, .int p0), (2, .int x1), (0, .ref E.2.2.2.1), (1, .int p0)]) hx hb dJ5_newCapacity_0f7a4_32 hl (by decide) rfl (fun ls hl => ?_)
  refine lv_iload hx hb dJ5_newCapacity_0f7a4_34 (lv_at hl 0 rfl) ?_
  refine lv_ldc (v := 2147483647) hx hb S.2.2.2.1 (S.2.2.2.2 _ (List.mem_cons_of_mem _ kc_J5_39)) dJ5_newCapacity_0f7a4_36 ?_
  refine xi_cne (tgt := 51) hx hb (rfl : Int32.toInt x7 = x7.toInt) ((by decide) : Int32.toInt 2147483647 = (2147483647 : Int)) dJ5_newCapacity_0f7a4_38 (by decide) (fun c9 => ?_) (fun c9 => ?_)
  · refine lv_iload hx hb dJ5_newCapacity_0f7a4_51 (lv_at hl 0 rfl) ?_
    refine lv_aload_n hx hb dJ5_newCapacity_0f7a4_53 rfl (lv_at hl 4 rfl) ?_
    refine sbg_coder S hK hT kf_J5_22 dJ5_newCapacity_0f7a4_54 ?_
    refine lv_ishr hx hb dJ5_newCapacity_0f7a4_57 ?_
    rw [sb_shr0]
    exact x_ri hx hb hr hlk hQ (Nat.le_of_ble_eq_true rfl) (Nat.le_of_ble_eq_true rfl) hS dJ5_newCapacity_0f7a4_58 () ⟨_, rfl, (z_J5_newCapacity_0f7a4_4 p0.toInt x1.toInt x3.toInt x5.toInt x7.toInt n e1 t2 t4 t6 t8)⟩ hh
  · exact absurd ((z_J5_newCapacity_0f7a4_5 p0.toInt x1.toInt x3.toInt x5.toInt x7.toInt n e1 t2 t4 t6 t8 c9)).1 (by decide)

abbrev rm_J5_isLatin1_aae02 : Room := { frames := 0, cells := 0, slots := 0, locals := 0 }
set_option maxHeartbeats 4000000 in
set_option maxRecDepth 100000 in
theorem c_J5_isLatin1_aae02 (l : Launch) (E : XE) (K : Nat → Nat) (F : Nat → Nat → Nat) (G : XG) (v n : Nat) (cnt : Int32) (h0 : Heap)   : Met l yJ5_isLatin1_aae02 (xw yJ5_isLatin1_aae02 cJ5_isLatin1_aae02 1 (some .boolean)) rm_J5_isLatin1_aae02 (va_Pc [.ref E.2.2.2.1] (XPbh E K F G v n cnt h0)) (XQ E (fun v (u : Unit) => ∃ r : Int32, v = .int r ∧ r = 1) (fun _ H => H = h0)) 0 0 (xA E) := by
  refine x_enter (by decide) (Nat.le_of_ble_eq_true rfl) ?_
  intro p e s m args below meth c Q S hr hlk hnm hQ hP ls hl
  obtain ⟨⟨hz, hK, hT⟩, hh⟩ := hP
  obtain ⟨hx, hb, -, -, -⟩ := id S
  have hS : va_S (xA E) s.heap s.heap [] := va_S.rf
  have hl : lv_has ls 1 [(0, .ref E.2.2.2.1)] := hl
  have e9 := hT.inv
  refine va_gets hx hb hK.2.2.2.2.1 hS S.2.2.2.1 (S.2.2.2.2 _ (List.mem_cons_of_mem _ kf_J5_18)) (fun _ h => h) dJ5_isLatin1_aae02_0 ?_
  refine xi_zeq (tgt := 17) hx hb ((by decide) : Int32.toInt 1 = (1 : Int)) dJ5_isLatin1_aae02_3 (by decide) (fun c => absurd c (show ¬ ((1 : Int) = 0) by decide)) (fun _ => ?_)
  refine lv_aload_n hx hb dJ5_isLatin1_aae02_6 rfl (lv_at hl 0 rfl) ?_
  refine sbg_coder S hK hT kf_J5_22 dJ5_isLatin1_aae02_7 ?_
  refine xi_zne (tgt := 17) hx hb ((by decide) : Int32.toInt 0 = (0 : Int)) dJ5_isLatin1_aae02_10 (by decide) (fun c => absurd c (show ¬ ((0 : Int) ≠ 0) by decide)) (fun _ => ?_)
  refine lv_iconst (v := 1) hx hb dJ5_isLatin1_aae02_13 (by decide) ?_
  refine lv_goto (tgt := 18) hx hb dJ5_isLatin1_aae02_14 (by decide) ?_
  exact x_rz hx hb hr (xnz (Or.inr rfl)) hlk hQ (Nat.le_of_ble_eq_true rfl) (Nat.le_of_ble_eq_true rfl) hS dJ5_isLatin1_aae02_18 () ⟨_, rfl, rfl⟩ hh

theorem z_J5_charAt_5068e_1 (a0 : Int) (a1 : Int) (a2 : Int) (a3 : Int) (a4 : Nat) (h0 : 0 ≤ a0 ∧ a0 ≤ ((a4 : Nat) : Int) ∧ ((a4 : Nat) : Int) ≤ 100) (h1 : 0 ≤ a1 ∧ a1 < a0) (h2 : a2 = ((a4 : Nat) : Int)) (h3 : (a0 ≤ a2 ∧ a3 = a0) ∨ (a2 < a0 ∧ a3 = a2)) : 0 ≤ a1 ∧ a1 < a3 := by omega
theorem z_J5_charAt_5068e_2 (a0 : Int) (a1 : Int) (a2 : Nat) (h0 : 0 ≤ a0 ∧ a0 ≤ ((a2 : Nat) : Int) ∧ ((a2 : Nat) : Int) ≤ 100) (h1 : 0 ≤ a1 ∧ a1 < a0) : 0 ≤ a1 ∧ a1 < ((a2 : Nat) : Int) := by omega
abbrev rm_J5_charAt_5068e : Room := { frames := 2, cells := 0, slots := 0, locals := 43 }
set_option maxHeartbeats 4000000 in
set_option maxRecDepth 100000 in
theorem c_J5_charAt_5068e (l : Launch) (E : XE) (K : Nat → Nat) (F : Nat → Nat → Nat) (G : XG) (v n : Nat) (cnt : Int32) (h0 : Heap) (p0 : Int32) (e1 : 0 ≤ p0.toInt ∧ p0.toInt < cnt.toInt) : Met l yJ5_charAt_5068e (xw yJ5_charAt_5068e cJ5_charAt_5068e 5 (some .char)) rm_J5_charAt_5068e (va_Pc [.ref E.2.2.2.1, .int p0] (XPbh E K F G v n cnt h0)) (XQ E (fun v (u : Unit) => ∃ r : Int32, v = .int r ∧ xok 1 r) (fun _ H => H = h0)) 0 0 (xA E) := by
  refine x_enter (by decide) (Nat.le_of_ble_eq_true rfl) ?_
  intro p e s m args below meth c Q S hr hlk hnm hQ hP ls hl
  obtain ⟨⟨hz, hK, hT⟩, hh⟩ := hP
  obtain ⟨hx, hb, -, -, -⟩ := id S
  have hS : va_S (xA E) s.heap s.heap [] := va_S.rf
  have hl : lv_has ls 5 [(0, .ref E.2.2.2.1), (1, .int p0)] := hl
  have e9 := hT.inv
  refine lv_aload_n hx hb dJ5_charAt_5068e_0 rfl (lv_at hl 0 rfl) ?_
  refine sbg_coder S hK hT kf_J5_22 dJ5_charAt_5068e_1 ?_
  refine lv_istore_n (lv' := [(2, .int 0), (0, .ref E.2.2.2.1), (1, .int p0)]) hx hb dJ5_charAt_5068e_4 rfl hl (by decide) rfl (fun ls hl => ?_)
  refine lv_aload_n hx hb dJ5_charAt_5068e_5 rfl (lv_at hl 1 rfl) ?_
  refine sbg_value S hK hT kf_J5_15 dJ5_charAt_5068e_6 ?_
  refine lv_astore_n (lv' := [(3, .ref v), (2, .int 0), (0, .ref E.2.2.2.1), (1, .int p0)]) hx hb dJ5_charAt_5068e_9 rfl hl (by decide) rfl (fun ls hl => ?_)
  refine lv_aload_n hx hb dJ5_charAt_5068e_10 rfl (lv_at hl 2 rfl) ?_
  refine sbg_count S hK hT kf_J5_79 dJ5_charAt_5068e_11 ?_
  refine lv_aload_n hx hb dJ5_charAt_5068e_14 rfl (lv_at hl 0 rfl) ?_
  refine sb_len S hK hT dJ5_charAt_5068e_15 (fun x1 t2 => ?_)
  refine lv_iload_n hx hb dJ5_charAt_5068e_16 rfl (lv_at hl 1 rfl) ?_
  refine lv_ishr hx hb dJ5_charAt_5068e_17 ?_
  rw [sb_shr0]
  refine x_clp (x_runS (As := [.int cnt, .int x1]) (rest := []) S (c_J9_min_7cf53 l E K F G s.heap cnt x1) ms_J9_min_7cf53 km_J5_138 rfl rfl ⟨Nat.le_of_ble_eq_true rfl, Nat.le_of_ble_eq_true rfl⟩ hK (fun _ => XPh.blind) (fun U hU hW => XPh.at hK hz hS hT.cl hU hW) rfl hl.1 (Nat.le_of_ble_eq_true rfl) dJ5_charAt_5068e_18 ⟨Nat.le_of_ble_eq_true rfl, Nat.le_of_ble_eq_true rfl⟩) hS ?_
  rintro _ _ locs ⟨x3, rfl, t4⟩ hS
  have t4 : (cnt.toInt ≤ x1.toInt ∧ x3.toInt = cnt.toInt) ∨ (x1.toInt < cnt.toInt ∧ x3.toInt = x1.toInt) := t4
  refine lv_istore (lv' := [(4, .int x3), (3, .ref v), (2, .int 0), (0, .ref E.2.2.2.1), (1, .int p0)]) hx hb dJ5_charAt_5068e_21 hl (by decide) rfl (fun ls hl => ?_)
  refine lv_iload_n hx hb dJ5_charAt_5068e_23 rfl (lv_at hl 4 rfl) ?_
  refine lv_iload hx hb dJ5_charAt_5068e_24 (lv_at hl 0 rfl) ?_
  refine x_cvp (x_runS (As := [.int p0, .int x3]) (rest := []) S (c_J0_checkIndex_df160 l E K F G s.heap p0 x3 (z_J5_charAt_5068e_1 cnt.toInt p0.toInt x1.toInt x3.toInt n e9 e1 t2 t4)) ms_J0_checkIndex_df160 km_J5_144 rfl rfl ⟨Nat.le_of_ble_eq_true rfl, Nat.le_of_ble_eq_true rfl⟩ hK (fun _ => XPh.blind) (fun U hU hW => XPh.at hK hz hS hT.cl hU hW) rfl hl.1 (Nat.le_of_ble_eq_true rfl) dJ5_charAt_5068e_26 ⟨Nat.le_of_ble_eq_true rfl, Nat.le_of_ble_eq_true rfl⟩) hS ?_
  rintro _ locs - hS
  refine lv_iload_n hx hb dJ5_charAt_5068e_29 rfl (lv_at hl 2 rfl) ?_
  refine xi_zne (tgt := 42) hx hb ((by decide) : Int32.toInt 0 = (0 : Int)) dJ5_charAt_5068e_30 (by decide) (fun c => absurd c (show ¬ ((0 : Int) ≠ 0) by decide)) (fun _ => ?_)
  refine lv_aload_n hx hb dJ5_charAt_5068e_33 rfl (lv_at hl 1 rfl) ?_
  refine lv_iload_n hx hb dJ5_charAt_5068e_34 rfl (lv_at hl 4 rfl) ?_
  refine sb_ld S hK hT (z_J5_charAt_5068e_2 cnt.toInt p0.toInt n e9 e1) dJ5_charAt_5068e_35 (fun x5 => ?_)
  refine lv_sipush (v := 255) hx hb dJ5_charAt_5068e_36 (by decide) ?_
  refine lv_iand hx hb dJ5_charAt_5068e_39 (lv_topi (fun x6 _ => ?_))
  refine lv_i2c hx hb dJ5_charAt_5068e_40 rfl (lv_topi (fun x7 ec8 => ?_))
  exact x_rz hx hb hr (by rw [ec8]; exact pk_nc _) hlk hQ (Nat.le_of_ble_eq_true rfl) (Nat.le_of_ble_eq_true rfl) hS dJ5_charAt_5068e_41 () ⟨_, rfl, (by rw [ec8]; exact pk_nc _)⟩ hh

theorem z_J7_copyOf_9075b_1 (a0 : Int) (a1 : Int) (a2 : Int) (a3 : Nat) (a4 : Nat) (h0 : ((a4 : Nat) : Int) = a0) (h1 : a1 = ((a3 : Nat) : Int)) (h2 : (a1 ≤ a0 ∧ a2 = a1) ∨ (a0 < a1 ∧ a2 = a0)) : 0 ≤ a2 ∧ a2 ≤ ((a3 : Nat) : Int) ∧ a2 ≤ ((a4 : Nat) : Int) := by omega
theorem z_J7_copyOf_9075b_2 (a0 : Int) (a1 : Int) (a2 : Nat) (h0 : ((a2 : Nat) : Int) < a0 ∧ a0 ≤ 100) (h1 : a1 = ((a2 : Nat) : Int)) (h2 : ¬ (a0 ≠ a1)) : (0 : Int) = 1 ∧ a0 = a0 := by omega
abbrev rm_J7_copyOf_9075b : Room := { frames := 1, cells := 1, slots := 100, locals := 60 }
set_option maxHeartbeats 4000000 in
set_option maxRecDepth 100000 in
theorem c_J7_copyOf_9075b (l : Launch) (E : XE) (K : Nat → Nat) (F : Nat → Nat → Nat) (G : XG) (v n : Nat) (cnt : Int32) (p1 : Int32) (e1 : ((n : Nat) : Int) < p1.toInt ∧ p1.toInt ≤ 100) : Met l yJ7_copyOf_9075b (xw yJ7_copyOf_9075b cJ7_copyOf_9075b 3 (some (.array .byte))) rm_J7_copyOf_9075b (va_Pc [.ref v, .int p1] (XPb E K F G v n cnt)) (XQ E (fun v (u : Nat) => v = .ref u) (fun u H => TWc E K F G v n cnt u p1.toInt.toNat H)) 1 100 (xA E) := by
  refine x_enter (by decide) (Nat.le_of_ble_eq_true rfl) ?_
  intro p e s m args below meth c Q S hr hlk hnm hQ hP ls hl
  obtain ⟨hz, hK, hT⟩ := hP
  obtain ⟨hx, hb, -, -, -⟩ := id S
  obtain ⟨H, hT, hS, hgo⟩ : ∃ H : Heap, TWb E K F G v n cnt H ∧ va_S (xA E) s.heap H [] ∧ H = s.heap := ⟨_, hT, va_S.rf, rfl⟩
  rw [← hgo]
  have hl : lv_has ls 3 [(0, .ref v), (1, .int p1)] := hl
  have e9 := hT.inv
  refine lv_iload_n hx hb dJ7_copyOf_9075b_0 rfl (lv_at hl 1 rfl) ?_
  refine lv_aload_n hx hb dJ7_copyOf_9075b_1 rfl (lv_at hl 0 rfl) ?_
  refine sb_len S hK hT dJ7_copyOf_9075b_2 (fun x1 t2 => ?_)
  refine xi_cne (tgt := 14) hx hb (rfl : Int32.toInt p1 = p1.toInt) (rfl : Int32.toInt x1 = x1.toInt) dJ7_copyOf_9075b_3 (by decide) (fun c3 => ?_) (fun c3 => ?_)
  · refine lv_iload_n hx hb dJ7_copyOf_9075b_14 rfl (lv_at hl 1 rfl) ?_
    have e8 : ((p1.toInt.toNat : Nat) : Int) = p1.toInt := Int.toNat_of_nonneg (by omega)
    refine sb_new (N := p1.toInt.toNat) S hK hz hT hS e8.symm (by omega) (Nat.le_of_ble_eq_true rfl) (Nat.le_of_ble_eq_true rfl) dJ7_copyOf_9075b_15 (fun q9 H hT hS => ?_)
    refine lv_astore_n (lv' := [(2, .ref q9), (0, .ref v), (1, .int p1)]) hx hb dJ7_copyOf_9075b_17 rfl hl (by decide) rfl (fun ls hl => ?_)
    refine lv_aload_n hx hb dJ7_copyOf_9075b_18 rfl (lv_at hl 1 rfl) ?_
    refine lv_iconst (v := 0) hx hb dJ7_copyOf_9075b_19 (by decide) ?_
    refine lv_aload_n hx hb dJ7_copyOf_9075b_20 rfl (lv_at hl 0 rfl) ?_
    refine lv_iconst (v := 0) hx hb dJ7_copyOf_9075b_21 (by decide) ?_
    refine lv_aload_n hx hb dJ7_copyOf_9075b_22 rfl (lv_at hl 1 rfl) ?_
    refine sc_len S hK hT dJ7_copyOf_9075b_23 (fun x4 t5 => ?_)
    refine lv_iload_n hx hb dJ7_copyOf_9075b_24 rfl (lv_at hl 2 rfl) ?_
    refine x_clp (x_runS (As := [.int x4, .int p1]) (rest := [.int 0, .ref q9, .int 0, .ref v]) S (c_J9_min_7cf53 l E K F G H x4 p1) ms_J9_min_7cf53 km_J7_304 rfl rfl ⟨Nat.le_of_ble_eq_true rfl, Nat.le_of_ble_eq_true rfl⟩ hK (fun _ => XPh.blind) (fun U hU hW => XPh.at hK hz hS hT.cl hU hW) rfl hl.1 (Nat.le_of_ble_eq_true rfl) dJ7_copyOf_9075b_25 ⟨Nat.le_of_ble_eq_true rfl, Nat.le_of_ble_eq_true rfl⟩) hS ?_
    rintro _ _ locs ⟨x6, rfl, t7⟩ hS
    have t7 : (x4.toInt ≤ p1.toInt ∧ x6.toInt = x4.toInt) ∨ (p1.toInt < x4.toInt ∧ x6.toInt = p1.toInt) := t7
    refine sc_copy S hK hT hS kac km_J7_150 (z_J7_copyOf_9075b_1 p1.toInt x4.toInt x6.toInt n p1.toInt.toNat e8 t5 t7) hl.1 (Nat.le_of_ble_eq_true rfl) (Nat.le_of_ble_eq_true rfl) dJ7_copyOf_9075b_28 (fun H locs hT hS => ?_)
    refine lv_aload_n hx hb dJ7_copyOf_9075b_31 rfl (lv_at hl 0 rfl) ?_
    exact x_ra hx hb hr (by first | exact Or.inl ⟨_, rfl⟩ | exact Or.inr ⟨_, rfl⟩) (by first | exact Or.inl rfl | exact Or.inr ⟨_, rfl⟩) hlk hQ (Nat.le_of_ble_eq_true rfl) (Nat.le_of_ble_eq_true rfl) hS dJ7_copyOf_9075b_32 q9 rfl hT
  · exact absurd ((z_J7_copyOf_9075b_2 p1.toInt x1.toInt n e1 t2 c3)).1 (by decide)

theorem z_J5_ensureCapacityInternal_d00df_1 (a0 : Int) (a1 : Int) (a2 : Int) (a3 : Nat) (h0 : 0 ≤ a0 ∧ a0 ≤ 48) (h1 : a1 = ((a3 : Nat) : Int)) (h2 : a2 = a0 - a1 ∨ a0 - a1 < -2147483648 ∨ 2147483648 ≤ a0 - a1) (h3 : a2 ≤ 0) : a0 ≤ ((a3 : Nat) : Int) ∧ ((a3 : Nat) : Int) ≤ ((a3 : Nat) : Int) := by omega
theorem z_J5_ensureCapacityInternal_d00df_2 (a0 : Int) (a1 : Int) (a2 : Int) (a3 : Int) (a4 : Nat) (h0 : 0 ≤ a0 ∧ a0 ≤ ((a4 : Nat) : Int) ∧ ((a4 : Nat) : Int) ≤ 100) (h1 : 0 ≤ a1 ∧ a1 ≤ 48) (h2 : a2 = ((a4 : Nat) : Int)) (h3 : a3 = a1 - a2 ∨ a1 - a2 < -2147483648 ∨ 2147483648 ≤ a1 - a2) (h4 : ¬ (a3 ≤ 0)) : ((a4 : Nat) : Int) < a1 ∧ a1 ≤ 48 := by omega
theorem z_J5_ensureCapacityInternal_d00df_3 (a0 : Int) (a1 : Int) (a2 : Int) (a3 : Int) (a4 : Int) (a5 : Nat) (h0 : 0 ≤ a0 ∧ a0 ≤ ((a5 : Nat) : Int) ∧ ((a5 : Nat) : Int) ≤ 100) (h1 : 0 ≤ a1 ∧ a1 ≤ 48) (h2 : a2 = ((a5 : Nat) : Int)) (h3 : a3 = a1 - a2 ∨ a1 - a2 < -2147483648 ∨ 2147483648 ≤ a1 - a2) (h4 : ¬ (a3 ≤ 0)) (h5 : a1 ≤ a4 ∧ a4 ≤ 100) : ((a5 : Nat) : Int) < a4 ∧ a4 ≤ 100 := by omega
theorem z_J5_ensureCapacityInternal_d00df_5 (a0 : Int) (a1 : Int) (a2 : Int) (a3 : Int) (a4 : Int) (a5 : Nat) (a6 : Nat) (h0 : 0 ≤ a0 ∧ a0 ≤ ((a5 : Nat) : Int) ∧ ((a5 : Nat) : Int) ≤ 100) (h1 : 0 ≤ a1 ∧ a1 ≤ 48) (h2 : a2 = ((a5 : Nat) : Int)) (h3 : a3 = a1 - a2 ∨ a1 - a2 < -2147483648 ∨ 2147483648 ≤ a1 - a2) (h4 : ¬ (a3 ≤ 0)) (h5 : a1 ≤ a4 ∧ a4 ≤ 100) (h6 : ((a6 : Nat) : Int) = a4) : a1 ≤ ((a6 : Nat) : Int) ∧ ((a5 : Nat) : Int) ≤ ((a6 : Nat) : Int) := by omega
abbrev rm_J5_ensureCapacityInternal_d00df : Room := { frames := 3, cells := 1, slots := 100, locals := 82 }
set_option maxHeartbeats 4000000 in
set_option maxRecDepth 100000 in
theorem c_J5_ensureCapacityInternal_d00df (l : Launch) (E : XE) (K : Nat → Nat) (F : Nat → Nat → Nat) (G : XG) (v n : Nat) (cnt : Int32) (p0 : Int32) (e1 : 0 ≤ p0.toInt ∧ p0.toInt ≤ 48) : Met l yJ5_ensureCapacityInternal_d00df (xw yJ5_ensureCapacityInternal_d00df cJ5_ensureCapacityInternal_d00df 3 none) rm_J5_ensureCapacityInternal_d00df (va_Pc [.ref E.2.2.2.1, .int p0] (XPb E K F G v n cnt)) (XQv E (fun (u : Nat × Nat) => p0.toInt ≤ ((u.2 : Nat) : Int) ∧ ((n : Nat) : Int) ≤ ((u.2 : Nat) : Int)) (fun u H => TWb E K F G u.1 u.2 cnt H)) 1 100 (xA E) := by
  refine x_enter (by decide) (Nat.le_of_ble_eq_true rfl) ?_
  intro p e s m args below meth c Q S hr hlk hnm hQ hP ls hl
  obtain ⟨hz, hK, hT⟩ := hP
  obtain ⟨hx, hb, -, -, -⟩ := id S
  obtain ⟨H, hT, hS, hgo⟩ : ∃ H : Heap, TWb E K F G v n cnt H ∧ va_S (xA E) s.heap H [] ∧ H = s.heap := ⟨_, hT, va_S.rf, rfl⟩
  rw [← hgo]
  have hl : lv_has ls 3 [(0, .ref E.2.2.2.1), (1, .int p0)] := hl
  have e9 := hT.inv
  refine lv_aload_n hx hb dJ5_ensureCapacityInternal_d00df_0 rfl (lv_at hl 0 rfl) ?_
  refine sbg_value S hK hT kf_J5_15 dJ5_ensureCapacityInternal_d00df_1 ?_
  refine sb_len S hK hT dJ5_ensureCapacityInternal_d00df_4 (fun x1 t2 => ?_)
  refine lv_aload_n hx hb dJ5_ensureCapacityInternal_d00df_5 rfl (lv_at hl 0 rfl) ?_
  refine sbg_coder S hK hT kf_J5_22 dJ5_ensureCapacityInternal_d00df_6 ?_
  refine lv_ishr hx hb dJ5_ensureCapacityInternal_d00df_9 ?_
  rw [sb_shr0]
  refine lv_istore_n (lv' := [(2, .int x1), (0, .ref E.2.2.2.1), (1, .int p0)]) hx hb dJ5_ensureCapacityInternal_d00df_10 rfl hl (by decide) rfl (fun ls hl => ?_)
  refine lv_iload_n hx hb dJ5_ensureCapacityInternal_d00df_11 rfl (lv_at hl 2 rfl) ?_
  refine lv_iload_n hx hb dJ5_ensureCapacityInternal_d00df_12 rfl (lv_at hl 0 rfl) ?_
  refine xi_isub hx hb (rfl : Int32.toInt p0 = p0.toInt) (rfl : Int32.toInt x1 = x1.toInt) dJ5_ensureCapacityInternal_d00df_13 (fun x3 t4 => ?_)
  refine xi_zle (tgt := 38) hx hb (rfl : Int32.toInt x3 = x3.toInt) dJ5_ensureCapacityInternal_d00df_14 (by decide) (fun c5 => ?_) (fun c5 => ?_)
  · exact x_rv hx hb hr hlk hQ (Nat.le_of_ble_eq_true rfl) (Nat.le_of_ble_eq_true rfl) hS dJ5_ensureCapacityInternal_d00df_38 (v, n) (z_J5_ensureCapacityInternal_d00df_1 p0.toInt x1.toInt x3.toInt n e1 t2 t4 c5) hT
  · refine lv_aload_n hx hb dJ5_ensureCapacityInternal_d00df_17 rfl (lv_at hl 1 rfl) ?_
    refine lv_aload_n hx hb dJ5_ensureCapacityInternal_d00df_18 rfl (lv_at hl 1 rfl) ?_
    refine sbg_value S hK hT kf_J5_15 dJ5_ensureCapacityInternal_d00df_19 ?_
    refine lv_aload_n hx hb dJ5_ensureCapacityInternal_d00df_22 rfl (lv_at hl 1 rfl) ?_
    refine lv_iload_n hx hb dJ5_ensureCapacityInternal_d00df_23 rfl (lv_at hl 2 rfl) ?_
    refine x_clp (x_runV (b := E.2.2.2.1) (As := [.int p0]) (rest := [.ref v, .ref E.2.2.2.1]) S (c_J5_newCapacity_0f7a4 l E K F G v n cnt H p0 (z_J5_ensureCapacityInternal_d00df_2 cnt.toInt p0.toInt x1.toInt x3.toInt n e9 e1 t2 t4 c5)) mw_J5_newCapacity_0f7a4 km_J5_104 rfl rfl ⟨Nat.le_of_ble_eq_true rfl, Nat.le_of_ble_eq_true rfl⟩ (rc_sb hK hT) hK (fun _ => XPbh.blind) (fun U hU hW => XPbh.at hK hz hS hT hU hW) rfl hl.1 (Nat.le_of_ble_eq_true rfl) dJ5_ensureCapacityInternal_d00df_24 ⟨Nat.le_of_ble_eq_true rfl, Nat.le_of_ble_eq_true rfl⟩) hS ?_
    rintro _ _ locs ⟨x6, rfl, t7⟩ hS
    have t7 : p0.toInt ≤ x6.toInt ∧ x6.toInt ≤ 100 := t7
    refine lv_aload_n hx hb dJ5_ensureCapacityInternal_d00df_27 rfl (lv_at hl 1 rfl) ?_
    refine sbg_coder S hK hT kf_J5_22 dJ5_ensureCapacityInternal_d00df_28 ?_
    refine lv_ishl hx hb dJ5_ensureCapacityInternal_d00df_31 ?_
    rw [sb_shl0]
    refine x_cl (x_runS (As := [.ref v, .int x6]) (rest := [.ref E.2.2.2.1]) S (c_J7_copyOf_9075b l E K F G v n cnt x6 (z_J5_ensureCapacityInternal_d00df_3 cnt.toInt p0.toInt x1.toInt x3.toInt x6.toInt n e9 e1 t2 t4 c5 t7)) ms_J7_copyOf_9075b km_J5_108 rfl rfl ⟨Nat.le_of_ble_eq_true rfl, Nat.le_of_ble_eq_true rfl⟩ hK (fun _ => XPb.blind) (fun U hU hW => XPb.at hK hz hS hT hU hW) rfl hl.1 (Nat.le_of_ble_eq_true rfl) dJ5_ensureCapacityInternal_d00df_32 ⟨Nat.le_of_ble_eq_true rfl, Nat.le_of_ble_eq_true rfl⟩) hS ?_
    rintro _ u9 H locs rfl hT hS
    have e7 : ((x6.toInt.toNat : Nat) : Int) = x6.toInt := Int.toNat_of_nonneg (by have := (z_J5_ensureCapacityInternal_d00df_3 cnt.toInt p0.toInt x1.toInt x3.toInt x6.toInt n e9 e1 t2 t4 c5 t7); omega)
    refine sbp_value S hK hT hS kf_J5_15 (by have := (z_J5_ensureCapacityInternal_d00df_3 cnt.toInt p0.toInt x1.toInt x3.toInt x6.toInt n e9 e1 t2 t4 c5 t7); omega) dJ5_ensureCapacityInternal_d00df_35 (fun H locs hT hS => ?_)
    exact x_rv hx hb hr hlk hQ (Nat.le_of_ble_eq_true rfl) (Nat.le_of_ble_eq_true rfl) hS dJ5_ensureCapacityInternal_d00df_38 (u9, x6.toInt.toNat) (z_J5_ensureCapacityInternal_d00df_5 cnt.toInt p0.toInt x1.toInt x3.toInt x6.toInt n x6.toInt.toNat e9 e1 t2 t4 c5 t7 e7) hT
