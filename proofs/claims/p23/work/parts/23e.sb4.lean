def XPb (E : XE) (K : Nat → Nat) (F : Nat → Nat → Nat) (G : XG) (v n : Nat) (cnt : Int32) (U : State) : Prop := E.2.2.1 ≤ U.heap.size ∧ XK E U ∧ TWb E K F G v n cnt U.heap
theorem XPb.at {E : XE} {K : Nat → Nat} {F : Nat → Nat → Nat} {G : XG} {v n : Nat} {cnt : Int32} {s U : State} {locs : List Loc} {H : Heap} (hK : XK E s) (hz : E.2.2.1 ≤ s.heap.size) (hS : va_S (xA E) s.heap H locs) (hT : TWb E K F G v n cnt H) (hU : U.heap = H) (hW : s.WarmedH U.vm) : XPb E K F G v n cnt U := ⟨by rw [hU]; exact Nat.le_trans hz hS.1, hK.at hS hU hW, by rw [hU]; exact hT⟩
theorem XPb.blind {E : XE} {K : Nat → Nat} {F : Nat → Nat → Nat} {G : XG} {v n : Nat} {cnt : Int32} {av : List Value} : FrameBlind (va_Pc av (XPb E K F G v n cnt)) := fun a U g mk h => ⟨h.1, h.2.1, h.2.2.1.same (u := U) rfl rfl, h.2.2.2⟩
def XPbh (E : XE) (K : Nat → Nat) (F : Nat → Nat → Nat) (G : XG) (v n : Nat) (cnt : Int32) (h0 : Heap) (U : State) : Prop := XPb E K F G v n cnt U ∧ U.heap = h0
theorem XPbh.blind {E : XE} {K : Nat → Nat} {F : Nat → Nat → Nat} {G : XG} {v n : Nat} {cnt : Int32} {h0 : Heap} {av : List Value} : FrameBlind (va_Pc av (XPbh E K F G v n cnt h0)) := fun a U g mk h => ⟨h.1, ⟨h.2.1.1, h.2.1.2.1.same (u := U) rfl rfl, h.2.1.2.2⟩, h.2.2⟩
theorem XPbh.at {E : XE} {K : Nat → Nat} {F : Nat → Nat → Nat} {G : XG} {v n : Nat} {cnt : Int32} {s U : State} {locs : List Loc} {H : Heap} (hK : XK E s) (hz : E.2.2.1 ≤ s.heap.size) (hS : va_S (xA E) s.heap H locs) (hT : TWb E K F G v n cnt H) (hU : U.heap = H) (hW : s.WarmedH U.vm) : XPbh E K F G v n cnt H U := ⟨XPb.at hK hz hS hT hU hW, hU⟩

theorem z_J5_length_8abf5_1 (a0 : Int) : a0 = a0 := by omega
abbrev rm_J5_length_8abf5 : Room := { frames := 0, cells := 0, slots := 0, locals := 0 }
set_option maxHeartbeats 4000000 in
set_option maxRecDepth 100000 in
theorem c_J5_length_8abf5 (l : Launch) (E : XE) (K : Nat → Nat) (F : Nat → Nat → Nat) (G : XG) (v n : Nat) (cnt : Int32) (h0 : Heap)   : Met l yJ5_length_8abf5 (xw yJ5_length_8abf5 cJ5_length_8abf5 1 (some .int)) rm_J5_length_8abf5 (va_Pc [.ref E.2.2.2.1] (XPbh E K F G v n cnt h0)) (XQ E (fun v (u : Unit) => ∃ r : Int32, v = .int r ∧ (r.toInt = cnt.toInt)) (fun _ H => H = h0)) 0 0 (xA E) := by
  refine x_enter (by decide) (Nat.le_of_ble_eq_true rfl) ?_
  intro p e s m args below meth c Q S hr hlk hnm hQ hP ls hl
  obtain ⟨⟨hz, hK, hT⟩, hh⟩ := hP
  obtain ⟨hx, hb, -, -, -⟩ := id S
  have hS : va_S (xA E) s.heap s.heap [] := va_S.rf
  have hl : lv_has ls 1 [(0, .ref E.2.2.2.1)] := hl
  have e9 := hT.inv
  refine lv_aload_n hx hb dJ5_length_8abf5_0 rfl (lv_at hl 0 rfl) ?_
  refine sbg_count S hK hT kf_J5_79 dJ5_length_8abf5_1 ?_
  exact x_ri hx hb hr hlk hQ (Nat.le_of_ble_eq_true rfl) (Nat.le_of_ble_eq_true rfl) hS dJ5_length_8abf5_4 () ⟨_, rfl, (z_J5_length_8abf5_1 cnt.toInt)⟩ hh

theorem z_J5_newCapacity_0f7a4_1 (a0 : Int) (a1 : Int) (a2 : Nat) (h0 : ((a2 : Nat) : Int) < a0 ∧ a0 ≤ 48) (h1 : a1 = ((a2 : Nat) : Int)) : 0 ≤ a1 ∧ a1 ≤ 100 := by omega
theorem z_J5_newCapacity_0f7a4_2 (a0 : Int) (a1 : Int) (a2 : Int) (a3 : Nat) (h0 : ((a3 : Nat) : Int) < a0 ∧ a0 ≤ 48) (h1 : a1 = ((a3 : Nat) : Int)) (h2 : a2 = a0 - a1 ∨ a0 - a1 < -2147483648 ∨ 2147483648 ≤ a0 - a1) : 0 ≤ a2 ∧ a2 ≤ 100 := by omega
theorem z_J5_newCapacity_0f7a4_3 (a0 : Int) (a1 : Int) (a2 : Int) (a3 : Nat) (h0 : ((a3 : Nat) : Int) < a0 ∧ a0 ≤ 48) (h1 : a1 = ((a3 : Nat) : Int)) (h2 : a2 = a1 + (2 : Int) ∨ a1 + (2 : Int) < -2147483648 ∨ 2147483648 ≤ a1 + (2 : Int)) : 1 ≤ a2 ∧ a2 ≤ 200 := by omega
theorem z_J5_newCapacity_0f7a4_4 (a0 : Int) (a1 : Int) (a2 : Int) (a3 : Int) (a4 : Int) (a5 : Nat) (h0 : ((a5 : Nat) : Int) < a0 ∧ a0 ≤ 48) (h1 : a1 = ((a5 : Nat) : Int)) (h2 : a2 = a0 - a1 ∨ a0 - a1 < -2147483648 ∨ 2147483648 ≤ a0 - a1) (h3 : a3 = a1 + (2 : Int) ∨ a1 + (2 : Int) < -2147483648 ∨ 2147483648 ≤ a1 + (2 : Int)) (h4 : (a3 ≤ a2 ∧ a4 = a1 + a2) ∨ (a2 < a3 ∧ a4 = a1 + a3)) : a0 ≤ a4 ∧ a4 ≤ 100 := by omega
theorem z_J5_newCapacity_0f7a4_5 (a0 : Int) (a1 : Int) (a2 : Int) (a3 : Int) (a4 : Int) (a5 : Nat) (h0 : ((a5 : Nat) : Int) < a0 ∧ a0 ≤ 48) (h1 : a1 = ((a5 : Nat) : Int)) (h2 : a2 = a0 - a1 ∨ a0 - a1 < -2147483648 ∨ 2147483648 ≤ a0 - a1) (h3 : a3 = a1 + (2 : Int) ∨ a1 + (2 : Int) < -2147483648 ∨ 2147483648 ≤ a1 + (2 : Int)) (h4 : (a3 ≤ a2 ∧ a4 = a1 + a2) ∨ (a2 < a3 ∧ a4 = a1 + a3)) (h5 : ¬ (a4 ≠ (2147483647 : Int))) : (0 : Int) = 1 ∧ a4 = a4 := by omega
abbrev rm_J5_newCapacity_0f7a4 : Room := { frames := 2, cells := 0, slots := 0, locals := 44 }
set_option maxHeartbeats 4000000 in
set_option maxRecDepth 100000 in
theorem c_J5_newCapacity_0f7a4 (l : Launch) (E : XE) (K : Nat → Nat) (F : Nat → Nat → Nat) (G : XG) (v n : Nat) (cnt : Int32) (h0 : Heap) (p0 : Int32) (e1 : ((n : Nat) : Int) < p0.toInt ∧ p0.toInt ≤ 48) : Met l yJ5_newCapacity_0f7a4 (xw yJ5_newCapacity_0f7a4 cJ5_newCapacity_0f7a4 6 (some .int)) rm_J5_newCapacity_0f7a4 (va_Pc [.ref E.2.2.2.1, .int p0] (XPbh E K F G v n cnt h0)) (XQ E (fun v (u : Unit) => ∃ r : Int32, v = .int r ∧ (p0.toInt ≤ r.toInt ∧ r.toInt ≤ 100)) (fun _ H => H = h0)) 0 0 (xA E) := by
  refine x_enter (by decide) (Nat.le_of_ble_eq_true rfl) ?_
  intro p e s m args below meth c Q S hr hlk hnm hQ hP ls hl
  obtain ⟨⟨hz, hK, hT⟩, hh⟩ := hP
  obtain ⟨hx, hb, -, -, -⟩ := id S
  have hS : va_S (xA E) s.heap s.heap [] := va_S.rf
  have hl : lv_has ls 6 [(0, .ref E.2.2.2.1), (1, .int p0)] := hl
  have e9 := hT.inv
  refine lv_aload_n hx hb dJ5_newCapacity_0f7a4_0 rfl (lv_at hl 0 rfl) ?_
  refine sbg_value S hK hT kf_J5_15 dJ5_newCapacity_0f7a4_1 ?_
  refine sb_len S hK hT dJ5_newCapacity_0f7a4_4 (fun x1 t2 => ?_)
  refine lv_istore_n (lv' := [(2, .int x1), (0, .ref E.2.2.2.1), (1, .int p0)]) hx hb dJ5_newCapacity_0f7a4_5 rfl hl (by decide) rfl (fun ls hl => ?_)
  refine lv_iload_n hx hb dJ5_newCapacity_0f7a4_6 rfl (lv_at hl 2 rfl) ?_
  refine lv_aload_n hx hb dJ5_newCapacity_0f7a4_7 rfl (lv_at hl 1 rfl) ?_
  refine sbg_coder S hK hT kf_J5_22 dJ5_newCapacity_0f7a4_8 ?_
  refine lv_ishl hx hb dJ5_newCapacity_0f7a4_11 ?_
  rw [sb_shl0]
  refine lv_istore_n (lv' := [(3, .int p0), (2, .int x1), (0, .ref E.2.2.2.1), (1, .int p0)]) hx hb dJ5_newCapacity_0f7a4_12 rfl hl (by decide) rfl (fun ls hl => ?_)
  refine lv_iload_n hx hb dJ5_newCapacity_0f7a4_13 rfl (lv_at hl 0 rfl) ?_
  refine lv_iload_n hx hb dJ5_newCapacity_0f7a4_14 rfl (lv_at hl 1 rfl) ?_
  refine xi_isub hx hb (rfl : Int32.toInt p0 = p0.toInt) (rfl : Int32.toInt x1 = x1.toInt) dJ5_newCapacity_0f7a4_15 (fun x3 t4 => ?_)
  refine lv_istore (lv' := [(4, .int x3), (3, .int p0), (2, .int x1), (0, .ref E.2.2.2.1), (1, .int p0)]) hx hb dJ5_newCapacity_0f7a4_16 hl (by decide) rfl (fun ls hl => ?_)
  refine lv_iload_n hx hb dJ5_newCapacity_0f7a4_18 rfl (lv_at hl 2 rfl) ?_
  refine lv_iload hx hb dJ5_newCapacity_0f7a4_19 (lv_at hl 0 rfl) ?_
  refine lv_iload_n hx hb dJ5_newCapacity_0f7a4_21 rfl (lv_at hl 2 rfl) ?_
  refine lv_iconst (v := 2) hx hb dJ5_newCapacity_0f7a4_22 (by decide) ?_
  refine lv_aload_n hx hb dJ5_newCapacity_0f7a4_23 rfl (lv_at hl 3 rfl) ?_
  refine sbg_coder S hK hT kf_J5_22 dJ5_newCapacity_0f7a4_24 ?_
  refine lv_ishl hx hb dJ5_newCapacity_0f7a4_27 ?_
  rw [sb_shl0]
  refine xi_iadd hx hb (rfl : Int32.toInt x1 = x1.toInt) ((by decide) : Int32.toInt 2 = (2 : Int)) dJ5_newCapacity_0f7a4_28 (fun x5 t6 => ?_)
  refine x_clp (x_runS (As := [.int x1, .int x3, .int x5]) (rest := []) S (c_J8_newLength_cabcc l E K F G s.heap x1 x3 x5 (z_J5_newCapacity_0f7a4_1 p0.toInt x1.toInt n e1 t2) (z_J5_newCapacity_0f7a4_2 p0.toInt x1.toInt x3.toInt n e1 t2 t4) (z_J5_newCapacity_0f7a4_3 p0.toInt x1.toInt x5.toInt n e1 t2 t6)) ms_J8_newLength_cabcc km_J5_114 rfl rfl ⟨Nat.le_of_ble_eq_true rfl, Nat.le_of_ble_eq_true rfl⟩ hK (fun _ => XPh.blind) (fun U hU hW => XPh.at hK hz hS hT.cl hU hW) rfl hl.1 (Nat.le_of_ble_eq_true rfl) dJ5_newCapacity_0f7a4_29 ⟨Nat.le_of_ble_eq_true rfl, Nat.le_of_ble_eq_true rfl⟩) hS ?_
  rintro _ _ locs ⟨x7, rfl, t8⟩ hS
  have t8 : (x5.toInt ≤ x3.toInt ∧ x7.toInt = x1.toInt + x3.toInt) ∨ (x3.toInt < x5.toInt ∧ x7.toInt = x1.toInt + x5.toInt) := t8
  refine lv_istore (lv' := [(5, .int x7), (4, .int x3), (3, .int p0), (2, .int x1), (0, .ref E.2.2.2.1), (1, .int p0)]) hx hb dJ5_newCapacity_0f7a4_32 hl (by decide) rfl (fun ls hl => ?_)
  refine lv_iload hx hb dJ5_newCapacity_0f7a4_34 (lv_at hl 0 rfl) ?_
  refine lv_ldc (v := 2147483647) hx hb S.2.2.2.1 (S.2.2.2.2 _ (List.mem_cons_of_mem _ kc_J5_39)) dJ5_newCapacity_0f7a4_36 ?_
  refine xi_cne (tgt := 51) hx hb (rfl : Int32.toInt x7 = x7.toInt) ((by decide) : Int32.toInt 2147483647 = (2147483647 : Int)) dJ5_newCapacity_0f7a4_38 (by decide) (fun c9 => ?_) (fun c9 => ?_)
  · refine lv_iload hx hb dJ5_newCapacity_0f7a4_51 (lv_at hl 0 rfl) ?_
    refine lv_aload_n hx hb dJ5_newCapacity_0f7a4_53 rfl (lv_at hl 4 rfl) ?_
    refine sbg_coder S hK hT kf_J5_22 dJ5_newCapacity_0f7a4_54 ?_
    refine lv_ishr hx hb dJ5_newCapacity_0f7a4_57 ?_
    rw [sb_shr0]
    exact x_ri hx hb hr hlk hQ (Nat.le_of_ble_eq_true rfl) (Nat.le_of_ble_eq_true rfl) hS dJ5_newCapacity_0f7a4_58 () ⟨_, rfl, (z_J5_newCapacity_0f7a4_4 p0.toInt x1.toInt x3.toInt x5.toInt x7.toInt n e1 t2 t4 t6 t8)⟩ hh
  · exact absurd ((z_J5_newCapacity_0f7a4_5 p0.toInt x1.toInt x3.toInt x5.toInt x7.toInt n e1 t2 t4 t6 t8 c9)).1 (by decide)

abbrev rm_J5_isLatin1_aae02 : Room := { frames := 0, cells := 0, slots := 0, locals := 0 }
set_option maxHeartbeats 4000000 in
set_option maxRecDepth 100000 in
theorem c_J5_isLatin1_aae02 (l : Launch) (E : XE) (K : Nat → Nat) (F : Nat → Nat → Nat) (G : XG) (v n : Nat) (cnt : Int32) (h0 : Heap)   : Met l yJ5_isLatin1_aae02 (xw yJ5_isLatin1_aae02 cJ5_isLatin1_aae02 1 (some .boolean)) rm_J5_isLatin1_aae02 (va_Pc [.ref E.2.2.2.1] (XPbh E K F G v n cnt h0)) (XQ E (fun v (u : Unit) => ∃ r : Int32, v = .int r ∧ r = 1) (fun _ H => H = h0)) 0 0 (xA E) := by
  refine x_enter (by decide) (Nat.le_of_ble_eq_true rfl) ?_
  intro p e s m args below meth c Q S hr hlk hnm hQ hP ls hl
  obtain ⟨⟨hz, hK, hT⟩, hh⟩ := hP
  obtain ⟨hx, hb, -, -, -⟩ := id S
  have hS : va_S (xA E) s.heap s.heap [] := va_S.rf
  have hl : lv_has ls 1 [(0, .ref E.2.2.2.1)] := hl
  have e9 := hT.inv
  refine va_gets hx hb hK.2.2.2.2.1 hS S.2.2.2.1 (S.2.2.2.2 _ (List.mem_cons_of_mem _ kf_J5_18)) (fun _ h => h) dJ5_isLatin1_aae02_0 ?_
  refine xi_zeq (tgt := 17) hx hb ((by decide) : Int32.toInt 1 = (1 : Int)) dJ5_isLatin1_aae02_3 (by decide) (fun c => absurd c (show ¬ ((1 : Int) = 0) by decide)) (fun _ => ?_)
  refine lv_aload_n hx hb dJ5_isLatin1_aae02_6 rfl (lv_at hl 0 rfl) ?_
  refine sbg_coder S hK hT kf_J5_22 dJ5_isLatin1_aae02_7 ?_
  refine xi_zne (tgt := 17) hx hb ((by decide) : Int32.toInt 0 = (0 : Int)) dJ5_isLatin1_aae02_10 (by decide) (fun c => absurd c (show ¬ ((0 : Int) ≠ 0) by decide)) (fun _ => ?_)
  refine lv_iconst (v := 1) hx hb dJ5_isLatin1_aae02_13 (by decide) ?_
  refine lv_goto (tgt := 18) hx hb dJ5_isLatin1_aae02_14 (by decide) ?_
  exact x_rz hx hb hr (xnz (Or.inr rfl)) hlk hQ (Nat.le_of_ble_eq_true rfl) (Nat.le_of_ble_eq_true rfl) hS dJ5_isLatin1_aae02_18 () ⟨_, rfl, rfl⟩ hh

theorem z_J5_charAt_5068e_1 (a0 : Int) (a1 : Int) (a2 : Int) (a3 : Int) (a4 : Nat) (h0 : 0 ≤ a0 ∧ a0 ≤ ((a4 : Nat) : Int) ∧ ((a4 : Nat) : Int) ≤ 100) (h1 : 0 ≤ a1 ∧ a1 < a0) (h2 : a2 = ((a4 : Nat) : Int)) (h3 : (a0 ≤ a2 ∧ a3 = a0) ∨ (a2 < a0 ∧ a3 = a2)) : 0 ≤ a1 ∧ a1 < a3 := by omega
theorem z_J5_charAt_5068e_2 (a0 : Int) (a1 : Int) (a2 : Nat) (h0 : 0 ≤ a0 ∧ a0 ≤ ((a2 : Nat) : Int) ∧ ((a2 : Nat) : Int) ≤ 100) (h1 : 0 ≤ a1 ∧ a1 < a0) : 0 ≤ a1 ∧ a1 < ((a2 : Nat) : Int) := by omega
abbrev rm_J5_charAt_5068e : Room := { frames := 2, cells := 0, slots := 0, locals := 43 }
set_option maxHeartbeats 4000000 in
set_option maxRecDepth 100000 in
theorem c_J5_charAt_5068e (l : Launch) (E : XE) (K : Nat → Nat) (F : Nat → Nat → Nat) (G : XG) (v n : Nat) (cnt : Int32) (h0 : Heap) (p0 : Int32) (e1 : 0 ≤ p0.toInt ∧ p0.toInt < cnt.toInt) : Met l yJ5_charAt_5068e (xw yJ5_charAt_5068e cJ5_charAt_5068e 5 (some .char)) rm_J5_charAt_5068e (va_Pc [.ref E.2.2.2.1, .int p0] (XPbh E K F G v n cnt h0)) (XQ E (fun v (u : Unit) => ∃ r : Int32, v = .int r ∧ xok 1 r) (fun _ H => H = h0)) 0 0 (xA E) := by
  refine x_enter (by decide) (Nat.le_of_ble_eq_true rfl) ?_
  intro p e s m args below meth c Q S hr hlk hnm hQ hP ls hl
  obtain ⟨⟨hz, hK, hT⟩, hh⟩ := hP
  obtain ⟨hx, hb, -, -, -⟩ := id S
  have hS : va_S (xA E) s.heap s.heap [] := va_S.rf
  have hl : lv_has ls 5 [(0, .ref E.2.2.2.1), (1, .int p0)] := hl
  have e9 := hT.inv
  refine lv_aload_n hx hb dJ5_charAt_5068e_0 rfl (lv_at hl 0 rfl) ?_
  refine sbg_coder S hK hT kf_J5_22 dJ5_charAt_5068e_1 ?_
  refine lv_istore_n (lv' := [(2, .int 0), (0, .ref E.2.2.2.1), (1, .int p0)]) hx hb dJ5_charAt_5068e_4 rfl hl (by decide) rfl (fun ls hl => ?_)
  refine lv_aload_n hx hb dJ5_charAt_5068e_5 rfl (lv_at hl 1 rfl) ?_
  refine sbg_value S hK hT kf_J5_15 dJ5_charAt_5068e_6 ?_
  refine lv_astore_n (lv' := [(3, .ref v), (2, .int 0), (0, .ref E.2.2.2.1), (1, .int p0)]) hx hb dJ5_charAt_5068e_9 rfl hl (by decide) rfl (fun ls hl => ?_)
  refine lv_aload_n hx hb dJ5_charAt_5068e_10 rfl (lv_at hl 2 rfl) ?_
  refine sbg_count S hK hT kf_J5_79 dJ5_charAt_5068e_11 ?_
  refine lv_aload_n hx hb dJ5_charAt_5068e_14 rfl (lv_at hl 0 rfl) ?_
  refine sb_len S hK hT dJ5_charAt_5068e_15 (fun x1 t2 => ?_)
  refine lv_iload_n hx hb dJ5_charAt_5068e_16 rfl (lv_at hl 1 rfl) ?_
  refine lv_ishr hx hb dJ5_charAt_5068e_17 ?_
  rw [sb_shr0]
  refine x_clp (x_runS (As := [.int cnt, .int x1]) (rest := []) S (c_J9_min_7cf53 l E K F G s.heap cnt x1) ms_J9_min_7cf53 km_J5_138 rfl rfl ⟨Nat.le_of_ble_eq_true rfl, Nat.le_of_ble_eq_true rfl⟩ hK (fun _ => XPh.blind) (fun U hU hW => XPh.at hK hz hS hT.cl hU hW) rfl hl.1 (Nat.le_of_ble_eq_true rfl) dJ5_charAt_5068e_18 ⟨Nat.le_of_ble_eq_true rfl, Nat.le_of_ble_eq_true rfl⟩) hS ?_
  rintro _ _ locs ⟨x3, rfl, t4⟩ hS
  have t4 : (cnt.toInt ≤ x1.toInt ∧ x3.toInt = cnt.toInt) ∨ (x1.toInt < cnt.toInt ∧ x3.toInt = x1.toInt) := t4
  refine lv_istore (lv' := [(4, .int x3), (3, .ref v), (2, .int 0), (0, .ref E.2.2.2.1), (1, .int p0)]) hx hb dJ5_charAt_5068e_21 hl (by decide) rfl (fun ls hl => ?_)
  refine lv_iload_n hx hb dJ5_charAt_5068e_23 rfl (lv_at hl 4 rfl) ?_
  refine lv_iload hx hb dJ5_charAt_5068e_24 (lv_at hl 0 rfl) ?_
  refine x_cvp (x_runS (As := [.int p0, .int x3]) (rest := []) S (c_J0_checkIndex_df160 l E K F G s.heap p0 x3 (z_J5_charAt_5068e_1 cnt.toInt p0.toInt x1.toInt x3.toInt n e9 e1 t2 t4)) ms_J0_checkIndex_df160 km_J5_144 rfl rfl ⟨Nat.le_of_ble_eq_true rfl, Nat.le_of_ble_eq_true rfl⟩ hK (fun _ => XPh.blind) (fun U hU hW => XPh.at hK hz hS hT.cl hU hW) rfl hl.1 (Nat.le_of_ble_eq_true rfl) dJ5_charAt_5068e_26 ⟨Nat.le_of_ble_eq_true rfl, Nat.le_of_ble_eq_true rfl⟩) hS ?_
  rintro _ locs - hS
  refine lv_iload_n hx hb dJ5_charAt_5068e_29 rfl (lv_at hl 2 rfl) ?_
  refine xi_zne (tgt := 42) hx hb ((by decide) : Int32.toInt 0 = (0 : Int)) dJ5_charAt_5068e_30 (by decide) (fun c => absurd c (show ¬ ((0 : Int) ≠ 0) by decide)) (fun _ => ?_)
  refine lv_aload_n hx hb dJ5_charAt_5068e_33 rfl (lv_at hl 1 rfl) ?_
  refine lv_iload_n hx hb dJ5_charAt_5068e_34 rfl (lv_at hl 4 rfl) ?_
  refine sb_ld S hK hT (z_J5_charAt_5068e_2 cnt.toInt p0.toInt n e9 e1) dJ5_charAt_5068e_35 (fun x5 => ?_)
  refine lv_sipush (v := 255) hx hb dJ5_charAt_5068e_36 (by decide) ?_
  refine lv_iand hx hb dJ5_charAt_5068e_39 (lv_topi (fun x6 _ => ?_))
  refine lv_i2c hx hb dJ5_charAt_5068e_40 rfl (lv_topi (fun x7 ec8 => ?_))
  exact x_rz hx hb hr (by rw [ec8]; exact pk_nc _) hlk hQ (Nat.le_of_ble_eq_true rfl) (Nat.le_of_ble_eq_true rfl) hS dJ5_charAt_5068e_41 () ⟨_, rfl, (by rw [ec8]; exact pk_nc _)⟩ hh

theorem z_J7_copyOf_9075b_1 (a0 : Int) (a1 : Int) (a2 : Int) (a3 : Nat) (a4 : Nat) (h0 : ((a4 : Nat) : Int) = a0) (h1 : a1 = ((a3 : Nat) : Int)) (h2 : (a1 ≤ a0 ∧ a2 = a1) ∨ (a0 < a1 ∧ a2 = a0)) : 0 ≤ a2 ∧ a2 ≤ ((a3 : Nat) : Int) ∧ a2 ≤ ((a4 : Nat) : Int) := by omega
theorem z_J7_copyOf_9075b_2 (a0 : Int) (a1 : Int) (a2 : Nat) (h0 : ((a2 : Nat) : Int) < a0 ∧ a0 ≤ 100) (h1 : a1 = ((a2 : Nat) : Int)) (h2 : ¬ (a0 ≠ a1)) : (0 : Int) = 1 ∧ a0 = a0 := by omega
abbrev rm_J7_copyOf_9075b : Room := { frames := 1, cells := 1, slots := 100, locals := 60 }
set_option maxHeartbeats 4000000 in
set_option maxRecDepth 100000 in
theorem c_J7_copyOf_9075b (l : Launch) (E : XE) (K : Nat → Nat) (F : Nat → Nat → Nat) (G : XG) (v n : Nat) (cnt : Int32) (p1 : Int32) (e1 : ((n : Nat) : Int) < p1.toInt ∧ p1.toInt ≤ 100) : Met l yJ7_copyOf_9075b (xw yJ7_copyOf_9075b cJ7_copyOf_9075b 3 (some (.array .byte))) rm_J7_copyOf_9075b (va_Pc [.ref v, .int p1] (XPb E K F G v n cnt)) (XQ E (fun v (u : Nat) => v = .ref u) (fun u H => TWc E K F G v n cnt u p1.toInt.toNat H)) 1 100 (xA E) := by
  refine x_enter (by decide) (Nat.le_of_ble_eq_true rfl) ?_
  intro p e s m args below meth c Q S hr hlk hnm hQ hP ls hl
  obtain ⟨hz, hK, hT⟩ := hP
  obtain ⟨hx, hb, -, -, -⟩ := id S
  obtain ⟨H, hT, hS, hgo⟩ : ∃ H : Heap, TWb E K F G v n cnt H ∧ va_S (xA E) s.heap H [] ∧ H = s.heap := ⟨_, hT, va_S.rf, rfl⟩
  rw [← hgo]
  have hl : lv_has ls 3 [(0, .ref v), (1, .int p1)] := hl
  have e9 := hT.inv
  refine lv_iload_n hx hb dJ7_copyOf_9075b_0 rfl (lv_at hl 1 rfl) ?_
  refine lv_aload_n hx hb dJ7_copyOf_9075b_1 rfl (lv_at hl 0 rfl) ?_
  refine sb_len S hK hT dJ7_copyOf_9075b_2 (fun x1 t2 => ?_)
  refine xi_cne (tgt := 14) hx hb (rfl : Int32.toInt p1 = p1.toInt) (rfl : Int32.toInt x1 = x1.toInt) dJ7_copyOf_9075b_3 (by decide) (fun c3 => ?_) (fun c3 => ?_)
  · refine lv_iload_n hx hb dJ7_copyOf_9075b_14 rfl (lv_at hl 1 rfl) ?_
    have e8 : ((p1.toInt.toNat : Nat) : Int) = p1.toInt := Int.toNat_of_nonneg (by omega)
    refine sb_new (N := p1.toInt.toNat) S hK hz hT hS e8.symm (by omega) (Nat.le_of_ble_eq_true rfl) (Nat.le_of_ble_eq_true rfl) dJ7_copyOf_9075b_15 (fun q9 H hT hS => ?_)
    refine lv_astore_n (lv' := [(2, .ref q9), (0, .ref v), (1, .int p1)]) hx hb dJ7_copyOf_9075b_17 rfl hl (by decide) rfl (fun ls hl => ?_)
    refine lv_aload_n hx hb dJ7_copyOf_9075b_18 rfl (lv_at hl 1 rfl) ?_
    refine lv_iconst (v := 0) hx hb dJ7_copyOf_9075b_19 (by decide) ?_
    refine lv_aload_n hx hb dJ7_copyOf_9075b_20 rfl (lv_at hl 0 rfl) ?_
    refine lv_iconst (v := 0) hx hb dJ7_copyOf_9075b_21 (by decide) ?_
    refine lv_aload_n hx hb dJ7_copyOf_9075b_22 rfl (lv_at hl 1 rfl) ?_
    refine sc_len S hK hT dJ7_copyOf_9075b_23 (fun x4 t5 => ?_)
    refine lv_iload_n hx hb dJ7_copyOf_9075b_24 rfl (lv_at hl 2 rfl) ?_
    refine x_clp (x_runS (As := [.int x4, .int p1]) (rest := [.int 0, .ref q9, .int 0, .ref v]) S (c_J9_min_7cf53 l E K F G H x4 p1) ms_J9_min_7cf53 km_J7_304 rfl rfl ⟨Nat.le_of_ble_eq_true rfl, Nat.le_of_ble_eq_true rfl⟩ hK (fun _ => XPh.blind) (fun U hU hW => XPh.at hK hz hS hT.cl hU hW) rfl hl.1 (Nat.le_of_ble_eq_true rfl) dJ7_copyOf_9075b_25 ⟨Nat.le_of_ble_eq_true rfl, Nat.le_of_ble_eq_true rfl⟩) hS ?_
    rintro _ _ locs ⟨x6, rfl, t7⟩ hS
    have t7 : (x4.toInt ≤ p1.toInt ∧ x6.toInt = x4.toInt) ∨ (p1.toInt < x4.toInt ∧ x6.toInt = p1.toInt) := t7
    refine sc_copy S hK hT hS kac km_J7_150 (z_J7_copyOf_9075b_1 p1.toInt x4.toInt x6.toInt n p1.toInt.toNat e8 t5 t7) hl.1 (Nat.le_of_ble_eq_true rfl) (Nat.le_of_ble_eq_true rfl) dJ7_copyOf_9075b_28 (fun H locs hT hS => ?_)
    refine lv_aload_n hx hb dJ7_copyOf_9075b_31 rfl (lv_at hl 0 rfl) ?_
    exact x_ra hx hb hr (by first | exact Or.inl ⟨_, rfl⟩ | exact Or.inr ⟨_, rfl⟩) (by first | exact Or.inl rfl | exact Or.inr ⟨_, rfl⟩) hlk hQ (Nat.le_of_ble_eq_true rfl) (Nat.le_of_ble_eq_true rfl) hS dJ7_copyOf_9075b_32 q9 rfl hT
  · exact absurd ((z_J7_copyOf_9075b_2 p1.toInt x1.toInt n e1 t2 c3)).1 (by decide)

theorem z_J5_ensureCapacityInternal_d00df_1 (a0 : Int) (a1 : Int) (a2 : Int) (a3 : Nat) (h0 : 0 ≤ a0 ∧ a0 ≤ 48) (h1 : a1 = ((a3 : Nat) : Int)) (h2 : a2 = a0 - a1 ∨ a0 - a1 < -2147483648 ∨ 2147483648 ≤ a0 - a1) (h3 : a2 ≤ 0) : a0 ≤ ((a3 : Nat) : Int) ∧ ((a3 : Nat) : Int) ≤ ((a3 : Nat) : Int) := by omega
theorem z_J5_ensureCapacityInternal_d00df_2 (a0 : Int) (a1 : Int) (a2 : Int) (a3 : Int) (a4 : Nat) (h0 : 0 ≤ a0 ∧ a0 ≤ ((a4 : Nat) : Int) ∧ ((a4 : Nat) : Int) ≤ 100) (h1 : 0 ≤ a1 ∧ a1 ≤ 48) (h2 : a2 = ((a4 : Nat) : Int)) (h3 : a3 = a1 - a2 ∨ a1 - a2 < -2147483648 ∨ 2147483648 ≤ a1 - a2) (h4 : ¬ (a3 ≤ 0)) : ((a4 : Nat) : Int) < a1 ∧ a1 ≤ 48 := by omega
theorem z_J5_ensureCapacityInternal_d00df_3 (a0 : Int) (a1 : Int) (a2 : Int) (a3 : Int) (a4 : Int) (a5 : Nat) (h0 : 0 ≤ a0 ∧ a0 ≤ ((a5 : Nat) : Int) ∧ ((a5 : Nat) : Int) ≤ 100) (h1 : 0 ≤ a1 ∧ a1 ≤ 48) (h2 : a2 = ((a5 : Nat) : Int)) (h3 : a3 = a1 - a2 ∨ a1 - a2 < -2147483648 ∨ 2147483648 ≤ a1 - a2) (h4 : ¬ (a3 ≤ 0)) (h5 : a1 ≤ a4 ∧ a4 ≤ 100) : ((a5 : Nat) : Int) < a4 ∧ a4 ≤ 100 := by omega
theorem z_J5_ensureCapacityInternal_d00df_5 (a0 : Int) (a1 : Int) (a2 : Int) (a3 : Int) (a4 : Int) (a5 : Nat) (a6 : Nat) (h0 : 0 ≤ a0 ∧ a0 ≤ ((a5 : Nat) : Int) ∧ ((a5 : Nat) : Int) ≤ 100) (h1 : 0 ≤ a1 ∧ a1 ≤ 48) (h2 : a2 = ((a5 : Nat) : Int)) (h3 : a3 = a1 - a2 ∨ a1 - a2 < -2147483648 ∨ 2147483648 ≤ a1 - a2) (h4 : ¬ (a3 ≤ 0)) (h5 : a1 ≤ a4 ∧ a4 ≤ 100) (h6 : ((a6 : Nat) : Int) = a4) : a1 ≤ ((a6 : Nat) : Int) ∧ ((a5 : Nat) : Int) ≤ ((a6 : Nat) : Int) := by omega
abbrev rm_J5_ensureCapacityInternal_d00df : Room := { frames := 3, cells := 1, slots := 100, locals := 82 }
set_option maxHeartbeats 4000000 in
set_option maxRecDepth 100000 in
theorem c_J5_ensureCapacityInternal_d00df (l : Launch) (E : XE) (K : Nat → Nat) (F : Nat → Nat → Nat) (G : XG) (v n : Nat) (cnt : Int32) (p0 : Int32) (e1 : 0 ≤ p0.toInt ∧ p0.toInt ≤ 48) : Met l yJ5_ensureCapacityInternal_d00df (xw yJ5_ensureCapacityInternal_d00df cJ5_ensureCapacityInternal_d00df 3 none) rm_J5_ensureCapacityInternal_d00df (va_Pc [.ref E.2.2.2.1, .int p0] (XPb E K F G v n cnt)) (XQv E (fun (u : Nat × Nat) => p0.toInt ≤ ((u.2 : Nat) : Int) ∧ ((n : Nat) : Int) ≤ ((u.2 : Nat) : Int)) (fun u H => TWb E K F G u.1 u.2 cnt H)) 1 100 (xA E) := by
  refine x_enter (by decide) (Nat.le_of_ble_eq_true rfl) ?_
  intro p e s m args below meth c Q S hr hlk hnm hQ hP ls hl
  obtain ⟨hz, hK, hT⟩ := hP
  obtain ⟨hx, hb, -, -, -⟩ := id S
  obtain ⟨H, hT, hS, hgo⟩ : ∃ H : Heap, TWb E K F G v n cnt H ∧ va_S (xA E) s.heap H [] ∧ H = s.heap := ⟨_, hT, va_S.rf, rfl⟩
  rw [← hgo]
  have hl : lv_has ls 3 [(0, .ref E.2.2.2.1), (1, .int p0)] := hl
  have e9 := hT.inv
  refine lv_aload_n hx hb dJ5_ensureCapacityInternal_d00df_0 rfl (lv_at hl 0 rfl) ?_
  refine sbg_value S hK hT kf_J5_15 dJ5_ensureCapacityInternal_d00df_1 ?_
  refine sb_len S hK hT dJ5_ensureCapacityInternal_d00df_4 (fun x1 t2 => ?_)
  refine lv_aload_n hx hb dJ5_ensureCapacityInternal_d00df_5 rfl (lv_at hl 0 rfl) ?_
  refine sbg_coder S hK hT kf_J5_22 dJ5_ensureCapacityInternal_d00df_6 ?_
  refine lv_ishr hx hb dJ5_ensureCapacityInternal_d00df_9 ?_
  rw [sb_shr0]
  refine lv_istore_n (lv' := [(2, .int x1), (0, .ref E.2.2.2.1), (1, .int p0)]) hx hb dJ5_ensureCapacityInternal_d00df_10 rfl hl (by decide) rfl (fun ls hl => ?_)
  refine lv_iload_n hx hb dJ5_ensureCapacityInternal_d00df_11 rfl (lv_at hl 2 rfl) ?_
  refine lv_iload_n hx hb dJ5_ensureCapacityInternal_d00df_12 rfl (lv_at hl 0 rfl) ?_
  refine xi_isub hx hb (rfl : Int32.toInt p0 = p0.toInt) (rfl : Int32.toInt x1 = x1.toInt) dJ5_ensureCapacityInternal_d00df_13 (fun x3 t4 => ?_)
  refine xi_zle (tgt := 38) hx hb (rfl : Int32.toInt x3 = x3.toInt) dJ5_ensureCapacityInternal_d00df_14 (by decide) (fun c5 => ?_) (fun c5 => ?_)
  · exact x_rv hx hb hr hlk hQ (Nat.le_of_ble_eq_true rfl) (Nat.le_of_ble_eq_true rfl) hS dJ5_ensureCapacityInternal_d00df_38 (v, n) (z_J5_ensureCapacityInternal_d00df_1 p0.toInt x1.toInt x3.toInt n e1 t2 t4 c5) hT
  · refine lv_aload_n hx hb dJ5_ensureCapacityInternal_d00df_17 rfl (lv_at hl 1 rfl) ?_
    refine lv_aload_n hx hb dJ5_ensureCapacityInternal_d00df_18 rfl (lv_at hl 1 rfl) ?_
    refine sbg_value S hK hT kf_J5_15 dJ5_ensureCapacityInternal_d00df_19 ?_
    refine lv_aload_n hx hb dJ5_ensureCapacityInternal_d00df_22 rfl (lv_at hl 1 rfl) ?_
    refine lv_iload_n hx hb dJ5_ensureCapacityInternal_d00df_23 rfl (lv_at hl 2 rfl) ?_
    refine x_clp (x_runV (b := E.2.2.2.1) (As := [.int p0]) (rest := [.ref v, .ref E.2.2.2.1]) S (c_J5_newCapacity_0f7a4 l E K F G v n cnt H p0 (z_J5_ensureCapacityInternal_d00df_2 cnt.toInt p0.toInt x1.toInt x3.toInt n e9 e1 t2 t4 c5)) mw_J5_newCapacity_0f7a4 km_J5_104 rfl rfl ⟨Nat.le_of_ble_eq_true rfl, Nat.le_of_ble_eq_true rfl⟩ (rc_sb hK hT) hK (fun _ => XPbh.blind) (fun U hU hW => XPbh.at hK hz hS hT hU hW) rfl hl.1 (Nat.le_of_ble_eq_true rfl) dJ5_ensureCapacityInternal_d00df_24 ⟨Nat.le_of_ble_eq_true rfl, Nat.le_of_ble_eq_true rfl⟩) hS ?_
    rintro _ _ locs ⟨x6, rfl, t7⟩ hS
    have t7 : p0.toInt ≤ x6.toInt ∧ x6.toInt ≤ 100 := t7
    refine lv_aload_n hx hb dJ5_ensureCapacityInternal_d00df_27 rfl (lv_at hl 1 rfl) ?_
    refine sbg_coder S hK hT kf_J5_22 dJ5_ensureCapacityInternal_d00df_28 ?_
    refine lv_ishl hx hb dJ5_ensureCapacityInternal_d00df_31 ?_
    rw [sb_shl0]
    refine x_cl (x_runS (As := [.ref v, .int x6]) (rest := [.ref E.2.2.2.1]) S (c_J7_copyOf_9075b l E K F G v n cnt x6 (z_J5_ensureCapacityInternal_d00df_3 cnt.toInt p0.toInt x1.toInt x3.toInt x6.toInt n e9 e1 t2 t4 c5 t7)) ms_J7_copyOf_9075b km_J5_108 rfl rfl ⟨Nat.le_of_ble_eq_true rfl, Nat.le_of_ble_eq_true rfl⟩ hK (fun _ => XPb.blind) (fun U hU hW => XPb.at hK hz hS hT hU hW) rfl hl.1 (Nat.le_of_ble_eq_true rfl) dJ5_ensureCapacityInternal_d00df_32 ⟨Nat.le_of_ble_eq_true rfl, Nat.le_of_ble_eq_true rfl⟩) hS ?_
    rintro _ u9 H locs rfl hT hS
    have e7 : ((x6.toInt.toNat : Nat) : Int) = x6.toInt := Int.toNat_of_nonneg (by have := (z_J5_ensureCapacityInternal_d00df_3 cnt.toInt p0.toInt x1.toInt x3.toInt x6.toInt n e9 e1 t2 t4 c5 t7); omega)
    refine sbp_value S hK hT hS kf_J5_15 (by have := (z_J5_ensureCapacityInternal_d00df_3 cnt.toInt p0.toInt x1.toInt x3.toInt x6.toInt n e9 e1 t2 t4 c5 t7); omega) dJ5_ensureCapacityInternal_d00df_35 (fun H locs hT hS => ?_)
    exact x_rv hx hb hr hlk hQ (Nat.le_of_ble_eq_true rfl) (Nat.le_of_ble_eq_true rfl) hS dJ5_ensureCapacityInternal_d00df_38 (u9, x6.toInt.toNat) (z_J5_ensureCapacityInternal_d00df_5 cnt.toInt p0.toInt x1.toInt x3.toInt x6.toInt n x6.toInt.toNat e9 e1 t2 t4 c5 t7 e7) hT
section
section XSE
variable {p : Program} {l : Launch} {e : Env} {R : Room} {s : State} {m : MethodId} {args : Array Value} {below : List Frame} {meth : Method} {c : Code} {H : Heap} {locs : List Loc} {cells slots : Nat} {Q : State → Prop}
variable {pc : Nat} {ls : Array Slot} {rest : List Value} {cc : ByteArray} {nL : Nat} {X Y : Int}
theorem xi_idivn (hx : p.tables.exec = Jvm.exec) (hb : c.code = cc) {x y : Int32} (hX : x.toInt = X) (hY : y.toInt = Y) (hpos : 0 < y.toInt) (hdg : decode cc pc = .ok (.idiv, 1)) (kk : ∀ z : Int32, (X ≤ 0 → z.toInt = -((-X) / Y)) → W p l e R s m args below meth c H locs cells slots Q (F0 m (pc + 1) ls (.int z :: rest))) : W p l e R s m args below meth c H locs cells slots Q (F0 m pc ls (.int y :: .int x :: rest)) :=
  lv_idiv hx hb hdg (fun q => by rw [q] at hpos; exact absurd hpos (by decide)) (kk _ (fun h0 => by subst hX hY; exact xdivn x y h0 hpos))
end XSE
theorem xlen_le {i : Nat} (h : i < 13) : ((xlen.getD i 0 : Nat) : Int) ≤ 29 := by
  have : ∀ j, j < 13 → xlen.getD j 0 ≤ 29 := by decide
  have := this i h
  omega

theorem z_J6_getChars_ba4f3_1 (a0 : Int) (a1 : Int) (a2 : Int) (a3 : Int) (h0 : (a1 = 0 ∨ a1 = 1) ∧ a3 ≤ 0 ∧ a1 + 1 ≤ a0 ∧ a0 ≤ a0) (h1 : (-100 : Int) < a3) (h2 : a2 = -a3 ∨ -a3 < -2147483648 ∨ 2147483648 ≤ -a3) : 0 ≤ a2 ∧ a2 < ((100 : Nat) : Int) := by omega
theorem z_J6_getChars_ba4f3_2 (a0 : Int) (a1 : Int) (a2 : Nat) (h0 : 1 ≤ a0 ∧ a0 ≤ ((a2 : Nat) : Int)) (h1 : a1 = a0 + (-1) ∨ a0 + (-1) < -2147483648 ∨ 2147483648 ≤ a0 + (-1)) (h2 : -2147483648 ≤ a0 ∧ a0 < 2147483648) : 0 ≤ a1 ∧ a1 < ((a2 : Nat) : Int) := by omega
theorem z_J6_getChars_ba4f3_3 (a0 : Int) (a1 : Nat) : a0 = a0 ∧ ((a1 : Nat) : Int) = ((a1 : Nat) : Int) := by omega
theorem z_J6_getChars_ba4f3_4 (a0 : Int) (a1 : Int) (a2 : Int) (a3 : Int) (a4 : Nat) (h0 : 1 ≤ a0 ∧ a0 ≤ ((a4 : Nat) : Int)) (h1 : a1 ≤ a2 ∧ a2 ≤ a0 ∧ (a1 = 0 ∨ a1 = 1)) (h2 : ¬ (a1 = 0)) (h3 : a3 = a2 + (-1) ∨ a2 + (-1) < -2147483648 ∨ 2147483648 ≤ a2 + (-1)) (h4 : -2147483648 ≤ a2 ∧ a2 < 2147483648) : 0 ≤ a3 ∧ a3 < ((a4 : Nat) : Int) := by omega
theorem z_J6_getChars_ba4f3_6 (a0 : Int) (a1 : Int) (a2 : Int) (a3 : Int) (h0 : (a1 = 0 ∨ a1 = 1) ∧ a3 ≤ 0 ∧ a1 + 1 ≤ a0 ∧ a0 ≤ a0) (h1 : a2 = a0 + (-1) ∨ a0 + (-1) < -2147483648 ∨ 2147483648 ≤ a0 + (-1)) (h2 : -2147483648 ≤ a0 ∧ a0 < 2147483648) : a1 ≤ a2 ∧ a2 ≤ a0 ∧ (a1 = 0 ∨ a1 = 1) := by omega
theorem z_J6_getChars_ba4f3_7 (a0 : Int) (a1 : Int) (h0 : (-100 : Int) < a0) (h1 : ¬ ((-9 : Int) ≤ a0)) (h2 : a1 = -a0 ∨ -a0 < -2147483648 ∨ 2147483648 ≤ -a0) : 0 ≤ a1 ∧ a1 < ((100 : Nat) : Int) := by omega
theorem z_J6_getChars_ba4f3_8 (a0 : Int) (a1 : Int) (a2 : Int) (a3 : Int) (a4 : Int) (a5 : Int) (a6 : Nat) (h0 : 1 ≤ a1 ∧ a1 ≤ ((a6 : Nat) : Int)) (h1 : (a0 < 0 ∧ a2 = 1) ∨ (0 ≤ a0 ∧ a2 = 0)) (h2 : (a4 ≤ -10 → a2 + 2 ≤ a1)) (h3 : a3 = a1 + (-1) ∨ a1 + (-1) < -2147483648 ∨ 2147483648 ≤ a1 + (-1)) (h4 : ¬ ((-9 : Int) ≤ a4)) (h5 : a5 = a3 + (-1) ∨ a3 + (-1) < -2147483648 ∨ 2147483648 ≤ a3 + (-1)) (h6 : -2147483648 ≤ a1 ∧ a1 < 2147483648) : 0 ≤ a5 ∧ a5 < ((a6 : Nat) : Int) := by omega
theorem z_J6_getChars_ba4f3_9 (a0 : Int) (a1 : Int) (a2 : Int) (a3 : Int) (a4 : Int) (a5 : Int) (h0 : (a0 < 0 ∧ a2 = 1) ∨ (0 ≤ a0 ∧ a2 = 0)) (h1 : (a4 ≤ -10 → a2 + 2 ≤ a1)) (h2 : a3 = a1 + (-1) ∨ a1 + (-1) < -2147483648 ∨ 2147483648 ≤ a1 + (-1)) (h3 : ¬ ((-9 : Int) ≤ a4)) (h4 : a5 = a3 + (-1) ∨ a3 + (-1) < -2147483648 ∨ 2147483648 ≤ a3 + (-1)) (h5 : -2147483648 ≤ a1 ∧ a1 < 2147483648) : a2 ≤ a5 ∧ a5 ≤ a1 ∧ (a2 = 0 ∨ a2 = 1) := by omega
theorem z_J6_getChars_ba4f3_10 (a0 : Int) (a1 : Int) (a2 : Int) (a3 : Int) (h0 : ¬ ((-100 : Int) < a0)) (h1 : a0 ≤ 0 → a1 = -((-a0) / (100 : Int))) (h2 : a2 = a1 * (100 : Int) ∨ a1 * (100 : Int) < -2147483648 ∨ 2147483648 ≤ a1 * (100 : Int)) (h3 : a3 = a2 - a0 ∨ a2 - a0 < -2147483648 ∨ 2147483648 ≤ a2 - a0) (h4 : -2147483648 ≤ a0 ∧ a0 < 2147483648) : 0 ≤ a3 ∧ a3 < ((100 : Nat) : Int) := by omega
theorem z_J6_getChars_ba4f3_13 (a0 : Int) (a1 : Int) (a2 : Int) (a3 : Int) (a4 : Int) (a5 : Int) (a6 : Nat) (h0 : 1 ≤ a1 ∧ a1 ≤ ((a6 : Nat) : Int)) (h1 : (a0 < 0 ∧ a2 = 1) ∨ (0 ≤ a0 ∧ a2 = 0)) (h2 : (a3 ≤ -100 → a2 + 3 ≤ a1)) (h3 : ¬ ((-100 : Int) < a3)) (h4 : a4 = a1 + (-1) ∨ a1 + (-1) < -2147483648 ∨ 2147483648 ≤ a1 + (-1)) (h5 : a5 = a4 + (-1) ∨ a4 + (-1) < -2147483648 ∨ 2147483648 ≤ a4 + (-1)) (h6 : -2147483648 ≤ a1 ∧ a1 < 2147483648) : 0 ≤ a5 ∧ a5 < ((a6 : Nat) : Int) := by omega
theorem z_J6_getChars_ba4f3_14 (a0 : Int) (a1 : Int) (a2 : Int) (a3 : Int) (h0 : (a1 = 0 ∨ a1 = 1) ∧ a2 ≤ 0 ∧ a1 + 1 ≤ a3 ∧ a3 ≤ a0) : ¬ (-a2 < ((0 : Nat) : Int)) := by omega
theorem z_J6_getChars_ba4f3_15 (a0 : Int) (a1 : Int) (a2 : Int) (a3 : Int) (a4 : Int) (h0 : (a1 = 0 ∨ a1 = 1) ∧ a2 ≤ 0 ∧ a1 + 1 ≤ a3 ∧ a3 ≤ a0) (h1 : (-100 : Int) < a2) (h2 : a4 = -a2 ∨ -a2 < -2147483648 ∨ 2147483648 ≤ -a2) : 0 ≤ a4 ∧ a4 < ((100 : Nat) : Int) := by omega
theorem z_J6_getChars_ba4f3_16 (a0 : Int) (a1 : Int) (a2 : Int) (a3 : Int) (a4 : Int) (a5 : Nat) (h0 : 1 ≤ a0 ∧ a0 ≤ ((a5 : Nat) : Int)) (h1 : (a1 = 0 ∨ a1 = 1) ∧ a2 ≤ 0 ∧ a1 + 1 ≤ a3 ∧ a3 ≤ a0) (h2 : a4 = a3 + (-1) ∨ a3 + (-1) < -2147483648 ∨ 2147483648 ≤ a3 + (-1)) (h3 : -2147483648 ≤ a3 ∧ a3 < 2147483648) : 0 ≤ a4 ∧ a4 < ((a5 : Nat) : Int) := by omega
theorem z_J6_getChars_ba4f3_20 (a0 : Int) (a1 : Int) (a2 : Int) (a3 : Int) (a4 : Int) (h0 : (a1 = 0 ∨ a1 = 1) ∧ a2 ≤ 0 ∧ a1 + 1 ≤ a3 ∧ a3 ≤ a0) (h1 : a4 = a3 + (-1) ∨ a3 + (-1) < -2147483648 ∨ 2147483648 ≤ a3 + (-1)) (h2 : -2147483648 ≤ a3 ∧ a3 < 2147483648) : a1 ≤ a4 ∧ a4 ≤ a0 ∧ (a1 = 0 ∨ a1 = 1) := by omega
theorem z_J6_getChars_ba4f3_22 (a0 : Int) (a1 : Int) (a2 : Int) (a3 : Int) (a4 : Int) (a5 : Int) (a6 : Nat) (h0 : 1 ≤ a0 ∧ a0 ≤ ((a6 : Nat) : Int)) (h1 : (a1 = 0 ∨ a1 = 1) ∧ a2 ≤ 0 ∧ a1 + 1 ≤ a3 ∧ a3 ≤ a0) (h2 : (a2 ≤ -10 → a1 + 2 ≤ a3)) (h3 : a4 = a3 + (-1) ∨ a3 + (-1) < -2147483648 ∨ 2147483648 ≤ a3 + (-1)) (h4 : ¬ ((-9 : Int) ≤ a2)) (h5 : a5 = a4 + (-1) ∨ a4 + (-1) < -2147483648 ∨ 2147483648 ≤ a4 + (-1)) (h6 : -2147483648 ≤ a3 ∧ a3 < 2147483648) : 0 ≤ a5 ∧ a5 < ((a6 : Nat) : Int) := by omega
theorem z_J6_getChars_ba4f3_23 (a0 : Int) (a1 : Int) (a2 : Int) (a3 : Int) (a4 : Int) (a5 : Int) (h0 : (a1 = 0 ∨ a1 = 1) ∧ a2 ≤ 0 ∧ a1 + 1 ≤ a3 ∧ a3 ≤ a0) (h1 : (a2 ≤ -10 → a1 + 2 ≤ a3)) (h2 : a4 = a3 + (-1) ∨ a3 + (-1) < -2147483648 ∨ 2147483648 ≤ a3 + (-1)) (h3 : ¬ ((-9 : Int) ≤ a2)) (h4 : a5 = a4 + (-1) ∨ a4 + (-1) < -2147483648 ∨ 2147483648 ≤ a4 + (-1)) (h5 : -2147483648 ≤ a3 ∧ a3 < 2147483648) : a1 ≤ a5 ∧ a5 ≤ a0 ∧ (a1 = 0 ∨ a1 = 1) := by omega
theorem z_J6_getChars_ba4f3_24 (a0 : Int) (a1 : Int) (a2 : Int) (a3 : Int) (h0 : ¬ ((-100 : Int) < a2)) (h1 : a2 ≤ 0 → a3 = -((-a2) / (100 : Int))) (h2 : a0 = a3 * (100 : Int) ∨ a3 * (100 : Int) < -2147483648 ∨ 2147483648 ≤ a3 * (100 : Int)) (h3 : a1 = a0 - a2 ∨ a0 - a2 < -2147483648 ∨ 2147483648 ≤ a0 - a2) (h4 : -2147483648 ≤ a2 ∧ a2 < 2147483648) : 0 ≤ a1 ∧ a1 < ((100 : Nat) : Int) := by omega
theorem z_J6_getChars_ba4f3_25 (a0 : Int) (a1 : Int) (a2 : Int) (a3 : Int) (a4 : Int) (a5 : Nat) (h0 : 1 ≤ a0 ∧ a0 ≤ ((a5 : Nat) : Int)) (h1 : (a1 = 0 ∨ a1 = 1) ∧ a3 ≤ 0 ∧ a1 + 1 ≤ a4 ∧ a4 ≤ a0) (h2 : a2 = a4 + (-1) ∨ a4 + (-1) < -2147483648 ∨ 2147483648 ≤ a4 + (-1)) (h3 : -2147483648 ≤ a4 ∧ a4 < 2147483648) : 0 ≤ a2 ∧ a2 < ((a5 : Nat) : Int) := by omega
theorem z_J6_getChars_ba4f3_27 (a0 : Int) (a1 : Int) (a2 : Int) (a3 : Int) (a4 : Int) (a5 : Int) (a6 : Nat) (h0 : 1 ≤ a0 ∧ a0 ≤ ((a6 : Nat) : Int)) (h1 : (a1 = 0 ∨ a1 = 1) ∧ a4 ≤ 0 ∧ a1 + 1 ≤ a5 ∧ a5 ≤ a0) (h2 : (a4 ≤ -100 → a1 + 3 ≤ a5)) (h3 : ¬ ((-100 : Int) < a4)) (h4 : a2 = a5 + (-1) ∨ a5 + (-1) < -2147483648 ∨ 2147483648 ≤ a5 + (-1)) (h5 : a3 = a2 + (-1) ∨ a2 + (-1) < -2147483648 ∨ 2147483648 ≤ a2 + (-1)) (h6 : -2147483648 ≤ a5 ∧ a5 < 2147483648) : 0 ≤ a3 ∧ a3 < ((a6 : Nat) : Int) := by omega
theorem z_J6_getChars_ba4f3_28 (a0 : Int) (a1 : Int) (a2 : Int) (a3 : Int) (a4 : Int) (a5 : Int) (a6 : Int) (h0 : (a1 = 0 ∨ a1 = 1) ∧ a4 ≤ 0 ∧ a1 + 1 ≤ a5 ∧ a5 ≤ a0) (h1 : (a4 ≤ -100 → a1 + 3 ≤ a5)) (h2 : ¬ ((-100 : Int) < a4)) (h3 : a4 ≤ 0 → a6 = -((-a4) / (100 : Int))) (h4 : a2 = a5 + (-1) ∨ a5 + (-1) < -2147483648 ∨ 2147483648 ≤ a5 + (-1)) (h5 : a3 = a2 + (-1) ∨ a2 + (-1) < -2147483648 ∨ 2147483648 ≤ a2 + (-1)) (h6 : -2147483648 ≤ a5 ∧ a5 < 2147483648) : (a1 = 0 ∨ a1 = 1) ∧ a6 ≤ 0 ∧ a1 + 1 ≤ a3 ∧ a3 ≤ a0 := by omega
theorem z_J6_getChars_ba4f3_29 (a0 : Int) (a1 : Int) (a2 : Int) (a3 : Int) (a4 : Int) (a5 : Int) (h0 : (a3 ≤ -1000 → a0 + 4 ≤ a4)) (h1 : ¬ ((-100 : Int) < a3)) (h2 : a3 ≤ 0 → a5 = -((-a3) / (100 : Int))) (h3 : a1 = a4 + (-1) ∨ a4 + (-1) < -2147483648 ∨ 2147483648 ≤ a4 + (-1)) (h4 : a2 = a1 + (-1) ∨ a1 + (-1) < -2147483648 ∨ 2147483648 ≤ a1 + (-1)) (h5 : -2147483648 ≤ a0 ∧ a0 < 2147483648) (h6 : -2147483648 ≤ a4 ∧ a4 < 2147483648) : (a5 ≤ -10 → a0 + 2 ≤ a2) := by omega
theorem z_J6_getChars_ba4f3_30 (a0 : Int) (a1 : Int) (a2 : Int) (a3 : Int) (a4 : Int) (a5 : Int) (h0 : (a3 ≤ -10000 → a0 + 5 ≤ a4)) (h1 : ¬ ((-100 : Int) < a3)) (h2 : a3 ≤ 0 → a5 = -((-a3) / (100 : Int))) (h3 : a1 = a4 + (-1) ∨ a4 + (-1) < -2147483648 ∨ 2147483648 ≤ a4 + (-1)) (h4 : a2 = a1 + (-1) ∨ a1 + (-1) < -2147483648 ∨ 2147483648 ≤ a1 + (-1)) (h5 : -2147483648 ≤ a0 ∧ a0 < 2147483648) (h6 : -2147483648 ≤ a4 ∧ a4 < 2147483648) : (a5 ≤ -100 → a0 + 3 ≤ a2) := by omega
theorem z_J6_getChars_ba4f3_31 (a0 : Int) (a1 : Int) (a2 : Int) (a3 : Int) (a4 : Int) (a5 : Int) (h0 : (a3 ≤ -100000 → a0 + 6 ≤ a4)) (h1 : ¬ ((-100 : Int) < a3)) (h2 : a3 ≤ 0 → a5 = -((-a3) / (100 : Int))) (h3 : a1 = a4 + (-1) ∨ a4 + (-1) < -2147483648 ∨ 2147483648 ≤ a4 + (-1)) (h4 : a2 = a1 + (-1) ∨ a1 + (-1) < -2147483648 ∨ 2147483648 ≤ a1 + (-1)) (h5 : -2147483648 ≤ a0 ∧ a0 < 2147483648) (h6 : -2147483648 ≤ a4 ∧ a4 < 2147483648) : (a5 ≤ -1000 → a0 + 4 ≤ a2) := by omega
theorem z_J6_getChars_ba4f3_32 (a0 : Int) (a1 : Int) (a2 : Int) (a3 : Int) (a4 : Int) (a5 : Int) (h0 : (a3 ≤ -1000000 → a0 + 7 ≤ a4)) (h1 : ¬ ((-100 : Int) < a3)) (h2 : a3 ≤ 0 → a5 = -((-a3) / (100 : Int))) (h3 : a1 = a4 + (-1) ∨ a4 + (-1) < -2147483648 ∨ 2147483648 ≤ a4 + (-1)) (h4 : a2 = a1 + (-1) ∨ a1 + (-1) < -2147483648 ∨ 2147483648 ≤ a1 + (-1)) (h5 : -2147483648 ≤ a0 ∧ a0 < 2147483648) (h6 : -2147483648 ≤ a4 ∧ a4 < 2147483648) : (a5 ≤ -10000 → a0 + 5 ≤ a2) := by omega
theorem z_J6_getChars_ba4f3_33 (a0 : Int) (a1 : Int) (a2 : Int) (a3 : Int) (a4 : Int) (a5 : Int) (h0 : (a3 ≤ -10000000 → a0 + 8 ≤ a4)) (h1 : ¬ ((-100 : Int) < a3)) (h2 : a3 ≤ 0 → a5 = -((-a3) / (100 : Int))) (h3 : a1 = a4 + (-1) ∨ a4 + (-1) < -2147483648 ∨ 2147483648 ≤ a4 + (-1)) (h4 : a2 = a1 + (-1) ∨ a1 + (-1) < -2147483648 ∨ 2147483648 ≤ a1 + (-1)) (h5 : -2147483648 ≤ a0 ∧ a0 < 2147483648) (h6 : -2147483648 ≤ a4 ∧ a4 < 2147483648) : (a5 ≤ -100000 → a0 + 6 ≤ a2) := by omega
theorem z_J6_getChars_ba4f3_34 (a0 : Int) (a1 : Int) (a2 : Int) (a3 : Int) (a4 : Int) (a5 : Int) (h0 : (a3 ≤ -100000000 → a0 + 9 ≤ a4)) (h1 : ¬ ((-100 : Int) < a3)) (h2 : a3 ≤ 0 → a5 = -((-a3) / (100 : Int))) (h3 : a1 = a4 + (-1) ∨ a4 + (-1) < -2147483648 ∨ 2147483648 ≤ a4 + (-1)) (h4 : a2 = a1 + (-1) ∨ a1 + (-1) < -2147483648 ∨ 2147483648 ≤ a1 + (-1)) (h5 : -2147483648 ≤ a0 ∧ a0 < 2147483648) (h6 : -2147483648 ≤ a4 ∧ a4 < 2147483648) : (a5 ≤ -1000000 → a0 + 7 ≤ a2) := by omega
theorem z_J6_getChars_ba4f3_35 (a0 : Int) (a1 : Int) (a2 : Int) (a3 : Int) (a4 : Int) (a5 : Int) (h0 : (a3 ≤ -1000000000 → a0 + 10 ≤ a4)) (h1 : ¬ ((-100 : Int) < a3)) (h2 : a3 ≤ 0 → a5 = -((-a3) / (100 : Int))) (h3 : a1 = a4 + (-1) ∨ a4 + (-1) < -2147483648 ∨ 2147483648 ≤ a4 + (-1)) (h4 : a2 = a1 + (-1) ∨ a1 + (-1) < -2147483648 ∨ 2147483648 ≤ a1 + (-1)) (h5 : -2147483648 ≤ a0 ∧ a0 < 2147483648) (h6 : -2147483648 ≤ a4 ∧ a4 < 2147483648) : (a5 ≤ -10000000 → a0 + 8 ≤ a2) := by omega
theorem z_J6_getChars_ba4f3_36 (a0 : Int) (a1 : Int) (a2 : Int) (a3 : Int) (h0 : ¬ ((-100 : Int) < a2)) (h1 : a2 ≤ 0 → a3 = -((-a2) / (100 : Int))) (h2 : -2147483648 ≤ a2 ∧ a2 < 2147483648) : (a3 ≤ -100000000 → a0 + 9 ≤ a1) := by omega
theorem z_J6_getChars_ba4f3_37 (a0 : Int) (a1 : Int) (a2 : Int) (a3 : Int) (h0 : ¬ ((-100 : Int) < a2)) (h1 : a2 ≤ 0 → a3 = -((-a2) / (100 : Int))) (h2 : -2147483648 ≤ a2 ∧ a2 < 2147483648) : (a3 ≤ -1000000000 → a0 + 10 ≤ a1) := by omega
theorem z_J6_getChars_ba4f3_38 (a0 : Int) (a1 : Int) (a2 : Nat) (h0 : -a0 < ((a2 + 1 : Nat) : Int)) (h1 : ¬ ((-100 : Int) < a0)) (h2 : a0 ≤ 0 → a1 = -((-a0) / (100 : Int))) : -a1 < ((a2 : Nat) : Int) := by omega
theorem z_J6_getChars_ba4f3_39 (a0 : Int) (a1 : Int) (a2 : Int) (a3 : Int) (a4 : Int) (a5 : Int) (a6 : Int) (h0 : (a0 < 0 ∧ a2 = 1) ∨ (0 ≤ a0 ∧ a2 = 0)) (h1 : (a3 ≤ -100 → a2 + 3 ≤ a1)) (h2 : ¬ ((-100 : Int) < a3)) (h3 : a3 ≤ 0 → a4 = -((-a3) / (100 : Int))) (h4 : a5 = a1 + (-1) ∨ a1 + (-1) < -2147483648 ∨ 2147483648 ≤ a1 + (-1)) (h5 : a6 = a5 + (-1) ∨ a5 + (-1) < -2147483648 ∨ 2147483648 ≤ a5 + (-1)) (h6 : -2147483648 ≤ a1 ∧ a1 < 2147483648) : (a2 = 0 ∨ a2 = 1) ∧ a4 ≤ 0 ∧ a2 + 1 ≤ a6 ∧ a6 ≤ a1 := by omega
theorem z_J6_getChars_ba4f3_40 (a0 : Int) (a1 : Int) (a2 : Int) (a3 : Int) (a4 : Int) (a5 : Int) (a6 : Nat) (h0 : 1 ≤ a0 ∧ a0 ≤ ((a6 : Nat) : Int)) (h1 : (a2 ≤ -1000 → a1 + 4 ≤ a0)) (h2 : ¬ ((-100 : Int) < a2)) (h3 : a2 ≤ 0 → a3 = -((-a2) / (100 : Int))) (h4 : a4 = a0 + (-1) ∨ a0 + (-1) < -2147483648 ∨ 2147483648 ≤ a0 + (-1)) (h5 : a5 = a4 + (-1) ∨ a4 + (-1) < -2147483648 ∨ 2147483648 ≤ a4 + (-1)) (h6 : -2147483648 ≤ a0 ∧ a0 < 2147483648) : (a3 ≤ -10 → a1 + 2 ≤ a5) := by omega
theorem z_J6_getChars_ba4f3_41 (a0 : Int) (a1 : Int) (a2 : Int) (a3 : Int) (a4 : Int) (a5 : Int) (a6 : Nat) (h0 : 1 ≤ a0 ∧ a0 ≤ ((a6 : Nat) : Int)) (h1 : (a2 ≤ -10000 → a1 + 5 ≤ a0)) (h2 : ¬ ((-100 : Int) < a2)) (h3 : a2 ≤ 0 → a3 = -((-a2) / (100 : Int))) (h4 : a4 = a0 + (-1) ∨ a0 + (-1) < -2147483648 ∨ 2147483648 ≤ a0 + (-1)) (h5 : a5 = a4 + (-1) ∨ a4 + (-1) < -2147483648 ∨ 2147483648 ≤ a4 + (-1)) (h6 : -2147483648 ≤ a0 ∧ a0 < 2147483648) : (a3 ≤ -100 → a1 + 3 ≤ a5) := by omega
theorem z_J6_getChars_ba4f3_42 (a0 : Int) (a1 : Int) (a2 : Int) (a3 : Int) (a4 : Int) (a5 : Int) (a6 : Nat) (h0 : 1 ≤ a0 ∧ a0 ≤ ((a6 : Nat) : Int)) (h1 : (a2 ≤ -100000 → a1 + 6 ≤ a0)) (h2 : ¬ ((-100 : Int) < a2)) (h3 : a2 ≤ 0 → a3 = -((-a2) / (100 : Int))) (h4 : a4 = a0 + (-1) ∨ a0 + (-1) < -2147483648 ∨ 2147483648 ≤ a0 + (-1)) (h5 : a5 = a4 + (-1) ∨ a4 + (-1) < -2147483648 ∨ 2147483648 ≤ a4 + (-1)) (h6 : -2147483648 ≤ a0 ∧ a0 < 2147483648) : (a3 ≤ -1000 → a1 + 4 ≤ a5) := by omega
theorem z_J6_getChars_ba4f3_43 (a0 : Int) (a1 : Int) (a2 : Int) (a3 : Int) (a4 : Int) (a5 : Int) (a6 : Nat) (h0 : 1 ≤ a0 ∧ a0 ≤ ((a6 : Nat) : Int)) (h1 : (a2 ≤ -1000000 → a1 + 7 ≤ a0)) (h2 : ¬ ((-100 : Int) < a2)) (h3 : a2 ≤ 0 → a3 = -((-a2) / (100 : Int))) (h4 : a4 = a0 + (-1) ∨ a0 + (-1) < -2147483648 ∨ 2147483648 ≤ a0 + (-1)) (h5 : a5 = a4 + (-1) ∨ a4 + (-1) < -2147483648 ∨ 2147483648 ≤ a4 + (-1)) (h6 : -2147483648 ≤ a0 ∧ a0 < 2147483648) : (a3 ≤ -10000 → a1 + 5 ≤ a5) := by omega
theorem z_J6_getChars_ba4f3_44 (a0 : Int) (a1 : Int) (a2 : Int) (a3 : Int) (a4 : Int) (a5 : Int) (a6 : Nat) (h0 : 1 ≤ a0 ∧ a0 ≤ ((a6 : Nat) : Int)) (h1 : (a2 ≤ -10000000 → a1 + 8 ≤ a0)) (h2 : ¬ ((-100 : Int) < a2)) (h3 : a2 ≤ 0 → a3 = -((-a2) / (100 : Int))) (h4 : a4 = a0 + (-1) ∨ a0 + (-1) < -2147483648 ∨ 2147483648 ≤ a0 + (-1)) (h5 : a5 = a4 + (-1) ∨ a4 + (-1) < -2147483648 ∨ 2147483648 ≤ a4 + (-1)) (h6 : -2147483648 ≤ a0 ∧ a0 < 2147483648) : (a3 ≤ -100000 → a1 + 6 ≤ a5) := by omega
theorem z_J6_getChars_ba4f3_45 (a0 : Int) (a1 : Int) (a2 : Int) (a3 : Int) (a4 : Int) (a5 : Int) (a6 : Nat) (h0 : 1 ≤ a0 ∧ a0 ≤ ((a6 : Nat) : Int)) (h1 : (a2 ≤ -100000000 → a1 + 9 ≤ a0)) (h2 : ¬ ((-100 : Int) < a2)) (h3 : a2 ≤ 0 → a3 = -((-a2) / (100 : Int))) (h4 : a4 = a0 + (-1) ∨ a0 + (-1) < -2147483648 ∨ 2147483648 ≤ a0 + (-1)) (h5 : a5 = a4 + (-1) ∨ a4 + (-1) < -2147483648 ∨ 2147483648 ≤ a4 + (-1)) (h6 : -2147483648 ≤ a0 ∧ a0 < 2147483648) : (a3 ≤ -1000000 → a1 + 7 ≤ a5) := by omega
theorem z_J6_getChars_ba4f3_46 (a0 : Int) (a1 : Int) (a2 : Int) (a3 : Int) (a4 : Int) (a5 : Int) (a6 : Nat) (h0 : 1 ≤ a0 ∧ a0 ≤ ((a6 : Nat) : Int)) (h1 : (a2 ≤ -1000000000 → a1 + 10 ≤ a0)) (h2 : ¬ ((-100 : Int) < a2)) (h3 : a2 ≤ 0 → a3 = -((-a2) / (100 : Int))) (h4 : a4 = a0 + (-1) ∨ a0 + (-1) < -2147483648 ∨ 2147483648 ≤ a0 + (-1)) (h5 : a5 = a4 + (-1) ∨ a4 + (-1) < -2147483648 ∨ 2147483648 ≤ a4 + (-1)) (h6 : -2147483648 ≤ a0 ∧ a0 < 2147483648) : (a3 ≤ -10000000 → a1 + 8 ≤ a5) := by omega
theorem z_J6_getChars_ba4f3_47 (a0 : Int) (a1 : Int) (a2 : Int) (a3 : Int) (h0 : ¬ ((-100 : Int) < a1)) (h1 : a1 ≤ 0 → a2 = -((-a1) / (100 : Int))) (h2 : -2147483648 ≤ a1 ∧ a1 < 2147483648) : (a2 ≤ -100000000 → a0 + 9 ≤ a3) := by omega
theorem z_J6_getChars_ba4f3_48 (a0 : Int) (a1 : Int) (a2 : Int) (a3 : Int) (h0 : ¬ ((-100 : Int) < a1)) (h1 : a1 ≤ 0 → a2 = -((-a1) / (100 : Int))) (h2 : -2147483648 ≤ a1 ∧ a1 < 2147483648) : (a2 ≤ -1000000000 → a0 + 10 ≤ a3) := by omega
theorem z_J6_getChars_ba4f3_49 (a0 : Int) (h0 : -2147483648 ≤ a0 ∧ a0 < 2147483648) : -a0 < ((4294967297 : Nat) : Int) := by omega
theorem z_J6_getChars_ba4f3_50 (a0 : Int) (a1 : Int) (a2 : Int) (h0 : a0 < 0 → 2 ≤ a1) (h1 : (a0 < 0 ∧ a2 = 1) ∨ (0 ≤ a0 ∧ a2 = 0)) (h2 : a2 ≠ 0) : (a2 = 0 ∨ a2 = 1) ∧ a0 ≤ 0 ∧ a2 + 1 ≤ a1 ∧ a1 ≤ a1 := by omega
theorem z_J6_getChars_ba4f3_51 (a0 : Int) (a1 : Int) (a2 : Int) (h0 : (a0 ≤ -10 → 3 ≤ a1) ∧ (10 ≤ a0 → 2 ≤ a1)) (h1 : (a0 < 0 ∧ a2 = 1) ∨ (0 ≤ a0 ∧ a2 = 0)) : (a0 ≤ -10 → a2 + 2 ≤ a1) := by omega
theorem z_J6_getChars_ba4f3_52 (a0 : Int) (a1 : Int) (a2 : Int) (h0 : (a0 ≤ -100 → 4 ≤ a1) ∧ (100 ≤ a0 → 3 ≤ a1)) (h1 : (a0 < 0 ∧ a2 = 1) ∨ (0 ≤ a0 ∧ a2 = 0)) : (a0 ≤ -100 → a2 + 3 ≤ a1) := by omega
theorem z_J6_getChars_ba4f3_53 (a0 : Int) (a1 : Int) (a2 : Int) (h0 : (a0 ≤ -1000 → 5 ≤ a1) ∧ (1000 ≤ a0 → 4 ≤ a1)) (h1 : (a0 < 0 ∧ a2 = 1) ∨ (0 ≤ a0 ∧ a2 = 0)) : (a0 ≤ -1000 → a2 + 4 ≤ a1) := by omega
theorem z_J6_getChars_ba4f3_54 (a0 : Int) (a1 : Int) (a2 : Int) (h0 : (a0 ≤ -10000 → 6 ≤ a1) ∧ (10000 ≤ a0 → 5 ≤ a1)) (h1 : (a0 < 0 ∧ a2 = 1) ∨ (0 ≤ a0 ∧ a2 = 0)) : (a0 ≤ -10000 → a2 + 5 ≤ a1) := by omega
theorem z_J6_getChars_ba4f3_55 (a0 : Int) (a1 : Int) (a2 : Int) (h0 : (a0 ≤ -100000 → 7 ≤ a1) ∧ (100000 ≤ a0 → 6 ≤ a1)) (h1 : (a0 < 0 ∧ a2 = 1) ∨ (0 ≤ a0 ∧ a2 = 0)) : (a0 ≤ -100000 → a2 + 6 ≤ a1) := by omega
theorem z_J6_getChars_ba4f3_56 (a0 : Int) (a1 : Int) (a2 : Int) (h0 : (a0 ≤ -1000000 → 8 ≤ a1) ∧ (1000000 ≤ a0 → 7 ≤ a1)) (h1 : (a0 < 0 ∧ a2 = 1) ∨ (0 ≤ a0 ∧ a2 = 0)) : (a0 ≤ -1000000 → a2 + 7 ≤ a1) := by omega
theorem z_J6_getChars_ba4f3_57 (a0 : Int) (a1 : Int) (a2 : Int) (h0 : (a0 ≤ -10000000 → 9 ≤ a1) ∧ (10000000 ≤ a0 → 8 ≤ a1)) (h1 : (a0 < 0 ∧ a2 = 1) ∨ (0 ≤ a0 ∧ a2 = 0)) : (a0 ≤ -10000000 → a2 + 8 ≤ a1) := by omega
theorem z_J6_getChars_ba4f3_58 (a0 : Int) (a1 : Int) (a2 : Int) (h0 : (a0 ≤ -100000000 → 10 ≤ a1) ∧ (100000000 ≤ a0 → 9 ≤ a1)) (h1 : (a0 < 0 ∧ a2 = 1) ∨ (0 ≤ a0 ∧ a2 = 0)) : (a0 ≤ -100000000 → a2 + 9 ≤ a1) := by omega
theorem z_J6_getChars_ba4f3_59 (a0 : Int) (a1 : Int) (a2 : Int) (h0 : (a0 ≤ -1000000000 → 11 ≤ a1) ∧ (1000000000 ≤ a0 → 10 ≤ a1)) (h1 : (a0 < 0 ∧ a2 = 1) ∨ (0 ≤ a0 ∧ a2 = 0)) : (a0 ≤ -1000000000 → a2 + 10 ≤ a1) := by omega
theorem z_J6_getChars_ba4f3_60 (a0 : Int) (a1 : Int) (a2 : Int) (a3 : Int) (a4 : Nat) (h0 : 1 ≤ a1 ∧ a1 ≤ ((a4 : Nat) : Int)) (h1 : (a0 < 0 ∧ a2 = 1) ∨ (0 ≤ a0 ∧ a2 = 0)) (h2 : ¬ (a2 ≠ 0)) (h3 : a3 = -a0 ∨ -a0 < -2147483648 ∨ 2147483648 ≤ -a0) (h4 : -2147483648 ≤ a0 ∧ a0 < 2147483648) : (a2 = 0 ∨ a2 = 1) ∧ a3 ≤ 0 ∧ a2 + 1 ≤ a1 ∧ a1 ≤ a1 := by omega
theorem z_J6_getChars_ba4f3_61 (a0 : Int) (a1 : Int) (a2 : Int) (a3 : Int) (h0 : (a0 ≤ -10 → 3 ≤ a1) ∧ (10 ≤ a0 → 2 ≤ a1)) (h1 : ¬ (a2 ≠ 0)) (h2 : a3 = -a0 ∨ -a0 < -2147483648 ∨ 2147483648 ≤ -a0) : (a3 ≤ -10 → a2 + 2 ≤ a1) := by omega
theorem z_J6_getChars_ba4f3_62 (a0 : Int) (a1 : Int) (a2 : Int) (a3 : Int) (h0 : (a0 ≤ -100 → 4 ≤ a1) ∧ (100 ≤ a0 → 3 ≤ a1)) (h1 : ¬ (a2 ≠ 0)) (h2 : a3 = -a0 ∨ -a0 < -2147483648 ∨ 2147483648 ≤ -a0) : (a3 ≤ -100 → a2 + 3 ≤ a1) := by omega
theorem z_J6_getChars_ba4f3_63 (a0 : Int) (a1 : Int) (a2 : Int) (a3 : Int) (h0 : (a0 ≤ -1000 → 5 ≤ a1) ∧ (1000 ≤ a0 → 4 ≤ a1)) (h1 : ¬ (a2 ≠ 0)) (h2 : a3 = -a0 ∨ -a0 < -2147483648 ∨ 2147483648 ≤ -a0) : (a3 ≤ -1000 → a2 + 4 ≤ a1) := by omega
theorem z_J6_getChars_ba4f3_64 (a0 : Int) (a1 : Int) (a2 : Int) (a3 : Int) (h0 : (a0 ≤ -10000 → 6 ≤ a1) ∧ (10000 ≤ a0 → 5 ≤ a1)) (h1 : ¬ (a2 ≠ 0)) (h2 : a3 = -a0 ∨ -a0 < -2147483648 ∨ 2147483648 ≤ -a0) : (a3 ≤ -10000 → a2 + 5 ≤ a1) := by omega
theorem z_J6_getChars_ba4f3_65 (a0 : Int) (a1 : Int) (a2 : Int) (a3 : Int) (h0 : (a0 ≤ -100000 → 7 ≤ a1) ∧ (100000 ≤ a0 → 6 ≤ a1)) (h1 : ¬ (a2 ≠ 0)) (h2 : a3 = -a0 ∨ -a0 < -2147483648 ∨ 2147483648 ≤ -a0) : (a3 ≤ -100000 → a2 + 6 ≤ a1) := by omega
theorem z_J6_getChars_ba4f3_66 (a0 : Int) (a1 : Int) (a2 : Int) (a3 : Int) (h0 : (a0 ≤ -1000000 → 8 ≤ a1) ∧ (1000000 ≤ a0 → 7 ≤ a1)) (h1 : ¬ (a2 ≠ 0)) (h2 : a3 = -a0 ∨ -a0 < -2147483648 ∨ 2147483648 ≤ -a0) : (a3 ≤ -1000000 → a2 + 7 ≤ a1) := by omega
theorem z_J6_getChars_ba4f3_67 (a0 : Int) (a1 : Int) (a2 : Int) (a3 : Int) (h0 : (a0 ≤ -10000000 → 9 ≤ a1) ∧ (10000000 ≤ a0 → 8 ≤ a1)) (h1 : ¬ (a2 ≠ 0)) (h2 : a3 = -a0 ∨ -a0 < -2147483648 ∨ 2147483648 ≤ -a0) : (a3 ≤ -10000000 → a2 + 8 ≤ a1) := by omega
theorem z_J6_getChars_ba4f3_68 (a0 : Int) (a1 : Int) (a2 : Int) (a3 : Int) (h0 : (a0 ≤ -100000000 → 10 ≤ a1) ∧ (100000000 ≤ a0 → 9 ≤ a1)) (h1 : ¬ (a2 ≠ 0)) (h2 : a3 = -a0 ∨ -a0 < -2147483648 ∨ 2147483648 ≤ -a0) : (a3 ≤ -100000000 → a2 + 9 ≤ a1) := by omega
theorem z_J6_getChars_ba4f3_69 (a0 : Int) (a1 : Int) (a2 : Int) (a3 : Int) (h0 : (a0 ≤ -1000000000 → 11 ≤ a1) ∧ (1000000000 ≤ a0 → 10 ≤ a1)) (h1 : ¬ (a2 ≠ 0)) (h2 : a3 = -a0 ∨ -a0 < -2147483648 ∨ 2147483648 ≤ -a0) : (a3 ≤ -1000000000 → a2 + 10 ≤ a1) := by omega
theorem z_J6_getChars_ba4f3_70 (a0 : Int) (h0 : 0 ≤ a0) : (a0 < 0 ∧ (0 : Int) = 1) ∨ (0 ≤ a0 ∧ (0 : Int) = 0) := by omega
theorem z_J6_getChars_ba4f3_71 (a0 : Int) (h0 : ¬ (0 ≤ a0)) : (a0 < 0 ∧ (1 : Int) = 1) ∨ (0 ≤ a0 ∧ (1 : Int) = 0) := by omega
abbrev rm_J6_getChars_ba4f3 : Room := { frames := 0, cells := 0, slots := 0, locals := 0 }
set_option maxHeartbeats 4000000 in
set_option maxRecDepth 100000 in
theorem c_J6_getChars_ba4f3 (l : Launch) (E : XE) (K : Nat → Nat) (F : Nat → Nat → Nat) (G : XG) (v n : Nat) (cnt : Int32) (p0 : Int32) (p1 : Int32) (e1 : 1 ≤ p1.toInt ∧ p1.toInt ≤ (((n) : Nat) : Int)) (e2 : p0.toInt < 0 → 2 ≤ p1.toInt) (pg1 : (p0.toInt ≤ -10 → 3 ≤ p1.toInt) ∧ (10 ≤ p0.toInt → 2 ≤ p1.toInt)) (pg2 : (p0.toInt ≤ -100 → 4 ≤ p1.toInt) ∧ (100 ≤ p0.toInt → 3 ≤ p1.toInt)) (pg3 : (p0.toInt ≤ -1000 → 5 ≤ p1.toInt) ∧ (1000 ≤ p0.toInt → 4 ≤ p1.toInt)) (pg4 : (p0.toInt ≤ -10000 → 6 ≤ p1.toInt) ∧ (10000 ≤ p0.toInt → 5 ≤ p1.toInt)) (pg5 : (p0.toInt ≤ -100000 → 7 ≤ p1.toInt) ∧ (100000 ≤ p0.toInt → 6 ≤ p1.toInt)) (pg6 : (p0.toInt ≤ -1000000 → 8 ≤ p1.toInt) ∧ (1000000 ≤ p0.toInt → 7 ≤ p1.toInt)) (pg7 : (p0.toInt ≤ -10000000 → 9 ≤ p1.toInt) ∧ (10000000 ≤ p0.toInt → 8 ≤ p1.toInt)) (pg8 : (p0.toInt ≤ -100000000 → 10 ≤ p1.toInt) ∧ (100000000 ≤ p0.toInt → 9 ≤ p1.toInt)) (pg9 : (p0.toInt ≤ -1000000000 → 11 ≤ p1.toInt) ∧ (1000000000 ≤ p0.toInt → 10 ≤ p1.toInt)) : Met l yJ6_getChars_ba4f3 (xw yJ6_getChars_ba4f3 cJ6_getChars_ba4f3 7 (some .int)) rm_J6_getChars_ba4f3 (va_Pc [.int p0, .int p1, .ref v] (XPb E K F G v n cnt)) (XQ E (fun v (u : Nat × Nat × Int32) => (∃ r : Int32, v = .int r) ∧ u.2.2.toInt = cnt.toInt ∧ ((u.2.1 : Nat) : Int) = ((n : Nat) : Int)) (fun u H => TWb E K F G u.1 u.2.1 u.2.2 H)) 0 0 (xA E) := by
  refine x_enter (by decide) (Nat.le_of_ble_eq_true rfl) ?_
  intro p e s m args below meth c Q S hr hlk hnm hQ hP ls hl
  obtain ⟨hz, hK, hT⟩ := hP
  obtain ⟨hx, hb, -, -, -⟩ := id S
  obtain ⟨H, hT, hS, hgo⟩ : ∃ H : Heap, TWb E K F G v n cnt H ∧ va_S (xA E) s.heap H [] ∧ H = s.heap := ⟨_, hT, va_S.rf, rfl⟩
  rw [← hgo]
  have hl : lv_has ls 7 [(0, .int p0), (1, .int p1), (2, .ref v)] := hl
  have e9 := hT.inv
  refine lv_iload_n hx hb dJ6_getChars_ba4f3_0 rfl (lv_at hl 1 rfl) ?_
  refine lv_istore (lv' := [(5, .int p1), (0, .int p0), (1, .int p1), (2, .ref v)]) hx hb dJ6_getChars_ba4f3_1 hl (by decide) rfl (fun ls hl => ?_)
  refine lv_iload_n hx hb dJ6_getChars_ba4f3_3 rfl (lv_at hl 1 rfl) ?_
  have J12 : ∀ (x1 : Int32) (H : Heap) (locs : List Loc) (ls : Array Slot), (p0.toInt < 0 ∧ x1.toInt = 1) ∨ (0 ≤ p0.toInt ∧ x1.toInt = 0) → TWb E K F G v n cnt H → va_S (xA E) s.heap H locs → lv_has ls 7 [(0, .int p0), (2, .ref v), (5, .int p1)] → W p l e rm_J6_getChars_ba4f3 s m args below meth c H locs 0 0 Q (F0 m 12 ls [.int x1]) := by
    intro x1 H locs ls hf2 hT hS hl
    refine lv_istore (lv' := [(6, .int x1), (0, .int p0), (2, .ref v), (5, .int p1)]) hx hb dJ6_getChars_ba4f3_12 hl (by decide) rfl (fun ls hl => ?_)
    refine lv_iload hx hb dJ6_getChars_ba4f3_14 (lv_at hl 0 rfl) ?_
    have J22 : ∀ (x3 : Int32) (H : Heap) (locs : List Loc) (ls : Array Slot), (x1.toInt = 0 ∨ x1.toInt = 1) ∧ x3.toInt ≤ 0 ∧ x1.toInt + 1 ≤ p1.toInt ∧ p1.toInt ≤ p1.toInt → ((x3.toInt ≤ -10 → x1.toInt + 2 ≤ p1.toInt)) → ((x3.toInt ≤ -100 → x1.toInt + 3 ≤ p1.toInt)) → ((x3.toInt ≤ -1000 → x1.toInt + 4 ≤ p1.toInt)) → ((x3.toInt ≤ -10000 → x1.toInt + 5 ≤ p1.toInt)) → ((x3.toInt ≤ -100000 → x1.toInt + 6 ≤ p1.toInt)) → ((x3.toInt ≤ -1000000 → x1.toInt + 7 ≤ p1.toInt)) → ((x3.toInt ≤ -10000000 → x1.toInt + 8 ≤ p1.toInt)) → ((x3.toInt ≤ -100000000 → x1.toInt + 9 ≤ p1.toInt)) → ((x3.toInt ≤ -1000000000 → x1.toInt + 10 ≤ p1.toInt)) → TWb E K F G v n cnt H → va_S (xA E) s.heap H locs → lv_has ls 7 [(0, .int x3), (2, .ref v), (5, .int p1), (6, .int x1)] → W p l e rm_J6_getChars_ba4f3 s m args below meth c H locs 0 0 Q (F0 m 22 ls []) := by
      intro x3 H locs ls hf4 hf5 hf6 hf7 hf8 hf9 hf10 hf11 hf12 hf13 hT hS hl
      refine lv_iload_n hx hb dJ6_getChars_ba4f3_22 rfl (lv_at hl 0 rfl) ?_
      refine lv_bipush (v := (-100)) hx hb dJ6_getChars_ba4f3_23 (by decide) ?_
      refine xi_cgt (tgt := 72) hx hb (rfl : Int32.toInt x3 = x3.toInt) ((by decide) : Int32.toInt (-100) = (-100 : Int)) dJ6_getChars_ba4f3_25 (by decide) (fun c14 => ?_) (fun c14 => ?_)
      · refine lv_aload_n hx hb dJ6_getChars_ba4f3_72 rfl (lv_at hl 1 rfl) ?_
        refine xi_iinc (n := (-1)) (lv' := fun z9 => [(5, .int z9), (0, .int x3), (2, .ref v), (6, .int x1)]) (k := 2) hx hb (rfl : Int32.toInt p1 = p1.toInt) (by decide) dJ6_getChars_ba4f3_73 hl rfl (by decide) (fun _ => rfl) (fun x15 ls t16 hl => ?_)
        have hl : lv_has ls 7 [(5, .int x15), (0, .int x3), (2, .ref v), (6, .int x1)] := hl
        refine lv_iload hx hb dJ6_getChars_ba4f3_76 (lv_at hl 0 rfl) ?_
        obtain ⟨q17, f18, hz19, hz20⟩ := hK.2.2.2.2.2.2.2.2.2
        refine va_gets hx hb hz19 hS S.2.2.2.1 (S.2.2.2.2 _ (List.mem_cons_of_mem _ kf_J6_83)) (fun _ h => h) dJ6_getChars_ba4f3_78 ?_
        refine lv_iload_n hx hb dJ6_getChars_ba4f3_81 rfl (lv_at hl 1 rfl) ?_
        refine xi_ineg hx hb (rfl : Int32.toInt x3 = x3.toInt) dJ6_getChars_ba4f3_82 (fun x21 t22 => ?_)
        refine va_tb hx hb hz20 hS (vp_in_iff.mpr (z_J6_getChars_ba4f3_1 p1.toInt x1.toInt x21.toInt x3.toInt hf4 c14 t22)) rfl dJ6_getChars_ba4f3_83 (lv_topi (fun x23 _ => ?_))
        refine sb_st S hK hT hS (z_J6_getChars_ba4f3_2 p1.toInt x15.toInt n e1 t16 (xr p1)) dJ6_getChars_ba4f3_84 (fun H locs hT hS => ?_)
        refine lv_iload_n hx hb dJ6_getChars_ba4f3_85 rfl (lv_at hl 1 rfl) ?_
        refine lv_bipush (v := (-9)) hx hb dJ6_getChars_ba4f3_86 (by decide) ?_
        have J104 : ∀ (x24 : Int32) (H : Heap) (locs : List Loc) (ls : Array Slot), x1.toInt ≤ x24.toInt ∧ x24.toInt ≤ p1.toInt ∧ (x1.toInt = 0 ∨ x1.toInt = 1) → TWb E K F G v n cnt H → va_S (xA E) s.heap H locs → lv_has ls 7 [(2, .ref v), (5, .int x24), (6, .int x1)] → W p l e rm_J6_getChars_ba4f3 s m args below meth c H locs 0 0 Q (F0 m 104 ls []) := by
          intro x24 H locs ls hf25 hT hS hl
          refine lv_iload hx hb dJ6_getChars_ba4f3_104 (lv_at hl 2 rfl) ?_
          refine xi_zeq (tgt := 118) hx hb (rfl : Int32.toInt x1 = x1.toInt) dJ6_getChars_ba4f3_106 (by decide) (fun c26 => ?_) (fun c26 => ?_)
          · refine lv_iload hx hb dJ6_getChars_ba4f3_118 (lv_at hl 1 rfl) ?_
            exact x_ri hx hb hr hlk hQ (Nat.le_of_ble_eq_true rfl) (Nat.le_of_ble_eq_true rfl) hS dJ6_getChars_ba4f3_120 (v, n, cnt) ⟨⟨_, rfl⟩, (z_J6_getChars_ba4f3_3 cnt.toInt n)⟩ hT
          · refine lv_aload_n hx hb dJ6_getChars_ba4f3_109 rfl (lv_at hl 0 rfl) ?_
            refine xi_iinc (n := (-1)) (lv' := fun z9 => [(5, .int z9), (2, .ref v), (6, .int x1)]) (k := 1) hx hb (rfl : Int32.toInt x24 = x24.toInt) (by decide) dJ6_getChars_ba4f3_110 hl rfl (by decide) (fun _ => rfl) (fun x27 ls t28 hl => ?_)
            have hl : lv_has ls 7 [(5, .int x27), (2, .ref v), (6, .int x1)] := hl
            refine lv_iload hx hb dJ6_getChars_ba4f3_113 (lv_at hl 0 rfl) ?_
            refine lv_bipush (v := 45) hx hb dJ6_getChars_ba4f3_115 (by decide) ?_
            refine sb_st S hK hT hS (z_J6_getChars_ba4f3_4 p1.toInt x1.toInt x24.toInt x27.toInt n e1 hf25 c26 t28 (xr x24)) dJ6_getChars_ba4f3_117 (fun H locs hT hS => ?_)
            refine lv_iload hx hb dJ6_getChars_ba4f3_118 (lv_at hl 0 rfl) ?_
            exact x_ri hx hb hr hlk hQ (Nat.le_of_ble_eq_true rfl) (Nat.le_of_ble_eq_true rfl) hS dJ6_getChars_ba4f3_120 (v, n, cnt) ⟨⟨_, rfl⟩, (z_J6_getChars_ba4f3_3 cnt.toInt n)⟩ hT
        refine xi_cge (tgt := 104) hx hb (rfl : Int32.toInt x3 = x3.toInt) ((by decide) : Int32.toInt (-9) = (-9 : Int)) dJ6_getChars_ba4f3_88 (by decide) (fun c29 => ?_) (fun c29 => ?_)
        · exact J104 x15 _ _ _ (z_J6_getChars_ba4f3_6 p1.toInt x1.toInt x15.toInt x3.toInt hf4 t16 (xr p1)) hT hS (lv_sub hl [2, 0, 3] rfl)
        · refine lv_aload_n hx hb dJ6_getChars_ba4f3_91 rfl (lv_at hl 2 rfl) ?_
          refine xi_iinc (n := (-1)) (lv' := fun z9 => [(5, .int z9), (0, .int x3), (2, .ref v), (6, .int x1)]) (k := 0) hx hb (rfl : Int32.toInt x15 = x15.toInt) (by decide) dJ6_getChars_ba4f3_92 hl rfl (by decide) (fun _ => rfl) (fun x30 ls t31 hl => ?_)
          have hl : lv_has ls 7 [(5, .int x30), (0, .int x3), (2, .ref v), (6, .int x1)] := hl
          refine lv_iload hx hb dJ6_getChars_ba4f3_95 (lv_at hl 0 rfl) ?_
          obtain ⟨q32, f33, hz34, hz35⟩ := hK.2.2.2.2.2.2.2.2.1
          refine va_gets hx hb hz34 hS S.2.2.2.1 (S.2.2.2.2 _ (List.mem_cons_of_mem _ kf_J6_87)) (fun _ h => h) dJ6_getChars_ba4f3_97 ?_
          refine lv_iload_n hx hb dJ6_getChars_ba4f3_100 rfl (lv_at hl 1 rfl) ?_
          refine xi_ineg hx hb (rfl : Int32.toInt x3 = x3.toInt) dJ6_getChars_ba4f3_101 (fun x36 t37 => ?_)
          refine va_tb hx hb hz35 hS (vp_in_iff.mpr (z_J6_getChars_ba4f3_7 x3.toInt x36.toInt c14 c29 t37)) rfl dJ6_getChars_ba4f3_102 (lv_topi (fun x38 _ => ?_))
          refine sb_st S hK hT hS (z_J6_getChars_ba4f3_8 p0.toInt p1.toInt x1.toInt x15.toInt x3.toInt x30.toInt n e1 hf2 hf5 t16 c29 t31 (xr p1)) dJ6_getChars_ba4f3_103 (fun H locs hT hS => ?_)
          exact J104 x30 _ _ _ (z_J6_getChars_ba4f3_9 p0.toInt p1.toInt x1.toInt x15.toInt x3.toInt x30.toInt hf2 hf5 t16 c29 t31 (xr p1)) hT hS (lv_sub hl [2, 0, 3] rfl)
      · refine lv_iload_n hx hb dJ6_getChars_ba4f3_28 rfl (lv_at hl 0 rfl) ?_
        refine lv_bipush (v := 100) hx hb dJ6_getChars_ba4f3_29 (by decide) ?_
        refine xi_idivn hx hb (rfl : Int32.toInt x3 = x3.toInt) ((by decide) : Int32.toInt 100 = (100 : Int)) (by decide) dJ6_getChars_ba4f3_31 (fun x39 t40 => ?_)
        refine lv_istore_n (lv' := [(3, .int x39), (0, .int x3), (2, .ref v), (5, .int p1), (6, .int x1)]) hx hb dJ6_getChars_ba4f3_32 rfl hl (by decide) rfl (fun ls hl => ?_)
        refine lv_iload_n hx hb dJ6_getChars_ba4f3_33 rfl (lv_at hl 0 rfl) ?_
        refine lv_bipush (v := 100) hx hb dJ6_getChars_ba4f3_34 (by decide) ?_
        refine xi_imul hx hb (rfl : Int32.toInt x39 = x39.toInt) ((by decide) : Int32.toInt 100 = (100 : Int)) dJ6_getChars_ba4f3_36 (fun x41 t42 => ?_)
        refine lv_iload_n hx hb dJ6_getChars_ba4f3_37 rfl (lv_at hl 1 rfl) ?_
        refine xi_isub hx hb (rfl : Int32.toInt x41 = x41.toInt) (rfl : Int32.toInt x3 = x3.toInt) dJ6_getChars_ba4f3_38 (fun x43 t44 => ?_)
        refine lv_istore (lv' := [(4, .int x43), (3, .int x39), (0, .int x3), (2, .ref v), (5, .int p1), (6, .int x1)]) hx hb dJ6_getChars_ba4f3_39 hl (by decide) rfl (fun ls hl => ?_)
        refine lv_iload_n hx hb dJ6_getChars_ba4f3_41 rfl (lv_at hl 1 rfl) ?_
        refine lv_istore_n (lv' := [(0, .int x39), (4, .int x43), (3, .int x39), (2, .ref v), (5, .int p1), (6, .int x1)]) hx hb dJ6_getChars_ba4f3_42 rfl hl (by decide) rfl (fun ls hl => ?_)
        refine lv_aload_n hx hb dJ6_getChars_ba4f3_43 rfl (lv_at hl 3 rfl) ?_
        refine xi_iinc (n := (-1)) (lv' := fun z9 => [(5, .int z9), (0, .int x39), (4, .int x43), (3, .int x39), (2, .ref v), (6, .int x1)]) (k := 4) hx hb (rfl : Int32.toInt p1 = p1.toInt) (by decide) dJ6_getChars_ba4f3_44 hl rfl (by decide) (fun _ => rfl) (fun x45 ls t46 hl => ?_)
        have hl : lv_has ls 7 [(5, .int x45), (0, .int x39), (4, .int x43), (3, .int x39), (2, .ref v), (6, .int x1)] := hl
        refine lv_iload hx hb dJ6_getChars_ba4f3_47 (lv_at hl 0 rfl) ?_
        obtain ⟨q47, f48, hz49, hz50⟩ := hK.2.2.2.2.2.2.2.2.2
        refine va_gets hx hb hz49 hS S.2.2.2.1 (S.2.2.2.2 _ (List.mem_cons_of_mem _ kf_J6_83)) (fun _ h => h) dJ6_getChars_ba4f3_49 ?_
        refine lv_iload hx hb dJ6_getChars_ba4f3_52 (lv_at hl 2 rfl) ?_
        refine va_tb hx hb hz50 hS (vp_in_iff.mpr (z_J6_getChars_ba4f3_10 x3.toInt x39.toInt x41.toInt x43.toInt c14 t40 t42 t44 (xr x3))) rfl dJ6_getChars_ba4f3_54 (lv_topi (fun x51 _ => ?_))
        refine sb_st S hK hT hS (z_J6_getChars_ba4f3_2 p1.toInt x45.toInt n e1 t46 (xr p1)) dJ6_getChars_ba4f3_55 (fun H locs hT hS => ?_)
        refine lv_aload_n hx hb dJ6_getChars_ba4f3_56 rfl (lv_at hl 4 rfl) ?_
        refine xi_iinc (n := (-1)) (lv' := fun z9 => [(5, .int z9), (0, .int x39), (4, .int x43), (3, .int x39), (2, .ref v), (6, .int x1)]) (k := 0) hx hb (rfl : Int32.toInt x45 = x45.toInt) (by decide) dJ6_getChars_ba4f3_57 hl rfl (by decide) (fun _ => rfl) (fun x52 ls t53 hl => ?_)
        have hl : lv_has ls 7 [(5, .int x52), (0, .int x39), (4, .int x43), (3, .int x39), (2, .ref v), (6, .int x1)] := hl
        refine lv_iload hx hb dJ6_getChars_ba4f3_60 (lv_at hl 0 rfl) ?_
        obtain ⟨q54, f55, hz56, hz57⟩ := hK.2.2.2.2.2.2.2.2.1
        refine va_gets hx hb hz56 hS S.2.2.2.1 (S.2.2.2.2 _ (List.mem_cons_of_mem _ kf_J6_87)) (fun _ h => h) dJ6_getChars_ba4f3_62 ?_
        refine lv_iload hx hb dJ6_getChars_ba4f3_65 (lv_at hl 2 rfl) ?_
        refine va_tb hx hb hz57 hS (vp_in_iff.mpr (z_J6_getChars_ba4f3_10 x3.toInt x39.toInt x41.toInt x43.toInt c14 t40 t42 t44 (xr x3))) rfl dJ6_getChars_ba4f3_67 (lv_topi (fun x58 _ => ?_))
        refine sb_st S hK hT hS (z_J6_getChars_ba4f3_13 p0.toInt p1.toInt x1.toInt x3.toInt x45.toInt x52.toInt n e1 hf2 hf6 c14 t46 t53 (xr p1)) dJ6_getChars_ba4f3_68 (fun H locs hT hS => ?_)
        refine lv_goto (tgt := 22) hx hb dJ6_getChars_ba4f3_69 (by decide) ?_
        have L22 : ∀ (N61 : Nat) (x59 : Int32) (x60 : Int32) (H : Heap) (locs : List Loc) (ls : Array Slot), (x1.toInt = 0 ∨ x1.toInt = 1) ∧ x59.toInt ≤ 0 ∧ x1.toInt + 1 ≤ x60.toInt ∧ x60.toInt ≤ p1.toInt → ((x59.toInt ≤ -10 → x1.toInt + 2 ≤ x60.toInt)) → ((x59.toInt ≤ -100 → x1.toInt + 3 ≤ x60.toInt)) → ((x59.toInt ≤ -1000 → x1.toInt + 4 ≤ x60.toInt)) → ((x59.toInt ≤ -10000 → x1.toInt + 5 ≤ x60.toInt)) → ((x59.toInt ≤ -100000 → x1.toInt + 6 ≤ x60.toInt)) → ((x59.toInt ≤ -1000000 → x1.toInt + 7 ≤ x60.toInt)) → ((x59.toInt ≤ -10000000 → x1.toInt + 8 ≤ x60.toInt)) → ((x59.toInt ≤ -100000000 → x1.toInt + 9 ≤ x60.toInt)) → ((x59.toInt ≤ -1000000000 → x1.toInt + 10 ≤ x60.toInt)) → -x59.toInt < ((N61 : Nat) : Int) → TWb E K F G v n cnt H → va_S (xA E) s.heap H locs → lv_has ls 7 [(0, .int x59), (2, .ref v), (5, .int x60), (6, .int x1)] → W p l e rm_J6_getChars_ba4f3 s m args below meth c H locs 0 0 Q (F0 m 22 ls []) := by
          intro N61
          induction N61 with
          | zero =>
            intro x59 x60 H locs ls hf62 hf63 hf64 hf65 hf66 hf67 hf68 hf69 hf70 hf71 hm72
            exact absurd hm72 (z_J6_getChars_ba4f3_14 p1.toInt x1.toInt x59.toInt x60.toInt hf62)
          | succ N61 ih73 =>
            intro x59 x60 H locs ls hf62 hf63 hf64 hf65 hf66 hf67 hf68 hf69 hf70 hf71 hm72 hT hS hl
            refine lv_iload_n hx hb dJ6_getChars_ba4f3_22 rfl (lv_at hl 0 rfl) ?_
            refine lv_bipush (v := (-100)) hx hb dJ6_getChars_ba4f3_23 (by decide) ?_
            refine xi_cgt (tgt := 72) hx hb (rfl : Int32.toInt x59 = x59.toInt) ((by decide) : Int32.toInt (-100) = (-100 : Int)) dJ6_getChars_ba4f3_25 (by decide) (fun c74 => ?_) (fun c74 => ?_)
            · refine lv_aload_n hx hb dJ6_getChars_ba4f3_72 rfl (lv_at hl 1 rfl) ?_
              refine xi_iinc (n := (-1)) (lv' := fun z9 => [(5, .int z9), (0, .int x59), (2, .ref v), (6, .int x1)]) (k := 2) hx hb (rfl : Int32.toInt x60 = x60.toInt) (by decide) dJ6_getChars_ba4f3_73 hl rfl (by decide) (fun _ => rfl) (fun x75 ls t76 hl => ?_)
              have hl : lv_has ls 7 [(5, .int x75), (0, .int x59), (2, .ref v), (6, .int x1)] := hl
              refine lv_iload hx hb dJ6_getChars_ba4f3_76 (lv_at hl 0 rfl) ?_
              obtain ⟨q77, f78, hz79, hz80⟩ := hK.2.2.2.2.2.2.2.2.2
              refine va_gets hx hb hz79 hS S.2.2.2.1 (S.2.2.2.2 _ (List.mem_cons_of_mem _ kf_J6_83)) (fun _ h => h) dJ6_getChars_ba4f3_78 ?_
              refine lv_iload_n hx hb dJ6_getChars_ba4f3_81 rfl (lv_at hl 1 rfl) ?_
              refine xi_ineg hx hb (rfl : Int32.toInt x59 = x59.toInt) dJ6_getChars_ba4f3_82 (fun x81 t82 => ?_)
              refine va_tb hx hb hz80 hS (vp_in_iff.mpr (z_J6_getChars_ba4f3_15 p1.toInt x1.toInt x59.toInt x60.toInt x81.toInt hf62 c74 t82)) rfl dJ6_getChars_ba4f3_83 (lv_topi (fun x83 _ => ?_))
              refine sb_st S hK hT hS (z_J6_getChars_ba4f3_16 p1.toInt x1.toInt x59.toInt x60.toInt x75.toInt n e1 hf62 t76 (xr x60)) dJ6_getChars_ba4f3_84 (fun H locs hT hS => ?_)
              refine lv_iload_n hx hb dJ6_getChars_ba4f3_85 rfl (lv_at hl 1 rfl) ?_
              refine lv_bipush (v := (-9)) hx hb dJ6_getChars_ba4f3_86 (by decide) ?_
              have J104 : ∀ (x84 : Int32) (H : Heap) (locs : List Loc) (ls : Array Slot), x1.toInt ≤ x84.toInt ∧ x84.toInt ≤ p1.toInt ∧ (x1.toInt = 0 ∨ x1.toInt = 1) → TWb E K F G v n cnt H → va_S (xA E) s.heap H locs → lv_has ls 7 [(2, .ref v), (5, .int x84), (6, .int x1)] → W p l e rm_J6_getChars_ba4f3 s m args below meth c H locs 0 0 Q (F0 m 104 ls []) := by
                intro x84 H locs ls hf85 hT hS hl
                refine lv_iload hx hb dJ6_getChars_ba4f3_104 (lv_at hl 2 rfl) ?_
                refine xi_zeq (tgt := 118) hx hb (rfl : Int32.toInt x1 = x1.toInt) dJ6_getChars_ba4f3_106 (by decide) (fun c86 => ?_) (fun c86 => ?_)
                · refine lv_iload hx hb dJ6_getChars_ba4f3_118 (lv_at hl 1 rfl) ?_
                  exact x_ri hx hb hr hlk hQ (Nat.le_of_ble_eq_true rfl) (Nat.le_of_ble_eq_true rfl) hS dJ6_getChars_ba4f3_120 (v, n, cnt) ⟨⟨_, rfl⟩, (z_J6_getChars_ba4f3_3 cnt.toInt n)⟩ hT
                · refine lv_aload_n hx hb dJ6_getChars_ba4f3_109 rfl (lv_at hl 0 rfl) ?_
                  refine xi_iinc (n := (-1)) (lv' := fun z9 => [(5, .int z9), (2, .ref v), (6, .int x1)]) (k := 1) hx hb (rfl : Int32.toInt x84 = x84.toInt) (by decide) dJ6_getChars_ba4f3_110 hl rfl (by decide) (fun _ => rfl) (fun x87 ls t88 hl => ?_)
                  have hl : lv_has ls 7 [(5, .int x87), (2, .ref v), (6, .int x1)] := hl
                  refine lv_iload hx hb dJ6_getChars_ba4f3_113 (lv_at hl 0 rfl) ?_
                  refine lv_bipush (v := 45) hx hb dJ6_getChars_ba4f3_115 (by decide) ?_
                  refine sb_st S hK hT hS (z_J6_getChars_ba4f3_4 p1.toInt x1.toInt x84.toInt x87.toInt n e1 hf85 c86 t88 (xr x84)) dJ6_getChars_ba4f3_117 (fun H locs hT hS => ?_)
                  refine lv_iload hx hb dJ6_getChars_ba4f3_118 (lv_at hl 0 rfl) ?_
                  exact x_ri hx hb hr hlk hQ (Nat.le_of_ble_eq_true rfl) (Nat.le_of_ble_eq_true rfl) hS dJ6_getChars_ba4f3_120 (v, n, cnt) ⟨⟨_, rfl⟩, (z_J6_getChars_ba4f3_3 cnt.toInt n)⟩ hT
              refine xi_cge (tgt := 104) hx hb (rfl : Int32.toInt x59 = x59.toInt) ((by decide) : Int32.toInt (-9) = (-9 : Int)) dJ6_getChars_ba4f3_88 (by decide) (fun c89 => ?_) (fun c89 => ?_)
              · exact J104 x75 _ _ _ (z_J6_getChars_ba4f3_20 p1.toInt x1.toInt x59.toInt x60.toInt x75.toInt hf62 t76 (xr x60)) hT hS (lv_sub hl [2, 0, 3] rfl)
              · refine lv_aload_n hx hb dJ6_getChars_ba4f3_91 rfl (lv_at hl 2 rfl) ?_
                refine xi_iinc (n := (-1)) (lv' := fun z9 => [(5, .int z9), (0, .int x59), (2, .ref v), (6, .int x1)]) (k := 0) hx hb (rfl : Int32.toInt x75 = x75.toInt) (by decide) dJ6_getChars_ba4f3_92 hl rfl (by decide) (fun _ => rfl) (fun x90 ls t91 hl => ?_)
                have hl : lv_has ls 7 [(5, .int x90), (0, .int x59), (2, .ref v), (6, .int x1)] := hl
                refine lv_iload hx hb dJ6_getChars_ba4f3_95 (lv_at hl 0 rfl) ?_
                obtain ⟨q92, f93, hz94, hz95⟩ := hK.2.2.2.2.2.2.2.2.1
                refine va_gets hx hb hz94 hS S.2.2.2.1 (S.2.2.2.2 _ (List.mem_cons_of_mem _ kf_J6_87)) (fun _ h => h) dJ6_getChars_ba4f3_97 ?_
                refine lv_iload_n hx hb dJ6_getChars_ba4f3_100 rfl (lv_at hl 1 rfl) ?_
                refine xi_ineg hx hb (rfl : Int32.toInt x59 = x59.toInt) dJ6_getChars_ba4f3_101 (fun x96 t97 => ?_)
                refine va_tb hx hb hz95 hS (vp_in_iff.mpr (z_J6_getChars_ba4f3_7 x59.toInt x96.toInt c74 c89 t97)) rfl dJ6_getChars_ba4f3_102 (lv_topi (fun x98 _ => ?_))
                refine sb_st S hK hT hS (z_J6_getChars_ba4f3_22 p1.toInt x1.toInt x59.toInt x60.toInt x75.toInt x90.toInt n e1 hf62 hf63 t76 c89 t91 (xr x60)) dJ6_getChars_ba4f3_103 (fun H locs hT hS => ?_)
                exact J104 x90 _ _ _ (z_J6_getChars_ba4f3_23 p1.toInt x1.toInt x59.toInt x60.toInt x75.toInt x90.toInt hf62 hf63 t76 c89 t91 (xr x60)) hT hS (lv_sub hl [2, 0, 3] rfl)
            · refine lv_iload_n hx hb dJ6_getChars_ba4f3_28 rfl (lv_at hl 0 rfl) ?_
              refine lv_bipush (v := 100) hx hb dJ6_getChars_ba4f3_29 (by decide) ?_
              refine xi_idivn hx hb (rfl : Int32.toInt x59 = x59.toInt) ((by decide) : Int32.toInt 100 = (100 : Int)) (by decide) dJ6_getChars_ba4f3_31 (fun x99 t100 => ?_)
              refine lv_istore_n (lv' := [(3, .int x99), (0, .int x59), (2, .ref v), (5, .int x60), (6, .int x1)]) hx hb dJ6_getChars_ba4f3_32 rfl hl (by decide) rfl (fun ls hl => ?_)
              refine lv_iload_n hx hb dJ6_getChars_ba4f3_33 rfl (lv_at hl 0 rfl) ?_
              refine lv_bipush (v := 100) hx hb dJ6_getChars_ba4f3_34 (by decide) ?_
              refine xi_imul hx hb (rfl : Int32.toInt x99 = x99.toInt) ((by decide) : Int32.toInt 100 = (100 : Int)) dJ6_getChars_ba4f3_36 (fun x101 t102 => ?_)
              refine lv_iload_n hx hb dJ6_getChars_ba4f3_37 rfl (lv_at hl 1 rfl) ?_
              refine xi_isub hx hb (rfl : Int32.toInt x101 = x101.toInt) (rfl : Int32.toInt x59 = x59.toInt) dJ6_getChars_ba4f3_38 (fun x103 t104 => ?_)
              refine lv_istore (lv' := [(4, .int x103), (3, .int x99), (0, .int x59), (2, .ref v), (5, .int x60), (6, .int x1)]) hx hb dJ6_getChars_ba4f3_39 hl (by decide) rfl (fun ls hl => ?_)
              refine lv_iload_n hx hb dJ6_getChars_ba4f3_41 rfl (lv_at hl 1 rfl) ?_
              refine lv_istore_n (lv' := [(0, .int x99), (4, .int x103), (3, .int x99), (2, .ref v), (5, .int x60), (6, .int x1)]) hx hb dJ6_getChars_ba4f3_42 rfl hl (by decide) rfl (fun ls hl => ?_)
              refine lv_aload_n hx hb dJ6_getChars_ba4f3_43 rfl (lv_at hl 3 rfl) ?_
              refine xi_iinc (n := (-1)) (lv' := fun z9 => [(5, .int z9), (0, .int x99), (4, .int x103), (3, .int x99), (2, .ref v), (6, .int x1)]) (k := 4) hx hb (rfl : Int32.toInt x60 = x60.toInt) (by decide) dJ6_getChars_ba4f3_44 hl rfl (by decide) (fun _ => rfl) (fun x105 ls t106 hl => ?_)
              have hl : lv_has ls 7 [(5, .int x105), (0, .int x99), (4, .int x103), (3, .int x99), (2, .ref v), (6, .int x1)] := hl
              refine lv_iload hx hb dJ6_getChars_ba4f3_47 (lv_at hl 0 rfl) ?_
              obtain ⟨q107, f108, hz109, hz110⟩ := hK.2.2.2.2.2.2.2.2.2
              refine va_gets hx hb hz109 hS S.2.2.2.1 (S.2.2.2.2 _ (List.mem_cons_of_mem _ kf_J6_83)) (fun _ h => h) dJ6_getChars_ba4f3_49 ?_
              refine lv_iload hx hb dJ6_getChars_ba4f3_52 (lv_at hl 2 rfl) ?_
              refine va_tb hx hb hz110 hS (vp_in_iff.mpr (z_J6_getChars_ba4f3_24 x101.toInt x103.toInt x59.toInt x99.toInt c74 t100 t102 t104 (xr x59))) rfl dJ6_getChars_ba4f3_54 (lv_topi (fun x111 _ => ?_))
              refine sb_st S hK hT hS (z_J6_getChars_ba4f3_25 p1.toInt x1.toInt x105.toInt x59.toInt x60.toInt n e1 hf62 t106 (xr x60)) dJ6_getChars_ba4f3_55 (fun H locs hT hS => ?_)
              refine lv_aload_n hx hb dJ6_getChars_ba4f3_56 rfl (lv_at hl 4 rfl) ?_
              refine xi_iinc (n := (-1)) (lv' := fun z9 => [(5, .int z9), (0, .int x99), (4, .int x103), (3, .int x99), (2, .ref v), (6, .int x1)]) (k := 0) hx hb (rfl : Int32.toInt x105 = x105.toInt) (by decide) dJ6_getChars_ba4f3_57 hl rfl (by decide) (fun _ => rfl) (fun x112 ls t113 hl => ?_)
              have hl : lv_has ls 7 [(5, .int x112), (0, .int x99), (4, .int x103), (3, .int x99), (2, .ref v), (6, .int x1)] := hl
              refine lv_iload hx hb dJ6_getChars_ba4f3_60 (lv_at hl 0 rfl) ?_
              obtain ⟨q114, f115, hz116, hz117⟩ := hK.2.2.2.2.2.2.2.2.1
              refine va_gets hx hb hz116 hS S.2.2.2.1 (S.2.2.2.2 _ (List.mem_cons_of_mem _ kf_J6_87)) (fun _ h => h) dJ6_getChars_ba4f3_62 ?_
              refine lv_iload hx hb dJ6_getChars_ba4f3_65 (lv_at hl 2 rfl) ?_
              refine va_tb hx hb hz117 hS (vp_in_iff.mpr (z_J6_getChars_ba4f3_24 x101.toInt x103.toInt x59.toInt x99.toInt c74 t100 t102 t104 (xr x59))) rfl dJ6_getChars_ba4f3_67 (lv_topi (fun x118 _ => ?_))
              refine sb_st S hK hT hS (z_J6_getChars_ba4f3_27 p1.toInt x1.toInt x105.toInt x112.toInt x59.toInt x60.toInt n e1 hf62 hf64 c74 t106 t113 (xr x60)) dJ6_getChars_ba4f3_68 (fun H locs hT hS => ?_)
              refine lv_goto (tgt := 22) hx hb dJ6_getChars_ba4f3_69 (by decide) ?_
              exact ih73 x99 x112 _ _ _ (z_J6_getChars_ba4f3_28 p1.toInt x1.toInt x105.toInt x112.toInt x59.toInt x60.toInt x99.toInt hf62 hf64 c74 t100 t106 t113 (xr x60)) (z_J6_getChars_ba4f3_29 x1.toInt x105.toInt x112.toInt x59.toInt x60.toInt x99.toInt hf65 c74 t100 t106 t113 (xr x1) (xr x60)) (z_J6_getChars_ba4f3_30 x1.toInt x105.toInt x112.toInt x59.toInt x60.toInt x99.toInt hf66 c74 t100 t106 t113 (xr x1) (xr x60)) (z_J6_getChars_ba4f3_31 x1.toInt x105.toInt x112.toInt x59.toInt x60.toInt x99.toInt hf67 c74 t100 t106 t113 (xr x1) (xr x60)) (z_J6_getChars_ba4f3_32 x1.toInt x105.toInt x112.toInt x59.toInt x60.toInt x99.toInt hf68 c74 t100 t106 t113 (xr x1) (xr x60)) (z_J6_getChars_ba4f3_33 x1.toInt x105.toInt x112.toInt x59.toInt x60.toInt x99.toInt hf69 c74 t100 t106 t113 (xr x1) (xr x60)) (z_J6_getChars_ba4f3_34 x1.toInt x105.toInt x112.toInt x59.toInt x60.toInt x99.toInt hf70 c74 t100 t106 t113 (xr x1) (xr x60)) (z_J6_getChars_ba4f3_35 x1.toInt x105.toInt x112.toInt x59.toInt x60.toInt x99.toInt hf71 c74 t100 t106 t113 (xr x1) (xr x60)) (z_J6_getChars_ba4f3_36 x1.toInt x112.toInt x59.toInt x99.toInt c74 t100 (xr x59)) (z_J6_getChars_ba4f3_37 x1.toInt x112.toInt x59.toInt x99.toInt c74 t100 (xr x59)) (z_J6_getChars_ba4f3_38 x59.toInt x99.toInt N61 hm72 c74 t100) hT hS (lv_sub hl [1, 4, 0, 5] rfl)
        exact L22 4294967297 x39 x52 _ _ _ (z_J6_getChars_ba4f3_39 p0.toInt p1.toInt x1.toInt x3.toInt x39.toInt x45.toInt x52.toInt hf2 hf6 c14 t40 t46 t53 (xr p1)) (z_J6_getChars_ba4f3_40 p1.toInt x1.toInt x3.toInt x39.toInt x45.toInt x52.toInt n e1 hf7 c14 t40 t46 t53 (xr p1)) (z_J6_getChars_ba4f3_41 p1.toInt x1.toInt x3.toInt x39.toInt x45.toInt x52.toInt n e1 hf8 c14 t40 t46 t53 (xr p1)) (z_J6_getChars_ba4f3_42 p1.toInt x1.toInt x3.toInt x39.toInt x45.toInt x52.toInt n e1 hf9 c14 t40 t46 t53 (xr p1)) (z_J6_getChars_ba4f3_43 p1.toInt x1.toInt x3.toInt x39.toInt x45.toInt x52.toInt n e1 hf10 c14 t40 t46 t53 (xr p1)) (z_J6_getChars_ba4f3_44 p1.toInt x1.toInt x3.toInt x39.toInt x45.toInt x52.toInt n e1 hf11 c14 t40 t46 t53 (xr p1)) (z_J6_getChars_ba4f3_45 p1.toInt x1.toInt x3.toInt x39.toInt x45.toInt x52.toInt n e1 hf12 c14 t40 t46 t53 (xr p1)) (z_J6_getChars_ba4f3_46 p1.toInt x1.toInt x3.toInt x39.toInt x45.toInt x52.toInt n e1 hf13 c14 t40 t46 t53 (xr p1)) (z_J6_getChars_ba4f3_47 x1.toInt x3.toInt x39.toInt x52.toInt c14 t40 (xr x3)) (z_J6_getChars_ba4f3_48 x1.toInt x3.toInt x39.toInt x52.toInt c14 t40 (xr x3)) (z_J6_getChars_ba4f3_49 x39.toInt (xr x39)) hT hS (lv_sub hl [1, 4, 0, 5] rfl)
    refine xi_zne (tgt := 22) hx hb (rfl : Int32.toInt x1 = x1.toInt) dJ6_getChars_ba4f3_16 (by decide) (fun c119 => ?_) (fun c119 => ?_)
    · exact J22 p0 _ _ _ (z_J6_getChars_ba4f3_50 p0.toInt p1.toInt x1.toInt e2 hf2 c119) (z_J6_getChars_ba4f3_51 p0.toInt p1.toInt x1.toInt pg1 hf2) (z_J6_getChars_ba4f3_52 p0.toInt p1.toInt x1.toInt pg2 hf2) (z_J6_getChars_ba4f3_53 p0.toInt p1.toInt x1.toInt pg3 hf2) (z_J6_getChars_ba4f3_54 p0.toInt p1.toInt x1.toInt pg4 hf2) (z_J6_getChars_ba4f3_55 p0.toInt p1.toInt x1.toInt pg5 hf2) (z_J6_getChars_ba4f3_56 p0.toInt p1.toInt x1.toInt pg6 hf2) (z_J6_getChars_ba4f3_57 p0.toInt p1.toInt x1.toInt pg7 hf2) (z_J6_getChars_ba4f3_58 p0.toInt p1.toInt x1.toInt pg8 hf2) (z_J6_getChars_ba4f3_59 p0.toInt p1.toInt x1.toInt pg9 hf2) hT hS (lv_sub hl [1, 2, 3, 0] rfl)
    · refine lv_iload_n hx hb dJ6_getChars_ba4f3_19 rfl (lv_at hl 1 rfl) ?_
      refine xi_ineg hx hb (rfl : Int32.toInt p0 = p0.toInt) dJ6_getChars_ba4f3_20 (fun x120 t121 => ?_)
      refine lv_istore_n (lv' := [(0, .int x120), (6, .int x1), (2, .ref v), (5, .int p1)]) hx hb dJ6_getChars_ba4f3_21 rfl hl (by decide) rfl (fun ls hl => ?_)
      exact J22 x120 _ _ _ (z_J6_getChars_ba4f3_60 p0.toInt p1.toInt x1.toInt x120.toInt n e1 hf2 c119 t121 (xr p0)) (z_J6_getChars_ba4f3_61 p0.toInt p1.toInt x1.toInt x120.toInt pg1 c119 t121) (z_J6_getChars_ba4f3_62 p0.toInt p1.toInt x1.toInt x120.toInt pg2 c119 t121) (z_J6_getChars_ba4f3_63 p0.toInt p1.toInt x1.toInt x120.toInt pg3 c119 t121) (z_J6_getChars_ba4f3_64 p0.toInt p1.toInt x1.toInt x120.toInt pg4 c119 t121) (z_J6_getChars_ba4f3_65 p0.toInt p1.toInt x1.toInt x120.toInt pg5 c119 t121) (z_J6_getChars_ba4f3_66 p0.toInt p1.toInt x1.toInt x120.toInt pg6 c119 t121) (z_J6_getChars_ba4f3_67 p0.toInt p1.toInt x1.toInt x120.toInt pg7 c119 t121) (z_J6_getChars_ba4f3_68 p0.toInt p1.toInt x1.toInt x120.toInt pg8 c119 t121) (z_J6_getChars_ba4f3_69 p0.toInt p1.toInt x1.toInt x120.toInt pg9 c119 t121) hT hS (lv_sub hl [0, 2, 3, 1] rfl)
  refine xi_zge (tgt := 11) hx hb (rfl : Int32.toInt p0 = p0.toInt) dJ6_getChars_ba4f3_4 (by decide) (fun c122 => ?_) (fun c122 => ?_)
  · refine lv_iconst (v := 0) hx hb dJ6_getChars_ba4f3_11 (by decide) ?_
    exact J12 0 _ _ _ (z_J6_getChars_ba4f3_70 p0.toInt c122) hT hS (lv_sub hl [1, 3, 0] rfl)
  · refine lv_iconst (v := 1) hx hb dJ6_getChars_ba4f3_7 (by decide) ?_
    refine lv_goto (tgt := 12) hx hb dJ6_getChars_ba4f3_8 (by decide) ?_
    exact J12 1 _ _ _ (z_J6_getChars_ba4f3_71 p0.toInt c122) hT hS (lv_sub hl [1, 3, 0] rfl)
end

theorem z_J0_getBytes_840e7_1 (a0 : Int) (a1 : Nat) (a2 : Nat) (h0 : 0 ≤ a0 ∧ a0 + ((a2 : Nat) : Int) ≤ ((a1 : Nat) : Int)) : 0 ≤ a0 := by omega
theorem z_J0_getBytes_840e7_2 (a0 : Int) (a1 : Int) (a2 : Nat) (a3 : Nat) (h0 : 0 ≤ a0 ∧ a0 + ((a3 : Nat) : Int) ≤ ((a2 : Nat) : Int)) (h1 : a1 = ((a3 : Nat) : Int)) : 0 ≤ a1 ∧ a1 ≤ ((a3 : Nat) : Int) ∧ a0 + a1 ≤ ((a2 : Nat) : Int) := by omega
theorem z_J0_getBytes_840e7_3 (a0 : Int) (a1 : Nat) : a0 = a0 ∧ ((a1 : Nat) : Int) = ((a1 : Nat) : Int) := by omega
abbrev rm_J0_getBytes_840e7 : Room := { frames := 1, cells := 0, slots := 0, locals := 60 }
set_option maxHeartbeats 4000000 in
set_option maxRecDepth 100000 in
theorem c_J0_getBytes_840e7 (l : Launch) (E : XE) (K : Nat → Nat) (F : Nat → Nat → Nat) (G : XG) (v n : Nat) (cnt : Int32) (i : Nat) (p1 : Int32) (hi : i < 13) (e1 : 0 ≤ p1.toInt ∧ p1.toInt + (((xlen.getD i 0) : Nat) : Int) ≤ (((n) : Nat) : Int)) : Met l yJ0_getBytes_840e7 (xw yJ0_getBytes_840e7 cJ0_getBytes_840e7 4 none) rm_J0_getBytes_840e7 (va_Pc [.ref (E.2.2.2.2.1 i), .ref v, .int p1, .int 0] (XPb E K F G v n cnt)) (XQv E (fun (u : Nat × Nat × Int32) => u.2.2.toInt = cnt.toInt ∧ ((u.2.1 : Nat) : Int) = ((n : Nat) : Int)) (fun u H => TWb E K F G u.1 u.2.1 u.2.2 H)) 0 0 (xA E) := by
  refine x_enter (by decide) (Nat.le_of_ble_eq_true rfl) ?_
  intro p e s m args below meth c Q S hr hlk hnm hQ hP ls hl
  obtain ⟨hz, hK, hT⟩ := hP
  obtain ⟨hx, hb, -, -, -⟩ := id S
  obtain ⟨H, hT, hS, hgo⟩ : ∃ H : Heap, TWb E K F G v n cnt H ∧ va_S (xA E) s.heap H [] ∧ H = s.heap := ⟨_, hT, va_S.rf, rfl⟩
  rw [← hgo]
  have hl : lv_has ls 4 [(0, .ref (E.2.2.2.2.1 i)), (1, .ref v), (2, .int p1), (3, .int 0)] := hl
  have e9 := hT.inv
  refine lv_aload_n hx hb dJ0_getBytes_840e7_0 rfl (lv_at hl 0 rfl) ?_
  refine x_clp (x_runV (b := (E.2.2.2.2.1 i)) (As := []) (rest := []) S (c_J0_coder_7d493 l E K F G H i hi) mv_J0_coder_7d493 km_J0_335 rfl rfl ⟨Nat.le_of_ble_eq_true rfl, Nat.le_of_ble_eq_true rfl⟩ (vk_recv hK.2.2.2.1 hi hS) hK (fun _ => XPh.blind) (fun U hU hW => XPh.at hK hz hS hT.cl hU hW) rfl hl.1 (Nat.le_of_ble_eq_true rfl) dJ0_getBytes_840e7_1 ⟨Nat.le_of_ble_eq_true rfl, Nat.le_of_ble_eq_true rfl⟩) hS ?_
  rintro _ _ locs ⟨_, rfl, rfl⟩ hS
  refine lv_iload_n hx hb dJ0_getBytes_840e7_4 rfl (lv_at hl 3 rfl) ?_
  refine xi_cne (tgt := 28) hx hb ((by decide) : Int32.toInt 0 = (0 : Int)) ((by decide) : Int32.toInt 0 = (0 : Int)) dJ0_getBytes_840e7_5 (by decide) (fun c => absurd c (show ¬ ((0 : Int) ≠ (0 : Int)) by decide)) (fun _ => ?_)
  refine lv_aload_n hx hb dJ0_getBytes_840e7_8 rfl (lv_at hl 0 rfl) ?_
  refine vk_getf hx hb (hK.2.2.2.1.1 i hi).2.2.1 hS S.2.2.2.1 (S.2.2.2.2 _ (List.mem_cons_of_mem _ kf_J0_9)) (fun _ h => h) dJ0_getBytes_840e7_9 ?_
  refine lv_iconst (v := 0) hx hb dJ0_getBytes_840e7_12 (by decide) ?_
  refine lv_aload_n hx hb dJ0_getBytes_840e7_13 rfl (lv_at hl 1 rfl) ?_
  refine lv_iload_n hx hb dJ0_getBytes_840e7_14 rfl (lv_at hl 2 rfl) ?_
  refine lv_iload_n hx hb dJ0_getBytes_840e7_15 rfl (lv_at hl 3 rfl) ?_
  refine lv_ishl hx hb dJ0_getBytes_840e7_16 ?_
  rw [sb_shl0]
  refine lv_aload_n hx hb dJ0_getBytes_840e7_17 rfl (lv_at hl 0 rfl) ?_
  refine vk_getf hx hb (hK.2.2.2.1.1 i hi).2.2.1 hS S.2.2.2.1 (S.2.2.2.2 _ (List.mem_cons_of_mem _ kf_J0_9)) (fun _ h => h) dJ0_getBytes_840e7_18 ?_
  refine va_tlen hx hb (hK.2.2.2.1.1 i hi).2.2.2 hS rfl dJ0_getBytes_840e7_21 (lv_topi (fun x1 t2 => ?_))
  have t2 : x1.toInt = ((xlen.getD i 0 : Nat) : Int) := by rw [t2]; exact nI_toInt (xlen_lt hi)
  refine st_copy S hK hT hS kac km_J0_212 hi (z_J0_getBytes_840e7_1 p1.toInt n (xlen.getD i 0) e1) (z_J0_getBytes_840e7_2 p1.toInt x1.toInt n (xlen.getD i 0) e1 t2) hl.1 (Nat.le_of_ble_eq_true rfl) (Nat.le_of_ble_eq_true rfl) dJ0_getBytes_840e7_22 (fun H locs hT hS => ?_)
  refine lv_goto (tgt := 43) hx hb dJ0_getBytes_840e7_25 (by decide) ?_
  exact x_rv hx hb hr hlk hQ (Nat.le_of_ble_eq_true rfl) (Nat.le_of_ble_eq_true rfl) hS dJ0_getBytes_840e7_43 (v, n, cnt) (z_J0_getBytes_840e7_3 cnt.toInt n) hT

abbrev rm_J5_inflateIfNeededFor_a7421 : Room := { frames := 1, cells := 0, slots := 0, locals := 20 }
set_option maxHeartbeats 4000000 in
set_option maxRecDepth 100000 in
theorem c_J5_inflateIfNeededFor_a7421 (l : Launch) (E : XE) (K : Nat → Nat) (F : Nat → Nat → Nat) (G : XG) (v n : Nat) (cnt : Int32) (i0 : Nat) (hi0 : i0 < 13) : Met l yJ5_inflateIfNeededFor_a7421 (xw yJ5_inflateIfNeededFor_a7421 cJ5_inflateIfNeededFor_a7421 2 none) rm_J5_inflateIfNeededFor_a7421 (va_Pc [.ref E.2.2.2.1, .ref (E.2.2.2.2.1 i0)] (XPb E K F G v n cnt)) (XQv E (fun (u : Nat × Nat × Int32) => u.2.2.toInt = cnt.toInt ∧ ((u.2.1 : Nat) : Int) = ((n : Nat) : Int)) (fun u H => TWb E K F G u.1 u.2.1 u.2.2 H)) 0 0 (xA E) := by
  refine x_enter (by decide) (Nat.le_of_ble_eq_true rfl) ?_
  intro p e s m args below meth c Q S hr hlk hnm hQ hP ls hl
  obtain ⟨hz, hK, hT⟩ := hP
  obtain ⟨hx, hb, -, -, -⟩ := id S
  obtain ⟨H, hT, hS, hgo⟩ : ∃ H : Heap, TWb E K F G v n cnt H ∧ va_S (xA E) s.heap H [] ∧ H = s.heap := ⟨_, hT, va_S.rf, rfl⟩
  rw [← hgo]
  have hl : lv_has ls 2 [(0, .ref E.2.2.2.1), (1, .ref (E.2.2.2.2.1 i0))] := hl
  have e9 := hT.inv
  refine va_gets hx hb hK.2.2.2.2.1 hS S.2.2.2.1 (S.2.2.2.2 _ (List.mem_cons_of_mem _ kf_J5_18)) (fun _ h => h) dJ5_inflateIfNeededFor_a7421_0 ?_
  refine xi_zeq (tgt := 21) hx hb ((by decide) : Int32.toInt 1 = (1 : Int)) dJ5_inflateIfNeededFor_a7421_3 (by decide) (fun c => absurd c (show ¬ ((1 : Int) = 0) by decide)) (fun _ => ?_)
  refine lv_aload_n hx hb dJ5_inflateIfNeededFor_a7421_6 rfl (lv_at hl 0 rfl) ?_
  refine sbg_coder S hK hT kf_J5_22 dJ5_inflateIfNeededFor_a7421_7 ?_
  refine lv_aload_n hx hb dJ5_inflateIfNeededFor_a7421_10 rfl (lv_at hl 1 rfl) ?_
  refine x_clp (x_runV (b := (E.2.2.2.2.1 i0)) (As := []) (rest := [.int 0]) S (c_J0_coder_7d493 l E K F G H i0 hi0) mv_J0_coder_7d493 km_J5_40 rfl rfl ⟨Nat.le_of_ble_eq_true rfl, Nat.le_of_ble_eq_true rfl⟩ (vk_recv hK.2.2.2.1 hi0 hS) hK (fun _ => XPh.blind) (fun U hU hW => XPh.at hK hz hS hT.cl hU hW) rfl hl.1 (Nat.le_of_ble_eq_true rfl) dJ5_inflateIfNeededFor_a7421_11 ⟨Nat.le_of_ble_eq_true rfl, Nat.le_of_ble_eq_true rfl⟩) hS ?_
  rintro _ _ locs ⟨_, rfl, rfl⟩ hS
  refine xi_ceq (tgt := 21) hx hb ((by decide) : Int32.toInt 0 = (0 : Int)) ((by decide) : Int32.toInt 0 = (0 : Int)) dJ5_inflateIfNeededFor_a7421_14 (by decide) (fun _ => ?_) (fun c => absurd (show (0 : Int) = (0 : Int) by decide) c)
  exact x_rv hx hb hr hlk hQ (Nat.le_of_ble_eq_true rfl) (Nat.le_of_ble_eq_true rfl) hS dJ5_inflateIfNeededFor_a7421_21 (v, n, cnt) (z_J0_getBytes_840e7_3 cnt.toInt n) hT

theorem z_J5_putStringAt_47b60_1 (a0 : Int) (a1 : Int) (a2 : Int) (a3 : Nat) (a4 : Nat) (a5 : Nat) (h0 : 0 ≤ a2 ∧ a2 + ((a5 : Nat) : Int) ≤ ((a4 : Nat) : Int)) (h1 : a1 = a0 ∧ ((a3 : Nat) : Int) = ((a4 : Nat) : Int)) : 0 ≤ a2 ∧ a2 + ((a5 : Nat) : Int) ≤ ((a3 : Nat) : Int) := by omega
theorem z_J5_putStringAt_47b60_2 (a0 : Int) (a1 : Int) (a2 : Int) (a3 : Nat) (a4 : Nat) (a5 : Nat) (h0 : a1 = a0 ∧ ((a3 : Nat) : Int) = ((a5 : Nat) : Int)) (h1 : a2 = a1 ∧ ((a4 : Nat) : Int) = ((a3 : Nat) : Int)) : a2 = a0 ∧ ((a4 : Nat) : Int) = ((a5 : Nat) : Int) := by omega
abbrev rm_J5_putStringAt_47b60 : Room := { frames := 2, cells := 0, slots := 0, locals := 83 }
set_option maxHeartbeats 4000000 in
set_option maxRecDepth 100000 in
theorem c_J5_putStringAt_47b60 (l : Launch) (E : XE) (K : Nat → Nat) (F : Nat → Nat → Nat) (G : XG) (v n : Nat) (cnt : Int32) (p0 : Int32) (i1 : Nat) (hi1 : i1 < 13) (e1 : 0 ≤ p0.toInt ∧ p0.toInt + (((xlen.getD i1 0) : Nat) : Int) ≤ (((n) : Nat) : Int)) : Met l yJ5_putStringAt_47b60 (xw yJ5_putStringAt_47b60 cJ5_putStringAt_47b60 3 none) rm_J5_putStringAt_47b60 (va_Pc [.ref E.2.2.2.1, .int p0, .ref (E.2.2.2.2.1 i1)] (XPb E K F G v n cnt)) (XQv E (fun (u : Nat × Nat × Int32) => u.2.2.toInt = cnt.toInt ∧ ((u.2.1 : Nat) : Int) = ((n : Nat) : Int)) (fun u H => TWb E K F G u.1 u.2.1 u.2.2 H)) 0 0 (xA E) := by
  refine x_enter (by decide) (Nat.le_of_ble_eq_true rfl) ?_
  intro p e s m args below meth c Q S hr hlk hnm hQ hP ls hl
  obtain ⟨hz, hK, hT⟩ := hP
  obtain ⟨hx, hb, -, -, -⟩ := id S
  obtain ⟨H, hT, hS, hgo⟩ : ∃ H : Heap, TWb E K F G v n cnt H ∧ va_S (xA E) s.heap H [] ∧ H = s.heap := ⟨_, hT, va_S.rf, rfl⟩
  rw [← hgo]
  have hl : lv_has ls 3 [(0, .ref E.2.2.2.1), (1, .int p0), (2, .ref (E.2.2.2.2.1 i1))] := hl
  have e9 := hT.inv
  refine lv_aload_n hx hb dJ5_putStringAt_47b60_0 rfl (lv_at hl 0 rfl) ?_
  refine lv_aload_n hx hb dJ5_putStringAt_47b60_1 rfl (lv_at hl 2 rfl) ?_
  refine x_cv0 (x_runV (b := E.2.2.2.1) (As := [.ref (E.2.2.2.2.1 i1)]) (rest := []) S (c_J5_inflateIfNeededFor_a7421 l E K F G v n cnt i1 hi1) mw_J5_inflateIfNeededFor_a7421 km_J5_397 rfl rfl ⟨Nat.le_of_ble_eq_true rfl, Nat.le_of_ble_eq_true rfl⟩ (rc_sb hK hT) hK (fun _ => XPb.blind) (fun U hU hW => XPb.at hK hz hS hT hU hW) rfl hl.1 (Nat.le_of_ble_eq_true rfl) dJ5_putStringAt_47b60_2 ⟨Nat.le_of_ble_eq_true rfl, Nat.le_of_ble_eq_true rfl⟩) hS ?_
  rintro ⟨q1, n2, k3⟩ H locs t4 hT hS
  have t4 : k3.toInt = cnt.toInt ∧ (((n2) : Nat) : Int) = (((n) : Nat) : Int) := t4
  have hT : TWb E K F G q1 n2 k3 H := hT
  have v6 : 0 ≤ k3.toInt ∧ k3.toInt ≤ (((n2) : Nat) : Int) ∧ (((n2) : Nat) : Int) ≤ 100 := hT.inv
  refine lv_aload_n hx hb dJ5_putStringAt_47b60_5 rfl (lv_at hl 2 rfl) ?_
  refine lv_aload_n hx hb dJ5_putStringAt_47b60_6 rfl (lv_at hl 0 rfl) ?_
  refine sbg_value S hK hT kf_J5_15 dJ5_putStringAt_47b60_7 ?_
  refine lv_iload_n hx hb dJ5_putStringAt_47b60_10 rfl (lv_at hl 1 rfl) ?_
  refine lv_aload_n hx hb dJ5_putStringAt_47b60_11 rfl (lv_at hl 0 rfl) ?_
  refine sbg_coder S hK hT kf_J5_22 dJ5_putStringAt_47b60_12 ?_
  refine x_cv0 (x_runV (b := (E.2.2.2.2.1 i1)) (As := [.ref q1, .int p0, .int 0]) (rest := []) S (c_J0_getBytes_840e7 l E K F G q1 n2 k3 i1 p0 hi1 (z_J5_putStringAt_47b60_1 cnt.toInt k3.toInt p0.toInt n2 n (xlen.getD i1 0) e1 t4)) mv_J0_getBytes_840e7 km_J5_399 rfl rfl ⟨Nat.le_of_ble_eq_true rfl, Nat.le_of_ble_eq_true rfl⟩ (vk_recv hK.2.2.2.1 hi1 hS) hK (fun _ => XPb.blind) (fun U hU hW => XPb.at hK hz hS hT hU hW) rfl hl.1 (Nat.le_of_ble_eq_true rfl) dJ5_putStringAt_47b60_15 ⟨Nat.le_of_ble_eq_true rfl, Nat.le_of_ble_eq_true rfl⟩) hS ?_
  rintro ⟨q7, n8, k9⟩ H locs t10 hT hS
  have t10 : k9.toInt = k3.toInt ∧ (((n8) : Nat) : Int) = (((n2) : Nat) : Int) := t10
  have hT : TWb E K F G q7 n8 k9 H := hT
  have v12 : 0 ≤ k9.toInt ∧ k9.toInt ≤ (((n8) : Nat) : Int) ∧ (((n8) : Nat) : Int) ≤ 100 := hT.inv
  exact x_rv hx hb hr hlk hQ (Nat.le_of_ble_eq_true rfl) (Nat.le_of_ble_eq_true rfl) hS dJ5_putStringAt_47b60_18 (q7, n8, k9) (z_J5_putStringAt_47b60_2 cnt.toInt k3.toInt k9.toInt n2 n8 n t4 t10) hT

theorem z_J5_append_cf1ce_1 (a0 : Int) (a1 : Int) (a2 : Int) (a3 : Nat) (a4 : Nat) (h0 : 0 ≤ a0 ∧ a0 ≤ ((a3 : Nat) : Int) ∧ ((a3 : Nat) : Int) ≤ 100) (h1 : a0 + ((a4 : Nat) : Int) ≤ 48) (h2 : a1 = ((a4 : Nat) : Int)) (h3 : a2 = a0 + a1 ∨ a0 + a1 < -2147483648 ∨ 2147483648 ≤ a0 + a1) : 0 ≤ a2 ∧ a2 ≤ 48 := by omega
theorem z_J5_append_cf1ce_2 (a0 : Int) (a1 : Int) (a2 : Int) (a3 : Nat) (a4 : Nat) (a5 : Nat) (h0 : 0 ≤ a0 ∧ a0 ≤ ((a4 : Nat) : Int) ∧ ((a4 : Nat) : Int) ≤ 100) (h1 : a0 + ((a5 : Nat) : Int) ≤ 48) (h2 : a1 = ((a5 : Nat) : Int)) (h3 : a2 = a0 + a1 ∨ a0 + a1 < -2147483648 ∨ 2147483648 ≤ a0 + a1) (h4 : a2 ≤ ((a3 : Nat) : Int) ∧ ((a4 : Nat) : Int) ≤ ((a3 : Nat) : Int)) : 0 ≤ a0 ∧ a0 + ((a5 : Nat) : Int) ≤ ((a3 : Nat) : Int) := by omega
theorem z_J5_append_cf1ce_3 (a0 : Int) (a1 : Int) (a2 : Int) (a3 : Int) (a4 : Int) (a5 : Nat) (a6 : Nat) (a7 : Nat) (a8 : Nat) (h0 : 0 ≤ a0 ∧ a0 ≤ ((a7 : Nat) : Int) ∧ ((a7 : Nat) : Int) ≤ 100) (h1 : a0 + ((a8 : Nat) : Int) ≤ 48) (h2 : a2 = ((a8 : Nat) : Int)) (h3 : a4 = a0 + a2 ∨ a0 + a2 < -2147483648 ∨ 2147483648 ≤ a0 + a2) (h4 : a4 ≤ ((a6 : Nat) : Int) ∧ ((a7 : Nat) : Int) ≤ ((a6 : Nat) : Int)) (h5 : a1 = a0 ∧ ((a5 : Nat) : Int) = ((a6 : Nat) : Int)) (h6 : a3 = a1 + a2 ∨ a1 + a2 < -2147483648 ∨ 2147483648 ≤ a1 + a2) : 0 ≤ a3 ∧ a3 ≤ ((a5 : Nat) : Int) := by omega
theorem z_J5_append_cf1ce_4 (a0 : Int) (a1 : Int) (a2 : Int) (a3 : Int) (a4 : Nat) (a5 : Nat) (a6 : Nat) (a7 : Nat) (h0 : 0 ≤ a0 ∧ a0 ≤ ((a6 : Nat) : Int) ∧ ((a6 : Nat) : Int) ≤ 100) (h1 : a0 + ((a7 : Nat) : Int) ≤ 48) (h2 : a2 = ((a7 : Nat) : Int)) (h3 : a1 = a0 ∧ ((a4 : Nat) : Int) = ((a5 : Nat) : Int)) (h4 : a3 = a1 + a2 ∨ a1 + a2 < -2147483648 ∨ 2147483648 ≤ a1 + a2) : a3 = a0 + ((a7 : Nat) : Int) := by omega
abbrev rm_J5_append_cf1ce : Room := { frames := 4, cells := 1, slots := 100, locals := 105 }
set_option maxHeartbeats 4000000 in
set_option maxRecDepth 100000 in
theorem c_J5_append_cf1ce (l : Launch) (E : XE) (K : Nat → Nat) (F : Nat → Nat → Nat) (G : XG) (v n : Nat) (cnt : Int32) (i0 : Nat) (hi0 : i0 < 13) (e1 : cnt.toInt + (((xlen.getD i0 0) : Nat) : Int) ≤ 48) : Met l yJ5_append_cf1ce (xw yJ5_append_cf1ce cJ5_append_cf1ce 3 (some (.object "java/lang/AbstractStringBuilder"))) rm_J5_append_cf1ce (va_Pc [.ref E.2.2.2.1, .ref (E.2.2.2.2.1 i0)] (XPb E K F G v n cnt)) (XQ E (fun v (u : Nat × Nat × Int32) => v = .ref E.2.2.2.1 ∧ u.2.2.toInt = cnt.toInt + ((xlen.getD i0 0 : Nat) : Int)) (fun u H => TWb E K F G u.1 u.2.1 u.2.2 H)) 1 100 (xA E) := by
  refine x_enter (by decide) (Nat.le_of_ble_eq_true rfl) ?_
  intro p e s m args below meth c Q S hr hlk hnm hQ hP ls hl
  obtain ⟨hz, hK, hT⟩ := hP
  obtain ⟨hx, hb, -, -, -⟩ := id S
  obtain ⟨H, hT, hS, hgo⟩ : ∃ H : Heap, TWb E K F G v n cnt H ∧ va_S (xA E) s.heap H [] ∧ H = s.heap := ⟨_, hT, va_S.rf, rfl⟩
  rw [← hgo]
  have hl : lv_has ls 3 [(0, .ref E.2.2.2.1), (1, .ref (E.2.2.2.2.1 i0))] := hl
  have e9 := hT.inv
  refine lv_aload_n hx hb dJ5_append_cf1ce_0 rfl (lv_at hl 1 rfl) ?_
  refine lv_ifnonnull (tgt := 9) hx hb dJ5_append_cf1ce_1 (by decide) ?_
  refine lv_aload_n hx hb dJ5_append_cf1ce_9 rfl (lv_at hl 1 rfl) ?_
  refine x_clp (x_runV (b := (E.2.2.2.2.1 i0)) (As := []) (rest := []) S (c_J0_length_8abf5 l E K F G H i0 hi0) mv_J0_length_8abf5 km_J5_32 rfl rfl ⟨Nat.le_of_ble_eq_true rfl, Nat.le_of_ble_eq_true rfl⟩ (vk_recv hK.2.2.2.1 hi0 hS) hK (fun _ => XPh.blind) (fun U hU hW => XPh.at hK hz hS hT.cl hU hW) rfl hl.1 (Nat.le_of_ble_eq_true rfl) dJ5_append_cf1ce_10 ⟨Nat.le_of_ble_eq_true rfl, Nat.le_of_ble_eq_true rfl⟩) hS ?_
  rintro _ _ locs ⟨x1, rfl, t2⟩ hS
  refine lv_istore_n (lv' := [(2, .int x1), (0, .ref E.2.2.2.1), (1, .ref (E.2.2.2.2.1 i0))]) hx hb dJ5_append_cf1ce_13 rfl hl (by decide) rfl (fun ls hl => ?_)
  refine lv_aload_n hx hb dJ5_append_cf1ce_14 rfl (lv_at hl 1 rfl) ?_
  refine lv_aload_n hx hb dJ5_append_cf1ce_15 rfl (lv_at hl 1 rfl) ?_
  refine sbg_count S hK hT kf_J5_79 dJ5_append_cf1ce_16 ?_
  refine lv_iload_n hx hb dJ5_append_cf1ce_19 rfl (lv_at hl 0 rfl) ?_
  refine xi_iadd hx hb (rfl : Int32.toInt cnt = cnt.toInt) (rfl : Int32.toInt x1 = x1.toInt) dJ5_append_cf1ce_20 (fun x3 t4 => ?_)
  refine x_cv (x_runV (b := E.2.2.2.1) (As := [.int x3]) (rest := []) S (c_J5_ensureCapacityInternal_d00df l E K F G v n cnt x3 (z_J5_append_cf1ce_1 cnt.toInt x1.toInt x3.toInt n (xlen.getD i0 0) e9 e1 t2 t4)) mw_J5_ensureCapacityInternal_d00df km_J5_100 rfl rfl ⟨Nat.le_of_ble_eq_true rfl, Nat.le_of_ble_eq_true rfl⟩ (rc_sb hK hT) hK (fun _ => XPb.blind) (fun U hU hW => XPb.at hK hz hS hT hU hW) rfl hl.1 (Nat.le_of_ble_eq_true rfl) dJ5_append_cf1ce_21 ⟨Nat.le_of_ble_eq_true rfl, Nat.le_of_ble_eq_true rfl⟩) hS ?_
  rintro ⟨q5, n6⟩ H locs t7 hT hS
  have t7 : x3.toInt ≤ (((n6) : Nat) : Int) ∧ (((n) : Nat) : Int) ≤ (((n6) : Nat) : Int) := t7
  have hT : TWb E K F G q5 n6 cnt H := hT
  have v8 : 0 ≤ cnt.toInt ∧ cnt.toInt ≤ (((n6) : Nat) : Int) ∧ (((n6) : Nat) : Int) ≤ 100 := hT.inv
  refine lv_aload_n hx hb dJ5_append_cf1ce_24 rfl (lv_at hl 1 rfl) ?_
  refine lv_aload_n hx hb dJ5_append_cf1ce_25 rfl (lv_at hl 1 rfl) ?_
  refine sbg_count S hK hT kf_J5_79 dJ5_append_cf1ce_26 ?_
  refine lv_aload_n hx hb dJ5_append_cf1ce_29 rfl (lv_at hl 2 rfl) ?_
  refine x_cv0 (x_runV (b := E.2.2.2.1) (As := [.int cnt, .ref (E.2.2.2.2.1 i0)]) (rest := []) S (c_J5_putStringAt_47b60 l E K F G q5 n6 cnt cnt i0 hi0 (z_J5_append_cf1ce_2 cnt.toInt x1.toInt x3.toInt n6 n (xlen.getD i0 0) e9 e1 t2 t4 t7)) mw_J5_putStringAt_47b60 km_J5_208 rfl rfl ⟨Nat.le_of_ble_eq_true rfl, Nat.le_of_ble_eq_true rfl⟩ (rc_sb hK hT) hK (fun _ => XPb.blind) (fun U hU hW => XPb.at hK hz hS hT hU hW) rfl hl.1 (Nat.le_of_ble_eq_true rfl) dJ5_append_cf1ce_30 ⟨Nat.le_of_ble_eq_true rfl, Nat.le_of_ble_eq_true rfl⟩) hS ?_
  rintro ⟨q9, n10, k11⟩ H locs t12 hT hS
  have t12 : k11.toInt = cnt.toInt ∧ (((n10) : Nat) : Int) = (((n6) : Nat) : Int) := t12
  have hT : TWb E K F G q9 n10 k11 H := hT
  have v14 : 0 ≤ k11.toInt ∧ k11.toInt ≤ (((n10) : Nat) : Int) ∧ (((n10) : Nat) : Int) ≤ 100 := hT.inv
  refine lv_aload_n hx hb dJ5_append_cf1ce_33 rfl (lv_at hl 1 rfl) ?_
  refine lv_dup hx hb dJ5_append_cf1ce_34 rfl ?_
  refine sbg_count S hK hT kf_J5_79 dJ5_append_cf1ce_35 ?_
  refine lv_iload_n hx hb dJ5_append_cf1ce_38 rfl (lv_at hl 0 rfl) ?_
  refine xi_iadd hx hb (rfl : Int32.toInt k11 = k11.toInt) (rfl : Int32.toInt x1 = x1.toInt) dJ5_append_cf1ce_39 (fun x15 t16 => ?_)
  refine sbp_count (x := x15) S hK hT hS kf_J5_79 (z_J5_append_cf1ce_3 cnt.toInt k11.toInt x1.toInt x15.toInt x3.toInt n10 n6 n (xlen.getD i0 0) e9 e1 t2 t4 t7 t12 t16) dJ5_append_cf1ce_40 (fun H locs hT hS => ?_)
  refine lv_aload_n hx hb dJ5_append_cf1ce_43 rfl (lv_at hl 1 rfl) ?_
  exact x_ra hx hb hr (by first | exact Or.inl ⟨_, rfl⟩ | exact Or.inr ⟨_, rfl⟩) (by first | exact Or.inl rfl | exact Or.inr ⟨_, rfl⟩) hlk hQ (Nat.le_of_ble_eq_true rfl) (Nat.le_of_ble_eq_true rfl) hS dJ5_append_cf1ce_44 (q9, n10, x15) ⟨rfl, (z_J5_append_cf1ce_4 cnt.toInt k11.toInt x1.toInt x15.toInt n10 n6 n (xlen.getD i0 0) e9 e1 t2 t12 t16)⟩ hT

theorem z_J5_append_c97b9_1 (a0 : Int) (a1 : Int) (a2 : Int) (a3 : Int) (a4 : Nat) (h0 : 0 ≤ a0 ∧ a0 ≤ ((a4 : Nat) : Int) ∧ ((a4 : Nat) : Int) ≤ 100) (h1 : a0 ≤ 37) (h2 : 1 ≤ a2 ∧ a2 ≤ 11 ∧ (a1 < 0 → 2 ≤ a2) ∧ (a1 ≤ -10 → 3 ≤ a2) ∧ (10 ≤ a1 → 2 ≤ a2) ∧ (a1 ≤ -100 → 4 ≤ a2) ∧ (100 ≤ a1 → 3 ≤ a2) ∧ (a1 ≤ -1000 → 5 ≤ a2) ∧ (1000 ≤ a1 → 4 ≤ a2) ∧ (a1 ≤ -10000 → 6 ≤ a2) ∧ (10000 ≤ a1 → 5 ≤ a2) ∧ (a1 ≤ -100000 → 7 ≤ a2) ∧ (100000 ≤ a1 → 6 ≤ a2) ∧ (a1 ≤ -1000000 → 8 ≤ a2) ∧ (1000000 ≤ a1 → 7 ≤ a2) ∧ (a1 ≤ -10000000 → 9 ≤ a2) ∧ (10000000 ≤ a1 → 8 ≤ a2) ∧ (a1 ≤ -100000000 → 10 ≤ a2) ∧ (100000000 ≤ a1 → 9 ≤ a2) ∧ (a1 ≤ -1000000000 → 11 ≤ a2) ∧ (1000000000 ≤ a1 → 10 ≤ a2)) (h3 : a3 = a0 + a2 ∨ a0 + a2 < -2147483648 ∨ 2147483648 ≤ a0 + a2) : 0 ≤ a3 ∧ a3 ≤ 48 := by omega
theorem z_J5_append_c97b9_2 (a0 : Int) (a1 : Int) (a2 : Int) (a3 : Int) (a4 : Nat) (a5 : Nat) (h0 : 0 ≤ a0 ∧ a0 ≤ ((a5 : Nat) : Int) ∧ ((a5 : Nat) : Int) ≤ 100) (h1 : 1 ≤ a2 ∧ a2 ≤ 11 ∧ (a1 < 0 → 2 ≤ a2) ∧ (a1 ≤ -10 → 3 ≤ a2) ∧ (10 ≤ a1 → 2 ≤ a2) ∧ (a1 ≤ -100 → 4 ≤ a2) ∧ (100 ≤ a1 → 3 ≤ a2) ∧ (a1 ≤ -1000 → 5 ≤ a2) ∧ (1000 ≤ a1 → 4 ≤ a2) ∧ (a1 ≤ -10000 → 6 ≤ a2) ∧ (10000 ≤ a1 → 5 ≤ a2) ∧ (a1 ≤ -100000 → 7 ≤ a2) ∧ (100000 ≤ a1 → 6 ≤ a2) ∧ (a1 ≤ -1000000 → 8 ≤ a2) ∧ (1000000 ≤ a1 → 7 ≤ a2) ∧ (a1 ≤ -10000000 → 9 ≤ a2) ∧ (10000000 ≤ a1 → 8 ≤ a2) ∧ (a1 ≤ -100000000 → 10 ≤ a2) ∧ (100000000 ≤ a1 → 9 ≤ a2) ∧ (a1 ≤ -1000000000 → 11 ≤ a2) ∧ (1000000000 ≤ a1 → 10 ≤ a2)) (h2 : a3 = a0 + a2 ∨ a0 + a2 < -2147483648 ∨ 2147483648 ≤ a0 + a2) (h3 : a3 ≤ ((a4 : Nat) : Int) ∧ ((a5 : Nat) : Int) ≤ ((a4 : Nat) : Int)) : 1 ≤ a3 ∧ a3 ≤ ((a4 : Nat) : Int) := by omega
theorem z_J5_append_c97b9_3 (a0 : Int) (a1 : Int) (a2 : Int) (a3 : Int) (a4 : Nat) (h0 : 0 ≤ a0 ∧ a0 ≤ ((a4 : Nat) : Int) ∧ ((a4 : Nat) : Int) ≤ 100) (h1 : 1 ≤ a2 ∧ a2 ≤ 11 ∧ (a1 < 0 → 2 ≤ a2) ∧ (a1 ≤ -10 → 3 ≤ a2) ∧ (10 ≤ a1 → 2 ≤ a2) ∧ (a1 ≤ -100 → 4 ≤ a2) ∧ (100 ≤ a1 → 3 ≤ a2) ∧ (a1 ≤ -1000 → 5 ≤ a2) ∧ (1000 ≤ a1 → 4 ≤ a2) ∧ (a1 ≤ -10000 → 6 ≤ a2) ∧ (10000 ≤ a1 → 5 ≤ a2) ∧ (a1 ≤ -100000 → 7 ≤ a2) ∧ (100000 ≤ a1 → 6 ≤ a2) ∧ (a1 ≤ -1000000 → 8 ≤ a2) ∧ (1000000 ≤ a1 → 7 ≤ a2) ∧ (a1 ≤ -10000000 → 9 ≤ a2) ∧ (10000000 ≤ a1 → 8 ≤ a2) ∧ (a1 ≤ -100000000 → 10 ≤ a2) ∧ (100000000 ≤ a1 → 9 ≤ a2) ∧ (a1 ≤ -1000000000 → 11 ≤ a2) ∧ (1000000000 ≤ a1 → 10 ≤ a2)) (h2 : a3 = a0 + a2 ∨ a0 + a2 < -2147483648 ∨ 2147483648 ≤ a0 + a2) : a1 < 0 → 2 ≤ a3 := by omega
theorem z_J5_append_c97b9_4 (a0 : Int) (a1 : Int) (a2 : Int) (a3 : Int) (a4 : Nat) (h0 : 0 ≤ a0 ∧ a0 ≤ ((a4 : Nat) : Int) ∧ ((a4 : Nat) : Int) ≤ 100) (h1 : 1 ≤ a2 ∧ a2 ≤ 11 ∧ (a1 < 0 → 2 ≤ a2) ∧ (a1 ≤ -10 → 3 ≤ a2) ∧ (10 ≤ a1 → 2 ≤ a2) ∧ (a1 ≤ -100 → 4 ≤ a2) ∧ (100 ≤ a1 → 3 ≤ a2) ∧ (a1 ≤ -1000 → 5 ≤ a2) ∧ (1000 ≤ a1 → 4 ≤ a2) ∧ (a1 ≤ -10000 → 6 ≤ a2) ∧ (10000 ≤ a1 → 5 ≤ a2) ∧ (a1 ≤ -100000 → 7 ≤ a2) ∧ (100000 ≤ a1 → 6 ≤ a2) ∧ (a1 ≤ -1000000 → 8 ≤ a2) ∧ (1000000 ≤ a1 → 7 ≤ a2) ∧ (a1 ≤ -10000000 → 9 ≤ a2) ∧ (10000000 ≤ a1 → 8 ≤ a2) ∧ (a1 ≤ -100000000 → 10 ≤ a2) ∧ (100000000 ≤ a1 → 9 ≤ a2) ∧ (a1 ≤ -1000000000 → 11 ≤ a2) ∧ (1000000000 ≤ a1 → 10 ≤ a2)) (h2 : a3 = a0 + a2 ∨ a0 + a2 < -2147483648 ∨ 2147483648 ≤ a0 + a2) : (a1 ≤ -10 → 3 ≤ a3) ∧ (10 ≤ a1 → 2 ≤ a3) := by omega
theorem z_J5_append_c97b9_5 (a0 : Int) (a1 : Int) (a2 : Int) (a3 : Int) (a4 : Nat) (h0 : 0 ≤ a0 ∧ a0 ≤ ((a4 : Nat) : Int) ∧ ((a4 : Nat) : Int) ≤ 100) (h1 : 1 ≤ a2 ∧ a2 ≤ 11 ∧ (a1 < 0 → 2 ≤ a2) ∧ (a1 ≤ -10 → 3 ≤ a2) ∧ (10 ≤ a1 → 2 ≤ a2) ∧ (a1 ≤ -100 → 4 ≤ a2) ∧ (100 ≤ a1 → 3 ≤ a2) ∧ (a1 ≤ -1000 → 5 ≤ a2) ∧ (1000 ≤ a1 → 4 ≤ a2) ∧ (a1 ≤ -10000 → 6 ≤ a2) ∧ (10000 ≤ a1 → 5 ≤ a2) ∧ (a1 ≤ -100000 → 7 ≤ a2) ∧ (100000 ≤ a1 → 6 ≤ a2) ∧ (a1 ≤ -1000000 → 8 ≤ a2) ∧ (1000000 ≤ a1 → 7 ≤ a2) ∧ (a1 ≤ -10000000 → 9 ≤ a2) ∧ (10000000 ≤ a1 → 8 ≤ a2) ∧ (a1 ≤ -100000000 → 10 ≤ a2) ∧ (100000000 ≤ a1 → 9 ≤ a2) ∧ (a1 ≤ -1000000000 → 11 ≤ a2) ∧ (1000000000 ≤ a1 → 10 ≤ a2)) (h2 : a3 = a0 + a2 ∨ a0 + a2 < -2147483648 ∨ 2147483648 ≤ a0 + a2) : (a1 ≤ -100 → 4 ≤ a3) ∧ (100 ≤ a1 → 3 ≤ a3) := by omega
theorem z_J5_append_c97b9_6 (a0 : Int) (a1 : Int) (a2 : Int) (a3 : Int) (a4 : Nat) (h0 : 0 ≤ a0 ∧ a0 ≤ ((a4 : Nat) : Int) ∧ ((a4 : Nat) : Int) ≤ 100) (h1 : 1 ≤ a2 ∧ a2 ≤ 11 ∧ (a1 < 0 → 2 ≤ a2) ∧ (a1 ≤ -10 → 3 ≤ a2) ∧ (10 ≤ a1 → 2 ≤ a2) ∧ (a1 ≤ -100 → 4 ≤ a2) ∧ (100 ≤ a1 → 3 ≤ a2) ∧ (a1 ≤ -1000 → 5 ≤ a2) ∧ (1000 ≤ a1 → 4 ≤ a2) ∧ (a1 ≤ -10000 → 6 ≤ a2) ∧ (10000 ≤ a1 → 5 ≤ a2) ∧ (a1 ≤ -100000 → 7 ≤ a2) ∧ (100000 ≤ a1 → 6 ≤ a2) ∧ (a1 ≤ -1000000 → 8 ≤ a2) ∧ (1000000 ≤ a1 → 7 ≤ a2) ∧ (a1 ≤ -10000000 → 9 ≤ a2) ∧ (10000000 ≤ a1 → 8 ≤ a2) ∧ (a1 ≤ -100000000 → 10 ≤ a2) ∧ (100000000 ≤ a1 → 9 ≤ a2) ∧ (a1 ≤ -1000000000 → 11 ≤ a2) ∧ (1000000000 ≤ a1 → 10 ≤ a2)) (h2 : a3 = a0 + a2 ∨ a0 + a2 < -2147483648 ∨ 2147483648 ≤ a0 + a2) : (a1 ≤ -1000 → 5 ≤ a3) ∧ (1000 ≤ a1 → 4 ≤ a3) := by omega
theorem z_J5_append_c97b9_7 (a0 : Int) (a1 : Int) (a2 : Int) (a3 : Int) (a4 : Nat) (h0 : 0 ≤ a0 ∧ a0 ≤ ((a4 : Nat) : Int) ∧ ((a4 : Nat) : Int) ≤ 100) (h1 : 1 ≤ a2 ∧ a2 ≤ 11 ∧ (a1 < 0 → 2 ≤ a2) ∧ (a1 ≤ -10 → 3 ≤ a2) ∧ (10 ≤ a1 → 2 ≤ a2) ∧ (a1 ≤ -100 → 4 ≤ a2) ∧ (100 ≤ a1 → 3 ≤ a2) ∧ (a1 ≤ -1000 → 5 ≤ a2) ∧ (1000 ≤ a1 → 4 ≤ a2) ∧ (a1 ≤ -10000 → 6 ≤ a2) ∧ (10000 ≤ a1 → 5 ≤ a2) ∧ (a1 ≤ -100000 → 7 ≤ a2) ∧ (100000 ≤ a1 → 6 ≤ a2) ∧ (a1 ≤ -1000000 → 8 ≤ a2) ∧ (1000000 ≤ a1 → 7 ≤ a2) ∧ (a1 ≤ -10000000 → 9 ≤ a2) ∧ (10000000 ≤ a1 → 8 ≤ a2) ∧ (a1 ≤ -100000000 → 10 ≤ a2) ∧ (100000000 ≤ a1 → 9 ≤ a2) ∧ (a1 ≤ -1000000000 → 11 ≤ a2) ∧ (1000000000 ≤ a1 → 10 ≤ a2)) (h2 : a3 = a0 + a2 ∨ a0 + a2 < -2147483648 ∨ 2147483648 ≤ a0 + a2) : (a1 ≤ -10000 → 6 ≤ a3) ∧ (10000 ≤ a1 → 5 ≤ a3) := by omega
theorem z_J5_append_c97b9_8 (a0 : Int) (a1 : Int) (a2 : Int) (a3 : Int) (a4 : Nat) (h0 : 0 ≤ a0 ∧ a0 ≤ ((a4 : Nat) : Int) ∧ ((a4 : Nat) : Int) ≤ 100) (h1 : 1 ≤ a2 ∧ a2 ≤ 11 ∧ (a1 < 0 → 2 ≤ a2) ∧ (a1 ≤ -10 → 3 ≤ a2) ∧ (10 ≤ a1 → 2 ≤ a2) ∧ (a1 ≤ -100 → 4 ≤ a2) ∧ (100 ≤ a1 → 3 ≤ a2) ∧ (a1 ≤ -1000 → 5 ≤ a2) ∧ (1000 ≤ a1 → 4 ≤ a2) ∧ (a1 ≤ -10000 → 6 ≤ a2) ∧ (10000 ≤ a1 → 5 ≤ a2) ∧ (a1 ≤ -100000 → 7 ≤ a2) ∧ (100000 ≤ a1 → 6 ≤ a2) ∧ (a1 ≤ -1000000 → 8 ≤ a2) ∧ (1000000 ≤ a1 → 7 ≤ a2) ∧ (a1 ≤ -10000000 → 9 ≤ a2) ∧ (10000000 ≤ a1 → 8 ≤ a2) ∧ (a1 ≤ -100000000 → 10 ≤ a2) ∧ (100000000 ≤ a1 → 9 ≤ a2) ∧ (a1 ≤ -1000000000 → 11 ≤ a2) ∧ (1000000000 ≤ a1 → 10 ≤ a2)) (h2 : a3 = a0 + a2 ∨ a0 + a2 < -2147483648 ∨ 2147483648 ≤ a0 + a2) : (a1 ≤ -100000 → 7 ≤ a3) ∧ (100000 ≤ a1 → 6 ≤ a3) := by omega
theorem z_J5_append_c97b9_9 (a0 : Int) (a1 : Int) (a2 : Int) (a3 : Int) (a4 : Nat) (h0 : 0 ≤ a0 ∧ a0 ≤ ((a4 : Nat) : Int) ∧ ((a4 : Nat) : Int) ≤ 100) (h1 : 1 ≤ a2 ∧ a2 ≤ 11 ∧ (a1 < 0 → 2 ≤ a2) ∧ (a1 ≤ -10 → 3 ≤ a2) ∧ (10 ≤ a1 → 2 ≤ a2) ∧ (a1 ≤ -100 → 4 ≤ a2) ∧ (100 ≤ a1 → 3 ≤ a2) ∧ (a1 ≤ -1000 → 5 ≤ a2) ∧ (1000 ≤ a1 → 4 ≤ a2) ∧ (a1 ≤ -10000 → 6 ≤ a2) ∧ (10000 ≤ a1 → 5 ≤ a2) ∧ (a1 ≤ -100000 → 7 ≤ a2) ∧ (100000 ≤ a1 → 6 ≤ a2) ∧ (a1 ≤ -1000000 → 8 ≤ a2) ∧ (1000000 ≤ a1 → 7 ≤ a2) ∧ (a1 ≤ -10000000 → 9 ≤ a2) ∧ (10000000 ≤ a1 → 8 ≤ a2) ∧ (a1 ≤ -100000000 → 10 ≤ a2) ∧ (100000000 ≤ a1 → 9 ≤ a2) ∧ (a1 ≤ -1000000000 → 11 ≤ a2) ∧ (1000000000 ≤ a1 → 10 ≤ a2)) (h2 : a3 = a0 + a2 ∨ a0 + a2 < -2147483648 ∨ 2147483648 ≤ a0 + a2) : (a1 ≤ -1000000 → 8 ≤ a3) ∧ (1000000 ≤ a1 → 7 ≤ a3) := by omega
theorem z_J5_append_c97b9_10 (a0 : Int) (a1 : Int) (a2 : Int) (a3 : Int) (a4 : Nat) (h0 : 0 ≤ a0 ∧ a0 ≤ ((a4 : Nat) : Int) ∧ ((a4 : Nat) : Int) ≤ 100) (h1 : 1 ≤ a2 ∧ a2 ≤ 11 ∧ (a1 < 0 → 2 ≤ a2) ∧ (a1 ≤ -10 → 3 ≤ a2) ∧ (10 ≤ a1 → 2 ≤ a2) ∧ (a1 ≤ -100 → 4 ≤ a2) ∧ (100 ≤ a1 → 3 ≤ a2) ∧ (a1 ≤ -1000 → 5 ≤ a2) ∧ (1000 ≤ a1 → 4 ≤ a2) ∧ (a1 ≤ -10000 → 6 ≤ a2) ∧ (10000 ≤ a1 → 5 ≤ a2) ∧ (a1 ≤ -100000 → 7 ≤ a2) ∧ (100000 ≤ a1 → 6 ≤ a2) ∧ (a1 ≤ -1000000 → 8 ≤ a2) ∧ (1000000 ≤ a1 → 7 ≤ a2) ∧ (a1 ≤ -10000000 → 9 ≤ a2) ∧ (10000000 ≤ a1 → 8 ≤ a2) ∧ (a1 ≤ -100000000 → 10 ≤ a2) ∧ (100000000 ≤ a1 → 9 ≤ a2) ∧ (a1 ≤ -1000000000 → 11 ≤ a2) ∧ (1000000000 ≤ a1 → 10 ≤ a2)) (h2 : a3 = a0 + a2 ∨ a0 + a2 < -2147483648 ∨ 2147483648 ≤ a0 + a2) : (a1 ≤ -10000000 → 9 ≤ a3) ∧ (10000000 ≤ a1 → 8 ≤ a3) := by omega
theorem z_J5_append_c97b9_11 (a0 : Int) (a1 : Int) (a2 : Int) (a3 : Int) (a4 : Nat) (h0 : 0 ≤ a0 ∧ a0 ≤ ((a4 : Nat) : Int) ∧ ((a4 : Nat) : Int) ≤ 100) (h1 : 1 ≤ a2 ∧ a2 ≤ 11 ∧ (a1 < 0 → 2 ≤ a2) ∧ (a1 ≤ -10 → 3 ≤ a2) ∧ (10 ≤ a1 → 2 ≤ a2) ∧ (a1 ≤ -100 → 4 ≤ a2) ∧ (100 ≤ a1 → 3 ≤ a2) ∧ (a1 ≤ -1000 → 5 ≤ a2) ∧ (1000 ≤ a1 → 4 ≤ a2) ∧ (a1 ≤ -10000 → 6 ≤ a2) ∧ (10000 ≤ a1 → 5 ≤ a2) ∧ (a1 ≤ -100000 → 7 ≤ a2) ∧ (100000 ≤ a1 → 6 ≤ a2) ∧ (a1 ≤ -1000000 → 8 ≤ a2) ∧ (1000000 ≤ a1 → 7 ≤ a2) ∧ (a1 ≤ -10000000 → 9 ≤ a2) ∧ (10000000 ≤ a1 → 8 ≤ a2) ∧ (a1 ≤ -100000000 → 10 ≤ a2) ∧ (100000000 ≤ a1 → 9 ≤ a2) ∧ (a1 ≤ -1000000000 → 11 ≤ a2) ∧ (1000000000 ≤ a1 → 10 ≤ a2)) (h2 : a3 = a0 + a2 ∨ a0 + a2 < -2147483648 ∨ 2147483648 ≤ a0 + a2) : (a1 ≤ -100000000 → 10 ≤ a3) ∧ (100000000 ≤ a1 → 9 ≤ a3) := by omega
theorem z_J5_append_c97b9_12 (a0 : Int) (a1 : Int) (a2 : Int) (a3 : Int) (a4 : Nat) (h0 : 0 ≤ a0 ∧ a0 ≤ ((a4 : Nat) : Int) ∧ ((a4 : Nat) : Int) ≤ 100) (h1 : 1 ≤ a2 ∧ a2 ≤ 11 ∧ (a1 < 0 → 2 ≤ a2) ∧ (a1 ≤ -10 → 3 ≤ a2) ∧ (10 ≤ a1 → 2 ≤ a2) ∧ (a1 ≤ -100 → 4 ≤ a2) ∧ (100 ≤ a1 → 3 ≤ a2) ∧ (a1 ≤ -1000 → 5 ≤ a2) ∧ (1000 ≤ a1 → 4 ≤ a2) ∧ (a1 ≤ -10000 → 6 ≤ a2) ∧ (10000 ≤ a1 → 5 ≤ a2) ∧ (a1 ≤ -100000 → 7 ≤ a2) ∧ (100000 ≤ a1 → 6 ≤ a2) ∧ (a1 ≤ -1000000 → 8 ≤ a2) ∧ (1000000 ≤ a1 → 7 ≤ a2) ∧ (a1 ≤ -10000000 → 9 ≤ a2) ∧ (10000000 ≤ a1 → 8 ≤ a2) ∧ (a1 ≤ -100000000 → 10 ≤ a2) ∧ (100000000 ≤ a1 → 9 ≤ a2) ∧ (a1 ≤ -1000000000 → 11 ≤ a2) ∧ (1000000000 ≤ a1 → 10 ≤ a2)) (h2 : a3 = a0 + a2 ∨ a0 + a2 < -2147483648 ∨ 2147483648 ≤ a0 + a2) : (a1 ≤ -1000000000 → 11 ≤ a3) ∧ (1000000000 ≤ a1 → 10 ≤ a3) := by omega
theorem z_J5_append_c97b9_13 (a0 : Int) (a1 : Int) (a2 : Int) (a3 : Int) (a4 : Int) (a5 : Nat) (a6 : Nat) (a7 : Nat) (h0 : 0 ≤ a0 ∧ a0 ≤ ((a7 : Nat) : Int) ∧ ((a7 : Nat) : Int) ≤ 100) (h1 : 1 ≤ a3 ∧ a3 ≤ 11 ∧ (a2 < 0 → 2 ≤ a3) ∧ (a2 ≤ -10 → 3 ≤ a3) ∧ (10 ≤ a2 → 2 ≤ a3) ∧ (a2 ≤ -100 → 4 ≤ a3) ∧ (100 ≤ a2 → 3 ≤ a3) ∧ (a2 ≤ -1000 → 5 ≤ a3) ∧ (1000 ≤ a2 → 4 ≤ a3) ∧ (a2 ≤ -10000 → 6 ≤ a3) ∧ (10000 ≤ a2 → 5 ≤ a3) ∧ (a2 ≤ -100000 → 7 ≤ a3) ∧ (100000 ≤ a2 → 6 ≤ a3) ∧ (a2 ≤ -1000000 → 8 ≤ a3) ∧ (1000000 ≤ a2 → 7 ≤ a3) ∧ (a2 ≤ -10000000 → 9 ≤ a3) ∧ (10000000 ≤ a2 → 8 ≤ a3) ∧ (a2 ≤ -100000000 → 10 ≤ a3) ∧ (100000000 ≤ a2 → 9 ≤ a3) ∧ (a2 ≤ -1000000000 → 11 ≤ a3) ∧ (1000000000 ≤ a2 → 10 ≤ a3)) (h2 : a4 = a0 + a3 ∨ a0 + a3 < -2147483648 ∨ 2147483648 ≤ a0 + a3) (h3 : a4 ≤ ((a6 : Nat) : Int) ∧ ((a7 : Nat) : Int) ≤ ((a6 : Nat) : Int)) (h4 : a1 = a0 ∧ ((a5 : Nat) : Int) = ((a6 : Nat) : Int)) : 0 ≤ a4 ∧ a4 ≤ ((a5 : Nat) : Int) := by omega
theorem z_J5_append_c97b9_14 (a0 : Int) (a1 : Int) (a2 : Int) (a3 : Int) (a4 : Int) (a5 : Nat) (a6 : Nat) (h0 : 1 ≤ a3 ∧ a3 ≤ 11 ∧ (a2 < 0 → 2 ≤ a3) ∧ (a2 ≤ -10 → 3 ≤ a3) ∧ (10 ≤ a2 → 2 ≤ a3) ∧ (a2 ≤ -100 → 4 ≤ a3) ∧ (100 ≤ a2 → 3 ≤ a3) ∧ (a2 ≤ -1000 → 5 ≤ a3) ∧ (1000 ≤ a2 → 4 ≤ a3) ∧ (a2 ≤ -10000 → 6 ≤ a3) ∧ (10000 ≤ a2 → 5 ≤ a3) ∧ (a2 ≤ -100000 → 7 ≤ a3) ∧ (100000 ≤ a2 → 6 ≤ a3) ∧ (a2 ≤ -1000000 → 8 ≤ a3) ∧ (1000000 ≤ a2 → 7 ≤ a3) ∧ (a2 ≤ -10000000 → 9 ≤ a3) ∧ (10000000 ≤ a2 → 8 ≤ a3) ∧ (a2 ≤ -100000000 → 10 ≤ a3) ∧ (100000000 ≤ a2 → 9 ≤ a3) ∧ (a2 ≤ -1000000000 → 11 ≤ a3) ∧ (1000000000 ≤ a2 → 10 ≤ a3)) (h1 : a4 = a0 + a3 ∨ a0 + a3 < -2147483648 ∨ 2147483648 ≤ a0 + a3) (h2 : a1 = a0 ∧ ((a5 : Nat) : Int) = ((a6 : Nat) : Int)) (h3 : 0 ≤ a1 ∧ a1 ≤ ((a5 : Nat) : Int) ∧ ((a5 : Nat) : Int) ≤ 100) : a0 ≤ a4 ∧ a4 ≤ a0 + 11 := by omega
abbrev rm_J5_append_c97b9 : Room := { frames := 4, cells := 1, slots := 100, locals := 104 }
set_option maxHeartbeats 4000000 in
set_option maxRecDepth 100000 in
theorem c_J5_append_c97b9 (l : Launch) (E : XE) (K : Nat → Nat) (F : Nat → Nat → Nat) (G : XG) (v n : Nat) (cnt : Int32) (p0 : Int32) (e1 : cnt.toInt ≤ 37) : Met l yJ5_append_c97b9 (xw yJ5_append_c97b9 cJ5_append_c97b9 4 (some (.object "java/lang/AbstractStringBuilder"))) rm_J5_append_c97b9 (va_Pc [.ref E.2.2.2.1, .int p0] (XPb E K F G v n cnt)) (XQ E (fun v (u : Nat × Nat × Int32) => v = .ref E.2.2.2.1 ∧ cnt.toInt ≤ u.2.2.toInt ∧ u.2.2.toInt ≤ cnt.toInt + 11) (fun u H => TWb E K F G u.1 u.2.1 u.2.2 H)) 1 100 (xA E) := by
  refine x_enter (by decide) (Nat.le_of_ble_eq_true rfl) ?_
  intro p e s m args below meth c Q S hr hlk hnm hQ hP ls hl
  obtain ⟨hz, hK, hT⟩ := hP
  obtain ⟨hx, hb, -, -, -⟩ := id S
  obtain ⟨H, hT, hS, hgo⟩ : ∃ H : Heap, TWb E K F G v n cnt H ∧ va_S (xA E) s.heap H [] ∧ H = s.heap := ⟨_, hT, va_S.rf, rfl⟩
  rw [← hgo]
  have hl : lv_has ls 4 [(0, .ref E.2.2.2.1), (1, .int p0)] := hl
  have e9 := hT.inv
  refine lv_aload_n hx hb dJ5_append_c97b9_0 rfl (lv_at hl 0 rfl) ?_
  refine sbg_count S hK hT kf_J5_79 dJ5_append_c97b9_1 ?_
  refine lv_istore_n (lv' := [(2, .int cnt), (0, .ref E.2.2.2.1), (1, .int p0)]) hx hb dJ5_append_c97b9_4 rfl hl (by decide) rfl (fun ls hl => ?_)
  refine lv_iload_n hx hb dJ5_append_c97b9_5 rfl (lv_at hl 0 rfl) ?_
  refine lv_iload_n hx hb dJ5_append_c97b9_6 rfl (lv_at hl 2 rfl) ?_
  refine x_clp (x_runS (As := [.int p0]) (rest := [.int cnt]) S (c_J6_stringSize_0f7a4 l E K F G H p0) ms_J6_stringSize_0f7a4 km_J5_245 rfl rfl ⟨Nat.le_of_ble_eq_true rfl, Nat.le_of_ble_eq_true rfl⟩ hK (fun _ => XPh.blind) (fun U hU hW => XPh.at hK hz hS hT.cl hU hW) rfl hl.1 (Nat.le_of_ble_eq_true rfl) dJ5_append_c97b9_7 ⟨Nat.le_of_ble_eq_true rfl, Nat.le_of_ble_eq_true rfl⟩) hS ?_
  rintro _ _ locs ⟨x1, rfl, t2⟩ hS
  have t2 : 1 ≤ x1.toInt ∧ x1.toInt ≤ 11 ∧ (p0.toInt < 0 → 2 ≤ x1.toInt) ∧ (p0.toInt ≤ -10 → 3 ≤ x1.toInt) ∧ (10 ≤ p0.toInt → 2 ≤ x1.toInt) ∧ (p0.toInt ≤ -100 → 4 ≤ x1.toInt) ∧ (100 ≤ p0.toInt → 3 ≤ x1.toInt) ∧ (p0.toInt ≤ -1000 → 5 ≤ x1.toInt) ∧ (1000 ≤ p0.toInt → 4 ≤ x1.toInt) ∧ (p0.toInt ≤ -10000 → 6 ≤ x1.toInt) ∧ (10000 ≤ p0.toInt → 5 ≤ x1.toInt) ∧ (p0.toInt ≤ -100000 → 7 ≤ x1.toInt) ∧ (100000 ≤ p0.toInt → 6 ≤ x1.toInt) ∧ (p0.toInt ≤ -1000000 → 8 ≤ x1.toInt) ∧ (1000000 ≤ p0.toInt → 7 ≤ x1.toInt) ∧ (p0.toInt ≤ -10000000 → 9 ≤ x1.toInt) ∧ (10000000 ≤ p0.toInt → 8 ≤ x1.toInt) ∧ (p0.toInt ≤ -100000000 → 10 ≤ x1.toInt) ∧ (100000000 ≤ p0.toInt → 9 ≤ x1.toInt) ∧ (p0.toInt ≤ -1000000000 → 11 ≤ x1.toInt) ∧ (1000000000 ≤ p0.toInt → 10 ≤ x1.toInt) := t2
  refine xi_iadd hx hb (rfl : Int32.toInt cnt = cnt.toInt) (rfl : Int32.toInt x1 = x1.toInt) dJ5_append_c97b9_10 (fun x3 t4 => ?_)
  refine lv_istore_n (lv' := [(3, .int x3), (2, .int cnt), (0, .ref E.2.2.2.1), (1, .int p0)]) hx hb dJ5_append_c97b9_11 rfl hl (by decide) rfl (fun ls hl => ?_)
  refine lv_aload_n hx hb dJ5_append_c97b9_12 rfl (lv_at hl 2 rfl) ?_
  refine lv_iload_n hx hb dJ5_append_c97b9_13 rfl (lv_at hl 0 rfl) ?_
  refine x_cv (x_runV (b := E.2.2.2.1) (As := [.int x3]) (rest := []) S (c_J5_ensureCapacityInternal_d00df l E K F G v n cnt x3 (z_J5_append_c97b9_1 cnt.toInt p0.toInt x1.toInt x3.toInt n e9 e1 t2 t4)) mw_J5_ensureCapacityInternal_d00df km_J5_100 rfl rfl ⟨Nat.le_of_ble_eq_true rfl, Nat.le_of_ble_eq_true rfl⟩ (rc_sb hK hT) hK (fun _ => XPb.blind) (fun U hU hW => XPb.at hK hz hS hT hU hW) rfl hl.1 (Nat.le_of_ble_eq_true rfl) dJ5_append_c97b9_14 ⟨Nat.le_of_ble_eq_true rfl, Nat.le_of_ble_eq_true rfl⟩) hS ?_
  rintro ⟨q5, n6⟩ H locs t7 hT hS
  have t7 : x3.toInt ≤ (((n6) : Nat) : Int) ∧ (((n) : Nat) : Int) ≤ (((n6) : Nat) : Int) := t7
  have hT : TWb E K F G q5 n6 cnt H := hT
  have v8 : 0 ≤ cnt.toInt ∧ cnt.toInt ≤ (((n6) : Nat) : Int) ∧ (((n6) : Nat) : Int) ≤ 100 := hT.inv
  refine lv_aload_n hx hb dJ5_append_c97b9_17 rfl (lv_at hl 2 rfl) ?_
  refine x_clp (x_runV (b := E.2.2.2.1) (As := []) (rest := []) S (c_J5_isLatin1_aae02 l E K F G q5 n6 cnt H ) mw_J5_isLatin1_aae02 km_J5_83 rfl rfl ⟨Nat.le_of_ble_eq_true rfl, Nat.le_of_ble_eq_true rfl⟩ (rc_sb hK hT) hK (fun _ => XPbh.blind) (fun U hU hW => XPbh.at hK hz hS hT hU hW) rfl hl.1 (Nat.le_of_ble_eq_true rfl) dJ5_append_c97b9_18 ⟨Nat.le_of_ble_eq_true rfl, Nat.le_of_ble_eq_true rfl⟩) hS ?_
  rintro _ _ locs ⟨_, rfl, rfl⟩ hS
  refine xi_zeq (tgt := 37) hx hb ((by decide) : Int32.toInt 1 = (1 : Int)) dJ5_append_c97b9_21 (by decide) (fun c => absurd c (show ¬ ((1 : Int) = 0) by decide)) (fun _ => ?_)
  refine lv_iload_n hx hb dJ5_append_c97b9_24 rfl (lv_at hl 3 rfl) ?_
  refine lv_iload_n hx hb dJ5_append_c97b9_25 rfl (lv_at hl 0 rfl) ?_
  refine lv_aload_n hx hb dJ5_append_c97b9_26 rfl (lv_at hl 2 rfl) ?_
  refine sbg_value S hK hT kf_J5_15 dJ5_append_c97b9_27 ?_
  refine x_cl0 (x_runS (As := [.int p0, .int x3, .ref q5]) (rest := []) S (c_J6_getChars_ba4f3 l E K F G q5 n6 cnt p0 x3 (z_J5_append_c97b9_2 cnt.toInt p0.toInt x1.toInt x3.toInt n6 n e9 t2 t4 t7) (z_J5_append_c97b9_3 cnt.toInt p0.toInt x1.toInt x3.toInt n e9 t2 t4) (z_J5_append_c97b9_4 cnt.toInt p0.toInt x1.toInt x3.toInt n e9 t2 t4) (z_J5_append_c97b9_5 cnt.toInt p0.toInt x1.toInt x3.toInt n e9 t2 t4) (z_J5_append_c97b9_6 cnt.toInt p0.toInt x1.toInt x3.toInt n e9 t2 t4) (z_J5_append_c97b9_7 cnt.toInt p0.toInt x1.toInt x3.toInt n e9 t2 t4) (z_J5_append_c97b9_8 cnt.toInt p0.toInt x1.toInt x3.toInt n e9 t2 t4) (z_J5_append_c97b9_9 cnt.toInt p0.toInt x1.toInt x3.toInt n e9 t2 t4) (z_J5_append_c97b9_10 cnt.toInt p0.toInt x1.toInt x3.toInt n e9 t2 t4) (z_J5_append_c97b9_11 cnt.toInt p0.toInt x1.toInt x3.toInt n e9 t2 t4) (z_J5_append_c97b9_12 cnt.toInt p0.toInt x1.toInt x3.toInt n e9 t2 t4)) ms_J6_getChars_ba4f3 km_J5_248 rfl rfl ⟨Nat.le_of_ble_eq_true rfl, Nat.le_of_ble_eq_true rfl⟩ hK (fun _ => XPb.blind) (fun U hU hW => XPb.at hK hz hS hT hU hW) rfl hl.1 (Nat.le_of_ble_eq_true rfl) dJ5_append_c97b9_30 ⟨Nat.le_of_ble_eq_true rfl, Nat.le_of_ble_eq_true rfl⟩) hS ?_
  rintro _ ⟨q9, n10, k11⟩ H locs ⟨⟨x13, rfl⟩, t12⟩ hT hS
  have t12 : k11.toInt = cnt.toInt ∧ (((n10) : Nat) : Int) = (((n6) : Nat) : Int) := t12
  have hT : TWb E K F G q9 n10 k11 H := hT
  have v14 : 0 ≤ k11.toInt ∧ k11.toInt ≤ (((n10) : Nat) : Int) ∧ (((n10) : Nat) : Int) ≤ 100 := hT.inv
  refine lv_pop hx hb dJ5_append_c97b9_33 rfl ?_
  refine lv_goto (tgt := 48) hx hb dJ5_append_c97b9_34 (by decide) ?_
  refine lv_aload_n hx hb dJ5_append_c97b9_48 rfl (lv_at hl 2 rfl) ?_
  refine lv_iload_n hx hb dJ5_append_c97b9_49 rfl (lv_at hl 0 rfl) ?_
  refine sbp_count (x := x3) S hK hT hS kf_J5_79 (z_J5_append_c97b9_13 cnt.toInt k11.toInt p0.toInt x1.toInt x3.toInt n10 n6 n e9 t2 t4 t7 t12) dJ5_append_c97b9_50 (fun H locs hT hS => ?_)
  refine lv_aload_n hx hb dJ5_append_c97b9_53 rfl (lv_at hl 2 rfl) ?_
  exact x_ra hx hb hr (by first | exact Or.inl ⟨_, rfl⟩ | exact Or.inr ⟨_, rfl⟩) (by first | exact Or.inl rfl | exact Or.inr ⟨_, rfl⟩) hlk hQ (Nat.le_of_ble_eq_true rfl) (Nat.le_of_ble_eq_true rfl) hS dJ5_append_c97b9_54 (q9, n10, x3) ⟨rfl, (z_J5_append_c97b9_14 cnt.toInt k11.toInt p0.toInt x1.toInt x3.toInt n10 n6 t2 t4 t12 v14)⟩ hT

theorem z_J5_append_3fe6f_1 (a0 : Int) (a1 : Int) (a2 : Nat) (h0 : 0 ≤ a0 ∧ a0 ≤ ((a2 : Nat) : Int) ∧ ((a2 : Nat) : Int) ≤ 100) (h1 : a0 ≤ 47) (h2 : a1 = a0 + (1 : Int) ∨ a0 + (1 : Int) < -2147483648 ∨ 2147483648 ≤ a0 + (1 : Int)) : 0 ≤ a1 ∧ a1 ≤ 48 := by omega
theorem z_J5_append_3fe6f_2 (a0 : Int) (a1 : Int) (h0 : a0 ≤ 255) (h1 : a0 ≤ 255 → a1 = 1) (h2 : a1 = 0) : (0 : Int) = 1 ∧ a1 = a1 := by omega
theorem z_J5_append_3fe6f_3 (a0 : Int) (a1 : Int) (a2 : Int) (a3 : Nat) (a4 : Nat) (h0 : 0 ≤ a0 ∧ a0 ≤ ((a4 : Nat) : Int) ∧ ((a4 : Nat) : Int) ≤ 100) (h1 : a1 = a0 + (1 : Int) ∨ a0 + (1 : Int) < -2147483648 ∨ 2147483648 ≤ a0 + (1 : Int)) (h2 : a1 ≤ ((a3 : Nat) : Int) ∧ ((a4 : Nat) : Int) ≤ ((a3 : Nat) : Int)) (h3 : a2 = a0 + (1 : Int) ∨ a0 + (1 : Int) < -2147483648 ∨ 2147483648 ≤ a0 + (1 : Int)) : 0 ≤ a2 ∧ a2 ≤ ((a3 : Nat) : Int) := by omega
theorem z_J5_append_3fe6f_4 (a0 : Int) (a1 : Int) (a2 : Nat) (a3 : Nat) (h0 : 0 ≤ a0 ∧ a0 ≤ ((a3 : Nat) : Int) ∧ ((a3 : Nat) : Int) ≤ 100) (h1 : a1 = a0 + (1 : Int) ∨ a0 + (1 : Int) < -2147483648 ∨ 2147483648 ≤ a0 + (1 : Int)) (h2 : a1 ≤ ((a2 : Nat) : Int) ∧ ((a3 : Nat) : Int) ≤ ((a2 : Nat) : Int)) : 0 ≤ a0 ∧ a0 < ((a2 : Nat) : Int) := by omega
theorem z_J5_append_3fe6f_5 (a0 : Int) (a1 : Int) (a2 : Nat) (h0 : 0 ≤ a0 ∧ a0 ≤ ((a2 : Nat) : Int) ∧ ((a2 : Nat) : Int) ≤ 100) (h1 : a1 = a0 + (1 : Int) ∨ a0 + (1 : Int) < -2147483648 ∨ 2147483648 ≤ a0 + (1 : Int)) : a1 = a0 + 1 := by omega
abbrev rm_J5_append_3fe6f : Room := { frames := 4, cells := 1, slots := 100, locals := 104 }
set_option maxHeartbeats 4000000 in
set_option maxRecDepth 100000 in
theorem c_J5_append_3fe6f (l : Launch) (E : XE) (K : Nat → Nat) (F : Nat → Nat → Nat) (G : XG) (v n : Nat) (cnt : Int32) (p0 : Int32) (e1 : cnt.toInt ≤ 47) (e2 : p0.toInt ≤ 255) : Met l yJ5_append_3fe6f (xw yJ5_append_3fe6f cJ5_append_3fe6f 2 (some (.object "java/lang/AbstractStringBuilder"))) rm_J5_append_3fe6f (va_Pc [.ref E.2.2.2.1, .int p0] (XPb E K F G v n cnt)) (XQ E (fun v (u : Nat × Nat × Int32) => v = .ref E.2.2.2.1 ∧ u.2.2.toInt = cnt.toInt + 1) (fun u H => TWb E K F G u.1 u.2.1 u.2.2 H)) 1 100 (xA E) := by
  refine x_enter (by decide) (Nat.le_of_ble_eq_true rfl) ?_
  intro p e s m args below meth c Q S hr hlk hnm hQ hP ls hl
  obtain ⟨hz, hK, hT⟩ := hP
  obtain ⟨hx, hb, -, -, -⟩ := id S
  obtain ⟨H, hT, hS, hgo⟩ : ∃ H : Heap, TWb E K F G v n cnt H ∧ va_S (xA E) s.heap H [] ∧ H = s.heap := ⟨_, hT, va_S.rf, rfl⟩
  rw [← hgo]
  have hl : lv_has ls 2 [(0, .ref E.2.2.2.1), (1, .int p0)] := hl
  have e9 := hT.inv
  refine lv_aload_n hx hb dJ5_append_3fe6f_0 rfl (lv_at hl 0 rfl) ?_
  refine lv_aload_n hx hb dJ5_append_3fe6f_1 rfl (lv_at hl 0 rfl) ?_
  refine sbg_count S hK hT kf_J5_79 dJ5_append_3fe6f_2 ?_
  refine lv_iconst (v := 1) hx hb dJ5_append_3fe6f_5 (by decide) ?_
  refine xi_iadd hx hb (rfl : Int32.toInt cnt = cnt.toInt) ((by decide) : Int32.toInt 1 = (1 : Int)) dJ5_append_3fe6f_6 (fun x1 t2 => ?_)
  refine x_cv (x_runV (b := E.2.2.2.1) (As := [.int x1]) (rest := []) S (c_J5_ensureCapacityInternal_d00df l E K F G v n cnt x1 (z_J5_append_3fe6f_1 cnt.toInt x1.toInt n e9 e1 t2)) mw_J5_ensureCapacityInternal_d00df km_J5_100 rfl rfl ⟨Nat.le_of_ble_eq_true rfl, Nat.le_of_ble_eq_true rfl⟩ (rc_sb hK hT) hK (fun _ => XPb.blind) (fun U hU hW => XPb.at hK hz hS hT hU hW) rfl hl.1 (Nat.le_of_ble_eq_true rfl) dJ5_append_3fe6f_7 ⟨Nat.le_of_ble_eq_true rfl, Nat.le_of_ble_eq_true rfl⟩) hS ?_
  rintro ⟨q3, n4⟩ H locs t5 hT hS
  have t5 : x1.toInt ≤ (((n4) : Nat) : Int) ∧ (((n) : Nat) : Int) ≤ (((n4) : Nat) : Int) := t5
  have hT : TWb E K F G q3 n4 cnt H := hT
  have v6 : 0 ≤ cnt.toInt ∧ cnt.toInt ≤ (((n4) : Nat) : Int) ∧ (((n4) : Nat) : Int) ≤ 100 := hT.inv
  refine lv_aload_n hx hb dJ5_append_3fe6f_10 rfl (lv_at hl 0 rfl) ?_
  refine x_clp (x_runV (b := E.2.2.2.1) (As := []) (rest := []) S (c_J5_isLatin1_aae02 l E K F G q3 n4 cnt H ) mw_J5_isLatin1_aae02 km_J5_83 rfl rfl ⟨Nat.le_of_ble_eq_true rfl, Nat.le_of_ble_eq_true rfl⟩ (rc_sb hK hT) hK (fun _ => XPbh.blind) (fun U hU hW => XPbh.at hK hz hS hT hU hW) rfl hl.1 (Nat.le_of_ble_eq_true rfl) dJ5_append_3fe6f_11 ⟨Nat.le_of_ble_eq_true rfl, Nat.le_of_ble_eq_true rfl⟩) hS ?_
  rintro _ _ locs ⟨_, rfl, rfl⟩ hS
  refine xi_zeq (tgt := 45) hx hb ((by decide) : Int32.toInt 1 = (1 : Int)) dJ5_append_3fe6f_14 (by decide) (fun c => absurd c (show ¬ ((1 : Int) = 0) by decide)) (fun _ => ?_)
  refine lv_iload_n hx hb dJ5_append_3fe6f_17 rfl (lv_at hl 1 rfl) ?_
  refine x_clp (x_runS (As := [.int p0]) (rest := []) S (c_J1_canEncode_fc78d l E K F G H p0) ms_J1_canEncode_fc78d km_J5_191 rfl rfl ⟨Nat.le_of_ble_eq_true rfl, Nat.le_of_ble_eq_true rfl⟩ hK (fun _ => XPh.blind) (fun U hU hW => XPh.at hK hz hS hT.cl hU hW) rfl hl.1 (Nat.le_of_ble_eq_true rfl) dJ5_append_3fe6f_18 ⟨Nat.le_of_ble_eq_true rfl, Nat.le_of_ble_eq_true rfl⟩) hS ?_
  rintro _ _ locs ⟨x7, rfl, b8, t9⟩ hS
  have t9 : p0.toInt ≤ 255 → x7.toInt = 1 := t9
  refine xi_zeq (tgt := 45) hx hb (rfl : Int32.toInt x7 = x7.toInt) dJ5_append_3fe6f_21 (by decide) (fun c10 => ?_) (fun c10 => ?_)
  · exact absurd ((z_J5_append_3fe6f_2 p0.toInt x7.toInt e2 t9 c10)).1 (by decide)
  · refine lv_aload_n hx hb dJ5_append_3fe6f_24 rfl (lv_at hl 0 rfl) ?_
    refine sbg_value S hK hT kf_J5_15 dJ5_append_3fe6f_25 ?_
    refine lv_aload_n hx hb dJ5_append_3fe6f_28 rfl (lv_at hl 0 rfl) ?_
    refine lv_dup hx hb dJ5_append_3fe6f_29 rfl ?_
    refine sbg_count S hK hT kf_J5_79 dJ5_append_3fe6f_30 ?_
    refine lv_dup_x1 hx hb dJ5_append_3fe6f_33 rfl rfl ?_
    refine lv_iconst (v := 1) hx hb dJ5_append_3fe6f_34 (by decide) ?_
    refine xi_iadd hx hb (rfl : Int32.toInt cnt = cnt.toInt) ((by decide) : Int32.toInt 1 = (1 : Int)) dJ5_append_3fe6f_35 (fun x11 t12 => ?_)
    refine sbp_count (x := x11) S hK hT hS kf_J5_79 (z_J5_append_3fe6f_3 cnt.toInt x1.toInt x11.toInt n4 n e9 t2 t5 t12) dJ5_append_3fe6f_36 (fun H locs hT hS => ?_)
    refine lv_iload_n hx hb dJ5_append_3fe6f_39 rfl (lv_at hl 1 rfl) ?_
    refine lv_i2b hx hb dJ5_append_3fe6f_40 rfl (lv_topi (fun x13 _ => ?_))
    refine sb_st S hK hT hS (z_J5_append_3fe6f_4 cnt.toInt x1.toInt n4 n e9 t2 t5) dJ5_append_3fe6f_41 (fun H locs hT hS => ?_)
    refine lv_goto (tgt := 75) hx hb dJ5_append_3fe6f_42 (by decide) ?_
    refine lv_aload_n hx hb dJ5_append_3fe6f_75 rfl (lv_at hl 0 rfl) ?_
    exact x_ra hx hb hr (by first | exact Or.inl ⟨_, rfl⟩ | exact Or.inr ⟨_, rfl⟩) (by first | exact Or.inl rfl | exact Or.inr ⟨_, rfl⟩) hlk hQ (Nat.le_of_ble_eq_true rfl) (Nat.le_of_ble_eq_true rfl) hS dJ5_append_3fe6f_76 (q3, n4, x11) ⟨rfl, (z_J5_append_3fe6f_5 cnt.toInt x11.toInt n e9 t12)⟩ hT

theorem z_J5_setLength_d00df_1 (a0 : Nat) : 0 ≤ (0 : Int) ∧ (0 : Int) ≤ ((a0 : Nat) : Int) := by omega
theorem z_J5_setLength_d00df_3 (a0 : Int) (a1 : Nat) (h0 : 0 ≤ a0 ∧ a0 ≤ ((a1 : Nat) : Int) ∧ ((a1 : Nat) : Int) ≤ 100) (h1 : ¬ ((0 : Int) ≤ a0)) : (0 : Int) = 1 ∧ a0 = a0 := by omega
abbrev rm_J5_setLength_d00df : Room := { frames := 4, cells := 1, slots := 100, locals := 104 }
set_option maxHeartbeats 4000000 in
set_option maxRecDepth 100000 in
theorem c_J5_setLength_d00df (l : Launch) (E : XE) (K : Nat → Nat) (F : Nat → Nat → Nat) (G : XG) (v n : Nat) (cnt : Int32)   : Met l yJ5_setLength_d00df (xw yJ5_setLength_d00df cJ5_setLength_d00df 2 none) rm_J5_setLength_d00df (va_Pc [.ref E.2.2.2.1, .int 0] (XPb E K F G v n cnt)) (XQv E (fun (u : Nat × Nat × Int32) => u.2.2.toInt = 0) (fun u H => TWb E K F G u.1 u.2.1 u.2.2 H)) 1 100 (xA E) := by
  refine x_enter (by decide) (Nat.le_of_ble_eq_true rfl) ?_
  intro p e s m args below meth c Q S hr hlk hnm hQ hP ls hl
  obtain ⟨hz, hK, hT⟩ := hP
  obtain ⟨hx, hb, -, -, -⟩ := id S
  obtain ⟨H, hT, hS, hgo⟩ : ∃ H : Heap, TWb E K F G v n cnt H ∧ va_S (xA E) s.heap H [] ∧ H = s.heap := ⟨_, hT, va_S.rf, rfl⟩
  rw [← hgo]
  have hl : lv_has ls 2 [(0, .ref E.2.2.2.1), (1, .int 0)] := hl
  have e9 := hT.inv
  refine lv_iload_n hx hb dJ5_setLength_d00df_0 rfl (lv_at hl 1 rfl) ?_
  refine xi_zge (tgt := 13) hx hb ((by decide) : Int32.toInt 0 = (0 : Int)) dJ5_setLength_d00df_1 (by decide) (fun _ => ?_) (fun c => absurd (show 0 ≤ (0 : Int) by decide) c)
  refine lv_aload_n hx hb dJ5_setLength_d00df_13 rfl (lv_at hl 0 rfl) ?_
  refine lv_iload_n hx hb dJ5_setLength_d00df_14 rfl (lv_at hl 1 rfl) ?_
  refine x_cv (x_runV (b := E.2.2.2.1) (As := [.int 0]) (rest := []) S (c_J5_ensureCapacityInternal_d00df l E K F G v n cnt 0 (by decide)) mw_J5_ensureCapacityInternal_d00df km_J5_100 rfl rfl ⟨Nat.le_of_ble_eq_true rfl, Nat.le_of_ble_eq_true rfl⟩ (rc_sb hK hT) hK (fun _ => XPb.blind) (fun U hU hW => XPb.at hK hz hS hT hU hW) rfl hl.1 (Nat.le_of_ble_eq_true rfl) dJ5_setLength_d00df_15 ⟨Nat.le_of_ble_eq_true rfl, Nat.le_of_ble_eq_true rfl⟩) hS ?_
  rintro ⟨q1, n2⟩ H locs t3 hT hS
  have t3 : (0 : Int) ≤ (((n2) : Nat) : Int) ∧ (((n) : Nat) : Int) ≤ (((n2) : Nat) : Int) := t3
  have hT : TWb E K F G q1 n2 cnt H := hT
  have v4 : 0 ≤ cnt.toInt ∧ cnt.toInt ≤ (((n2) : Nat) : Int) ∧ (((n2) : Nat) : Int) ≤ 100 := hT.inv
  refine lv_aload_n hx hb dJ5_setLength_d00df_18 rfl (lv_at hl 0 rfl) ?_
  refine sbg_count S hK hT kf_J5_79 dJ5_setLength_d00df_19 ?_
  refine lv_iload_n hx hb dJ5_setLength_d00df_22 rfl (lv_at hl 1 rfl) ?_
  refine xi_cge (tgt := 63) hx hb (rfl : Int32.toInt cnt = cnt.toInt) ((by decide) : Int32.toInt 0 = (0 : Int)) dJ5_setLength_d00df_23 (by decide) (fun c5 => ?_) (fun c5 => ?_)
  · refine lv_aload_n hx hb dJ5_setLength_d00df_63 rfl (lv_at hl 0 rfl) ?_
    refine sbg_count S hK hT kf_J5_79 dJ5_setLength_d00df_64 ?_
    refine lv_iload_n hx hb dJ5_setLength_d00df_67 rfl (lv_at hl 1 rfl) ?_
    refine xi_cle (tgt := 76) hx hb (rfl : Int32.toInt cnt = cnt.toInt) ((by decide) : Int32.toInt 0 = (0 : Int)) dJ5_setLength_d00df_68 (by decide) (fun c6 => ?_) (fun c6 => ?_)
    · refine lv_aload_n hx hb dJ5_setLength_d00df_76 rfl (lv_at hl 0 rfl) ?_
      refine lv_iload_n hx hb dJ5_setLength_d00df_77 rfl (lv_at hl 1 rfl) ?_
      refine sbp_count (x := 0) S hK hT hS kf_J5_79 (by rw [show Int32.toInt 0 = (0 : Int) from by decide]; exact (z_J5_setLength_d00df_1 n2)) dJ5_setLength_d00df_78 (fun H locs hT hS => ?_)
      exact x_rv hx hb hr hlk hQ (Nat.le_of_ble_eq_true rfl) (Nat.le_of_ble_eq_true rfl) hS dJ5_setLength_d00df_81 (q1, n2, 0) (show (0 : Int) = 0 by decide) hT
    · refine lv_aload_n hx hb dJ5_setLength_d00df_71 rfl (lv_at hl 0 rfl) ?_
      refine lv_iconst (v := 1) hx hb dJ5_setLength_d00df_72 (by decide) ?_
      refine sbp_maybe (x := 1) S hK hT hS kf_J5_73 (Or.inr rfl) dJ5_setLength_d00df_73 (fun H locs hT hS => ?_)
      refine lv_aload_n hx hb dJ5_setLength_d00df_76 rfl (lv_at hl 0 rfl) ?_
      refine lv_iload_n hx hb dJ5_setLength_d00df_77 rfl (lv_at hl 1 rfl) ?_
      refine sbp_count (x := 0) S hK hT hS kf_J5_79 (by rw [show Int32.toInt 0 = (0 : Int) from by decide]; exact (z_J5_setLength_d00df_1 n2)) dJ5_setLength_d00df_78 (fun H locs hT hS => ?_)
      exact x_rv hx hb hr hlk hQ (Nat.le_of_ble_eq_true rfl) (Nat.le_of_ble_eq_true rfl) hS dJ5_setLength_d00df_81 (q1, n2, 0) (show (0 : Int) = 0 by decide) hT
  · exact absurd ((z_J5_setLength_d00df_3 cnt.toInt n e9 c5)).1 (by decide)
theorem xlen6 {i : Nat} (h : i < 6) : ((xlen.getD i 0 : Nat) : Int) ≤ 6 := by
  have : ∀ j, j < 6 → xlen.getD j 0 ≤ 6 := by decide
  have := this i h
  omega
abbrev rm_J4_append_15ec4 : Room := { frames := 5, cells := 1, slots := 100, locals := 127 }
set_option maxHeartbeats 4000000 in
set_option maxRecDepth 100000 in
theorem c_J4_append_15ec4 (l : Launch) (E : XE) (K : Nat → Nat) (F : Nat → Nat → Nat) (G : XG) (v n : Nat) (cnt : Int32) (i0 : Nat) (hi0 : i0 < 13) (e1 : cnt.toInt + (((xlen.getD i0 0) : Nat) : Int) ≤ 48) : Met l yJ4_append_15ec4 (xw yJ4_append_15ec4 cJ4_append_15ec4 2 (some (.object "java/lang/StringBuilder"))) rm_J4_append_15ec4 (va_Pc [.ref E.2.2.2.1, .ref (E.2.2.2.2.1 i0)] (XPb E K F G v n cnt)) (XQ E (fun v (u : Nat × Nat × Int32) => v = .ref E.2.2.2.1 ∧ u.2.2.toInt = cnt.toInt + ((xlen.getD i0 0 : Nat) : Int)) (fun u H => TWb E K F G u.1 u.2.1 u.2.2 H)) 1 100 (xA E) := by
  refine x_enter (by decide) (Nat.le_of_ble_eq_true rfl) ?_
  intro p e s m args below meth c Q S hr hlk hnm hQ hP ls hl
  obtain ⟨hz, hK, hT⟩ := hP
  obtain ⟨hx, hb, -, -, -⟩ := id S
  obtain ⟨H, hT, hS, hgo⟩ : ∃ H : Heap, TWb E K F G v n cnt H ∧ va_S (xA E) s.heap H [] ∧ H = s.heap := ⟨_, hT, va_S.rf, rfl⟩
  rw [← hgo]
  have hl : lv_has ls 2 [(0, .ref E.2.2.2.1), (1, .ref (E.2.2.2.2.1 i0))] := hl
  have e9 := hT.inv
  refine lv_aload_n hx hb dJ4_append_15ec4_0 rfl (lv_at hl 0 rfl) ?_
  refine lv_aload_n hx hb dJ4_append_15ec4_1 rfl (lv_at hl 1 rfl) ?_
  obtain ⟨cC, hat⟩ := x_atJ4 hK
  refine x_cl (x_runSU hat (b := E.2.2.2.1) (As := [.ref (E.2.2.2.2.1 i0)]) (rest := []) S (c_J5_append_cf1ce l E K F G v n cnt i0 hi0 (e1)) mu_J5_append_cf1ce rfl (by decide) km_J4_29 rfl rfl ⟨Nat.le_of_ble_eq_true rfl, Nat.le_of_ble_eq_true rfl⟩ (rc_sb hK hT) hK (fun _ => XPb.blind) (fun U hU hW => XPb.at hK hz hS hT hU hW) rfl hl.1 (Nat.le_of_ble_eq_true rfl) dJ4_append_15ec4_2 ⟨Nat.le_of_ble_eq_true rfl, Nat.le_of_ble_eq_true rfl⟩) hS ?_
  rintro _ ⟨q1, n2, k3⟩ H locs ⟨rfl, t4⟩ hT hS
  have t4 : k3.toInt = cnt.toInt + (((xlen.getD i0 0) : Nat) : Int) := t4
  have hT : TWb E K F G q1 n2 k3 H := hT
  have v6 : 0 ≤ k3.toInt ∧ k3.toInt ≤ (((n2) : Nat) : Int) ∧ (((n2) : Nat) : Int) ≤ 100 := hT.inv
  refine lv_pop hx hb dJ4_append_15ec4_5 rfl ?_
  refine lv_aload_n hx hb dJ4_append_15ec4_6 rfl (lv_at hl 0 rfl) ?_
  exact x_ra hx hb hr (by first | exact Or.inl ⟨_, rfl⟩ | exact Or.inr ⟨_, rfl⟩) (by first | exact Or.inl rfl | exact Or.inr ⟨_, rfl⟩) hlk hQ (Nat.le_of_ble_eq_true rfl) (Nat.le_of_ble_eq_true rfl) hS dJ4_append_15ec4_7 (q1, n2, k3) ⟨rfl, (t4)⟩ hT

abbrev rm_J4_append_bf812 : Room := { frames := 5, cells := 1, slots := 100, locals := 127 }
set_option maxHeartbeats 4000000 in
set_option maxRecDepth 100000 in
theorem c_J4_append_bf812 (l : Launch) (E : XE) (K : Nat → Nat) (F : Nat → Nat → Nat) (G : XG) (v n : Nat) (cnt : Int32) (p0 : Int32) (e1 : cnt.toInt ≤ 37) : Met l yJ4_append_bf812 (xw yJ4_append_bf812 cJ4_append_bf812 2 (some (.object "java/lang/StringBuilder"))) rm_J4_append_bf812 (va_Pc [.ref E.2.2.2.1, .int p0] (XPb E K F G v n cnt)) (XQ E (fun v (u : Nat × Nat × Int32) => v = .ref E.2.2.2.1 ∧ cnt.toInt ≤ u.2.2.toInt ∧ u.2.2.toInt ≤ cnt.toInt + 11) (fun u H => TWb E K F G u.1 u.2.1 u.2.2 H)) 1 100 (xA E) := by
  refine x_enter (by decide) (Nat.le_of_ble_eq_true rfl) ?_
  intro p e s m args below meth c Q S hr hlk hnm hQ hP ls hl
  obtain ⟨hz, hK, hT⟩ := hP
  obtain ⟨hx, hb, -, -, -⟩ := id S
  obtain ⟨H, hT, hS, hgo⟩ : ∃ H : Heap, TWb E K F G v n cnt H ∧ va_S (xA E) s.heap H [] ∧ H = s.heap := ⟨_, hT, va_S.rf, rfl⟩
  rw [← hgo]
  have hl : lv_has ls 2 [(0, .ref E.2.2.2.1), (1, .int p0)] := hl
  have e9 := hT.inv
  refine lv_aload_n hx hb dJ4_append_bf812_0 rfl (lv_at hl 0 rfl) ?_
  refine lv_iload_n hx hb dJ4_append_bf812_1 rfl (lv_at hl 1 rfl) ?_
  obtain ⟨cC, hat⟩ := x_atJ4 hK
  refine x_cl (x_runSU hat (b := E.2.2.2.1) (As := [.int p0]) (rest := []) S (c_J5_append_c97b9 l E K F G v n cnt p0 (e1)) mu_J5_append_c97b9 rfl (by decide) km_J4_53 rfl rfl ⟨Nat.le_of_ble_eq_true rfl, Nat.le_of_ble_eq_true rfl⟩ (rc_sb hK hT) hK (fun _ => XPb.blind) (fun U hU hW => XPb.at hK hz hS hT hU hW) rfl hl.1 (Nat.le_of_ble_eq_true rfl) dJ4_append_bf812_2 ⟨Nat.le_of_ble_eq_true rfl, Nat.le_of_ble_eq_true rfl⟩) hS ?_
  rintro _ ⟨q1, n2, k3⟩ H locs ⟨rfl, t4⟩ hT hS
  have t4 : cnt.toInt ≤ k3.toInt ∧ k3.toInt ≤ cnt.toInt + 11 := t4
  have hT : TWb E K F G q1 n2 k3 H := hT
  have v6 : 0 ≤ k3.toInt ∧ k3.toInt ≤ (((n2) : Nat) : Int) ∧ (((n2) : Nat) : Int) ≤ 100 := hT.inv
  refine lv_pop hx hb dJ4_append_bf812_5 rfl ?_
  refine lv_aload_n hx hb dJ4_append_bf812_6 rfl (lv_at hl 0 rfl) ?_
  exact x_ra hx hb hr (by first | exact Or.inl ⟨_, rfl⟩ | exact Or.inr ⟨_, rfl⟩) (by first | exact Or.inl rfl | exact Or.inr ⟨_, rfl⟩) hlk hQ (Nat.le_of_ble_eq_true rfl) (Nat.le_of_ble_eq_true rfl) hS dJ4_append_bf812_7 (q1, n2, k3) ⟨rfl, (t4)⟩ hT

abbrev rm_J4_append_cf468 : Room := { frames := 5, cells := 1, slots := 100, locals := 125 }
set_option maxHeartbeats 4000000 in
set_option maxRecDepth 100000 in
theorem c_J4_append_cf468 (l : Launch) (E : XE) (K : Nat → Nat) (F : Nat → Nat → Nat) (G : XG) (v n : Nat) (cnt : Int32) (p0 : Int32) (e1 : cnt.toInt ≤ 47) (e2 : p0.toInt ≤ 255) : Met l yJ4_append_cf468 (xw yJ4_append_cf468 cJ4_append_cf468 2 (some (.object "java/lang/StringBuilder"))) rm_J4_append_cf468 (va_Pc [.ref E.2.2.2.1, .int p0] (XPb E K F G v n cnt)) (XQ E (fun v (u : Nat × Nat × Int32) => v = .ref E.2.2.2.1 ∧ u.2.2.toInt = cnt.toInt + 1) (fun u H => TWb E K F G u.1 u.2.1 u.2.2 H)) 1 100 (xA E) := by
  refine x_enter (by decide) (Nat.le_of_ble_eq_true rfl) ?_
  intro p e s m args below meth c Q S hr hlk hnm hQ hP ls hl
  obtain ⟨hz, hK, hT⟩ := hP
  obtain ⟨hx, hb, -, -, -⟩ := id S
  obtain ⟨H, hT, hS, hgo⟩ : ∃ H : Heap, TWb E K F G v n cnt H ∧ va_S (xA E) s.heap H [] ∧ H = s.heap := ⟨_, hT, va_S.rf, rfl⟩
  rw [← hgo]
  have hl : lv_has ls 2 [(0, .ref E.2.2.2.1), (1, .int p0)] := hl
  have e9 := hT.inv
  refine lv_aload_n hx hb dJ4_append_cf468_0 rfl (lv_at hl 0 rfl) ?_
  refine lv_iload_n hx hb dJ4_append_cf468_1 rfl (lv_at hl 1 rfl) ?_
  obtain ⟨cC, hat⟩ := x_atJ4 hK
  refine x_cl (x_runSU hat (b := E.2.2.2.1) (As := [.int p0]) (rest := []) S (c_J5_append_3fe6f l E K F G v n cnt p0 (e1) (e2)) mu_J5_append_3fe6f rfl (by decide) km_J4_50 rfl rfl ⟨Nat.le_of_ble_eq_true rfl, Nat.le_of_ble_eq_true rfl⟩ (rc_sb hK hT) hK (fun _ => XPb.blind) (fun U hU hW => XPb.at hK hz hS hT hU hW) rfl hl.1 (Nat.le_of_ble_eq_true rfl) dJ4_append_cf468_2 ⟨Nat.le_of_ble_eq_true rfl, Nat.le_of_ble_eq_true rfl⟩) hS ?_
  rintro _ ⟨q1, n2, k3⟩ H locs ⟨rfl, t4⟩ hT hS
  have t4 : k3.toInt = cnt.toInt + 1 := t4
  have hT : TWb E K F G q1 n2 k3 H := hT
  have v6 : 0 ≤ k3.toInt ∧ k3.toInt ≤ (((n2) : Nat) : Int) ∧ (((n2) : Nat) : Int) ≤ 100 := hT.inv
  refine lv_pop hx hb dJ4_append_cf468_5 rfl ?_
  refine lv_aload_n hx hb dJ4_append_cf468_6 rfl (lv_at hl 0 rfl) ?_
  exact x_ra hx hb hr (by first | exact Or.inl ⟨_, rfl⟩ | exact Or.inr ⟨_, rfl⟩) (by first | exact Or.inl rfl | exact Or.inr ⟨_, rfl⟩) hlk hQ (Nat.le_of_ble_eq_true rfl) (Nat.le_of_ble_eq_true rfl) hS dJ4_append_cf468_7 (q1, n2, k3) ⟨rfl, (t4)⟩ hT

abbrev rm_J4_setLength_d00df : Room := { frames := 5, cells := 1, slots := 100, locals := 125 }
set_option maxHeartbeats 4000000 in
set_option maxRecDepth 100000 in
theorem c_J4_setLength_d00df (l : Launch) (E : XE) (K : Nat → Nat) (F : Nat → Nat → Nat) (G : XG) (v n : Nat) (cnt : Int32)   : Met l yJ4_setLength_d00df (xw yJ4_setLength_d00df cJ4_setLength_d00df 2 none) rm_J4_setLength_d00df (va_Pc [.ref E.2.2.2.1, .int 0] (XPb E K F G v n cnt)) (XQv E (fun (u : Nat × Nat × Int32) => u.2.2.toInt = 0) (fun u H => TWb E K F G u.1 u.2.1 u.2.2 H)) 1 100 (xA E) := by
  refine x_enter (by decide) (Nat.le_of_ble_eq_true rfl) ?_
  intro p e s m args below meth c Q S hr hlk hnm hQ hP ls hl
  obtain ⟨hz, hK, hT⟩ := hP
  obtain ⟨hx, hb, -, -, -⟩ := id S
  obtain ⟨H, hT, hS, hgo⟩ : ∃ H : Heap, TWb E K F G v n cnt H ∧ va_S (xA E) s.heap H [] ∧ H = s.heap := ⟨_, hT, va_S.rf, rfl⟩
  rw [← hgo]
  have hl : lv_has ls 2 [(0, .ref E.2.2.2.1), (1, .int 0)] := hl
  have e9 := hT.inv
  refine lv_aload_n hx hb dJ4_setLength_d00df_0 rfl (lv_at hl 0 rfl) ?_
  refine lv_iload_n hx hb dJ4_setLength_d00df_1 rfl (lv_at hl 1 rfl) ?_
  obtain ⟨cC, hat⟩ := x_atJ4 hK
  refine x_cv (x_runSU hat (b := E.2.2.2.1) (As := [.int 0]) (rest := []) S (c_J5_setLength_d00df l E K F G v n cnt ) mu_J5_setLength_d00df rfl (by decide) km_J4_333 rfl rfl ⟨Nat.le_of_ble_eq_true rfl, Nat.le_of_ble_eq_true rfl⟩ (rc_sb hK hT) hK (fun _ => XPb.blind) (fun U hU hW => XPb.at hK hz hS hT hU hW) rfl hl.1 (Nat.le_of_ble_eq_true rfl) dJ4_setLength_d00df_2 ⟨Nat.le_of_ble_eq_true rfl, Nat.le_of_ble_eq_true rfl⟩) hS ?_
  rintro ⟨q1, n2, k3⟩ H locs t4 hT hS
  have t4 : k3.toInt = 0 := t4
  have hT : TWb E K F G q1 n2 k3 H := hT
  have v6 : 0 ≤ k3.toInt ∧ k3.toInt ≤ (((n2) : Nat) : Int) ∧ (((n2) : Nat) : Int) ≤ 100 := hT.inv
  exact x_rv hx hb hr hlk hQ (Nat.le_of_ble_eq_true rfl) (Nat.le_of_ble_eq_true rfl) hS dJ4_setLength_d00df_5 (q1, n2, k3) (t4) hT

abbrev rm_J4_length_8abf5 : Room := { frames := 1, cells := 0, slots := 0, locals := 20 }
set_option maxHeartbeats 4000000 in
set_option maxRecDepth 100000 in
theorem c_J4_length_8abf5 (l : Launch) (E : XE) (K : Nat → Nat) (F : Nat → Nat → Nat) (G : XG) (v n : Nat) (cnt : Int32) (h0 : Heap)   : Met l yJ4_length_8abf5 (xw yJ4_length_8abf5 cJ4_length_8abf5 1 (some .int)) rm_J4_length_8abf5 (va_Pc [.ref E.2.2.2.1] (XPbh E K F G v n cnt h0)) (XQ E (fun v (u : Unit) => ∃ r : Int32, v = .int r ∧ (r.toInt = cnt.toInt)) (fun _ H => H = h0)) 0 0 (xA E) := by
  refine x_enter (by decide) (Nat.le_of_ble_eq_true rfl) ?_
  intro p e s m args below meth c Q S hr hlk hnm hQ hP ls hl
  obtain ⟨⟨hz, hK, hT⟩, hh⟩ := hP
  obtain ⟨hx, hb, -, -, -⟩ := id S
  have hS : va_S (xA E) s.heap s.heap [] := va_S.rf
  have hl : lv_has ls 1 [(0, .ref E.2.2.2.1)] := hl
  have e9 := hT.inv
  refine lv_aload_n hx hb dJ4_length_8abf5_0 rfl (lv_at hl 0 rfl) ?_
  obtain ⟨cC, hat⟩ := x_atJ4 hK
  refine x_clp (x_runSU hat (b := E.2.2.2.1) (As := []) (rest := []) S (c_J5_length_8abf5 l E K F G v n cnt s.heap ) mu_J5_length_8abf5 rfl (by decide) km_J4_343 rfl rfl ⟨Nat.le_of_ble_eq_true rfl, Nat.le_of_ble_eq_true rfl⟩ (rc_sb hK hT) hK (fun _ => XPbh.blind) (fun U hU hW => XPbh.at hK hz hS hT hU hW) rfl hl.1 (Nat.le_of_ble_eq_true rfl) dJ4_length_8abf5_1 ⟨Nat.le_of_ble_eq_true rfl, Nat.le_of_ble_eq_true rfl⟩) hS ?_
  rintro _ _ locs ⟨x1, rfl, t2⟩ hS
  have t2 : x1.toInt = cnt.toInt := t2
  exact x_ri hx hb hr hlk hQ (Nat.le_of_ble_eq_true rfl) (Nat.le_of_ble_eq_true rfl) hS dJ4_length_8abf5_4 () ⟨_, rfl, (t2)⟩ hh

abbrev rm_J4_charAt_5068e : Room := { frames := 3, cells := 0, slots := 0, locals := 67 }
set_option maxHeartbeats 4000000 in
set_option maxRecDepth 100000 in
theorem c_J4_charAt_5068e (l : Launch) (E : XE) (K : Nat → Nat) (F : Nat → Nat → Nat) (G : XG) (v n : Nat) (cnt : Int32) (h0 : Heap) (p0 : Int32) (e1 : 0 ≤ p0.toInt ∧ p0.toInt < cnt.toInt) : Met l yJ4_charAt_5068e (xw yJ4_charAt_5068e cJ4_charAt_5068e 2 (some .char)) rm_J4_charAt_5068e (va_Pc [.ref E.2.2.2.1, .int p0] (XPbh E K F G v n cnt h0)) (XQ E (fun v (u : Unit) => ∃ r : Int32, v = .int r ∧ xok 1 r) (fun _ H => H = h0)) 0 0 (xA E) := by
  refine x_enter (by decide) (Nat.le_of_ble_eq_true rfl) ?_
  intro p e s m args below meth c Q S hr hlk hnm hQ hP ls hl
  obtain ⟨⟨hz, hK, hT⟩, hh⟩ := hP
  obtain ⟨hx, hb, -, -, -⟩ := id S
  have hS : va_S (xA E) s.heap s.heap [] := va_S.rf
  have hl : lv_has ls 2 [(0, .ref E.2.2.2.1), (1, .int p0)] := hl
  have e9 := hT.inv
  refine lv_aload_n hx hb dJ4_charAt_5068e_0 rfl (lv_at hl 0 rfl) ?_
  refine lv_iload_n hx hb dJ4_charAt_5068e_1 rfl (lv_at hl 1 rfl) ?_
  obtain ⟨cC, hat⟩ := x_atJ4 hK
  refine x_clp (x_runSU hat (b := E.2.2.2.1) (As := [.int p0]) (rest := []) S (c_J5_charAt_5068e l E K F G v n cnt s.heap p0 (e1)) mu_J5_charAt_5068e rfl (by decide) km_J4_329 rfl rfl ⟨Nat.le_of_ble_eq_true rfl, Nat.le_of_ble_eq_true rfl⟩ (rc_sb hK hT) hK (fun _ => XPbh.blind) (fun U hU hW => XPbh.at hK hz hS hT hU hW) rfl hl.1 (Nat.le_of_ble_eq_true rfl) dJ4_charAt_5068e_2 ⟨Nat.le_of_ble_eq_true rfl, Nat.le_of_ble_eq_true rfl⟩) hS ?_
  rintro _ _ locs ⟨x1, rfl, o2⟩ hS
  exact x_rz hx hb hr o2 hlk hQ (Nat.le_of_ble_eq_true rfl) (Nat.le_of_ble_eq_true rfl) hS dJ4_charAt_5068e_5 () ⟨_, rfl, o2⟩ hh
theorem v_X11_firstFailing_43_1 {K : Nat → Nat} {F : Nat → Nat → Nat} (a : Nat) (G : XG) (l1_2 : Int32) (N2 : Nat)
    (ha : K a = 13)
    (pf : ∀ j : Int, 0 ≤ j → j < l1_2.toInt → fzq (G.2.1 (F a 10)) (mw (G.2.1 (F a 1)) 0) (aI (G.2.1 (F a 17)) j) (aI (G.2.1 (F a 18)) j) = 0)
    (s0 : 0 ≤ ((G.1 a 19).toInt) ∧ ((G.1 a 19).toInt) ≤ 2400)
    (I2_0 : 0 ≤ l1_2.toInt ∧ l1_2.toInt ≤ ((G.1 a 19).toInt))
    (I2_1 : (0 : Int) ≤ l1_2.toInt)
    (hm2 : 2147483648 - l1_2.toInt < (((N2) + 1 : Nat) : Int))
    (c7 : ((G.1 a 19).toInt) ≤ l1_2.toInt) :
    (-1 : Int) = ffP (G.2.1 (F a 10)) (mw (G.2.1 (F a 1)) 0) (pL G F a) := by
  first
    | exact ffP_eq (Or.inl rfl) (fun j h1 h2 _ => pf j h1 (by omega))
    | (refine ffP_eq (Or.inr ⟨by omega, by omega, ?_⟩) (fun j h1 h2 h3 => pf j h1 (by omega))
       have h01 := flq01 (mw (G.2.1 (F a 1)) 0) (aI (G.2.1 (F a 10)) (10 * aI (G.2.1 (F a 17)) l1_2.toInt + 0)) (aI (G.2.1 (F a 10)) (10 * aI (G.2.1 (F a 17)) l1_2.toInt + 1)) (aI (G.2.1 (F a 10)) (10 * aI (G.2.1 (F a 17)) l1_2.toInt + 2)) (aI (G.2.1 (F a 10)) (10 * aI (G.2.1 (F a 17)) l1_2.toInt + 4)) (aI (G.2.1 (F a 10)) (10 * aI (G.2.1 (F a 17)) l1_2.toInt + 5)) (aI (G.2.1 (F a 18)) l1_2.toInt) (stt (mw (G.2.1 (F a 1)) 0) (aI (G.2.1 (F a 10)) (10 * aI (G.2.1 (F a 17)) l1_2.toInt + 0)) (aI (G.2.1 (F a 10)) (10 * aI (G.2.1 (F a 17)) l1_2.toInt + 1)) (aI (G.2.1 (F a 10)) (10 * aI (G.2.1 (F a 17)) l1_2.toInt + 2)) (aI (G.2.1 (F a 10)) (10 * aI (G.2.1 (F a 17)) l1_2.toInt + 3)) (aI (G.2.1 (F a 18)) l1_2.toInt))
       show flq _ _ _ _ _ _ _ _ = 1
       omega)
theorem v_X11_firstFailing_28_2 {F : Nat → Nat → Nat} (a : Nat) (G : XG)
    (hR : RV (G.2.1 (F a 10))) :
    RV (G.2.1 (F a 10)) := by exact hR
theorem v_X11_firstFailing_28_3 {K : Nat → Nat} {F : Nat → Nat → Nat} (a : Nat) (G : XG) (l1_2 : Int32) (x16 : Int32) (x22 : Int32) (N2 : Nat)
    (ha : K a = 13)
    (hk9999 : K (F a 17) = 43)
    (hj9999 : F (F a 17) 99 = 17)
    (hk9999a : K (F a 18) = 44)
    (hj9999a : F (F a 18) 99 = 18)
    (hk9999b : K (F a 10) = 37)
    (hj9999b : F (F a 10) 99 = 10)
    (hk9999c : K (F a 1) = 30)
    (hj9999c : F (F a 1) 99 = 1)
    (hR : RV (G.2.1 (F a 10)))
    (hM : RM (G.2.1 (F a 1)) (0))
    (hv : PV (G.2.1 (F a 10)) (pL G F a))
    (pf : ∀ j : Int, 0 ≤ j → j < l1_2.toInt → fzq (G.2.1 (F a 10)) (mw (G.2.1 (F a 1)) 0) (aI (G.2.1 (F a 17)) j) (aI (G.2.1 (F a 18)) j) = 0)
    (hv16 : x16.toInt = (aI (G.2.1 (F a 17)) (l1_2.toInt)))
    (hv22 : x22.toInt = (aI (G.2.1 (F a 18)) (l1_2.toInt)))
    (s0 : 0 ≤ ((G.1 a 19).toInt) ∧ ((G.1 a 19).toInt) ≤ 2400)
    (I2_0 : 0 ≤ l1_2.toInt ∧ l1_2.toInt ≤ ((G.1 a 19).toInt))
    (I2_1 : (0 : Int) ≤ l1_2.toInt)
    (hm2 : 2147483648 - l1_2.toInt < (((N2) + 1 : Nat) : Int))
    (c7 : ¬ (((G.1 a 19).toInt) ≤ l1_2.toInt))
    (z10 : (0 ≤ (aI (G.2.1 (F a 17)) (l1_2.toInt)) ∧ (aI (G.2.1 (F a 17)) (l1_2.toInt)) ≤ 11) ∧ (aI (G.2.1 (F a 10)) (10 * (aI (G.2.1 (F a 17)) (l1_2.toInt)) + 0)) ≠ -1 ∧ ((sF (aI (G.2.1 (F a 10)) (10 * (aI (G.2.1 (F a 17)) (l1_2.toInt)) + 0))) ≤ (aI (G.2.1 (F a 18)) (l1_2.toInt)) ∧ (aI (G.2.1 (F a 18)) (l1_2.toInt)) ≤ (sL (aI (G.2.1 (F a 10)) (10 * (aI (G.2.1 (F a 17)) (l1_2.toInt)) + 0))))) :
    RM (G.2.1 (F a 1)) (0 : Int) := by
  first | assumption | omega
theorem v_X11_firstFailing_39_4 {K : Nat → Nat} {F : Nat → Nat → Nat} (a : Nat) (G : XG) (l1_2 : Int32) (N2 : Nat) (x28 : Int32)
    (ha : K a = 13)
    (pf : ∀ j : Int, 0 ≤ j → j < l1_2.toInt → fzq (G.2.1 (F a 10)) (mw (G.2.1 (F a 1)) 0) (aI (G.2.1 (F a 17)) j) (aI (G.2.1 (F a 18)) j) = 0)
    (s0 : 0 ≤ ((G.1 a 19).toInt) ∧ ((G.1 a 19).toInt) ≤ 2400)
    (I2_0 : 0 ≤ l1_2.toInt ∧ l1_2.toInt ≤ ((G.1 a 19).toInt))
    (I2_1 : (0 : Int) ≤ l1_2.toInt)
    (hm2 : 2147483648 - l1_2.toInt < (((N2) + 1 : Nat) : Int))
    (c7 : ¬ (((G.1 a 19).toInt) ≤ l1_2.toInt))
    (z10 : (0 ≤ (aI (G.2.1 (F a 17)) (l1_2.toInt)) ∧ (aI (G.2.1 (F a 17)) (l1_2.toInt)) ≤ 11) ∧ (aI (G.2.1 (F a 10)) (10 * (aI (G.2.1 (F a 17)) (l1_2.toInt)) + 0)) ≠ -1 ∧ ((sF (aI (G.2.1 (F a 10)) (10 * (aI (G.2.1 (F a 17)) (l1_2.toInt)) + 0))) ≤ (aI (G.2.1 (F a 18)) (l1_2.toInt)) ∧ (aI (G.2.1 (F a 18)) (l1_2.toInt)) ≤ (sL (aI (G.2.1 (F a 10)) (10 * (aI (G.2.1 (F a 17)) (l1_2.toInt)) + 0)))))
    (t28 : x28.toInt = (flq (mw (G.2.1 (F a 1)) 0) (aI (G.2.1 (F a 10)) (10 * (aI (G.2.1 (F a 17)) (l1_2.toInt)) + 0)) (aI (G.2.1 (F a 10)) (10 * (aI (G.2.1 (F a 17)) (l1_2.toInt)) + 1)) (aI (G.2.1 (F a 10)) (10 * (aI (G.2.1 (F a 17)) (l1_2.toInt)) + 2)) (aI (G.2.1 (F a 10)) (10 * (aI (G.2.1 (F a 17)) (l1_2.toInt)) + 4)) (aI (G.2.1 (F a 10)) (10 * (aI (G.2.1 (F a 17)) (l1_2.toInt)) + 5)) (aI (G.2.1 (F a 18)) (l1_2.toInt)) (stt (mw (G.2.1 (F a 1)) 0) (aI (G.2.1 (F a 10)) (10 * (aI (G.2.1 (F a 17)) (l1_2.toInt)) + 0)) (aI (G.2.1 (F a 10)) (10 * (aI (G.2.1 (F a 17)) (l1_2.toInt)) + 1)) (aI (G.2.1 (F a 10)) (10 * (aI (G.2.1 (F a 17)) (l1_2.toInt)) + 2)) (aI (G.2.1 (F a 10)) (10 * (aI (G.2.1 (F a 17)) (l1_2.toInt)) + 3)) (aI (G.2.1 (F a 18)) (l1_2.toInt)))))
    (f23 : x28.toInt = 0 ∨ x28.toInt = 1)
    (c31 : x28.toInt = 0) :
    ∀ j : Int, 0 ≤ j → j < (l1_2.toInt + 1) → fzq (G.2.1 (F a 10)) (mw (G.2.1 (F a 1)) 0) (aI (G.2.1 (F a 17)) j) (aI (G.2.1 (F a 18)) j) = 0 := by
  intro j h1 h2
  by_cases e : j = l1_2.toInt
  · subst e
    show flq _ _ _ _ _ _ _ _ = 0
    omega
  · exact pf j h1 (by omega)
theorem v_X11_firstFailing_35_5 {K : Nat → Nat} {F : Nat → Nat → Nat} (a : Nat) (G : XG) (l1_2 : Int32) (N2 : Nat) (x28 : Int32)
    (ha : K a = 13)
    (pf : ∀ j : Int, 0 ≤ j → j < l1_2.toInt → fzq (G.2.1 (F a 10)) (mw (G.2.1 (F a 1)) 0) (aI (G.2.1 (F a 17)) j) (aI (G.2.1 (F a 18)) j) = 0)
    (s0 : 0 ≤ ((G.1 a 19).toInt) ∧ ((G.1 a 19).toInt) ≤ 2400)
    (I2_0 : 0 ≤ l1_2.toInt ∧ l1_2.toInt ≤ ((G.1 a 19).toInt))
    (I2_1 : (0 : Int) ≤ l1_2.toInt)
    (hm2 : 2147483648 - l1_2.toInt < (((N2) + 1 : Nat) : Int))
    (c7 : ¬ (((G.1 a 19).toInt) ≤ l1_2.toInt))
    (z10 : (0 ≤ (aI (G.2.1 (F a 17)) (l1_2.toInt)) ∧ (aI (G.2.1 (F a 17)) (l1_2.toInt)) ≤ 11) ∧ (aI (G.2.1 (F a 10)) (10 * (aI (G.2.1 (F a 17)) (l1_2.toInt)) + 0)) ≠ -1 ∧ ((sF (aI (G.2.1 (F a 10)) (10 * (aI (G.2.1 (F a 17)) (l1_2.toInt)) + 0))) ≤ (aI (G.2.1 (F a 18)) (l1_2.toInt)) ∧ (aI (G.2.1 (F a 18)) (l1_2.toInt)) ≤ (sL (aI (G.2.1 (F a 10)) (10 * (aI (G.2.1 (F a 17)) (l1_2.toInt)) + 0)))))
    (t28 : x28.toInt = (flq (mw (G.2.1 (F a 1)) 0) (aI (G.2.1 (F a 10)) (10 * (aI (G.2.1 (F a 17)) (l1_2.toInt)) + 0)) (aI (G.2.1 (F a 10)) (10 * (aI (G.2.1 (F a 17)) (l1_2.toInt)) + 1)) (aI (G.2.1 (F a 10)) (10 * (aI (G.2.1 (F a 17)) (l1_2.toInt)) + 2)) (aI (G.2.1 (F a 10)) (10 * (aI (G.2.1 (F a 17)) (l1_2.toInt)) + 4)) (aI (G.2.1 (F a 10)) (10 * (aI (G.2.1 (F a 17)) (l1_2.toInt)) + 5)) (aI (G.2.1 (F a 18)) (l1_2.toInt)) (stt (mw (G.2.1 (F a 1)) 0) (aI (G.2.1 (F a 10)) (10 * (aI (G.2.1 (F a 17)) (l1_2.toInt)) + 0)) (aI (G.2.1 (F a 10)) (10 * (aI (G.2.1 (F a 17)) (l1_2.toInt)) + 1)) (aI (G.2.1 (F a 10)) (10 * (aI (G.2.1 (F a 17)) (l1_2.toInt)) + 2)) (aI (G.2.1 (F a 10)) (10 * (aI (G.2.1 (F a 17)) (l1_2.toInt)) + 3)) (aI (G.2.1 (F a 18)) (l1_2.toInt)))))
    (f22 : x28.toInt = 0 ∨ x28.toInt = 1)
    (c31 : ¬ (x28.toInt = 0)) :
    l1_2.toInt = ffP (G.2.1 (F a 10)) (mw (G.2.1 (F a 1)) 0) (pL G F a) := by
  first
    | exact ffP_eq (Or.inl rfl) (fun j h1 h2 _ => pf j h1 (by omega))
    | (refine ffP_eq (Or.inr ⟨by omega, by omega, ?_⟩) (fun j h1 h2 h3 => pf j h1 (by omega))
       have h01 := flq01 (mw (G.2.1 (F a 1)) 0) (aI (G.2.1 (F a 10)) (10 * aI (G.2.1 (F a 17)) l1_2.toInt + 0)) (aI (G.2.1 (F a 10)) (10 * aI (G.2.1 (F a 17)) l1_2.toInt + 1)) (aI (G.2.1 (F a 10)) (10 * aI (G.2.1 (F a 17)) l1_2.toInt + 2)) (aI (G.2.1 (F a 10)) (10 * aI (G.2.1 (F a 17)) l1_2.toInt + 4)) (aI (G.2.1 (F a 10)) (10 * aI (G.2.1 (F a 17)) l1_2.toInt + 5)) (aI (G.2.1 (F a 18)) l1_2.toInt) (stt (mw (G.2.1 (F a 1)) 0) (aI (G.2.1 (F a 10)) (10 * aI (G.2.1 (F a 17)) l1_2.toInt + 0)) (aI (G.2.1 (F a 10)) (10 * aI (G.2.1 (F a 17)) l1_2.toInt + 1)) (aI (G.2.1 (F a 10)) (10 * aI (G.2.1 (F a 17)) l1_2.toInt + 2)) (aI (G.2.1 (F a 10)) (10 * aI (G.2.1 (F a 17)) l1_2.toInt + 3)) (aI (G.2.1 (F a 18)) l1_2.toInt))
       show flq _ _ _ _ _ _ _ _ = 1
       omega)
theorem v_X11_firstFailing_1_6 {K : Nat → Nat} {F : Nat → Nat → Nat} (a : Nat) (G : XG)
    (ha : K a = 13)
    (s0 : 0 ≤ ((G.1 a 19).toInt) ∧ ((G.1 a 19).toInt) ≤ 2400) :
    ∀ j : Int, 0 ≤ j → j < (0 : Int) → fzq (G.2.1 (F a 10)) (mw (G.2.1 (F a 1)) 0) (aI (G.2.1 (F a 17)) j) (aI (G.2.1 (F a 18)) j) = 0 := by
  intro j h1 h2; exact absurd h1 (by omega)
theorem v_X11_findQueue_51_1 {K : Nat → Nat} {F : Nat → Nat → Nat} (a : Nat) (G2 : XG) (G : XG)
    (ha : K a = 13)
    (f21 : ((G.1 a 6).toInt) = 0 ∨ ((G.1 a 6).toInt) = 1)
    (c9 : ((G.1 a 6).toInt) = 0)
    (d_G2_a_19 : G2.1 a 19 = 0) :
    pL G2 F a = if ((G.1 a 6).toInt) = 0 then [] else fuO (G.2.1 (F a 10)) (mw (G.2.1 (F a 1)) 0) (mw (G.2.1 (F a 2)) 0) 1 := by
  first
    | (rw [if_neg (by omega), oq48]; rfl)
    | (rw [if_pos (by omega)]
       show lst _ (G2.1 a 19).toInt.toNat = []
       rw [d_G2_a_19]
       rfl)
theorem v_X11_findQueue_51_2 {F : Nat → Nat → Nat} (a : Nat) (G2 : XG) (G : XG)
    (c9 : ((G.1 a 6).toInt) = 0) :
    ((G.1 a 6).toInt) ≠ 0 → LSt (G.2.1 (F a 10)) (G2.2.1 (F a 11)) (mw (G.2.1 (F a 1)) 0) 12 ∧ LSt (G.2.1 (F a 10)) (G2.2.1 (F a 13)) (mw (G.2.1 (F a 2)) 0) 12 := by
  first
    | exact fun h => absurd c9 h
    | (intro _; rw [c_G48_F_a_11, c_G48_F_a_13]; exact ⟨oq22, oq35⟩)
theorem v_X11_findQueue_51_3 (a : Nat) (G2 : XG) (G : XG)
    (hG2 : G2 = dput G a 19 0) :
    G2.2.2.2 = G.2.2.2 := by
  first
    | (rw [hG2]; rfl)
    | (rw [oq48b, oq35a, oq22a, hG2]; rfl)
theorem v_X11_findQueue_22_4 {F : Nat → Nat → Nat} (a : Nat) (G2 : XG) (G : XG)
    (hR : RV (G.2.1 (F a 10)))
    (c_G2_F_a_10 : G2.2.1 (F a 10) = G.2.1 (F a 10)) :
    RV (G2.2.1 (F a 10)) := by simp only [c_G2_F_a_10]; assumption
theorem v_X11_findQueue_22_5 {F : Nat → Nat → Nat} (a : Nat) (G2 : XG) (G : XG)
    (hM : RM (G.2.1 (F a 1)) (0))
    (hB : RM (G.2.1 (F a 2)) 0)
    (c_G2_F_a_1 : G2.2.1 (F a 1) = G.2.1 (F a 1)) :
    RM (G2.2.1 (F a 1)) (0 : Int) := by simp only [c_G2_F_a_1]; assumption
theorem v_X11_findQueue_35_6 {F : Nat → Nat → Nat} (a : Nat) (G : XG) (G22 : XG)
    (hR : RV (G.2.1 (F a 10)))
    (c_G22_F_a_10 : G22.2.1 (F a 10) = G.2.1 (F a 10)) :
    RV (G22.2.1 (F a 10)) := by simp only [c_G22_F_a_10]; assumption
theorem v_X11_findQueue_35_7 {F : Nat → Nat → Nat} (a : Nat) (G : XG) (G22 : XG)
    (hM : RM (G.2.1 (F a 1)) (0))
    (hB : RM (G.2.1 (F a 2)) 0)
    (c_G22_F_a_2 : G22.2.1 (F a 2) = G.2.1 (F a 2)) :
    RM (G22.2.1 (F a 2)) (0 : Int) := by simp only [c_G22_F_a_2]; assumption
theorem v_X11_findQueue_48_8 {F : Nat → Nat → Nat} (a : Nat) (G : XG) (G35 : XG)
    (hR : RV (G.2.1 (F a 10)))
    (c_G35_F_a_10 : G35.2.1 (F a 10) = G.2.1 (F a 10)) :
    RV (G35.2.1 (F a 10)) := by simp only [c_G35_F_a_10]; assumption
theorem v_X11_findQueue_48_9 {F : Nat → Nat → Nat} (a : Nat) (G : XG) (G22 : XG) (G35 : XG)
    (oq22 : LSt (G.2.1 (F a 10)) (G22.2.1 (F a 11)) (mw (G.2.1 (F a 1)) (0 : Int)) 12)
    (oq35 : LSt (G.2.1 (F a 10)) (G35.2.1 (F a 13)) (mw (G.2.1 (F a 2)) (0 : Int)) 12)
    (c_G35_F_a_10 : G35.2.1 (F a 10) = G.2.1 (F a 10))
    (c_G35_F_a_11 : G35.2.1 (F a 11) = G22.2.1 (F a 11)) :
    LSt (G35.2.1 (F a 10)) (G35.2.1 (F a 11)) (mw (G.2.1 (F a 1)) 0) 12 := by simp only [c_G35_F_a_10, c_G35_F_a_11]; assumption
theorem v_X11_findQueue_48_10 {F : Nat → Nat → Nat} (a : Nat) (G : XG) (G22 : XG) (G35 : XG)
    (oq22 : LSt (G.2.1 (F a 10)) (G22.2.1 (F a 11)) (mw (G.2.1 (F a 1)) (0 : Int)) 12)
    (oq35 : LSt (G.2.1 (F a 10)) (G35.2.1 (F a 13)) (mw (G.2.1 (F a 2)) (0 : Int)) 12)
    (c_G35_F_a_10 : G35.2.1 (F a 10) = G.2.1 (F a 10)) :
    LSt (G35.2.1 (F a 10)) (G35.2.1 (F a 13)) (mw (G.2.1 (F a 2)) 0) 12 := by simp only [c_G35_F_a_10]; assumption
theorem v_X11_findQueue_51_11 {K : Nat → Nat} {F : Nat → Nat → Nat} (a : Nat) (G2 : XG) (G : XG) (G22 : XG) (G35 : XG) (G48 : XG)
    (ha : K a = 13)
    (oq22a : G22.2.2.2 = G2.2.2.2)
    (oq35a : G35.2.2.2 = G22.2.2.2)
    (oq48 : pL G48 F a = fuL (G.2.1 (F a 10)) (mw (G.2.1 (F a 1)) 0) (mw (G.2.1 (F a 2)) 0) (1 : Int) (ordN (prM (G.2.1 (F a 10))) (rkM (G.2.1 (F a 10))) 12).2 (ordN (prM (G.2.1 (F a 10))) (rkM (G.2.1 (F a 10))) 12).1)
    (oq48b : G48.2.2.2 = G35.2.2.2)
    (f31 : ((G.1 a 6).toInt) = 0 ∨ ((G.1 a 6).toInt) = 1)
    (c9 : ¬ (((G.1 a 6).toInt) = 0))
    (t48 : 0 ≤ ((G48.1 a 19).toInt) ∧ ((G48.1 a 19).toInt) ≤ 2388) :
    pL G48 F a = if ((G.1 a 6).toInt) = 0 then [] else fuO (G.2.1 (F a 10)) (mw (G.2.1 (F a 1)) 0) (mw (G.2.1 (F a 2)) 0) 1 := by
  first
    | (rw [if_neg (by omega), oq48]; rfl)
    | (rw [if_pos (by omega)]
       show lst _ (G2.1 a 19).toInt.toNat = []
       rw [d_G2_a_19]
       rfl)
theorem v_X11_findQueue_51_12 {F : Nat → Nat → Nat} (a : Nat) (G : XG) (G22 : XG) (G35 : XG) (G48 : XG)
    (oq22 : LSt (G.2.1 (F a 10)) (G22.2.1 (F a 11)) (mw (G.2.1 (F a 1)) (0 : Int)) 12)
    (oq35 : LSt (G.2.1 (F a 10)) (G35.2.1 (F a 13)) (mw (G.2.1 (F a 2)) (0 : Int)) 12)
    (c9 : ¬ (((G.1 a 6).toInt) = 0))
    (c_G48_F_a_11 : G48.2.1 (F a 11) = G22.2.1 (F a 11))
    (c_G48_F_a_13 : G48.2.1 (F a 13) = G35.2.1 (F a 13)) :
    ((G.1 a 6).toInt) ≠ 0 → LSt (G.2.1 (F a 10)) (G48.2.1 (F a 11)) (mw (G.2.1 (F a 1)) 0) 12 ∧ LSt (G.2.1 (F a 10)) (G48.2.1 (F a 13)) (mw (G.2.1 (F a 2)) 0) 12 := by
  first
    | exact fun h => absurd c9 h
    | (intro _; rw [c_G48_F_a_11, c_G48_F_a_13]; exact ⟨oq22, oq35⟩)
theorem v_X11_findQueue_51_13 (a : Nat) (G2 : XG) (G : XG) (G22 : XG) (G35 : XG) (G48 : XG)
    (hG2 : G2 = dput G a 19 0)
    (oq22a : G22.2.2.2 = G2.2.2.2)
    (oq35a : G35.2.2.2 = G22.2.2.2)
    (oq48b : G48.2.2.2 = G35.2.2.2) :
    G48.2.2.2 = G.2.2.2 := by
  first
    | (rw [hG2]; rfl)
    | (rw [oq48b, oq35a, oq22a, hG2]; rfl)
theorem v_X11_queueMany_1_1 {F : Nat → Nat → Nat} (a : Nat) (G : XG)
    (hR : RV (G.2.1 (F a 10))) :
    RV (G.2.1 (F a 10)) := by exact hR
theorem v_X11_queueMany_1_2 {F : Nat → Nat → Nat} (a : Nat) (G : XG)
    (hM : RM (G.2.1 (F a 1)) (0)) :
    RM (G.2.1 (F a 1)) (0) := by exact hM
theorem v_X11_queueMany_1_3 {F : Nat → Nat → Nat} (a : Nat) (G : XG)
    (hB : RM (G.2.1 (F a 2)) 0) :
    RM (G.2.1 (F a 2)) 0 := by exact hB
theorem v_X11_queueMany_8_4 {F : Nat → Nat → Nat} (a : Nat) (G : XG) (G1 : XG)
    (oq1 : pL G1 F a = if ((G.1 a 6).toInt) = 0 then [] else fuO (G.2.1 (F a 10)) (mw (G.2.1 (F a 1)) 0) (mw (G.2.1 (F a 2)) 0) 1) :
    pL G1 F a = if ((G.1 a 6).toInt) = 0 then [] else fuO (G.2.1 (F a 10)) (mw (G.2.1 (F a 1)) 0) (mw (G.2.1 (F a 2)) 0) 1 := by
  exact oq1
theorem v_X11_queueMany_8_5 (a : Nat) (G1 : XG) :
    ((G1.1 a 19).toInt) = ((G1.1 a 19).toInt) := by
  rfl
theorem v_X11_asks_10_1 {F : Nat → Nat → Nat} (a : Nat) (G : XG)
    (hR : RV (G.2.1 (F a 10))) :
    RV (G.2.1 (F a 10)) := by exact hR
theorem v_X11_asks_10_2 {F : Nat → Nat → Nat} (a : Nat) (G : XG) (r1 : Int → Int)
    (h1 : LSt (G.2.1 (F a 10)) (G.2.1 (F a 12)) r1 12) :
    LSt (G.2.1 (F a 10)) (G.2.1 (F a 12)) r1 12 := by exact h1
theorem v_X11_asks_10_3 {F : Nat → Nat → Nat} (a : Nat) (G : XG)
    (h2 : LSt (G.2.1 (F a 10)) (G.2.1 (F a 11)) (mw (G.2.1 (F a 1)) 0) 12) :
    LSt (G.2.1 (F a 10)) (G.2.1 (F a 11)) (mw (G.2.1 (F a 1)) 0) 12 := by exact h2
theorem v_X11_asks_14_4 {F : Nat → Nat → Nat} (a : Nat) (G : XG) (G10 : XG)
    (hR : RV (G.2.1 (F a 10)))
    (c_G10_F_a_10 : G10.2.1 (F a 10) = G.2.1 (F a 10)) :
    RV (G10.2.1 (F a 10)) := by simp only [c_G10_F_a_10]; assumption
theorem v_X11_asks_14_5 {F : Nat → Nat → Nat} (a : Nat) (G : XG) (G10 : XG)
    (hM : RM (G.2.1 (F a 1)) (0))
    (c_G10_F_a_1 : G10.2.1 (F a 1) = G.2.1 (F a 1)) :
    RM (G10.2.1 (F a 1)) (0) := by simp only [c_G10_F_a_1]; assumption
theorem v_X11_asks_14_6 {F : Nat → Nat → Nat} (a : Nat) (G : XG) (G10 : XG) (r1 : Int → Int) (p0 : Int32)
    (oq10 : pL G10 F a = fuL (G.2.1 (F a 10)) r1 (mw (G.2.1 (F a 1)) 0) p0.toInt (ordN (prM (G.2.1 (F a 10))) (rkM (G.2.1 (F a 10))) 12).2 (ordN (prM (G.2.1 (F a 10))) (rkM (G.2.1 (F a 10))) 12).1)
    (c_G10_F_a_10 : G10.2.1 (F a 10) = G.2.1 (F a 10)) :
    PV (G10.2.1 (F a 10)) (pL G10 F a) := by
  rw [oq10, c_G10_F_a_10]; exact fuO_pv (G.2.1 (F a 10)) r1 (mw (G.2.1 (F a 1)) 0) p0.toInt
theorem v_X11_asks_17_7 {F : Nat → Nat → Nat} (a : Nat) (G : XG) (G10 : XG) (r1 : Int → Int) (p0 : Int32)
    (oq10 : pL G10 F a = fuL (G.2.1 (F a 10)) r1 (mw (G.2.1 (F a 1)) 0) p0.toInt (ordN (prM (G.2.1 (F a 10))) (rkM (G.2.1 (F a 10))) 12).2 (ordN (prM (G.2.1 (F a 10))) (rkM (G.2.1 (F a 10))) 12).1) :
    pL G10 F a = fuO (G.2.1 (F a 10)) r1 (mw (G.2.1 (F a 1)) 0) p0.toInt := by
  exact oq10
theorem v_X11_asks_17_8 {F : Nat → Nat → Nat} (a : Nat) (G : XG) (G10 : XG) (x14 : Int32)
    (oq14 : x14.toInt = ffP (G.2.1 (F a 10)) (mw (G.2.1 (F a 1)) 0) (pL G10 F a)) :
    x14.toInt = ffP (G.2.1 (F a 10)) (mw (G.2.1 (F a 1)) 0) (pL G10 F a) := by
  exact oq14
theorem v_X11_asks_17_9 {K : Nat → Nat} {F : Nat → Nat → Nat} (a : Nat) (G : XG) (G10 : XG) (x14 : Int32)
    (ha : K a = 13)
    (oq10b : G10.2.2.2 = G.2.2.2)
    (oq14 : x14.toInt = ffP (G.2.1 (F a 10)) (mw (G.2.1 (F a 1)) 0) (pL G10 F a))
    (t10 : 0 ≤ ((G10.1 a 19).toInt) ∧ ((G10.1 a 19).toInt) ≤ 2388)
    (t14 : -1 ≤ x14.toInt ∧ x14.toInt < ((G10.1 a 19).toInt)) :
    0 ≤ ((G10.1 a 19).toInt) ∧ ((G10.1 a 19).toInt) ≤ 2388 ∧ x14.toInt < ((G10.1 a 19).toInt) := by
  omega
theorem v_X11_start_10_1 {K : Nat → Nat} {F : Nat → Nat → Nat} (a : Nat) (G : XG)
    (ha : K a = 13)
    (hk9999 : K (F a 4) = 31)
    (hj9999 : F (F a 4) 99 = 4)
    (hk9999a : K (F a 12) = 38)
    (hj9999a : F (F a 12) 99 = 12)
    (hk9999b : K (F a 10) = 37)
    (hj9999b : F (F a 10) 99 = 10)
    (hk9999c : K (F a 1) = 30)
    (hj9999c : F (F a 1) 99 = 1)
    (hR : RV (G.2.1 (F a 10)))
    (hM : RM (G.2.1 (F a 1)) (0)) :
    (F a 1) ≠ (F a 4) := by
  intro e
  have h1 : K (F a 1) = 30 := by assumption
  have h2 : K (F a 4) = 31 := by assumption
  rw [e, h2] at h1
  exact absurd h1 (by decide)
theorem v_X11_start_23_2 {F : Nat → Nat → Nat} (a : Nat) (G : XG) (G10 : XG)
    (hR : RV (G.2.1 (F a 10)))
    (c_G10_F_a_10 : G10.2.1 (F a 10) = G.2.1 (F a 10)) :
    RV (G10.2.1 (F a 10)) := by simp only [c_G10_F_a_10]; assumption
theorem v_X11_start_23_3 {F : Nat → Nat → Nat} (a : Nat) (G : XG) (G10 : XG)
    (hM : RM (G.2.1 (F a 1)) (0))
    (c_G10_F_a_1 : G10.2.1 (F a 1) = G.2.1 (F a 1)) :
    RM (G10.2.1 (F a 1)) (0 : Int) := by simp only [c_G10_F_a_1]; assumption
theorem v_X11_start_26_4 {F : Nat → Nat → Nat} (a : Nat) (G : XG) (G10 : XG) (G23 : XG)
    (oq10 : CPd (G.2.1 (F a 1)) (G.2.1 (F a 4)) (G10.2.1 (F a 4)) (0 : Int) (0 : Int) 360)
    (c_G23_F_a_4 : G23.2.1 (F a 4) = G10.2.1 (F a 4)) :
    mw (G23.2.1 (F a 4)) 0 = mw (G.2.1 (F a 1)) 0 := by
  rw [c_G23_F_a_4]; exact CPd.vwm oq10 (by decide)
theorem v_X11_start_26_5 {F : Nat → Nat → Nat} (a : Nat) (G : XG) (G10 : XG) (G23 : XG)
    (hM : RM (G.2.1 (F a 1)) (0))
    (oq10 : CPd (G.2.1 (F a 1)) (G.2.1 (F a 4)) (G10.2.1 (F a 4)) (0 : Int) (0 : Int) 360)
    (c_G23_F_a_4 : G23.2.1 (F a 4) = G10.2.1 (F a 4)) :
    RM (G23.2.1 (F a 4)) 0 := by
  rw [c_G23_F_a_4]; exact CPd.rm oq10 (by decide) hM
theorem v_X11_start_26_6 {F : Nat → Nat → Nat} (a : Nat) (G : XG) (G23 : XG)
    (oq23 : LSt (G.2.1 (F a 10)) (G23.2.1 (F a 12)) (mw (G.2.1 (F a 1)) (0 : Int)) 12) :
    LSt (G.2.1 (F a 10)) (G23.2.1 (F a 12)) (mw (G.2.1 (F a 1)) 0) 12 := by
  exact oq23
theorem z_X11_firstFailing_1 (a0 : Int) (h0 : -2147483648 ≤ a0 ∧ a0 < 2147483648) : ¬ (2147483648 - a0 < ((0 : Nat) : Int)) := by omega
theorem z_X11_firstFailing_2 (a0 : Int) (h0 : 0 ≤ a0 ∧ a0 ≤ 2400) : -1 ≤ (-1 : Int) ∧ (-1 : Int) < a0 := by omega
theorem z_X11_firstFailing_3 (a0 : Int) (a1 : Int) (h0 : 0 ≤ a0 ∧ a0 ≤ a1) (h1 : ¬ (a1 ≤ a0)) : 0 ≤ a0 ∧ a0 < a1 := by omega
theorem z_X11_firstFailing_4 (a0 : Int) (a1 : Int) (h0 : 0 ≤ a1 ∧ a1 ≤ 2400) (h1 : 0 ≤ a0 ∧ a0 ≤ a1) (h2 : ¬ (a1 ≤ a0)) : 0 ≤ a0 ∧ a0 < ((2400 : Nat) : Int) := by omega
theorem z_X11_firstFailing_9 (a0 : Int) (a1 : Int) (a2 : Int) (h0 : 0 ≤ a2 ∧ a2 ≤ 2400) (h1 : 0 ≤ a0 ∧ a0 ≤ a2) (h2 : a1 = (a0 + 1) ∨ (a0 + 1) < -2147483648 ∨ 2147483648 ≤ (a0 + 1)) : a1 = (a0 + 1) := by omega
theorem z_X11_firstFailing_10 (a0 : Int) (a1 : Int) (h0 : 0 ≤ a0 ∧ a0 ≤ a1) (h1 : ¬ (a1 ≤ a0)) : 0 ≤ (a0 + 1) ∧ (a0 + 1) ≤ a1 := by omega
theorem z_X11_firstFailing_11 (a0 : Int) (a1 : Int) (h0 : 0 ≤ a0 ∧ a0 ≤ a1) : (0 : Int) ≤ (a0 + 1) := by omega
theorem z_X11_firstFailing_12 (a0 : Int) (a1 : Nat) (h0 : 2147483648 - a0 < ((a1 + 1 : Nat) : Int)) : 2147483648 - (a0 + 1) < ((a1 : Nat) : Int) := by omega
theorem z_X11_firstFailing_13 (a0 : Int) (a1 : Int) (h0 : 0 ≤ a0 ∧ a0 ≤ a1) (h1 : ¬ (a1 ≤ a0)) : -1 ≤ a0 ∧ a0 < a1 := by omega
theorem z_X11_firstFailing_14 (a0 : Int) (h0 : 0 ≤ a0 ∧ a0 ≤ 2400) : 0 ≤ (0 : Int) ∧ (0 : Int) ≤ a0 := by omega
abbrev rm_X11_firstFailing : Room := { frames := 4, cells := 0, slots := 0, locals := 104 }
set_option maxHeartbeats 4000000 in
set_option maxRecDepth 100000 in
theorem c_X11_firstFailing (l : Launch) (E : XE) (K : Nat → Nat) (F : Nat → Nat → Nat) (G : XG) (h0 : Heap) (a : Nat) (ha : K a = 13) (s0 : 0 ≤ ((G.1 a 19).toInt) ∧ ((G.1 a 19).toInt) ≤ 2400) (hR : RV (G.2.1 (F a 10))) (hM : RM (G.2.1 (F a 1)) (0)) (hv : PV (G.2.1 (F a 10)) (pL G F a)) : Met l yX11_firstFailing (xw yX11_firstFailing cX11_firstFailing 2 (some .int)) rm_X11_firstFailing (va_Pc [.ref a] (XPh E K F G h0)) (XQ E (fun v (u : Unit) => ∃ r : Int32, v = .int r ∧ (-1 ≤ r.toInt ∧ r.toInt < ((G.1 a 19).toInt)) ∧ (r.toInt = ffP (G.2.1 (F a 10)) (mw (G.2.1 (F a 1)) 0) (pL G F a))) (fun _ H => H = h0)) 0 0 (xA E) := by
  refine x_enter (by decide) (Nat.le_of_ble_eq_true rfl) ?_
  intro p e s m args below meth c Q S hr hlk hnm hQ hP ls hl
  obtain ⟨⟨hz, hK, hT⟩, hh⟩ := hP
  obtain ⟨hx, hb, -, -, -⟩ := id S
  have hS : va_S (xA E) s.heap s.heap [] := va_S.rf
  have hl : lv_has ls 2 [(0, .ref a)] := hl
  obtain ⟨hk9999, hj9999⟩ := fkX11_17 hT ha
  obtain ⟨hk9999a, hj9999a⟩ := fkX11_18 hT ha
  obtain ⟨hk9999b, hj9999b⟩ := fkX11_10 hT ha
  obtain ⟨hk9999c, hj9999c⟩ := fkX11_1 hT ha
  refine lv_iconst (v := 0) hx hb dX11_firstFailing_0 (by decide) ?_
  refine lv_istore_n (lv' := [(1, .int 0), (0, .ref a)]) hx hb dX11_firstFailing_1 rfl hl (by decide) rfl (fun ls hl => ?_)
  have L2 : ∀ (N2 : Nat) (l1_2 : Int32) (locs : List Loc) (ls : Array Slot), (∀ j : Int, 0 ≤ j → j < l1_2.toInt → fzq (G.2.1 (F a 10)) (mw (G.2.1 (F a 1)) 0) (aI (G.2.1 (F a 17)) j) (aI (G.2.1 (F a 18)) j) = 0) → 0 ≤ l1_2.toInt ∧ l1_2.toInt ≤ ((G.1 a 19).toInt) → (0 : Int) ≤ l1_2.toInt → 2147483648 - l1_2.toInt < ((N2 : Nat) : Int) → TW E K F G s.heap → va_S (xA E) s.heap s.heap locs → lv_has ls 2 [(0, .ref a), (1, .int l1_2)] → W p l e rm_X11_firstFailing s m args below meth c s.heap locs 0 0 Q (F0 m 2 ls []) := by
    intro N2
    induction N2 with
    | zero =>
      intro l1_2 locs ls pf I2_0 I2_1 hm2
      exact absurd hm2 (z_X11_firstFailing_1 l1_2.toInt (xr l1_2))
    | succ N2 ih2 =>
      intro l1_2 locs ls pf I2_0 I2_1 hm2 hT hS hl
      refine lv_iload_n hx hb dX11_firstFailing_2 rfl (lv_at hl 1 rfl) ?_
      refine lv_aload_n hx hb dX11_firstFailing_3 rfl (lv_at hl 0 rfl) ?_
      refine gX11_19 S hK hT ha kf_X11_203 dX11_firstFailing_4 (v := (G.1 a 19)) rfl (?_)
      refine xi_cge (tgt := 42) hx hb (rfl : Int32.toInt l1_2 = l1_2.toInt) (rfl : Int32.toInt (G.1 a 19) = ((G.1 a 19).toInt)) dX11_firstFailing_7 (by decide) (fun c7 => ?_) (fun c7 => ?_)
      · refine lv_iconst (v := (-1)) hx hb dX11_firstFailing_42 (by decide) ?_
        exact x_ri hx hb hr hlk hQ (Nat.le_of_ble_eq_true rfl) (Nat.le_of_ble_eq_true rfl) hS dX11_firstFailing_43 () ⟨_, rfl, (by rw [((by decide) : Int32.toInt (-1) = (-1 : Int))] <;> exact (z_X11_firstFailing_2 ((G.1 a 19).toInt) s0)), (by rw [((by decide) : Int32.toInt (-1) = (-1 : Int))] <;> exact (v_X11_firstFailing_43_1 (K := K) (F := F) a G l1_2 N2 ha pf s0 I2_0 I2_1 hm2 c7))⟩ hh
      · have z10 : (0 ≤ (aI (G.2.1 (F a 17)) (l1_2.toInt)) ∧ (aI (G.2.1 (F a 17)) (l1_2.toInt)) ≤ 11) ∧ (aI (G.2.1 (F a 10)) (10 * (aI (G.2.1 (F a 17)) (l1_2.toInt)) + 0)) ≠ -1 ∧ ((sF (aI (G.2.1 (F a 10)) (10 * (aI (G.2.1 (F a 17)) (l1_2.toInt)) + 0))) ≤ (aI (G.2.1 (F a 18)) (l1_2.toInt)) ∧ (aI (G.2.1 (F a 18)) (l1_2.toInt)) ≤ (sL (aI (G.2.1 (F a 10)) (10 * (aI (G.2.1 (F a 17)) (l1_2.toInt)) + 0)))) := pv_at hv (z_X11_firstFailing_3 l1_2.toInt ((G.1 a 19).toInt) I2_0 c7)
        refine lv_aload_n hx hb dX11_firstFailing_10 rfl (lv_at hl 0 rfl) ?_
        refine lv_aload_n hx hb dX11_firstFailing_11 rfl (lv_at hl 0 rfl) ?_
        refine gX11_17 S hK hT ha kf_X11_51 dX11_firstFailing_12 (fun _ _ => ?_)
        refine lv_iload_n hx hb dX11_firstFailing_15 rfl (lv_at hl 1 rfl) ?_
        refine al_0 S hK hT hk9999 ar_43 (by decide) (z_X11_firstFailing_4 l1_2.toInt ((G.1 a 19).toInt) s0 I2_0 c7) dX11_firstFailing_16 (fun x16 hv16 o16 => ?_)
        have hv16 : x16.toInt = (aI (G.2.1 (F a 17)) (l1_2.toInt)) := hv16.trans (by rw [(rfl : Int32.toInt l1_2 = l1_2.toInt)])
        refine lv_aload_n hx hb dX11_firstFailing_17 rfl (lv_at hl 0 rfl) ?_
        refine gX11_18 S hK hT ha kf_X11_54 dX11_firstFailing_18 (fun _ _ => ?_)
        refine lv_iload_n hx hb dX11_firstFailing_21 rfl (lv_at hl 1 rfl) ?_
        refine al_0 S hK hT hk9999a ar_44 (by decide) (z_X11_firstFailing_4 l1_2.toInt ((G.1 a 19).toInt) s0 I2_0 c7) dX11_firstFailing_22 (fun x22 hv22 o22 => ?_)
        have hv22 : x22.toInt = (aI (G.2.1 (F a 18)) (l1_2.toInt)) := hv22.trans (by rw [(rfl : Int32.toInt l1_2 = l1_2.toInt)])
        refine lv_aload_n hx hb dX11_firstFailing_23 rfl (lv_at hl 0 rfl) ?_
        refine gX11_1 S hK hT ha kf_X11_9 dX11_firstFailing_24 (fun _ _ => ?_)
        refine lv_iconst (v := 0) hx hb dX11_firstFailing_27 (by decide) ?_
        refine x_clp (x_runV (b := a) (As := [.int x16, .int x22, .ref (F a 1), .int 0]) (rest := []) S (c_X11_fails l E K F G s.heap a x16 x22 (F a 1) 0 ha (XO.a hk9999c (by decide)) (by rw [(hv16 : Int32.toInt x16 = (aI (G.2.1 (F a 17)) (l1_2.toInt)))] <;> exact ((z10).1)) (by rw [(hv16 : Int32.toInt x16 = (aI (G.2.1 (F a 17)) (l1_2.toInt)))] <;> exact ((z10).2.1)) (by rw [(hv16 : Int32.toInt x16 = (aI (G.2.1 (F a 17)) (l1_2.toInt))), (hv22 : Int32.toInt x22 = (aI (G.2.1 (F a 18)) (l1_2.toInt)))] <;> exact ((z10).2.2)) (v_X11_firstFailing_28_2 (F := F) a G hR) (v_X11_firstFailing_28_3 (K := K) (F := F) a G l1_2 x16 x22 N2 ha hk9999 hj9999 hk9999a hj9999a hk9999b hj9999b hk9999c hj9999c hR hM hv pf hv16 hv22 s0 I2_0 I2_1 hm2 c7 z10)) mv_X11_fails km_X11_221 rfl rfl ⟨Nat.le_of_ble_eq_true rfl, Nat.le_of_ble_eq_true rfl⟩ (rc_13 hK hT ha) hK (fun _ => XPh.blind) (fun U hU hW => XPh.at hK hz hS hT hU hW) rfl hl.1 (Nat.le_of_ble_eq_true rfl) dX11_firstFailing_28 ⟨Nat.le_of_ble_eq_true rfl, Nat.le_of_ble_eq_true rfl⟩) hS ?_
        rintro _ _ locs ⟨x28, rfl, b28, t28⟩ hS
        have t28 : x28.toInt = (flq (mw (G.2.1 (F a 1)) 0) (aI (G.2.1 (F a 10)) (10 * (aI (G.2.1 (F a 17)) (l1_2.toInt)) + 0)) (aI (G.2.1 (F a 10)) (10 * (aI (G.2.1 (F a 17)) (l1_2.toInt)) + 1)) (aI (G.2.1 (F a 10)) (10 * (aI (G.2.1 (F a 17)) (l1_2.toInt)) + 2)) (aI (G.2.1 (F a 10)) (10 * (aI (G.2.1 (F a 17)) (l1_2.toInt)) + 4)) (aI (G.2.1 (F a 10)) (10 * (aI (G.2.1 (F a 17)) (l1_2.toInt)) + 5)) (aI (G.2.1 (F a 18)) (l1_2.toInt)) (stt (mw (G.2.1 (F a 1)) 0) (aI (G.2.1 (F a 10)) (10 * (aI (G.2.1 (F a 17)) (l1_2.toInt)) + 0)) (aI (G.2.1 (F a 10)) (10 * (aI (G.2.1 (F a 17)) (l1_2.toInt)) + 1)) (aI (G.2.1 (F a 10)) (10 * (aI (G.2.1 (F a 17)) (l1_2.toInt)) + 2)) (aI (G.2.1 (F a 10)) (10 * (aI (G.2.1 (F a 17)) (l1_2.toInt)) + 3)) (aI (G.2.1 (F a 18)) (l1_2.toInt)))) := by rw [(hv16 : Int32.toInt x16 = (aI (G.2.1 (F a 17)) (l1_2.toInt)))] at t28; rw [(hv22 : Int32.toInt x22 = (aI (G.2.1 (F a 18)) (l1_2.toInt)))] at t28; exact t28
        refine xi_zeq (tgt := 36) hx hb (rfl : Int32.toInt x28 = x28.toInt) dX11_firstFailing_31 (by decide) (fun c31 => ?_) (fun c31 => ?_)
        · refine xi_iinc (n := 1) (lv' := fun z9 => [(1, .int z9), (0, .ref a)]) (k := 1) hx hb (rfl : Int32.toInt l1_2 = l1_2.toInt) (by decide) dX11_firstFailing_36 hl rfl (by decide) (fun _ => rfl) (fun x36 ls t36 hl => ?_)
          have e36 : x36.toInt = (l1_2.toInt + 1) := (z_X11_firstFailing_9 l1_2.toInt x36.toInt ((G.1 a 19).toInt) s0 I2_0 t36)
          have hl : lv_has ls 2 [(1, .int x36), (0, .ref a)] := hl
          refine lv_goto (tgt := 2) hx hb dX11_firstFailing_39 (by decide) ?_
          exact ih2 x36 _ _ (by rw [(e36 : Int32.toInt x36 = (l1_2.toInt + 1))] <;> exact (v_X11_firstFailing_39_4 (K := K) (F := F) a G l1_2 N2 x28 ha pf s0 I2_0 I2_1 hm2 c7 z10 t28 (xzi b28) c31)) (by rw [(e36 : Int32.toInt x36 = (l1_2.toInt + 1))] <;> exact (z_X11_firstFailing_10 l1_2.toInt ((G.1 a 19).toInt) I2_0 c7)) (by rw [(e36 : Int32.toInt x36 = (l1_2.toInt + 1))] <;> exact (z_X11_firstFailing_11 l1_2.toInt ((G.1 a 19).toInt) I2_0)) (by rw [(e36 : Int32.toInt x36 = (l1_2.toInt + 1))] <;> exact (z_X11_firstFailing_12 l1_2.toInt N2 hm2)) hT hS (lv_sub hl [1, 0] rfl)
        · refine lv_iload_n hx hb dX11_firstFailing_34 rfl (lv_at hl 1 rfl) ?_
          exact x_ri hx hb hr hlk hQ (Nat.le_of_ble_eq_true rfl) (Nat.le_of_ble_eq_true rfl) hS dX11_firstFailing_35 () ⟨_, rfl, (z_X11_firstFailing_13 l1_2.toInt ((G.1 a 19).toInt) I2_0 c7), (v_X11_firstFailing_35_5 (K := K) (F := F) a G l1_2 N2 x28 ha pf s0 I2_0 I2_1 hm2 c7 z10 t28 (xzi b28) c31)⟩ hh
  exact L2 4294967297 0 _ _ (v_X11_firstFailing_1_6 (K := K) (F := F) a G ha s0) (z_X11_firstFailing_14 ((G.1 a 19).toInt) s0) (by decide) (by decide) hT hS (lv_sub hl [1, 0] rfl)

abbrev rm_X11_findQueue : Room := { frames := 4, cells := 0, slots := 0, locals := 102 }
set_option maxHeartbeats 4000000 in
set_option maxRecDepth 100000 in
theorem c_X11_findQueue (l : Launch) (E : XE) (K : Nat → Nat) (F : Nat → Nat → Nat) (G : XG) (a : Nat) (ha : K a = 13) (hR : RV (G.2.1 (F a 10))) (hM : RM (G.2.1 (F a 1)) (0)) (hB : RM (G.2.1 (F a 2)) 0) : Met l yX11_findQueue (xw yX11_findQueue cX11_findQueue 1 none) rm_X11_findQueue (va_Pc [.ref a] (XP E K F G)) (XQv E (fun (u : XG) => XFr [(a, 16), (a, 19)] [F a 15, F a 17, F a 18, F a 11, F a 13] [] G u ∧ (0 ≤ ((u.1 a 19).toInt) ∧ ((u.1 a 19).toInt) ≤ 2388) ∧ (pL u F a = if ((G.1 a 6).toInt) = 0 then [] else fuO (G.2.1 (F a 10)) (mw (G.2.1 (F a 1)) 0) (mw (G.2.1 (F a 2)) 0) 1) ∧ (((G.1 a 6).toInt) ≠ 0 → LSt (G.2.1 (F a 10)) (u.2.1 (F a 11)) (mw (G.2.1 (F a 1)) 0) 12 ∧ LSt (G.2.1 (F a 10)) (u.2.1 (F a 13)) (mw (G.2.1 (F a 2)) 0) 12) ∧ (u.2.2.2 = G.2.2.2)) (fun u H => TW E K F u H)) 0 0 (xA E) := by
  refine x_enter (by decide) (Nat.le_of_ble_eq_true rfl) ?_
  intro p e s m args below meth c Q S hr hlk hnm hQ hP ls hl
  obtain ⟨hz, hK, hT⟩ := hP
  obtain ⟨hx, hb, -, -, -⟩ := id S
  obtain ⟨H, hT, hS, hgo⟩ : ∃ H : Heap, TW E K F G H ∧ va_S (xA E) s.heap H [] ∧ H = s.heap := ⟨_, hT, va_S.rf, rfl⟩
  rw [← hgo]
  have hl : lv_has ls 1 [(0, .ref a)] := hl
  obtain ⟨hk9999, hj9999⟩ := fkX11_15 hT ha
  obtain ⟨hk9999a, hj9999a⟩ := fkX11_17 hT ha
  obtain ⟨hk9999b, hj9999b⟩ := fkX11_18 hT ha
  obtain ⟨hk9999c, hj9999c⟩ := fkX11_11 hT ha
  obtain ⟨hk9999d, hj9999d⟩ := fkX11_13 hT ha
  obtain ⟨hk9999e, hj9999e⟩ := fkX11_10 hT ha
  obtain ⟨hk9999f, hj9999f⟩ := fkX11_1 hT ha
  obtain ⟨hk9999g, hj9999g⟩ := fkX11_2 hT ha
  refine lv_aload_n hx hb dX11_findQueue_0 rfl (lv_at hl 0 rfl) ?_
  refine lv_iconst (v := 0) hx hb dX11_findQueue_1 (by decide) ?_
  refine pX11_19 (v := 0) S hK hT hS ha kf_X11_203 dX11_findQueue_2 (fun H locs hT hS => ?_)
  obtain ⟨G2, hG2⟩ : ∃ GG : XG, GG = dput G a 19 0 := ⟨_, rfl⟩
  rw [← hG2] at hT
  refine lv_aload_n hx hb dX11_findQueue_5 rfl (lv_at hl 0 rfl) ?_
  refine gX11_6 S hK hT ha kf_X11_206 dX11_findQueue_6 (v := (G.1 a 6)) (ld_j hG2 (by decide)) (fun hz6 => ?_)
  refine xi_zeq (tgt := 51) hx hb (rfl : Int32.toInt (G.1 a 6) = ((G.1 a 6).toInt)) dX11_findQueue_9 (by decide) (fun c9 => ?_) (fun c9 => ?_)
  · exact x_rv hx hb hr hlk hQ (Nat.le_of_ble_eq_true rfl) (Nat.le_of_ble_eq_true rfl) hS dX11_findQueue_51 G2 ⟨(by rw [hG2]; exact XFr.dput XFr.rf (List.mem_of_getElem? (i := 1) rfl)), (by rw [(show (G2.1 a 19).toInt = (0 : Int) from (congrArg Int32.toInt (ld_at hG2)).trans ((by decide) : Int32.toInt 0 = (0 : Int)))] <;> exact (by decide)), (v_X11_findQueue_51_1 (K := K) (F := F) a G2 G ha (xzi hz6) c9 (ld_at hG2)), (v_X11_findQueue_51_2 (F := F) a G2 G c9), (v_X11_findQueue_51_3 a G2 G hG2)⟩ hT
  · refine lv_aload_n hx hb dX11_findQueue_12 rfl (lv_at hl 0 rfl) ?_
    refine lv_aload_n hx hb dX11_findQueue_13 rfl (lv_at hl 0 rfl) ?_
    refine gX11_11 S hK hT ha kf_X11_36 dX11_findQueue_14 (fun _ _ => ?_)
    refine lv_aload_n hx hb dX11_findQueue_17 rfl (lv_at hl 0 rfl) ?_
    refine gX11_1 S hK hT ha kf_X11_9 dX11_findQueue_18 (fun _ _ => ?_)
    refine lv_iconst (v := 0) hx hb dX11_findQueue_21 (by decide) ?_
    refine x_cv0 (x_runV (b := a) (As := [.ref (F a 11), .ref (F a 1), .int 0]) (rest := []) S (c_X11_layStates l E K F G2 a (F a 11) (F a 1) 0 ha hk9999c (XO.a hk9999f (by decide)) (v_X11_findQueue_22_4 (F := F) a G2 G hR (ld_c hG2)) (v_X11_findQueue_22_5 (F := F) a G2 G hM hB (ld_c hG2))) mv_X11_layStates km_X11_210 rfl rfl ⟨Nat.le_of_ble_eq_true rfl, Nat.le_of_ble_eq_true rfl⟩ (rc_13 hK hT ha) hK (fun _ => XP.blind) (fun U hU hW => XP.at hK hz hS hT hU hW) rfl hl.1 (Nat.le_of_ble_eq_true rfl) dX11_findQueue_22 ⟨Nat.le_of_ble_eq_true rfl, Nat.le_of_ble_eq_true rfl⟩) hS ?_
    rintro G22 H locs ⟨hF22, oq22, oq22a⟩ hT hS
    have oq22 : LSt (G.2.1 (F a 10)) (G22.2.1 (F a 11)) (mw (G.2.1 (F a 1)) (0 : Int)) 12 := by simp only [(show G2.2.1 (F a 10) = G.2.1 (F a 10) from (ld_c hG2)), (show G2.2.1 (F a 1) = G.2.1 (F a 1) from (ld_c hG2))] at oq22; exact oq22
    refine lv_aload_n hx hb dX11_findQueue_25 rfl (lv_at hl 0 rfl) ?_
    refine lv_aload_n hx hb dX11_findQueue_26 rfl (lv_at hl 0 rfl) ?_
    refine gX11_13 S hK hT ha kf_X11_42 dX11_findQueue_27 (fun _ _ => ?_)
    refine lv_aload_n hx hb dX11_findQueue_30 rfl (lv_at hl 0 rfl) ?_
    refine gX11_2 S hK hT ha kf_X11_15 dX11_findQueue_31 (fun _ _ => ?_)
    refine lv_iconst (v := 0) hx hb dX11_findQueue_34 (by decide) ?_
    refine x_cv0 (x_runV (b := a) (As := [.ref (F a 13), .ref (F a 2), .int 0]) (rest := []) S (c_X11_layStates l E K F G22 a (F a 13) (F a 2) 0 ha hk9999d (XO.b hk9999g (by decide)) (v_X11_findQueue_35_6 (F := F) a G G22 hR ((hF22.2.1 _ (xn1 (xne_k hk9999e hk9999c (by decide)) xn0)).trans (ld_c hG2))) (v_X11_findQueue_35_7 (F := F) a G G22 hM hB ((hF22.2.1 _ (xn1 (xne_k hk9999g hk9999c (by decide)) xn0)).trans (ld_c hG2)))) mv_X11_layStates km_X11_210 rfl rfl ⟨Nat.le_of_ble_eq_true rfl, Nat.le_of_ble_eq_true rfl⟩ (rc_13 hK hT ha) hK (fun _ => XP.blind) (fun U hU hW => XP.at hK hz hS hT hU hW) rfl hl.1 (Nat.le_of_ble_eq_true rfl) dX11_findQueue_35 ⟨Nat.le_of_ble_eq_true rfl, Nat.le_of_ble_eq_true rfl⟩) hS ?_
    rintro G35 H locs ⟨hF35, oq35, oq35a⟩ hT hS
    have oq35 : LSt (G.2.1 (F a 10)) (G35.2.1 (F a 13)) (mw (G.2.1 (F a 2)) (0 : Int)) 12 := by simp only [(show G22.2.1 (F a 10) = G.2.1 (F a 10) from ((hF22.2.1 _ (xn1 (xne_k hk9999e hk9999c (by decide)) xn0)).trans (ld_c hG2))), (show G22.2.1 (F a 2) = G.2.1 (F a 2) from ((hF22.2.1 _ (xn1 (xne_k hk9999g hk9999c (by decide)) xn0)).trans (ld_c hG2)))] at oq35; exact oq35
    refine lv_aload_n hx hb dX11_findQueue_38 rfl (lv_at hl 0 rfl) ?_
    refine lv_iconst (v := 1) hx hb dX11_findQueue_39 (by decide) ?_
    refine lv_aload_n hx hb dX11_findQueue_40 rfl (lv_at hl 0 rfl) ?_
    refine gX11_11 S hK hT ha kf_X11_36 dX11_findQueue_41 (fun _ _ => ?_)
    refine lv_aload_n hx hb dX11_findQueue_44 rfl (lv_at hl 0 rfl) ?_
    refine gX11_13 S hK hT ha kf_X11_42 dX11_findQueue_45 (fun _ _ => ?_)
    refine x_cv0 (x_runV (b := a) (As := [.int 1, .ref (F a 11), .ref (F a 13)]) (rest := []) S (c_X11_findUnlike l E K F G35 a 1 (F a 11) (F a 13) (mw (G.2.1 (F a 1)) 0) (mw (G.2.1 (F a 2)) 0) ha hk9999c hk9999d (v_X11_findQueue_48_8 (F := F) a G G35 hR ((hF35.2.1 _ (xn1 (xne_k hk9999e hk9999d (by decide)) xn0)).trans ((hF22.2.1 _ (xn1 (xne_k hk9999e hk9999c (by decide)) xn0)).trans (ld_c hG2)))) (v_X11_findQueue_48_9 (F := F) a G G22 G35 oq22 oq35 ((hF35.2.1 _ (xn1 (xne_k hk9999e hk9999d (by decide)) xn0)).trans ((hF22.2.1 _ (xn1 (xne_k hk9999e hk9999c (by decide)) xn0)).trans (ld_c hG2))) (hF35.2.1 _ (xn1 (xne_j hj9999c hj9999d (by first | decide | omega)) xn0))) (v_X11_findQueue_48_10 (F := F) a G G22 G35 oq22 oq35 ((hF35.2.1 _ (xn1 (xne_k hk9999e hk9999d (by decide)) xn0)).trans ((hF22.2.1 _ (xn1 (xne_k hk9999e hk9999c (by decide)) xn0)).trans (ld_c hG2))))) mv_X11_findUnlike km_X11_214 rfl rfl ⟨Nat.le_of_ble_eq_true rfl, Nat.le_of_ble_eq_true rfl⟩ (rc_13 hK hT ha) hK (fun _ => XP.blind) (fun U hU hW => XP.at hK hz hS hT hU hW) rfl hl.1 (Nat.le_of_ble_eq_true rfl) dX11_findQueue_48 ⟨Nat.le_of_ble_eq_true rfl, Nat.le_of_ble_eq_true rfl⟩) hS ?_
    rintro G48 H locs ⟨hF48, t48, oq48, oq48a, oq48b⟩ hT hS
    have t48 : 0 ≤ ((G48.1 a 19).toInt) ∧ ((G48.1 a 19).toInt) ≤ 2388 := t48
    have oq48 : pL G48 F a = fuL (G.2.1 (F a 10)) (mw (G.2.1 (F a 1)) 0) (mw (G.2.1 (F a 2)) 0) (1 : Int) (ordN (prM (G.2.1 (F a 10))) (rkM (G.2.1 (F a 10))) 12).2 (ordN (prM (G.2.1 (F a 10))) (rkM (G.2.1 (F a 10))) 12).1 := by simp only [(show G35.2.1 (F a 10) = G.2.1 (F a 10) from ((hF35.2.1 _ (xn1 (xne_k hk9999e hk9999d (by decide)) xn0)).trans ((hF22.2.1 _ (xn1 (xne_k hk9999e hk9999c (by decide)) xn0)).trans (ld_c hG2))))] at oq48; exact oq48
    have oq48a : ORm (G.2.1 (F a 10)) (G48.2.1 (F a 15)) ((G48.1 a 16).toInt) 12 := by simp only [(show G35.2.1 (F a 10) = G.2.1 (F a 10) from ((hF35.2.1 _ (xn1 (xne_k hk9999e hk9999d (by decide)) xn0)).trans ((hF22.2.1 _ (xn1 (xne_k hk9999e hk9999c (by decide)) xn0)).trans (ld_c hG2))))] at oq48a; exact oq48a
    exact x_rv hx hb hr hlk hQ (Nat.le_of_ble_eq_true rfl) (Nat.le_of_ble_eq_true rfl) hS dX11_findQueue_51 G48 ⟨(XFr.call (XFr.call (XFr.call (by rw [hG2]; exact XFr.dput XFr.rf (List.mem_of_getElem? (i := 1) rfl)) hF22 xm0 (xm1 3 rfl xm0) xm0) hF35 xm0 (xm1 4 rfl xm0) xm0) hF48 (xm1 0 rfl (xm1 1 rfl xm0)) (xm1 0 rfl (xm1 1 rfl (xm1 2 rfl xm0))) xm0), (t48), (v_X11_findQueue_51_11 (K := K) (F := F) a G2 G G22 G35 G48 ha oq22a oq35a oq48 oq48b (xzi hz6) c9 t48), (v_X11_findQueue_51_12 (F := F) a G G22 G35 G48 oq22 oq35 c9 ((hF48.2.1 _ (xn1 (xne_k hk9999c hk9999 (by decide)) (xn1 (xne_k hk9999c hk9999a (by decide)) (xn1 (xne_k hk9999c hk9999b (by decide)) xn0)))).trans (hF35.2.1 _ (xn1 (xne_j hj9999c hj9999d (by first | decide | omega)) xn0))) (hF48.2.1 _ (xn1 (xne_k hk9999d hk9999 (by decide)) (xn1 (xne_k hk9999d hk9999a (by decide)) (xn1 (xne_k hk9999d hk9999b (by decide)) xn0))))), (v_X11_findQueue_51_13 a G2 G G22 G35 G48 hG2 oq22a oq35a oq48b)⟩ hT

abbrev rm_X11_queueMany : Room := { frames := 5, cells := 0, slots := 0, locals := 122 }
set_option maxHeartbeats 4000000 in
set_option maxRecDepth 100000 in
theorem c_X11_queueMany (l : Launch) (E : XE) (K : Nat → Nat) (F : Nat → Nat → Nat) (G : XG) (a : Nat) (ha : K a = 13) (hR : RV (G.2.1 (F a 10))) (hM : RM (G.2.1 (F a 1)) (0)) (hB : RM (G.2.1 (F a 2)) 0) : Met l yX11_queueMany (xw yX11_queueMany cX11_queueMany 1 (some .int)) rm_X11_queueMany (va_Pc [.ref a] (XP E K F G)) (XQ E (fun v (u : XG) => ∃ r : Int32, v = .int r ∧ XFr [(a, 16), (a, 19)] [F a 15, F a 17, F a 18, F a 11, F a 13] [] G u ∧ (0 ≤ r.toInt ∧ r.toInt ≤ 2388) ∧ (pL u F a = if ((G.1 a 6).toInt) = 0 then [] else fuO (G.2.1 (F a 10)) (mw (G.2.1 (F a 1)) 0) (mw (G.2.1 (F a 2)) 0) 1) ∧ (r.toInt = ((u.1 a 19).toInt))) (fun u H => TW E K F u H)) 0 0 (xA E) := by
  refine x_enter (by decide) (Nat.le_of_ble_eq_true rfl) ?_
  intro p e s m args below meth c Q S hr hlk hnm hQ hP ls hl
  obtain ⟨hz, hK, hT⟩ := hP
  obtain ⟨hx, hb, -, -, -⟩ := id S
  obtain ⟨H, hT, hS, hgo⟩ : ∃ H : Heap, TW E K F G H ∧ va_S (xA E) s.heap H [] ∧ H = s.heap := ⟨_, hT, va_S.rf, rfl⟩
  rw [← hgo]
  have hl : lv_has ls 1 [(0, .ref a)] := hl
  obtain ⟨hk9999, hj9999⟩ := fkX11_15 hT ha
  obtain ⟨hk9999a, hj9999a⟩ := fkX11_17 hT ha
  obtain ⟨hk9999b, hj9999b⟩ := fkX11_18 hT ha
  obtain ⟨hk9999c, hj9999c⟩ := fkX11_11 hT ha
  obtain ⟨hk9999d, hj9999d⟩ := fkX11_13 hT ha
  obtain ⟨hk9999e, hj9999e⟩ := fkX11_10 hT ha
  obtain ⟨hk9999f, hj9999f⟩ := fkX11_1 hT ha
  obtain ⟨hk9999g, hj9999g⟩ := fkX11_2 hT ha
  refine lv_aload_n hx hb dX11_queueMany_0 rfl (lv_at hl 0 rfl) ?_
  refine x_cv0 (x_runV (b := a) (As := []) (rest := []) S (c_X11_findQueue l E K F G a ha (v_X11_queueMany_1_1 (F := F) a G hR) (v_X11_queueMany_1_2 (F := F) a G hM) (v_X11_queueMany_1_3 (F := F) a G hB)) mv_X11_findQueue km_X11_218 rfl rfl ⟨Nat.le_of_ble_eq_true rfl, Nat.le_of_ble_eq_true rfl⟩ (rc_13 hK hT ha) hK (fun _ => XP.blind) (fun U hU hW => XP.at hK hz hS hT hU hW) rfl hl.1 (Nat.le_of_ble_eq_true rfl) dX11_queueMany_1 ⟨Nat.le_of_ble_eq_true rfl, Nat.le_of_ble_eq_true rfl⟩) hS ?_
  rintro G1 H locs ⟨hF1, t1, oq1, oq1a, oq1b⟩ hT hS
  have t1 : 0 ≤ ((G1.1 a 19).toInt) ∧ ((G1.1 a 19).toInt) ≤ 2388 := t1
  refine lv_aload_n hx hb dX11_queueMany_4 rfl (lv_at hl 0 rfl) ?_
  refine gX11_19 S hK hT ha kf_X11_203 dX11_queueMany_5 (v := (G1.1 a 19)) rfl (?_)
  exact x_ri hx hb hr hlk hQ (Nat.le_of_ble_eq_true rfl) (Nat.le_of_ble_eq_true rfl) hS dX11_queueMany_8 G1 ⟨_, rfl, (XFr.call XFr.rf hF1 (xm1 0 rfl (xm1 1 rfl xm0)) (xm1 0 rfl (xm1 1 rfl (xm1 2 rfl (xm1 3 rfl (xm1 4 rfl xm0))))) xm0), (t1), (v_X11_queueMany_8_4 (F := F) a G G1 oq1), (v_X11_queueMany_8_5 a G1)⟩ hT

theorem z_X11_asks_1 (a0 : Int) (h0 : 0 ≤ a0 ∧ a0 ≤ 2388) : 0 ≤ a0 ∧ a0 ≤ 2400 := by omega
theorem z_X11_asks_2 (a0 : Int) (a1 : Int) (h0 : -1 ≤ a0 ∧ a0 < a1) : -1 ≤ a0 := by omega
abbrev rm_X11_asks : Room := { frames := 5, cells := 0, slots := 0, locals := 125 }
set_option maxHeartbeats 4000000 in
set_option maxRecDepth 100000 in
theorem c_X11_asks (l : Launch) (E : XE) (K : Nat → Nat) (F : Nat → Nat → Nat) (G : XG) (a : Nat) (p0 : Int32) (r1 : Int → Int) (ha : K a = 13) (hR : RV (G.2.1 (F a 10))) (hM : RM (G.2.1 (F a 1)) (0)) (h1 : LSt (G.2.1 (F a 10)) (G.2.1 (F a 12)) r1 12) (h2 : LSt (G.2.1 (F a 10)) (G.2.1 (F a 11)) (mw (G.2.1 (F a 1)) 0) 12) : Met l yX11_asks (xw yX11_asks cX11_asks 2 (some .int)) rm_X11_asks (va_Pc [.ref a, .int p0] (XP E K F G)) (XQ E (fun v (u : XG) => ∃ r : Int32, v = .int r ∧ XFr [(a, 16), (a, 19)] [F a 15, F a 17, F a 18] [] G u ∧ (-1 ≤ r.toInt) ∧ (pL u F a = fuO (G.2.1 (F a 10)) r1 (mw (G.2.1 (F a 1)) 0) p0.toInt) ∧ (r.toInt = ffP (G.2.1 (F a 10)) (mw (G.2.1 (F a 1)) 0) (pL u F a)) ∧ (0 ≤ ((u.1 a 19).toInt) ∧ ((u.1 a 19).toInt) ≤ 2388 ∧ r.toInt < ((u.1 a 19).toInt))) (fun u H => TW E K F u H)) 0 0 (xA E) := by
  refine x_enter (by decide) (Nat.le_of_ble_eq_true rfl) ?_
  intro p e s m args below meth c Q S hr hlk hnm hQ hP ls hl
  obtain ⟨hz, hK, hT⟩ := hP
  obtain ⟨hx, hb, -, -, -⟩ := id S
  obtain ⟨H, hT, hS, hgo⟩ : ∃ H : Heap, TW E K F G H ∧ va_S (xA E) s.heap H [] ∧ H = s.heap := ⟨_, hT, va_S.rf, rfl⟩
  rw [← hgo]
  have hl : lv_has ls 2 [(0, .ref a), (1, .int p0)] := hl
  obtain ⟨hk9999, hj9999⟩ := fkX11_15 hT ha
  obtain ⟨hk9999a, hj9999a⟩ := fkX11_17 hT ha
  obtain ⟨hk9999b, hj9999b⟩ := fkX11_18 hT ha
  obtain ⟨hk9999c, hj9999c⟩ := fkX11_10 hT ha
  obtain ⟨hk9999d, hj9999d⟩ := fkX11_1 hT ha
  obtain ⟨hk9999e, hj9999e⟩ := fkX11_12 hT ha
  obtain ⟨hk9999f, hj9999f⟩ := fkX11_11 hT ha
  refine lv_aload_n hx hb dX11_asks_0 rfl (lv_at hl 0 rfl) ?_
  refine lv_iload_n hx hb dX11_asks_1 rfl (lv_at hl 1 rfl) ?_
  refine lv_aload_n hx hb dX11_asks_2 rfl (lv_at hl 0 rfl) ?_
  refine gX11_12 S hK hT ha kf_X11_39 dX11_asks_3 (fun _ _ => ?_)
  refine lv_aload_n hx hb dX11_asks_6 rfl (lv_at hl 0 rfl) ?_
  refine gX11_11 S hK hT ha kf_X11_36 dX11_asks_7 (fun _ _ => ?_)
  refine x_cv0 (x_runV (b := a) (As := [.int p0, .ref (F a 12), .ref (F a 11)]) (rest := []) S (c_X11_findUnlike l E K F G a p0 (F a 12) (F a 11) r1 (mw (G.2.1 (F a 1)) 0) ha hk9999e hk9999f (v_X11_asks_10_1 (F := F) a G hR) (v_X11_asks_10_2 (F := F) a G r1 h1) (v_X11_asks_10_3 (F := F) a G h2)) mv_X11_findUnlike km_X11_214 rfl rfl ⟨Nat.le_of_ble_eq_true rfl, Nat.le_of_ble_eq_true rfl⟩ (rc_13 hK hT ha) hK (fun _ => XP.blind) (fun U hU hW => XP.at hK hz hS hT hU hW) rfl hl.1 (Nat.le_of_ble_eq_true rfl) dX11_asks_10 ⟨Nat.le_of_ble_eq_true rfl, Nat.le_of_ble_eq_true rfl⟩) hS ?_
  rintro G10 H locs ⟨hF10, t10, oq10, oq10a, oq10b⟩ hT hS
  have t10 : 0 ≤ ((G10.1 a 19).toInt) ∧ ((G10.1 a 19).toInt) ≤ 2388 := t10
  refine lv_aload_n hx hb dX11_asks_13 rfl (lv_at hl 0 rfl) ?_
  refine x_clp (x_runV (b := a) (As := []) (rest := []) S (c_X11_firstFailing l E K F G10 H a ha (z_X11_asks_1 ((G10.1 a 19).toInt) t10) (v_X11_asks_14_4 (F := F) a G G10 hR (hF10.2.1 _ (xn1 (xne_k hk9999c hk9999 (by decide)) (xn1 (xne_k hk9999c hk9999a (by decide)) (xn1 (xne_k hk9999c hk9999b (by decide)) xn0))))) (v_X11_asks_14_5 (F := F) a G G10 hM (hF10.2.1 _ (xn1 (xne_k hk9999d hk9999 (by decide)) (xn1 (xne_k hk9999d hk9999a (by decide)) (xn1 (xne_k hk9999d hk9999b (by decide)) xn0))))) (v_X11_asks_14_6 (F := F) a G G10 r1 p0 oq10 (hF10.2.1 _ (xn1 (xne_k hk9999c hk9999 (by decide)) (xn1 (xne_k hk9999c hk9999a (by decide)) (xn1 (xne_k hk9999c hk9999b (by decide)) xn0)))))) mv_X11_firstFailing km_X11_313 rfl rfl ⟨Nat.le_of_ble_eq_true rfl, Nat.le_of_ble_eq_true rfl⟩ (rc_13 hK hT ha) hK (fun _ => XPh.blind) (fun U hU hW => XPh.at hK hz hS hT hU hW) rfl hl.1 (Nat.le_of_ble_eq_true rfl) dX11_asks_14 ⟨Nat.le_of_ble_eq_true rfl, Nat.le_of_ble_eq_true rfl⟩) hS ?_
  rintro _ _ locs ⟨x14, rfl, t14, oq14⟩ hS
  have t14 : -1 ≤ x14.toInt ∧ x14.toInt < ((G10.1 a 19).toInt) := t14
  have oq14 : x14.toInt = ffP (G.2.1 (F a 10)) (mw (G.2.1 (F a 1)) 0) (pL G10 F a) := by simp only [(show G10.2.1 (F a 10) = G.2.1 (F a 10) from (hF10.2.1 _ (xn1 (xne_k hk9999c hk9999 (by decide)) (xn1 (xne_k hk9999c hk9999a (by decide)) (xn1 (xne_k hk9999c hk9999b (by decide)) xn0))))), (show G10.2.1 (F a 1) = G.2.1 (F a 1) from (hF10.2.1 _ (xn1 (xne_k hk9999d hk9999 (by decide)) (xn1 (xne_k hk9999d hk9999a (by decide)) (xn1 (xne_k hk9999d hk9999b (by decide)) xn0)))))] at oq14; exact oq14
  exact x_ri hx hb hr hlk hQ (Nat.le_of_ble_eq_true rfl) (Nat.le_of_ble_eq_true rfl) hS dX11_asks_17 G10 ⟨_, rfl, (XFr.call XFr.rf hF10 (xm1 0 rfl (xm1 1 rfl xm0)) (xm1 0 rfl (xm1 1 rfl (xm1 2 rfl xm0))) xm0), (z_X11_asks_2 x14.toInt ((G10.1 a 19).toInt) t14), (v_X11_asks_17_7 (F := F) a G G10 r1 p0 oq10), (v_X11_asks_17_8 (F := F) a G G10 x14 oq14), (v_X11_asks_17_9 (K := K) (F := F) a G G10 x14 ha oq10b oq14 t10 t14)⟩ hT

abbrev rm_X11_start : Room := { frames := 4, cells := 0, slots := 0, locals := 102 }
set_option maxHeartbeats 4000000 in
set_option maxRecDepth 100000 in
theorem c_X11_start (l : Launch) (E : XE) (K : Nat → Nat) (F : Nat → Nat → Nat) (G : XG) (a : Nat) (ha : K a = 13) (hR : RV (G.2.1 (F a 10))) (hM : RM (G.2.1 (F a 1)) (0)) : Met l yX11_start (xw yX11_start cX11_start 1 none) rm_X11_start (va_Pc [.ref a] (XP E K F G)) (XQv E (fun (u : XG) => XFr [] [F a 4, F a 12] [] G u ∧ (mw (u.2.1 (F a 4)) 0 = mw (G.2.1 (F a 1)) 0) ∧ (RM (u.2.1 (F a 4)) 0) ∧ (LSt (G.2.1 (F a 10)) (u.2.1 (F a 12)) (mw (G.2.1 (F a 1)) 0) 12)) (fun u H => TW E K F u H)) 0 0 (xA E) := by
  refine x_enter (by decide) (Nat.le_of_ble_eq_true rfl) ?_
  intro p e s m args below meth c Q S hr hlk hnm hQ hP ls hl
  obtain ⟨hz, hK, hT⟩ := hP
  obtain ⟨hx, hb, -, -, -⟩ := id S
  obtain ⟨H, hT, hS, hgo⟩ : ∃ H : Heap, TW E K F G H ∧ va_S (xA E) s.heap H [] ∧ H = s.heap := ⟨_, hT, va_S.rf, rfl⟩
  rw [← hgo]
  have hl : lv_has ls 1 [(0, .ref a)] := hl
  obtain ⟨hk9999, hj9999⟩ := fkX11_4 hT ha
  obtain ⟨hk9999a, hj9999a⟩ := fkX11_12 hT ha
  obtain ⟨hk9999b, hj9999b⟩ := fkX11_10 hT ha
  obtain ⟨hk9999c, hj9999c⟩ := fkX11_1 hT ha
  refine lv_aload_n hx hb dX11_start_0 rfl (lv_at hl 0 rfl) ?_
  refine gX11_1 S hK hT ha kf_X11_9 dX11_start_1 (fun _ _ => ?_)
  refine lv_iconst (v := 0) hx hb dX11_start_4 (by decide) ?_
  refine lv_aload_n hx hb dX11_start_5 rfl (lv_at hl 0 rfl) ?_
  refine gX11_4 S hK hT ha kf_X11_21 dX11_start_6 (fun _ _ => ?_)
  refine lv_iconst (v := 0) hx hb dX11_start_9 (by decide) ?_
  refine x_cv0 (x_runS (As := [.ref (F a 1), .int 0, .ref (F a 4), .int 0]) (rest := []) S (c_X11_copy l E K F G (F a 1) 0 (F a 4) 0 (XO.a hk9999c (by decide)) (XO.b hk9999 (by decide)) (v_X11_start_10_1 (K := K) (F := F) a G ha hk9999 hj9999 hk9999a hj9999a hk9999b hj9999b hk9999c hj9999c hR hM)) ms_X11_copy km_X11_309 rfl rfl ⟨Nat.le_of_ble_eq_true rfl, Nat.le_of_ble_eq_true rfl⟩ hK (fun _ => XP.blind) (fun U hU hW => XP.at hK hz hS hT hU hW) rfl hl.1 (Nat.le_of_ble_eq_true rfl) dX11_start_10 ⟨Nat.le_of_ble_eq_true rfl, Nat.le_of_ble_eq_true rfl⟩) hS ?_
  rintro G10 H locs ⟨hF10, oq10⟩ hT hS
  refine lv_aload_n hx hb dX11_start_13 rfl (lv_at hl 0 rfl) ?_
  refine lv_aload_n hx hb dX11_start_14 rfl (lv_at hl 0 rfl) ?_
  refine gX11_12 S hK hT ha kf_X11_39 dX11_start_15 (fun _ _ => ?_)
  refine lv_aload_n hx hb dX11_start_18 rfl (lv_at hl 0 rfl) ?_
  refine gX11_1 S hK hT ha kf_X11_9 dX11_start_19 (fun _ _ => ?_)
  refine lv_iconst (v := 0) hx hb dX11_start_22 (by decide) ?_
  refine x_cv0 (x_runV (b := a) (As := [.ref (F a 12), .ref (F a 1), .int 0]) (rest := []) S (c_X11_layStates l E K F G10 a (F a 12) (F a 1) 0 ha hk9999a (XO.a hk9999c (by decide)) (v_X11_start_23_2 (F := F) a G G10 hR (hF10.2.1 _ (xn1 (xne_k hk9999b hk9999 (by decide)) xn0))) (v_X11_start_23_3 (F := F) a G G10 hM (hF10.2.1 _ (xn1 (xne_k hk9999c hk9999 (by decide)) xn0)))) mv_X11_layStates km_X11_210 rfl rfl ⟨Nat.le_of_ble_eq_true rfl, Nat.le_of_ble_eq_true rfl⟩ (rc_13 hK hT ha) hK (fun _ => XP.blind) (fun U hU hW => XP.at hK hz hS hT hU hW) rfl hl.1 (Nat.le_of_ble_eq_true rfl) dX11_start_23 ⟨Nat.le_of_ble_eq_true rfl, Nat.le_of_ble_eq_true rfl⟩) hS ?_
  rintro G23 H locs ⟨hF23, oq23, oq23a⟩ hT hS
  have oq23 : LSt (G.2.1 (F a 10)) (G23.2.1 (F a 12)) (mw (G.2.1 (F a 1)) (0 : Int)) 12 := by simp only [(show G10.2.1 (F a 10) = G.2.1 (F a 10) from (hF10.2.1 _ (xn1 (xne_k hk9999b hk9999 (by decide)) xn0))), (show G10.2.1 (F a 1) = G.2.1 (F a 1) from (hF10.2.1 _ (xn1 (xne_k hk9999c hk9999 (by decide)) xn0)))] at oq23; exact oq23
  exact x_rv hx hb hr hlk hQ (Nat.le_of_ble_eq_true rfl) (Nat.le_of_ble_eq_true rfl) hS dX11_start_26 G23 ⟨(XFr.call (XFr.call XFr.rf hF10 xm0 (xm1 0 rfl xm0) xm0) hF23 xm0 (xm1 1 rfl xm0) xm0), (v_X11_start_26_4 (F := F) a G G10 G23 oq10 (hF23.2.1 _ (xn1 (xne_k hk9999 hk9999a (by decide)) xn0))), (v_X11_start_26_5 (F := F) a G G10 G23 hM oq10 (hF23.2.1 _ (xn1 (xne_k hk9999 hk9999a (by decide)) xn0))), (v_X11_start_26_6 (F := F) a G G23 oq23)⟩ hT

theorem z_X11_refuses_1 (a0 : Int) : a0 = a0 := by omega
abbrev rm_X11_refuses : Room := { frames := 0, cells := 0, slots := 0, locals := 0 }
set_option maxHeartbeats 4000000 in
set_option maxRecDepth 100000 in
theorem c_X11_refuses (l : Launch) (E : XE) (K : Nat → Nat) (F : Nat → Nat → Nat) (G : XG) (a : Nat) (p0 : Int32) (ha : K a = 13) : Met l yX11_refuses (xw yX11_refuses cX11_refuses 2 (some .int)) rm_X11_refuses (va_Pc [.ref a, .int p0] (XP E K F G)) (XQ E (fun v (u : XG) => ∃ r : Int32, v = .int r ∧ XFr [] [F a 8] [] G u ∧ (r.toInt = p0.toInt)) (fun u H => TW E K F u H)) 0 0 (xA E) := by
  refine x_enter (by decide) (Nat.le_of_ble_eq_true rfl) ?_
  intro p e s m args below meth c Q S hr hlk hnm hQ hP ls hl
  obtain ⟨hz, hK, hT⟩ := hP
  obtain ⟨hx, hb, -, -, -⟩ := id S
  obtain ⟨H, hT, hS, hgo⟩ : ∃ H : Heap, TW E K F G H ∧ va_S (xA E) s.heap H [] ∧ H = s.heap := ⟨_, hT, va_S.rf, rfl⟩
  rw [← hgo]
  have hl : lv_has ls 2 [(0, .ref a), (1, .int p0)] := hl
  obtain ⟨hk9999, hj9999⟩ := fkX11_8 hT ha
  refine lv_aload_n hx hb dX11_refuses_0 rfl (lv_at hl 0 rfl) ?_
  refine gX11_8 S hK hT ha kf_X11_27 dX11_refuses_1 (fun _ _ => ?_)
  refine lv_iconst (v := 5) hx hb dX11_refuses_4 (by decide) ?_
  refine lv_dup2_11 hx hb dX11_refuses_5 rfl rfl ?_
  refine al_0 S hK hT hk9999 ar_35 (by decide) (by decide) dX11_refuses_6 (fun x6 hv6 o6 => ?_)
  have hv6 : x6.toInt = (aI (G.2.1 (F a 8)) 5) := hv6.trans (by rw [((by decide) : Int32.toInt 5 = (5 : Int))])
  refine lv_aload_n hx hb dX11_refuses_7 rfl (lv_at hl 0 rfl) ?_
  refine gX11_6 S hK hT ha kf_X11_206 dX11_refuses_8 (v := (G.1 a 6)) rfl (fun hz8 => ?_)
  refine xi_zeq (tgt := 18) hx hb (rfl : Int32.toInt (G.1 a 6) = ((G.1 a 6).toInt)) dX11_refuses_11 (by decide) (fun c11 => ?_) (fun c11 => ?_)
  · refine lv_iconst (v := 0) hx hb dX11_refuses_18 (by decide) ?_
    refine xi_iadd hx hb (hv6 : Int32.toInt x6 = (aI (G.2.1 (F a 8)) 5)) ((by decide) : Int32.toInt 0 = (0 : Int)) dX11_refuses_19 (fun x19 t19 => ?_)
    refine as_0 (x := x19) S hK hT hS hk9999 ar_35 aw_35 (by decide) (by decide) dX11_refuses_20 (fun H locs hT hS => ?_)
    obtain ⟨G20, hG20⟩ : ∃ GG : XG, GG = cput G (F a 8) (5 : Int32).toNatClampNeg x19 := ⟨_, rfl⟩
    rw [← hG20] at hT
    refine lv_iload_n hx hb dX11_refuses_21 rfl (lv_at hl 1 rfl) ?_
    exact x_ri hx hb hr hlk hQ (Nat.le_of_ble_eq_true rfl) (Nat.le_of_ble_eq_true rfl) hS dX11_refuses_22 G20 ⟨_, rfl, (by rw [hG20]; exact XFr.cput XFr.rf (List.mem_of_getElem? (i := 0) rfl)), (z_X11_refuses_1 p0.toInt)⟩ hT
  · refine lv_iconst (v := 1) hx hb dX11_refuses_14 (by decide) ?_
    refine lv_goto (tgt := 19) hx hb dX11_refuses_15 (by decide) ?_
    refine xi_iadd hx hb (hv6 : Int32.toInt x6 = (aI (G.2.1 (F a 8)) 5)) ((by decide) : Int32.toInt 1 = (1 : Int)) dX11_refuses_19 (fun x19 t19 => ?_)
    refine as_0 (x := x19) S hK hT hS hk9999 ar_35 aw_35 (by decide) (by decide) dX11_refuses_20 (fun H locs hT hS => ?_)
    obtain ⟨G20, hG20⟩ : ∃ GG : XG, GG = cput G (F a 8) (5 : Int32).toNatClampNeg x19 := ⟨_, rfl⟩
    rw [← hG20] at hT
    refine lv_iload_n hx hb dX11_refuses_21 rfl (lv_at hl 1 rfl) ?_
    exact x_ri hx hb hr hlk hQ (Nat.le_of_ble_eq_true rfl) (Nat.le_of_ble_eq_true rfl) hS dX11_refuses_22 G20 ⟨_, rfl, (by rw [hG20]; exact XFr.cput XFr.rf (List.mem_of_getElem? (i := 0) rfl)), (z_X11_refuses_1 p0.toInt)⟩ hT

theorem z_X11_isMark_1 (a0 : Int) (a1 : Int) (a2 : Int) (h0 : a1 = 0) : (a1 ≠ 0 ∧ 0 ≤ a0 ∧ a0 ≤ a2 - 1 ∧ (0 : Int) = 1) ∨ (¬ (a1 ≠ 0 ∧ 0 ≤ a0 ∧ a0 ≤ a2 - 1) ∧ (0 : Int) = 0) := by omega
theorem z_X11_isMark_3 (a0 : Int) (a1 : Int) (a2 : Int) (a3 : Int) (h0 : (a1 = 1 ∧ (0 : Int) ≤ a0 ∧ a0 ≤ (a3 - (1 : Int))) ∨ (a1 = 0 ∧ (a0 < (0 : Int) ∨ (a3 - (1 : Int)) < a0))) (h1 : a1 = 0) : (a2 ≠ 0 ∧ 0 ≤ a0 ∧ a0 ≤ a3 - 1 ∧ (0 : Int) = 1) ∨ (¬ (a2 ≠ 0 ∧ 0 ≤ a0 ∧ a0 ≤ a3 - 1) ∧ (0 : Int) = 0) := by omega
theorem z_X11_isMark_4 (a0 : Int) (a1 : Int) (a2 : Int) (a3 : Int) (h0 : ¬ (a2 = 0)) (h1 : (a1 = 1 ∧ (0 : Int) ≤ a0 ∧ a0 ≤ (a3 - (1 : Int))) ∨ (a1 = 0 ∧ (a0 < (0 : Int) ∨ (a3 - (1 : Int)) < a0))) (h2 : ¬ (a1 = 0)) : (a2 ≠ 0 ∧ 0 ≤ a0 ∧ a0 ≤ a3 - 1 ∧ (1 : Int) = 1) ∨ (¬ (a2 ≠ 0 ∧ 0 ≤ a0 ∧ a0 ≤ a3 - 1) ∧ (1 : Int) = 0) := by omega
abbrev rm_X11_isMark : Room := { frames := 1, cells := 0, slots := 0, locals := 25 }
set_option maxHeartbeats 4000000 in
set_option maxRecDepth 100000 in
theorem c_X11_isMark (l : Launch) (E : XE) (K : Nat → Nat) (F : Nat → Nat → Nat) (G : XG) (h0 : Heap) (a : Nat) (p0 : Int32) (ha : K a = 13) : Met l yX11_isMark (xw yX11_isMark cX11_isMark 2 (some .boolean)) rm_X11_isMark (va_Pc [.ref a, .int p0] (XPh E K F G h0)) (XQ E (fun v (u : Unit) => ∃ r : Int32, v = .int r ∧ (r = 0 ∨ r = 1) ∧ ((((G.1 a 6).toInt) ≠ 0 ∧ 0 ≤ p0.toInt ∧ p0.toInt ≤ ((G.1 a 7).toInt) - 1 ∧ r.toInt = 1) ∨ (¬ (((G.1 a 6).toInt) ≠ 0 ∧ 0 ≤ p0.toInt ∧ p0.toInt ≤ ((G.1 a 7).toInt) - 1) ∧ r.toInt = 0))) (fun _ H => H = h0)) 0 0 (xA E) := by
  refine x_enter (by decide) (Nat.le_of_ble_eq_true rfl) ?_
  intro p e s m args below meth c Q S hr hlk hnm hQ hP ls hl
  obtain ⟨⟨hz, hK, hT⟩, hh⟩ := hP
  obtain ⟨hx, hb, -, -, -⟩ := id S
  have hS : va_S (xA E) s.heap s.heap [] := va_S.rf
  have hl : lv_has ls 2 [(0, .ref a), (1, .int p0)] := hl
  refine lv_aload_n hx hb dX11_isMark_0 rfl (lv_at hl 0 rfl) ?_
  refine gX11_6 S hK hT ha kf_X11_206 dX11_isMark_1 (v := (G.1 a 6)) rfl (fun hz1 => ?_)
  refine xi_zeq (tgt := 27) hx hb (rfl : Int32.toInt (G.1 a 6) = ((G.1 a 6).toInt)) dX11_isMark_4 (by decide) (fun c4 => ?_) (fun c4 => ?_)
  · refine lv_iconst (v := 0) hx hb dX11_isMark_27 (by decide) ?_
    exact x_rz hx hb hr (xnz (Or.inl rfl)) hlk hQ (Nat.le_of_ble_eq_true rfl) (Nat.le_of_ble_eq_true rfl) hS dX11_isMark_28 () ⟨_, rfl, (Or.inl rfl), (z_X11_isMark_1 p0.toInt ((G.1 a 6).toInt) ((G.1 a 7).toInt) c4)⟩ hh
  · refine lv_iload_n hx hb dX11_isMark_7 rfl (lv_at hl 1 rfl) ?_
    refine lv_i2l (v := p0.toInt64) hx hb dX11_isMark_8 rfl ?_
    refine lv_lconst (v := (0 : Int64)) hx hb dX11_isMark_9 (by decide) ?_
    refine lv_aload_n hx hb dX11_isMark_10 rfl (lv_at hl 0 rfl) ?_
    refine gX11_7 S hK hT ha kf_X11_373 dX11_isMark_11 (v := (G.1 a 7)) rfl (?_)
    refine lv_i2l (v := ((G.1 a 7) : Int32).toInt64) hx hb dX11_isMark_14 rfl ?_
    refine lv_lconst (v := (1 : Int64)) hx hb dX11_isMark_15 (by decide) ?_
    refine lv_lsub hx hb dX11_isMark_16 (lv_topl (fun y16 hy16 => ?_))
    have hy16 : y16.toInt = ((G.1 a 7).toInt) - (1 : Int) := xl_sub (xl_i2l (rfl : Int32.toInt (G.1 a 7) = ((G.1 a 7).toInt))) (by decide) ((xr (G.1 a 7))) (by decide) hy16
    refine x_clp (x_runS (As := [.long p0.toInt64, .long (0 : Int64), .long y16]) (rest := []) S (c_X11_in l E K F G s.heap p0.toInt64 p0.toInt (0 : Int64) (0 : Int) y16 (((G.1 a 7).toInt) - (1 : Int)) (xl_i2l (rfl : Int32.toInt p0 = p0.toInt)) (by decide) hy16) ms_X11_in km_X11_139 rfl rfl ⟨Nat.le_of_ble_eq_true rfl, Nat.le_of_ble_eq_true rfl⟩ hK (fun _ => XPh.blind) (fun U hU hW => XPh.at hK hz hS hT hU hW) rfl hl.1 (Nat.le_of_ble_eq_true rfl) dX11_isMark_17 ⟨Nat.le_of_ble_eq_true rfl, Nat.le_of_ble_eq_true rfl⟩) hS ?_
    rintro _ _ locs ⟨x17, rfl, b17, t17⟩ hS
    have t17 : (x17.toInt = 1 ∧ (0 : Int) ≤ p0.toInt ∧ p0.toInt ≤ (((G.1 a 7).toInt) - (1 : Int))) ∨ (x17.toInt = 0 ∧ (p0.toInt < (0 : Int) ∨ (((G.1 a 7).toInt) - (1 : Int)) < p0.toInt)) := t17
    refine xi_zeq (tgt := 27) hx hb (rfl : Int32.toInt x17 = x17.toInt) dX11_isMark_20 (by decide) (fun c20 => ?_) (fun c20 => ?_)
    · refine lv_iconst (v := 0) hx hb dX11_isMark_27 (by decide) ?_
      exact x_rz hx hb hr (xnz (Or.inl rfl)) hlk hQ (Nat.le_of_ble_eq_true rfl) (Nat.le_of_ble_eq_true rfl) hS dX11_isMark_28 () ⟨_, rfl, (Or.inl rfl), (z_X11_isMark_3 p0.toInt x17.toInt ((G.1 a 6).toInt) ((G.1 a 7).toInt) t17 c20)⟩ hh
    · refine lv_iconst (v := 1) hx hb dX11_isMark_23 (by decide) ?_
      refine lv_goto (tgt := 28) hx hb dX11_isMark_24 (by decide) ?_
      exact x_rz hx hb hr (xnz (Or.inr rfl)) hlk hQ (Nat.le_of_ble_eq_true rfl) (Nat.le_of_ble_eq_true rfl) hS dX11_isMark_28 () ⟨_, rfl, (Or.inr rfl), (z_X11_isMark_4 p0.toInt x17.toInt ((G.1 a 6).toInt) ((G.1 a 7).toInt) c4 t17 c20)⟩ hh

abbrev rm_X11_nothing : Room := { frames := 0, cells := 0, slots := 0, locals := 0 }
set_option maxHeartbeats 4000000 in
set_option maxRecDepth 100000 in
theorem c_X11_nothing (l : Launch) (E : XE) (K : Nat → Nat) (F : Nat → Nat → Nat) (G : XG) (a : Nat) (ha : K a = 13) : Met l yX11_nothing (xw yX11_nothing cX11_nothing 1 none) rm_X11_nothing (va_Pc [.ref a] (XP E K F G)) (XQv E (fun (u : XG) => XFr [(a, 20), (a, 21), (a, 23)] [] [] G u ∧ (((u.1 a 20).toInt) = -2147483648 ∧ ((u.1 a 21).toInt) = -2147483648 ∧ ((u.1 a 23).toInt) = 0)) (fun u H => TW E K F u H)) 0 0 (xA E) := by
  refine x_enter (by decide) (Nat.le_of_ble_eq_true rfl) ?_
  intro p e s m args below meth c Q S hr hlk hnm hQ hP ls hl
  obtain ⟨hz, hK, hT⟩ := hP
  obtain ⟨hx, hb, -, -, -⟩ := id S
  obtain ⟨H, hT, hS, hgo⟩ : ∃ H : Heap, TW E K F G H ∧ va_S (xA E) s.heap H [] ∧ H = s.heap := ⟨_, hT, va_S.rf, rfl⟩
  rw [← hgo]
  have hl : lv_has ls 1 [(0, .ref a)] := hl
  refine lv_aload_n hx hb dX11_nothing_0 rfl (lv_at hl 0 rfl) ?_
  refine lv_ldc (v := (-2147483648)) hx hb S.2.2.2.1 (S.2.2.2.2 _ (List.mem_cons_of_mem _ kc_X11_57)) dX11_nothing_1 ?_
  refine pX11_20 (v := (-2147483648)) S hK hT hS ha kf_X11_58 dX11_nothing_3 (fun H locs hT hS => ?_)
  obtain ⟨G3, hG3⟩ : ∃ GG : XG, GG = dput G a 20 (-2147483648) := ⟨_, rfl⟩
  rw [← hG3] at hT
  refine lv_aload_n hx hb dX11_nothing_6 rfl (lv_at hl 0 rfl) ?_
  refine lv_ldc (v := (-2147483648)) hx hb S.2.2.2.1 (S.2.2.2.2 _ (List.mem_cons_of_mem _ kc_X11_57)) dX11_nothing_7 ?_
  refine pX11_21 (v := (-2147483648)) S hK hT hS ha kf_X11_62 dX11_nothing_9 (fun H locs hT hS => ?_)
  obtain ⟨G9, hG9⟩ : ∃ GG : XG, GG = dput G3 a 21 (-2147483648) := ⟨_, rfl⟩
  rw [← hG9] at hT
  refine lv_aload_n hx hb dX11_nothing_12 rfl (lv_at hl 0 rfl) ?_
  refine lv_iconst (v := 0) hx hb dX11_nothing_13 (by decide) ?_
  refine pX11_23 (v := 0) S hK hT hS ha kf_X11_224 dX11_nothing_14 (fun H locs hT hS => ?_)
  obtain ⟨G14, hG14⟩ : ∃ GG : XG, GG = dput G9 a 23 0 := ⟨_, rfl⟩
  rw [← hG14] at hT
  exact x_rv hx hb hr hlk hQ (Nat.le_of_ble_eq_true rfl) (Nat.le_of_ble_eq_true rfl) hS dX11_nothing_17 G14 ⟨(by rw [hG14]; exact XFr.dput (by rw [hG9]; exact XFr.dput (by rw [hG3]; exact XFr.dput XFr.rf (List.mem_of_getElem? (i := 0) rfl)) (List.mem_of_getElem? (i := 1) rfl)) (List.mem_of_getElem? (i := 2) rfl)), (by rw [(show (G14.1 a 20).toInt = (-2147483648 : Int) from (congrArg Int32.toInt ((ld_j hG14 (by decide)).trans ((ld_j hG9 (by decide)).trans (ld_at hG3)))).trans ((by decide) : Int32.toInt (-2147483648) = (-2147483648 : Int))), (show (G14.1 a 21).toInt = (-2147483648 : Int) from (congrArg Int32.toInt ((ld_j hG14 (by decide)).trans (ld_at hG9))).trans ((by decide) : Int32.toInt (-2147483648) = (-2147483648 : Int))), (show (G14.1 a 23).toInt = (0 : Int) from (congrArg Int32.toInt (ld_at hG14)).trans ((by decide) : Int32.toInt 0 = (0 : Int)))] <;> exact (by decide))⟩ hT
