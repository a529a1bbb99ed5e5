/-- the sign at a place of a string -/
def xch (i : Nat) (z : Int) : Int := (((xbyt.getD i []).getD z.toNat 0)).toInt
theorem xch_b : ∀ i : Nat, i < 13 → ∀ b ∈ xbyt.getD i [], ((b &&& 255).toUInt32 % 65536).toInt32.toInt = b.toInt := by decide +kernel
theorem xch_0 : (((0 : Int32) &&& 255).toUInt32 % 65536).toInt32.toInt = (0 : Int32).toInt := by decide +kernel
theorem xch_n (i : Nat) {n9 : Nat} : ((((xbyt.getD i []).getD n9 0) &&& 255).toUInt32 % 65536).toInt32.toInt = ((xbyt.getD i []).getD n9 0).toInt := by
  by_cases h : i < 13
  · by_cases q : n9 < (xbyt.getD i []).length
    · have e : (xbyt.getD i []).getD n9 0 = (xbyt.getD i [])[n9] := by rw [List.getD_eq_getElem?_getD, List.getElem?_eq_getElem q]; rfl
      rw [e]
      exact xch_b i h _ (List.getElem_mem q)
    · have e : (xbyt.getD i []).getD n9 0 = 0 := by rw [List.getD_eq_getElem?_getD, List.getElem?_eq_none (by omega)]; rfl
      rw [e]
      exact xch_0
  · have e : xbyt.getD i [] = [] := by
      rw [List.getD_eq_getElem?_getD, List.getElem?_eq_none (by have : xbyt.length = 13 := by decide
                                                                omega)]
      rfl
    rw [e]
    exact xch_0
theorem xch_c {i : Nat} {p x3 x4 x5 : Int32} (h3 : x3 = (xbyt.getD i []).getD p.toNatClampNeg 0) (h4 : x4 = x3 &&& 255) (h5 : x5 = (x4.toUInt32 % 65536).toInt32) : x5.toInt = xch i p.toInt := by
  subst h3 h4 h5
  exact xch_n i
theorem xch_kw : ∀ i : Nat, i < 10 → ∀ j : Nat, j < 8 → (((xbyt.getD i []).getD j 0)).toInt = (kw i).getD j 0 := by decide +kernel
theorem xch_k {i : Nat} {z : Int} (h : i < 10) (h0 : 0 ≤ z ∧ z < 8) : xch i z = (kw i).getD z.toNat 0 := xch_kw i h z.toNat (by omega)
theorem xlen_k : ∀ i : Nat, i < 10 → xlen.getD i 0 = (kw i).length := by decide
theorem z_J1_charAt_3b067c_1 (a0 : Int) (a1 : Int) (a2 : Nat) (h0 : 0 ≤ a0 ∧ a0 < ((a2 : Nat) : Int)) (h1 : a1 = ((a2 : Nat) : Int)) : 0 ≤ a0 ∧ a0 < a1 := by omega
abbrev rm_J1_charAtc : Room := { frames := 2, cells := 0, slots := 0, locals := 43 }
set_option maxHeartbeats 4000000 in
set_option maxRecDepth 100000 in
theorem c_J1_charAtc (l : Launch) (E : XE) (K : Nat → Nat) (F : Nat → Nat → Nat) (G : XG) (h0 : Heap) (i : Nat) (p1 : Int32) (hi : i < 13) (e0 : 0 ≤ p1.toInt ∧ p1.toInt < ((xlen.getD i 0 : Nat) : Int)) : Met l yJ1_charAt_3b067 (xw yJ1_charAt_3b067 cJ1_charAt_3b067 2 (some .char)) rm_J1_charAtc (va_Pc [.ref (E.2.2.2.2.2 i), .int p1] (XPh E K F G h0)) (XQ E (fun v (u : Unit) => ∃ r : Int32, v = .int r ∧ xok 1 r ∧ r.toInt = xch i p1.toInt) (fun _ H => H = h0)) 0 0 (xA E) := by
  refine x_enter (by decide) (Nat.le_of_ble_eq_true rfl) ?_
  intro p e s m args below meth c Q S hr hlk hnm hQ hP ls hl
  obtain ⟨⟨hz, hK, hT⟩, hh⟩ := hP
  obtain ⟨hx, hb, -, -, -⟩ := id S
  have hS : va_S (xA E) s.heap s.heap [] := va_S.rf
  have hl : lv_has ls 2 [(0, .ref (E.2.2.2.2.2 i)), (1, .int p1)] := hl
  refine lv_iload_n hx hb dJ1_charAt_3b067_0 rfl (lv_at hl 1 rfl) ?_
  refine lv_aload_n hx hb dJ1_charAt_3b067_1 rfl (lv_at hl 0 rfl) ?_
  refine va_tlen hx hb (hK.2.2.2.1.1 i hi).2.2.2 hS rfl dJ1_charAt_3b067_2 (lv_topi (fun x1 t2 => ?_))
  have t2 : x1.toInt = ((xlen.getD i 0 : Nat) : Int) := by rw [t2]; exact nI_toInt (xlen_lt hi)
  refine x_cvp (x_runS (As := [.int p1, .int x1]) (rest := []) S (c_J0_checkIndex_df160 l E K F G s.heap p1 x1 (z_J1_charAt_3b067c_1 p1.toInt x1.toInt (xlen.getD i 0) e0 t2)) ms_J0_checkIndex_df160 km_J1_9 rfl rfl ⟨Nat.le_of_ble_eq_true rfl, Nat.le_of_ble_eq_true rfl⟩ hK (fun _ => XPh.blind) (fun U hU hW => XPh.at hK hz hS hT hU hW) rfl hl.1 (Nat.le_of_ble_eq_true rfl) dJ1_charAt_3b067_3 ⟨Nat.le_of_ble_eq_true rfl, Nat.le_of_ble_eq_true rfl⟩) hS ?_
  rintro _ locs - hS
  refine lv_aload_n hx hb dJ1_charAt_3b067_6 rfl (lv_at hl 0 rfl) ?_
  refine lv_iload_n hx hb dJ1_charAt_3b067_7 rfl (lv_at hl 1 rfl) ?_
  refine va_tb hx hb (hK.2.2.2.1.1 i hi).2.2.2 hS (vp_in_iff.mpr (e0)) rfl dJ1_charAt_3b067_8 (lv_topi (fun x3 hx3 => ?_))
  refine lv_sipush (v := 255) hx hb dJ1_charAt_3b067_9 (by decide) ?_
  refine lv_iand hx hb dJ1_charAt_3b067_12 (lv_topi (fun x4 hx4 => ?_))
  refine lv_i2c hx hb dJ1_charAt_3b067_13 rfl (lv_topi (fun x5 ec6 => ?_))
  exact x_rz hx hb hr (by rw [ec6]; exact pk_nc _) hlk hQ (Nat.le_of_ble_eq_true rfl) (Nat.le_of_ble_eq_true rfl) hS dJ1_charAt_3b067_14 () ⟨_, rfl, (by rw [ec6]; exact pk_nc _), xch_c hx3 hx4 ec6⟩ hh

abbrev rm_J0_charAtc : Room := { frames := 3, cells := 0, slots := 0, locals := 64 }
set_option maxHeartbeats 4000000 in
set_option maxRecDepth 100000 in
theorem c_J0_charAtc (l : Launch) (E : XE) (K : Nat → Nat) (F : Nat → Nat → Nat) (G : XG) (h0 : Heap) (i : Nat) (p0 : Int32) (hi : i < 13) (e0 : 0 ≤ p0.toInt ∧ p0.toInt < ((xlen.getD i 0 : Nat) : Int)) : Met l yJ0_charAt_5068e (xw yJ0_charAt_5068e cJ0_charAt_5068e 2 (some .char)) rm_J0_charAtc (va_Pc [.ref (E.2.2.2.2.1 i), .int p0] (XPh E K F G h0)) (XQ E (fun v (u : Unit) => ∃ r : Int32, v = .int r ∧ xok 1 r ∧ r.toInt = xch i p0.toInt) (fun _ H => H = h0)) 0 0 (xA E) := by
  refine x_enter (by decide) (Nat.le_of_ble_eq_true rfl) ?_
  intro p e s m args below meth c Q S hr hlk hnm hQ hP ls hl
  obtain ⟨⟨hz, hK, hT⟩, hh⟩ := hP
  obtain ⟨hx, hb, -, -, -⟩ := id S
  have hS : va_S (xA E) s.heap s.heap [] := va_S.rf
  have hl : lv_has ls 2 [(0, .ref (E.2.2.2.2.1 i)), (1, .int p0)] := hl
  refine lv_aload_n hx hb dJ0_charAt_5068e_0 rfl (lv_at hl 0 rfl) ?_
  refine x_clp (x_runV (b := (E.2.2.2.2.1 i)) (As := []) (rest := []) S (c_J0_isLatin1_aae02 l E K F G s.heap i hi) mv_J0_isLatin1_aae02 km_J0_492 rfl rfl ⟨Nat.le_of_ble_eq_true rfl, Nat.le_of_ble_eq_true rfl⟩ (vk_recv hK.2.2.2.1 hi hS) hK (fun _ => XPh.blind) (fun U hU hW => XPh.at hK hz hS hT hU hW) rfl hl.1 (Nat.le_of_ble_eq_true rfl) dJ0_charAt_5068e_1 ⟨Nat.le_of_ble_eq_true rfl, Nat.le_of_ble_eq_true rfl⟩) hS ?_
  rintro _ _ locs ⟨_, rfl, rfl⟩ hS
  refine xi_zeq (tgt := 16) hx hb ((by decide) : Int32.toInt 1 = (1 : Int)) dJ0_charAt_5068e_4 (by decide) (fun c => absurd c (show ¬ ((1 : Int) = 0) by decide)) (fun _ => ?_)
  refine lv_aload_n hx hb dJ0_charAt_5068e_7 rfl (lv_at hl 0 rfl) ?_
  refine vk_getf hx hb (hK.2.2.2.1.1 i hi).2.2.1 hS S.2.2.2.1 (S.2.2.2.2 _ (List.mem_cons_of_mem _ kf_J0_9)) (fun _ h => h) dJ0_charAt_5068e_8 ?_
  refine lv_iload_n hx hb dJ0_charAt_5068e_11 rfl (lv_at hl 1 rfl) ?_
  refine x_clp (x_runS (As := [.ref (E.2.2.2.2.2 i), .int p0]) (rest := []) S (c_J1_charAtc l E K F G s.heap i p0 hi (e0)) ms_J1_charAt_3b067 km_J0_495 rfl rfl ⟨Nat.le_of_ble_eq_true rfl, Nat.le_of_ble_eq_true rfl⟩ hK (fun _ => XPh.blind) (fun U hU hW => XPh.at hK hz hS hT hU hW) rfl hl.1 (Nat.le_of_ble_eq_true rfl) dJ0_charAt_5068e_12 ⟨Nat.le_of_ble_eq_true rfl, Nat.le_of_ble_eq_true rfl⟩) hS ?_
  rintro _ _ locs ⟨x1, rfl, o2, o3⟩ hS
  exact x_rz hx hb hr o2 hlk hQ (Nat.le_of_ble_eq_true rfl) (Nat.le_of_ble_eq_true rfl) hS dJ0_charAt_5068e_15 () ⟨_, rfl, o2, o3⟩ hh
theorem xlen_b {i : Nat} (h : i < 10) : 3 ≤ ((xlen.getD i 0 : Nat) : Int) ∧ ((xlen.getD i 0 : Nat) : Int) ≤ 7 := by
  have h1 := kw_b i h
  rw [xlen_k i h]
  omega
