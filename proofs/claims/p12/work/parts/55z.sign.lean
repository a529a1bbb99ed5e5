theorem xok2b {x : Int32} {z : Int} (h : xok 2 x) (e : x.toInt = z) : -128 ≤ z ∧ z ≤ 127 := by
  have h2 : narrow .byte (.int x) = .int x := h
  have h3 : x.toInt8.toInt32 = x := by
    have h4 : (Value.int x.toInt8.toInt32) = Value.int x := by
      have h5 : narrow .byte (.int x) = .int x.toInt8.toInt32 := by simp [narrow]
      rw [← h5]; exact h2
    exact Value.int.inj h4
  subst e
  rw [← h3, Int8.toInt_toInt32]
  have h6 := Int8.minValue_le_toInt x.toInt8
  have h7 := Int8.toInt_le x.toInt8
  exact ⟨h6, by
    have : Int8.maxValue.toInt = 127 := by decide
    omega⟩
/-- eight bits of v, from bit z on -/
def bqI (v : Int32) (z : Int) : Int := ((v.toUInt32 >>> ((Int32.ofInt z).toUInt32 &&& Int32.toUInt32 31)).toInt32).toInt % 256
theorem bm256 (x : Int) : Int.bmod x 256 % 256 = x % 256 := by
  have := Int.bmod_emod (x := x) (m := 256)
  exact this
theorem bq_b {v s x y : Int32} {z : Int} (hx : x = (Int32.toUInt32 v >>> (Int32.toUInt32 s &&& Int32.toUInt32 31)).toInt32) (hy : y = (Int32.toInt8 x).toInt32) (hs : s.toInt = z) : y.toInt % 256 = bqI v z := by
  subst hs hy
  unfold bqI
  rw [ofI, ← hx, Int8.toInt_toInt32, Int32.toInt_toInt8]
  exact bm256 _
theorem and255 (x : Int32) : (x &&& 255).toInt = x.toInt % 256 := by
  have e2 : x.toInt = x.toBitVec.toInt := rfl
  have h1 : (x &&& 255).toBitVec.toNat = x.toBitVec.toNat % 256 := by
    rw [Int32.toBitVec_and]
    show (x.toBitVec &&& (255#32)).toNat = _
    rw [BitVec.toNat_and]
    exact Nat.and_two_pow_sub_one_eq_mod x.toBitVec.toNat 8
  have h2 : (x &&& 255).toInt = ((x &&& 255).toBitVec.toNat : Int) := by
    show (x &&& 255).toBitVec.toInt = _
    rw [BitVec.toInt_eq_toNat_of_lt (by rw [h1]; have := Nat.mod_lt x.toBitVec.toNat (show 256 > 0 by decide); omega)]
  rw [h2, h1, e2, BitVec.toInt_eq_toNat_cond]
  have hlt := x.toBitVec.isLt
  split <;> omega
theorem i2c_s {x : Int32} (h : 0 ≤ x.toInt ∧ x.toInt < 65536) : ((Int32.toUInt32 x) % 65536).toInt32.toInt = x.toInt := by
  have e : (Int32.toUInt32 x).toNat = x.toInt.toNat := by
    show x.toBitVec.toNat = x.toBitVec.toInt.toNat
    have h2 : 0 ≤ x.toBitVec.toInt := h.1
    rw [BitVec.toInt_eq_toNat_cond] at h2 ⊢
    split at h2
    · rw [if_pos (by assumption)]; omega
    · exfalso
      have := x.toBitVec.isLt
      omega
  have e2 : (Int32.toUInt32 x) % 65536 = Int32.toUInt32 x := by
    apply UInt32.toNat_inj.mp
    rw [UInt32.toNat_mod, e]
    show x.toInt.toNat % 65536 = _
    omega
  rw [e2]
  rfl
theorem bq_c {v s x y w : Int32} {z : Int} (hx : x = (Int32.toUInt32 v >>> (Int32.toUInt32 s &&& Int32.toUInt32 31)).toInt32) (hy : y = x &&& 255) (hw : w = (Int32.toUInt32 y % 65536).toInt32) (hs : s.toInt = z) : w.toInt = bqI v z := by
  subst hs hw
  have h0 : y.toInt = x.toInt % 256 := by rw [hy]; exact and255 x
  rw [i2c_s (by omega), h0]
  unfold bqI
  rw [ofI, ← hx]
