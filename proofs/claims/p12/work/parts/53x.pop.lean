/-! ===== how many bits: as Integer.bitCount counts them ===== -/
theorem and_sp (h k : Nat) {c m : Nat} (hc : c < 256) (hm : m < 256) : (256 * h + c) &&& (256 * k + m) = 256 * (h &&& k) + (c &&& m) := by
  have hc2 : c < 2 ^ 8 := hc
  have hm2 : m < 2 ^ 8 := hm
  have hcm : (c &&& m) < 2 ^ 8 := Nat.and_lt_two_pow c hm2
  apply Nat.eq_of_testBit_eq
  intro j
  show Nat.testBit ((2 ^ 8 * h + c) &&& (2 ^ 8 * k + m)) j = Nat.testBit (2 ^ 8 * (h &&& k) + (c &&& m)) j
  rw [Nat.testBit_and, Nat.testBit_two_pow_mul_add h hc2, Nat.testBit_two_pow_mul_add k hm2, Nat.testBit_two_pow_mul_add (h &&& k) hcm]
  by_cases g : j < 8
  · rw [if_pos g, if_pos g, if_pos g, Nat.testBit_and]
  · rw [if_neg g, if_neg g, if_neg g, Nat.testBit_and]
def pf1 (b : Nat) : Nat := b - ((b / 2) &&& 85)
def pf2 (c : Nat) : Nat := (c &&& 51) + ((c / 4) &&& 51)
def pf3 (d : Nat) : Nat := (d + d / 16) &&& 15
def p8 (b : Nat) : Nat := b % 2 + b / 2 % 2 + b / 4 % 2 + b / 8 % 2 + b / 16 % 2 + b / 32 % 2 + b / 64 % 2 + b / 128 % 2
theorem pf_a : ∀ b : Nat, b < 256 → ((b / 2) &&& 85) ≤ b ∧ pf1 b < 256 := by decide +kernel
theorem pf_b : ∀ b : Nat, b < 256 → (pf1 b &&& 51) + ((pf1 b / 4) &&& 51) ≤ 68 ∧ pf2 (pf1 b) ≤ 68 ∧ pf2 (pf1 b) % 16 ≤ 4 := by decide +kernel
theorem pf_c : ∀ b : Nat, b < 256 → pf3 (pf2 (pf1 b)) = p8 b ∧ pf3 (pf2 (pf1 b)) ≤ 8 := by decide +kernel
theorem pm1 : ∀ b : Nat, b < 256 → ∀ e : Nat, e < 2 → (b / 2 + 128 * e) &&& 85 = (b / 2) &&& 85 := by decide +kernel
theorem pm2 : ∀ c : Nat, c < 256 → ∀ e : Nat, e < 4 → (c / 4 + 64 * e) &&& 51 = (c / 4) &&& 51 := by decide +kernel
theorem pm3 : ∀ d : Nat, d < 69 → ∀ e : Nat, e < 16 → (d + d / 16 + 16 * e) &&& 15 = (d + d / 16) &&& 15 := by decide +kernel
theorem n4_and (b0 b1 b2 b3 m : Nat) (h0 : b0 < 256) (h1 : b1 < 256) (h2 : b2 < 256) (hm : m < 256) : (256 * (256 * (256 * b3 + b2) + b1) + b0) &&& (256 * (256 * (256 * m + m) + m) + m) = 256 * (256 * (256 * (b3 &&& m) + (b2 &&& m)) + (b1 &&& m)) + (b0 &&& m) := by
  rw [and_sp _ _ h0 hm, and_sp _ _ h1 hm, and_sp _ _ h2 hm]
theorem ps1 (b0 b1 b2 b3 : Nat) (h0 : b0 < 256) (h1 : b1 < 256) (h2 : b2 < 256) : ((256 * (256 * (256 * b3 + b2) + b1) + b0) / 2) &&& 1431655765 = 256 * (256 * (256 * ((b3 / 2) &&& 85) + ((b2 / 2) &&& 85)) + ((b1 / 2) &&& 85)) + ((b0 / 2) &&& 85) := by
  have e : (256 * (256 * (256 * b3 + b2) + b1) + b0) / 2 = 256 * (256 * (256 * (b3 / 2) + (b2 / 2 + 128 * (b3 % 2))) + (b1 / 2 + 128 * (b2 % 2))) + (b0 / 2 + 128 * (b1 % 2)) := by omega
  have em : (1431655765 : Nat) = 256 * (256 * (256 * 85 + 85) + 85) + 85 := by decide
  rw [e, em, n4_and _ _ _ _ _ (by omega) (by omega) (by omega) (by decide), pm1 b0 h0 _ (by omega), pm1 b1 h1 _ (by omega), pm1 b2 h2 _ (by omega)]
theorem ps2 (b0 b1 b2 b3 : Nat) (h0 : b0 < 256) (h1 : b1 < 256) (h2 : b2 < 256) : ((256 * (256 * (256 * b3 + b2) + b1) + b0) / 4) &&& 858993459 = 256 * (256 * (256 * ((b3 / 4) &&& 51) + ((b2 / 4) &&& 51)) + ((b1 / 4) &&& 51)) + ((b0 / 4) &&& 51) := by
  have e : (256 * (256 * (256 * b3 + b2) + b1) + b0) / 4 = 256 * (256 * (256 * (b3 / 4) + (b2 / 4 + 64 * (b3 % 4))) + (b1 / 4 + 64 * (b2 % 4))) + (b0 / 4 + 64 * (b1 % 4)) := by omega
  have em : (858993459 : Nat) = 256 * (256 * (256 * 51 + 51) + 51) + 51 := by decide
  rw [e, em, n4_and _ _ _ _ _ (by omega) (by omega) (by omega) (by decide), pm2 b0 h0 _ (by omega), pm2 b1 h1 _ (by omega), pm2 b2 h2 _ (by omega)]
theorem ps2b (b0 b1 b2 b3 : Nat) (h0 : b0 < 256) (h1 : b1 < 256) (h2 : b2 < 256) : (256 * (256 * (256 * b3 + b2) + b1) + b0) &&& 858993459 = 256 * (256 * (256 * (b3 &&& 51) + (b2 &&& 51)) + (b1 &&& 51)) + (b0 &&& 51) := by
  have em : (858993459 : Nat) = 256 * (256 * (256 * 51 + 51) + 51) + 51 := by decide
  rw [em, n4_and _ _ _ _ _ h0 h1 h2 (by decide)]
theorem ps3 (d0 d1 d2 d3 : Nat) (h0 : d0 ≤ 68) (h1 : d1 ≤ 68) (h2 : d2 ≤ 68) (h3 : d3 ≤ 68) (g1 : d1 % 16 ≤ 4) (g2 : d2 % 16 ≤ 4) (g3 : d3 % 16 ≤ 4) : (256 * (256 * (256 * d3 + d2) + d1) + d0 + (256 * (256 * (256 * d3 + d2) + d1) + d0) / 16) &&& 252645135 = 256 * (256 * (256 * pf3 d3 + pf3 d2) + pf3 d1) + pf3 d0 := by
  have e : 256 * (256 * (256 * d3 + d2) + d1) + d0 + (256 * (256 * (256 * d3 + d2) + d1) + d0) / 16 = 256 * (256 * (256 * (d3 + d3 / 16) + (d2 + d2 / 16 + 16 * (d3 % 16))) + (d1 + d1 / 16 + 16 * (d2 % 16))) + (d0 + d0 / 16 + 16 * (d1 % 16)) := by omega
  have em : (252645135 : Nat) = 256 * (256 * (256 * 15 + 15) + 15) + 15 := by decide
  rw [e, em, n4_and _ _ _ _ _ (by omega) (by omega) (by omega) (by decide), pm3 d0 (by omega) _ (by omega), pm3 d1 (by omega) _ (by omega), pm3 d2 (by omega) _ (by omega)]
  rfl
def p32 (n : Nat) : Nat := p8 (n % 256) + p8 (n / 256 % 256) + p8 (n / 65536 % 256) + p8 (n / 16777216 % 256)
/-- the whole count, step by step -/
theorem pop_all {n a1 y1 a2 a3 y2 y3 y4 y5 r : Nat} (hn : n < 4294967296) (e1 : a1 = (n / 2) &&& 1431655765) (e2 : y1 = n - a1) (e3 : a2 = y1 &&& 858993459) (e4 : a3 = (y1 / 4) &&& 858993459) (e5 : y2 = a2 + a3) (e6 : y3 = (y2 + y2 / 16) &&& 252645135) (e7 : y4 = y3 + y3 / 256) (e8 : y5 = y4 + y4 / 65536) (e9 : r = y5 &&& 63) : r = p32 n := by
  obtain ⟨b0, eb0⟩ : ∃ b, b = n % 256 := ⟨_, rfl⟩
  obtain ⟨b1, eb1⟩ : ∃ b, b = n / 256 % 256 := ⟨_, rfl⟩
  obtain ⟨b2, eb2⟩ : ∃ b, b = n / 65536 % 256 := ⟨_, rfl⟩
  obtain ⟨b3, eb3⟩ : ∃ b, b = n / 16777216 % 256 := ⟨_, rfl⟩
  have h0 : b0 < 256 := by omega
  have h1 : b1 < 256 := by omega
  have h2 : b2 < 256 := by omega
  have h3 : b3 < 256 := by omega
  have en : n = 256 * (256 * (256 * b3 + b2) + b1) + b0 := by omega
  unfold p32
  rw [← eb0, ← eb1, ← eb2, ← eb3]
  clear eb0 eb1 eb2 eb3 hn
  rw [en, ps1 b0 b1 b2 b3 h0 h1 h2] at e1
  obtain ⟨A0, B0⟩ := pf_a b0 h0
  obtain ⟨A1, B1⟩ := pf_a b1 h1
  obtain ⟨A2, B2⟩ := pf_a b2 h2
  obtain ⟨A3, B3⟩ := pf_a b3 h3
  have f : ∀ b, pf1 b = b - ((b / 2) &&& 85) := fun _ => rfl
  have ey1 : y1 = 256 * (256 * (256 * pf1 b3 + pf1 b2) + pf1 b1) + pf1 b0 := by
    rw [e2, en, e1, f b0, f b1, f b2, f b3]
    generalize (b0 / 2) &&& 85 = t0 at *
    generalize (b1 / 2) &&& 85 = t1 at *
    generalize (b2 / 2) &&& 85 = t2 at *
    generalize (b3 / 2) &&& 85 = t3 at *
    clear f
    omega
  rw [ey1, ps2b _ _ _ _ B0 B1 B2] at e3
  rw [ey1, ps2 _ _ _ _ B0 B1 B2] at e4
  obtain ⟨-, C0, D0⟩ := pf_b b0 h0
  obtain ⟨-, C1, D1⟩ := pf_b b1 h1
  obtain ⟨-, C2, D2⟩ := pf_b b2 h2
  obtain ⟨-, C3, D3⟩ := pf_b b3 h3
  have g : ∀ c, pf2 c = (c &&& 51) + ((c / 4) &&& 51) := fun _ => rfl
  have ey2 : y2 = 256 * (256 * (256 * pf2 (pf1 b3) + pf2 (pf1 b2)) + pf2 (pf1 b1)) + pf2 (pf1 b0) := by
    rw [e5, e3, e4, g (pf1 b0), g (pf1 b1), g (pf1 b2), g (pf1 b3)]
    omega
  rw [ey2, ps3 _ _ _ _ C0 C1 C2 C3 D1 D2 D3] at e6
  obtain ⟨E0, F0⟩ := pf_c b0 h0
  obtain ⟨E1, F1⟩ := pf_c b1 h1
  obtain ⟨E2, F2⟩ := pf_c b2 h2
  obtain ⟨E3, F3⟩ := pf_c b3 h3
  rw [E0, E1, E2, E3] at e6
  rw [E0] at F0
  rw [E1] at F1
  rw [E2] at F2
  rw [E3] at F3
  have e9 : r = y5 % 64 := by rw [e9]; exact Nat.and_two_pow_sub_one_eq_mod y5 6
  generalize p8 b0 = q0 at *
  generalize p8 b1 = q1 at *
  generalize p8 b2 = q2 at *
  generalize p8 b3 = q3 at *
  clear e1 e2 e3 e4 e5 ey1 ey2 en A0 A1 A2 A3 B0 B1 B2 B3 C0 C1 C2 C3 D0 D1 D2 D3 E0 E1 E2 E3 f g h0 h1 h2 h3
  have k1 : y3 / 256 = 65536 * q3 + 256 * q2 + q1 := by clear e7 e8 e9; omega
  rw [k1] at e7
  have k2 : y4 = 16777216 * q3 + 65536 * (q2 + q3) + 256 * (q1 + q2) + (q0 + q1) := by clear e8 e9 k1; omega
  have k3 : y4 / 65536 = 256 * q3 + (q2 + q3) := by clear e6 e7 e8 e9 k1; omega
  rw [k3, k2] at e8
  clear e6 e7 k1 k2 k3
  have k4 : y5 = 64 * (262144 * q3 + 1024 * (q2 + q3) + 4 * (q1 + q2) + 4 * q3) + (q0 + q1 + q2 + q3) := by clear e9; omega
  rw [e9, k4, Nat.mul_add_mod, Nat.mod_eq_of_lt (by clear e8 e9 k4; omega)]
/-! the shifts, the masks -/
theorem u_nat {x : Int32} (h : 0 ≤ x.toInt) : (Int32.toUInt32 x).toNat = x.toInt.toNat := by
  show x.toBitVec.toNat = x.toBitVec.toInt.toNat
  have h2 : 0 ≤ x.toBitVec.toInt := h
  rw [BitVec.toInt_eq_toNat_cond] at h2 ⊢
  split at h2
  · rw [if_pos (by assumption)]; omega
  · exfalso
    have := x.toBitVec.isLt
    omega
theorem ushr_n {x y k : Int32} {s : Nat} (hy : y = (Int32.toUInt32 x >>> (Int32.toUInt32 k &&& Int32.toUInt32 31)).toInt32) (hk : (Int32.toUInt32 k &&& Int32.toUInt32 31).toNat % 32 = s) (h : 0 ≤ x.toInt) : y.toInt = ((x.toInt.toNat / 2 ^ s : Nat) : Int) := by
  have e2 : (Int32.toUInt32 x >>> (Int32.toUInt32 k &&& Int32.toUInt32 31)).toNat = x.toInt.toNat / 2 ^ s := by
    rw [UInt32.toNat_shiftRight, hk, u_nat h, Nat.shiftRight_eq_div_pow]
  have lt : x.toInt.toNat / 2 ^ s ≤ x.toInt.toNat := Nat.div_le_self _ _
  have hx := Int32.toInt_lt x
  subst hy
  show BitVec.toInt (Int32.toUInt32 x >>> (Int32.toUInt32 k &&& Int32.toUInt32 31)).toBitVec = _
  rw [BitVec.toInt_eq_toNat_of_lt]
  · exact congrArg Int.ofNat e2
  · have e3 : (Int32.toUInt32 x >>> (Int32.toUInt32 k &&& Int32.toUInt32 31)).toBitVec.toNat = x.toInt.toNat / 2 ^ s := e2
    rw [e3]
    omega
theorem and_n {x m w : Int32} (hw : w = x &&& m) (hx : 0 ≤ x.toInt) (hm : 0 ≤ m.toInt) : w.toInt = ((x.toInt.toNat &&& m.toInt.toNat : Nat) : Int) := by
  have ex : x.toBitVec.toNat = x.toInt.toNat := u_nat hx
  have em : m.toBitVec.toNat = m.toInt.toNat := u_nat hm
  have e2 : w.toBitVec.toNat = x.toInt.toNat &&& m.toInt.toNat := by
    rw [hw, Int32.toBitVec_and, BitVec.toNat_and, ex, em]
  have le : (x.toInt.toNat &&& m.toInt.toNat) ≤ x.toInt.toNat := Nat.and_le_left
  have hl := Int32.toInt_lt x
  show w.toBitVec.toInt = _
  rw [BitVec.toInt_eq_toNat_of_lt (by rw [e2]; omega), e2]
/-! the bits of a number -/
theorem p8_bits (b : Nat) : p8 b = (b.testBit 0).toNat + (b.testBit 1).toNat + (b.testBit 2).toNat + (b.testBit 3).toNat + (b.testBit 4).toNat + (b.testBit 5).toNat + (b.testBit 6).toNat + (b.testBit 7).toNat := by
  have key : ∀ z : Nat, z % 2 = (decide (z % 2 = 1)).toNat := fun z => by
    rcases Nat.mod_two_eq_zero_or_one z with h | h <;> rw [h] <;> rfl
  have q : ∀ j : Nat, b / 2 ^ j % 2 = (b.testBit j).toNat := fun j => by
    rw [Nat.testBit_eq_decide_div_mod_eq]; exact key _
  have q0 : b % 2 = (b.testBit 0).toNat := by rw [← q 0, Nat.pow_zero, Nat.div_one]
  have q1 : b / 2 % 2 = (b.testBit 1).toNat := q 1
  have q2 : b / 4 % 2 = (b.testBit 2).toNat := q 2
  have q3 : b / 8 % 2 = (b.testBit 3).toNat := q 3
  have q4 : b / 16 % 2 = (b.testBit 4).toNat := q 4
  have q5 : b / 32 % 2 = (b.testBit 5).toNat := q 5
  have q6 : b / 64 % 2 = (b.testBit 6).toNat := q 6
  have q7 : b / 128 % 2 = (b.testBit 7).toNat := q 7
  unfold p8
  rw [q0, q1, q2, q3, q4, q5, q6, q7]
theorem bI_tb {x : Int32} {X : Int} (h : x.toInt = X) (h0 : 0 ≤ X) (k : Nat) : bI X (k : Int) = (((X.toNat.testBit k).toNat : Nat) : Int) := by
  rw [bI_of h]
  have e : bt x ((k : Int)).toNat = X.toNat.testBit k := by
    unfold bt
    show x.toBitVec.toNat.testBit k = _
    rw [show x.toBitVec.toNat = x.toInt.toNat from u_nat (by omega), h]
  rw [e]
  cases X.toNat.testBit k <;> rfl
theorem tb_byte (n i j : Nat) (hj : j < 8) : (n / 2 ^ i % 2 ^ 8).testBit j = n.testBit (j + i) := by
  rw [Nat.testBit_mod_two_pow, Nat.testBit_div_two_pow, decide_eq_true hj, Bool.true_and]
theorem p8_at (n i : Nat) : p8 (n / 2 ^ i % 2 ^ 8) = (n.testBit (0 + i)).toNat + (n.testBit (1 + i)).toNat + (n.testBit (2 + i)).toNat + (n.testBit (3 + i)).toNat + (n.testBit (4 + i)).toNat + (n.testBit (5 + i)).toNat + (n.testBit (6 + i)).toNat + (n.testBit (7 + i)).toNat := by
  rw [p8_bits, tb_byte n i 0 (by decide), tb_byte n i 1 (by decide), tb_byte n i 2 (by decide), tb_byte n i 3 (by decide), tb_byte n i 4 (by decide), tb_byte n i 5 (by decide), tb_byte n i 6 (by decide), tb_byte n i 7 (by decide)]
theorem p32_at (n : Nat) : p32 n = ((n.testBit (0 + 0)).toNat + (n.testBit (1 + 0)).toNat + (n.testBit (2 + 0)).toNat + (n.testBit (3 + 0)).toNat + (n.testBit (4 + 0)).toNat + (n.testBit (5 + 0)).toNat + (n.testBit (6 + 0)).toNat + (n.testBit (7 + 0)).toNat) + ((n.testBit (0 + 8)).toNat + (n.testBit (1 + 8)).toNat + (n.testBit (2 + 8)).toNat + (n.testBit (3 + 8)).toNat + (n.testBit (4 + 8)).toNat + (n.testBit (5 + 8)).toNat + (n.testBit (6 + 8)).toNat + (n.testBit (7 + 8)).toNat) + ((n.testBit (0 + 16)).toNat + (n.testBit (1 + 16)).toNat + (n.testBit (2 + 16)).toNat + (n.testBit (3 + 16)).toNat + (n.testBit (4 + 16)).toNat + (n.testBit (5 + 16)).toNat + (n.testBit (6 + 16)).toNat + (n.testBit (7 + 16)).toNat) + ((n.testBit (0 + 24)).toNat + (n.testBit (1 + 24)).toNat + (n.testBit (2 + 24)).toNat + (n.testBit (3 + 24)).toNat + (n.testBit (4 + 24)).toNat + (n.testBit (5 + 24)).toNat + (n.testBit (6 + 24)).toNat + (n.testBit (7 + 24)).toNat) := by
  have e0 : n % 256 = n / 2 ^ 0 % 2 ^ 8 := by rw [Nat.pow_zero, Nat.div_one]
  unfold p32
  rw [e0, show n / 256 % 256 = n / 2 ^ 8 % 2 ^ 8 from rfl, show n / 65536 % 256 = n / 2 ^ 16 % 2 ^ 8 from rfl, show n / 16777216 % 256 = n / 2 ^ 24 % 2 ^ 8 from rfl, p8_at, p8_at, p8_at, p8_at]
theorem pop_bsm {x : Int32} {X : Int} (h : x.toInt = X) (h0 : 0 ≤ X) (z0 : bI X 30 = 0) (z1 : bI X 31 = 0) : ((p32 X.toNat : Nat) : Int) = bsm (bI X) 30 := by
  have e : bsm (bI X) 30 = 0 + bI X ((0 : Nat) : Int) + bI X ((1 : Nat) : Int) + bI X ((2 : Nat) : Int) + bI X ((3 : Nat) : Int) + bI X ((4 : Nat) : Int) + bI X ((5 : Nat) : Int) + bI X ((6 : Nat) : Int) + bI X ((7 : Nat) : Int) + bI X ((8 : Nat) : Int) + bI X ((9 : Nat) : Int) + bI X ((10 : Nat) : Int) + bI X ((11 : Nat) : Int) + bI X ((12 : Nat) : Int) + bI X ((13 : Nat) : Int) + bI X ((14 : Nat) : Int) + bI X ((15 : Nat) : Int) + bI X ((16 : Nat) : Int) + bI X ((17 : Nat) : Int) + bI X ((18 : Nat) : Int) + bI X ((19 : Nat) : Int) + bI X ((20 : Nat) : Int) + bI X ((21 : Nat) : Int) + bI X ((22 : Nat) : Int) + bI X ((23 : Nat) : Int) + bI X ((24 : Nat) : Int) + bI X ((25 : Nat) : Int) + bI X ((26 : Nat) : Int) + bI X ((27 : Nat) : Int) + bI X ((28 : Nat) : Int) + bI X ((29 : Nat) : Int) := rfl
  have z0 : bI X ((30 : Nat) : Int) = 0 := z0
  have z1 : bI X ((31 : Nat) : Int) = 0 := z1
  rw [bI_tb h h0] at z0 z1
  rw [e, bI_tb h h0 0, bI_tb h h0 1, bI_tb h h0 2, bI_tb h h0 3, bI_tb h h0 4, bI_tb h h0 5, bI_tb h h0 6, bI_tb h h0 7, bI_tb h h0 8, bI_tb h h0 9, bI_tb h h0 10, bI_tb h h0 11, bI_tb h h0 12, bI_tb h h0 13, bI_tb h h0 14, bI_tb h h0 15, bI_tb h h0 16, bI_tb h h0 17, bI_tb h h0 18, bI_tb h h0 19, bI_tb h h0 20, bI_tb h h0 21, bI_tb h h0 22, bI_tb h h0 23, bI_tb h h0 24, bI_tb h h0 25, bI_tb h h0 26, bI_tb h h0 27, bI_tb h h0 28, bI_tb h h0 29, p32_at]
  show ((((X.toNat.testBit 0).toNat + (X.toNat.testBit 1).toNat + (X.toNat.testBit 2).toNat + (X.toNat.testBit 3).toNat + (X.toNat.testBit 4).toNat + (X.toNat.testBit 5).toNat + (X.toNat.testBit 6).toNat + (X.toNat.testBit 7).toNat) + ((X.toNat.testBit 8).toNat + (X.toNat.testBit 9).toNat + (X.toNat.testBit 10).toNat + (X.toNat.testBit 11).toNat + (X.toNat.testBit 12).toNat + (X.toNat.testBit 13).toNat + (X.toNat.testBit 14).toNat + (X.toNat.testBit 15).toNat) + ((X.toNat.testBit 16).toNat + (X.toNat.testBit 17).toNat + (X.toNat.testBit 18).toNat + (X.toNat.testBit 19).toNat + (X.toNat.testBit 20).toNat + (X.toNat.testBit 21).toNat + (X.toNat.testBit 22).toNat + (X.toNat.testBit 23).toNat) + ((X.toNat.testBit 24).toNat + (X.toNat.testBit 25).toNat + (X.toNat.testBit 26).toNat + (X.toNat.testBit 27).toNat + (X.toNat.testBit 28).toNat + (X.toNat.testBit 29).toNat + (X.toNat.testBit 30).toNat + (X.toNat.testBit 31).toNat) : Nat) : Int) = _
  omega
/-- a number of bits below 31 is none below 0 -/
theorem bI_pos {x : Int32} {X : Int} (h : x.toInt = X) (z1 : bI X 31 = 0) : 0 ≤ X := by
  apply Classical.byContradiction
  intro g
  have e : bt x 31 = true := by
    unfold bt
    show x.toBitVec.toNat.testBit 31 = true
    have e2 : x.toInt = x.toBitVec.toInt := rfl
    rw [BitVec.toInt_eq_toNat_cond] at e2
    have hl := x.toBitVec.isLt
    split at e2
    · exfalso; omega
    · rw [Nat.testBit_eq_decide_div_mod_eq]
      exact decide_eq_true (by omega)
  rw [bI_of h] at z1
  have e3 : bt x ((31 : Int)).toNat = true := e
  rw [e3] at z1
  exact absurd z1 (by decide)
theorem add_n {x y z : Int32} {a b : Nat} (t : z.toInt = x.toInt + y.toInt ∨ x.toInt + y.toInt < -2147483648 ∨ 2147483648 ≤ x.toInt + y.toInt) (hx : x.toInt = (a : Int)) (hy : y.toInt = (b : Int)) (h : a + b < 2147483648) : z.toInt = ((a + b : Nat) : Int) := by omega
theorem sub_n {x y z : Int32} {a b : Nat} (t : z.toInt = x.toInt - y.toInt ∨ x.toInt - y.toInt < -2147483648 ∨ 2147483648 ≤ x.toInt - y.toInt) (hx : x.toInt = (a : Int)) (hy : y.toInt = (b : Int)) (h : b ≤ a) (ha : a < 2147483648) : z.toInt = ((a - b : Nat) : Int) := by omega
theorem ushr_m {x y k : Int32} {s a : Nat} (hy : y = (Int32.toUInt32 x >>> (Int32.toUInt32 k &&& Int32.toUInt32 31)).toInt32) (hk : (Int32.toUInt32 k &&& Int32.toUInt32 31).toNat % 32 = s) (hx : x.toInt = (a : Int)) : y.toInt = ((a / 2 ^ s : Nat) : Int) := by
  have e := ushr_n hy hk (by omega)
  rw [hx] at e
  exact e
theorem and_m {x m w : Int32} {a c : Nat} (hw : w = x &&& m) (hx : x.toInt = (a : Int)) (hm : m.toInt = (c : Int)) : w.toInt = ((a &&& c : Nat) : Int) := by
  have e := and_n hw (by omega) (by omega)
  rw [hx, hm] at e
  exact e
theorem bc_all {p x3 x7 x8 x14 x17 x21 x22 x27 x28 x32 x38 x39 x45 x46 x50 : Int32} (h0 : 0 ≤ p.toInt) (eb3 : x3 = (Int32.toUInt32 p >>> (Int32.toUInt32 1 &&& Int32.toUInt32 31)).toInt32) (he7 : x7 = x3 &&& 1431655765) (t8 : x8.toInt = p.toInt - x7.toInt ∨ p.toInt - x7.toInt < -2147483648 ∨ 2147483648 ≤ p.toInt - x7.toInt) (he14 : x14 = x8 &&& 858993459) (eb17 : x17 = (Int32.toUInt32 x8 >>> (Int32.toUInt32 2 &&& Int32.toUInt32 31)).toInt32) (he21 : x21 = x17 &&& 858993459) (t22 : x22.toInt = x14.toInt + x21.toInt ∨ x14.toInt + x21.toInt < -2147483648 ∨ 2147483648 ≤ x14.toInt + x21.toInt) (eb27 : x27 = (Int32.toUInt32 x22 >>> (Int32.toUInt32 4 &&& Int32.toUInt32 31)).toInt32) (t28 : x28.toInt = x22.toInt + x27.toInt ∨ x22.toInt + x27.toInt < -2147483648 ∨ 2147483648 ≤ x22.toInt + x27.toInt) (he32 : x32 = x28 &&& 252645135) (eb38 : x38 = (Int32.toUInt32 x32 >>> (Int32.toUInt32 8 &&& Int32.toUInt32 31)).toInt32) (t39 : x39.toInt = x32.toInt + x38.toInt ∨ x32.toInt + x38.toInt < -2147483648 ∨ 2147483648 ≤ x32.toInt + x38.toInt) (eb45 : x45 = (Int32.toUInt32 x39 >>> (Int32.toUInt32 16 &&& Int32.toUInt32 31)).toInt32) (t46 : x46.toInt = x39.toInt + x45.toInt ∨ x39.toInt + x45.toInt < -2147483648 ∨ 2147483648 ≤ x39.toInt + x45.toInt) (he50 : x50 = x46 &&& 63) : x50.toInt = ((p32 p.toInt.toNat : Nat) : Int) := by
  obtain ⟨n, en⟩ : ∃ n : Nat, p.toInt = (n : Int) := ⟨p.toInt.toNat, by clear eb3 he7 t8 he14 eb17 he21 t22 eb27 t28 he32 eb38 t39 eb45 t46 he50; omega⟩
  have hn : n < 2147483648 := by
    have hp := Int32.toInt_lt p
    clear eb3 he7 t8 he14 eb17 he21 t22 eb27 t28 he32 eb38 t39 eb45 t46 he50
    omega
  have s3 : x3.toInt = ((n / 2 : Nat) : Int) := ushr_m (s := 1) eb3 (by decide) en
  have s7 : x7.toInt = ((n / 2 &&& 1431655765 : Nat) : Int) := and_m he7 s3 (by decide)
  have b7 : (n / 2 &&& 1431655765) ≤ n := Nat.le_trans Nat.and_le_left (Nat.div_le_self _ _)
  obtain ⟨a1, ea1⟩ : ∃ a, a = (n / 2) &&& 1431655765 := ⟨_, rfl⟩
  rw [← ea1] at s7 b7
  have s8 := sub_n t8 en s7 b7 hn
  have b8 : n - a1 < 2147483648 := Nat.lt_of_le_of_lt (Nat.sub_le _ _) hn
  obtain ⟨y1, ey1⟩ : ∃ a, a = n - a1 := ⟨_, rfl⟩
  rw [← ey1] at s8 b8
  have s14 : x14.toInt = ((y1 &&& 858993459 : Nat) : Int) := and_m he14 s8 (by decide)
  have b14 : (y1 &&& 858993459) ≤ 858993459 := Nat.and_le_right
  have s17 : x17.toInt = ((y1 / 4 : Nat) : Int) := ushr_m (s := 2) eb17 (by decide) s8
  have s21 : x21.toInt = ((y1 / 4 &&& 858993459 : Nat) : Int) := and_m he21 s17 (by decide)
  have b21 : (y1 / 4 &&& 858993459) ≤ 858993459 := Nat.and_le_right
  obtain ⟨a2, ea2⟩ : ∃ a, a = y1 &&& 858993459 := ⟨_, rfl⟩
  obtain ⟨a3, ea3⟩ : ∃ a, a = (y1 / 4) &&& 858993459 := ⟨_, rfl⟩
  rw [← ea2] at s14 b14
  rw [← ea3] at s21 b21
  have b22 : a2 + a3 ≤ 1717986918 := Nat.add_le_add b14 b21
  have s22 := add_n t22 s14 s21 (Nat.lt_of_le_of_lt b22 (by decide))
  obtain ⟨y2, ey2⟩ : ∃ a, a = a2 + a3 := ⟨_, rfl⟩
  rw [← ey2] at s22 b22
  have s27 : x27.toInt = ((y2 / 16 : Nat) : Int) := ushr_m (s := 4) eb27 (by decide) s22
  have b27 : y2 / 16 ≤ 107374182 := Nat.div_le_div_right (c := 16) b22
  have s28 := add_n t28 s22 s27 (Nat.lt_of_le_of_lt (Nat.add_le_add b22 b27) (by decide))
  have s32 : x32.toInt = (((y2 + y2 / 16) &&& 252645135 : Nat) : Int) := and_m he32 s28 (by decide)
  have b32 : ((y2 + y2 / 16) &&& 252645135) ≤ 252645135 := Nat.and_le_right
  obtain ⟨y3, ey3⟩ : ∃ a, a = (y2 + y2 / 16) &&& 252645135 := ⟨_, rfl⟩
  rw [← ey3] at s32 b32
  have s38 : x38.toInt = ((y3 / 256 : Nat) : Int) := ushr_m (s := 8) eb38 (by decide) s32
  have b38 : y3 / 256 ≤ 986895 := Nat.div_le_div_right (c := 256) b32
  have b39 : y3 + y3 / 256 ≤ 253632030 := Nat.add_le_add b32 b38
  have s39 := add_n t39 s32 s38 (Nat.lt_of_le_of_lt b39 (by decide))
  obtain ⟨y4, ey4⟩ : ∃ a, a = y3 + y3 / 256 := ⟨_, rfl⟩
  rw [← ey4] at s39 b39
  have s45 : x45.toInt = ((y4 / 65536 : Nat) : Int) := ushr_m (s := 16) eb45 (by decide) s39
  have b45 : y4 / 65536 ≤ 3870 := Nat.div_le_div_right (c := 65536) b39
  have s46 := add_n t46 s39 s45 (Nat.lt_of_le_of_lt (Nat.add_le_add b39 b45) (by decide))
  obtain ⟨y5, ey5⟩ : ∃ a, a = y4 + y4 / 65536 := ⟨_, rfl⟩
  rw [← ey5] at s46
  have s50 : x50.toInt = ((y5 &&& 63 : Nat) : Int) := and_m he50 s46 (by decide)
  obtain ⟨r, er⟩ : ∃ a, a = y5 &&& 63 := ⟨_, rfl⟩
  rw [← er] at s50
  have f := pop_all (n := n) (Nat.lt_trans hn (by decide)) ea1 ey1 ea2 ea3 ey2 ey3 ey4 ey5 er
  rw [s50, en, f]
  rfl
theorem bsm_b {f : Int → Int} : ∀ n : Nat, (∀ k : Nat, k < n → f k = 0 ∨ f k = 1) → 0 ≤ bsm f n ∧ bsm f n ≤ (n : Int)
  | 0, _ => ⟨Int.le_refl _, Int.le_refl _⟩
  | n + 1, h => by
    have ih := bsm_b n (fun k hk => h k (by omega))
    have hn := h n (by omega)
    show 0 ≤ bsm f n + f n ∧ bsm f n + f n ≤ ((n + 1 : Nat) : Int)
    omega
def szB (b : Int → Int) (t : Int) : Int := bsm (bI (b t)) 30
theorem szB_b (b : Int → Int) (t : Int) : 0 ≤ szB b t ∧ szB b t ≤ 30 := bsm_b 30 (fun k _ => bI01 (b t) k)
theorem sz_p {r b : Int → Int} {p x : Int} {z : Int32} (hro : RO r b) (hz : z.toInt = b p) (t2 : (0 ≤ p ∧ p < 3 ∧ x = b p) ∨ ((p < 0 ∨ 3 ≤ p) ∧ x = 0)) : 0 ≤ x := by
  rcases t2 with ⟨h1, h3, h2⟩ | ⟨-, h2⟩
  · rw [h2]; exact bI_pos hz (hro.2.2 p 31 h1 h3 (by decide) (by decide))
  · omega
theorem sz_bd {r b : Int → Int} {p x y : Int} {z : Int32} (hro : RO r b) (hz : z.toInt = b p) (t2 : (0 ≤ p ∧ p < 3 ∧ x = b p) ∨ ((p < 0 ∨ 3 ≤ p) ∧ x = 0)) (h : y = ((p32 x.toNat : Nat) : Int)) : (((0 ≤ p ∧ p < 3) ∧ y = szB b p) ∨ (¬ (0 ≤ p ∧ p < 3) ∧ y = 0)) ∧ (0 ≤ y ∧ y ≤ 30) := by
  have h0 := sz_p hro hz t2
  rcases t2 with ⟨h1, h3, h2⟩ | ⟨h1, h2⟩
  · have e : y = szB b p := by
      rw [h, h2]
      exact pop_bsm hz (by omega) (hro.2.2 p 30 h1 h3 (by decide) (by decide)) (hro.2.2 p 31 h1 h3 (by decide) (by decide))
    exact ⟨Or.inl ⟨⟨h1, h3⟩, e⟩, by rw [e]; exact szB_b b p⟩
  · have e : y = 0 := by rw [h, h2]; rfl
    exact ⟨Or.inr ⟨by omega, e⟩, by omega⟩
def toB (b : Int → Int) (n : Int) : Int := bsm (szB b) n.toNat
theorem toB_0 (b : Int → Int) : toB b 0 = 0 := rfl
theorem toB_s (b : Int → Int) {n : Int} (h : 0 ≤ n) : toB b (n + 1) = toB b n + szB b n := by
  have e : (n + 1).toNat = n.toNat + 1 := by omega
  have e2 : ((n.toNat : Nat) : Int) = n := by omega
  unfold toB
  rw [e]
  show bsm (szB b) n.toNat + szB b ((n.toNat : Nat) : Int) = _
  rw [e2]
