/-! ===== what the numbers mean: bits, rows, counts, states (no machine) ===== -/
/-- a row of numbers, read by an integer -/
def aI (f : Nat → Int32) (z : Int) : Int := (f z.toNat).toInt
/-- the 270 cells, 0 elsewhere -/
def vw (f : Nat → Int32) (z : Int) : Int := if 0 ≤ z ∧ z < 270 then aI f z else 0
theorem vw_in {f : Nat → Int32} {z : Int} (h : 0 ≤ z ∧ z < 270) : vw f z = aI f z := if_pos h
def bt (x : Int32) (i : Nat) : Bool := x.toBitVec.getLsbD i
theorem b_or (x y : Int32) (i : Nat) : bt (x ||| y) i = (bt x i || bt y i) := by unfold bt; rw [Int32.toBitVec_or, BitVec.getLsbD_or]
theorem b_and (x y : Int32) (i : Nat) : bt (x &&& y) i = (bt x i && bt y i) := by unfold bt; rw [Int32.toBitVec_and, BitVec.getLsbD_and]
theorem b_xor (x y : Int32) (i : Nat) : bt (x ^^^ y) i = (bt x i ^^ bt y i) := by unfold bt; rw [Int32.toBitVec_xor, BitVec.getLsbD_xor]
theorem b_ext {x y : Int32} (h : ∀ i, i < 32 → bt x i = bt y i) : x = y := Int32.toBitVec_inj.mp (BitVec.eq_of_getLsbD_eq (fun i hi => h i hi))
theorem b_m1 : ∀ i, i < 32 → bt (-1) i = true := by decide +kernel
theorem b_1 : ∀ i, i < 32 → bt 1 i = decide (i = 0) := by decide +kernel
theorem b_0 (i : Nat) : bt 0 i = false := BitVec.getLsbD_zero
theorem s_l : ∀ n, n < 32 → ((nI n &&& 31).toBitVec.smod 32).toNat = n := by decide +kernel
theorem b_shl (n : Nat) (hn : n < 32) (x : Int32) {i : Nat} (hi : i < 32) : bt (x <<< (nI n &&& 31)) i = (decide (n ≤ i) && bt x (i - n)) := by
  unfold bt
  rw [Int32.toBitVec_shiftLeft]
  show (x.toBitVec <<< ((nI n &&& 31).toBitVec.smod 32).toNat).getLsbD i = _
  rw [s_l n hn, BitVec.getLsbD_shiftLeft]
  rcases Nat.lt_or_ge i n with h | h
  · simp [h, Nat.not_le.mpr h]
  · simp [hi, h, Nat.not_lt.mpr h]
theorem b_sshr (n : Nat) (hn : n < 32) (x : Int32) {i : Nat} (hi : i < 32) : bt (x >>> (nI n &&& 31)) i = if n + i < 32 then bt x (n + i) else bt x 31 := by
  unfold bt
  rw [Int32.toBitVec_shiftRight]
  show (x.toBitVec.sshiftRight ((nI n &&& 31).toBitVec.smod 32).toNat).getLsbD i = _
  rw [s_l n hn, BitVec.getLsbD_sshiftRight, BitVec.msb_eq_getLsbD_last]
  simp [hi]
theorem nJ_of {k : Int32} {z : Int} (h : k.toInt = z) (h0 : 0 ≤ z ∧ z < 32) : k = nI z.toNat := by
  apply Int32.toInt_inj.mp
  rw [h, nI_toInt (by omega)]
  omega
/-- bit k of the number z (in 32 bits) -/
def bI (z k : Int) : Int := if bt (Int32.ofInt z) k.toNat then 1 else 0
theorem ofI (x : Int32) : Int32.ofInt x.toInt = x := Int32.ofInt_toInt x
theorem bI_of {x : Int32} {X k : Int} (h : x.toInt = X) : bI X k = if bt x k.toNat then 1 else 0 := by
  subst h
  unfold bI
  rw [ofI]
theorem bI01 (z k : Int) : bI z k = 0 ∨ bI z k = 1 := by
  unfold bI
  split
  · exact Or.inr rfl
  · exact Or.inl rfl
theorem bt01 {x : Int32} (h : ∀ i, 0 < i → i < 32 → bt x i = false) : x.toInt = if bt x 0 then 1 else 0 := by
  cases h0 : bt x 0
  · have e : x = 0 := b_ext (fun i hi => by
      rw [b_0]
      rcases Nat.eq_zero_or_pos i with e | e
      · rw [e]; exact h0
      · exact h i e hi)
    subst e
    rfl
  · have e : x = 1 := b_ext (fun i hi => by
      rw [b_1 i hi]
      rcases Nat.eq_zero_or_pos i with e | e
      · rw [e, h0]; rfl
      · rw [h i e hi, decide_eq_false (by omega)])
    subst e
    rfl
/-- (x >> k) & 1 -/
theorem bI_and {x k y w : Int32} {X Z : Int} (hy : y = x >>> (k &&& 31)) (hw : w = y &&& 1) (hX : x.toInt = X) (hk : k.toInt = Z) (h0 : 0 ≤ Z ∧ Z < 32) : w.toInt = bI X Z := by
  have ek := nJ_of hk h0
  have e0 : ∀ i, i < 32 → bt w i = (decide (i = 0) && bt x Z.toNat) := by
    intro i hi
    rw [hw, b_and, b_1 i hi, hy, ek, b_sshr _ (by omega) _ hi]
    by_cases e : i = 0
    · subst e
      rw [if_pos (by omega)]
      simp
    · simp [e]
  rw [bI_of hX, bt01 (fun i h1 h2 => by rw [e0 i h2, decide_eq_false (by omega)]; rfl), e0 0 (by omega)]
  simp
/-- x | 1 << k -/
theorem bI_set {x k y w : Int32} {X Z : Int} (hy : y = (1 : Int32) <<< (k &&& 31)) (hw : w = x ||| y) (hX : x.toInt = X) (hk : k.toInt = Z) (h0 : 0 ≤ Z ∧ Z < 32) : ∀ j : Int, 0 ≤ j → j < 32 → bI w.toInt j = if j = Z then 1 else bI X j := by
  intro j hj0 hj
  have ek := nJ_of hk h0
  rw [bI_of rfl, bI_of hX, hw, b_or, hy, ek, b_shl _ (by omega) _ (by omega)]
  by_cases e : j = Z
  · subst e
    simp [show bt 1 0 = true from by decide +kernel]
  · rw [if_neg e]
    by_cases h : Z.toNat ≤ j.toNat
    · rw [b_1 _ (by omega), decide_eq_false (p := j.toNat - Z.toNat = 0) (by omega)]
      simp
    · rw [decide_eq_false h]
      simp
/-- x & ~(1 << k) -/
theorem bI_clr {x k y n w : Int32} {X Z : Int} (hy : y = (1 : Int32) <<< (k &&& 31)) (hn : n = y ^^^ (-1)) (hw : w = x &&& n) (hX : x.toInt = X) (hk : k.toInt = Z) (h0 : 0 ≤ Z ∧ Z < 32) : ∀ j : Int, 0 ≤ j → j < 32 → bI w.toInt j = if j = Z then 0 else bI X j := by
  intro j hj0 hj
  have ek := nJ_of hk h0
  rw [bI_of rfl, bI_of hX, hw, b_and, hn, b_xor, b_m1 _ (by omega), hy, ek, b_shl _ (by omega) _ (by omega)]
  by_cases e : j = Z
  · subst e
    simp [show bt 1 0 = true from by decide +kernel]
  · rw [if_neg e]
    by_cases h : Z.toNat ≤ j.toNat
    · rw [b_1 _ (by omega), decide_eq_false (p := j.toNat - Z.toNat = 0) (by omega)]
      simp
    · rw [decide_eq_false h]
      simp
theorem bI_xor {x y w : Int32} {X Y : Int} (hw : w = x ^^^ y) (hX : x.toInt = X) (hY : y.toInt = Y) : ∀ j : Int, (bI w.toInt j = 1 ↔ bI X j ≠ bI Y j) := by
  intro j
  rw [bI_of rfl, bI_of hX, bI_of hY, hw, b_xor]
  cases bt x j.toNat <;> cases bt y j.toNat <;> simp
theorem bI_band {x y w : Int32} {X Y : Int} (hw : w = x &&& y) (hX : x.toInt = X) (hY : y.toInt = Y) : ∀ j : Int, (bI w.toInt j = 1 ↔ bI X j = 1 ∧ bI Y j = 1) := by
  intro j
  rw [bI_of rfl, bI_of hX, bI_of hY, hw, b_and]
  cases bt x j.toNat <;> cases bt y j.toNat <;> simp
/-- x >> k is 0: no bit from k on -/
theorem bI_sh0 {x k y : Int32} {X Z : Int} (hy : y = x >>> (k &&& 31)) (hX : x.toInt = X) (hk : k.toInt = Z) (h0 : 0 ≤ Z ∧ Z < 32) (h : y.toInt = 0) : ∀ j : Int, Z ≤ j → j < 32 → bI X j = 0 := by
  intro j hj0 hj
  have ek := nJ_of hk h0
  have y0 : y = 0 := Int32.toInt_inj.mp h
  have e := b_sshr Z.toNat (by omega) x (i := j.toNat - Z.toNat) (by omega)
  rw [← ek, ← hy, y0, b_0, if_pos (by omega)] at e
  have e2 : Z.toNat + (j.toNat - Z.toNat) = j.toNat := by omega
  rw [e2] at e
  rw [bI_of hX, ← e]
  rfl
theorem bI_0 (j : Int) : bI 0 j = 0 := by
  have h := bI_of (x := 0) (k := j) (X := 0) rfl
  rw [h, b_0]
  rfl
/-! rows: 270 cells, (t, c, k) at 90 t + 30 c + k; -2000: no row -/
def cel (r : Int → Int) (t k c : Int) : Int := if 0 ≤ t ∧ t < 3 ∧ 0 ≤ k ∧ k < 30 ∧ 0 ≤ c ∧ c < 3 then r (90 * t + 30 * c + k) else -2000
theorem cel_in {r : Int → Int} {t k c : Int} (h : 0 ≤ t ∧ t < 3 ∧ 0 ≤ k ∧ k < 30 ∧ 0 ≤ c ∧ c < 3) : cel r t k c = r (90 * t + 30 * c + k) := if_pos h
theorem cel_out {r : Int → Int} {t k c : Int} (h : ¬ (0 ≤ t ∧ t < 3 ∧ 0 ≤ k ∧ k < 30 ∧ 0 ≤ c ∧ c < 3)) : cel r t k c = -2000 := if_neg h
def okv (v : Int) : Prop := v = -2000 ∨ v = -1000 ∨ (-99 ≤ v ∧ v ≤ 99)
/-- rows and their key bits agree -/
def RO (r b : Int → Int) : Prop := (∀ t k : Int, 0 ≤ t → t < 3 → 0 ≤ k → k < 30 → (bI (b t) k = 1 ↔ r (90 * t + k) ≠ -2000) ∧ ∀ c : Int, 0 ≤ c → c < 3 → (r (90 * t + 30 * c + k) = -2000 ↔ r (90 * t + k) = -2000)) ∧ (∀ i : Int, 0 ≤ i → i < 270 → okv (r i)) ∧ ∀ t k : Int, 0 ≤ t → t < 3 → 30 ≤ k → k < 32 → bI (b t) k = 0
/-- how many of the n cells from b on are v -/
def hvR (r : Int → Int) (b v : Int) : Nat → Int
  | 0 => 0
  | n + 1 => hvR r b v n + if r (b + n) = v then 1 else 0
theorem hv_ex : ∃ g : (Int → Int) → Int → Int → Int → Int, ∀ r b v z, g r b v z = hvR r b v z.toNat := ⟨fun r b v z => hvR r b v z.toNat, fun _ _ _ _ => rfl⟩
noncomputable def hv (r : Int → Int) (b v z : Int) : Int := Classical.choose hv_ex r b v z
theorem hv_eq (r : Int → Int) (b v z : Int) : hv r b v z = hvR r b v z.toNat := Classical.choose_spec hv_ex r b v z
theorem hv_0 (r : Int → Int) (b v : Int) : hv r b v 0 = 0 := by rw [hv_eq]; rfl
theorem hv_s (r : Int → Int) (b v : Int) {z : Int} (h : 0 ≤ z) : hv r b v (z + 1) = hv r b v z + if r (b + z) = v then 1 else 0 := by
  have e : (z + 1).toNat = z.toNat + 1 := by omega
  have e2 : ((z.toNat : Nat) : Int) = z := by omega
  rw [hv_eq, hv_eq, e]
  show hvR r b v z.toNat + (if r (b + (z.toNat : Nat)) = v then 1 else 0) = _
  rw [e2]
theorem hv_st {r : Int → Int} {b v z y : Int} (h : 0 ≤ z) (hy : y = r (b + z)) : (y = v → hv r b v (z + 1) = hv r b v z + 1) ∧ (y ≠ v → hv r b v (z + 1) = hv r b v z) := by
  subst hy
  rw [hv_s r b v h]
  refine ⟨fun e => by rw [if_pos e], fun e => by rw [if_neg e]; omega⟩
theorem hvR_b (r : Int → Int) (b v : Int) (n : Nat) : 0 ≤ hvR r b v n ∧ hvR r b v n ≤ n := by
  induction n with
  | zero => exact ⟨Int.le_refl _, Int.le_refl _⟩
  | succ n ih =>
    unfold hvR
    split <;> omega
theorem hv_b (r : Int → Int) (b v : Int) {z : Int} (h : 0 ≤ z) : 0 ≤ hv r b v z ∧ hv r b v z ≤ z := by
  rw [hv_eq]
  have := hvR_b r b v z.toNat
  omega
/-- the sum of the cells from b2 on, where those from b on are v; -1000 counts for 0 -/
def smR (r : Int → Int) (b b2 v : Int) : Nat → Int
  | 0 => 0
  | n + 1 => smR r b b2 v n + if r (b + n) = v then (if r (b2 + n) = -1000 then 0 else r (b2 + n)) else 0
theorem sm_ex : ∃ g : (Int → Int) → Int → Int → Int → Int → Int, ∀ r b b2 v z, g r b b2 v z = smR r b b2 v z.toNat := ⟨fun r b b2 v z => smR r b b2 v z.toNat, fun _ _ _ _ _ => rfl⟩
noncomputable def smq (r : Int → Int) (b b2 v z : Int) : Int := Classical.choose sm_ex r b b2 v z
theorem smq_eq (r : Int → Int) (b b2 v z : Int) : smq r b b2 v z = smR r b b2 v z.toNat := Classical.choose_spec sm_ex r b b2 v z
theorem smq_0 (r : Int → Int) (b b2 v : Int) : smq r b b2 v 0 = 0 := by rw [smq_eq]; rfl
theorem smq_s (r : Int → Int) (b b2 v : Int) {z : Int} (h : 0 ≤ z) : smq r b b2 v (z + 1) = smq r b b2 v z + if r (b + z) = v then (if r (b2 + z) = -1000 then 0 else r (b2 + z)) else 0 := by
  have e : (z + 1).toNat = z.toNat + 1 := by omega
  have e2 : ((z.toNat : Nat) : Int) = z := by omega
  rw [smq_eq, smq_eq, e]
  show smR r b b2 v z.toNat + (if r (b + (z.toNat : Nat)) = v then (if r (b2 + (z.toNat : Nat)) = -1000 then 0 else r (b2 + (z.toNat : Nat))) else 0) = _
  rw [e2]
theorem smq_st {r : Int → Int} {b b2 v z y w : Int} (h : 0 ≤ z) (hy : y = r (b + z)) (hw : w = r (b2 + z)) : (y = v → w = -1000 → smq r b b2 v (z + 1) = smq r b b2 v z) ∧ (y = v → w ≠ -1000 → smq r b b2 v (z + 1) = smq r b b2 v z + w) ∧ (y ≠ v → smq r b b2 v (z + 1) = smq r b b2 v z) := by
  subst hy hw
  rw [smq_s r b b2 v h]
  refine ⟨fun e e2 => by rw [if_pos e, if_pos e2]; omega, fun e e2 => by rw [if_pos e, if_neg e2], fun e => by rw [if_neg e]; omega⟩
/-- from at on one comes to key within n steps -/
def rgR (r : Int → Int) (t c key : Int) : Nat → Int → Int
  | 0, _ => 0
  | n + 1, a => if cel r t a 0 = -2000 then 0 else if a = key then 1 else rgR r t c key n (cel r t a c)
theorem rg_ex : ∃ g : (Int → Int) → Int → Int → Int → Int → Int → Int, ∀ r t c key n a, g r t c key n a = rgR r t c key n.toNat a := ⟨fun r t c key n a => rgR r t c key n.toNat a, fun _ _ _ _ _ _ => rfl⟩
noncomputable def rgq (r : Int → Int) (t c key n a : Int) : Int := Classical.choose rg_ex r t c key n a
theorem rgq_eq (r : Int → Int) (t c key n a : Int) : rgq r t c key n a = rgR r t c key n.toNat a := Classical.choose_spec rg_ex r t c key n a
theorem rgq_0 (r : Int → Int) (t c key a : Int) : rgq r t c key 0 a = 0 := by rw [rgq_eq]; rfl
theorem rgq_s (r : Int → Int) (t c key a : Int) {n : Int} (h : 0 < n) : rgq r t c key n a = if cel r t a 0 = -2000 then 0 else if a = key then 1 else rgq r t c key (n - 1) (cel r t a c) := by
  have e : n.toNat = (n - 1).toNat + 1 := by omega
  rw [rgq_eq, rgq_eq, e]
  rfl
/-- the state of a question: rows, kind, table, column, other, subject -/
noncomputable def stt (r : Int → Int) (kd t c o s : Int) : Int :=
  if kd = 0 then hv r (90 * t + 30 * c) s 30
  else if kd = 1 ∨ kd = 4 then 2 * hv r (90 * t + 30 * c) s 30 + (if cel r o s 0 = -2000 then 0 else 1)
  else if kd = 3 then (if hv r (90 * t + 30 * c) s 30 = 0 then 100000 else smq r (90 * t + 30 * c) (90 * t + 30 * o) s 30)
  else cel r t s c
/-- whether it fails, by its state v -/
noncomputable def flv (r : Int → Int) (kd t c lo hi s v : Int) : Prop :=
  (kd = 0 ∧ 1 < v) ∨ (kd = 1 ∧ 1 < v ∧ v % 2 = 0) ∨ (kd = 2 ∧ v ≠ -2000 ∧ v ≠ -1000 ∧ (v < lo ∨ hi < v)) ∨ (kd = 3 ∧ v ≠ 100000 ∧ (v < lo ∨ hi < v)) ∨ (kd = 4 ∧ v % 2 = 1 ∧ (v / 2 < lo ∨ hi < v / 2)) ∨ (kd = 5 ∧ rgq r t c s 30 (cel r t s c) = 1)
noncomputable def flq (r : Int → Int) (kd t c lo hi s v : Int) : Int := by
  classical
  exact if flv r kd t c lo hi s v then 1 else 0
theorem flq_1 {r : Int → Int} {kd t c lo hi s v : Int} (h : flv r kd t c lo hi s v) : flq r kd t c lo hi s v = 1 := by
  unfold flq
  exact if_pos h
theorem flq_0 {r : Int → Int} {kd t c lo hi s v : Int} (h : ¬ flv r kd t c lo hi s v) : flq r kd t c lo hi s v = 0 := by
  unfold flq
  exact if_neg h
theorem flq_k0 {r : Int → Int} {kd t c lo hi s v : Int} (e : kd = 0) : (1 < v ∧ flq r kd t c lo hi s v = 1) ∨ (¬ (1 < v) ∧ flq r kd t c lo hi s v = 0) := by
  by_cases h : 1 < v
  · exact Or.inl ⟨h, flq_1 (Or.inl ⟨e, h⟩)⟩
  · refine Or.inr ⟨h, flq_0 ?_⟩
    unfold flv
    omega
theorem flq_k1 {r : Int → Int} {kd t c lo hi s v : Int} (e : kd = 1) : (1 < v ∧ v % 2 = 0 ∧ flq r kd t c lo hi s v = 1) ∨ (¬ (1 < v ∧ v % 2 = 0) ∧ flq r kd t c lo hi s v = 0) := by
  by_cases h : 1 < v ∧ v % 2 = 0
  · exact Or.inl ⟨h.1, h.2, flq_1 (Or.inr (Or.inl ⟨e, h⟩))⟩
  · refine Or.inr ⟨h, flq_0 ?_⟩
    unfold flv
    omega
theorem flq_k2 {r : Int → Int} {kd t c lo hi s v : Int} (e : kd = 2) : ((v ≠ -2000 ∧ v ≠ -1000 ∧ (v < lo ∨ hi < v)) ∧ flq r kd t c lo hi s v = 1) ∨ (¬ (v ≠ -2000 ∧ v ≠ -1000 ∧ (v < lo ∨ hi < v)) ∧ flq r kd t c lo hi s v = 0) := by
  by_cases h : v ≠ -2000 ∧ v ≠ -1000 ∧ (v < lo ∨ hi < v)
  · exact Or.inl ⟨h, flq_1 (Or.inr (Or.inr (Or.inl ⟨e, h⟩)))⟩
  · refine Or.inr ⟨h, flq_0 ?_⟩
    unfold flv
    omega
theorem flq_k3 {r : Int → Int} {kd t c lo hi s v : Int} (e : kd = 3) : ((v ≠ 100000 ∧ (v < lo ∨ hi < v)) ∧ flq r kd t c lo hi s v = 1) ∨ (¬ (v ≠ 100000 ∧ (v < lo ∨ hi < v)) ∧ flq r kd t c lo hi s v = 0) := by
  by_cases h : v ≠ 100000 ∧ (v < lo ∨ hi < v)
  · exact Or.inl ⟨h, flq_1 (Or.inr (Or.inr (Or.inr (Or.inl ⟨e, h⟩))))⟩
  · refine Or.inr ⟨h, flq_0 ?_⟩
    unfold flv
    omega
theorem flq_k4 {r : Int → Int} {kd t c lo hi s v : Int} (e : kd = 4) : ((v % 2 = 1 ∧ (v / 2 < lo ∨ hi < v / 2)) ∧ flq r kd t c lo hi s v = 1) ∨ (¬ (v % 2 = 1 ∧ (v / 2 < lo ∨ hi < v / 2)) ∧ flq r kd t c lo hi s v = 0) := by
  by_cases h : v % 2 = 1 ∧ (v / 2 < lo ∨ hi < v / 2)
  · exact Or.inl ⟨h, flq_1 (Or.inr (Or.inr (Or.inr (Or.inr (Or.inl ⟨e, h⟩)))))⟩
  · refine Or.inr ⟨h, flq_0 ?_⟩
    unfold flv
    omega
theorem rgq01 (r : Int → Int) (t c key n a : Int) : rgq r t c key n a = 0 ∨ rgq r t c key n a = 1 := by
  rw [rgq_eq]
  generalize n.toNat = m
  induction m generalizing a with
  | zero => exact Or.inl rfl
  | succ m ih =>
    unfold rgR
    split
    · exact Or.inl rfl
    · split
      · exact Or.inr rfl
      · exact ih _
theorem flq_k5 {r : Int → Int} {kd t c lo hi s v : Int} (e : kd = 5) : flq r kd t c lo hi s v = rgq r t c s 30 (cel r t s c) := by
  by_cases h : rgq r t c s 30 (cel r t s c) = 1
  · rw [h]
    exact flq_1 (Or.inr (Or.inr (Or.inr (Or.inr (Or.inr ⟨e, h⟩)))))
  · have h2 : flq r kd t c lo hi s v = 0 := flq_0 (by unfold flv; omega)
    rcases rgq01 r t c s 30 (cel r t s c) with q | q
    · rw [h2, q]
    · exact absurd q h
theorem stt_k {r : Int → Int} {kd t c o s : Int} : (kd = 0 → stt r kd t c o s = hv r (90 * t + 30 * c) s 30) ∧ (kd = 1 ∨ kd = 4 → (cel r o s 0 = -2000 ∧ stt r kd t c o s = 2 * hv r (90 * t + 30 * c) s 30) ∨ (cel r o s 0 ≠ -2000 ∧ stt r kd t c o s = 2 * hv r (90 * t + 30 * c) s 30 + 1)) ∧ (kd = 3 → (hv r (90 * t + 30 * c) s 30 = 0 ∧ stt r kd t c o s = 100000) ∨ (hv r (90 * t + 30 * c) s 30 ≠ 0 ∧ stt r kd t c o s = smq r (90 * t + 30 * c) (90 * t + 30 * o) s 30)) ∧ (kd = 2 ∨ kd = 5 → stt r kd t c o s = cel r t s c) := by
  unfold stt
  refine ⟨fun e => if_pos e, fun e => ?_, fun e => ?_, fun e => ?_⟩
  · rw [if_neg (by omega), if_pos e]
    split
    · exact Or.inl ⟨by assumption, by omega⟩
    · exact Or.inr ⟨by assumption, rfl⟩
  · rw [if_neg (by omega), if_neg (by omega), if_pos e]
    split
    · exact Or.inl ⟨by assumption, rfl⟩
    · exact Or.inr ⟨by assumption, rfl⟩
  · rw [if_neg (by omega), if_neg (by omega), if_neg (by omega)]
theorem x_and1 {a x : Int32} {A : Int} (h : x = a &&& 1) (e : a.toInt = A) : x.toInt = A % 2 := by
  subst e
  have key : ∀ i, i < 32 → bt x i = (bt a i && decide (i = 0)) := fun i hi => by rw [h, b_and, b_1 i hi]
  rw [bt01 (fun i h1 h2 => by rw [key i h2, decide_eq_false (by omega)]; simp), key 0 (by omega)]
  have e2 : a.toInt = a.toBitVec.toInt := rfl
  have e3 : bt a 0 = decide (a.toBitVec.toNat % 2 = 1) := by
    show a.toBitVec.getLsbD 0 = _
    rw [← BitVec.testBit_toNat, Nat.testBit_zero]
  rw [e2, e3, BitVec.toInt_eq_toNat_cond]
  have hlt := a.toBitVec.isLt
  by_cases q : a.toBitVec.toNat % 2 = 1
  · simp only [q, decide_true, Bool.and_self, if_true]
    split <;> omega
  · have z : (decide (a.toBitVec.toNat % 2 = 1) && decide (0 = 0)) = false := by rw [decide_eq_false q]; rfl
    rw [z, if_neg Bool.false_ne_true]
    split <;> omega
theorem x_shr1 {a x : Int32} {A : Int} (h : x = a >>> ((1 : Int32) &&& 31)) (e : a.toInt = A) : x.toInt = A / 2 := by
  subst e
  rw [h]
  show (a >>> ((1 : Int32) &&& 31)).toBitVec.toInt = _
  rw [Int32.toBitVec_shiftRight]
  show (a.toBitVec.sshiftRight (((1 : Int32) &&& 31).toBitVec.smod 32).toNat).toInt = _
  rw [show (((1 : Int32) &&& 31).toBitVec.smod 32).toNat = 1 from by decide +kernel, BitVec.toInt_sshiftRight, Int.shiftRight_eq_div_pow]
  rfl
/-! rows changed -/
def rset (r : Int → Int) (i v : Int) : Int → Int := fun z => if z = i then v else r z
/-- the first n columns of the row (t, k) are v -/
def rfil (r : Int → Int) (t k v n : Int) : Int → Int := fun z => if 0 ≤ z - (90 * t + k) ∧ (z - (90 * t + k)) % 30 = 0 ∧ (z - (90 * t + k)) / 30 < n then v else r z
theorem rfil_0 (r : Int → Int) (t k v : Int) : rfil r t k v 0 = r := by
  funext z
  unfold rfil
  rw [if_neg (by omega)]
theorem rfil_s (r : Int → Int) (t k v n : Int) (h : 0 ≤ n) : rset (rfil r t k v n) (90 * t + 30 * n + k) v = rfil r t k v (n + 1) := by
  funext z
  unfold rset rfil
  by_cases e : z = 90 * t + 30 * n + k
  · rw [if_pos e, if_pos (by omega)]
  · rw [if_neg e]
    by_cases g : 0 ≤ z - (90 * t + k) ∧ (z - (90 * t + k)) % 30 = 0 ∧ (z - (90 * t + k)) / 30 < n
    · rw [if_pos g, if_pos (by omega)]
    · rw [if_neg g, if_neg (by omega)]
theorem vw_upd {f f2 : Nat → Int32} {i x : Int32} {I X : Int} (h : f2 = upd f i.toNatClampNeg x) (hi : i.toInt = I) (hx : x.toInt = X) (h0 : 0 ≤ I ∧ I < 270) : vw f2 = rset (vw f) I X := by
  subst h hi hx
  have e : i.toNatClampNeg = i.toInt.toNat := rfl
  funext z
  show (if 0 ≤ z ∧ z < 270 then (if z.toNat = i.toNatClampNeg then x else f z.toNat).toInt else 0) = if z = i.toInt then x.toInt else if 0 ≤ z ∧ z < 270 then (f z.toNat).toInt else 0
  rw [e]
  by_cases q : z = i.toInt
  · rw [if_pos q, if_pos (by omega), if_pos (by rw [q])]
  · rw [if_neg q]
    by_cases g : 0 ≤ z ∧ z < 270
    · rw [if_pos g, if_pos g, if_neg (by omega)]
    · rw [if_neg g, if_neg g]
theorem RO.fill {r b b2 : Int → Int} (h : RO r b) {t k v : Int} (h0 : 0 ≤ t ∧ t < 3 ∧ 0 ≤ k ∧ k < 30) (hv : okv v) (hb : ∀ t2 : Int, 0 ≤ t2 → t2 < 3 → t2 ≠ t → b2 t2 = b t2) (hb2 : ∀ j : Int, 0 ≤ j → j < 32 → bI (b2 t) j = if j = k then (if v = -2000 then 0 else 1) else bI (b t) j) : RO (rfil r t k v 3) b2 := by
  obtain ⟨h1, h2, h3⟩ := h
  refine ⟨fun t2 k2 a1 a2 a3 a4 => ?_, fun i i0 i1 => ?_, fun t2 k2 a1 a2 a3 a4 => ?_⟩
  · obtain ⟨q1, q2⟩ := h1 t2 k2 a1 a2 a3 a4
    by_cases e : t2 = t
    · subst e
      rw [hb2 k2 a3 (by omega)]
      by_cases g : k2 = k
      · subst g
        rw [if_pos rfl]
        unfold rfil
        refine ⟨?_, fun c c0 c1 => ?_⟩
        · by_cases n : v = -2000
          · rw [if_pos n, if_pos (by omega)]
            exact ⟨fun x => absurd x (by decide), fun x => absurd n x⟩
          · rw [if_neg n, if_pos (by omega)]
            exact ⟨fun _ => n, fun _ => rfl⟩
        · rw [if_pos (by omega), if_pos (by omega)]
      · rw [if_neg g]
        unfold rfil
        refine ⟨?_, fun c c0 c1 => ?_⟩
        · rw [if_neg (by omega)]
          exact q1
        · rw [if_neg (by omega), if_neg (by omega)]
          exact q2 c c0 c1
    · rw [hb t2 a1 a2 e]
      unfold rfil
      refine ⟨?_, fun c c0 c1 => ?_⟩
      · rw [if_neg (by omega)]
        exact q1
      · rw [if_neg (by omega), if_neg (by omega)]
        exact q2 c c0 c1
  · unfold rfil
    split
    · exact hv
    · exact h2 i i0 i1
  · by_cases e : t2 = t
    · subst e
      rw [hb2 k2 (by omega) a4, if_neg (by omega)]
      exact h3 t2 k2 a1 a2 a3 a4
    · rw [hb t2 a1 a2 e]
      exact h3 t2 k2 a1 a2 a3 a4
theorem RO.set {r b : Int → Int} (h : RO r b) {t k c v : Int} (h0 : 0 ≤ t ∧ t < 3 ∧ 0 ≤ k ∧ k < 30 ∧ 0 ≤ c ∧ c < 3) (hc : cel r t k 0 ≠ -2000) (hv : okv v) (hv2 : v ≠ -2000) : RO (rset r (90 * t + 30 * c + k) v) b := by
  obtain ⟨h1, h2, h3⟩ := h
  rw [cel_in (by omega), Int.mul_zero, Int.add_zero] at hc
  have hc3 := (h1 t k h0.1 h0.2.1 h0.2.2.1 h0.2.2.2.1).2
  refine ⟨fun t2 k2 a1 a2 a3 a4 => ?_, fun i i0 i1 => ?_, h3⟩
  · obtain ⟨q1, q2⟩ := h1 t2 k2 a1 a2 a3 a4
    unfold rset
    by_cases e : t2 = t ∧ k2 = k
    · obtain ⟨rfl, rfl⟩ := e
      refine ⟨?_, fun c2 c0 c1 => ?_⟩
      · by_cases g : 90 * t2 + k2 = 90 * t2 + 30 * c + k2
        · rw [if_pos g]
          exact ⟨fun _ => hv2, fun _ => q1.mpr hc⟩
        · rw [if_neg g]
          exact q1
      · have n1 : (if 90 * t2 + 30 * c2 + k2 = 90 * t2 + 30 * c + k2 then v else r (90 * t2 + 30 * c2 + k2)) ≠ -2000 := by
          split
          · exact hv2
          · exact fun x => hc ((q2 c2 c0 c1).mp x)
        have n2 : (if 90 * t2 + k2 = 90 * t2 + 30 * c + k2 then v else r (90 * t2 + k2)) ≠ -2000 := by
          split
          · exact hv2
          · exact hc
        exact ⟨fun x => absurd x n1, fun x => absurd x n2⟩
    · refine ⟨?_, fun c2 c0 c1 => ?_⟩
      · rw [if_neg (by omega)]
        exact q1
      · rw [if_neg (by omega), if_neg (by omega)]
        exact q2 c2 c0 c1
  · unfold rset
    split
    · exact hv
    · exact h2 i i0 i1
theorem rgq_f (r : Int → Int) (t c key a : Int) {n : Int} (h : 0 < n) : (cel r t a 0 = -2000 → rgq r t c key n a = 0) ∧ (cel r t a 0 ≠ -2000 → a = key → rgq r t c key n a = 1) ∧ (cel r t a 0 ≠ -2000 → a ≠ key → rgq r t c key n a = rgq r t c key (n - 1) (cel r t a c)) := by
  rw [rgq_s r t c key a h]
  refine ⟨fun e => if_pos e, fun e e2 => ?_, fun e e2 => ?_⟩
  · rw [if_neg e, if_pos e2]
  · rw [if_neg e, if_neg e2]
/-- a rule's fields: kind, number, table, column, other, low, high, action, rank, late -/
def RW (q : Nat → Int32) : Prop := (0 ≤ (q 0).toInt ∧ (q 0).toInt ≤ 5) ∧ (0 ≤ (q 2).toInt ∧ (q 2).toInt ≤ 2) ∧ (0 ≤ (q 3).toInt ∧ (q 3).toInt ≤ 2) ∧ (-1 ≤ (q 4).toInt ∧ (q 4).toInt ≤ 2) ∧ ((q 0).toInt = 1 ∨ (q 0).toInt = 3 ∨ (q 0).toInt = 4 → 0 ≤ (q 4).toInt)
theorem RW.f {q : Nat → Int32} (h : RW q) : (0 ≤ (q 0).toInt ∧ (q 0).toInt ≤ 5) ∧ (0 ≤ (q 2).toInt ∧ (q 2).toInt ≤ 2) ∧ (0 ≤ (q 3).toInt ∧ (q 3).toInt ≤ 2) ∧ (-1 ≤ (q 4).toInt ∧ (q 4).toInt ≤ 2) ∧ ((q 0).toInt = 1 ∨ (q 0).toInt = 3 ∨ (q 0).toInt = 4 → 0 ≤ (q 4).toInt) := h
