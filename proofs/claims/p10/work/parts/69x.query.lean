/-! ===== what a question tells ===== -/
noncomputable def quS (r : Int → Int) (k t c o lo hi s w : Int) : Int := by
  classical
  exact if sbj k s then (if w = 0 then stt r k t c o s else if w = 1 then flq r k t c lo hi s (stt r k t c o s) else -2147483648) else -2147483648
theorem quS_n {r : Int → Int} {k t c o lo hi s w : Int} (h : ¬ sbj k s) : quS r k t c o lo hi s w = -2147483648 := by
  unfold quS
  exact if_neg h
theorem quS_0 {r : Int → Int} {k t c o lo hi s w : Int} (h : sbj k s) (hw : w = 0) : quS r k t c o lo hi s w = stt r k t c o s := by
  unfold quS
  rw [if_pos h, if_pos hw]
theorem quS_1 {r : Int → Int} {k t c o lo hi s w : Int} (h : sbj k s) (hw : w = 1) : quS r k t c o lo hi s w = flq r k t c lo hi s (stt r k t c o s) := by
  unfold quS
  rw [if_pos h, if_neg (by omega), if_pos hw]
theorem quS_o {r : Int → Int} {k t c o lo hi s w : Int} (h0 : ¬ w = 0) (h1 : ¬ w = 1) : quS r k t c o lo hi s w = -2147483648 := by
  unfold quS
  by_cases h : sbj k s
  · rw [if_pos h, if_neg h0, if_neg h1]
  · rw [if_neg h]
/-! ===== what is told of a rule ===== -/
def tdC (q : Nat → Int32) (n w : Int) : Int := if w = 0 then (q 0).toInt else if w = 1 then (q 2).toInt else if w = 2 then (q 3).toInt else if w = 3 then (q 4).toInt else if w = 4 then (q 5).toInt else if w = 5 then (q 6).toInt else if w = 6 then (q 9).toInt else if w = 7 then (q 8).toInt else if w = 8 then (q 7).toInt else if w = 9 then n else -2147483648
theorem tdC_0 {q : Nat → Int32} {n w : Int} (h : w = 0) : tdC q n w = (q 0).toInt := by subst h; rfl
theorem tdC_1 {q : Nat → Int32} {n w : Int} (h : w = 1) : tdC q n w = (q 2).toInt := by subst h; rfl
theorem tdC_2 {q : Nat → Int32} {n w : Int} (h : w = 2) : tdC q n w = (q 3).toInt := by subst h; rfl
theorem tdC_3 {q : Nat → Int32} {n w : Int} (h : w = 3) : tdC q n w = (q 4).toInt := by subst h; rfl
theorem tdC_4 {q : Nat → Int32} {n w : Int} (h : w = 4) : tdC q n w = (q 5).toInt := by subst h; rfl
theorem tdC_5 {q : Nat → Int32} {n w : Int} (h : w = 5) : tdC q n w = (q 6).toInt := by subst h; rfl
theorem tdC_6 {q : Nat → Int32} {n w : Int} (h : w = 6) : tdC q n w = (q 9).toInt := by subst h; rfl
theorem tdC_7 {q : Nat → Int32} {n w : Int} (h : w = 7) : tdC q n w = (q 8).toInt := by subst h; rfl
theorem tdC_8 {q : Nat → Int32} {n w : Int} (h : w = 8) : tdC q n w = (q 7).toInt := by subst h; rfl
theorem tdC_9 {q : Nat → Int32} {n w : Int} (h : w = 9) : tdC q n w = n := by subst h; rfl
theorem tdC_o {q : Nat → Int32} {n w : Int} (h : w < 0 ∨ 9 < w) : tdC q n w = -2147483648 := by
  unfold tdC
  rw [if_neg (by omega), if_neg (by omega), if_neg (by omega), if_neg (by omega), if_neg (by omega), if_neg (by omega), if_neg (by omega), if_neg (by omega), if_neg (by omega), if_neg (by omega)]
noncomputable def tdM (f : Nat → Int32) (p n w : Int) : Int := if 0 ≤ w ∧ w ≤ 8 then aI f (10 * p + w) else if w = 9 then n else -2147483648
theorem tdM_i {f : Nat → Int32} {p n w : Int} (h : 0 ≤ w ∧ w ≤ 8) : tdM f p n w = aI f (10 * p + w) := if_pos h
theorem tdM_9 {f : Nat → Int32} {p n w : Int} (h : w = 9) : tdM f p n w = n := by
  unfold tdM
  rw [if_neg (by omega), if_pos h]
theorem tdM_o {f : Nat → Int32} {p n w : Int} (h : w < 0 ∨ 9 < w) : tdM f p n w = -2147483648 := by
  unfold tdM
  rw [if_neg (by omega), if_neg (by omega)]
/-! ===== how many rows a table has, and which ===== -/
def rmR (f : Nat → Int32) (t z : Int) : Int := bsm (fun k => aI f (4 * (30 * t + k))) z.toNat
theorem rmR_0 (f : Nat → Int32) (t : Int) : rmR f t 0 = 0 := rfl
theorem rmR_s (f : Nat → Int32) (t : Int) {z : Int} (h : 0 ≤ z) : rmR f t (z + 1) = rmR f t z + aI f (4 * (30 * t + z)) := by
  have e : (z + 1).toNat = z.toNat + 1 := by omega
  have e2 : ((z.toNat : Nat) : Int) = z := by omega
  unfold rmR
  rw [e]
  show bsm (fun k => aI f (4 * (30 * t + k))) z.toNat + aI f (4 * (30 * t + ((z.toNat : Nat) : Int))) = _
  rw [e2]
theorem RM.is2 {f : Nat → Int32} (h : RM f 0) {t k : Int} (ht : 0 ≤ t ∧ t < 3) (hk : 0 ≤ k ∧ k < 30) : aI f (4 * (30 * t + k)) = 0 ∨ aI f (4 * (30 * t + k)) = 1 := by
  have q := h.flag (t := t) (k := k) ⟨ht.1, ht.2, hk.1, hk.2⟩
  rw [show 0 + 4 * (30 * t + k) = 4 * (30 * t + k) by omega] at q
  exact q.imp (fun x => x.1) (fun x => x.1)
/-- a bit more -/
theorem bI_or01 {x v k y w : Int32} {X Z V : Int} (hv : v.toInt = V) (h01 : V = 0 ∨ V = 1) (hy : y = v <<< (k &&& 31)) (hw : w = x ||| y) (hX : x.toInt = X) (hk : k.toInt = Z) (h0 : 0 ≤ Z ∧ Z < 32) (hz : bI X Z = 0) : ∀ j : Int, 0 ≤ j → j < 32 → bI w.toInt j = if j = Z then V else bI X j := by
  rcases h01 with e | e
  · have ev : v = 0 := Int32.toInt_inj.mp (by rw [hv, e]; rfl)
    have ey : y = 0 := by
      rw [hy, ev]
      apply Int32.toBitVec_inj.mp
      simp
    have ew : w = x := by
      rw [hw, ey]
      simp
    intro j h1 h2
    rw [ew, hX, e]
    by_cases g : j = Z
    · rw [if_pos g, g]; exact hz
    · rw [if_neg g]
  · have ev : v = 1 := Int32.toInt_inj.mp (by rw [hv, e]; rfl)
    rw [ev] at hy
    intro j h1 h2
    rw [e]
    exact bI_set hy hw hX hk h0 j h1 h2
theorem bI_ext {x y : Int32} (h : ∀ j : Int, 0 ≤ j → j < 32 → bI x.toInt j = bI y.toInt j) : x = y := by
  apply Int32.toBitVec_inj.mp
  apply BitVec.eq_of_getLsbD_eq
  intro i hi
  have q := h (i : Int) (by omega) (by omega)
  rw [bI_of rfl, bI_of rfl] at q
  have q : (if bt x i then (1 : Int) else 0) = if bt y i then 1 else 0 := q
  show bt x i = bt y i
  cases hx : bt x i <;> cases hy : bt y i
  · rfl
  · rw [hx, hy] at q; exact absurd q (by decide)
  · rw [hx, hy] at q; exact absurd q (by decide)
  · rfl
/-! how deep a row lies under its tree -/
def dpF (v : Int → Int) (T C : Int) : Nat → Int → Int → Int
  | 0, _, _ => -2
  | m + 1, n, k => if cel v T (cel v T k C) 0 = -2000 then n else dpF v T C m (n + 1) (cel v T k C)
theorem dpF_o {v : Int → Int} {T C : Int} {m : Nat} {n k : Int} (h : cel v T (cel v T k C) 0 = -2000) : dpF v T C (m + 1) n k = n := if_pos h
theorem dpF_s {v : Int → Int} {T C : Int} {m : Nat} {n k : Int} (h : cel v T (cel v T k C) 0 ≠ -2000) : dpF v T C (m + 1) n k = dpF v T C m (n + 1) (cel v T k C) := if_neg h
def dpS (v : Int → Int) (kd T C key : Int) : Int := if kd = 5 ∧ cel v T key 0 ≠ -2000 then dpF v T C 31 0 key else -1
theorem dpS_i {v : Int → Int} {kd T C key : Int} (h : kd = 5 ∧ cel v T key 0 ≠ -2000) : dpS v kd T C key = dpF v T C 31 0 key := if_pos h
theorem dpS_n {v : Int → Int} {kd T C key : Int} (h : kd ≠ 5 ∨ cel v T key 0 = -2000) : dpS v kd T C key = -1 := if_neg (fun q => h.elim (fun g => g q.1) q.2)
theorem RM.cel0 {f : Nat → Int32} {t k c : Int} (h : RM f 0) (h0 : (0 ≤ t ∧ t < 3) ∧ (0 ≤ k ∧ k < 30) ∧ (0 ≤ c ∧ c < 3)) (hr : cel (mw f 0) t k 0 ≠ -2000) : aI f (4 * (30 * t + k) + 1 + c) = cel (mw f 0) t k c := by
  have k1 := h.okc (t := t) (k := k) (c := 0) ⟨h0.1.1, h0.1.2, h0.2.1.1, h0.2.1.2, by decide, by decide⟩
  have k2 := h.okc (t := t) (k := k) (c := c) ⟨h0.1.1, h0.1.2, h0.2.1.1, h0.2.1.2, h0.2.2.1, h0.2.2.2⟩
  rw [Int.zero_add] at k1 k2
  rcases k2 with ⟨e, -⟩ | ⟨-, e2, -⟩
  · rcases k1 with ⟨-, e3⟩ | ⟨e3, -⟩
    · exact absurd e3 hr
    · rw [e] at e3; exact absurd e3 (by decide)
  · exact e2.symm
