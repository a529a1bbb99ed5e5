/-! ===== how many rows the reference has ===== -/
def bsm (f : Int → Int) : Nat → Int
  | 0 => 0
  | n + 1 => bsm f n + f n
theorem bsm_cg {f g : Int → Int} : ∀ n : Nat, (∀ k : Nat, k < n → f k = g k) → bsm f n = bsm g n
  | 0, _ => rfl
  | n + 1, h => by
    show bsm f n + f n = bsm g n + g n
    rw [bsm_cg n (fun k hk => h k (by omega)), h n (by omega)]
theorem bsm_add (f : Int → Int) (a : Nat) : ∀ n : Nat, bsm f (a + n) = bsm f a + bsm (fun k => f ((a : Int) + k)) n
  | 0 => (Int.add_zero _).symm
  | n + 1 => by
    show bsm f (a + n) + f ((a + n : Nat) : Int) = bsm f a + (bsm (fun k => f ((a : Int) + k)) n + f ((a : Int) + ((n : Nat) : Int)))
    rw [bsm_add f a n, show ((a + n : Nat) : Int) = (a : Int) + ((n : Nat) : Int) by omega]
    omega
def rmT (f : Nat → Int32) (z : Int) : Int := bsm (fun k => aI f (4 * k)) (z / 4).toNat
theorem rmT_0 (f : Nat → Int32) : rmT f 0 = 0 := rfl
theorem rmT_s (f : Nat → Int32) {z : Int} (h : 0 ≤ z) (h4 : z % 4 = 0) : rmT f (z + 4) = rmT f z + aI f z := by
  have e : ((z + 4) / 4).toNat = (z / 4).toNat + 1 := by omega
  have e2 : 4 * (((z / 4).toNat : Nat) : Int) = z := by omega
  unfold rmT
  rw [e]
  show bsm (fun k => aI f (4 * k)) (z / 4).toNat + aI f (4 * (((z / 4).toNat : Nat) : Int)) = _
  rw [e2]
theorem RM.is {f : Nat → Int32} (h : RM f 0) {z : Int} (h0 : 0 ≤ z ∧ z < 360) (h4 : z % 4 = 0) : aI f z = 0 ∨ aI f z = 1 := by
  have e : 0 + 4 * (30 * (z / 120) + (z / 4 - 30 * (z / 120))) = z := by omega
  have q := h (z / 120) (z / 4 - 30 * (z / 120)) (by omega) (by omega) (by omega) (by omega)
  rw [e] at q
  exact q.imp id (fun x => x.1)
