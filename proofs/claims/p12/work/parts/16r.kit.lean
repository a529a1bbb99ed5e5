theorem xl_i2l {x : Int32} {X : Int} (h : x.toInt = X) : x.toInt64.toInt = X := by rw [Int32.toInt_toInt64]; exact h
theorem xl_sub {x y z : Int64} {X Y : Int} (hx : x.toInt = X) (hy : y.toInt = Y) (h1 : -2147483648 ≤ X ∧ X < 2147483648) (h2 : -2147483648 ≤ Y ∧ Y < 2147483648) (hz : z = x - y) : z.toInt = X - Y := by
  subst hz
  rw [Int64.toInt_sub, hx, hy]
  exact Int.bmod_eq_of_le (by omega) (by omega)
/-- a rule of the reference is well -/
def RVr (f : Nat → Int32) (r : Int) : Prop := (-1 ≤ aI f (10 * r + (0 : Int)) ∧ aI f (10 * r + (0 : Int)) ≤ 5) ∧ (0 ≤ aI f (10 * r + (1 : Int)) ∧ aI f (10 * r + (1 : Int)) ≤ 2) ∧ (0 ≤ aI f (10 * r + (2 : Int)) ∧ aI f (10 * r + (2 : Int)) ≤ 2) ∧ (-1 ≤ aI f (10 * r + (3 : Int)) ∧ aI f (10 * r + (3 : Int)) ≤ 2) ∧ (aI f (10 * r + (0 : Int)) = 1 ∨ aI f (10 * r + (0 : Int)) = 3 ∨ aI f (10 * r + (0 : Int)) = 4 → 0 ≤ aI f (10 * r + (3 : Int)))
def RV (f : Nat → Int32) : Prop := ∀ r : Int, 0 ≤ r → r ≤ 11 → RVr f r
theorem RV.row {f : Nat → Int32} (h : RV f) {r : Int} (h0 : 0 ≤ r ∧ r ≤ 11) : RVr f r := h r h0.1 h0.2
def RVx (f : Nat → Int32) (x : Int) : Prop := ∀ r : Int, 0 ≤ r → r ≤ 11 → r ≠ x → RVr f r
theorem RVx.put {f f' : Nat → Int32} {i x y : Int} (h : RVx f x) (hx : 0 ≤ x ∧ x ≤ 11) (hi : 10 * x ≤ i ∧ i ≤ 10 * x + 9) (hu : ∀ z : Int, 0 ≤ z → aI f' z = if z = i then y else aI f z) : RVx f' x := by
  intro r h0 h1 h2
  have h3 := h r h0 h1 h2
  unfold RVr at h3 ⊢
  rw [hu (10 * r + 0) (by omega), hu (10 * r + 1) (by omega), hu (10 * r + 2) (by omega), hu (10 * r + 3) (by omega), if_neg (by omega), if_neg (by omega), if_neg (by omega), if_neg (by omega)]
  exact h3
theorem RV.x {f : Nat → Int32} (h : RV f) (x : Int) : RVx f x := fun r h0 h1 _ => h r h0 h1
theorem RVx.all {f : Nat → Int32} {x : Int} (h : RVx f x) (hr : RVr f x) : RV f := fun r h0 h1 => by
  by_cases e : r = x
  · subst e; exact hr
  · exact h r h0 h1 e
def XO (K : Nat → Nat) (a : Nat) (fr : Int) : Prop := ((K a = 30 ∨ K a = 31) ∧ fr = 0) ∨ (K a = 32 ∧ 0 ≤ fr ∧ fr ≤ 2520)
theorem XO.a {K : Nat → Nat} {a : Nat} {x : Int32} (h : K a = 30) (hx : x.toInt = 0) : XO K a x.toInt := Or.inl ⟨Or.inl h, hx⟩
theorem XO.b {K : Nat → Nat} {a : Nat} {x : Int32} (h : K a = 31) (hx : x.toInt = 0) : XO K a x.toInt := Or.inl ⟨Or.inr h, hx⟩
theorem XO.c {K : Nat → Nat} {a : Nat} {x : Int32} (h : K a = 32) (hx : 0 ≤ x.toInt ∧ x.toInt ≤ 2520) : XO K a x.toInt := Or.inr ⟨h, hx⟩
theorem XO.lim {K : Nat → Nat} {a : Nat} {fr : Int} (h : XO K a fr) : 0 ≤ fr ∧ fr ≤ 2520 := by
  rcases h with ⟨-, h⟩ | ⟨-, h⟩
  · omega
  · exact h
def XOu (K : Nat → Nat) (a : Nat) (fr : Int) : Prop := (K a = 31 ∧ fr = 0) ∨ (K a = 32 ∧ 0 ≤ fr ∧ fr ≤ 2520)
theorem XOu.b {K : Nat → Nat} {a : Nat} {x : Int32} (h : K a = 31) (hx : x.toInt = 0) : XOu K a x.toInt := Or.inl ⟨h, hx⟩
theorem XOu.c {K : Nat → Nat} {a : Nat} {x : Int32} (h : K a = 32) (hx : 0 ≤ x.toInt ∧ x.toInt ≤ 2520) : XOu K a x.toInt := Or.inr ⟨h, hx⟩
theorem XOu.lim {K : Nat → Nat} {a : Nat} {fr : Int} (h : XOu K a fr) : 0 ≤ fr ∧ fr ≤ 2520 := by
  rcases h with ⟨-, h⟩ | ⟨-, h⟩
  · omega
  · exact h
/-- a word of n signs -/
def XWd (K : Nat → Nat) (a n : Nat) : Prop := (n = 3 ∧ K a = 46) ∨ (n = 4 ∧ K a = 47) ∨ (n = 5 ∧ K a = 48) ∨ (n = 6 ∧ K a = 49) ∨ (n = 7 ∧ K a = 50)
theorem XWd.lim {K : Nat → Nat} {a n : Nat} (h : XWd K a n) : 3 ≤ ((n : Nat) : Int) ∧ ((n : Nat) : Int) ≤ 7 := by
  rcases h with ⟨h, -⟩ | ⟨h, -⟩ | ⟨h, -⟩ | ⟨h, -⟩ | ⟨h, -⟩ <;> subst h <;> exact ⟨by decide, by decide⟩
theorem XWd.k46 {K : Nat → Nat} {a : Nat} (h : K a = 46) : XWd K a 3 := Or.inl ⟨rfl, h⟩
theorem XWd.k47 {K : Nat → Nat} {a : Nat} (h : K a = 47) : XWd K a 4 := Or.inr (Or.inl ⟨rfl, h⟩)
theorem XWd.k48 {K : Nat → Nat} {a : Nat} (h : K a = 48) : XWd K a 5 := Or.inr (Or.inr (Or.inl ⟨rfl, h⟩))
theorem XWd.k49 {K : Nat → Nat} {a : Nat} (h : K a = 49) : XWd K a 6 := Or.inr (Or.inr (Or.inr (Or.inl ⟨rfl, h⟩)))
theorem XWd.k50 {K : Nat → Nat} {a : Nat} (h : K a = 50) : XWd K a 7 := Or.inr (Or.inr (Or.inr (Or.inr ⟨rfl, h⟩)))
section XM
variable {p : Program} {l : Launch} {e : Env} {R : Room} {s : State} {m : MethodId} {args : Array Value} {below : List Frame} {meth : Method} {c : Code} {H : Heap} {locs : List Loc} {cells slots : Nat} {Q : State → Prop}
variable {pc : Nat} {ls : Array Slot} {rest : List Value} {H0 : Heap} {E : XE} {cc : ByteArray} {nL : Nat} {own : String} {w0 : Cond} {K : Nat → Nat} {F : Nat → Nat → Nat} {G : XG} {a : Nat} {X Y : Int}
theorem xi_lcmp (hx : p.tables.exec = Jvm.exec) (hb : c.code = cc) {x y : Int64} (hX : x.toInt = X) (hY : y.toInt = Y) (hdg : decode cc pc = .ok (.lcmp, 1)) (kk : ∀ z : Int32, ((X < Y ∧ z.toInt = -1) ∨ (X = Y ∧ z.toInt = 0) ∨ (Y < X ∧ z.toInt = 1)) → W p l e R s m args below meth c H locs cells slots Q (F0 m (pc + 1) ls (.int z :: rest))) : W p l e R s m args below meth c H locs cells slots Q (F0 m pc ls (.long y :: .long x :: rest)) := by
  refine W.lcmp hx hb hdg (kk _ ?_)
  subst hX hY
  by_cases h1 : x > y
  · have e1 : lg_cmp x y = 1 := by simp [lg_cmp, h1]
    rw [e1]
    exact Or.inr (Or.inr ⟨Int64.lt_iff_toInt_lt.mp h1, by decide⟩)
  · by_cases h2 : x = y
    · have e1 : lg_cmp x y = 0 := by simp [lg_cmp, h2]
      rw [e1]
      exact Or.inr (Or.inl ⟨by rw [h2], by decide⟩)
    · have e1 : lg_cmp x y = -1 := by simp [lg_cmp, h1, h2]
      rw [e1]
      refine Or.inl ⟨?_, by decide⟩
      have h3 : ¬ y.toInt < x.toInt := fun q => h1 (Int64.lt_iff_toInt_lt.mpr q)
      have h4 : x.toInt ≠ y.toInt := fun q => h2 (Int64.toInt_inj.mp q)
      omega
theorem ald_of (S : CallFix p m c cc nL s args (w0 :: GT) own) (hK : XK E s) (hT : TW E K F G H) {fr : Int} (ha : XO K a fr) {i : Int32} (hin : 0 ≤ i.toInt ∧ i.toInt < fr + 360) (hdg : decode cc pc = .ok (.iaload, 1)) (kk : ∀ v : Int32, v.toInt = aI (G.2.1 a) i.toInt → W p l e R s m args below meth c H locs cells slots Q (F0 m (pc + 1) ls (.int v :: rest))) : W p l e R s m args below meth c H locs cells slots Q (F0 m pc ls (.int i :: .ref a :: rest)) := by
  rcases ha with ⟨h | h, rfl⟩ | ⟨h, h0, h1⟩
  · exact al_0 S hK hT h ar_30 (by decide) (by omega) hdg (fun v hv _ => kk v hv)
  · exact al_0 S hK hT h ar_31 (by decide) (by omega) hdg (fun v hv _ => kk v hv)
  · exact al_0 S hK hT h ar_32 (by decide) (by omega) hdg (fun v hv _ => kk v hv)
theorem ast_of (S : CallFix p m c cc nL s args (w0 :: GT) own) (hK : XK E s) (hT : TW E K F G H) (hS : va_S (xA E) H0 H locs) {fr : Int} (ha : XOu K a fr) {i x : Int32} (hin : 0 ≤ i.toInt ∧ i.toInt < fr + 360) (hdg : decode cc pc = .ok (.iastore, 1)) (kk : ∀ (H1 : Heap) (locs1 : List Loc), TW E K F (cput G a i.toNatClampNeg x) H1 → va_S (xA E) H0 H1 locs1 → W p l e R s m args below meth c H1 locs1 cells slots Q (F0 m (pc + 1) ls rest)) : W p l e R s m args below meth c H locs cells slots Q (F0 m pc ls (.int x :: .int i :: .ref a :: rest)) := by
  rcases ha with ⟨h, rfl⟩ | ⟨h, h0, h1⟩
  · exact as_0 S hK hT hS h ar_31 aw_31 (by decide) (by omega) hdg kk
  · exact as_0 S hK hT hS h ar_32 aw_32 (by decide) (by omega) hdg kk
theorem ald_wd (S : CallFix p m c cc nL s args (w0 :: GT) own) (hK : XK E s) (hT : TW E K F G H) {n : Nat} (ha : XWd K a n) {i : Int32} (hin : 0 ≤ i.toInt ∧ i.toInt < ((n : Nat) : Int)) (hdg : decode cc pc = .ok (.caload, 1)) (kk : ∀ v : Int32, v.toInt = aI (G.2.1 a) i.toInt → xok 1 v → W p l e R s m args below meth c H locs cells slots Q (F0 m (pc + 1) ls (.int v :: rest))) : W p l e R s m args below meth c H locs cells slots Q (F0 m pc ls (.int i :: .ref a :: rest)) := by
  rcases ha with ⟨rfl, h⟩ | ⟨rfl, h⟩ | ⟨rfl, h⟩ | ⟨rfl, h⟩ | ⟨rfl, h⟩
  · exact al_1 S hK hT h ar_46 (by decide) hin hdg (fun v hv ho => kk v hv ho)
  · exact al_1 S hK hT h ar_47 (by decide) hin hdg (fun v hv ho => kk v hv ho)
  · exact al_1 S hK hT h ar_48 (by decide) hin hdg (fun v hv ho => kk v hv ho)
  · exact al_1 S hK hT h ar_49 (by decide) hin hdg (fun v hv ho => kk v hv ho)
  · exact al_1 S hK hT h ar_50 (by decide) hin hdg (fun v hv ho => kk v hv ho)
theorem len_wd (S : CallFix p m c cc nL s args (w0 :: GT) own) (hK : XK E s) (hT : TW E K F G H) {n : Nat} (ha : XWd K a n) (hdg : decode cc pc = .ok (.arraylength, 1)) (kk : ∀ v : Int32, v.toInt = ((n : Nat) : Int) → W p l e R s m args below meth c H locs cells slots Q (F0 m (pc + 1) ls (.int v :: rest))) : W p l e R s m args below meth c H locs cells slots Q (F0 m pc ls (.ref a :: rest)) := by
  rcases ha with ⟨rfl, h⟩ | ⟨rfl, h⟩ | ⟨rfl, h⟩ | ⟨rfl, h⟩ | ⟨rfl, h⟩
  · exact x_alen S hK hT h ar_46 (by decide) rfl hdg (kk _ (by decide))
  · exact x_alen S hK hT h ar_47 (by decide) rfl hdg (kk _ (by decide))
  · exact x_alen S hK hT h ar_48 (by decide) rfl hdg (kk _ (by decide))
  · exact x_alen S hK hT h ar_49 (by decide) rfl hdg (kk _ (by decide))
  · exact x_alen S hK hT h ar_50 (by decide) rfl hdg (kk _ (by decide))
end XM
theorem XO.ne {K : Nat → Nat} {a b k : Nat} {fr : Int} (h : XO K a fr) (hb : K b = k) (hk : k ≠ 30 ∧ k ≠ 31 ∧ k ≠ 32) : a ≠ b := by
  intro e
  subst e
  rcases h with ⟨h | h, _⟩ | ⟨h, _, _⟩ <;> rw [h] at hb <;> omega
/-! the reference's rows, told as the class has them -/
def mw (f : Nat → Int32) (b : Int) (z : Int) : Int := if 0 ≤ z ∧ z < 270 then (if aI f (b + 4 * (30 * (z / 90) + z % 30)) = 1 then aI f (b + 4 * (30 * (z / 90) + z % 30) + 1 + (z / 30) % 3) else -2000) else 0
theorem mw_in {f : Nat → Int32} {b t k c : Int} (h : 0 ≤ t ∧ t < 3 ∧ 0 ≤ k ∧ k < 30 ∧ 0 ≤ c ∧ c < 3) : mw f b (90 * t + 30 * c + k) = if aI f (b + 4 * (30 * t + k)) = 1 then aI f (b + 4 * (30 * t + k) + 1 + c) else -2000 := by
  unfold mw
  rw [if_pos (by omega), show (90 * t + 30 * c + k) / 90 = t from by omega, show (90 * t + 30 * c + k) % 30 = k from by omega, show (90 * t + 30 * c + k) / 30 % 3 = c from by omega]
/-- 0 or 1 ahead of each row, and values behind a 1 -/
def RM (f : Nat → Int32) (b : Int) : Prop := ∀ t k : Int, 0 ≤ t → t < 3 → 0 ≤ k → k < 30 → aI f (b + 4 * (30 * t + k)) = 0 ∨ (aI f (b + 4 * (30 * t + k)) = 1 ∧ ∀ c : Int, 0 ≤ c → c < 3 → aI f (b + 4 * (30 * t + k) + 1 + c) = -1000 ∨ (-99 ≤ aI f (b + 4 * (30 * t + k) + 1 + c) ∧ aI f (b + 4 * (30 * t + k) + 1 + c) ≤ 99))
theorem RM.okc {f : Nat → Int32} {b : Int} (h : RM f b) {t k c : Int} (h0 : 0 ≤ t ∧ t < 3 ∧ 0 ≤ k ∧ k < 30 ∧ 0 ≤ c ∧ c < 3) : (aI f (b + 4 * (30 * t + k)) = 0 ∧ cel (mw f b) t k c = -2000) ∨ (aI f (b + 4 * (30 * t + k)) = 1 ∧ cel (mw f b) t k c = aI f (b + 4 * (30 * t + k) + 1 + c) ∧ (aI f (b + 4 * (30 * t + k) + 1 + c) = -1000 ∨ (-99 ≤ aI f (b + 4 * (30 * t + k) + 1 + c) ∧ aI f (b + 4 * (30 * t + k) + 1 + c) ≤ 99))) := by
  rw [cel_in h0, mw_in h0]
  rcases h t k h0.1 h0.2.1 h0.2.2.1 h0.2.2.2.1 with e | ⟨e, h2⟩
  · rw [if_neg (by omega)]
    exact Or.inl ⟨e, rfl⟩
  · rw [if_pos e]
    exact Or.inr ⟨e, rfl, h2 c h0.2.2.2.2.1 h0.2.2.2.2.2⟩
theorem RM.absent {f : Nat → Int32} {b : Int} (h : RM f b) (t k c : Int) (hc : 0 ≤ c ∧ c < 3) : cel (mw f b) t k c = -2000 ↔ cel (mw f b) t k 0 = -2000 := by
  by_cases g : 0 ≤ t ∧ t < 3 ∧ 0 ≤ k ∧ k < 30
  · have h1 := h.okc (t := t) (k := k) (c := c) (by omega)
    have h2 := h.okc (t := t) (k := k) (c := 0) (by omega)
    omega
  · rw [cel_out (by omega), cel_out (by omega)]
theorem hv_mw {f : Nat → Int32} {b t c v k x y : Int} (h0 : 0 ≤ t ∧ t < 3 ∧ 0 ≤ k ∧ k < 30 ∧ 0 ≤ c ∧ c < 3) (hv0 : v ≠ -2000) (hx : x = aI f (b + 4 * (30 * t + k))) (hy : y = aI f (b + 4 * (30 * t + k) + 1 + c)) : (x = 1 ∧ y = v → hv (mw f b) (90 * t + 30 * c) v (k + 1) = hv (mw f b) (90 * t + 30 * c) v k + 1) ∧ (¬ (x = 1 ∧ y = v) → hv (mw f b) (90 * t + 30 * c) v (k + 1) = hv (mw f b) (90 * t + 30 * c) v k) := by
  subst hx hy
  rw [hv_s _ _ _ h0.2.2.1, mw_in h0]
  by_cases e : aI f (b + 4 * (30 * t + k)) = 1
  · rw [if_pos e]
    refine ⟨fun h => by rw [if_pos h.2], fun h => ?_⟩
    rw [if_neg (fun q => h ⟨e, q⟩)]
    omega
  · rw [if_neg e]
    refine ⟨fun h => absurd h.1 e, fun h => ?_⟩
    rw [if_neg (Ne.symm hv0)]
    omega
theorem smq_mw {f : Nat → Int32} {b t c o v k x y z : Int} (h0 : 0 ≤ t ∧ t < 3 ∧ 0 ≤ k ∧ k < 30 ∧ 0 ≤ c ∧ c < 3) (ho : 0 ≤ o ∧ o < 3) (hv0 : v ≠ -2000) (hx : x = aI f (b + 4 * (30 * t + k))) (hy : y = aI f (b + 4 * (30 * t + k) + 1 + c)) (hz : z = aI f (b + 4 * (30 * t + k) + 1 + o)) : (x = 1 ∧ y = v → z ≠ -1000 → smq (mw f b) (90 * t + 30 * c) (90 * t + 30 * o) v (k + 1) = smq (mw f b) (90 * t + 30 * c) (90 * t + 30 * o) v k + z) ∧ (x = 1 ∧ y = v → z = -1000 → smq (mw f b) (90 * t + 30 * c) (90 * t + 30 * o) v (k + 1) = smq (mw f b) (90 * t + 30 * c) (90 * t + 30 * o) v k) ∧ (¬ (x = 1 ∧ y = v) → smq (mw f b) (90 * t + 30 * c) (90 * t + 30 * o) v (k + 1) = smq (mw f b) (90 * t + 30 * c) (90 * t + 30 * o) v k) := by
  subst hx hy hz
  rw [smq_s _ _ _ _ h0.2.2.1, mw_in h0, mw_in (c := o) (by omega)]
  by_cases e : aI f (b + 4 * (30 * t + k)) = 1
  · rw [if_pos e, if_pos e]
    refine ⟨fun h g => by rw [if_pos h.2, if_neg g], fun h g => by rw [if_pos h.2, if_pos g]; omega, fun h => ?_⟩
    rw [if_neg (fun q => h ⟨e, q⟩)]
    omega
  · rw [if_neg e, if_neg e]
    refine ⟨fun h => absurd h.1 e, fun h => absurd h.1 e, fun h => ?_⟩
    rw [if_neg (Ne.symm hv0)]
    omega
theorem rgq_no {r : Int → Int} {t c key n x : Int} (hn : 0 ≤ n) (h : cel r t x 0 = -2000) : rgq r t c key n x = 0 := by
  by_cases e : n = 0
  · rw [e]; exact rgq_0 _ _ _ _ _
  · exact (rgq_f r t c key x (n := n) (by omega)).1 h
/-- the first and the last subject of a kind -/
def sF (kd : Int) : Int := if kd = 2 ∨ kd = 4 ∨ kd = 5 then 0 else -99
def sL (kd : Int) : Int := if kd = 2 ∨ kd = 4 ∨ kd = 5 then 29 else 99
theorem sFL (kd : Int) : ((kd = 2 ∨ kd = 4 ∨ kd = 5) ∧ sF kd = 0 ∧ sL kd = 29) ∨ (¬ (kd = 2 ∨ kd = 4 ∨ kd = 5) ∧ sF kd = -99 ∧ sL kd = 99) := by
  unfold sF sL
  split
  · rename_i h; exact Or.inl ⟨h, rfl, rfl⟩
  · rename_i h; exact Or.inr ⟨h, rfl, rfl⟩
theorem sbj_FL {kd s : Int} : sbj kd s ↔ sF kd ≤ s ∧ s ≤ sL kd := by
  have := sFL kd
  unfold sbj
  omega
theorem ring_st {r : Int → Int} {t c key n x : Int} (hn : 0 < n) (ha : cel r t x c = -2000 ↔ cel r t x 0 = -2000) : (¬ (0 ≤ x ∧ x < 30) → rgq r t c key n x = 0) ∧ (x = key → (cel r t key 0 = -2000 → rgq r t c key n x = 0) ∧ (cel r t key 0 ≠ -2000 → rgq r t c key n x = 1)) ∧ (x ≠ key → rgq r t c key n x = rgq r t c key (n - 1) (cel r t x c)) := by
  obtain ⟨h1, h2, h3⟩ := rgq_f r t c key x hn
  refine ⟨fun h => h1 (cel_out (by omega)), fun e => ⟨fun h => h1 (by rw [e]; exact h), fun h => h2 (by rw [e]; exact h) e⟩, fun e => ?_⟩
  by_cases g : cel r t x 0 = -2000
  · rw [h1 g, ha.mpr g, rgq_no (by omega) (cel_out (by omega))]
  · exact h3 g e
theorem RM.flag {f : Nat → Int32} {b : Int} (h : RM f b) {t k : Int} (h0 : 0 ≤ t ∧ t < 3 ∧ 0 ≤ k ∧ k < 30) : (aI f (b + 4 * (30 * t + k)) = 0 ∧ cel (mw f b) t k 0 = -2000) ∨ (aI f (b + 4 * (30 * t + k)) = 1 ∧ cel (mw f b) t k 0 ≠ -2000) := by
  have := h.okc (t := t) (k := k) (c := 0) (by omega)
  omega
