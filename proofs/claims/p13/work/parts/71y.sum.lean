/-! ===== sums: what changed or was settled since a mark ===== -/
def smN (g : Nat → Int) : Nat → Int
  | 0 => 0
  | n + 1 => smN g n + g n
def smS (h : Int → Int) (lo s : Int) : Int := smN (fun i : Nat => h ((i : Int) + lo)) (s - lo).toNat
theorem smS_0 (h : Int → Int) (lo : Int) : smS h lo lo = 0 := by
  unfold smS
  rw [Int.sub_self]
  rfl
theorem smS_s {h : Int → Int} {lo s : Int} (hs : lo ≤ s) : smS h lo (s + 1) = smS h lo s + h s := by
  unfold smS
  rw [show (s + 1 - lo).toNat = (s - lo).toNat + 1 from by omega]
  show smN _ (s - lo).toNat + h (((s - lo).toNat : Int) + lo) = _
  rw [show (((s - lo).toNat : Int) + lo) = s from by omega]
noncomputable def frI (f : Nat → Int32) (mn mb mk : Int → Int) (w q s : Int) : Int :=
  if w = 0 then (if stt mn (aI f (10 * q + 0)) (aI f (10 * q + 1)) (aI f (10 * q + 2)) (aI f (10 * q + 3)) s ≠ stt mb (aI f (10 * q + 0)) (aI f (10 * q + 1)) (aI f (10 * q + 2)) (aI f (10 * q + 3)) s ∧ stt mn (aI f (10 * q + 0)) (aI f (10 * q + 1)) (aI f (10 * q + 2)) (aI f (10 * q + 3)) s ≠ stt mk (aI f (10 * q + 0)) (aI f (10 * q + 1)) (aI f (10 * q + 2)) (aI f (10 * q + 3)) s then 1 else 0)
  else (if stt mn (aI f (10 * q + 0)) (aI f (10 * q + 1)) (aI f (10 * q + 2)) (aI f (10 * q + 3)) s = stt mb (aI f (10 * q + 0)) (aI f (10 * q + 1)) (aI f (10 * q + 2)) (aI f (10 * q + 3)) s ∧ stt mk (aI f (10 * q + 0)) (aI f (10 * q + 1)) (aI f (10 * q + 2)) (aI f (10 * q + 3)) s ≠ stt mb (aI f (10 * q + 0)) (aI f (10 * q + 1)) (aI f (10 * q + 2)) (aI f (10 * q + 3)) s then 1 else 0)
theorem frI_st (f : Nat → Int32) (mn mb mk : Int → Int) (w q s : Int) : (w = 0 → (stt mn (aI f (10 * q + 0)) (aI f (10 * q + 1)) (aI f (10 * q + 2)) (aI f (10 * q + 3)) s ≠ stt mb (aI f (10 * q + 0)) (aI f (10 * q + 1)) (aI f (10 * q + 2)) (aI f (10 * q + 3)) s ∧ stt mn (aI f (10 * q + 0)) (aI f (10 * q + 1)) (aI f (10 * q + 2)) (aI f (10 * q + 3)) s ≠ stt mk (aI f (10 * q + 0)) (aI f (10 * q + 1)) (aI f (10 * q + 2)) (aI f (10 * q + 3)) s → frI f mn mb mk w q s = 1) ∧ (¬ (stt mn (aI f (10 * q + 0)) (aI f (10 * q + 1)) (aI f (10 * q + 2)) (aI f (10 * q + 3)) s ≠ stt mb (aI f (10 * q + 0)) (aI f (10 * q + 1)) (aI f (10 * q + 2)) (aI f (10 * q + 3)) s ∧ stt mn (aI f (10 * q + 0)) (aI f (10 * q + 1)) (aI f (10 * q + 2)) (aI f (10 * q + 3)) s ≠ stt mk (aI f (10 * q + 0)) (aI f (10 * q + 1)) (aI f (10 * q + 2)) (aI f (10 * q + 3)) s) → frI f mn mb mk w q s = 0)) ∧ (w ≠ 0 → (stt mn (aI f (10 * q + 0)) (aI f (10 * q + 1)) (aI f (10 * q + 2)) (aI f (10 * q + 3)) s = stt mb (aI f (10 * q + 0)) (aI f (10 * q + 1)) (aI f (10 * q + 2)) (aI f (10 * q + 3)) s ∧ stt mk (aI f (10 * q + 0)) (aI f (10 * q + 1)) (aI f (10 * q + 2)) (aI f (10 * q + 3)) s ≠ stt mb (aI f (10 * q + 0)) (aI f (10 * q + 1)) (aI f (10 * q + 2)) (aI f (10 * q + 3)) s → frI f mn mb mk w q s = 1) ∧ (¬ (stt mn (aI f (10 * q + 0)) (aI f (10 * q + 1)) (aI f (10 * q + 2)) (aI f (10 * q + 3)) s = stt mb (aI f (10 * q + 0)) (aI f (10 * q + 1)) (aI f (10 * q + 2)) (aI f (10 * q + 3)) s ∧ stt mk (aI f (10 * q + 0)) (aI f (10 * q + 1)) (aI f (10 * q + 2)) (aI f (10 * q + 3)) s ≠ stt mb (aI f (10 * q + 0)) (aI f (10 * q + 1)) (aI f (10 * q + 2)) (aI f (10 * q + 3)) s) → frI f mn mb mk w q s = 0)) := by
  unfold frI
  constructor
  · intro h
    rw [if_pos h]
    exact ⟨fun a => if_pos a, fun a => if_neg a⟩
  · intro h
    rw [if_neg h]
    exact ⟨fun a => if_pos a, fun a => if_neg a⟩
noncomputable def frQ (f : Nat → Int32) (mn mb mk : Int → Int) (w q : Int) : Int := if aI f (10 * q + 0) ≠ -1 ∧ aI f (10 * q + 6) = 1 then smS (frI f mn mb mk w q) (sF (aI f (10 * q + 0))) (sL (aI f (10 * q + 0)) + 1) else 0
theorem frQ_st (f : Nat → Int32) (mn mb mk : Int → Int) (w q : Int) : (aI f (10 * q + 0) ≠ -1 ∧ aI f (10 * q + 6) = 1 → frQ f mn mb mk w q = smS (frI f mn mb mk w q) (sF (aI f (10 * q + 0))) (sL (aI f (10 * q + 0)) + 1)) ∧ (¬ (aI f (10 * q + 0) ≠ -1 ∧ aI f (10 * q + 6) = 1) → frQ f mn mb mk w q = 0) := ⟨fun a => if_pos a, fun a => if_neg a⟩
noncomputable def frA (f : Nat → Int32) (mn mb mk : Int → Int) (w n : Int) : Int := smS (frQ f mn mb mk w) 0 n
theorem frA_0 (f : Nat → Int32) (mn mb mk : Int → Int) (w : Int) : frA f mn mb mk w 0 = 0 := smS_0 _ _
theorem frA_s {f : Nat → Int32} {mn mb mk : Int → Int} {w n : Int} (h : 0 ≤ n) : frA f mn mb mk w (n + 1) = frA f mn mb mk w n + frQ f mn mb mk w n := smS_s h
/-! the class's sums over its list -/
def qtI (G : XG) (F : Nat → Nat → Nat) (a : Nat) (j : Int) : Qt := (aI (G.2.1 (F a 0)) j, aI (G.2.1 (F a 1)) j, aI (G.2.1 (F a 2)) j, aI (G.2.1 (F a 3)) j, aI (G.2.1 (F a 4)) j, aI (G.2.1 (F a 5)) j)
def smQ (h : Qt → Int) : List Qt → Int
  | [] => 0
  | x :: l => h x + smQ h l
theorem smQ_app (h : Qt → Int) : ∀ l t : List Qt, smQ h (l ++ t) = smQ h l + smQ h t
  | [], t => (Int.zero_add _).symm
  | x :: l, t => by
    show h x + smQ h (l ++ t) = h x + smQ h l + smQ h t
    rw [smQ_app h l t, Int.add_assoc]
theorem smQ_lst (h : Qt → Int) (g : Nat → Qt) : ∀ n : Nat, smQ h (lst g n) = smN (fun i => h (g i)) n
  | 0 => rfl
  | n + 1 => by
    rw [lst_s, smQ_app, smQ_lst h g n]
    show smN (fun i => h (g i)) n + (h (g n) + 0) = smN (fun i => h (g i)) n + h (g n)
    omega
theorem smN_congr {g h : Nat → Int} : ∀ n : Nat, (∀ i, i < n → g i = h i) → smN g n = smN h n
  | 0, _ => rfl
  | n + 1, q => by
    show smN g n + g n = smN h n + h n
    rw [smN_congr n (fun i hi => q i (by omega)), q n (by omega)]
theorem smS_qL (h : Qt → Int) (G : XG) (F : Nat → Nat → Nat) (a : Nat) : smS (fun j => h (qtI G F a j)) 0 (G.1 a 6).toInt = smQ h (qL G F a) := by
  show _ = smQ h (lst _ _)
  rw [smQ_lst]
  unfold smS
  rw [Int.sub_zero]
  refine smN_congr _ (fun i hi => ?_)
  show h (qtI G F a ((i : Int) + 0)) = _
  rw [Int.add_zero]
  rfl
noncomputable def sttQ (G : XG) (v : Int → Int) (q : Nat) (s : Int) : Int := stt v (G.1 q 0).toInt (G.1 q 2).toInt (G.1 q 3).toInt (G.1 q 4).toInt s
noncomputable def chO (G : XG) (v : Int → Int) (s z : Int) : Option Nat → Int
  | none => 0
  | some q => if sttQ G v q s ≠ z then 1 else 0
noncomputable def seO (G : XG) (v : Int → Int) (s z : Int) : Option Nat → Int
  | none => 0
  | some q => if sttQ G v q s = z then 1 else 0
noncomputable def chQ (G : XG) (b : Nat → Option Nat) (v : Int → Int) (x : Qt) : Int := if 0 ≤ x.1 ∧ x.1 < 12 then chO G v x.2.1 x.2.2.2.1 (b x.1.toNat) else 0
noncomputable def seQ (G : XG) (b : Nat → Option Nat) (v : Int → Int) (x : Qt) : Int := if 0 ≤ x.1 ∧ x.1 < 12 then seO G v x.2.1 x.2.2.1 (b x.1.toNat) else 0
theorem chQ_n {G : XG} {b : Nat → Option Nat} {v : Int → Int} {x : Qt} {z : Int} (e : x.1 = z) (h : (z < 0 ∨ 12 ≤ z) ∨ b z.toNat = none) : chQ G b v x = 0 := by
  subst e
  unfold chQ
  by_cases g : 0 ≤ x.1 ∧ x.1 < 12
  · rw [if_pos g, h.resolve_left (by omega)]
    rfl
  · exact if_neg g
theorem seQ_n {G : XG} {b : Nat → Option Nat} {v : Int → Int} {x : Qt} {z : Int} (e : x.1 = z) (h : (z < 0 ∨ 12 ≤ z) ∨ b z.toNat = none) : seQ G b v x = 0 := by
  subst e
  unfold seQ
  by_cases g : 0 ≤ x.1 ∧ x.1 < 12
  · rw [if_pos g, h.resolve_left (by omega)]
    rfl
  · exact if_neg g
theorem chQ_y {G : XG} {b : Nat → Option Nat} {v : Int → Int} {x : Qt} {z s t y : Int} {q : Nat} (e : x.1 = z) (h : 0 ≤ z ∧ z < 12) (hb : b z.toNat = some q) (e1 : x.2.1 = s) (e3 : x.2.2.2.1 = y) (ht : t = stt v (G.1 q 0).toInt (G.1 q 2).toInt (G.1 q 3).toInt (G.1 q 4).toInt s) : (t ≠ y → chQ G b v x = 1) ∧ (t = y → chQ G b v x = 0) := by
  subst e e1 e3 ht
  unfold chQ
  rw [if_pos h, hb]
  exact ⟨fun g => if_pos g, fun g => if_neg (fun k => k g)⟩
theorem seQ_y {G : XG} {b : Nat → Option Nat} {v : Int → Int} {x : Qt} {z s t y : Int} {q : Nat} (e : x.1 = z) (h : 0 ≤ z ∧ z < 12) (hb : b z.toNat = some q) (e1 : x.2.1 = s) (e2 : x.2.2.1 = y) (ht : t = stt v (G.1 q 0).toInt (G.1 q 2).toInt (G.1 q 3).toInt (G.1 q 4).toInt s) : (t = y → seQ G b v x = 1) ∧ (t ≠ y → seQ G b v x = 0) := by
  subst e e1 e2 ht
  unfold seQ
  rw [if_pos h, hb]
  exact ⟨fun g => if_pos g, fun g => if_neg g⟩
