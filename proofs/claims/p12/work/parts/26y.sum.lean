/-! ===== sums: what changed or was settled since a mark ===== -/
def smN (g : Nat → Int) : Nat → Int
  | 0 => 0
  | n + 1 => smN g n + g n
def smS (h : Int → Int) (lo s : Int) : Int := smN (fun i : Nat => h ((i : Int) + lo)) (s - lo).toNat
theorem smS_0 (h : Int → Int) (lo : Int) : smS h lo lo = 0 := by
  unfold smS
  rw [Int.sub_self]
  rfl
theorem smS_s {h : Int → Int} {lo s : Int} (hs : lo ≤ s) : smS h lo (s + 1) = smS h lo s + h s := by
  unfold smS
  rw [show (s + 1 - lo).toNat = (s - lo).toNat + 1 from by omega]
  show smN _ (s - lo).toNat + h (((s - lo).toNat : Int) + lo) = _
  rw [show (((s - lo).toNat : Int) + lo) = s from by omega]
noncomputable def frI (f : Nat → Int32) (mn mb mk : Int → Int) (w q s : Int) : Int :=
  if w = 0 then (if stt mn (aI f (10 * q + 0)) (aI f (10 * q + 1)) (aI f (10 * q + 2)) (aI f (10 * q + 3)) s ≠ stt mb (aI f (10 * q + 0)) (aI f (10 * q + 1)) (aI f (10 * q + 2)) (aI f (10 * q + 3)) s ∧ stt mn (aI f (10 * q + 0)) (aI f (10 * q + 1)) (aI f (10 * q + 2)) (aI f (10 * q + 3)) s ≠ stt mk (aI f (10 * q + 0)) (aI f (10 * q + 1)) (aI f (10 * q + 2)) (aI f (10 * q + 3)) s then 1 else 0)
  else (if stt mn (aI f (10 * q + 0)) (aI f (10 * q + 1)) (aI f (10 * q + 2)) (aI f (10 * q + 3)) s = stt mb (aI f (10 * q + 0)) (aI f (10 * q + 1)) (aI f (10 * q + 2)) (aI f (10 * q + 3)) s ∧ stt mk (aI f (10 * q + 0)) (aI f (10 * q + 1)) (aI f (10 * q + 2)) (aI f (10 * q + 3)) s ≠ stt mb (aI f (10 * q + 0)) (aI f (10 * q + 1)) (aI f (10 * q + 2)) (aI f (10 * q + 3)) s then 1 else 0)
theorem frI_st (f : Nat → Int32) (mn mb mk : Int → Int) (w q s : Int) : (w = 0 → (stt mn (aI f (10 * q + 0)) (aI f (10 * q + 1)) (aI f (10 * q + 2)) (aI f (10 * q + 3)) s ≠ stt mb (aI f (10 * q + 0)) (aI f (10 * q + 1)) (aI f (10 * q + 2)) (aI f (10 * q + 3)) s ∧ stt mn (aI f (10 * q + 0)) (aI f (10 * q + 1)) (aI f (10 * q + 2)) (aI f (10 * q + 3)) s ≠ stt mk (aI f (10 * q + 0)) (aI f (10 * q + 1)) (aI f (10 * q + 2)) (aI f (10 * q + 3)) s → frI f mn mb mk w q s = 1) ∧ (¬ (stt mn (aI f (10 * q + 0)) (aI f (10 * q + 1)) (aI f (10 * q + 2)) (aI f (10 * q + 3)) s ≠ stt mb (aI f (10 * q + 0)) (aI f (10 * q + 1)) (aI f (10 * q + 2)) (aI f (10 * q + 3)) s ∧ stt mn (aI f (10 * q + 0)) (aI f (10 * q + 1)) (aI f (10 * q + 2)) (aI f (10 * q + 3)) s ≠ stt mk (aI f (10 * q + 0)) (aI f (10 * q + 1)) (aI f (10 * q + 2)) (aI f (10 * q + 3)) s) → frI f mn mb mk w q s = 0)) ∧ (w ≠ 0 → (stt mn (aI f (10 * q + 0)) (aI f (10 * q + 1)) (aI f (10 * q + 2)) (aI f (10 * q + 3)) s = stt mb (aI f (10 * q + 0)) (aI f (10 * q + 1)) (aI f (10 * q + 2)) (aI f (10 * q + 3)) s ∧ stt mk (aI f (10 * q + 0)) (aI f (10 * q + 1)) (aI f (10 * q + 2)) (aI f (10 * q + 3)) s ≠ stt mb (aI f (10 * q + 0)) (aI f (10 * q + 1)) (aI f (10 * q + 2)) (aI f (10 * q + 3)) s → frI f mn mb mk w q s = 1) ∧ (¬ (stt mn (aI f (10 * q + 0)) (aI f (10 * q + 1)) (aI f (10 * q + 2)) (aI f (10 * q + 3)) s = stt mb (aI f (10 * q + 0)) (aI f (10 * q + 1)) (aI f (10 * q + 2)) (aI f (10 * q + 3)) s ∧ stt mk (aI f (10 * q + 0)) (aI f (10 * q + 1)) (aI f (10 * q + 2)) (aI f (10 * q + 3)) s ≠ stt mb (aI f (10 * q + 0)) (aI f (10 * q + 1)) (aI f (10 * q + 2)) (aI f (10 * q + 3)) s) → frI f mn mb mk w q s = 0)) := by
  unfold frI
  constructor
  · intro h
    rw [if_pos h]
    exact ⟨fun a => if_pos a, fun a => if_neg a⟩
  · intro h
    rw [if_neg h]
    exact ⟨fun a => if_pos a, fun a => if_neg a⟩
noncomputable def frQ (f : Nat → Int32) (mn mb mk : Int → Int) (w q : Int) : Int := if aI f (10 * q + 0) ≠ -1 ∧ aI f (10 * q + 6) = 1 then smS (frI f mn mb mk w q) (sF (aI f (10 * q + 0))) (sL (aI f (10 * q + 0)) + 1) else 0
theorem frQ_st (f : Nat → Int32) (mn mb mk : Int → Int) (w q : Int) : (aI f (10 * q + 0) ≠ -1 ∧ aI f (10 * q + 6) = 1 → frQ f mn mb mk w q = smS (frI f mn mb mk w q) (sF (aI f (10 * q + 0))) (sL (aI f (10 * q + 0)) + 1)) ∧ (¬ (aI f (10 * q + 0) ≠ -1 ∧ aI f (10 * q + 6) = 1) → frQ f mn mb mk w q = 0) := ⟨fun a => if_pos a, fun a => if_neg a⟩
noncomputable def frA (f : Nat → Int32) (mn mb mk : Int → Int) (w n : Int) : Int := smS (frQ f mn mb mk w) 0 n
theorem frA_0 (f : Nat → Int32) (mn mb mk : Int → Int) (w : Int) : frA f mn mb mk w 0 = 0 := smS_0 _ _
theorem frA_s {f : Nat → Int32} {mn mb mk : Int → Int} {w n : Int} (h : 0 ≤ n) : frA f mn mb mk w (n + 1) = frA f mn mb mk w n + frQ f mn mb mk w n := smS_s h
/-! the class's sums over its list -/
def qtI (G : XG) (F : Nat → Nat → Nat) (a : Nat) (j : Int) : Qt := (aI (G.2.1 (F a 0)) j, aI (G.2.1 (F a 1)) j, aI (G.2.1 (F a 2)) j, aI (G.2.1 (F a 3)) j, aI (G.2.1 (F a 4)) j, aI (G.2.1 (F a 5)) j)
def smQ (h : Qt → Int) : List Qt → Int
  | [] => 0
  | x :: l => h x + smQ h l
theorem smQ_app (h : Qt → Int) : ∀ l t : List Qt, smQ h (l ++ t) = smQ h l + smQ h t
  | [], t => (Int.zero_add _).symm
  | x :: l, t => by
    show h x + smQ h (l ++ t) = h x + smQ h l + smQ h t
    rw [smQ_app h l t, Int.add_assoc]
theorem smQ_lst (h : Qt → Int) (g : Nat → Qt) : ∀ n : Nat, smQ h (lst g n) = smN (fun i => h (g i)) n
  | 0 => rfl
  | n + 1 => by
    rw [lst_s, smQ_app, smQ_lst h g n]
    show smN (fun i => h (g i)) n + (h (g n) + 0) = smN (fun i => h (g i)) n + h (g n)
    omega
theorem smN_congr {g h : Nat → Int} : ∀ n : Nat, (∀ i, i < n → g i = h i) → smN g n = smN h n
  | 0, _ => rfl
  | n + 1, q => by
    show smN g n + g n = smN h n + h n
    rw [smN_congr n (fun i hi => q i (by omega)), q n (by omega)]
theorem smS_qL (h : Qt → Int) (G : XG) (F : Nat → Nat → Nat) (a : Nat) : smS (fun j => h (qtI G F a j)) 0 (G.1 a 6).toInt = smQ h (qL G F a) := by
  show _ = smQ h (lst _ _)
  rw [smQ_lst]
  unfold smS
  rw [Int.sub_zero]
  refine smN_congr _ (fun i hi => ?_)
  show h (qtI G F a ((i : Int) + 0)) = _
  rw [Int.add_zero]
  rfl
noncomputable def sttQ (G : XG) (v : Int → Int) (q : Nat) (s : Int) : Int := stt v (G.1 q 0).toInt (G.1 q 2).toInt (G.1 q 3).toInt (G.1 q 4).toInt s
noncomputable def chO (G : XG) (v : Int → Int) (s z : Int) : Option Nat → Int
  | none => 0
  | some q => if sttQ G v q s ≠ z then 1 else 0
noncomputable def seO (G : XG) (v : Int → Int) (s z : Int) : Option Nat → Int
  | none => 0
  | some q => if sttQ G v q s = z then 1 else 0
noncomputable def chQ (G : XG) (b : Nat → Option Nat) (v : Int → Int) (x : Qt) : Int := if 0 ≤ x.1 ∧ x.1 < 12 then chO G v x.2.1 x.2.2.2.1 (b x.1.toNat) else 0
noncomputable def seQ (G : XG) (b : Nat → Option Nat) (v : Int → Int) (x : Qt) : Int := if 0 ≤ x.1 ∧ x.1 < 12 then seO G v x.2.1 x.2.2.1 (b x.1.toNat) else 0
theorem chQ_n {G : XG} {b : Nat → Option Nat} {v : Int → Int} {x : Qt} {z : Int} (e : x.1 = z) (h : (z < 0 ∨ 12 ≤ z) ∨ b z.toNat = none) : chQ G b v x = 0 := by
  subst e
  unfold chQ
  by_cases g : 0 ≤ x.1 ∧ x.1 < 12
  · rw [if_pos g, h.resolve_left (by omega)]
    rfl
  · exact if_neg g
theorem seQ_n {G : XG} {b : Nat → Option Nat} {v : Int → Int} {x : Qt} {z : Int} (e : x.1 = z) (h : (z < 0 ∨ 12 ≤ z) ∨ b z.toNat = none) : seQ G b v x = 0 := by
  subst e
  unfold seQ
  by_cases g : 0 ≤ x.1 ∧ x.1 < 12
  · rw [if_pos g, h.resolve_left (by omega)]
    rfl
  · exact if_neg g
theorem chQ_y {G : XG} {b : Nat → Option Nat} {v : Int → Int} {x : Qt} {z s t y : Int} {q : Nat} (e : x.1 = z) (h : 0 ≤ z ∧ z < 12) (hb : b z.toNat = some q) (e1 : x.2.1 = s) (e3 : x.2.2.2.1 = y) (ht : t = stt v (G.1 q 0).toInt (G.1 q 2).toInt (G.1 q 3).toInt (G.1 q 4).toInt s) : (t ≠ y → chQ G b v x = 1) ∧ (t = y → chQ G b v x = 0) := by
  subst e e1 e3 ht
  unfold chQ
  rw [if_pos h, hb]
  exact ⟨fun g => if_pos g, fun g => if_neg (fun k => k g)⟩
theorem seQ_y {G : XG} {b : Nat → Option Nat} {v : Int → Int} {x : Qt} {z s t y : Int} {q : Nat} (e : x.1 = z) (h : 0 ≤ z ∧ z < 12) (hb : b z.toNat = some q) (e1 : x.2.1 = s) (e2 : x.2.2.1 = y) (ht : t = stt v (G.1 q 0).toInt (G.1 q 2).toInt (G.1 q 3).toInt (G.1 q 4).toInt s) : (t = y → seQ G b v x = 1) ∧ (t ≠ y → seQ G b v x = 0) := by
  subst e e1 e2 ht
  unfold seQ
  rw [if_pos h, hb]
  exact ⟨fun g => if_pos g, fun g => if_neg g⟩
/-! what came into the queue, what left it -/
noncomputable def cmO (G : XG) (v : Int → Int) (s y : Int) : Option Nat → Int
  | none => 0
  | some q => if (G.1 q 9).toInt ≠ 0 ∧ y = sttQ G v q s then 1 else 0
noncomputable def lfO (G : XG) (v : Int → Int) (s y w : Int) : Option Nat → Int
  | none => 0
  | some q => if (G.1 q 9).toInt ≠ 0 ∧ y ≠ sttQ G v q s ∧ w = sttQ G v q s then 1 else 0
noncomputable def cmQ (G : XG) (b : Nat → Option Nat) (v : Int → Int) (x : Qt) : Int := if 0 ≤ x.1 ∧ x.1 < 12 then cmO G v x.2.1 x.2.2.1 (b x.1.toNat) else 0
noncomputable def lfQ (G : XG) (b : Nat → Option Nat) (v : Int → Int) (x : Qt) : Int := if 0 ≤ x.1 ∧ x.1 < 12 then lfO G v x.2.1 x.2.2.1 x.2.2.2.1 (b x.1.toNat) else 0
theorem cmQ_n {G : XG} {b : Nat → Option Nat} {v : Int → Int} {x : Qt} {z : Int} (e : x.1 = z) (h : (z < 0 ∨ 12 ≤ z) ∨ b z.toNat = none) : cmQ G b v x = 0 ∧ lfQ G b v x = 0 := by
  subst e
  unfold cmQ lfQ
  by_cases g : 0 ≤ x.1 ∧ x.1 < 12
  · rw [if_pos g, if_pos g, h.resolve_left (by omega)]
    exact ⟨rfl, rfl⟩
  · exact ⟨if_neg g, if_neg g⟩
theorem cmQ_l {G : XG} {b : Nat → Option Nat} {v : Int → Int} {x : Qt} {z : Int} {q : Nat} (e : x.1 = z) (h : 0 ≤ z ∧ z < 12) (hb : b z.toNat = some q) (hl : (G.1 q 9).toInt = 0) : cmQ G b v x = 0 ∧ lfQ G b v x = 0 := by
  subst e
  unfold cmQ lfQ
  rw [if_pos h, if_pos h, hb]
  exact ⟨if_neg (fun k => k.1 hl), if_neg (fun k => k.1 hl)⟩
theorem cmQ_y {G : XG} {b : Nat → Option Nat} {v : Int → Int} {x : Qt} {z s t y w : Int} {q : Nat} (e : x.1 = z) (h : 0 ≤ z ∧ z < 12) (hb : b z.toNat = some q) (hl : (G.1 q 9).toInt ≠ 0) (e1 : x.2.1 = s) (e2 : x.2.2.1 = y) (e3 : x.2.2.2.1 = w) (ht : t = stt v (G.1 q 0).toInt (G.1 q 2).toInt (G.1 q 3).toInt (G.1 q 4).toInt s) : (y = t → cmQ G b v x = 1 ∧ lfQ G b v x = 0) ∧ (y ≠ t → w = t → cmQ G b v x = 0 ∧ lfQ G b v x = 1) ∧ (y ≠ t → w ≠ t → cmQ G b v x = 0 ∧ lfQ G b v x = 0) := by
  subst e e1 e2 e3 ht
  unfold cmQ lfQ
  rw [if_pos h, if_pos h, hb]
  refine ⟨fun g => ⟨if_pos ⟨hl, g⟩, if_neg (fun k => k.2.1 g)⟩, fun g g2 => ⟨if_neg (fun k => g k.2), if_pos ⟨hl, g, g2⟩⟩, fun g g2 => ⟨if_neg (fun k => g k.2), if_neg (fun k => g2 k.2.2)⟩⟩
theorem cmQ_cg {G u : XG} {b : Nat → Option Nat} {v : Int → Int} (h : ∀ i q : Nat, i < 12 → b i = some q → u.1 q = G.1 q) : cmQ u b v = cmQ G b v ∧ lfQ u b v = lfQ G b v := by
  refine ⟨funext (fun x => ?_), funext (fun x => ?_)⟩
  · unfold cmQ
    by_cases g : 0 ≤ x.1 ∧ x.1 < 12
    · rw [if_pos g, if_pos g]
      cases hb : b x.1.toNat with
      | none => rfl
      | some q =>
        have e := h x.1.toNat q (by omega) hb
        show (if (u.1 q 9).toInt ≠ 0 ∧ x.2.2.1 = stt v (u.1 q 0).toInt (u.1 q 2).toInt (u.1 q 3).toInt (u.1 q 4).toInt x.2.1 then (1 : Int) else 0) = (if (G.1 q 9).toInt ≠ 0 ∧ x.2.2.1 = stt v (G.1 q 0).toInt (G.1 q 2).toInt (G.1 q 3).toInt (G.1 q 4).toInt x.2.1 then 1 else 0)
        rw [e]
    · rw [if_neg g, if_neg g]
  · unfold lfQ
    by_cases g : 0 ≤ x.1 ∧ x.1 < 12
    · rw [if_pos g, if_pos g]
      cases hb : b x.1.toNat with
      | none => rfl
      | some q =>
        have e := h x.1.toNat q (by omega) hb
        show (if (u.1 q 9).toInt ≠ 0 ∧ x.2.2.1 ≠ stt v (u.1 q 0).toInt (u.1 q 2).toInt (u.1 q 3).toInt (u.1 q 4).toInt x.2.1 ∧ x.2.2.2.1 = stt v (u.1 q 0).toInt (u.1 q 2).toInt (u.1 q 3).toInt (u.1 q 4).toInt x.2.1 then (1 : Int) else 0) = (if (G.1 q 9).toInt ≠ 0 ∧ x.2.2.1 ≠ stt v (G.1 q 0).toInt (G.1 q 2).toInt (G.1 q 3).toInt (G.1 q 4).toInt x.2.1 ∧ x.2.2.2.1 = stt v (G.1 q 0).toInt (G.1 q 2).toInt (G.1 q 3).toInt (G.1 q 4).toInt x.2.1 then 1 else 0)
        rw [e]
    · rw [if_neg g, if_neg g]
def tlK (b z : Int) : Int := if b = 0 then z else 0
def tlN (b z : Int) : Int := if b = 0 then 0 else z
theorem tlK_0 (z : Int) : tlK 0 z = z := if_pos rfl
theorem tlN_0 (z : Int) : tlN 0 z = 0 := if_pos rfl
theorem tlK_1 (z : Int) : tlK 1 z = 0 := if_neg (by decide)
theorem tlN_1 (z : Int) : tlN 1 z = z := if_neg (by decide)
theorem tlK_z (b : Int) : tlK b 0 = 0 := by unfold tlK; split <;> rfl
theorem tlN_z (b : Int) : tlN b 0 = 0 := by unfold tlN; split <;> rfl
theorem tlK_a (b x y : Int) : tlK b (x + y) = tlK b x + tlK b y := by
  unfold tlK
  by_cases h : b = 0
  · rw [if_pos h, if_pos h, if_pos h]
  · rw [if_neg h, if_neg h, if_neg h, Int.add_zero]
theorem tlN_a (b x y : Int) : tlN b (x + y) = tlN b x + tlN b y := by
  unfold tlN
  by_cases h : b = 0
  · rw [if_pos h, if_pos h, if_pos h, Int.add_zero]
  · rw [if_neg h, if_neg h, if_neg h]
section TALLY
variable {f g h : Nat → Int32} {b C L c l : Int}
theorem tl_0 (p : SI f g (tlK b C) (tlK b L) (tlN b L) (tlN b C) 0 0) (k : c = 0 ∧ l = 0) : SI f g (tlK b (C + c)) (tlK b (L + l)) (tlN b (L + l)) (tlN b (C + c)) 0 0 := by
  obtain ⟨k1, k2⟩ := k
  subst k1 k2
  rw [Int.add_zero, Int.add_zero]
  exact p
theorem tl_t {k0 k1 k2 k3 : Int} (p : SI f g (tlK b C) (tlK b L) (tlN b L) (tlN b C) 0 0) (q : SI g h k0 k1 k2 k3 0 0) (e0 : k0 = tlK b c) (e1 : k1 = tlK b l) (e2 : k2 = tlN b l) (e3 : k3 = tlN b c) : SI f h (tlK b (C + c)) (tlK b (L + l)) (tlN b (L + l)) (tlN b (C + c)) 0 0 := by
  rw [tlK_a, tlK_a, tlN_a, tlN_a]
  exact (p.tr q).cg (by rw [e0]) (by rw [e1]) (by rw [e2]) (by rw [e3]) rfl rfl
end TALLY
/-! what an act leaves behind, within a TRANSACTION -/
noncomputable def acI (op : Int) (L : List Qt) (z : Int) : Int := match fqF (upF prS L) with
  | some _ => 0
  | none => if op = 0 then 0 else z
noncomputable def acJ (op : Int) (L : List Qt) : Int := match fqF (upF prS L) with
  | some _ => if op = 0 then 0 else 1
  | none => 0
theorem ai_s {L : List Qt} {x : Qt} (h : fqF (upF prS L) = some x) (op : Int) : (∀ z, acI op L z = 0) ∧ acJ op L = if op = 0 then 0 else 1 := by
  unfold acI acJ
  rw [h]
  exact ⟨fun _ => rfl, rfl⟩
theorem ai_n {L : List Qt} (h : fqF (upF prS L) = none) {op : Int} (ho : op ≠ 0) : (∀ z, acI op L z = z) ∧ acJ op L = 0 := by
  unfold acI acJ
  rw [h]
  exact ⟨fun _ => if_neg ho, rfl⟩
theorem ai_o {L : List Qt} (h : fqF (upF prS L) = none) {op : Int} (ho : op = 0) : (∀ z, acI op L z = 0) ∧ acJ op L = 0 := by
  unfold acI acJ
  rw [h]
  exact ⟨fun _ => if_pos ho, rfl⟩
/-- the rules in order stand in the book by their numbers -/
def BKx (G : XG) (f0 f1 : Nat → Option Nat) (n : Nat) : Prop := ∀ i q : Nat, i < n → f1 i = some q → (0 ≤ (G.1 q 1).toInt ∧ (G.1 q 1).toInt < 12) ∧ f0 (G.1 q 1).toInt.toNat = some q
theorem uqs_nr {r1 r2 : Int → Int} {q : Nat → Int32} {x : Qt} (h : x ∈ uqs r1 r2 q) : x.1 = (q 1).toInt := by
  unfold uqs at h
  rw [List.mem_filterMap] at h
  obtain ⟨s, -, e⟩ := h
  unfold uq1 at e
  split at e
  · cases e; rfl
  · cases e
theorem BKx.ga {G : XG} {f0 f1 : Nat → Option Nat} {r1 r2 : Int → Int} {w : Int} : ∀ {n : Nat}, BKx G f0 f1 n → ∀ x, x ∈ gaL G f1 r1 r2 w n → inBk G f0 x.1
  | 0, _, x, h => absurd h List.not_mem_nil
  | n + 1, hb, x, h => by
    rw [gaL_s, List.mem_append] at h
    rcases h with h | h
    · exact BKx.ga (fun i q hi => hb i q (by omega)) x h
    · cases hq : f1 n with
      | none => rw [hq] at h; exact absurd h List.not_mem_nil
      | some q =>
        rw [hq] at h
        have h2 : x ∈ uqs r1 r2 (G.1 q) := by
          by_cases c : w = 0 ∨ ((G.1 q 9).toInt = 1 ∧ w = 1) ∨ ((G.1 q 9).toInt = 0 ∧ w ≠ 1)
          · rw [gaq_t c] at h; exact h
          · rw [gaq_f c] at h; exact absurd h List.not_mem_nil
        have e := uqs_nr h2
        obtain ⟨a, c⟩ := hb n q (by omega) hq
        rw [e]
        exact ⟨a, q, c, rfl⟩
theorem BKx.cg {G u : XG} {f0 f1 : Nat → Option Nat} {n : Nat} (h : BKx G f0 f1 n) (h2 : ∀ i q : Nat, i < n → f1 i = some q → u.1 q = G.1 q) : BKx u f0 f1 n := fun i q hi hq => by
  rw [h2 i q hi hq]
  exact h i q hi hq
/-- an act: refused ahead of all questions, or asked about -/
def ActT (go : Prop) (op : Int) (L w0 w1 : List Qt) (u : XG) (v : Nat) (f g s t : Nat → Int32) (cm lf : Int) : Prop :=
  (¬ go ∧ w1 = w0 ∧ (u.1 v 1).toInt = 0 ∧ SF f g 0 0 0 0 ∧ SI s t 0 0 0 0 0 (if op = 0 then 0 else 1)) ∨
  (go ∧ acA op L w0 w1 ∧ TV0 u v (acV op L) ∧ SF f g (acK op L) (acC op L) (acB op L) 0 ∧ SI s t (acI op L cm) (acI op L lf) 0 0 (acI op L 1) (acJ op L))
/-! late rules -/
noncomputable def lcI (G : XG) (f : Nat → Option Nat) (j : Int) : Int := match f j.toNat with
  | none => 0
  | some q => if (G.1 q 9).toInt ≠ 0 then 1 else 0
theorem lcI_n {G : XG} {f : Nat → Option Nat} {j : Int} (h : f j.toNat = none) : lcI G f j = 0 := by
  unfold lcI
  cases hf : f j.toNat with
  | none => rfl
  | some q => rw [hf] at h; cases h
theorem lcI_y {G : XG} {f : Nat → Option Nat} {j : Int} {q : Nat} (h : f j.toNat = some q) : ((G.1 q 9).toInt ≠ 0 → lcI G f j = 1) ∧ ((G.1 q 9).toInt = 0 → lcI G f j = 0) := by
  unfold lcI
  rw [h]
  exact ⟨fun e => if_pos e, fun e => if_neg (fun k => k e)⟩
def lmI (f : Nat → Int32) (j : Int) : Int := if aI f (10 * j + 0) ≠ -1 then aI f (10 * j + 6) else 0
theorem lmI_st (f : Nat → Int32) (j : Int) : (aI f (10 * j + 0) ≠ -1 → lmI f j = aI f (10 * j + 6)) ∧ (aI f (10 * j + 0) = -1 → lmI f j = 0) := ⟨fun h => if_pos h, fun h => if_neg (fun k => k h)⟩
