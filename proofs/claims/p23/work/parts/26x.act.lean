/-! ===== acts: what they leave alone ===== -/
theorem XFr.rule {K : Nat → Nat} {d : List (Nat × Nat)} {c r : List Nat} {G u : XG} (h : XFr d c r G u) (hd : ∀ p, p ∈ d → K p.1 ≠ 9) {q : Nat} (hq : K q = 9) : u.1 q = G.1 q := funext (fun j => h.1 q j (fun hm => hd _ hm hq))
theorem gaq_cg {G u : XG} {r1 r2 : Int → Int} {w : Int} {o : Option Nat} (h : ∀ q, o = some q → u.1 q = G.1 q) : gaq u r1 r2 w o = gaq G r1 r2 w o := by
  cases o with
  | none => rfl
  | some q =>
    show (if w = 0 ∨ ((u.1 q 9).toInt = 1 ∧ w = 1) ∨ ((u.1 q 9).toInt = 0 ∧ w ≠ 1) then uqs r1 r2 (u.1 q) else []) = (if w = 0 ∨ ((G.1 q 9).toInt = 1 ∧ w = 1) ∨ ((G.1 q 9).toInt = 0 ∧ w ≠ 1) then uqs r1 r2 (G.1 q) else [])
    rw [h q rfl]
theorem gaL_cg {G u : XG} {f : Nat → Option Nat} {r1 r2 : Int → Int} {w : Int} {n : Nat} (h : ∀ i q, i < n → f i = some q → u.1 q = G.1 q) : gaL u f r1 r2 w n = gaL G f r1 r2 w n := by
  induction n with
  | zero => rfl
  | succ n ih => rw [gaL_s, gaL_s, ih (fun i q hi => h i q (by omega)), gaq_cg (fun q hq => h n q (by omega) hq)]
/-- the rules that the book has by number, or in order, are rules, and well -/
def BKr (K : Nat → Nat) (G : XG) (f : Nat → Option Nat) : Prop := ∀ (i q : Nat), i < 12 → f i = some q → K q = 9 ∧ RW (G.1 q)
theorem BKr.rw {K : Nat → Nat} {G : XG} {f : Nat → Option Nat} (h : BKr K G f) : ∀ (i q : Nat), i < 12 → f i = some q → RW (G.1 q) := fun i q hi hf => (h i q hi hf).2
theorem BKr.fr {K : Nat → Nat} {d : List (Nat × Nat)} {c r : List Nat} {G u : XG} {f : Nat → Option Nat} (h : BKr K G f) (hf : XFr d c r G u) (hd : ∀ p, p ∈ d → K p.1 ≠ 9) : BKr K u f := fun i q hi hq => ⟨(h i q hi hq).1, by rw [hf.rule hd (h i q hi hq).1]; exact (h i q hi hq).2⟩
theorem qL_nil {G : XG} {F : Nat → Nat → Nat} {a : Nat} (h : (G.1 a 6).toInt = 0) : qL G F a = [] := by
  show lst _ (G.1 a 6).toInt.toNat = []
  rw [h]
  rfl
/-- what an act does: op: within a TRANSACTION; L: what it touches; rows ahead, behind, on paper; what waits ahead, behind, anew -/
def ActR (op r : Int) (L : List Qt) (n0 n1 p : Int → Int) (w0 w1 wn : List Qt) : Prop :=
  (((∃ x, x ∈ L ∧ x.2.2.2.2.1 = 0 ∧ x.2.2.2.2.2 ≠ 0) ∨ (op = 0 ∧ ∃ x, x ∈ L ∧ x.2.2.2.2.1 ≠ 0 ∧ x.2.2.2.2.2 ≠ 0)) ∧ r = -5 ∧ n1 = n0 ∧ w1 = w0) ∨
  ((∀ x, x ∈ L → x.2.2.2.2.1 = 0 → x.2.2.2.2.2 = 0) ∧ (op = 0 → ∀ x, x ∈ L → x.2.2.2.2.1 ≠ 0 → x.2.2.2.2.2 = 0) ∧ r = (L.length : Int) ∧ n1 = p ∧ (op = 0 → w1 = w0) ∧ (op ≠ 0 → w1 = wn))
theorem qL_len (G : XG) (F : Nat → Nat → Nat) (a : Nat) : (qL G F a).length = (G.1 a 6).toInt.toNat := lst_len _ _
section
/-! ===== sums: what changed or was settled since a mark ===== -/
def smN (g : Nat → Int) : Nat → Int
  | 0 => 0
  | n + 1 => smN g n + g n
def smS (h : Int → Int) (lo s : Int) : Int := smN (fun i : Nat => h ((i : Int) + lo)) (s - lo).toNat
theorem smS_0 (h : Int → Int) (lo : Int) : smS h lo lo = 0 := by
  unfold smS
  rw [Int.sub_self]
  rfl
theorem smS_s {h : Int → Int} {lo s : Int} (hs : lo ≤ s) : smS h lo (s + 1) = smS h lo s + h s := by
  unfold smS
  rw [show (s + 1 - lo).toNat = (s - lo).toNat + 1 from by omega]
  show smN _ (s - lo).toNat + h (((s - lo).toNat : Int) + lo) = _
  rw [show (((s - lo).toNat : Int) + lo) = s from by omega]
noncomputable def frI (f : Nat → Int32) (mn mb mk : Int → Int) (w q s : Int) : Int :=
  if w = 0 then (if stt mn (aI f (10 * q + 0)) (aI f (10 * q + 1)) (aI f (10 * q + 2)) (aI f (10 * q + 3)) s ≠ stt mb (aI f (10 * q + 0)) (aI f (10 * q + 1)) (aI f (10 * q + 2)) (aI f (10 * q + 3)) s ∧ stt mn (aI f (10 * q + 0)) (aI f (10 * q + 1)) (aI f (10 * q + 2)) (aI f (10 * q + 3)) s ≠ stt mk (aI f (10 * q + 0)) (aI f (10 * q + 1)) (aI f (10 * q + 2)) (aI f (10 * q + 3)) s then 1 else 0)
  else (if stt mn (aI f (10 * q + 0)) (aI f (10 * q + 1)) (aI f (10 * q + 2)) (aI f (10 * q + 3)) s = stt mb (aI f (10 * q + 0)) (aI f (10 * q + 1)) (aI f (10 * q + 2)) (aI f (10 * q + 3)) s ∧ stt mk (aI f (10 * q + 0)) (aI f (10 * q + 1)) (aI f (10 * q + 2)) (aI f (10 * q + 3)) s ≠ stt mb (aI f (10 * q + 0)) (aI f (10 * q + 1)) (aI f (10 * q + 2)) (aI f (10 * q + 3)) s then 1 else 0)
theorem frI_st (f : Nat → Int32) (mn mb mk : Int → Int) (w q s : Int) : (w = 0 → (stt mn (aI f (10 * q + 0)) (aI f (10 * q + 1)) (aI f (10 * q + 2)) (aI f (10 * q + 3)) s ≠ stt mb (aI f (10 * q + 0)) (aI f (10 * q + 1)) (aI f (10 * q + 2)) (aI f (10 * q + 3)) s ∧ stt mn (aI f (10 * q + 0)) (aI f (10 * q + 1)) (aI f (10 * q + 2)) (aI f (10 * q + 3)) s ≠ stt mk (aI f (10 * q + 0)) (aI f (10 * q + 1)) (aI f (10 * q + 2)) (aI f (10 * q + 3)) s → frI f mn mb mk w q s = 1) ∧ (¬ (stt mn (aI f (10 * q + 0)) (aI f (10 * q + 1)) (aI f (10 * q + 2)) (aI f (10 * q + 3)) s ≠ stt mb (aI f (10 * q + 0)) (aI f (10 * q + 1)) (aI f (10 * q + 2)) (aI f (10 * q + 3)) s ∧ stt mn (aI f (10 * q + 0)) (aI f (10 * q + 1)) (aI f (10 * q + 2)) (aI f (10 * q + 3)) s ≠ stt mk (aI f (10 * q + 0)) (aI f (10 * q + 1)) (aI f (10 * q + 2)) (aI f (10 * q + 3)) s) → frI f mn mb mk w q s = 0)) ∧ (w ≠ 0 → (stt mn (aI f (10 * q + 0)) (aI f (10 * q + 1)) (aI f (10 * q + 2)) (aI f (10 * q + 3)) s = stt mb (aI f (10 * q + 0)) (aI f (10 * q + 1)) (aI f (10 * q + 2)) (aI f (10 * q + 3)) s ∧ stt mk (aI f (10 * q + 0)) (aI f (10 * q + 1)) (aI f (10 * q + 2)) (aI f (10 * q + 3)) s ≠ stt mb (aI f (10 * q + 0)) (aI f (10 * q + 1)) (aI f (10 * q + 2)) (aI f (10 * q + 3)) s → frI f mn mb mk w q s = 1) ∧ (¬ (stt mn (aI f (10 * q + 0)) (aI f (10 * q + 1)) (aI f (10 * q + 2)) (aI f (10 * q + 3)) s = stt mb (aI f (10 * q + 0)) (aI f (10 * q + 1)) (aI f (10 * q + 2)) (aI f (10 * q + 3)) s ∧ stt mk (aI f (10 * q + 0)) (aI f (10 * q + 1)) (aI f (10 * q + 2)) (aI f (10 * q + 3)) s ≠ stt mb (aI f (10 * q + 0)) (aI f (10 * q + 1)) (aI f (10 * q + 2)) (aI f (10 * q + 3)) s) → frI f mn mb mk w q s = 0)) := by
  unfold frI
  constructor
  · intro h
    rw [if_pos h]
    exact ⟨fun a => if_pos a, fun a => if_neg a⟩
  · intro h
    rw [if_neg h]
    exact ⟨fun a => if_pos a, fun a => if_neg a⟩
noncomputable def frQ (f : Nat → Int32) (mn mb mk : Int → Int) (w q : Int) : Int := if aI f (10 * q + 0) ≠ -1 ∧ aI f (10 * q + 6) = 1 then smS (frI f mn mb mk w q) (sF (aI f (10 * q + 0))) (sL (aI f (10 * q + 0)) + 1) else 0
theorem frQ_st (f : Nat → Int32) (mn mb mk : Int → Int) (w q : Int) : (aI f (10 * q + 0) ≠ -1 ∧ aI f (10 * q + 6) = 1 → frQ f mn mb mk w q = smS (frI f mn mb mk w q) (sF (aI f (10 * q + 0))) (sL (aI f (10 * q + 0)) + 1)) ∧ (¬ (aI f (10 * q + 0) ≠ -1 ∧ aI f (10 * q + 6) = 1) → frQ f mn mb mk w q = 0) := ⟨fun a => if_pos a, fun a => if_neg a⟩
noncomputable def frA (f : Nat → Int32) (mn mb mk : Int → Int) (w n : Int) : Int := smS (frQ f mn mb mk w) 0 n
theorem frA_0 (f : Nat → Int32) (mn mb mk : Int → Int) (w : Int) : frA f mn mb mk w 0 = 0 := smS_0 _ _
theorem frA_s {f : Nat → Int32} {mn mb mk : Int → Int} {w n : Int} (h : 0 ≤ n) : frA f mn mb mk w (n + 1) = frA f mn mb mk w n + frQ f mn mb mk w n := smS_s h
/-! the class's sums over its list -/
def qtI (G : XG) (F : Nat → Nat → Nat) (a : Nat) (j : Int) : Qt := (aI (G.2.1 (F a 0)) j, aI (G.2.1 (F a 1)) j, aI (G.2.1 (F a 2)) j, aI (G.2.1 (F a 3)) j, aI (G.2.1 (F a 4)) j, aI (G.2.1 (F a 5)) j)
def smQ (h : Qt → Int) : List Qt → Int
  | [] => 0
  | x :: l => h x + smQ h l
theorem smQ_app (h : Qt → Int) : ∀ l t : List Qt, smQ h (l ++ t) = smQ h l + smQ h t
  | [], t => (Int.zero_add _).symm
  | x :: l, t => by
    show h x + smQ h (l ++ t) = h x + smQ h l + smQ h t
    rw [smQ_app h l t, Int.add_assoc]
theorem smQ_lst (h : Qt → Int) (g : Nat → Qt) : ∀ n : Nat, smQ h (lst g n) = smN (fun i => h (g i)) n
  | 0 => rfl
  | n + 1 => by
    rw [lst_s, smQ_app, smQ_lst h g n]
    show smN (fun i => h (g i)) n + (h (g n) + 0) = smN (fun i => h (g i)) n + h (g n)
    omega
theorem smN_congr {g h : Nat → Int} : ∀ n : Nat, (∀ i, i < n → g i = h i) → smN g n = smN h n
  | 0, _ => rfl
  | n + 1, q => by
    show smN g n + g n = smN h n + h n
    rw [smN_congr n (fun i hi => q i (by omega)), q n (by omega)]
theorem smS_qL (h : Qt → Int) (G : XG) (F : Nat → Nat → Nat) (a : Nat) : smS (fun j => h (qtI G F a j)) 0 (G.1 a 6).toInt = smQ h (qL G F a) := by
  show _ = smQ h (lst _ _)
  rw [smQ_lst]
  unfold smS
  rw [Int.sub_zero]
  refine smN_congr _ (fun i hi => ?_)
  show h (qtI G F a ((i : Int) + 0)) = _
  rw [Int.add_zero]
  rfl
noncomputable def sttQ (G : XG) (v : Int → Int) (q : Nat) (s : Int) : Int := stt v (G.1 q 0).toInt (G.1 q 2).toInt (G.1 q 3).toInt (G.1 q 4).toInt s
noncomputable def chO (G : XG) (v : Int → Int) (s z : Int) : Option Nat → Int
  | none => 0
  | some q => if sttQ G v q s ≠ z then 1 else 0
noncomputable def seO (G : XG) (v : Int → Int) (s z : Int) : Option Nat → Int
  | none => 0
  | some q => if sttQ G v q s = z then 1 else 0
noncomputable def chQ (G : XG) (b : Nat → Option Nat) (v : Int → Int) (x : Qt) : Int := if 0 ≤ x.1 ∧ x.1 < 12 then chO G v x.2.1 x.2.2.2.1 (b x.1.toNat) else 0
noncomputable def seQ (G : XG) (b : Nat → Option Nat) (v : Int → Int) (x : Qt) : Int := if 0 ≤ x.1 ∧ x.1 < 12 then seO G v x.2.1 x.2.2.1 (b x.1.toNat) else 0
theorem chQ_n {G : XG} {b : Nat → Option Nat} {v : Int → Int} {x : Qt} {z : Int} (e : x.1 = z) (h : (z < 0 ∨ 12 ≤ z) ∨ b z.toNat = none) : chQ G b v x = 0 := by
  subst e
  unfold chQ
  by_cases g : 0 ≤ x.1 ∧ x.1 < 12
  · rw [if_pos g, h.resolve_left (by omega)]
    rfl
  · exact if_neg g
theorem seQ_n {G : XG} {b : Nat → Option Nat} {v : Int → Int} {x : Qt} {z : Int} (e : x.1 = z) (h : (z < 0 ∨ 12 ≤ z) ∨ b z.toNat = none) : seQ G b v x = 0 := by
  subst e
  unfold seQ
  by_cases g : 0 ≤ x.1 ∧ x.1 < 12
  · rw [if_pos g, h.resolve_left (by omega)]
    rfl
  · exact if_neg g
theorem chQ_y {G : XG} {b : Nat → Option Nat} {v : Int → Int} {x : Qt} {z s t y : Int} {q : Nat} (e : x.1 = z) (h : 0 ≤ z ∧ z < 12) (hb : b z.toNat = some q) (e1 : x.2.1 = s) (e3 : x.2.2.2.1 = y) (ht : t = stt v (G.1 q 0).toInt (G.1 q 2).toInt (G.1 q 3).toInt (G.1 q 4).toInt s) : (t ≠ y → chQ G b v x = 1) ∧ (t = y → chQ G b v x = 0) := by
  subst e e1 e3 ht
  unfold chQ
  rw [if_pos h, hb]
  exact ⟨fun g => if_pos g, fun g => if_neg (fun k => k g)⟩
theorem seQ_y {G : XG} {b : Nat → Option Nat} {v : Int → Int} {x : Qt} {z s t y : Int} {q : Nat} (e : x.1 = z) (h : 0 ≤ z ∧ z < 12) (hb : b z.toNat = some q) (e1 : x.2.1 = s) (e2 : x.2.2.1 = y) (ht : t = stt v (G.1 q 0).toInt (G.1 q 2).toInt (G.1 q 3).toInt (G.1 q 4).toInt s) : (t = y → seQ G b v x = 1) ∧ (t ≠ y → seQ G b v x = 0) := by
  subst e e1 e2 ht
  unfold seQ
  rw [if_pos h, hb]
  exact ⟨fun g => if_pos g, fun g => if_neg g⟩
/-! what came into the queue, what left it -/
noncomputable def cmO (G : XG) (v : Int → Int) (s y : Int) : Option Nat → Int
  | none => 0
  | some q => if (G.1 q 9).toInt ≠ 0 ∧ y = sttQ G v q s then 1 else 0
noncomputable def lfO (G : XG) (v : Int → Int) (s y w : Int) : Option Nat → Int
  | none => 0
  | some q => if (G.1 q 9).toInt ≠ 0 ∧ y ≠ sttQ G v q s ∧ w = sttQ G v q s then 1 else 0
noncomputable def cmQ (G : XG) (b : Nat → Option Nat) (v : Int → Int) (x : Qt) : Int := if 0 ≤ x.1 ∧ x.1 < 12 then cmO G v x.2.1 x.2.2.1 (b x.1.toNat) else 0
noncomputable def lfQ (G : XG) (b : Nat → Option Nat) (v : Int → Int) (x : Qt) : Int := if 0 ≤ x.1 ∧ x.1 < 12 then lfO G v x.2.1 x.2.2.1 x.2.2.2.1 (b x.1.toNat) else 0
theorem cmQ_n {G : XG} {b : Nat → Option Nat} {v : Int → Int} {x : Qt} {z : Int} (e : x.1 = z) (h : (z < 0 ∨ 12 ≤ z) ∨ b z.toNat = none) : cmQ G b v x = 0 ∧ lfQ G b v x = 0 := by
  subst e
  unfold cmQ lfQ
  by_cases g : 0 ≤ x.1 ∧ x.1 < 12
  · rw [if_pos g, if_pos g, h.resolve_left (by omega)]
    exact ⟨rfl, rfl⟩
  · exact ⟨if_neg g, if_neg g⟩
theorem cmQ_l {G : XG} {b : Nat → Option Nat} {v : Int → Int} {x : Qt} {z : Int} {q : Nat} (e : x.1 = z) (h : 0 ≤ z ∧ z < 12) (hb : b z.toNat = some q) (hl : (G.1 q 9).toInt = 0) : cmQ G b v x = 0 ∧ lfQ G b v x = 0 := by
  subst e
  unfold cmQ lfQ
  rw [if_pos h, if_pos h, hb]
  exact ⟨if_neg (fun k => k.1 hl), if_neg (fun k => k.1 hl)⟩
theorem cmQ_y {G : XG} {b : Nat → Option Nat} {v : Int → Int} {x : Qt} {z s t y w : Int} {q : Nat} (e : x.1 = z) (h : 0 ≤ z ∧ z < 12) (hb : b z.toNat = some q) (hl : (G.1 q 9).toInt ≠ 0) (e1 : x.2.1 = s) (e2 : x.2.2.1 = y) (e3 : x.2.2.2.1 = w) (ht : t = stt v (G.1 q 0).toInt (G.1 q 2).toInt (G.1 q 3).toInt (G.1 q 4).toInt s) : (y = t → cmQ G b v x = 1 ∧ lfQ G b v x = 0) ∧ (y ≠ t → w = t → cmQ G b v x = 0 ∧ lfQ G b v x = 1) ∧ (y ≠ t → w ≠ t → cmQ G b v x = 0 ∧ lfQ G b v x = 0) := by
  subst e e1 e2 e3 ht
  unfold cmQ lfQ
  rw [if_pos h, if_pos h, hb]
  refine ⟨fun g => ⟨if_pos ⟨hl, g⟩, if_neg (fun k => k.2.1 g)⟩, fun g g2 => ⟨if_neg (fun k => g k.2), if_pos ⟨hl, g, g2⟩⟩, fun g g2 => ⟨if_neg (fun k => g k.2), if_neg (fun k => g2 k.2.2)⟩⟩
theorem cmQ_cg {G u : XG} {b : Nat → Option Nat} {v : Int → Int} (h : ∀ i q : Nat, i < 12 → b i = some q → u.1 q = G.1 q) : cmQ u b v = cmQ G b v ∧ lfQ u b v = lfQ G b v := by
  refine ⟨funext (fun x => ?_), funext (fun x => ?_)⟩
  · unfold cmQ
    by_cases g : 0 ≤ x.1 ∧ x.1 < 12
    · rw [if_pos g, if_pos g]
      cases hb : b x.1.toNat with
      | none => rfl
      | some q =>
        have e := h x.1.toNat q (by omega) hb
        show (if (u.1 q 9).toInt ≠ 0 ∧ x.2.2.1 = stt v (u.1 q 0).toInt (u.1 q 2).toInt (u.1 q 3).toInt (u.1 q 4).toInt x.2.1 then (1 : Int) else 0) = (if (G.1 q 9).toInt ≠ 0 ∧ x.2.2.1 = stt v (G.1 q 0).toInt (G.1 q 2).toInt (G.1 q 3).toInt (G.1 q 4).toInt x.2.1 then 1 else 0)
        rw [e]
    · rw [if_neg g, if_neg g]
  · unfold lfQ
    by_cases g : 0 ≤ x.1 ∧ x.1 < 12
    · rw [if_pos g, if_pos g]
      cases hb : b x.1.toNat with
      | none => rfl
      | some q =>
        have e := h x.1.toNat q (by omega) hb
        show (if (u.1 q 9).toInt ≠ 0 ∧ x.2.2.1 ≠ stt v (u.1 q 0).toInt (u.1 q 2).toInt (u.1 q 3).toInt (u.1 q 4).toInt x.2.1 ∧ x.2.2.2.1 = stt v (u.1 q 0).toInt (u.1 q 2).toInt (u.1 q 3).toInt (u.1 q 4).toInt x.2.1 then (1 : Int) else 0) = (if (G.1 q 9).toInt ≠ 0 ∧ x.2.2.1 ≠ stt v (G.1 q 0).toInt (G.1 q 2).toInt (G.1 q 3).toInt (G.1 q 4).toInt x.2.1 ∧ x.2.2.2.1 = stt v (G.1 q 0).toInt (G.1 q 2).toInt (G.1 q 3).toInt (G.1 q 4).toInt x.2.1 then 1 else 0)
        rw [e]
    · rw [if_neg g, if_neg g]
def tlK (b z : Int) : Int := if b = 0 then z else 0
def tlN (b z : Int) : Int := if b = 0 then 0 else z
theorem tlK_0 (z : Int) : tlK 0 z = z := if_pos rfl
theorem tlN_0 (z : Int) : tlN 0 z = 0 := if_pos rfl
theorem tlK_1 (z : Int) : tlK 1 z = 0 := if_neg (by decide)
theorem tlN_1 (z : Int) : tlN 1 z = z := if_neg (by decide)
theorem tlK_z (b : Int) : tlK b 0 = 0 := by unfold tlK; split <;> rfl
theorem tlN_z (b : Int) : tlN b 0 = 0 := by unfold tlN; split <;> rfl
theorem tlK_a (b x y : Int) : tlK b (x + y) = tlK b x + tlK b y := by
  unfold tlK
  by_cases h : b = 0
  · rw [if_pos h, if_pos h, if_pos h]
  · rw [if_neg h, if_neg h, if_neg h, Int.add_zero]
theorem tlN_a (b x y : Int) : tlN b (x + y) = tlN b x + tlN b y := by
  unfold tlN
  by_cases h : b = 0
  · rw [if_pos h, if_pos h, if_pos h, Int.add_zero]
  · rw [if_neg h, if_neg h, if_neg h]
section TALLY
variable {f g h : Nat → Int32} {b C L c l : Int}
theorem tl_0 (p : SI f g (tlK b C) (tlK b L) (tlN b L) (tlN b C) 0 0) (k : c = 0 ∧ l = 0) : SI f g (tlK b (C + c)) (tlK b (L + l)) (tlN b (L + l)) (tlN b (C + c)) 0 0 := by
  obtain ⟨k1, k2⟩ := k
  subst k1 k2
  rw [Int.add_zero, Int.add_zero]
  exact p
theorem tl_t {k0 k1 k2 k3 : Int} (p : SI f g (tlK b C) (tlK b L) (tlN b L) (tlN b C) 0 0) (q : SI g h k0 k1 k2 k3 0 0) (e0 : k0 = tlK b c) (e1 : k1 = tlK b l) (e2 : k2 = tlN b l) (e3 : k3 = tlN b c) : SI f h (tlK b (C + c)) (tlK b (L + l)) (tlN b (L + l)) (tlN b (C + c)) 0 0 := by
  rw [tlK_a, tlK_a, tlN_a, tlN_a]
  exact (p.tr q).cg (by rw [e0]) (by rw [e1]) (by rw [e2]) (by rw [e3]) rfl rfl
end TALLY
/-! what an act leaves behind, within a TRANSACTION -/
noncomputable def acI (op : Int) (L : List Qt) (z : Int) : Int := match fqF (upF prS L) with
  | some _ => 0
  | none => if op = 0 then 0 else z
noncomputable def acJ (op : Int) (L : List Qt) : Int := match fqF (upF prS L) with
  | some _ => if op = 0 then 0 else 1
  | none => 0
theorem ai_s {L : List Qt} {x : Qt} (h : fqF (upF prS L) = some x) (op : Int) : (∀ z, acI op L z = 0) ∧ acJ op L = if op = 0 then 0 else 1 := by
  unfold acI acJ
  rw [h]
  exact ⟨fun _ => rfl, rfl⟩
theorem ai_n {L : List Qt} (h : fqF (upF prS L) = none) {op : Int} (ho : op ≠ 0) : (∀ z, acI op L z = z) ∧ acJ op L = 0 := by
  unfold acI acJ
  rw [h]
  exact ⟨fun _ => if_neg ho, rfl⟩
theorem ai_o {L : List Qt} (h : fqF (upF prS L) = none) {op : Int} (ho : op = 0) : (∀ z, acI op L z = 0) ∧ acJ op L = 0 := by
  unfold acI acJ
  rw [h]
  exact ⟨fun _ => if_pos ho, rfl⟩
/-- the rules in order stand in the book by their numbers -/
def BKx (G : XG) (f0 f1 : Nat → Option Nat) (n : Nat) : Prop := ∀ i q : Nat, i < n → f1 i = some q → (0 ≤ (G.1 q 1).toInt ∧ (G.1 q 1).toInt < 12) ∧ f0 (G.1 q 1).toInt.toNat = some q
theorem uqs_nr {r1 r2 : Int → Int} {q : Nat → Int32} {x : Qt} (h : x ∈ uqs r1 r2 q) : x.1 = (q 1).toInt := by
  unfold uqs at h
  rw [List.mem_filterMap] at h
  obtain ⟨s, -, e⟩ := h
  unfold uq1 at e
  split at e
  · cases e; rfl
  · cases e
theorem BKx.ga {G : XG} {f0 f1 : Nat → Option Nat} {r1 r2 : Int → Int} {w : Int} : ∀ {n : Nat}, BKx G f0 f1 n → ∀ x, x ∈ gaL G f1 r1 r2 w n → inBk G f0 x.1
  | 0, _, x, h => absurd h List.not_mem_nil
  | n + 1, hb, x, h => by
    rw [gaL_s, List.mem_append] at h
    rcases h with h | h
    · exact BKx.ga (fun i q hi => hb i q (by omega)) x h
    · cases hq : f1 n with
      | none => rw [hq] at h; exact absurd h List.not_mem_nil
      | some q =>
        rw [hq] at h
        have h2 : x ∈ uqs r1 r2 (G.1 q) := by
          by_cases c : w = 0 ∨ ((G.1 q 9).toInt = 1 ∧ w = 1) ∨ ((G.1 q 9).toInt = 0 ∧ w ≠ 1)
          · rw [gaq_t c] at h; exact h
          · rw [gaq_f c] at h; exact absurd h List.not_mem_nil
        have e := uqs_nr h2
        obtain ⟨a, c⟩ := hb n q (by omega) hq
        rw [e]
        exact ⟨a, q, c, rfl⟩
theorem BKx.cg {G u : XG} {f0 f1 : Nat → Option Nat} {n : Nat} (h : BKx G f0 f1 n) (h2 : ∀ i q : Nat, i < n → f1 i = some q → u.1 q = G.1 q) : BKx u f0 f1 n := fun i q hi hq => by
  rw [h2 i q hi hq]
  exact h i q hi hq
/-- an act: refused ahead of all questions, or asked about -/
def ActT (go : Prop) (op : Int) (L w0 w1 : List Qt) (u : XG) (v : Nat) (f g s t : Nat → Int32) (cm lf : Int) : Prop :=
  (¬ go ∧ w1 = w0 ∧ (u.1 v 1).toInt = 0 ∧ SF f g 0 0 0 0 ∧ SI s t 0 0 0 0 0 (if op = 0 then 0 else 1)) ∨
  (go ∧ acA op L w0 w1 ∧ TV0 u v (acV op L) ∧ SF f g (acK op L) (acC op L) (acB op L) 0 ∧ SI s t (acI op L cm) (acI op L lf) 0 0 (acI op L 1) (acJ op L))
/-! late rules -/
noncomputable def lcI (G : XG) (f : Nat → Option Nat) (j : Int) : Int := match f j.toNat with
  | none => 0
  | some q => if (G.1 q 9).toInt ≠ 0 then 1 else 0
theorem lcI_n {G : XG} {f : Nat → Option Nat} {j : Int} (h : f j.toNat = none) : lcI G f j = 0 := by
  unfold lcI
  cases hf : f j.toNat with
  | none => rfl
  | some q => rw [hf] at h; cases h
theorem lcI_y {G : XG} {f : Nat → Option Nat} {j : Int} {q : Nat} (h : f j.toNat = some q) : ((G.1 q 9).toInt ≠ 0 → lcI G f j = 1) ∧ ((G.1 q 9).toInt = 0 → lcI G f j = 0) := by
  unfold lcI
  rw [h]
  exact ⟨fun e => if_pos e, fun e => if_neg (fun k => k e)⟩
def lmI (f : Nat → Int32) (j : Int) : Int := if aI f (10 * j + 0) ≠ -1 then aI f (10 * j + 6) else 0
theorem lmI_st (f : Nat → Int32) (j : Int) : (aI f (10 * j + 0) ≠ -1 → lmI f j = aI f (10 * j + 6)) ∧ (aI f (10 * j + 0) = -1 → lmI f j = 0) := ⟨fun h => if_pos h, fun h => if_neg (fun k => k h)⟩
end
theorem v_X10_tally_56_1 {F : Nat → Nat → Nat} (a : Nat) (G : XG) (G_2 : XG)
    (rob : RO (vw (G.2.1 (F (F a 4) 0))) (aI (G.2.1 (F (F a 4) 1))))
    (c_G_2_F_F_a_4_0 : G_2.2.1 (F (F a 4) 0) = G.2.1 (F (F a 4) 0))
    (c_G_2_F_F_a_4_1 : G_2.2.1 (F (F a 4) 1) = G.2.1 (F (F a 4) 1)) :
    RO (vw (G_2.2.1 (F (F a 4) 0))) (aI (G_2.2.1 (F (F a 4) 1))) := by simp only [c_G_2_F_F_a_4_0, c_G_2_F_F_a_4_1]; assumption
theorem v_X10_tally_56_2 {K : Nat → Nat} {F : Nat → Nat → Nat} (a : Nat) (q25 : Nat) (G : XG) (G_2 : XG) (x22 : Int32) (l2_2 : Int32) (N2 : Nat) (x53 : Int32)
    (ha : K a = 12)
    (bkn : BKr K G (G.2.2.1 (F (F a 2) 0)))
    (hs25 : G_2.2.2.1 (F (F a 2) 0) (x22.toInt).toNat = some q25)
    (I2_0 : (0 : Int) ≤ l2_2.toInt)
    (hm2 : 2147483648 - l2_2.toInt < (((N2) + 1 : Nat) : Int))
    (c10 : ¬ (((G.1 (F a 9) 6).toInt) ≤ l2_2.toInt))
    (t22 : ((0 ≤ l2_2.toInt ∧ l2_2.toInt < ((G.1 (F a 9) 6).toInt) ∧ l2_2.toInt < 1080) ∧ x22.toInt = (aI (G.2.1 (F (F a 9) 0)) (l2_2.toInt))) ∨ (¬ (0 ≤ l2_2.toInt ∧ l2_2.toInt < ((G.1 (F a 9) 6).toInt) ∧ l2_2.toInt < 1080) ∧ x22.toInt = -1))
    (ht25 : 0 ≤ x22.toInt ∧ x22.toInt < 12)
    (f26 : ((G.1 q25 9).toInt) = 0 ∨ ((G.1 q25 9).toInt) = 1)
    (c37 : ((G.1 q25 9).toInt) ≠ 0)
    (t53 : ((0 ≤ l2_2.toInt ∧ l2_2.toInt < ((G.1 (F a 9) 6).toInt) ∧ l2_2.toInt < 1080) ∧ x53.toInt = (aI (G.2.1 (F (F a 9) 1)) (l2_2.toInt))) ∨ (¬ (0 ≤ l2_2.toInt ∧ l2_2.toInt < ((G.1 (F a 9) 6).toInt) ∧ l2_2.toInt < 1080) ∧ x53.toInt = -1))
    (r_G_2_F_F_a_2_0 : G_2.2.2.1 (F (F a 2) 0) = G.2.2.1 (F (F a 2) 0))
    (D_G_2_q25 : G_2.1 q25 = G.1 q25) :
    RW (G_2.1 q25) := by
  rw [D_G_2_q25]
  exact (bkn x22.toInt.toNat q25 (by omega) (by rw [← r_G_2_F_F_a_2_0]; exact hs25)).2
theorem z_X10_tally_1 (a0 : Int) (h0 : -2147483648 ≤ a0 ∧ a0 < 2147483648) : ¬ (2147483648 - a0 < ((0 : Nat) : Int)) := by omega
theorem z_X10_tally_2 (a0 : Int) (a1 : Int) (a2 : Int) (h0 : (0 : Int) ≤ a0) (h1 : ¬ (a2 ≤ a0)) (h2 : a1 = (a0 + 1) ∨ (a0 + 1) < -2147483648 ∨ 2147483648 ≤ (a0 + 1)) (h3 : -2147483648 ≤ a2 ∧ a2 < 2147483648) : a1 = (a0 + 1) := by omega
theorem z_X10_tally_3 (a0 : Int) (h0 : (0 : Int) ≤ a0) : (0 : Int) ≤ (a0 + 1) := by omega
theorem z_X10_tally_4 (a0 : Int) (a1 : Nat) (h0 : 2147483648 - a0 < ((a1 + 1 : Nat) : Int)) : 2147483648 - (a0 + 1) < ((a1 : Nat) : Int) := by omega
abbrev rm_X10_tally : Room := { frames := 3, cells := 0, slots := 0, locals := 72 }
set_option maxHeartbeats 4000000 in
set_option maxRecDepth 100000 in
theorem c_X10_tally (l : Launch) (E : XE) (K : Nat → Nat) (F : Nat → Nat → Nat) (G : XG) (a : Nat) (p0 : Int32) (ha : K a = 12) (b0 : p0 = 0 ∨ p0 = 1) (rob : RO (vw (G.2.1 (F (F a 4) 0))) (aI (G.2.1 (F (F a 4) 1)))) (bkn : BKr K G (G.2.2.1 (F (F a 2) 0))) : Met l yX10_tally (xw yX10_tally cX10_tally 5 none) rm_X10_tally (va_Pc [.ref a, .int p0] (XP E K F G)) (XQv E (fun (u : XG) => XFr [] [F a 15] [] G u) (fun u H => TW E K F u H)) 0 0 (xA E) := by
  refine x_enter (by decide) (Nat.le_of_ble_eq_true rfl) ?_
  intro p e s m args below meth c Q S hr hlk hnm hQ hP ls hl
  obtain ⟨hz, hK, hT⟩ := hP
  obtain ⟨hx, hb, -, -, -⟩ := id S
  obtain ⟨H, hT, hS, hgo⟩ : ∃ H : Heap, TW E K F G H ∧ va_S (xA E) s.heap H [] ∧ H = s.heap := ⟨_, hT, va_S.rf, rfl⟩
  rw [← hgo]
  have hl : lv_has ls 5 [(0, .ref a), (1, .int p0)] := hl
  obtain ⟨hk9999, hj9999⟩ := fkX10_15 hT ha
  obtain ⟨hk9999a, hj9999a⟩ := fkX10_2 hT ha
  obtain ⟨hk9999b, hj9999b⟩ := fkX0_0 hT hk9999a
  obtain ⟨hk9999c, hj9999c⟩ := fkX10_4 hT ha
  obtain ⟨hk9999d, hj9999d⟩ := fkX6_0 hT hk9999c
  have hj9999e : F (F (F a 4) 0) 99 = 1 := by rw [hj9999d, hj9999c]
  obtain ⟨hk9999e, hj9999f⟩ := fkX6_1 hT hk9999c
  have hj9999g : F (F (F a 4) 1) 99 = 1 := by rw [hj9999f, hj9999c]
  refine lv_iconst (v := 0) hx hb dX10_tally_0 (by decide) ?_
  refine lv_istore_n (lv' := [(2, .int 0), (0, .ref a), (1, .int p0)]) hx hb dX10_tally_1 rfl hl (by decide) rfl (fun ls hl => ?_)
  have L2 : ∀ (N2 : Nat) (l2_2 : Int32) (G_2 : XG) (H : Heap) (locs : List Loc) (ls : Array Slot), XFr [] [F a 15] [] G G_2 → (0 : Int) ≤ l2_2.toInt → 2147483648 - l2_2.toInt < ((N2 : Nat) : Int) → TW E K F G_2 H → va_S (xA E) s.heap H locs → lv_has ls 5 [(0, .ref a), (1, .int p0), (2, .int l2_2)] → W p l e rm_X10_tally s m args below meth c H locs 0 0 Q (F0 m 2 ls []) := by
    intro N2
    induction N2 with
    | zero =>
      intro l2_2 G_2 H locs ls hF_2 I2_0 hm2
      exact absurd hm2 (z_X10_tally_1 l2_2.toInt (xr l2_2))
    | succ N2 ih2 =>
      intro l2_2 G_2 H locs ls hF_2 I2_0 hm2 hT hS hl
      refine lv_iload_n hx hb dX10_tally_2 rfl (lv_at hl 2 rfl) ?_
      refine lv_aload_n hx hb dX10_tally_3 rfl (lv_at hl 0 rfl) ?_
      obtain ⟨hk4, hj4⟩ := fkX10_9 hT ha
      refine gX10_9 S hK hT ha kf_X10_61 dX10_tally_4 (fun _ _ => ?_)
      refine x_clp (x_runV (b := (F a 9)) (As := []) (rest := [.int l2_2]) S (c_X4_size l E K F G_2 H (F a 9) hk4) mv_X4_size km_X10_232 rfl rfl ⟨Nat.le_of_ble_eq_true rfl, Nat.le_of_ble_eq_true rfl⟩ (rc_6 hK hT hk4) hK (fun _ => XPh.blind) (fun U hU hW => XPh.at hK hz hS hT hU hW) rfl hl.1 (Nat.le_of_ble_eq_true rfl) dX10_tally_7 ⟨Nat.le_of_ble_eq_true rfl, Nat.le_of_ble_eq_true rfl⟩) hS ?_
      rintro _ _ locs ⟨x7, rfl, t7⟩ hS
      have t7 : x7.toInt = ((G.1 (F a 9) 6).toInt) := by rw [(show (G_2.1 (F a 9) 6).toInt = ((G.1 (F a 9) 6).toInt) from (congrArg Int32.toInt (hF_2.1 _ _ xn0)).trans (rfl : Int32.toInt (G.1 (F a 9) 6) = ((G.1 (F a 9) 6).toInt)))] at t7; exact t7
      refine xi_cge (tgt := 132) hx hb (rfl : Int32.toInt l2_2 = l2_2.toInt) (t7 : Int32.toInt x7 = ((G.1 (F a 9) 6).toInt)) dX10_tally_10 (by decide) (fun c10 => ?_) (fun c10 => ?_)
      · exact x_rv hx hb hr hlk hQ (Nat.le_of_ble_eq_true rfl) (Nat.le_of_ble_eq_true rfl) hS dX10_tally_132 G_2 (XFr.call XFr.rf hF_2 xm0 (xm1 0 rfl xm0) xm0) hT
      · refine lv_aload_n hx hb dX10_tally_13 rfl (lv_at hl 0 rfl) ?_
        refine gX10_2 S hK hT ha kf_X10_30 dX10_tally_14 (fun _ _ => ?_)
        refine lv_aload_n hx hb dX10_tally_17 rfl (lv_at hl 0 rfl) ?_
        refine gX10_9 S hK hT ha kf_X10_61 dX10_tally_18 (fun _ _ => ?_)
        refine lv_iload_n hx hb dX10_tally_21 rfl (lv_at hl 2 rfl) ?_
        refine x_clp (x_runV (b := (F a 9)) (As := [.int l2_2]) (rest := [.ref (F a 2)]) S (c_X4_number l E K F G_2 H (F a 9) l2_2 hk4) mv_X4_number km_X10_301 rfl rfl ⟨Nat.le_of_ble_eq_true rfl, Nat.le_of_ble_eq_true rfl⟩ (rc_6 hK hT hk4) hK (fun _ => XPh.blind) (fun U hU hW => XPh.at hK hz hS hT hU hW) rfl hl.1 (Nat.le_of_ble_eq_true rfl) dX10_tally_22 ⟨Nat.le_of_ble_eq_true rfl, Nat.le_of_ble_eq_true rfl⟩) hS ?_
        rintro _ _ locs ⟨x22, rfl, t22⟩ hS
        obtain ⟨hk22, hj22⟩ := fkX4_0 hT hk4
        have hj22a : F (F (F a 9) 0) 99 = 10 * 1 + 0 := by rw [hj22, hj4]
        have t22 : ((0 ≤ l2_2.toInt ∧ l2_2.toInt < ((G.1 (F a 9) 6).toInt) ∧ l2_2.toInt < 1080) ∧ x22.toInt = (aI (G.2.1 (F (F a 9) 0)) (l2_2.toInt))) ∨ (¬ (0 ≤ l2_2.toInt ∧ l2_2.toInt < ((G.1 (F a 9) 6).toInt) ∧ l2_2.toInt < 1080) ∧ x22.toInt = -1) := by rw [(show (G_2.1 (F a 9) 6).toInt = ((G.1 (F a 9) 6).toInt) from (congrArg Int32.toInt (hF_2.1 _ _ xn0)).trans (rfl : Int32.toInt (G.1 (F a 9) 6) = ((G.1 (F a 9) 6).toInt)))] at t22; rw [(show G_2.2.1 (F (F a 9) 0) = G.2.1 (F (F a 9) 0) from (hF_2.2.1 _ (xn1 (xne_k hk22 hk9999 (by decide)) xn0)))] at t22; exact t22
        refine x_clp (x_runV (b := (F a 2)) (As := [.int x22]) (rest := []) S (c_X0_get l E K F G_2 H (F a 2) x22 hk9999a) mv_X0_get km_X10_159 rfl rfl ⟨Nat.le_of_ble_eq_true rfl, Nat.le_of_ble_eq_true rfl⟩ (rc_2 hK hT hk9999a) hK (fun _ => XPh.blind) (fun U hU hW => XPh.at hK hz hS hT hU hW) rfl hl.1 (Nat.le_of_ble_eq_true rfl) dX10_tally_25 ⟨Nat.le_of_ble_eq_true rfl, Nat.le_of_ble_eq_true rfl⟩) hS ?_
        rintro _ _ locs (⟨rfl, hn25⟩ | ⟨q25, rfl, hk25, ht25, hs25⟩) hS
        · refine lv_astore_nN (lv' := [(3, .null), (0, .ref a), (1, .int p0), (2, .int l2_2)]) hx hb dX10_tally_28 rfl hl (by decide) rfl (fun ls hl => ?_)
          refine lv_aload_nN hx hb dX10_tally_29 rfl (lv_at hl 0 rfl) ?_
          refine lv_ifnullN (tgt := 126) hx hb dX10_tally_30 (by decide) ?_
          refine xi_iinc (n := 1) (lv' := fun z9 => [(2, .int z9), (3, .null), (0, .ref a), (1, .int p0)]) (k := 3) hx hb (rfl : Int32.toInt l2_2 = l2_2.toInt) (by decide) dX10_tally_126 hl rfl (by decide) (fun _ => rfl) (fun x126 ls t126 hl => ?_)
          have e126 : x126.toInt = (l2_2.toInt + 1) := (z_X10_tally_2 l2_2.toInt x126.toInt ((G.1 (F a 9) 6).toInt) I2_0 c10 t126 (xr (G.1 (F a 9) 6)))
          have hl : lv_has ls 5 [(2, .int x126), (3, .null), (0, .ref a), (1, .int p0)] := hl
          refine lv_goto (tgt := 2) hx hb dX10_tally_129 (by decide) ?_
          exact ih2 x126 G_2 _ _ _ (XFr.call XFr.rf hF_2 xm0 (xm1 0 rfl xm0) xm0) (by rw [(e126 : Int32.toInt x126 = (l2_2.toInt + 1))] <;> exact (z_X10_tally_3 l2_2.toInt I2_0)) (by rw [(e126 : Int32.toInt x126 = (l2_2.toInt + 1))] <;> exact (z_X10_tally_4 l2_2.toInt N2 hm2)) hT hS (lv_sub hl [2, 3, 0] rfl)
        · have ht25 : 0 ≤ x22.toInt ∧ x22.toInt < 12 := ht25
          refine lv_astore_n (lv' := [(3, .ref q25), (0, .ref a), (1, .int p0), (2, .int l2_2)]) hx hb dX10_tally_28 rfl hl (by decide) rfl (fun ls hl => ?_)
          refine lv_aload_n hx hb dX10_tally_29 rfl (lv_at hl 0 rfl) ?_
          refine lv_ifnull hx hb dX10_tally_30 ?_
          refine lv_aload_n hx hb dX10_tally_33 rfl (lv_at hl 0 rfl) ?_
          refine gX7_9 S hK hT hk25 kf_X10_170 dX10_tally_34 (v := (G.1 q25 9)) (hF_2.1 _ _ xn0) (fun hz34 => ?_)
          refine xi_zne (tgt := 43) hx hb (rfl : Int32.toInt (G.1 q25 9) = ((G.1 q25 9).toInt)) dX10_tally_37 (by decide) (fun c37 => ?_) (fun c37 => ?_)
          · refine lv_aload_n hx hb dX10_tally_43 rfl (lv_at hl 0 rfl) ?_
            refine lv_aload_n hx hb dX10_tally_44 rfl (lv_at hl 1 rfl) ?_
            refine gX10_4 S hK hT ha kf_X10_41 dX10_tally_45 (fun _ _ => ?_)
            refine lv_aload_n hx hb dX10_tally_48 rfl (lv_at hl 1 rfl) ?_
            refine gX10_9 S hK hT ha kf_X10_61 dX10_tally_49 (fun _ _ => ?_)
            refine lv_iload_n hx hb dX10_tally_52 rfl (lv_at hl 3 rfl) ?_
            refine x_clp (x_runV (b := (F a 9)) (As := [.int l2_2]) (rest := [.ref (F a 4), .ref q25]) S (c_X4_subject l E K F G_2 H (F a 9) l2_2 hk4) mv_X4_subject km_X10_147 rfl rfl ⟨Nat.le_of_ble_eq_true rfl, Nat.le_of_ble_eq_true rfl⟩ (rc_6 hK hT hk4) hK (fun _ => XPh.blind) (fun U hU hW => XPh.at hK hz hS hT hU hW) rfl hl.1 (Nat.le_of_ble_eq_true rfl) dX10_tally_53 ⟨Nat.le_of_ble_eq_true rfl, Nat.le_of_ble_eq_true rfl⟩) hS ?_
            rintro _ _ locs ⟨x53, rfl, t53⟩ hS
            obtain ⟨hk53, hj53⟩ := fkX4_1 hT hk4
            have hj53a : F (F (F a 9) 1) 99 = 10 * 1 + 1 := by rw [hj53, hj4]
            have t53 : ((0 ≤ l2_2.toInt ∧ l2_2.toInt < ((G.1 (F a 9) 6).toInt) ∧ l2_2.toInt < 1080) ∧ x53.toInt = (aI (G.2.1 (F (F a 9) 1)) (l2_2.toInt))) ∨ (¬ (0 ≤ l2_2.toInt ∧ l2_2.toInt < ((G.1 (F a 9) 6).toInt) ∧ l2_2.toInt < 1080) ∧ x53.toInt = -1) := by rw [(show (G_2.1 (F a 9) 6).toInt = ((G.1 (F a 9) 6).toInt) from (congrArg Int32.toInt (hF_2.1 _ _ xn0)).trans (rfl : Int32.toInt (G.1 (F a 9) 6) = ((G.1 (F a 9) 6).toInt)))] at t53; rw [(show G_2.2.1 (F (F a 9) 1) = G.2.1 (F (F a 9) 1) from (hF_2.2.1 _ (xn1 (xne_k hk53 hk9999 (by decide)) xn0)))] at t53; exact t53
            refine x_clp (x_runV (b := q25) (As := [.ref (F a 4), .int x53]) (rest := []) S (c_X7_state l E K F G_2 H q25 (F a 4) x53 hk25 hk9999c (v_X10_tally_56_1 (F := F) a G G_2 rob (hF_2.2.1 _ (xn1 (xne_k hk9999d hk9999 (by decide)) xn0)) (hF_2.2.1 _ (xn1 (xne_k hk9999e hk9999 (by decide)) xn0))) (v_X10_tally_56_2 (K := K) (F := F) a q25 G G_2 x22 l2_2 N2 x53 ha bkn hs25 I2_0 hm2 c10 t22 ht25 (xzi hz34) c37 t53 (hF_2.2.2 _ xn0) (fr_A hF_2 (fun _ => xn0)))) mv_X7_state km_X10_328 rfl rfl ⟨Nat.le_of_ble_eq_true rfl, Nat.le_of_ble_eq_true rfl⟩ (rc_9 hK hT hk25) hK (fun _ => XPh.blind) (fun U hU hW => XPh.at hK hz hS hT hU hW) rfl hl.1 (Nat.le_of_ble_eq_true rfl) dX10_tally_56 ⟨Nat.le_of_ble_eq_true rfl, Nat.le_of_ble_eq_true rfl⟩) hS ?_
            rintro _ _ locs ⟨x56, rfl, t56⟩ hS
            have t56 : x56.toInt = (stt (vw (G.2.1 (F (F a 4) 0))) ((G.1 q25 0).toInt) ((G.1 q25 2).toInt) ((G.1 q25 3).toInt) ((G.1 q25 4).toInt) (x53.toInt)) := by rw [(show G_2.2.1 (F (F a 4) 0) = G.2.1 (F (F a 4) 0) from (hF_2.2.1 _ (xn1 (xne_k hk9999d hk9999 (by decide)) xn0)))] at t56; rw [(show (G_2.1 q25 0).toInt = ((G.1 q25 0).toInt) from (congrArg Int32.toInt (hF_2.1 _ _ xn0)).trans (rfl : Int32.toInt (G.1 q25 0) = ((G.1 q25 0).toInt)))] at t56; rw [(show (G_2.1 q25 2).toInt = ((G.1 q25 2).toInt) from (congrArg Int32.toInt (hF_2.1 _ _ xn0)).trans (rfl : Int32.toInt (G.1 q25 2) = ((G.1 q25 2).toInt)))] at t56; rw [(show (G_2.1 q25 3).toInt = ((G.1 q25 3).toInt) from (congrArg Int32.toInt (hF_2.1 _ _ xn0)).trans (rfl : Int32.toInt (G.1 q25 3) = ((G.1 q25 3).toInt)))] at t56; rw [(show (G_2.1 q25 4).toInt = ((G.1 q25 4).toInt) from (congrArg Int32.toInt (hF_2.1 _ _ xn0)).trans (rfl : Int32.toInt (G.1 q25 4) = ((G.1 q25 4).toInt)))] at t56; exact t56
            refine lv_istore (lv' := [(4, .int x56), (3, .ref q25), (0, .ref a), (1, .int p0), (2, .int l2_2)]) hx hb dX10_tally_59 hl (by decide) rfl (fun ls hl => ?_)
            refine lv_aload_n hx hb dX10_tally_61 rfl (lv_at hl 2 rfl) ?_
            refine gX10_9 S hK hT ha kf_X10_61 dX10_tally_62 (fun _ _ => ?_)
            refine lv_iload_n hx hb dX10_tally_65 rfl (lv_at hl 4 rfl) ?_
            refine x_clp (x_runV (b := (F a 9)) (As := [.int l2_2]) (rest := []) S (c_X4_before l E K F G_2 H (F a 9) l2_2 hk4) mv_X4_before km_X10_303 rfl rfl ⟨Nat.le_of_ble_eq_true rfl, Nat.le_of_ble_eq_true rfl⟩ (rc_6 hK hT hk4) hK (fun _ => XPh.blind) (fun U hU hW => XPh.at hK hz hS hT hU hW) rfl hl.1 (Nat.le_of_ble_eq_true rfl) dX10_tally_66 ⟨Nat.le_of_ble_eq_true rfl, Nat.le_of_ble_eq_true rfl⟩) hS ?_
            rintro _ _ locs ⟨x66, rfl, t66⟩ hS
            obtain ⟨hk66, hj66⟩ := fkX4_2 hT hk4
            have hj66a : F (F (F a 9) 2) 99 = 10 * 1 + 2 := by rw [hj66, hj4]
            have t66 : ((0 ≤ l2_2.toInt ∧ l2_2.toInt < ((G.1 (F a 9) 6).toInt) ∧ l2_2.toInt < 1080) ∧ x66.toInt = (aI (G.2.1 (F (F a 9) 2)) (l2_2.toInt))) ∨ (¬ (0 ≤ l2_2.toInt ∧ l2_2.toInt < ((G.1 (F a 9) 6).toInt) ∧ l2_2.toInt < 1080) ∧ x66.toInt = -2000) := by rw [(show (G_2.1 (F a 9) 6).toInt = ((G.1 (F a 9) 6).toInt) from (congrArg Int32.toInt (hF_2.1 _ _ xn0)).trans (rfl : Int32.toInt (G.1 (F a 9) 6) = ((G.1 (F a 9) 6).toInt)))] at t66; rw [(show G_2.2.1 (F (F a 9) 2) = G.2.1 (F (F a 9) 2) from (hF_2.2.1 _ (xn1 (xne_k hk66 hk9999 (by decide)) xn0)))] at t66; exact t66
            refine lv_iload hx hb dX10_tally_69 (lv_at hl 0 rfl) ?_
            refine xi_cne (tgt := 95) hx hb (rfl : Int32.toInt x66 = x66.toInt) (t56 : Int32.toInt x56 = (stt (vw (G.2.1 (F (F a 4) 0))) ((G.1 q25 0).toInt) ((G.1 q25 2).toInt) ((G.1 q25 3).toInt) ((G.1 q25 4).toInt) (x53.toInt))) dX10_tally_71 (by decide) (fun c71 => ?_) (fun c71 => ?_)
            · refine lv_aload_n hx hb dX10_tally_95 rfl (lv_at hl 2 rfl) ?_
              refine gX10_9 S hK hT ha kf_X10_61 dX10_tally_96 (fun _ _ => ?_)
              refine lv_iload_n hx hb dX10_tally_99 rfl (lv_at hl 4 rfl) ?_
              refine x_clp (x_runV (b := (F a 9)) (As := [.int l2_2]) (rest := []) S (c_X4_after l E K F G_2 H (F a 9) l2_2 hk4) mv_X4_after km_X10_306 rfl rfl ⟨Nat.le_of_ble_eq_true rfl, Nat.le_of_ble_eq_true rfl⟩ (rc_6 hK hT hk4) hK (fun _ => XPh.blind) (fun U hU hW => XPh.at hK hz hS hT hU hW) rfl hl.1 (Nat.le_of_ble_eq_true rfl) dX10_tally_100 ⟨Nat.le_of_ble_eq_true rfl, Nat.le_of_ble_eq_true rfl⟩) hS ?_
              rintro _ _ locs ⟨x100, rfl, t100⟩ hS
              obtain ⟨hk100, hj100⟩ := fkX4_3 hT hk4
              have hj100a : F (F (F a 9) 3) 99 = 10 * 1 + 3 := by rw [hj100, hj4]
              have t100 : ((0 ≤ l2_2.toInt ∧ l2_2.toInt < ((G.1 (F a 9) 6).toInt) ∧ l2_2.toInt < 1080) ∧ x100.toInt = (aI (G.2.1 (F (F a 9) 3)) (l2_2.toInt))) ∨ (¬ (0 ≤ l2_2.toInt ∧ l2_2.toInt < ((G.1 (F a 9) 6).toInt) ∧ l2_2.toInt < 1080) ∧ x100.toInt = -2000) := by rw [(show (G_2.1 (F a 9) 6).toInt = ((G.1 (F a 9) 6).toInt) from (congrArg Int32.toInt (hF_2.1 _ _ xn0)).trans (rfl : Int32.toInt (G.1 (F a 9) 6) = ((G.1 (F a 9) 6).toInt)))] at t100; rw [(show G_2.2.1 (F (F a 9) 3) = G.2.1 (F (F a 9) 3) from (hF_2.2.1 _ (xn1 (xne_k hk100 hk9999 (by decide)) xn0)))] at t100; exact t100
              refine lv_iload hx hb dX10_tally_103 (lv_at hl 0 rfl) ?_
              refine xi_cne (tgt := 126) hx hb (rfl : Int32.toInt x100 = x100.toInt) (t56 : Int32.toInt x56 = (stt (vw (G.2.1 (F (F a 4) 0))) ((G.1 q25 0).toInt) ((G.1 q25 2).toInt) ((G.1 q25 3).toInt) ((G.1 q25 4).toInt) (x53.toInt))) dX10_tally_105 (by decide) (fun c105 => ?_) (fun c105 => ?_)
              · refine xi_iinc (n := 1) (lv' := fun z9 => [(2, .int z9), (4, .int x56), (3, .ref q25), (0, .ref a), (1, .int p0)]) (k := 4) hx hb (rfl : Int32.toInt l2_2 = l2_2.toInt) (by decide) dX10_tally_126 hl rfl (by decide) (fun _ => rfl) (fun x126 ls t126 hl => ?_)
                have e126 : x126.toInt = (l2_2.toInt + 1) := (z_X10_tally_2 l2_2.toInt x126.toInt ((G.1 (F a 9) 6).toInt) I2_0 c10 t126 (xr (G.1 (F a 9) 6)))
                have hl : lv_has ls 5 [(2, .int x126), (4, .int x56), (3, .ref q25), (0, .ref a), (1, .int p0)] := hl
                refine lv_goto (tgt := 2) hx hb dX10_tally_129 (by decide) ?_
                exact ih2 x126 G_2 _ _ _ (XFr.call XFr.rf hF_2 xm0 (xm1 0 rfl xm0) xm0) (by rw [(e126 : Int32.toInt x126 = (l2_2.toInt + 1))] <;> exact (z_X10_tally_3 l2_2.toInt I2_0)) (by rw [(e126 : Int32.toInt x126 = (l2_2.toInt + 1))] <;> exact (z_X10_tally_4 l2_2.toInt N2 hm2)) hT hS (lv_sub hl [3, 4, 0] rfl)
              · refine lv_aload_n hx hb dX10_tally_108 rfl (lv_at hl 2 rfl) ?_
                refine gX10_15 S hK hT ha kf_X10_95 dX10_tally_109 (fun _ _ => ?_)
                refine lv_iload_n hx hb dX10_tally_112 rfl (lv_at hl 3 rfl) ?_
                refine xi_zeq (tgt := 120) hx hb (rfl : Int32.toInt p0 = p0.toInt) dX10_tally_113 (by decide) (fun c113 => ?_) (fun c113 => ?_)
                · refine lv_iconst (v := 1) hx hb dX10_tally_120 (by decide) ?_
                  refine lv_dup2_11 hx hb dX10_tally_121 rfl rfl ?_
                  refine al_0 S hK hT hk9999 ar_26 (by decide) (by decide) dX10_tally_122 (fun x122 hv122 o122 => ?_)
                  have hv122 : x122.toInt = (aI (G_2.2.1 (F a 15)) 1) := hv122.trans (by rw [((by decide) : Int32.toInt 1 = (1 : Int))])
                  refine lv_iconst (v := 1) hx hb dX10_tally_123 (by decide) ?_
                  refine xi_iadd hx hb (hv122 : Int32.toInt x122 = (aI (G_2.2.1 (F a 15)) 1)) ((by decide) : Int32.toInt 1 = (1 : Int)) dX10_tally_124 (fun x124 t124 => ?_)
                  refine as_0 (x := x124) S hK hT hS hk9999 ar_26 aw_26 (by decide) (by decide) dX10_tally_125 (fun H locs hT hS => ?_)
                  obtain ⟨G125, hG125⟩ : ∃ GG : XG, GG = cput G_2 (F a 15) (1 : Int32).toNatClampNeg x124 := ⟨_, rfl⟩
                  rw [← hG125] at hT
                  refine xi_iinc (n := 1) (lv' := fun z9 => [(2, .int z9), (4, .int x56), (3, .ref q25), (0, .ref a), (1, .int p0)]) (k := 4) hx hb (rfl : Int32.toInt l2_2 = l2_2.toInt) (by decide) dX10_tally_126 hl rfl (by decide) (fun _ => rfl) (fun x126 ls t126 hl => ?_)
                  have e126 : x126.toInt = (l2_2.toInt + 1) := (z_X10_tally_2 l2_2.toInt x126.toInt ((G.1 (F a 9) 6).toInt) I2_0 c10 t126 (xr (G.1 (F a 9) 6)))
                  have hl : lv_has ls 5 [(2, .int x126), (4, .int x56), (3, .ref q25), (0, .ref a), (1, .int p0)] := hl
                  refine lv_goto (tgt := 2) hx hb dX10_tally_129 (by decide) ?_
                  exact ih2 x126 G125 _ _ _ (by rw [hG125]; exact XFr.cput (XFr.call XFr.rf hF_2 xm0 (xm1 0 rfl xm0) xm0) (List.mem_of_getElem? (i := 0) rfl)) (by rw [(e126 : Int32.toInt x126 = (l2_2.toInt + 1))] <;> exact (z_X10_tally_3 l2_2.toInt I2_0)) (by rw [(e126 : Int32.toInt x126 = (l2_2.toInt + 1))] <;> exact (z_X10_tally_4 l2_2.toInt N2 hm2)) hT hS (lv_sub hl [3, 4, 0] rfl)
                · refine lv_iconst (v := 2) hx hb dX10_tally_116 (by decide) ?_
                  refine lv_goto (tgt := 121) hx hb dX10_tally_117 (by decide) ?_
                  refine lv_dup2_11 hx hb dX10_tally_121 rfl rfl ?_
                  refine al_0 S hK hT hk9999 ar_26 (by decide) (by decide) dX10_tally_122 (fun x122 hv122 o122 => ?_)
                  have hv122 : x122.toInt = (aI (G_2.2.1 (F a 15)) 2) := hv122.trans (by rw [((by decide) : Int32.toInt 2 = (2 : Int))])
                  refine lv_iconst (v := 1) hx hb dX10_tally_123 (by decide) ?_
                  refine xi_iadd hx hb (hv122 : Int32.toInt x122 = (aI (G_2.2.1 (F a 15)) 2)) ((by decide) : Int32.toInt 1 = (1 : Int)) dX10_tally_124 (fun x124 t124 => ?_)
                  refine as_0 (x := x124) S hK hT hS hk9999 ar_26 aw_26 (by decide) (by decide) dX10_tally_125 (fun H locs hT hS => ?_)
                  obtain ⟨G125, hG125⟩ : ∃ GG : XG, GG = cput G_2 (F a 15) (2 : Int32).toNatClampNeg x124 := ⟨_, rfl⟩
                  rw [← hG125] at hT
                  refine xi_iinc (n := 1) (lv' := fun z9 => [(2, .int z9), (4, .int x56), (3, .ref q25), (0, .ref a), (1, .int p0)]) (k := 4) hx hb (rfl : Int32.toInt l2_2 = l2_2.toInt) (by decide) dX10_tally_126 hl rfl (by decide) (fun _ => rfl) (fun x126 ls t126 hl => ?_)
                  have e126 : x126.toInt = (l2_2.toInt + 1) := (z_X10_tally_2 l2_2.toInt x126.toInt ((G.1 (F a 9) 6).toInt) I2_0 c10 t126 (xr (G.1 (F a 9) 6)))
                  have hl : lv_has ls 5 [(2, .int x126), (4, .int x56), (3, .ref q25), (0, .ref a), (1, .int p0)] := hl
                  refine lv_goto (tgt := 2) hx hb dX10_tally_129 (by decide) ?_
                  exact ih2 x126 G125 _ _ _ (by rw [hG125]; exact XFr.cput (XFr.call XFr.rf hF_2 xm0 (xm1 0 rfl xm0) xm0) (List.mem_of_getElem? (i := 0) rfl)) (by rw [(e126 : Int32.toInt x126 = (l2_2.toInt + 1))] <;> exact (z_X10_tally_3 l2_2.toInt I2_0)) (by rw [(e126 : Int32.toInt x126 = (l2_2.toInt + 1))] <;> exact (z_X10_tally_4 l2_2.toInt N2 hm2)) hT hS (lv_sub hl [3, 4, 0] rfl)
            · refine lv_aload_n hx hb dX10_tally_74 rfl (lv_at hl 2 rfl) ?_
              refine gX10_15 S hK hT ha kf_X10_95 dX10_tally_75 (fun _ _ => ?_)
              refine lv_iload_n hx hb dX10_tally_78 rfl (lv_at hl 3 rfl) ?_
              refine xi_zeq (tgt := 86) hx hb (rfl : Int32.toInt p0 = p0.toInt) dX10_tally_79 (by decide) (fun c79 => ?_) (fun c79 => ?_)
              · refine lv_iconst (v := 0) hx hb dX10_tally_86 (by decide) ?_
                refine lv_dup2_11 hx hb dX10_tally_87 rfl rfl ?_
                refine al_0 S hK hT hk9999 ar_26 (by decide) (by decide) dX10_tally_88 (fun x88 hv88 o88 => ?_)
                have hv88 : x88.toInt = (aI (G_2.2.1 (F a 15)) 0) := hv88.trans (by rw [((by decide) : Int32.toInt 0 = (0 : Int))])
                refine lv_iconst (v := 1) hx hb dX10_tally_89 (by decide) ?_
                refine xi_iadd hx hb (hv88 : Int32.toInt x88 = (aI (G_2.2.1 (F a 15)) 0)) ((by decide) : Int32.toInt 1 = (1 : Int)) dX10_tally_90 (fun x90 t90 => ?_)
                refine as_0 (x := x90) S hK hT hS hk9999 ar_26 aw_26 (by decide) (by decide) dX10_tally_91 (fun H locs hT hS => ?_)
                obtain ⟨G91, hG91⟩ : ∃ GG : XG, GG = cput G_2 (F a 15) (0 : Int32).toNatClampNeg x90 := ⟨_, rfl⟩
                rw [← hG91] at hT
                refine lv_goto (tgt := 126) hx hb dX10_tally_92 (by decide) ?_
                refine xi_iinc (n := 1) (lv' := fun z9 => [(2, .int z9), (4, .int x56), (3, .ref q25), (0, .ref a), (1, .int p0)]) (k := 4) hx hb (rfl : Int32.toInt l2_2 = l2_2.toInt) (by decide) dX10_tally_126 hl rfl (by decide) (fun _ => rfl) (fun x126 ls t126 hl => ?_)
                have e126 : x126.toInt = (l2_2.toInt + 1) := (z_X10_tally_2 l2_2.toInt x126.toInt ((G.1 (F a 9) 6).toInt) I2_0 c10 t126 (xr (G.1 (F a 9) 6)))
                have hl : lv_has ls 5 [(2, .int x126), (4, .int x56), (3, .ref q25), (0, .ref a), (1, .int p0)] := hl
                refine lv_goto (tgt := 2) hx hb dX10_tally_129 (by decide) ?_
                exact ih2 x126 G91 _ _ _ (by rw [hG91]; exact XFr.cput (XFr.call XFr.rf hF_2 xm0 (xm1 0 rfl xm0) xm0) (List.mem_of_getElem? (i := 0) rfl)) (by rw [(e126 : Int32.toInt x126 = (l2_2.toInt + 1))] <;> exact (z_X10_tally_3 l2_2.toInt I2_0)) (by rw [(e126 : Int32.toInt x126 = (l2_2.toInt + 1))] <;> exact (z_X10_tally_4 l2_2.toInt N2 hm2)) hT hS (lv_sub hl [3, 4, 0] rfl)
              · refine lv_iconst (v := 3) hx hb dX10_tally_82 (by decide) ?_
                refine lv_goto (tgt := 87) hx hb dX10_tally_83 (by decide) ?_
                refine lv_dup2_11 hx hb dX10_tally_87 rfl rfl ?_
                refine al_0 S hK hT hk9999 ar_26 (by decide) (by decide) dX10_tally_88 (fun x88 hv88 o88 => ?_)
                have hv88 : x88.toInt = (aI (G_2.2.1 (F a 15)) 3) := hv88.trans (by rw [((by decide) : Int32.toInt 3 = (3 : Int))])
                refine lv_iconst (v := 1) hx hb dX10_tally_89 (by decide) ?_
                refine xi_iadd hx hb (hv88 : Int32.toInt x88 = (aI (G_2.2.1 (F a 15)) 3)) ((by decide) : Int32.toInt 1 = (1 : Int)) dX10_tally_90 (fun x90 t90 => ?_)
                refine as_0 (x := x90) S hK hT hS hk9999 ar_26 aw_26 (by decide) (by decide) dX10_tally_91 (fun H locs hT hS => ?_)
                obtain ⟨G91, hG91⟩ : ∃ GG : XG, GG = cput G_2 (F a 15) (3 : Int32).toNatClampNeg x90 := ⟨_, rfl⟩
                rw [← hG91] at hT
                refine lv_goto (tgt := 126) hx hb dX10_tally_92 (by decide) ?_
                refine xi_iinc (n := 1) (lv' := fun z9 => [(2, .int z9), (4, .int x56), (3, .ref q25), (0, .ref a), (1, .int p0)]) (k := 4) hx hb (rfl : Int32.toInt l2_2 = l2_2.toInt) (by decide) dX10_tally_126 hl rfl (by decide) (fun _ => rfl) (fun x126 ls t126 hl => ?_)
                have e126 : x126.toInt = (l2_2.toInt + 1) := (z_X10_tally_2 l2_2.toInt x126.toInt ((G.1 (F a 9) 6).toInt) I2_0 c10 t126 (xr (G.1 (F a 9) 6)))
                have hl : lv_has ls 5 [(2, .int x126), (4, .int x56), (3, .ref q25), (0, .ref a), (1, .int p0)] := hl
                refine lv_goto (tgt := 2) hx hb dX10_tally_129 (by decide) ?_
                exact ih2 x126 G91 _ _ _ (by rw [hG91]; exact XFr.cput (XFr.call XFr.rf hF_2 xm0 (xm1 0 rfl xm0) xm0) (List.mem_of_getElem? (i := 0) rfl)) (by rw [(e126 : Int32.toInt x126 = (l2_2.toInt + 1))] <;> exact (z_X10_tally_3 l2_2.toInt I2_0)) (by rw [(e126 : Int32.toInt x126 = (l2_2.toInt + 1))] <;> exact (z_X10_tally_4 l2_2.toInt N2 hm2)) hT hS (lv_sub hl [3, 4, 0] rfl)
          · refine lv_goto (tgt := 126) hx hb dX10_tally_40 (by decide) ?_
            refine xi_iinc (n := 1) (lv' := fun z9 => [(2, .int z9), (3, .ref q25), (0, .ref a), (1, .int p0)]) (k := 3) hx hb (rfl : Int32.toInt l2_2 = l2_2.toInt) (by decide) dX10_tally_126 hl rfl (by decide) (fun _ => rfl) (fun x126 ls t126 hl => ?_)
            have e126 : x126.toInt = (l2_2.toInt + 1) := (z_X10_tally_2 l2_2.toInt x126.toInt ((G.1 (F a 9) 6).toInt) I2_0 c10 t126 (xr (G.1 (F a 9) 6)))
            have hl : lv_has ls 5 [(2, .int x126), (3, .ref q25), (0, .ref a), (1, .int p0)] := hl
            refine lv_goto (tgt := 2) hx hb dX10_tally_129 (by decide) ?_
            exact ih2 x126 G_2 _ _ _ (XFr.call XFr.rf hF_2 xm0 (xm1 0 rfl xm0) xm0) (by rw [(e126 : Int32.toInt x126 = (l2_2.toInt + 1))] <;> exact (z_X10_tally_3 l2_2.toInt I2_0)) (by rw [(e126 : Int32.toInt x126 = (l2_2.toInt + 1))] <;> exact (z_X10_tally_4 l2_2.toInt N2 hm2)) hT hS (lv_sub hl [2, 3, 0] rfl)
  exact L2 4294967297 0 G _ _ _ XFr.rf (by decide) (by decide) hT hS (lv_sub hl [1, 2, 0] rfl)
theorem v_X10_actAsOnPaper_14_1 {F : Nat → Nat → Nat} (a : Nat) (G : XG)
    (ron : RO (vw (G.2.1 (F (F a 3) 0))) (aI (G.2.1 (F (F a 3) 1)))) :
    RO (vw (G.2.1 (F (F a 3) 0))) (aI (G.2.1 (F (F a 3) 1))) := by exact ron
theorem v_X10_actAsOnPaper_14_2 {F : Nat → Nat → Nat} (a : Nat) (G : XG)
    (rop : RO (vw (G.2.1 (F (F a 5) 0))) (aI (G.2.1 (F (F a 5) 1)))) :
    RO (vw (G.2.1 (F (F a 5) 0))) (aI (G.2.1 (F (F a 5) 1))) := by exact rop
theorem v_X10_actAsOnPaper_14_3 {K : Nat → Nat} {F : Nat → Nat → Nat} (a : Nat) (G : XG)
    (ha : K a = 12)
    (hk9999 : K (F a 11) = 3)
    (hj9999 : F (F a 11) 99 = 0)
    (hk9999a : K (F a 9) = 6)
    (hj9999a : F (F a 9) 99 = 1)
    (hk9999b : K (F a 14) = 11)
    (hj9999b : F (F a 14) 99 = 0)
    (hk9999c : K (F a 10) = 6)
    (hj9999c : F (F a 10) 99 = 2)
    (hk9999d : K (F a 8) = 6)
    (hj9999d : F (F a 8) 99 = 0)
    (hk9999e : K (F (F a 11) 0) = 21)
    (hj9999e : F (F (F a 11) 0) 99 = 100)
    (hk9999f : K (F (F a 11) 1) = 21)
    (hj9999f : F (F (F a 11) 1) 99 = 101)
    (hk9999g : K (F (F a 11) 2) = 24)
    (hj9999g : F (F (F a 11) 2) 99 = 4)
    (hk9999h : K (F (F a 9) 0) = 22)
    (hj9999i : F (F (F a 9) 0) 99 = 10 * 1 + 0)
    (hk9999i : K (F (F a 9) 1) = 22)
    (hj9999k : F (F (F a 9) 1) 99 = 10 * 1 + 1)
    (hk9999j : K (F (F a 9) 2) = 22)
    (hj9999m : F (F (F a 9) 2) 99 = 10 * 1 + 2)
    (hk9999k : K (F (F a 9) 3) = 22)
    (hj9999o : F (F (F a 9) 3) 99 = 10 * 1 + 3)
    (hk9999l : K (F (F a 9) 4) = 23)
    (hj9999q : F (F (F a 9) 4) 99 = 10 * 1 + 4)
    (hk9999m : K (F (F a 9) 5) = 23)
    (hj9999s : F (F (F a 9) 5) 99 = 10 * 1 + 5)
    (hk9999n : K (F a 16) = 27)
    (hj9999t : F (F a 16) 99 = 0)
    (hk9999o : K (F a 15) = 26)
    (hj9999u : F (F a 15) 99 = 0)
    (hk9999p : K (F (F a 10) 0) = 22)
    (hj9999w : F (F (F a 10) 0) 99 = 10 * 2 + 0)
    (hk9999q : K (F (F a 10) 1) = 22)
    (hj9999z25 : F (F (F a 10) 1) 99 = 10 * 2 + 1)
    (hk9999r : K (F (F a 10) 2) = 22)
    (hj9999z27 : F (F (F a 10) 2) 99 = 10 * 2 + 2)
    (hk9999s : K (F (F a 10) 3) = 22)
    (hj9999z29 : F (F (F a 10) 3) 99 = 10 * 2 + 3)
    (hk9999t : K (F (F a 10) 4) = 23)
    (hj9999z31 : F (F (F a 10) 4) 99 = 10 * 2 + 4)
    (hk9999u : K (F (F a 10) 5) = 23)
    (hj9999z33 : F (F (F a 10) 5) 99 = 10 * 2 + 5)
    (hk9999v : K (F a 3) = 8)
    (hj9999z34 : F (F a 3) 99 = 0)
    (hk9999w : K (F (F a 3) 0) = 20)
    (hj9999z36 : F (F (F a 3) 0) 99 = 0)
    (hk9999y : K (F (F a 3) 1) = 21)
    (hj9999z38 : F (F (F a 3) 1) 99 = 0)
    (hk9999z25 : K (F (F a 8) 0) = 22)
    (hj9999z40 : F (F (F a 8) 0) 99 = 10 * 0 + 0)
    (hk9999z26 : K (F (F a 8) 1) = 22)
    (hj9999z42 : F (F (F a 8) 1) 99 = 10 * 0 + 1)
    (hk9999z27 : K (F (F a 8) 2) = 22)
    (hj9999z44 : F (F (F a 8) 2) 99 = 10 * 0 + 2)
    (hk9999z28 : K (F (F a 8) 3) = 22)
    (hj9999z46 : F (F (F a 8) 3) 99 = 10 * 0 + 3)
    (hk9999z29 : K (F (F a 8) 4) = 23)
    (hj9999z48 : F (F (F a 8) 4) 99 = 10 * 0 + 4)
    (hk9999z30 : K (F (F a 8) 5) = 23)
    (hj9999z50 : F (F (F a 8) 5) 99 = 10 * 0 + 5)
    (hk9999z31 : K (F a 2) = 2)
    (hj9999z51 : F (F a 2) 99 = 0)
    (hk9999z32 : K (F (F a 2) 1) = 15)
    (hj9999z52 : F (F (F a 2) 1) 99 = 1)
    (hk9999z33 : K (F (F a 2) 0) = 15)
    (hj9999z53 : F (F (F a 2) 0) 99 = 0)
    (hk9999z34 : K (F a 4) = 8)
    (hj9999z54 : F (F a 4) 99 = 1)
    (hk9999z35 : K (F (F a 4) 0) = 20)
    (hj9999z56 : F (F (F a 4) 0) 99 = 1)
    (hk9999z36 : K (F (F a 4) 1) = 21)
    (hj9999z58 : F (F (F a 4) 1) 99 = 1)
    (hk9999z37 : K (F a 5) = 8)
    (hj9999z59 : F (F a 5) 99 = 2)
    (hk9999z38 : K (F (F a 5) 0) = 20)
    (hj9999z61 : F (F (F a 5) 0) 99 = 2)
    (hk9999z39 : K (F (F a 5) 1) = 21)
    (hj9999z63 : F (F (F a 5) 1) 99 = 2)
    (ron : RO (vw (G.2.1 (F (F a 3) 0))) (aI (G.2.1 (F (F a 3) 1))))
    (rop : RO (vw (G.2.1 (F (F a 5) 0))) (aI (G.2.1 (F (F a 5) 1))))
    (rob : RO (vw (G.2.1 (F (F a 4) 0))) (aI (G.2.1 (F (F a 4) 1))))
    (bko : BKr K G (G.2.2.1 (F (F a 2) 1)))
    (bkn : BKr K G (G.2.2.1 (F (F a 2) 0)))
    (sb : 0 ≤ ((G.1 (F a 2) 2).toInt) ∧ ((G.1 (F a 2) 2).toInt) ≤ 12)
    (sw : 0 ≤ ((G.1 (F a 8) 6).toInt) ∧ ((G.1 (F a 8) 6).toInt) ≤ 1080) :
    ∀ (i q : Nat), i < 12 → G.2.2.1 (F (F a 2) 1) i = some q → RW (G.1 q) := by
  first
    | exact bko.rw
    | (have hd : ∀ p, p ∈ [(F a 11, 3), (F a 9, 6), (F a 14, 1), (F a 14, 2), (F a 14, 3), (F a 10, 6), (F a 8, 6)] → K p.1 ≠ 9 := (List.forall_mem_cons.mpr ⟨(show K (F a 11) ≠ 9 by omega), List.forall_mem_cons.mpr ⟨(show K (F a 9) ≠ 9 by omega), List.forall_mem_cons.mpr ⟨(show K (F a 14) ≠ 9 by omega), List.forall_mem_cons.mpr ⟨(show K (F a 14) ≠ 9 by omega), List.forall_mem_cons.mpr ⟨(show K (F a 14) ≠ 9 by omega), List.forall_mem_cons.mpr ⟨(show K (F a 10) ≠ 9 by omega), List.forall_mem_cons.mpr ⟨(show K (F a 8) ≠ 9 by omega), fun _ h => by cases h⟩⟩⟩⟩⟩⟩⟩)
       have h9 := (bko.fr hfr hd).rw
       rw [show G94.2.2.1 (F (F a 2) 1) = G.2.2.1 (F (F a 2) 1) by assumption]
       exact h9)
theorem v_X10_actAsOnPaper_14_4 {K : Nat → Nat} {F : Nat → Nat → Nat} (a : Nat) (G : XG)
    (ha : K a = 12)
    (hk9999 : K (F a 11) = 3)
    (hj9999 : F (F a 11) 99 = 0)
    (hk9999a : K (F a 9) = 6)
    (hj9999a : F (F a 9) 99 = 1)
    (hk9999b : K (F a 14) = 11)
    (hj9999b : F (F a 14) 99 = 0)
    (hk9999c : K (F a 10) = 6)
    (hj9999c : F (F a 10) 99 = 2)
    (hk9999d : K (F a 8) = 6)
    (hj9999d : F (F a 8) 99 = 0)
    (hk9999e : K (F (F a 11) 0) = 21)
    (hj9999e : F (F (F a 11) 0) 99 = 100)
    (hk9999f : K (F (F a 11) 1) = 21)
    (hj9999f : F (F (F a 11) 1) 99 = 101)
    (hk9999g : K (F (F a 11) 2) = 24)
    (hj9999g : F (F (F a 11) 2) 99 = 4)
    (hk9999h : K (F (F a 9) 0) = 22)
    (hj9999i : F (F (F a 9) 0) 99 = 10 * 1 + 0)
    (hk9999i : K (F (F a 9) 1) = 22)
    (hj9999k : F (F (F a 9) 1) 99 = 10 * 1 + 1)
    (hk9999j : K (F (F a 9) 2) = 22)
    (hj9999m : F (F (F a 9) 2) 99 = 10 * 1 + 2)
    (hk9999k : K (F (F a 9) 3) = 22)
    (hj9999o : F (F (F a 9) 3) 99 = 10 * 1 + 3)
    (hk9999l : K (F (F a 9) 4) = 23)
    (hj9999q : F (F (F a 9) 4) 99 = 10 * 1 + 4)
    (hk9999m : K (F (F a 9) 5) = 23)
    (hj9999s : F (F (F a 9) 5) 99 = 10 * 1 + 5)
    (hk9999n : K (F a 16) = 27)
    (hj9999t : F (F a 16) 99 = 0)
    (hk9999o : K (F a 15) = 26)
    (hj9999u : F (F a 15) 99 = 0)
    (hk9999p : K (F (F a 10) 0) = 22)
    (hj9999w : F (F (F a 10) 0) 99 = 10 * 2 + 0)
    (hk9999q : K (F (F a 10) 1) = 22)
    (hj9999z25 : F (F (F a 10) 1) 99 = 10 * 2 + 1)
    (hk9999r : K (F (F a 10) 2) = 22)
    (hj9999z27 : F (F (F a 10) 2) 99 = 10 * 2 + 2)
    (hk9999s : K (F (F a 10) 3) = 22)
    (hj9999z29 : F (F (F a 10) 3) 99 = 10 * 2 + 3)
    (hk9999t : K (F (F a 10) 4) = 23)
    (hj9999z31 : F (F (F a 10) 4) 99 = 10 * 2 + 4)
    (hk9999u : K (F (F a 10) 5) = 23)
    (hj9999z33 : F (F (F a 10) 5) 99 = 10 * 2 + 5)
    (hk9999v : K (F a 3) = 8)
    (hj9999z34 : F (F a 3) 99 = 0)
    (hk9999w : K (F (F a 3) 0) = 20)
    (hj9999z36 : F (F (F a 3) 0) 99 = 0)
    (hk9999y : K (F (F a 3) 1) = 21)
    (hj9999z38 : F (F (F a 3) 1) 99 = 0)
    (hk9999z25 : K (F (F a 8) 0) = 22)
    (hj9999z40 : F (F (F a 8) 0) 99 = 10 * 0 + 0)
    (hk9999z26 : K (F (F a 8) 1) = 22)
    (hj9999z42 : F (F (F a 8) 1) 99 = 10 * 0 + 1)
    (hk9999z27 : K (F (F a 8) 2) = 22)
    (hj9999z44 : F (F (F a 8) 2) 99 = 10 * 0 + 2)
    (hk9999z28 : K (F (F a 8) 3) = 22)
    (hj9999z46 : F (F (F a 8) 3) 99 = 10 * 0 + 3)
    (hk9999z29 : K (F (F a 8) 4) = 23)
    (hj9999z48 : F (F (F a 8) 4) 99 = 10 * 0 + 4)
    (hk9999z30 : K (F (F a 8) 5) = 23)
    (hj9999z50 : F (F (F a 8) 5) 99 = 10 * 0 + 5)
    (hk9999z31 : K (F a 2) = 2)
    (hj9999z51 : F (F a 2) 99 = 0)
    (hk9999z32 : K (F (F a 2) 1) = 15)
    (hj9999z52 : F (F (F a 2) 1) 99 = 1)
    (hk9999z33 : K (F (F a 2) 0) = 15)
    (hj9999z53 : F (F (F a 2) 0) 99 = 0)
    (hk9999z34 : K (F a 4) = 8)
    (hj9999z54 : F (F a 4) 99 = 1)
    (hk9999z35 : K (F (F a 4) 0) = 20)
    (hj9999z56 : F (F (F a 4) 0) 99 = 1)
    (hk9999z36 : K (F (F a 4) 1) = 21)
    (hj9999z58 : F (F (F a 4) 1) 99 = 1)
    (hk9999z37 : K (F a 5) = 8)
    (hj9999z59 : F (F a 5) 99 = 2)
    (hk9999z38 : K (F (F a 5) 0) = 20)
    (hj9999z61 : F (F (F a 5) 0) 99 = 2)
    (hk9999z39 : K (F (F a 5) 1) = 21)
    (hj9999z63 : F (F (F a 5) 1) 99 = 2)
    (ron : RO (vw (G.2.1 (F (F a 3) 0))) (aI (G.2.1 (F (F a 3) 1))))
    (rop : RO (vw (G.2.1 (F (F a 5) 0))) (aI (G.2.1 (F (F a 5) 1))))
    (rob : RO (vw (G.2.1 (F (F a 4) 0))) (aI (G.2.1 (F (F a 4) 1))))
    (bko : BKr K G (G.2.2.1 (F (F a 2) 1)))
    (bkn : BKr K G (G.2.2.1 (F (F a 2) 0)))
    (sb : 0 ≤ ((G.1 (F a 2) 2).toInt) ∧ ((G.1 (F a 2) 2).toInt) ≤ 12)
    (sw : 0 ≤ ((G.1 (F a 8) 6).toInt) ∧ ((G.1 (F a 8) 6).toInt) ≤ 1080) :
    F (F a 3) 99 < 12 := by
  first | assumption | omega
theorem v_X10_actAsOnPaper_14_5 {K : Nat → Nat} {F : Nat → Nat → Nat} (a : Nat) (G : XG)
    (ha : K a = 12)
    (hk9999 : K (F a 11) = 3)
    (hj9999 : F (F a 11) 99 = 0)
    (hk9999a : K (F a 9) = 6)
    (hj9999a : F (F a 9) 99 = 1)
    (hk9999b : K (F a 14) = 11)
    (hj9999b : F (F a 14) 99 = 0)
    (hk9999c : K (F a 10) = 6)
    (hj9999c : F (F a 10) 99 = 2)
    (hk9999d : K (F a 8) = 6)
    (hj9999d : F (F a 8) 99 = 0)
    (hk9999e : K (F (F a 11) 0) = 21)
    (hj9999e : F (F (F a 11) 0) 99 = 100)
    (hk9999f : K (F (F a 11) 1) = 21)
    (hj9999f : F (F (F a 11) 1) 99 = 101)
    (hk9999g : K (F (F a 11) 2) = 24)
    (hj9999g : F (F (F a 11) 2) 99 = 4)
    (hk9999h : K (F (F a 9) 0) = 22)
    (hj9999i : F (F (F a 9) 0) 99 = 10 * 1 + 0)
    (hk9999i : K (F (F a 9) 1) = 22)
    (hj9999k : F (F (F a 9) 1) 99 = 10 * 1 + 1)
    (hk9999j : K (F (F a 9) 2) = 22)
    (hj9999m : F (F (F a 9) 2) 99 = 10 * 1 + 2)
    (hk9999k : K (F (F a 9) 3) = 22)
    (hj9999o : F (F (F a 9) 3) 99 = 10 * 1 + 3)
    (hk9999l : K (F (F a 9) 4) = 23)
    (hj9999q : F (F (F a 9) 4) 99 = 10 * 1 + 4)
    (hk9999m : K (F (F a 9) 5) = 23)
    (hj9999s : F (F (F a 9) 5) 99 = 10 * 1 + 5)
    (hk9999n : K (F a 16) = 27)
    (hj9999t : F (F a 16) 99 = 0)
    (hk9999o : K (F a 15) = 26)
    (hj9999u : F (F a 15) 99 = 0)
    (hk9999p : K (F (F a 10) 0) = 22)
    (hj9999w : F (F (F a 10) 0) 99 = 10 * 2 + 0)
    (hk9999q : K (F (F a 10) 1) = 22)
    (hj9999z25 : F (F (F a 10) 1) 99 = 10 * 2 + 1)
    (hk9999r : K (F (F a 10) 2) = 22)
    (hj9999z27 : F (F (F a 10) 2) 99 = 10 * 2 + 2)
    (hk9999s : K (F (F a 10) 3) = 22)
    (hj9999z29 : F (F (F a 10) 3) 99 = 10 * 2 + 3)
    (hk9999t : K (F (F a 10) 4) = 23)
    (hj9999z31 : F (F (F a 10) 4) 99 = 10 * 2 + 4)
    (hk9999u : K (F (F a 10) 5) = 23)
    (hj9999z33 : F (F (F a 10) 5) 99 = 10 * 2 + 5)
    (hk9999v : K (F a 3) = 8)
    (hj9999z34 : F (F a 3) 99 = 0)
    (hk9999w : K (F (F a 3) 0) = 20)
    (hj9999z36 : F (F (F a 3) 0) 99 = 0)
    (hk9999y : K (F (F a 3) 1) = 21)
    (hj9999z38 : F (F (F a 3) 1) 99 = 0)
    (hk9999z25 : K (F (F a 8) 0) = 22)
    (hj9999z40 : F (F (F a 8) 0) 99 = 10 * 0 + 0)
    (hk9999z26 : K (F (F a 8) 1) = 22)
    (hj9999z42 : F (F (F a 8) 1) 99 = 10 * 0 + 1)
    (hk9999z27 : K (F (F a 8) 2) = 22)
    (hj9999z44 : F (F (F a 8) 2) 99 = 10 * 0 + 2)
    (hk9999z28 : K (F (F a 8) 3) = 22)
    (hj9999z46 : F (F (F a 8) 3) 99 = 10 * 0 + 3)
    (hk9999z29 : K (F (F a 8) 4) = 23)
    (hj9999z48 : F (F (F a 8) 4) 99 = 10 * 0 + 4)
    (hk9999z30 : K (F (F a 8) 5) = 23)
    (hj9999z50 : F (F (F a 8) 5) 99 = 10 * 0 + 5)
    (hk9999z31 : K (F a 2) = 2)
    (hj9999z51 : F (F a 2) 99 = 0)
    (hk9999z32 : K (F (F a 2) 1) = 15)
    (hj9999z52 : F (F (F a 2) 1) 99 = 1)
    (hk9999z33 : K (F (F a 2) 0) = 15)
    (hj9999z53 : F (F (F a 2) 0) 99 = 0)
    (hk9999z34 : K (F a 4) = 8)
    (hj9999z54 : F (F a 4) 99 = 1)
    (hk9999z35 : K (F (F a 4) 0) = 20)
    (hj9999z56 : F (F (F a 4) 0) 99 = 1)
    (hk9999z36 : K (F (F a 4) 1) = 21)
    (hj9999z58 : F (F (F a 4) 1) 99 = 1)
    (hk9999z37 : K (F a 5) = 8)
    (hj9999z59 : F (F a 5) 99 = 2)
    (hk9999z38 : K (F (F a 5) 0) = 20)
    (hj9999z61 : F (F (F a 5) 0) 99 = 2)
    (hk9999z39 : K (F (F a 5) 1) = 21)
    (hj9999z63 : F (F (F a 5) 1) 99 = 2)
    (ron : RO (vw (G.2.1 (F (F a 3) 0))) (aI (G.2.1 (F (F a 3) 1))))
    (rop : RO (vw (G.2.1 (F (F a 5) 0))) (aI (G.2.1 (F (F a 5) 1))))
    (rob : RO (vw (G.2.1 (F (F a 4) 0))) (aI (G.2.1 (F (F a 4) 1))))
    (bko : BKr K G (G.2.2.1 (F (F a 2) 1)))
    (bkn : BKr K G (G.2.2.1 (F (F a 2) 0)))
    (sb : 0 ≤ ((G.1 (F a 2) 2).toInt) ∧ ((G.1 (F a 2) 2).toInt) ≤ 12)
    (sw : 0 ≤ ((G.1 (F a 8) 6).toInt) ∧ ((G.1 (F a 8) 6).toInt) ≤ 1080) :
    F (F a 5) 99 < 12 := by
  first | assumption | omega
theorem v_X10_actAsOnPaper_73_6 {F : Nat → Nat → Nat} (a : Nat) (G : XG) (G18 : XG)
    (ron : RO (vw (G.2.1 (F (F a 3) 0))) (aI (G.2.1 (F (F a 3) 1))))
    (rop : RO (vw (G.2.1 (F (F a 5) 0))) (aI (G.2.1 (F (F a 5) 1))))
    (rob : RO (vw (G.2.1 (F (F a 4) 0))) (aI (G.2.1 (F (F a 4) 1))))
    (c_G18_F_F_a_4_0 : G18.2.1 (F (F a 4) 0) = G.2.1 (F (F a 4) 0))
    (c_G18_F_F_a_4_1 : G18.2.1 (F (F a 4) 1) = G.2.1 (F (F a 4) 1)) :
    RO (vw (G18.2.1 (F (F a 4) 0))) (aI (G18.2.1 (F (F a 4) 1))) := by simp only [c_G18_F_F_a_4_0, c_G18_F_F_a_4_1]; assumption
theorem v_X10_actAsOnPaper_73_7 {K : Nat → Nat} {F : Nat → Nat → Nat} (a : Nat) (G : XG) (G18 : XG) (G14 : XG) (x18 : Int32)
    (ha : K a = 12)
    (hk9999 : K (F a 11) = 3)
    (hj9999 : F (F a 11) 99 = 0)
    (hk9999a : K (F a 9) = 6)
    (hj9999a : F (F a 9) 99 = 1)
    (hk9999b : K (F a 14) = 11)
    (hj9999b : F (F a 14) 99 = 0)
    (hk9999c : K (F a 10) = 6)
    (hj9999c : F (F a 10) 99 = 2)
    (hk9999d : K (F a 8) = 6)
    (hj9999d : F (F a 8) 99 = 0)
    (hk9999e : K (F (F a 11) 0) = 21)
    (hj9999e : F (F (F a 11) 0) 99 = 100)
    (hk9999f : K (F (F a 11) 1) = 21)
    (hj9999f : F (F (F a 11) 1) 99 = 101)
    (hk9999g : K (F (F a 11) 2) = 24)
    (hj9999g : F (F (F a 11) 2) 99 = 4)
    (hk9999h : K (F (F a 9) 0) = 22)
    (hj9999i : F (F (F a 9) 0) 99 = 10 * 1 + 0)
    (hk9999i : K (F (F a 9) 1) = 22)
    (hj9999k : F (F (F a 9) 1) 99 = 10 * 1 + 1)
    (hk9999j : K (F (F a 9) 2) = 22)
    (hj9999m : F (F (F a 9) 2) 99 = 10 * 1 + 2)
    (hk9999k : K (F (F a 9) 3) = 22)
    (hj9999o : F (F (F a 9) 3) 99 = 10 * 1 + 3)
    (hk9999l : K (F (F a 9) 4) = 23)
    (hj9999q : F (F (F a 9) 4) 99 = 10 * 1 + 4)
    (hk9999m : K (F (F a 9) 5) = 23)
    (hj9999s : F (F (F a 9) 5) 99 = 10 * 1 + 5)
    (hk9999n : K (F a 16) = 27)
    (hj9999t : F (F a 16) 99 = 0)
    (hk9999o : K (F a 15) = 26)
    (hj9999u : F (F a 15) 99 = 0)
    (hk9999p : K (F (F a 10) 0) = 22)
    (hj9999w : F (F (F a 10) 0) 99 = 10 * 2 + 0)
    (hk9999q : K (F (F a 10) 1) = 22)
    (hj9999z25 : F (F (F a 10) 1) 99 = 10 * 2 + 1)
    (hk9999r : K (F (F a 10) 2) = 22)
    (hj9999z27 : F (F (F a 10) 2) 99 = 10 * 2 + 2)
    (hk9999s : K (F (F a 10) 3) = 22)
    (hj9999z29 : F (F (F a 10) 3) 99 = 10 * 2 + 3)
    (hk9999t : K (F (F a 10) 4) = 23)
    (hj9999z31 : F (F (F a 10) 4) 99 = 10 * 2 + 4)
    (hk9999u : K (F (F a 10) 5) = 23)
    (hj9999z33 : F (F (F a 10) 5) 99 = 10 * 2 + 5)
    (hk9999v : K (F a 3) = 8)
    (hj9999z34 : F (F a 3) 99 = 0)
    (hk9999w : K (F (F a 3) 0) = 20)
    (hj9999z36 : F (F (F a 3) 0) 99 = 0)
    (hk9999y : K (F (F a 3) 1) = 21)
    (hj9999z38 : F (F (F a 3) 1) 99 = 0)
    (hk9999z25 : K (F (F a 8) 0) = 22)
    (hj9999z40 : F (F (F a 8) 0) 99 = 10 * 0 + 0)
    (hk9999z26 : K (F (F a 8) 1) = 22)
    (hj9999z42 : F (F (F a 8) 1) 99 = 10 * 0 + 1)
    (hk9999z27 : K (F (F a 8) 2) = 22)
    (hj9999z44 : F (F (F a 8) 2) 99 = 10 * 0 + 2)
    (hk9999z28 : K (F (F a 8) 3) = 22)
    (hj9999z46 : F (F (F a 8) 3) 99 = 10 * 0 + 3)
    (hk9999z29 : K (F (F a 8) 4) = 23)
    (hj9999z48 : F (F (F a 8) 4) 99 = 10 * 0 + 4)
    (hk9999z30 : K (F (F a 8) 5) = 23)
    (hj9999z50 : F (F (F a 8) 5) 99 = 10 * 0 + 5)
    (hk9999z31 : K (F a 2) = 2)
    (hj9999z51 : F (F a 2) 99 = 0)
    (hk9999z32 : K (F (F a 2) 1) = 15)
    (hj9999z52 : F (F (F a 2) 1) 99 = 1)
    (hk9999z33 : K (F (F a 2) 0) = 15)
    (hj9999z53 : F (F (F a 2) 0) 99 = 0)
    (hk9999z34 : K (F a 4) = 8)
    (hj9999z54 : F (F a 4) 99 = 1)
    (hk9999z35 : K (F (F a 4) 0) = 20)
    (hj9999z56 : F (F (F a 4) 0) 99 = 1)
    (hk9999z36 : K (F (F a 4) 1) = 21)
    (hj9999z58 : F (F (F a 4) 1) 99 = 1)
    (hk9999z37 : K (F a 5) = 8)
    (hj9999z59 : F (F a 5) 99 = 2)
    (hk9999z38 : K (F (F a 5) 0) = 20)
    (hj9999z61 : F (F (F a 5) 0) 99 = 2)
    (hk9999z39 : K (F (F a 5) 1) = 21)
    (hj9999z63 : F (F (F a 5) 1) 99 = 2)
    (hfr : XFr [(F a 11, 3), (F a 9, 6), (F a 14, 1), (F a 14, 2), (F a 14, 3), (F a 10, 6), (F a 8, 6)] [F (F a 11) 0, F (F a 11) 1, F (F a 11) 2, F (F a 9) 0, F (F a 9) 1, F (F a 9) 2, F (F a 9) 3, F (F a 9) 4, F (F a 9) 5, F a 16, F a 15, F (F a 10) 0, F (F a 10) 1, F (F a 10) 2, F (F a 10) 3, F (F a 10) 4, F (F a 10) 5, F (F a 3) 0, F (F a 3) 1, F (F a 8) 0, F (F a 8) 1, F (F a 8) 2, F (F a 8) 3, F (F a 8) 4, F (F a 8) 5] [] G G18)
    (hF14 : XFr [(F a 11, 3), (F a 9, 6)] [F (F a 11) 0, F (F a 11) 1, F (F a 11) 2, F (F a 9) 0, F (F a 9) 1, F (F a 9) 2, F (F a 9) 3, F (F a 9) 4, F (F a 9) 5] [] G G14)
    (hF18 : XFr [(F a 14, 1), (F a 14, 2), (F a 14, 3)] [F a 16] [] G14 G18)
    (ron : RO (vw (G.2.1 (F (F a 3) 0))) (aI (G.2.1 (F (F a 3) 1))))
    (rop : RO (vw (G.2.1 (F (F a 5) 0))) (aI (G.2.1 (F (F a 5) 1))))
    (rob : RO (vw (G.2.1 (F (F a 4) 0))) (aI (G.2.1 (F (F a 4) 1))))
    (bko : BKr K G (G.2.2.1 (F (F a 2) 1)))
    (bkn : BKr K G (G.2.2.1 (F (F a 2) 0)))
    (oq14 : qL G14 F (F a 9) = gaL G (G.2.2.1 (F (F a 2) 1)) (vw (G.2.1 (F (F a 3) 0))) (vw (G.2.1 (F (F a 5) 0))) (0 : Int) (((G.1 (F a 2) 2).toInt)).toNat)
    (oq18 : (x18.toInt = 1 ∧ ∀ x, x ∈ qL G14 F (F a 9) → x.2.2.2.2.1 = 0 → x.2.2.2.2.2 = 0) ∨ (x18.toInt = 0 ∧ ∃ x, x ∈ qL G14 F (F a 9) ∧ x.2.2.2.2.1 = 0 ∧ x.2.2.2.2.2 ≠ 0))
    (sb : 0 ≤ ((G.1 (F a 2) 2).toInt) ∧ ((G.1 (F a 2) 2).toInt) ≤ 12)
    (sw : 0 ≤ ((G.1 (F a 8) 6).toInt) ∧ ((G.1 (F a 8) 6).toInt) ≤ 1080)
    (t14 : 0 ≤ ((G14.1 (F a 9) 6).toInt) ∧ ((G14.1 (F a 9) 6).toInt) ≤ 1080)
    (c21 : x18.toInt ≠ 0)
    (f95 : ((G.1 a 18).toInt) = 0 ∨ ((G.1 a 18).toInt) = 1)
    (c35 : ((G.1 a 18).toInt) ≠ 0)
    (c_G18_F_F_a_10_0 : G18.2.1 (F (F a 10) 0) = G.2.1 (F (F a 10) 0))
    (c_G18_F_F_a_10_1 : G18.2.1 (F (F a 10) 1) = G.2.1 (F (F a 10) 1))
    (c_G18_F_F_a_10_2 : G18.2.1 (F (F a 10) 2) = G.2.1 (F (F a 10) 2))
    (c_G18_F_F_a_10_3 : G18.2.1 (F (F a 10) 3) = G.2.1 (F (F a 10) 3))
    (c_G18_F_F_a_10_4 : G18.2.1 (F (F a 10) 4) = G.2.1 (F (F a 10) 4))
    (c_G18_F_F_a_10_5 : G18.2.1 (F (F a 10) 5) = G.2.1 (F (F a 10) 5))
    (c_G18_F_F_a_11_0 : G18.2.1 (F (F a 11) 0) = G14.2.1 (F (F a 11) 0))
    (c_G18_F_F_a_11_1 : G18.2.1 (F (F a 11) 1) = G14.2.1 (F (F a 11) 1))
    (c_G18_F_F_a_11_2 : G18.2.1 (F (F a 11) 2) = G14.2.1 (F (F a 11) 2))
    (c_G18_F_F_a_3_0 : G18.2.1 (F (F a 3) 0) = G.2.1 (F (F a 3) 0))
    (c_G18_F_F_a_3_1 : G18.2.1 (F (F a 3) 1) = G.2.1 (F (F a 3) 1))
    (c_G18_F_F_a_8_0 : G18.2.1 (F (F a 8) 0) = G.2.1 (F (F a 8) 0))
    (c_G18_F_F_a_8_1 : G18.2.1 (F (F a 8) 1) = G.2.1 (F (F a 8) 1))
    (c_G18_F_F_a_8_2 : G18.2.1 (F (F a 8) 2) = G.2.1 (F (F a 8) 2))
    (c_G18_F_F_a_8_3 : G18.2.1 (F (F a 8) 3) = G.2.1 (F (F a 8) 3))
    (c_G18_F_F_a_8_4 : G18.2.1 (F (F a 8) 4) = G.2.1 (F (F a 8) 4))
    (c_G18_F_F_a_8_5 : G18.2.1 (F (F a 8) 5) = G.2.1 (F (F a 8) 5))
    (c_G18_F_F_a_9_0 : G18.2.1 (F (F a 9) 0) = G14.2.1 (F (F a 9) 0))
    (c_G18_F_F_a_9_1 : G18.2.1 (F (F a 9) 1) = G14.2.1 (F (F a 9) 1))
    (c_G18_F_F_a_9_2 : G18.2.1 (F (F a 9) 2) = G14.2.1 (F (F a 9) 2))
    (c_G18_F_F_a_9_3 : G18.2.1 (F (F a 9) 3) = G14.2.1 (F (F a 9) 3))
    (c_G18_F_F_a_9_4 : G18.2.1 (F (F a 9) 4) = G14.2.1 (F (F a 9) 4))
    (c_G18_F_F_a_9_5 : G18.2.1 (F (F a 9) 5) = G14.2.1 (F (F a 9) 5))
    (c_G18_F_a_15 : G18.2.1 (F a 15) = G.2.1 (F a 15))
    (r_G18_F_F_a_2_0 : G18.2.2.1 (F (F a 2) 0) = G.2.2.1 (F (F a 2) 0))
    (d_G18_F_a_10_6 : G18.1 (F a 10) 6 = G.1 (F a 10) 6)
    (d_G18_F_a_11_3 : G18.1 (F a 11) 3 = G14.1 (F a 11) 3)
    (d_G18_F_a_8_6 : G18.1 (F a 8) 6 = G.1 (F a 8) 6)
    (d_G18_F_a_9_6 : G18.1 (F a 9) 6 = G14.1 (F a 9) 6) :
    BKr K G18 (G18.2.2.1 (F (F a 2) 0)) := by
  have hd : ∀ p, p ∈ [(F a 11, 3), (F a 9, 6), (F a 14, 1), (F a 14, 2), (F a 14, 3), (F a 10, 6), (F a 8, 6)] → K p.1 ≠ 9 := (List.forall_mem_cons.mpr ⟨(show K (F a 11) ≠ 9 by omega), List.forall_mem_cons.mpr ⟨(show K (F a 9) ≠ 9 by omega), List.forall_mem_cons.mpr ⟨(show K (F a 14) ≠ 9 by omega), List.forall_mem_cons.mpr ⟨(show K (F a 14) ≠ 9 by omega), List.forall_mem_cons.mpr ⟨(show K (F a 14) ≠ 9 by omega), List.forall_mem_cons.mpr ⟨(show K (F a 10) ≠ 9 by omega), List.forall_mem_cons.mpr ⟨(show K (F a 8) ≠ 9 by omega), fun _ h => by cases h⟩⟩⟩⟩⟩⟩⟩)
  rw [show G18.2.2.1 (F (F a 2) 0) = G.2.2.1 (F (F a 2) 0) by assumption]
  exact bkn.fr hfr hd
theorem v_X10_actAsOnPaper_94_8 {F : Nat → Nat → Nat} (a : Nat) (G : XG) (G85 : XG)
    (ron : RO (vw (G.2.1 (F (F a 3) 0))) (aI (G.2.1 (F (F a 3) 1))))
    (rop : RO (vw (G.2.1 (F (F a 5) 0))) (aI (G.2.1 (F (F a 5) 1))))
    (rob : RO (vw (G.2.1 (F (F a 4) 0))) (aI (G.2.1 (F (F a 4) 1))))
    (c_G85_F_F_a_5_0 : G85.2.1 (F (F a 5) 0) = G.2.1 (F (F a 5) 0))
    (c_G85_F_F_a_5_1 : G85.2.1 (F (F a 5) 1) = G.2.1 (F (F a 5) 1)) :
    RO (vw (G85.2.1 (F (F a 5) 0))) (aI (G85.2.1 (F (F a 5) 1))) := by simp only [c_G85_F_F_a_5_0, c_G85_F_F_a_5_1]; assumption
theorem v_X10_actAsOnPaper_111_9 {F : Nat → Nat → Nat} (a : Nat) (G : XG) (G94 : XG)
    (ron : RO (vw (G.2.1 (F (F a 3) 0))) (aI (G.2.1 (F (F a 3) 1))))
    (rop : RO (vw (G.2.1 (F (F a 5) 0))) (aI (G.2.1 (F (F a 5) 1))))
    (rob : RO (vw (G.2.1 (F (F a 4) 0))) (aI (G.2.1 (F (F a 4) 1))))
    (oq94a : RO (vw (G94.2.1 (F (F a 3) 0))) (aI (G94.2.1 (F (F a 3) 1))))
    (c_G94_F_F_a_4_0 : G94.2.1 (F (F a 4) 0) = G.2.1 (F (F a 4) 0))
    (c_G94_F_F_a_4_1 : G94.2.1 (F (F a 4) 1) = G.2.1 (F (F a 4) 1)) :
    RO (vw (G94.2.1 (F (F a 4) 0))) (aI (G94.2.1 (F (F a 4) 1))) := by simp only [c_G94_F_F_a_4_0, c_G94_F_F_a_4_1]; assumption
theorem v_X10_actAsOnPaper_111_10 {F : Nat → Nat → Nat} (a : Nat) (G94 : XG)
    (oq94a : RO (vw (G94.2.1 (F (F a 3) 0))) (aI (G94.2.1 (F (F a 3) 1)))) :
    RO (vw (G94.2.1 (F (F a 3) 0))) (aI (G94.2.1 (F (F a 3) 1))) := by exact oq94a
theorem v_X10_actAsOnPaper_111_11 {K : Nat → Nat} {F : Nat → Nat → Nat} (a : Nat) (G : XG) (G94 : XG) (G14 : XG) (G18 : XG) (G73 : XG) (G85 : XG) (x84 : Int32) (x18 : Int32) (x82 : Int32)
    (ha : K a = 12)
    (hk9999 : K (F a 11) = 3)
    (hj9999 : F (F a 11) 99 = 0)
    (hk9999a : K (F a 9) = 6)
    (hj9999a : F (F a 9) 99 = 1)
    (hk9999b : K (F a 14) = 11)
    (hj9999b : F (F a 14) 99 = 0)
    (hk9999c : K (F a 10) = 6)
    (hj9999c : F (F a 10) 99 = 2)
    (hk9999d : K (F a 8) = 6)
    (hj9999d : F (F a 8) 99 = 0)
    (hk9999e : K (F (F a 11) 0) = 21)
    (hj9999e : F (F (F a 11) 0) 99 = 100)
    (hk9999f : K (F (F a 11) 1) = 21)
    (hj9999f : F (F (F a 11) 1) 99 = 101)
    (hk9999g : K (F (F a 11) 2) = 24)
    (hj9999g : F (F (F a 11) 2) 99 = 4)
    (hk9999h : K (F (F a 9) 0) = 22)
    (hj9999i : F (F (F a 9) 0) 99 = 10 * 1 + 0)
    (hk9999i : K (F (F a 9) 1) = 22)
    (hj9999k : F (F (F a 9) 1) 99 = 10 * 1 + 1)
    (hk9999j : K (F (F a 9) 2) = 22)
    (hj9999m : F (F (F a 9) 2) 99 = 10 * 1 + 2)
    (hk9999k : K (F (F a 9) 3) = 22)
    (hj9999o : F (F (F a 9) 3) 99 = 10 * 1 + 3)
    (hk9999l : K (F (F a 9) 4) = 23)
    (hj9999q : F (F (F a 9) 4) 99 = 10 * 1 + 4)
    (hk9999m : K (F (F a 9) 5) = 23)
    (hj9999s : F (F (F a 9) 5) 99 = 10 * 1 + 5)
    (hk9999n : K (F a 16) = 27)
    (hj9999t : F (F a 16) 99 = 0)
    (hk9999o : K (F a 15) = 26)
    (hj9999u : F (F a 15) 99 = 0)
    (hk9999p : K (F (F a 10) 0) = 22)
    (hj9999w : F (F (F a 10) 0) 99 = 10 * 2 + 0)
    (hk9999q : K (F (F a 10) 1) = 22)
    (hj9999z25 : F (F (F a 10) 1) 99 = 10 * 2 + 1)
    (hk9999r : K (F (F a 10) 2) = 22)
    (hj9999z27 : F (F (F a 10) 2) 99 = 10 * 2 + 2)
    (hk9999s : K (F (F a 10) 3) = 22)
    (hj9999z29 : F (F (F a 10) 3) 99 = 10 * 2 + 3)
    (hk9999t : K (F (F a 10) 4) = 23)
    (hj9999z31 : F (F (F a 10) 4) 99 = 10 * 2 + 4)
    (hk9999u : K (F (F a 10) 5) = 23)
    (hj9999z33 : F (F (F a 10) 5) 99 = 10 * 2 + 5)
    (hk9999v : K (F a 3) = 8)
    (hj9999z34 : F (F a 3) 99 = 0)
    (hk9999w : K (F (F a 3) 0) = 20)
    (hj9999z36 : F (F (F a 3) 0) 99 = 0)
    (hk9999y : K (F (F a 3) 1) = 21)
    (hj9999z38 : F (F (F a 3) 1) 99 = 0)
    (hk9999z25 : K (F (F a 8) 0) = 22)
    (hj9999z40 : F (F (F a 8) 0) 99 = 10 * 0 + 0)
    (hk9999z26 : K (F (F a 8) 1) = 22)
    (hj9999z42 : F (F (F a 8) 1) 99 = 10 * 0 + 1)
    (hk9999z27 : K (F (F a 8) 2) = 22)
    (hj9999z44 : F (F (F a 8) 2) 99 = 10 * 0 + 2)
    (hk9999z28 : K (F (F a 8) 3) = 22)
    (hj9999z46 : F (F (F a 8) 3) 99 = 10 * 0 + 3)
    (hk9999z29 : K (F (F a 8) 4) = 23)
    (hj9999z48 : F (F (F a 8) 4) 99 = 10 * 0 + 4)
    (hk9999z30 : K (F (F a 8) 5) = 23)
    (hj9999z50 : F (F (F a 8) 5) 99 = 10 * 0 + 5)
    (hk9999z31 : K (F a 2) = 2)
    (hj9999z51 : F (F a 2) 99 = 0)
    (hk9999z32 : K (F (F a 2) 1) = 15)
    (hj9999z52 : F (F (F a 2) 1) 99 = 1)
    (hk9999z33 : K (F (F a 2) 0) = 15)
    (hj9999z53 : F (F (F a 2) 0) 99 = 0)
    (hk9999z34 : K (F a 4) = 8)
    (hj9999z54 : F (F a 4) 99 = 1)
    (hk9999z35 : K (F (F a 4) 0) = 20)
    (hj9999z56 : F (F (F a 4) 0) 99 = 1)
    (hk9999z36 : K (F (F a 4) 1) = 21)
    (hj9999z58 : F (F (F a 4) 1) 99 = 1)
    (hk9999z37 : K (F a 5) = 8)
    (hj9999z59 : F (F a 5) 99 = 2)
    (hk9999z38 : K (F (F a 5) 0) = 20)
    (hj9999z61 : F (F (F a 5) 0) 99 = 2)
    (hk9999z39 : K (F (F a 5) 1) = 21)
    (hj9999z63 : F (F (F a 5) 1) 99 = 2)
    (hfr : XFr [(F a 11, 3), (F a 9, 6), (F a 14, 1), (F a 14, 2), (F a 14, 3), (F a 10, 6), (F a 8, 6)] [F (F a 11) 0, F (F a 11) 1, F (F a 11) 2, F (F a 9) 0, F (F a 9) 1, F (F a 9) 2, F (F a 9) 3, F (F a 9) 4, F (F a 9) 5, F a 16, F a 15, F (F a 10) 0, F (F a 10) 1, F (F a 10) 2, F (F a 10) 3, F (F a 10) 4, F (F a 10) 5, F (F a 3) 0, F (F a 3) 1, F (F a 8) 0, F (F a 8) 1, F (F a 8) 2, F (F a 8) 3, F (F a 8) 4, F (F a 8) 5] [] G G94)
    (hF14 : XFr [(F a 11, 3), (F a 9, 6)] [F (F a 11) 0, F (F a 11) 1, F (F a 11) 2, F (F a 9) 0, F (F a 9) 1, F (F a 9) 2, F (F a 9) 3, F (F a 9) 4, F (F a 9) 5] [] G G14)
    (hF18 : XFr [(F a 14, 1), (F a 14, 2), (F a 14, 3)] [F a 16] [] G14 G18)
    (hF73 : XFr [] [F a 15] [] G18 G73)
    (hG85 : G85 = cput G73 (F a 15) (4 : Int32).toNatClampNeg x84)
    (hF94 : XFr [] [F (F a 3) 0, F (F a 3) 1] [] G85 G94)
    (ron : RO (vw (G.2.1 (F (F a 3) 0))) (aI (G.2.1 (F (F a 3) 1))))
    (rop : RO (vw (G.2.1 (F (F a 5) 0))) (aI (G.2.1 (F (F a 5) 1))))
    (rob : RO (vw (G.2.1 (F (F a 4) 0))) (aI (G.2.1 (F (F a 4) 1))))
    (bko : BKr K G (G.2.2.1 (F (F a 2) 1)))
    (bkn : BKr K G (G.2.2.1 (F (F a 2) 0)))
    (oq14 : qL G14 F (F a 9) = gaL G (G.2.2.1 (F (F a 2) 1)) (vw (G.2.1 (F (F a 3) 0))) (vw (G.2.1 (F (F a 5) 0))) (0 : Int) (((G.1 (F a 2) 2).toInt)).toNat)
    (oq18 : (x18.toInt = 1 ∧ ∀ x, x ∈ qL G14 F (F a 9) → x.2.2.2.2.1 = 0 → x.2.2.2.2.2 = 0) ∨ (x18.toInt = 0 ∧ ∃ x, x ∈ qL G14 F (F a 9) ∧ x.2.2.2.2.1 = 0 ∧ x.2.2.2.2.2 ≠ 0))
    (hv82 : x82.toInt = (aI (G73.2.1 (F a 15)) 4))
    (oq94 : (vw (G94.2.1 (F (F a 3) 0))) = (vw (G.2.1 (F (F a 5) 0))))
    (oq94a : RO (vw (G94.2.1 (F (F a 3) 0))) (aI (G94.2.1 (F (F a 3) 1))))
    (sb : 0 ≤ ((G.1 (F a 2) 2).toInt) ∧ ((G.1 (F a 2) 2).toInt) ≤ 12)
    (sw : 0 ≤ ((G.1 (F a 8) 6).toInt) ∧ ((G.1 (F a 8) 6).toInt) ≤ 1080)
    (t14 : 0 ≤ ((G14.1 (F a 9) 6).toInt) ∧ ((G14.1 (F a 9) 6).toInt) ≤ 1080)
    (c21 : x18.toInt ≠ 0)
    (f101 : ((G.1 a 18).toInt) = 0 ∨ ((G.1 a 18).toInt) = 1)
    (c35 : ((G.1 a 18).toInt) ≠ 0)
    (t84 : x84.toInt = (aI (G73.2.1 (F a 15)) 4) + (1 : Int) ∨ (aI (G73.2.1 (F a 15)) 4) + (1 : Int) < -2147483648 ∨ 2147483648 ≤ (aI (G73.2.1 (F a 15)) 4) + (1 : Int))
    (c_G18_F_F_a_9_0 : G18.2.1 (F (F a 9) 0) = G14.2.1 (F (F a 9) 0))
    (c_G18_F_F_a_9_1 : G18.2.1 (F (F a 9) 1) = G14.2.1 (F (F a 9) 1))
    (c_G18_F_F_a_9_2 : G18.2.1 (F (F a 9) 2) = G14.2.1 (F (F a 9) 2))
    (c_G18_F_F_a_9_3 : G18.2.1 (F (F a 9) 3) = G14.2.1 (F (F a 9) 3))
    (c_G18_F_F_a_9_4 : G18.2.1 (F (F a 9) 4) = G14.2.1 (F (F a 9) 4))
    (c_G18_F_F_a_9_5 : G18.2.1 (F (F a 9) 5) = G14.2.1 (F (F a 9) 5))
    (c_G94_F_F_a_10_0 : G94.2.1 (F (F a 10) 0) = G.2.1 (F (F a 10) 0))
    (c_G94_F_F_a_10_1 : G94.2.1 (F (F a 10) 1) = G.2.1 (F (F a 10) 1))
    (c_G94_F_F_a_10_2 : G94.2.1 (F (F a 10) 2) = G.2.1 (F (F a 10) 2))
    (c_G94_F_F_a_10_3 : G94.2.1 (F (F a 10) 3) = G.2.1 (F (F a 10) 3))
    (c_G94_F_F_a_10_4 : G94.2.1 (F (F a 10) 4) = G.2.1 (F (F a 10) 4))
    (c_G94_F_F_a_10_5 : G94.2.1 (F (F a 10) 5) = G.2.1 (F (F a 10) 5))
    (c_G94_F_F_a_11_0 : G94.2.1 (F (F a 11) 0) = G14.2.1 (F (F a 11) 0))
    (c_G94_F_F_a_11_1 : G94.2.1 (F (F a 11) 1) = G14.2.1 (F (F a 11) 1))
    (c_G94_F_F_a_11_2 : G94.2.1 (F (F a 11) 2) = G14.2.1 (F (F a 11) 2))
    (c_G94_F_F_a_8_0 : G94.2.1 (F (F a 8) 0) = G.2.1 (F (F a 8) 0))
    (c_G94_F_F_a_8_1 : G94.2.1 (F (F a 8) 1) = G.2.1 (F (F a 8) 1))
    (c_G94_F_F_a_8_2 : G94.2.1 (F (F a 8) 2) = G.2.1 (F (F a 8) 2))
    (c_G94_F_F_a_8_3 : G94.2.1 (F (F a 8) 3) = G.2.1 (F (F a 8) 3))
    (c_G94_F_F_a_8_4 : G94.2.1 (F (F a 8) 4) = G.2.1 (F (F a 8) 4))
    (c_G94_F_F_a_8_5 : G94.2.1 (F (F a 8) 5) = G.2.1 (F (F a 8) 5))
    (c_G94_F_F_a_9_0 : G94.2.1 (F (F a 9) 0) = G14.2.1 (F (F a 9) 0))
    (c_G94_F_F_a_9_1 : G94.2.1 (F (F a 9) 1) = G14.2.1 (F (F a 9) 1))
    (c_G94_F_F_a_9_2 : G94.2.1 (F (F a 9) 2) = G14.2.1 (F (F a 9) 2))
    (c_G94_F_F_a_9_3 : G94.2.1 (F (F a 9) 3) = G14.2.1 (F (F a 9) 3))
    (c_G94_F_F_a_9_4 : G94.2.1 (F (F a 9) 4) = G14.2.1 (F (F a 9) 4))
    (c_G94_F_F_a_9_5 : G94.2.1 (F (F a 9) 5) = G14.2.1 (F (F a 9) 5))
    (c_G94_F_a_15 : G94.2.1 (F a 15) = G85.2.1 (F a 15))
    (c_G94_F_a_16 : G94.2.1 (F a 16) = G18.2.1 (F a 16))
    (r_G94_F_F_a_2_1 : G94.2.2.1 (F (F a 2) 1) = G.2.2.1 (F (F a 2) 1))
    (d_G18_F_a_9_6 : G18.1 (F a 9) 6 = G14.1 (F a 9) 6)
    (d_G94_F_a_10_6 : G94.1 (F a 10) 6 = G.1 (F a 10) 6)
    (d_G94_F_a_11_3 : G94.1 (F a 11) 3 = G14.1 (F a 11) 3)
    (d_G94_F_a_14_1 : G94.1 (F a 14) 1 = G18.1 (F a 14) 1)
    (d_G94_F_a_14_2 : G94.1 (F a 14) 2 = G18.1 (F a 14) 2)
    (d_G94_F_a_14_3 : G94.1 (F a 14) 3 = G18.1 (F a 14) 3)
    (d_G94_F_a_8_6 : G94.1 (F a 8) 6 = G.1 (F a 8) 6)
    (d_G94_F_a_9_6 : G94.1 (F a 9) 6 = G14.1 (F a 9) 6) :
    ∀ (i q : Nat), i < 12 → G94.2.2.1 (F (F a 2) 1) i = some q → RW (G94.1 q) := by
  first
    | exact bko.rw
    | (have hd : ∀ p, p ∈ [(F a 11, 3), (F a 9, 6), (F a 14, 1), (F a 14, 2), (F a 14, 3), (F a 10, 6), (F a 8, 6)] → K p.1 ≠ 9 := (List.forall_mem_cons.mpr ⟨(show K (F a 11) ≠ 9 by omega), List.forall_mem_cons.mpr ⟨(show K (F a 9) ≠ 9 by omega), List.forall_mem_cons.mpr ⟨(show K (F a 14) ≠ 9 by omega), List.forall_mem_cons.mpr ⟨(show K (F a 14) ≠ 9 by omega), List.forall_mem_cons.mpr ⟨(show K (F a 14) ≠ 9 by omega), List.forall_mem_cons.mpr ⟨(show K (F a 10) ≠ 9 by omega), List.forall_mem_cons.mpr ⟨(show K (F a 8) ≠ 9 by omega), fun _ h => by cases h⟩⟩⟩⟩⟩⟩⟩)
       have h9 := (bko.fr hfr hd).rw
       rw [show G94.2.2.1 (F (F a 2) 1) = G.2.2.1 (F (F a 2) 1) by assumption]
       exact h9)
theorem v_X10_actAsOnPaper_111_12 {K : Nat → Nat} {F : Nat → Nat → Nat} (a : Nat) (G : XG) (G94 : XG) (G14 : XG) (G18 : XG) (G73 : XG) (G85 : XG) (x84 : Int32) (x18 : Int32) (x82 : Int32)
    (ha : K a = 12)
    (hk9999 : K (F a 11) = 3)
    (hj9999 : F (F a 11) 99 = 0)
    (hk9999a : K (F a 9) = 6)
    (hj9999a : F (F a 9) 99 = 1)
    (hk9999b : K (F a 14) = 11)
    (hj9999b : F (F a 14) 99 = 0)
    (hk9999c : K (F a 10) = 6)
    (hj9999c : F (F a 10) 99 = 2)
    (hk9999d : K (F a 8) = 6)
    (hj9999d : F (F a 8) 99 = 0)
    (hk9999e : K (F (F a 11) 0) = 21)
    (hj9999e : F (F (F a 11) 0) 99 = 100)
    (hk9999f : K (F (F a 11) 1) = 21)
    (hj9999f : F (F (F a 11) 1) 99 = 101)
    (hk9999g : K (F (F a 11) 2) = 24)
    (hj9999g : F (F (F a 11) 2) 99 = 4)
    (hk9999h : K (F (F a 9) 0) = 22)
    (hj9999i : F (F (F a 9) 0) 99 = 10 * 1 + 0)
    (hk9999i : K (F (F a 9) 1) = 22)
    (hj9999k : F (F (F a 9) 1) 99 = 10 * 1 + 1)
    (hk9999j : K (F (F a 9) 2) = 22)
    (hj9999m : F (F (F a 9) 2) 99 = 10 * 1 + 2)
    (hk9999k : K (F (F a 9) 3) = 22)
    (hj9999o : F (F (F a 9) 3) 99 = 10 * 1 + 3)
    (hk9999l : K (F (F a 9) 4) = 23)
    (hj9999q : F (F (F a 9) 4) 99 = 10 * 1 + 4)
    (hk9999m : K (F (F a 9) 5) = 23)
    (hj9999s : F (F (F a 9) 5) 99 = 10 * 1 + 5)
    (hk9999n : K (F a 16) = 27)
    (hj9999t : F (F a 16) 99 = 0)
    (hk9999o : K (F a 15) = 26)
    (hj9999u : F (F a 15) 99 = 0)
    (hk9999p : K (F (F a 10) 0) = 22)
    (hj9999w : F (F (F a 10) 0) 99 = 10 * 2 + 0)
    (hk9999q : K (F (F a 10) 1) = 22)
    (hj9999z25 : F (F (F a 10) 1) 99 = 10 * 2 + 1)
    (hk9999r : K (F (F a 10) 2) = 22)
    (hj9999z27 : F (F (F a 10) 2) 99 = 10 * 2 + 2)
    (hk9999s : K (F (F a 10) 3) = 22)
    (hj9999z29 : F (F (F a 10) 3) 99 = 10 * 2 + 3)
    (hk9999t : K (F (F a 10) 4) = 23)
    (hj9999z31 : F (F (F a 10) 4) 99 = 10 * 2 + 4)
    (hk9999u : K (F (F a 10) 5) = 23)
    (hj9999z33 : F (F (F a 10) 5) 99 = 10 * 2 + 5)
    (hk9999v : K (F a 3) = 8)
    (hj9999z34 : F (F a 3) 99 = 0)
    (hk9999w : K (F (F a 3) 0) = 20)
    (hj9999z36 : F (F (F a 3) 0) 99 = 0)
    (hk9999y : K (F (F a 3) 1) = 21)
    (hj9999z38 : F (F (F a 3) 1) 99 = 0)
    (hk9999z25 : K (F (F a 8) 0) = 22)
    (hj9999z40 : F (F (F a 8) 0) 99 = 10 * 0 + 0)
    (hk9999z26 : K (F (F a 8) 1) = 22)
    (hj9999z42 : F (F (F a 8) 1) 99 = 10 * 0 + 1)
    (hk9999z27 : K (F (F a 8) 2) = 22)
    (hj9999z44 : F (F (F a 8) 2) 99 = 10 * 0 + 2)
    (hk9999z28 : K (F (F a 8) 3) = 22)
    (hj9999z46 : F (F (F a 8) 3) 99 = 10 * 0 + 3)
    (hk9999z29 : K (F (F a 8) 4) = 23)
    (hj9999z48 : F (F (F a 8) 4) 99 = 10 * 0 + 4)
    (hk9999z30 : K (F (F a 8) 5) = 23)
    (hj9999z50 : F (F (F a 8) 5) 99 = 10 * 0 + 5)
    (hk9999z31 : K (F a 2) = 2)
    (hj9999z51 : F (F a 2) 99 = 0)
    (hk9999z32 : K (F (F a 2) 1) = 15)
    (hj9999z52 : F (F (F a 2) 1) 99 = 1)
    (hk9999z33 : K (F (F a 2) 0) = 15)
    (hj9999z53 : F (F (F a 2) 0) 99 = 0)
    (hk9999z34 : K (F a 4) = 8)
    (hj9999z54 : F (F a 4) 99 = 1)
    (hk9999z35 : K (F (F a 4) 0) = 20)
    (hj9999z56 : F (F (F a 4) 0) 99 = 1)
    (hk9999z36 : K (F (F a 4) 1) = 21)
    (hj9999z58 : F (F (F a 4) 1) 99 = 1)
    (hk9999z37 : K (F a 5) = 8)
    (hj9999z59 : F (F a 5) 99 = 2)
    (hk9999z38 : K (F (F a 5) 0) = 20)
    (hj9999z61 : F (F (F a 5) 0) 99 = 2)
    (hk9999z39 : K (F (F a 5) 1) = 21)
    (hj9999z63 : F (F (F a 5) 1) 99 = 2)
    (hfr : XFr [(F a 11, 3), (F a 9, 6), (F a 14, 1), (F a 14, 2), (F a 14, 3), (F a 10, 6), (F a 8, 6)] [F (F a 11) 0, F (F a 11) 1, F (F a 11) 2, F (F a 9) 0, F (F a 9) 1, F (F a 9) 2, F (F a 9) 3, F (F a 9) 4, F (F a 9) 5, F a 16, F a 15, F (F a 10) 0, F (F a 10) 1, F (F a 10) 2, F (F a 10) 3, F (F a 10) 4, F (F a 10) 5, F (F a 3) 0, F (F a 3) 1, F (F a 8) 0, F (F a 8) 1, F (F a 8) 2, F (F a 8) 3, F (F a 8) 4, F (F a 8) 5] [] G G94)
    (hF14 : XFr [(F a 11, 3), (F a 9, 6)] [F (F a 11) 0, F (F a 11) 1, F (F a 11) 2, F (F a 9) 0, F (F a 9) 1, F (F a 9) 2, F (F a 9) 3, F (F a 9) 4, F (F a 9) 5] [] G G14)
    (hF18 : XFr [(F a 14, 1), (F a 14, 2), (F a 14, 3)] [F a 16] [] G14 G18)
    (hF73 : XFr [] [F a 15] [] G18 G73)
    (hG85 : G85 = cput G73 (F a 15) (4 : Int32).toNatClampNeg x84)
    (hF94 : XFr [] [F (F a 3) 0, F (F a 3) 1] [] G85 G94)
    (ron : RO (vw (G.2.1 (F (F a 3) 0))) (aI (G.2.1 (F (F a 3) 1))))
    (rop : RO (vw (G.2.1 (F (F a 5) 0))) (aI (G.2.1 (F (F a 5) 1))))
    (rob : RO (vw (G.2.1 (F (F a 4) 0))) (aI (G.2.1 (F (F a 4) 1))))
    (bko : BKr K G (G.2.2.1 (F (F a 2) 1)))
    (bkn : BKr K G (G.2.2.1 (F (F a 2) 0)))
    (oq14 : qL G14 F (F a 9) = gaL G (G.2.2.1 (F (F a 2) 1)) (vw (G.2.1 (F (F a 3) 0))) (vw (G.2.1 (F (F a 5) 0))) (0 : Int) (((G.1 (F a 2) 2).toInt)).toNat)
    (oq18 : (x18.toInt = 1 ∧ ∀ x, x ∈ qL G14 F (F a 9) → x.2.2.2.2.1 = 0 → x.2.2.2.2.2 = 0) ∨ (x18.toInt = 0 ∧ ∃ x, x ∈ qL G14 F (F a 9) ∧ x.2.2.2.2.1 = 0 ∧ x.2.2.2.2.2 ≠ 0))
    (hv82 : x82.toInt = (aI (G73.2.1 (F a 15)) 4))
    (oq94 : (vw (G94.2.1 (F (F a 3) 0))) = (vw (G.2.1 (F (F a 5) 0))))
    (oq94a : RO (vw (G94.2.1 (F (F a 3) 0))) (aI (G94.2.1 (F (F a 3) 1))))
    (sb : 0 ≤ ((G.1 (F a 2) 2).toInt) ∧ ((G.1 (F a 2) 2).toInt) ≤ 12)
    (sw : 0 ≤ ((G.1 (F a 8) 6).toInt) ∧ ((G.1 (F a 8) 6).toInt) ≤ 1080)
    (t14 : 0 ≤ ((G14.1 (F a 9) 6).toInt) ∧ ((G14.1 (F a 9) 6).toInt) ≤ 1080)
    (c21 : x18.toInt ≠ 0)
    (f101 : ((G.1 a 18).toInt) = 0 ∨ ((G.1 a 18).toInt) = 1)
    (c35 : ((G.1 a 18).toInt) ≠ 0)
    (t84 : x84.toInt = (aI (G73.2.1 (F a 15)) 4) + (1 : Int) ∨ (aI (G73.2.1 (F a 15)) 4) + (1 : Int) < -2147483648 ∨ 2147483648 ≤ (aI (G73.2.1 (F a 15)) 4) + (1 : Int))
    (c_G18_F_F_a_9_0 : G18.2.1 (F (F a 9) 0) = G14.2.1 (F (F a 9) 0))
    (c_G18_F_F_a_9_1 : G18.2.1 (F (F a 9) 1) = G14.2.1 (F (F a 9) 1))
    (c_G18_F_F_a_9_2 : G18.2.1 (F (F a 9) 2) = G14.2.1 (F (F a 9) 2))
    (c_G18_F_F_a_9_3 : G18.2.1 (F (F a 9) 3) = G14.2.1 (F (F a 9) 3))
    (c_G18_F_F_a_9_4 : G18.2.1 (F (F a 9) 4) = G14.2.1 (F (F a 9) 4))
    (c_G18_F_F_a_9_5 : G18.2.1 (F (F a 9) 5) = G14.2.1 (F (F a 9) 5))
    (c_G94_F_F_a_10_0 : G94.2.1 (F (F a 10) 0) = G.2.1 (F (F a 10) 0))
    (c_G94_F_F_a_10_1 : G94.2.1 (F (F a 10) 1) = G.2.1 (F (F a 10) 1))
    (c_G94_F_F_a_10_2 : G94.2.1 (F (F a 10) 2) = G.2.1 (F (F a 10) 2))
    (c_G94_F_F_a_10_3 : G94.2.1 (F (F a 10) 3) = G.2.1 (F (F a 10) 3))
    (c_G94_F_F_a_10_4 : G94.2.1 (F (F a 10) 4) = G.2.1 (F (F a 10) 4))
    (c_G94_F_F_a_10_5 : G94.2.1 (F (F a 10) 5) = G.2.1 (F (F a 10) 5))
    (c_G94_F_F_a_11_0 : G94.2.1 (F (F a 11) 0) = G14.2.1 (F (F a 11) 0))
    (c_G94_F_F_a_11_1 : G94.2.1 (F (F a 11) 1) = G14.2.1 (F (F a 11) 1))
    (c_G94_F_F_a_11_2 : G94.2.1 (F (F a 11) 2) = G14.2.1 (F (F a 11) 2))
    (c_G94_F_F_a_8_0 : G94.2.1 (F (F a 8) 0) = G.2.1 (F (F a 8) 0))
    (c_G94_F_F_a_8_1 : G94.2.1 (F (F a 8) 1) = G.2.1 (F (F a 8) 1))
    (c_G94_F_F_a_8_2 : G94.2.1 (F (F a 8) 2) = G.2.1 (F (F a 8) 2))
    (c_G94_F_F_a_8_3 : G94.2.1 (F (F a 8) 3) = G.2.1 (F (F a 8) 3))
    (c_G94_F_F_a_8_4 : G94.2.1 (F (F a 8) 4) = G.2.1 (F (F a 8) 4))
    (c_G94_F_F_a_8_5 : G94.2.1 (F (F a 8) 5) = G.2.1 (F (F a 8) 5))
    (c_G94_F_F_a_9_0 : G94.2.1 (F (F a 9) 0) = G14.2.1 (F (F a 9) 0))
    (c_G94_F_F_a_9_1 : G94.2.1 (F (F a 9) 1) = G14.2.1 (F (F a 9) 1))
    (c_G94_F_F_a_9_2 : G94.2.1 (F (F a 9) 2) = G14.2.1 (F (F a 9) 2))
    (c_G94_F_F_a_9_3 : G94.2.1 (F (F a 9) 3) = G14.2.1 (F (F a 9) 3))
    (c_G94_F_F_a_9_4 : G94.2.1 (F (F a 9) 4) = G14.2.1 (F (F a 9) 4))
    (c_G94_F_F_a_9_5 : G94.2.1 (F (F a 9) 5) = G14.2.1 (F (F a 9) 5))
    (c_G94_F_a_15 : G94.2.1 (F a 15) = G85.2.1 (F a 15))
    (c_G94_F_a_16 : G94.2.1 (F a 16) = G18.2.1 (F a 16))
    (d_G18_F_a_9_6 : G18.1 (F a 9) 6 = G14.1 (F a 9) 6)
    (d_G94_F_a_10_6 : G94.1 (F a 10) 6 = G.1 (F a 10) 6)
    (d_G94_F_a_11_3 : G94.1 (F a 11) 3 = G14.1 (F a 11) 3)
    (d_G94_F_a_14_1 : G94.1 (F a 14) 1 = G18.1 (F a 14) 1)
    (d_G94_F_a_14_2 : G94.1 (F a 14) 2 = G18.1 (F a 14) 2)
    (d_G94_F_a_14_3 : G94.1 (F a 14) 3 = G18.1 (F a 14) 3)
    (d_G94_F_a_8_6 : G94.1 (F a 8) 6 = G.1 (F a 8) 6)
    (d_G94_F_a_9_6 : G94.1 (F a 9) 6 = G14.1 (F a 9) 6) :
    F (F a 4) 99 < 12 := by
  first | assumption | omega
theorem v_X10_actAsOnPaper_111_13 {K : Nat → Nat} {F : Nat → Nat → Nat} (a : Nat) (G : XG) (G94 : XG) (G14 : XG) (G18 : XG) (G73 : XG) (G85 : XG) (x84 : Int32) (x18 : Int32) (x82 : Int32)
    (ha : K a = 12)
    (hk9999 : K (F a 11) = 3)
    (hj9999 : F (F a 11) 99 = 0)
    (hk9999a : K (F a 9) = 6)
    (hj9999a : F (F a 9) 99 = 1)
    (hk9999b : K (F a 14) = 11)
    (hj9999b : F (F a 14) 99 = 0)
    (hk9999c : K (F a 10) = 6)
    (hj9999c : F (F a 10) 99 = 2)
    (hk9999d : K (F a 8) = 6)
    (hj9999d : F (F a 8) 99 = 0)
    (hk9999e : K (F (F a 11) 0) = 21)
    (hj9999e : F (F (F a 11) 0) 99 = 100)
    (hk9999f : K (F (F a 11) 1) = 21)
    (hj9999f : F (F (F a 11) 1) 99 = 101)
    (hk9999g : K (F (F a 11) 2) = 24)
    (hj9999g : F (F (F a 11) 2) 99 = 4)
    (hk9999h : K (F (F a 9) 0) = 22)
    (hj9999i : F (F (F a 9) 0) 99 = 10 * 1 + 0)
    (hk9999i : K (F (F a 9) 1) = 22)
    (hj9999k : F (F (F a 9) 1) 99 = 10 * 1 + 1)
    (hk9999j : K (F (F a 9) 2) = 22)
    (hj9999m : F (F (F a 9) 2) 99 = 10 * 1 + 2)
    (hk9999k : K (F (F a 9) 3) = 22)
    (hj9999o : F (F (F a 9) 3) 99 = 10 * 1 + 3)
    (hk9999l : K (F (F a 9) 4) = 23)
    (hj9999q : F (F (F a 9) 4) 99 = 10 * 1 + 4)
    (hk9999m : K (F (F a 9) 5) = 23)
    (hj9999s : F (F (F a 9) 5) 99 = 10 * 1 + 5)
    (hk9999n : K (F a 16) = 27)
    (hj9999t : F (F a 16) 99 = 0)
    (hk9999o : K (F a 15) = 26)
    (hj9999u : F (F a 15) 99 = 0)
    (hk9999p : K (F (F a 10) 0) = 22)
    (hj9999w : F (F (F a 10) 0) 99 = 10 * 2 + 0)
    (hk9999q : K (F (F a 10) 1) = 22)
    (hj9999z25 : F (F (F a 10) 1) 99 = 10 * 2 + 1)
    (hk9999r : K (F (F a 10) 2) = 22)
    (hj9999z27 : F (F (F a 10) 2) 99 = 10 * 2 + 2)
    (hk9999s : K (F (F a 10) 3) = 22)
    (hj9999z29 : F (F (F a 10) 3) 99 = 10 * 2 + 3)
    (hk9999t : K (F (F a 10) 4) = 23)
    (hj9999z31 : F (F (F a 10) 4) 99 = 10 * 2 + 4)
    (hk9999u : K (F (F a 10) 5) = 23)
    (hj9999z33 : F (F (F a 10) 5) 99 = 10 * 2 + 5)
    (hk9999v : K (F a 3) = 8)
    (hj9999z34 : F (F a 3) 99 = 0)
    (hk9999w : K (F (F a 3) 0) = 20)
    (hj9999z36 : F (F (F a 3) 0) 99 = 0)
    (hk9999y : K (F (F a 3) 1) = 21)
    (hj9999z38 : F (F (F a 3) 1) 99 = 0)
    (hk9999z25 : K (F (F a 8) 0) = 22)
    (hj9999z40 : F (F (F a 8) 0) 99 = 10 * 0 + 0)
    (hk9999z26 : K (F (F a 8) 1) = 22)
    (hj9999z42 : F (F (F a 8) 1) 99 = 10 * 0 + 1)
    (hk9999z27 : K (F (F a 8) 2) = 22)
    (hj9999z44 : F (F (F a 8) 2) 99 = 10 * 0 + 2)
    (hk9999z28 : K (F (F a 8) 3) = 22)
    (hj9999z46 : F (F (F a 8) 3) 99 = 10 * 0 + 3)
    (hk9999z29 : K (F (F a 8) 4) = 23)
    (hj9999z48 : F (F (F a 8) 4) 99 = 10 * 0 + 4)
    (hk9999z30 : K (F (F a 8) 5) = 23)
    (hj9999z50 : F (F (F a 8) 5) 99 = 10 * 0 + 5)
    (hk9999z31 : K (F a 2) = 2)
    (hj9999z51 : F (F a 2) 99 = 0)
    (hk9999z32 : K (F (F a 2) 1) = 15)
    (hj9999z52 : F (F (F a 2) 1) 99 = 1)
    (hk9999z33 : K (F (F a 2) 0) = 15)
    (hj9999z53 : F (F (F a 2) 0) 99 = 0)
    (hk9999z34 : K (F a 4) = 8)
    (hj9999z54 : F (F a 4) 99 = 1)
    (hk9999z35 : K (F (F a 4) 0) = 20)
    (hj9999z56 : F (F (F a 4) 0) 99 = 1)
    (hk9999z36 : K (F (F a 4) 1) = 21)
    (hj9999z58 : F (F (F a 4) 1) 99 = 1)
    (hk9999z37 : K (F a 5) = 8)
    (hj9999z59 : F (F a 5) 99 = 2)
    (hk9999z38 : K (F (F a 5) 0) = 20)
    (hj9999z61 : F (F (F a 5) 0) 99 = 2)
    (hk9999z39 : K (F (F a 5) 1) = 21)
    (hj9999z63 : F (F (F a 5) 1) 99 = 2)
    (hfr : XFr [(F a 11, 3), (F a 9, 6), (F a 14, 1), (F a 14, 2), (F a 14, 3), (F a 10, 6), (F a 8, 6)] [F (F a 11) 0, F (F a 11) 1, F (F a 11) 2, F (F a 9) 0, F (F a 9) 1, F (F a 9) 2, F (F a 9) 3, F (F a 9) 4, F (F a 9) 5, F a 16, F a 15, F (F a 10) 0, F (F a 10) 1, F (F a 10) 2, F (F a 10) 3, F (F a 10) 4, F (F a 10) 5, F (F a 3) 0, F (F a 3) 1, F (F a 8) 0, F (F a 8) 1, F (F a 8) 2, F (F a 8) 3, F (F a 8) 4, F (F a 8) 5] [] G G94)
    (hF14 : XFr [(F a 11, 3), (F a 9, 6)] [F (F a 11) 0, F (F a 11) 1, F (F a 11) 2, F (F a 9) 0, F (F a 9) 1, F (F a 9) 2, F (F a 9) 3, F (F a 9) 4, F (F a 9) 5] [] G G14)
    (hF18 : XFr [(F a 14, 1), (F a 14, 2), (F a 14, 3)] [F a 16] [] G14 G18)
    (hF73 : XFr [] [F a 15] [] G18 G73)
    (hG85 : G85 = cput G73 (F a 15) (4 : Int32).toNatClampNeg x84)
    (hF94 : XFr [] [F (F a 3) 0, F (F a 3) 1] [] G85 G94)
    (ron : RO (vw (G.2.1 (F (F a 3) 0))) (aI (G.2.1 (F (F a 3) 1))))
    (rop : RO (vw (G.2.1 (F (F a 5) 0))) (aI (G.2.1 (F (F a 5) 1))))
    (rob : RO (vw (G.2.1 (F (F a 4) 0))) (aI (G.2.1 (F (F a 4) 1))))
    (bko : BKr K G (G.2.2.1 (F (F a 2) 1)))
    (bkn : BKr K G (G.2.2.1 (F (F a 2) 0)))
    (oq14 : qL G14 F (F a 9) = gaL G (G.2.2.1 (F (F a 2) 1)) (vw (G.2.1 (F (F a 3) 0))) (vw (G.2.1 (F (F a 5) 0))) (0 : Int) (((G.1 (F a 2) 2).toInt)).toNat)
    (oq18 : (x18.toInt = 1 ∧ ∀ x, x ∈ qL G14 F (F a 9) → x.2.2.2.2.1 = 0 → x.2.2.2.2.2 = 0) ∨ (x18.toInt = 0 ∧ ∃ x, x ∈ qL G14 F (F a 9) ∧ x.2.2.2.2.1 = 0 ∧ x.2.2.2.2.2 ≠ 0))
    (hv82 : x82.toInt = (aI (G73.2.1 (F a 15)) 4))
    (oq94 : (vw (G94.2.1 (F (F a 3) 0))) = (vw (G.2.1 (F (F a 5) 0))))
    (oq94a : RO (vw (G94.2.1 (F (F a 3) 0))) (aI (G94.2.1 (F (F a 3) 1))))
    (sb : 0 ≤ ((G.1 (F a 2) 2).toInt) ∧ ((G.1 (F a 2) 2).toInt) ≤ 12)
    (sw : 0 ≤ ((G.1 (F a 8) 6).toInt) ∧ ((G.1 (F a 8) 6).toInt) ≤ 1080)
    (t14 : 0 ≤ ((G14.1 (F a 9) 6).toInt) ∧ ((G14.1 (F a 9) 6).toInt) ≤ 1080)
    (c21 : x18.toInt ≠ 0)
    (f101 : ((G.1 a 18).toInt) = 0 ∨ ((G.1 a 18).toInt) = 1)
    (c35 : ((G.1 a 18).toInt) ≠ 0)
    (t84 : x84.toInt = (aI (G73.2.1 (F a 15)) 4) + (1 : Int) ∨ (aI (G73.2.1 (F a 15)) 4) + (1 : Int) < -2147483648 ∨ 2147483648 ≤ (aI (G73.2.1 (F a 15)) 4) + (1 : Int))
    (c_G18_F_F_a_9_0 : G18.2.1 (F (F a 9) 0) = G14.2.1 (F (F a 9) 0))
    (c_G18_F_F_a_9_1 : G18.2.1 (F (F a 9) 1) = G14.2.1 (F (F a 9) 1))
    (c_G18_F_F_a_9_2 : G18.2.1 (F (F a 9) 2) = G14.2.1 (F (F a 9) 2))
    (c_G18_F_F_a_9_3 : G18.2.1 (F (F a 9) 3) = G14.2.1 (F (F a 9) 3))
    (c_G18_F_F_a_9_4 : G18.2.1 (F (F a 9) 4) = G14.2.1 (F (F a 9) 4))
    (c_G18_F_F_a_9_5 : G18.2.1 (F (F a 9) 5) = G14.2.1 (F (F a 9) 5))
    (c_G94_F_F_a_10_0 : G94.2.1 (F (F a 10) 0) = G.2.1 (F (F a 10) 0))
    (c_G94_F_F_a_10_1 : G94.2.1 (F (F a 10) 1) = G.2.1 (F (F a 10) 1))
    (c_G94_F_F_a_10_2 : G94.2.1 (F (F a 10) 2) = G.2.1 (F (F a 10) 2))
    (c_G94_F_F_a_10_3 : G94.2.1 (F (F a 10) 3) = G.2.1 (F (F a 10) 3))
    (c_G94_F_F_a_10_4 : G94.2.1 (F (F a 10) 4) = G.2.1 (F (F a 10) 4))
    (c_G94_F_F_a_10_5 : G94.2.1 (F (F a 10) 5) = G.2.1 (F (F a 10) 5))
    (c_G94_F_F_a_11_0 : G94.2.1 (F (F a 11) 0) = G14.2.1 (F (F a 11) 0))
    (c_G94_F_F_a_11_1 : G94.2.1 (F (F a 11) 1) = G14.2.1 (F (F a 11) 1))
    (c_G94_F_F_a_11_2 : G94.2.1 (F (F a 11) 2) = G14.2.1 (F (F a 11) 2))
    (c_G94_F_F_a_8_0 : G94.2.1 (F (F a 8) 0) = G.2.1 (F (F a 8) 0))
    (c_G94_F_F_a_8_1 : G94.2.1 (F (F a 8) 1) = G.2.1 (F (F a 8) 1))
    (c_G94_F_F_a_8_2 : G94.2.1 (F (F a 8) 2) = G.2.1 (F (F a 8) 2))
    (c_G94_F_F_a_8_3 : G94.2.1 (F (F a 8) 3) = G.2.1 (F (F a 8) 3))
    (c_G94_F_F_a_8_4 : G94.2.1 (F (F a 8) 4) = G.2.1 (F (F a 8) 4))
    (c_G94_F_F_a_8_5 : G94.2.1 (F (F a 8) 5) = G.2.1 (F (F a 8) 5))
    (c_G94_F_F_a_9_0 : G94.2.1 (F (F a 9) 0) = G14.2.1 (F (F a 9) 0))
    (c_G94_F_F_a_9_1 : G94.2.1 (F (F a 9) 1) = G14.2.1 (F (F a 9) 1))
    (c_G94_F_F_a_9_2 : G94.2.1 (F (F a 9) 2) = G14.2.1 (F (F a 9) 2))
    (c_G94_F_F_a_9_3 : G94.2.1 (F (F a 9) 3) = G14.2.1 (F (F a 9) 3))
    (c_G94_F_F_a_9_4 : G94.2.1 (F (F a 9) 4) = G14.2.1 (F (F a 9) 4))
    (c_G94_F_F_a_9_5 : G94.2.1 (F (F a 9) 5) = G14.2.1 (F (F a 9) 5))
    (c_G94_F_a_15 : G94.2.1 (F a 15) = G85.2.1 (F a 15))
    (c_G94_F_a_16 : G94.2.1 (F a 16) = G18.2.1 (F a 16))
    (d_G18_F_a_9_6 : G18.1 (F a 9) 6 = G14.1 (F a 9) 6)
    (d_G94_F_a_10_6 : G94.1 (F a 10) 6 = G.1 (F a 10) 6)
    (d_G94_F_a_11_3 : G94.1 (F a 11) 3 = G14.1 (F a 11) 3)
    (d_G94_F_a_14_1 : G94.1 (F a 14) 1 = G18.1 (F a 14) 1)
    (d_G94_F_a_14_2 : G94.1 (F a 14) 2 = G18.1 (F a 14) 2)
    (d_G94_F_a_14_3 : G94.1 (F a 14) 3 = G18.1 (F a 14) 3)
    (d_G94_F_a_8_6 : G94.1 (F a 8) 6 = G.1 (F a 8) 6)
    (d_G94_F_a_9_6 : G94.1 (F a 9) 6 = G14.1 (F a 9) 6) :
    F (F a 3) 99 < 12 := by
  first | assumption | omega
theorem v_X10_actAsOnPaper_121_14 {K : Nat → Nat} {F : Nat → Nat → Nat} (a : Nat) (G : XG) (G111 : XG) (G14 : XG) (G94 : XG) (x18 : Int32)
    (ha : K a = 12)
    (hk9999 : K (F a 11) = 3)
    (hj9999 : F (F a 11) 99 = 0)
    (hk9999a : K (F a 9) = 6)
    (hj9999a : F (F a 9) 99 = 1)
    (hk9999b : K (F a 14) = 11)
    (hj9999b : F (F a 14) 99 = 0)
    (hk9999c : K (F a 10) = 6)
    (hj9999c : F (F a 10) 99 = 2)
    (hk9999d : K (F a 8) = 6)
    (hj9999d : F (F a 8) 99 = 0)
    (hk9999e : K (F (F a 11) 0) = 21)
    (hj9999e : F (F (F a 11) 0) 99 = 100)
    (hk9999f : K (F (F a 11) 1) = 21)
    (hj9999f : F (F (F a 11) 1) 99 = 101)
    (hk9999g : K (F (F a 11) 2) = 24)
    (hj9999g : F (F (F a 11) 2) 99 = 4)
    (hk9999h : K (F (F a 9) 0) = 22)
    (hj9999i : F (F (F a 9) 0) 99 = 10 * 1 + 0)
    (hk9999i : K (F (F a 9) 1) = 22)
    (hj9999k : F (F (F a 9) 1) 99 = 10 * 1 + 1)
    (hk9999j : K (F (F a 9) 2) = 22)
    (hj9999m : F (F (F a 9) 2) 99 = 10 * 1 + 2)
    (hk9999k : K (F (F a 9) 3) = 22)
    (hj9999o : F (F (F a 9) 3) 99 = 10 * 1 + 3)
    (hk9999l : K (F (F a 9) 4) = 23)
    (hj9999q : F (F (F a 9) 4) 99 = 10 * 1 + 4)
    (hk9999m : K (F (F a 9) 5) = 23)
    (hj9999s : F (F (F a 9) 5) 99 = 10 * 1 + 5)
    (hk9999n : K (F a 16) = 27)
    (hj9999t : F (F a 16) 99 = 0)
    (hk9999o : K (F a 15) = 26)
    (hj9999u : F (F a 15) 99 = 0)
    (hk9999p : K (F (F a 10) 0) = 22)
    (hj9999w : F (F (F a 10) 0) 99 = 10 * 2 + 0)
    (hk9999q : K (F (F a 10) 1) = 22)
    (hj9999z25 : F (F (F a 10) 1) 99 = 10 * 2 + 1)
    (hk9999r : K (F (F a 10) 2) = 22)
    (hj9999z27 : F (F (F a 10) 2) 99 = 10 * 2 + 2)
    (hk9999s : K (F (F a 10) 3) = 22)
    (hj9999z29 : F (F (F a 10) 3) 99 = 10 * 2 + 3)
    (hk9999t : K (F (F a 10) 4) = 23)
    (hj9999z31 : F (F (F a 10) 4) 99 = 10 * 2 + 4)
    (hk9999u : K (F (F a 10) 5) = 23)
    (hj9999z33 : F (F (F a 10) 5) 99 = 10 * 2 + 5)
    (hk9999v : K (F a 3) = 8)
    (hj9999z34 : F (F a 3) 99 = 0)
    (hk9999w : K (F (F a 3) 0) = 20)
    (hj9999z36 : F (F (F a 3) 0) 99 = 0)
    (hk9999y : K (F (F a 3) 1) = 21)
    (hj9999z38 : F (F (F a 3) 1) 99 = 0)
    (hk9999z25 : K (F (F a 8) 0) = 22)
    (hj9999z40 : F (F (F a 8) 0) 99 = 10 * 0 + 0)
    (hk9999z26 : K (F (F a 8) 1) = 22)
    (hj9999z42 : F (F (F a 8) 1) 99 = 10 * 0 + 1)
    (hk9999z27 : K (F (F a 8) 2) = 22)
    (hj9999z44 : F (F (F a 8) 2) 99 = 10 * 0 + 2)
    (hk9999z28 : K (F (F a 8) 3) = 22)
    (hj9999z46 : F (F (F a 8) 3) 99 = 10 * 0 + 3)
    (hk9999z29 : K (F (F a 8) 4) = 23)
    (hj9999z48 : F (F (F a 8) 4) 99 = 10 * 0 + 4)
    (hk9999z30 : K (F (F a 8) 5) = 23)
    (hj9999z50 : F (F (F a 8) 5) 99 = 10 * 0 + 5)
    (hk9999z31 : K (F a 2) = 2)
    (hj9999z51 : F (F a 2) 99 = 0)
    (hk9999z32 : K (F (F a 2) 1) = 15)
    (hj9999z52 : F (F (F a 2) 1) 99 = 1)
    (hk9999z33 : K (F (F a 2) 0) = 15)
    (hj9999z53 : F (F (F a 2) 0) 99 = 0)
    (hk9999z34 : K (F a 4) = 8)
    (hj9999z54 : F (F a 4) 99 = 1)
    (hk9999z35 : K (F (F a 4) 0) = 20)
    (hj9999z56 : F (F (F a 4) 0) 99 = 1)
    (hk9999z36 : K (F (F a 4) 1) = 21)
    (hj9999z58 : F (F (F a 4) 1) 99 = 1)
    (hk9999z37 : K (F a 5) = 8)
    (hj9999z59 : F (F a 5) 99 = 2)
    (hk9999z38 : K (F (F a 5) 0) = 20)
    (hj9999z61 : F (F (F a 5) 0) 99 = 2)
    (hk9999z39 : K (F (F a 5) 1) = 21)
    (hj9999z63 : F (F (F a 5) 1) 99 = 2)
    (hfr : XFr [(F a 11, 3), (F a 9, 6), (F a 14, 1), (F a 14, 2), (F a 14, 3), (F a 10, 6), (F a 8, 6)] [F (F a 11) 0, F (F a 11) 1, F (F a 11) 2, F (F a 9) 0, F (F a 9) 1, F (F a 9) 2, F (F a 9) 3, F (F a 9) 4, F (F a 9) 5, F a 16, F a 15, F (F a 10) 0, F (F a 10) 1, F (F a 10) 2, F (F a 10) 3, F (F a 10) 4, F (F a 10) 5, F (F a 3) 0, F (F a 3) 1, F (F a 8) 0, F (F a 8) 1, F (F a 8) 2, F (F a 8) 3, F (F a 8) 4, F (F a 8) 5] [] G G111)
    (hF111 : XFr [(F a 11, 3), (F a 8, 6)] [F (F a 11) 0, F (F a 11) 1, F (F a 11) 2, F (F a 8) 0, F (F a 8) 1, F (F a 8) 2, F (F a 8) 3, F (F a 8) 4, F (F a 8) 5] [] G94 G111)
    (bko : BKr K G (G.2.2.1 (F (F a 2) 1)))
    (oq14 : qL G14 F (F a 9) = gaL G (G.2.2.1 (F (F a 2) 1)) (vw (G.2.1 (F (F a 3) 0))) (vw (G.2.1 (F (F a 5) 0))) (0 : Int) (((G.1 (F a 2) 2).toInt)).toNat)
    (oq18 : (x18.toInt = 1 ∧ ∀ x, x ∈ qL G14 F (F a 9) → x.2.2.2.2.1 = 0 → x.2.2.2.2.2 = 0) ∨ (x18.toInt = 0 ∧ ∃ x, x ∈ qL G14 F (F a 9) ∧ x.2.2.2.2.1 = 0 ∧ x.2.2.2.2.2 ≠ 0))
    (oq94 : (vw (G94.2.1 (F (F a 3) 0))) = (vw (G.2.1 (F (F a 5) 0))))
    (oq111 : qL G111 F (F a 8) = gaL G94 (G94.2.2.1 (F (F a 2) 1)) (vw (G.2.1 (F (F a 4) 0))) (vw (G94.2.1 (F (F a 3) 0))) (1 : Int) (((G.1 (F a 2) 2).toInt)).toNat)
    (sb : 0 ≤ ((G.1 (F a 2) 2).toInt) ∧ ((G.1 (F a 2) 2).toInt) ≤ 12)
    (sw : 0 ≤ ((G.1 (F a 8) 6).toInt) ∧ ((G.1 (F a 8) 6).toInt) ≤ 1080)
    (t14 : 0 ≤ ((G14.1 (F a 9) 6).toInt) ∧ ((G14.1 (F a 9) 6).toInt) ≤ 1080)
    (c21 : x18.toInt ≠ 0)
    (f104 : ((G.1 a 18).toInt) = 0 ∨ ((G.1 a 18).toInt) = 1)
    (c35 : ((G.1 a 18).toInt) ≠ 0)
    (t111 : 0 ≤ ((G111.1 (F a 8) 6).toInt) ∧ ((G111.1 (F a 8) 6).toInt) ≤ 1080)
    (c_G111_F_F_a_3_0 : G111.2.1 (F (F a 3) 0) = G94.2.1 (F (F a 3) 0))
    (r_G94_F_F_a_2_1 : G94.2.2.1 (F (F a 2) 1) = G.2.2.1 (F (F a 2) 1)) :
    ActR ((G.1 a 18).toInt) ((G14.1 (F a 9) 6).toInt) (gaL G (G.2.2.1 (F (F a 2) 1)) (vw (G.2.1 (F (F a 3) 0))) (vw (G.2.1 (F (F a 5) 0))) 0 (((G.1 (F a 2) 2).toInt)).toNat) (vw (G.2.1 (F (F a 3) 0))) (vw (G111.2.1 (F (F a 3) 0))) (vw (G.2.1 (F (F a 5) 0))) (qL G F (F a 8)) (qL G111 F (F a 8)) (gaL G (G.2.2.1 (F (F a 2) 1)) (vw (G.2.1 (F (F a 4) 0))) (vw (G.2.1 (F (F a 5) 0))) 1 (((G.1 (F a 2) 2).toInt)).toNat) := by
  have hd : ∀ p, p ∈ [(F a 11, 3), (F a 9, 6), (F a 14, 1), (F a 14, 2), (F a 14, 3), (F a 10, 6), (F a 8, 6)] → K p.1 ≠ 9 := (List.forall_mem_cons.mpr ⟨(show K (F a 11) ≠ 9 by omega), List.forall_mem_cons.mpr ⟨(show K (F a 9) ≠ 9 by omega), List.forall_mem_cons.mpr ⟨(show K (F a 14) ≠ 9 by omega), List.forall_mem_cons.mpr ⟨(show K (F a 14) ≠ 9 by omega), List.forall_mem_cons.mpr ⟨(show K (F a 14) ≠ 9 by omega), List.forall_mem_cons.mpr ⟨(show K (F a 10) ≠ 9 by omega), List.forall_mem_cons.mpr ⟨(show K (F a 8) ≠ 9 by omega), fun _ h => by cases h⟩⟩⟩⟩⟩⟩⟩)
  have hd2 : ∀ p, p ∈ [(F a 11, 3), (F a 8, 6)] → K p.1 ≠ 9 := (List.forall_mem_cons.mpr ⟨(show K (F a 11) ≠ 9 by omega), List.forall_mem_cons.mpr ⟨(show K (F a 8) ≠ 9 by omega), fun _ h => by cases h⟩⟩)
  rcases oq18 with h | h
  · refine Or.inr ⟨?_, fun h9 => absurd h9 c35, ?_, ?_, fun h9 => absurd h9 c35, fun _ => ?_⟩
    · rw [← oq14]; exact h.2
    · rw [← oq14, qL_len]; omega
    · rw [c_G111_F_F_a_3_0]; exact oq94
    · rw [oq111, r_G94_F_F_a_2_1, oq94]
      refine gaL_cg (fun i q hi hq => ?_)
      have hk := (bko i q (by omega) hq).1
      exact (hF111.rule hd2 hk).symm.trans (hfr.rule hd hk)
  · exfalso; omega
theorem v_X10_actAsOnPaper_121_15 {F : Nat → Nat → Nat} (a : Nat) (G111 : XG) (G94 : XG)
    (oq94a : RO (vw (G94.2.1 (F (F a 3) 0))) (aI (G94.2.1 (F (F a 3) 1))))
    (c_G111_F_F_a_3_0 : G111.2.1 (F (F a 3) 0) = G94.2.1 (F (F a 3) 0))
    (c_G111_F_F_a_3_1 : G111.2.1 (F (F a 3) 1) = G94.2.1 (F (F a 3) 1)) :
    RO (vw (G111.2.1 (F (F a 3) 0))) (aI (G111.2.1 (F (F a 3) 1))) := by
  rw [c_G111_F_F_a_3_0, c_G111_F_F_a_3_1]; exact oq94a
theorem v_X10_actAsOnPaper_43_16 {K : Nat → Nat} {F : Nat → Nat → Nat} (a : Nat) (G : XG) (G14 : XG) (x18 : Int32)
    (ha : K a = 12)
    (hk9999 : K (F a 11) = 3)
    (hj9999 : F (F a 11) 99 = 0)
    (hk9999a : K (F a 9) = 6)
    (hj9999a : F (F a 9) 99 = 1)
    (hk9999b : K (F a 14) = 11)
    (hj9999b : F (F a 14) 99 = 0)
    (hk9999c : K (F a 10) = 6)
    (hj9999c : F (F a 10) 99 = 2)
    (hk9999d : K (F a 8) = 6)
    (hj9999d : F (F a 8) 99 = 0)
    (hk9999e : K (F (F a 11) 0) = 21)
    (hj9999e : F (F (F a 11) 0) 99 = 100)
    (hk9999f : K (F (F a 11) 1) = 21)
    (hj9999f : F (F (F a 11) 1) 99 = 101)
    (hk9999g : K (F (F a 11) 2) = 24)
    (hj9999g : F (F (F a 11) 2) 99 = 4)
    (hk9999h : K (F (F a 9) 0) = 22)
    (hj9999i : F (F (F a 9) 0) 99 = 10 * 1 + 0)
    (hk9999i : K (F (F a 9) 1) = 22)
    (hj9999k : F (F (F a 9) 1) 99 = 10 * 1 + 1)
    (hk9999j : K (F (F a 9) 2) = 22)
    (hj9999m : F (F (F a 9) 2) 99 = 10 * 1 + 2)
    (hk9999k : K (F (F a 9) 3) = 22)
    (hj9999o : F (F (F a 9) 3) 99 = 10 * 1 + 3)
    (hk9999l : K (F (F a 9) 4) = 23)
    (hj9999q : F (F (F a 9) 4) 99 = 10 * 1 + 4)
    (hk9999m : K (F (F a 9) 5) = 23)
    (hj9999s : F (F (F a 9) 5) 99 = 10 * 1 + 5)
    (hk9999n : K (F a 16) = 27)
    (hj9999t : F (F a 16) 99 = 0)
    (hk9999o : K (F a 15) = 26)
    (hj9999u : F (F a 15) 99 = 0)
    (hk9999p : K (F (F a 10) 0) = 22)
    (hj9999w : F (F (F a 10) 0) 99 = 10 * 2 + 0)
    (hk9999q : K (F (F a 10) 1) = 22)
    (hj9999z25 : F (F (F a 10) 1) 99 = 10 * 2 + 1)
    (hk9999r : K (F (F a 10) 2) = 22)
    (hj9999z27 : F (F (F a 10) 2) 99 = 10 * 2 + 2)
    (hk9999s : K (F (F a 10) 3) = 22)
    (hj9999z29 : F (F (F a 10) 3) 99 = 10 * 2 + 3)
    (hk9999t : K (F (F a 10) 4) = 23)
    (hj9999z31 : F (F (F a 10) 4) 99 = 10 * 2 + 4)
    (hk9999u : K (F (F a 10) 5) = 23)
    (hj9999z33 : F (F (F a 10) 5) 99 = 10 * 2 + 5)
    (hk9999v : K (F a 3) = 8)
    (hj9999z34 : F (F a 3) 99 = 0)
    (hk9999w : K (F (F a 3) 0) = 20)
    (hj9999z36 : F (F (F a 3) 0) 99 = 0)
    (hk9999y : K (F (F a 3) 1) = 21)
    (hj9999z38 : F (F (F a 3) 1) 99 = 0)
    (hk9999z25 : K (F (F a 8) 0) = 22)
    (hj9999z40 : F (F (F a 8) 0) 99 = 10 * 0 + 0)
    (hk9999z26 : K (F (F a 8) 1) = 22)
    (hj9999z42 : F (F (F a 8) 1) 99 = 10 * 0 + 1)
    (hk9999z27 : K (F (F a 8) 2) = 22)
    (hj9999z44 : F (F (F a 8) 2) 99 = 10 * 0 + 2)
    (hk9999z28 : K (F (F a 8) 3) = 22)
    (hj9999z46 : F (F (F a 8) 3) 99 = 10 * 0 + 3)
    (hk9999z29 : K (F (F a 8) 4) = 23)
    (hj9999z48 : F (F (F a 8) 4) 99 = 10 * 0 + 4)
    (hk9999z30 : K (F (F a 8) 5) = 23)
    (hj9999z50 : F (F (F a 8) 5) 99 = 10 * 0 + 5)
    (hk9999z31 : K (F a 2) = 2)
    (hj9999z51 : F (F a 2) 99 = 0)
    (hk9999z32 : K (F (F a 2) 1) = 15)
    (hj9999z52 : F (F (F a 2) 1) 99 = 1)
    (hk9999z33 : K (F (F a 2) 0) = 15)
    (hj9999z53 : F (F (F a 2) 0) 99 = 0)
    (hk9999z34 : K (F a 4) = 8)
    (hj9999z54 : F (F a 4) 99 = 1)
    (hk9999z35 : K (F (F a 4) 0) = 20)
    (hj9999z56 : F (F (F a 4) 0) 99 = 1)
    (hk9999z36 : K (F (F a 4) 1) = 21)
    (hj9999z58 : F (F (F a 4) 1) 99 = 1)
    (hk9999z37 : K (F a 5) = 8)
    (hj9999z59 : F (F a 5) 99 = 2)
    (hk9999z38 : K (F (F a 5) 0) = 20)
    (hj9999z61 : F (F (F a 5) 0) 99 = 2)
    (hk9999z39 : K (F (F a 5) 1) = 21)
    (hj9999z63 : F (F (F a 5) 1) 99 = 2)
    (oq18 : (x18.toInt = 1 ∧ ∀ x, x ∈ qL G14 F (F a 9) → x.2.2.2.2.1 = 0 → x.2.2.2.2.2 = 0) ∨ (x18.toInt = 0 ∧ ∃ x, x ∈ qL G14 F (F a 9) ∧ x.2.2.2.2.1 = 0 ∧ x.2.2.2.2.2 ≠ 0))
    (sb : 0 ≤ ((G.1 (F a 2) 2).toInt) ∧ ((G.1 (F a 2) 2).toInt) ≤ 12)
    (sw : 0 ≤ ((G.1 (F a 8) 6).toInt) ∧ ((G.1 (F a 8) 6).toInt) ≤ 1080)
    (t14 : 0 ≤ ((G14.1 (F a 9) 6).toInt) ∧ ((G14.1 (F a 9) 6).toInt) ≤ 1080)
    (c21 : x18.toInt ≠ 0)
    (f95 : ((G.1 a 18).toInt) = 0 ∨ ((G.1 a 18).toInt) = 1)
    (c35 : ¬ (((G.1 a 18).toInt) ≠ 0)) :
    F (F a 9) 99 ≠ 2 := by
  omega
theorem v_X10_actAsOnPaper_60_17 {F : Nat → Nat → Nat} (a : Nat) (G : XG) (G43 : XG)
    (ron : RO (vw (G.2.1 (F (F a 3) 0))) (aI (G.2.1 (F (F a 3) 1))))
    (rop : RO (vw (G.2.1 (F (F a 5) 0))) (aI (G.2.1 (F (F a 5) 1))))
    (rob : RO (vw (G.2.1 (F (F a 4) 0))) (aI (G.2.1 (F (F a 4) 1))))
    (c_G43_F_F_a_5_0 : G43.2.1 (F (F a 5) 0) = G.2.1 (F (F a 5) 0))
    (c_G43_F_F_a_5_1 : G43.2.1 (F (F a 5) 1) = G.2.1 (F (F a 5) 1)) :
    RO (vw (G43.2.1 (F (F a 5) 0))) (aI (G43.2.1 (F (F a 5) 1))) := by simp only [c_G43_F_F_a_5_0, c_G43_F_F_a_5_1]; assumption
theorem v_X10_actAsOnPaper_70_18 {K : Nat → Nat} {F : Nat → Nat → Nat} (a : Nat) (G : XG) (G60 : XG) (G14 : XG) (G18 : XG) (G43 : XG) (x18 : Int32) (x43 : Int32)
    (ha : K a = 12)
    (oq14 : qL G14 F (F a 9) = gaL G (G.2.2.1 (F (F a 2) 1)) (vw (G.2.1 (F (F a 3) 0))) (vw (G.2.1 (F (F a 5) 0))) (0 : Int) (((G.1 (F a 2) 2).toInt)).toNat)
    (oq18 : (x18.toInt = 1 ∧ ∀ x, x ∈ qL G14 F (F a 9) → x.2.2.2.2.1 = 0 → x.2.2.2.2.2 = 0) ∨ (x18.toInt = 0 ∧ ∃ x, x ∈ qL G14 F (F a 9) ∧ x.2.2.2.2.1 = 0 ∧ x.2.2.2.2.2 ≠ 0))
    (oq43 : (x43.toInt = 1 ∧ ∀ x, x ∈ qL G18 F (F a 9) → x.2.2.2.2.1 ≠ 0 → x.2.2.2.2.2 = 0) ∨ (x43.toInt = 0 ∧ ∃ x, x ∈ qL G18 F (F a 9) ∧ x.2.2.2.2.1 ≠ 0 ∧ x.2.2.2.2.2 ≠ 0))
    (oq43a : AskR (qL G18 F (F a 9)) (qL G43 F (F a 10)) x43.toInt)
    (oq60 : (vw (G60.2.1 (F (F a 3) 0))) = (vw (G.2.1 (F (F a 5) 0))))
    (sb : 0 ≤ ((G.1 (F a 2) 2).toInt) ∧ ((G.1 (F a 2) 2).toInt) ≤ 12)
    (sw : 0 ≤ ((G.1 (F a 8) 6).toInt) ∧ ((G.1 (F a 8) 6).toInt) ≤ 1080)
    (t14 : 0 ≤ ((G14.1 (F a 9) 6).toInt) ∧ ((G14.1 (F a 9) 6).toInt) ≤ 1080)
    (c21 : x18.toInt ≠ 0)
    (f102 : ((G.1 a 18).toInt) = 0 ∨ ((G.1 a 18).toInt) = 1)
    (c35 : ¬ (((G.1 a 18).toInt) ≠ 0))
    (t43 : 0 ≤ ((G43.1 (F a 10) 6).toInt) ∧ ((G43.1 (F a 10) 6).toInt) ≤ 1080)
    (f105 : x43.toInt = 0 ∨ x43.toInt = 1)
    (c46 : x43.toInt ≠ 0)
    (c_G18_F_F_a_9_0 : G18.2.1 (F (F a 9) 0) = G14.2.1 (F (F a 9) 0))
    (c_G18_F_F_a_9_1 : G18.2.1 (F (F a 9) 1) = G14.2.1 (F (F a 9) 1))
    (c_G18_F_F_a_9_2 : G18.2.1 (F (F a 9) 2) = G14.2.1 (F (F a 9) 2))
    (c_G18_F_F_a_9_3 : G18.2.1 (F (F a 9) 3) = G14.2.1 (F (F a 9) 3))
    (c_G18_F_F_a_9_4 : G18.2.1 (F (F a 9) 4) = G14.2.1 (F (F a 9) 4))
    (c_G18_F_F_a_9_5 : G18.2.1 (F (F a 9) 5) = G14.2.1 (F (F a 9) 5))
    (c_G60_F_F_a_8_0 : G60.2.1 (F (F a 8) 0) = G.2.1 (F (F a 8) 0))
    (c_G60_F_F_a_8_1 : G60.2.1 (F (F a 8) 1) = G.2.1 (F (F a 8) 1))
    (c_G60_F_F_a_8_2 : G60.2.1 (F (F a 8) 2) = G.2.1 (F (F a 8) 2))
    (c_G60_F_F_a_8_3 : G60.2.1 (F (F a 8) 3) = G.2.1 (F (F a 8) 3))
    (c_G60_F_F_a_8_4 : G60.2.1 (F (F a 8) 4) = G.2.1 (F (F a 8) 4))
    (c_G60_F_F_a_8_5 : G60.2.1 (F (F a 8) 5) = G.2.1 (F (F a 8) 5))
    (d_G18_F_a_9_6 : G18.1 (F a 9) 6 = G14.1 (F a 9) 6)
    (d_G60_F_a_8_6 : G60.1 (F a 8) 6 = G.1 (F a 8) 6) :
    ActR ((G.1 a 18).toInt) ((G14.1 (F a 9) 6).toInt) (gaL G (G.2.2.1 (F (F a 2) 1)) (vw (G.2.1 (F (F a 3) 0))) (vw (G.2.1 (F (F a 5) 0))) 0 (((G.1 (F a 2) 2).toInt)).toNat) (vw (G.2.1 (F (F a 3) 0))) (vw (G60.2.1 (F (F a 3) 0))) (vw (G.2.1 (F (F a 5) 0))) (qL G F (F a 8)) (qL G60 F (F a 8)) (gaL G (G.2.2.1 (F (F a 2) 1)) (vw (G.2.1 (F (F a 4) 0))) (vw (G.2.1 (F (F a 5) 0))) 1 (((G.1 (F a 2) 2).toInt)).toNat) := by
  have e : qL G18 F (F a 9) = qL G14 F (F a 9) := qL_cg d_G18_F_a_9_6 c_G18_F_F_a_9_0 c_G18_F_F_a_9_1 c_G18_F_F_a_9_2 c_G18_F_F_a_9_3 c_G18_F_F_a_9_4 c_G18_F_F_a_9_5
  rcases oq18 with h | h
  · rcases oq43 with h2 | h2
    · refine Or.inr ⟨?_, fun _ => ?_, ?_, oq60, fun _ => qL_cg d_G60_F_a_8_6 c_G60_F_F_a_8_0 c_G60_F_F_a_8_1 c_G60_F_F_a_8_2 c_G60_F_F_a_8_3 c_G60_F_F_a_8_4 c_G60_F_F_a_8_5, fun h9 => absurd h9 (by omega)⟩
      · rw [← oq14]; exact h.2
      · rw [← oq14, ← e]; exact h2.2
      · rw [← oq14, qL_len]; omega
    · exfalso; omega
  · exfalso; omega
theorem v_X10_actAsOnPaper_70_19 {F : Nat → Nat → Nat} (a : Nat) (G60 : XG)
    (oq60a : RO (vw (G60.2.1 (F (F a 3) 0))) (aI (G60.2.1 (F (F a 3) 1)))) :
    RO (vw (G60.2.1 (F (F a 3) 0))) (aI (G60.2.1 (F (F a 3) 1))) := by
  exact oq60a
theorem v_X10_actAsOnPaper_51_20 {K : Nat → Nat} {F : Nat → Nat → Nat} (a : Nat) (G : XG) (G43 : XG) (G14 : XG) (G18 : XG) (x18 : Int32) (x43 : Int32)
    (ha : K a = 12)
    (oq14 : qL G14 F (F a 9) = gaL G (G.2.2.1 (F (F a 2) 1)) (vw (G.2.1 (F (F a 3) 0))) (vw (G.2.1 (F (F a 5) 0))) (0 : Int) (((G.1 (F a 2) 2).toInt)).toNat)
    (oq18 : (x18.toInt = 1 ∧ ∀ x, x ∈ qL G14 F (F a 9) → x.2.2.2.2.1 = 0 → x.2.2.2.2.2 = 0) ∨ (x18.toInt = 0 ∧ ∃ x, x ∈ qL G14 F (F a 9) ∧ x.2.2.2.2.1 = 0 ∧ x.2.2.2.2.2 ≠ 0))
    (oq43 : (x43.toInt = 1 ∧ ∀ x, x ∈ qL G18 F (F a 9) → x.2.2.2.2.1 ≠ 0 → x.2.2.2.2.2 = 0) ∨ (x43.toInt = 0 ∧ ∃ x, x ∈ qL G18 F (F a 9) ∧ x.2.2.2.2.1 ≠ 0 ∧ x.2.2.2.2.2 ≠ 0))
    (oq43a : AskR (qL G18 F (F a 9)) (qL G43 F (F a 10)) x43.toInt)
    (sb : 0 ≤ ((G.1 (F a 2) 2).toInt) ∧ ((G.1 (F a 2) 2).toInt) ≤ 12)
    (sw : 0 ≤ ((G.1 (F a 8) 6).toInt) ∧ ((G.1 (F a 8) 6).toInt) ≤ 1080)
    (t14 : 0 ≤ ((G14.1 (F a 9) 6).toInt) ∧ ((G14.1 (F a 9) 6).toInt) ≤ 1080)
    (c21 : x18.toInt ≠ 0)
    (f98 : ((G.1 a 18).toInt) = 0 ∨ ((G.1 a 18).toInt) = 1)
    (c35 : ¬ (((G.1 a 18).toInt) ≠ 0))
    (t43 : 0 ≤ ((G43.1 (F a 10) 6).toInt) ∧ ((G43.1 (F a 10) 6).toInt) ≤ 1080)
    (f101 : x43.toInt = 0 ∨ x43.toInt = 1)
    (c46 : ¬ (x43.toInt ≠ 0))
    (c_G18_F_F_a_9_0 : G18.2.1 (F (F a 9) 0) = G14.2.1 (F (F a 9) 0))
    (c_G18_F_F_a_9_1 : G18.2.1 (F (F a 9) 1) = G14.2.1 (F (F a 9) 1))
    (c_G18_F_F_a_9_2 : G18.2.1 (F (F a 9) 2) = G14.2.1 (F (F a 9) 2))
    (c_G18_F_F_a_9_3 : G18.2.1 (F (F a 9) 3) = G14.2.1 (F (F a 9) 3))
    (c_G18_F_F_a_9_4 : G18.2.1 (F (F a 9) 4) = G14.2.1 (F (F a 9) 4))
    (c_G18_F_F_a_9_5 : G18.2.1 (F (F a 9) 5) = G14.2.1 (F (F a 9) 5))
    (c_G43_F_F_a_3_0 : G43.2.1 (F (F a 3) 0) = G.2.1 (F (F a 3) 0))
    (c_G43_F_F_a_8_0 : G43.2.1 (F (F a 8) 0) = G.2.1 (F (F a 8) 0))
    (c_G43_F_F_a_8_1 : G43.2.1 (F (F a 8) 1) = G.2.1 (F (F a 8) 1))
    (c_G43_F_F_a_8_2 : G43.2.1 (F (F a 8) 2) = G.2.1 (F (F a 8) 2))
    (c_G43_F_F_a_8_3 : G43.2.1 (F (F a 8) 3) = G.2.1 (F (F a 8) 3))
    (c_G43_F_F_a_8_4 : G43.2.1 (F (F a 8) 4) = G.2.1 (F (F a 8) 4))
    (c_G43_F_F_a_8_5 : G43.2.1 (F (F a 8) 5) = G.2.1 (F (F a 8) 5))
    (d_G18_F_a_9_6 : G18.1 (F a 9) 6 = G14.1 (F a 9) 6)
    (d_G43_F_a_8_6 : G43.1 (F a 8) 6 = G.1 (F a 8) 6) :
    ActR ((G.1 a 18).toInt) (-5 : Int) (gaL G (G.2.2.1 (F (F a 2) 1)) (vw (G.2.1 (F (F a 3) 0))) (vw (G.2.1 (F (F a 5) 0))) 0 (((G.1 (F a 2) 2).toInt)).toNat) (vw (G.2.1 (F (F a 3) 0))) (vw (G43.2.1 (F (F a 3) 0))) (vw (G.2.1 (F (F a 5) 0))) (qL G F (F a 8)) (qL G43 F (F a 8)) (gaL G (G.2.2.1 (F (F a 2) 1)) (vw (G.2.1 (F (F a 4) 0))) (vw (G.2.1 (F (F a 5) 0))) 1 (((G.1 (F a 2) 2).toInt)).toNat) := by
  have e : qL G18 F (F a 9) = qL G14 F (F a 9) := qL_cg d_G18_F_a_9_6 c_G18_F_F_a_9_0 c_G18_F_F_a_9_1 c_G18_F_F_a_9_2 c_G18_F_F_a_9_3 c_G18_F_F_a_9_4 c_G18_F_F_a_9_5
  rcases oq43 with h | h
  · exfalso; omega
  · refine Or.inl ⟨Or.inr ⟨by omega, ?_⟩, rfl, ?_, ?_⟩
    · rw [← oq14, ← e]; exact h.2
    · rw [c_G43_F_F_a_3_0]
    · exact qL_cg d_G43_F_a_8_6 c_G43_F_F_a_8_0 c_G43_F_F_a_8_1 c_G43_F_F_a_8_2 c_G43_F_F_a_8_3 c_G43_F_F_a_8_4 c_G43_F_F_a_8_5
theorem v_X10_actAsOnPaper_51_21 {F : Nat → Nat → Nat} (a : Nat) (G : XG) (G43 : XG)
    (ron : RO (vw (G.2.1 (F (F a 3) 0))) (aI (G.2.1 (F (F a 3) 1))))
    (c_G43_F_F_a_3_0 : G43.2.1 (F (F a 3) 0) = G.2.1 (F (F a 3) 0))
    (c_G43_F_F_a_3_1 : G43.2.1 (F (F a 3) 1) = G.2.1 (F (F a 3) 1)) :
    RO (vw (G43.2.1 (F (F a 3) 0))) (aI (G43.2.1 (F (F a 3) 1))) := by
  rw [c_G43_F_F_a_3_0, c_G43_F_F_a_3_1]; exact ron
theorem v_X10_actAsOnPaper_30_22 {K : Nat → Nat} {F : Nat → Nat → Nat} (a : Nat) (G : XG) (G27 : XG) (G14 : XG) (x18 : Int32)
    (ha : K a = 12)
    (oq14 : qL G14 F (F a 9) = gaL G (G.2.2.1 (F (F a 2) 1)) (vw (G.2.1 (F (F a 3) 0))) (vw (G.2.1 (F (F a 5) 0))) (0 : Int) (((G.1 (F a 2) 2).toInt)).toNat)
    (oq18 : (x18.toInt = 1 ∧ ∀ x, x ∈ qL G14 F (F a 9) → x.2.2.2.2.1 = 0 → x.2.2.2.2.2 = 0) ∨ (x18.toInt = 0 ∧ ∃ x, x ∈ qL G14 F (F a 9) ∧ x.2.2.2.2.1 = 0 ∧ x.2.2.2.2.2 ≠ 0))
    (sb : 0 ≤ ((G.1 (F a 2) 2).toInt) ∧ ((G.1 (F a 2) 2).toInt) ≤ 12)
    (sw : 0 ≤ ((G.1 (F a 8) 6).toInt) ∧ ((G.1 (F a 8) 6).toInt) ≤ 1080)
    (t14 : 0 ≤ ((G14.1 (F a 9) 6).toInt) ∧ ((G14.1 (F a 9) 6).toInt) ≤ 1080)
    (c21 : ¬ (x18.toInt ≠ 0))
    (c_G27_F_F_a_3_0 : G27.2.1 (F (F a 3) 0) = G.2.1 (F (F a 3) 0))
    (c_G27_F_F_a_8_0 : G27.2.1 (F (F a 8) 0) = G.2.1 (F (F a 8) 0))
    (c_G27_F_F_a_8_1 : G27.2.1 (F (F a 8) 1) = G.2.1 (F (F a 8) 1))
    (c_G27_F_F_a_8_2 : G27.2.1 (F (F a 8) 2) = G.2.1 (F (F a 8) 2))
    (c_G27_F_F_a_8_3 : G27.2.1 (F (F a 8) 3) = G.2.1 (F (F a 8) 3))
    (c_G27_F_F_a_8_4 : G27.2.1 (F (F a 8) 4) = G.2.1 (F (F a 8) 4))
    (c_G27_F_F_a_8_5 : G27.2.1 (F (F a 8) 5) = G.2.1 (F (F a 8) 5))
    (d_G27_F_a_8_6 : G27.1 (F a 8) 6 = G.1 (F a 8) 6) :
    ActR ((G.1 a 18).toInt) (-5 : Int) (gaL G (G.2.2.1 (F (F a 2) 1)) (vw (G.2.1 (F (F a 3) 0))) (vw (G.2.1 (F (F a 5) 0))) 0 (((G.1 (F a 2) 2).toInt)).toNat) (vw (G.2.1 (F (F a 3) 0))) (vw (G27.2.1 (F (F a 3) 0))) (vw (G.2.1 (F (F a 5) 0))) (qL G F (F a 8)) (qL G27 F (F a 8)) (gaL G (G.2.2.1 (F (F a 2) 1)) (vw (G.2.1 (F (F a 4) 0))) (vw (G.2.1 (F (F a 5) 0))) 1 (((G.1 (F a 2) 2).toInt)).toNat) := by
  rcases oq18 with h | h
  · exfalso; omega
  · refine Or.inl ⟨Or.inl ?_, rfl, ?_, ?_⟩
    · rw [← oq14]; exact h.2
    · rw [c_G27_F_F_a_3_0]
    · exact qL_cg d_G27_F_a_8_6 c_G27_F_F_a_8_0 c_G27_F_F_a_8_1 c_G27_F_F_a_8_2 c_G27_F_F_a_8_3 c_G27_F_F_a_8_4 c_G27_F_F_a_8_5
theorem v_X10_actAsOnPaper_30_23 {F : Nat → Nat → Nat} (a : Nat) (G : XG) (G27 : XG)
    (ron : RO (vw (G.2.1 (F (F a 3) 0))) (aI (G.2.1 (F (F a 3) 1))))
    (c_G27_F_F_a_3_0 : G27.2.1 (F (F a 3) 0) = G.2.1 (F (F a 3) 0))
    (c_G27_F_F_a_3_1 : G27.2.1 (F (F a 3) 1) = G.2.1 (F (F a 3) 1)) :
    RO (vw (G27.2.1 (F (F a 3) 0))) (aI (G27.2.1 (F (F a 3) 1))) := by
  rw [c_G27_F_F_a_3_0, c_G27_F_F_a_3_1]; exact ron
abbrev rm_X10_actAsOnPaper : Room := { frames := 9, cells := 14, slots := 1400, locals := 216 }
set_option maxHeartbeats 4000000 in
set_option maxRecDepth 100000 in
theorem c_X10_actAsOnPaper (l : Launch) (E : XE) (K : Nat → Nat) (F : Nat → Nat → Nat) (G : XG) (a : Nat) (ha : K a = 12) (sb : 0 ≤ ((G.1 (F a 2) 2).toInt) ∧ ((G.1 (F a 2) 2).toInt) ≤ 12) (sw : 0 ≤ ((G.1 (F a 8) 6).toInt) ∧ ((G.1 (F a 8) 6).toInt) ≤ 1080) (ron : RO (vw (G.2.1 (F (F a 3) 0))) (aI (G.2.1 (F (F a 3) 1)))) (rop : RO (vw (G.2.1 (F (F a 5) 0))) (aI (G.2.1 (F (F a 5) 1)))) (rob : RO (vw (G.2.1 (F (F a 4) 0))) (aI (G.2.1 (F (F a 4) 1)))) (bko : BKr K G (G.2.2.1 (F (F a 2) 1))) (bkn : BKr K G (G.2.2.1 (F (F a 2) 0))) : Met l yX10_actAsOnPaper (xw yX10_actAsOnPaper cX10_actAsOnPaper 1 (some .int)) rm_X10_actAsOnPaper (va_Pc [.ref a] (XP E K F G)) (XQ E (fun v (u : XG) => ∃ r : Int32, v = .int r ∧ XFr [(F a 11, 3), (F a 9, 6), (F a 14, 1), (F a 14, 2), (F a 14, 3), (F a 10, 6), (F a 8, 6)] [F (F a 11) 0, F (F a 11) 1, F (F a 11) 2, F (F a 9) 0, F (F a 9) 1, F (F a 9) 2, F (F a 9) 3, F (F a 9) 4, F (F a 9) 5, F a 16, F a 15, F (F a 10) 0, F (F a 10) 1, F (F a 10) 2, F (F a 10) 3, F (F a 10) 4, F (F a 10) 5, F (F a 3) 0, F (F a 3) 1, F (F a 8) 0, F (F a 8) 1, F (F a 8) 2, F (F a 8) 3, F (F a 8) 4, F (F a 8) 5] [] G u ∧ (0 ≤ ((u.1 (F a 8) 6).toInt) ∧ ((u.1 (F a 8) 6).toInt) ≤ 1080) ∧ (ActR ((G.1 a 18).toInt) r.toInt (gaL G (G.2.2.1 (F (F a 2) 1)) (vw (G.2.1 (F (F a 3) 0))) (vw (G.2.1 (F (F a 5) 0))) 0 (((G.1 (F a 2) 2).toInt)).toNat) (vw (G.2.1 (F (F a 3) 0))) (vw (u.2.1 (F (F a 3) 0))) (vw (G.2.1 (F (F a 5) 0))) (qL G F (F a 8)) (qL u F (F a 8)) (gaL G (G.2.2.1 (F (F a 2) 1)) (vw (G.2.1 (F (F a 4) 0))) (vw (G.2.1 (F (F a 5) 0))) 1 (((G.1 (F a 2) 2).toInt)).toNat)) ∧ (RO (vw (u.2.1 (F (F a 3) 0))) (aI (u.2.1 (F (F a 3) 1))))) (fun u H => TW E K F u H)) 14 1400 (xA E) := by
  refine x_enter (by decide) (Nat.le_of_ble_eq_true rfl) ?_
  intro p e s m args below meth c Q S hr hlk hnm hQ hP ls hl
  obtain ⟨hz, hK, hT⟩ := hP
  obtain ⟨hx, hb, -, -, -⟩ := id S
  obtain ⟨H, hT, hS, hgo⟩ : ∃ H : Heap, TW E K F G H ∧ va_S (xA E) s.heap H [] ∧ H = s.heap := ⟨_, hT, va_S.rf, rfl⟩
  rw [← hgo]
  have hl : lv_has ls 1 [(0, .ref a)] := hl
  obtain ⟨hk9999, hj9999⟩ := fkX10_11 hT ha
  obtain ⟨hk9999a, hj9999a⟩ := fkX10_9 hT ha
  obtain ⟨hk9999b, hj9999b⟩ := fkX10_14 hT ha
  obtain ⟨hk9999c, hj9999c⟩ := fkX10_10 hT ha
  obtain ⟨hk9999d, hj9999d⟩ := fkX10_8 hT ha
  obtain ⟨hk9999e, hj9999e⟩ := fkX1_0 hT hk9999
  obtain ⟨hk9999f, hj9999f⟩ := fkX1_1 hT hk9999
  obtain ⟨hk9999g, hj9999g⟩ := fkX1_2 hT hk9999
  obtain ⟨hk9999h, hj9999h⟩ := fkX4_0 hT hk9999a
  have hj9999i : F (F (F a 9) 0) 99 = 10 * 1 + 0 := by rw [hj9999h, hj9999a]
  obtain ⟨hk9999i, hj9999j⟩ := fkX4_1 hT hk9999a
  have hj9999k : F (F (F a 9) 1) 99 = 10 * 1 + 1 := by rw [hj9999j, hj9999a]
  obtain ⟨hk9999j, hj9999l⟩ := fkX4_2 hT hk9999a
  have hj9999m : F (F (F a 9) 2) 99 = 10 * 1 + 2 := by rw [hj9999l, hj9999a]
  obtain ⟨hk9999k, hj9999n⟩ := fkX4_3 hT hk9999a
  have hj9999o : F (F (F a 9) 3) 99 = 10 * 1 + 3 := by rw [hj9999n, hj9999a]
  obtain ⟨hk9999l, hj9999p⟩ := fkX4_4 hT hk9999a
  have hj9999q : F (F (F a 9) 4) 99 = 10 * 1 + 4 := by rw [hj9999p, hj9999a]
  obtain ⟨hk9999m, hj9999r⟩ := fkX4_5 hT hk9999a
  have hj9999s : F (F (F a 9) 5) 99 = 10 * 1 + 5 := by rw [hj9999r, hj9999a]
  obtain ⟨hk9999n, hj9999t⟩ := fkX10_16 hT ha
  obtain ⟨hk9999o, hj9999u⟩ := fkX10_15 hT ha
  obtain ⟨hk9999p, hj9999v⟩ := fkX4_0 hT hk9999c
  have hj9999w : F (F (F a 10) 0) 99 = 10 * 2 + 0 := by rw [hj9999v, hj9999c]
  obtain ⟨hk9999q, hj9999y⟩ := fkX4_1 hT hk9999c
  have hj9999z25 : F (F (F a 10) 1) 99 = 10 * 2 + 1 := by rw [hj9999y, hj9999c]
  obtain ⟨hk9999r, hj9999z26⟩ := fkX4_2 hT hk9999c
  have hj9999z27 : F (F (F a 10) 2) 99 = 10 * 2 + 2 := by rw [hj9999z26, hj9999c]
  obtain ⟨hk9999s, hj9999z28⟩ := fkX4_3 hT hk9999c
  have hj9999z29 : F (F (F a 10) 3) 99 = 10 * 2 + 3 := by rw [hj9999z28, hj9999c]
  obtain ⟨hk9999t, hj9999z30⟩ := fkX4_4 hT hk9999c
  have hj9999z31 : F (F (F a 10) 4) 99 = 10 * 2 + 4 := by rw [hj9999z30, hj9999c]
  obtain ⟨hk9999u, hj9999z32⟩ := fkX4_5 hT hk9999c
  have hj9999z33 : F (F (F a 10) 5) 99 = 10 * 2 + 5 := by rw [hj9999z32, hj9999c]
  obtain ⟨hk9999v, hj9999z34⟩ := fkX10_3 hT ha
  obtain ⟨hk9999w, hj9999z35⟩ := fkX6_0 hT hk9999v
  have hj9999z36 : F (F (F a 3) 0) 99 = 0 := by rw [hj9999z35, hj9999z34]
  obtain ⟨hk9999y, hj9999z37⟩ := fkX6_1 hT hk9999v
  have hj9999z38 : F (F (F a 3) 1) 99 = 0 := by rw [hj9999z37, hj9999z34]
  obtain ⟨hk9999z25, hj9999z39⟩ := fkX4_0 hT hk9999d
  have hj9999z40 : F (F (F a 8) 0) 99 = 10 * 0 + 0 := by rw [hj9999z39, hj9999d]
  obtain ⟨hk9999z26, hj9999z41⟩ := fkX4_1 hT hk9999d
  have hj9999z42 : F (F (F a 8) 1) 99 = 10 * 0 + 1 := by rw [hj9999z41, hj9999d]
  obtain ⟨hk9999z27, hj9999z43⟩ := fkX4_2 hT hk9999d
  have hj9999z44 : F (F (F a 8) 2) 99 = 10 * 0 + 2 := by rw [hj9999z43, hj9999d]
  obtain ⟨hk9999z28, hj9999z45⟩ := fkX4_3 hT hk9999d
  have hj9999z46 : F (F (F a 8) 3) 99 = 10 * 0 + 3 := by rw [hj9999z45, hj9999d]
  obtain ⟨hk9999z29, hj9999z47⟩ := fkX4_4 hT hk9999d
  have hj9999z48 : F (F (F a 8) 4) 99 = 10 * 0 + 4 := by rw [hj9999z47, hj9999d]
  obtain ⟨hk9999z30, hj9999z49⟩ := fkX4_5 hT hk9999d
  have hj9999z50 : F (F (F a 8) 5) 99 = 10 * 0 + 5 := by rw [hj9999z49, hj9999d]
  obtain ⟨hk9999z31, hj9999z51⟩ := fkX10_2 hT ha
  obtain ⟨hk9999z32, hj9999z52⟩ := fkX0_1 hT hk9999z31
  obtain ⟨hk9999z33, hj9999z53⟩ := fkX0_0 hT hk9999z31
  obtain ⟨hk9999z34, hj9999z54⟩ := fkX10_4 hT ha
  obtain ⟨hk9999z35, hj9999z55⟩ := fkX6_0 hT hk9999z34
  have hj9999z56 : F (F (F a 4) 0) 99 = 1 := by rw [hj9999z55, hj9999z54]
  obtain ⟨hk9999z36, hj9999z57⟩ := fkX6_1 hT hk9999z34
  have hj9999z58 : F (F (F a 4) 1) 99 = 1 := by rw [hj9999z57, hj9999z54]
  obtain ⟨hk9999z37, hj9999z59⟩ := fkX10_5 hT ha
  obtain ⟨hk9999z38, hj9999z60⟩ := fkX6_0 hT hk9999z37
  have hj9999z61 : F (F (F a 5) 0) 99 = 2 := by rw [hj9999z60, hj9999z59]
  obtain ⟨hk9999z39, hj9999z62⟩ := fkX6_1 hT hk9999z37
  have hj9999z63 : F (F (F a 5) 1) 99 = 2 := by rw [hj9999z62, hj9999z59]
  refine lv_aload_n hx hb dX10_actAsOnPaper_0 rfl (lv_at hl 0 rfl) ?_
  refine lv_aload_n hx hb dX10_actAsOnPaper_1 rfl (lv_at hl 0 rfl) ?_
  refine gX10_9 S hK hT ha kf_X10_61 dX10_actAsOnPaper_2 (fun _ _ => ?_)
  refine lv_aload_n hx hb dX10_actAsOnPaper_5 rfl (lv_at hl 0 rfl) ?_
  refine gX10_3 S hK hT ha kf_X10_37 dX10_actAsOnPaper_6 (fun _ _ => ?_)
  refine lv_aload_n hx hb dX10_actAsOnPaper_9 rfl (lv_at hl 0 rfl) ?_
  refine gX10_5 S hK hT ha kf_X10_44 dX10_actAsOnPaper_10 (fun _ _ => ?_)
  refine lv_iconst (v := 0) hx hb dX10_actAsOnPaper_13 (by decide) ?_
  refine x_cv0 (x_runV (b := a) (As := [.ref (F a 9), .ref (F a 3), .ref (F a 5), .int 0]) (rest := []) S (c_X10_gather l E K F G a (F a 9) (F a 3) (F a 5) 0 ha hk9999a hk9999v hk9999z37 (sb) (v_X10_actAsOnPaper_14_1 (F := F) a G ron) (v_X10_actAsOnPaper_14_2 (F := F) a G rop) (v_X10_actAsOnPaper_14_3 (K := K) (F := F) a G ha hk9999 hj9999 hk9999a hj9999a hk9999b hj9999b hk9999c hj9999c hk9999d hj9999d hk9999e hj9999e hk9999f hj9999f hk9999g hj9999g hk9999h hj9999i hk9999i hj9999k hk9999j hj9999m hk9999k hj9999o hk9999l hj9999q hk9999m hj9999s hk9999n hj9999t hk9999o hj9999u hk9999p hj9999w hk9999q hj9999z25 hk9999r hj9999z27 hk9999s hj9999z29 hk9999t hj9999z31 hk9999u hj9999z33 hk9999v hj9999z34 hk9999w hj9999z36 hk9999y hj9999z38 hk9999z25 hj9999z40 hk9999z26 hj9999z42 hk9999z27 hj9999z44 hk9999z28 hj9999z46 hk9999z29 hj9999z48 hk9999z30 hj9999z50 hk9999z31 hj9999z51 hk9999z32 hj9999z52 hk9999z33 hj9999z53 hk9999z34 hj9999z54 hk9999z35 hj9999z56 hk9999z36 hj9999z58 hk9999z37 hj9999z59 hk9999z38 hj9999z61 hk9999z39 hj9999z63 ron rop rob bko bkn sb sw) (v_X10_actAsOnPaper_14_4 (K := K) (F := F) a G ha hk9999 hj9999 hk9999a hj9999a hk9999b hj9999b hk9999c hj9999c hk9999d hj9999d hk9999e hj9999e hk9999f hj9999f hk9999g hj9999g hk9999h hj9999i hk9999i hj9999k hk9999j hj9999m hk9999k hj9999o hk9999l hj9999q hk9999m hj9999s hk9999n hj9999t hk9999o hj9999u hk9999p hj9999w hk9999q hj9999z25 hk9999r hj9999z27 hk9999s hj9999z29 hk9999t hj9999z31 hk9999u hj9999z33 hk9999v hj9999z34 hk9999w hj9999z36 hk9999y hj9999z38 hk9999z25 hj9999z40 hk9999z26 hj9999z42 hk9999z27 hj9999z44 hk9999z28 hj9999z46 hk9999z29 hj9999z48 hk9999z30 hj9999z50 hk9999z31 hj9999z51 hk9999z32 hj9999z52 hk9999z33 hj9999z53 hk9999z34 hj9999z54 hk9999z35 hj9999z56 hk9999z36 hj9999z58 hk9999z37 hj9999z59 hk9999z38 hj9999z61 hk9999z39 hj9999z63 ron rop rob bko bkn sb sw) (v_X10_actAsOnPaper_14_5 (K := K) (F := F) a G ha hk9999 hj9999 hk9999a hj9999a hk9999b hj9999b hk9999c hj9999c hk9999d hj9999d hk9999e hj9999e hk9999f hj9999f hk9999g hj9999g hk9999h hj9999i hk9999i hj9999k hk9999j hj9999m hk9999k hj9999o hk9999l hj9999q hk9999m hj9999s hk9999n hj9999t hk9999o hj9999u hk9999p hj9999w hk9999q hj9999z25 hk9999r hj9999z27 hk9999s hj9999z29 hk9999t hj9999z31 hk9999u hj9999z33 hk9999v hj9999z34 hk9999w hj9999z36 hk9999y hj9999z38 hk9999z25 hj9999z40 hk9999z26 hj9999z42 hk9999z27 hj9999z44 hk9999z28 hj9999z46 hk9999z29 hj9999z48 hk9999z30 hj9999z50 hk9999z31 hj9999z51 hk9999z32 hj9999z52 hk9999z33 hj9999z53 hk9999z34 hj9999z54 hk9999z35 hj9999z56 hk9999z36 hj9999z58 hk9999z37 hj9999z59 hk9999z38 hj9999z61 hk9999z39 hj9999z63 ron rop rob bko bkn sb sw)) mv_X10_gather km_X10_240 rfl rfl ⟨Nat.le_of_ble_eq_true rfl, Nat.le_of_ble_eq_true rfl⟩ (rc_12 hK hT ha) hK (fun _ => XP.blind) (fun U hU hW => XP.at hK hz hS hT hU hW) rfl hl.1 (Nat.le_of_ble_eq_true rfl) dX10_actAsOnPaper_14 ⟨Nat.le_of_ble_eq_true rfl, Nat.le_of_ble_eq_true rfl⟩) hS ?_
  rintro G14 H locs ⟨hF14, t14, oq14⟩ hT hS
  have t14 : 0 ≤ ((G14.1 (F a 9) 6).toInt) ∧ ((G14.1 (F a 9) 6).toInt) ≤ 1080 := t14
  refine lv_aload_n hx hb dX10_actAsOnPaper_17 rfl (lv_at hl 0 rfl) ?_
  refine x_cl (x_runV (b := a) (As := []) (rest := []) S (c_X10_askAtOnce l E K F G14 a ha (t14)) mv_X10_askAtOnce km_X10_401 rfl rfl ⟨Nat.le_of_ble_eq_true rfl, Nat.le_of_ble_eq_true rfl⟩ (rc_12 hK hT ha) hK (fun _ => XP.blind) (fun U hU hW => XP.at hK hz hS hT hU hW) rfl hl.1 (Nat.le_of_ble_eq_true rfl) dX10_actAsOnPaper_18 ⟨Nat.le_of_ble_eq_true rfl, Nat.le_of_ble_eq_true rfl⟩) hS ?_
  rintro _ G18 H locs ⟨x18, rfl, b18, hF18, oq18⟩ hT hS
  refine xi_zne (tgt := 31) hx hb (rfl : Int32.toInt x18 = x18.toInt) dX10_actAsOnPaper_21 (by decide) (fun c21 => ?_) (fun c21 => ?_)
  · refine lv_aload_n hx hb dX10_actAsOnPaper_31 rfl (lv_at hl 0 rfl) ?_
    refine gX10_18 S hK hT ha kf_X10_123 dX10_actAsOnPaper_32 (v := (G.1 a 18)) ((hF18.1 _ _ (xnj (by decide) (xnj (by decide) (xnj (by decide) xn0)))).trans (hF14.1 _ _ (xnj (by decide) (xnj (by decide) xn0)))) (fun hz32 => ?_)
    refine xi_zne (tgt := 71) hx hb (rfl : Int32.toInt (G.1 a 18) = ((G.1 a 18).toInt)) dX10_actAsOnPaper_35 (by decide) (fun c35 => ?_) (fun c35 => ?_)
    · refine lv_aload_n hx hb dX10_actAsOnPaper_71 rfl (lv_at hl 0 rfl) ?_
      refine lv_iconst (v := 0) hx hb dX10_actAsOnPaper_72 (by decide) ?_
      refine x_cv0 (x_runV (b := a) (As := [.int 0]) (rest := []) S (c_X10_tally l E K F G18 a 0 ha (Or.inl rfl) (v_X10_actAsOnPaper_73_6 (F := F) a G G18 ron rop rob ((hF18.2.1 _ (xn1 (xne_k hk9999z35 hk9999n (by decide)) xn0)).trans (hF14.2.1 _ (xn1 (xne_k hk9999z35 hk9999e (by decide)) (xn1 (xne_k hk9999z35 hk9999f (by decide)) (xn1 (xne_k hk9999z35 hk9999g (by decide)) (xn1 (xne_k hk9999z35 hk9999h (by decide)) (xn1 (xne_k hk9999z35 hk9999i (by decide)) (xn1 (xne_k hk9999z35 hk9999j (by decide)) (xn1 (xne_k hk9999z35 hk9999k (by decide)) (xn1 (xne_k hk9999z35 hk9999l (by decide)) (xn1 (xne_k hk9999z35 hk9999m (by decide)) xn0))))))))))) ((hF18.2.1 _ (xn1 (xne_k hk9999z36 hk9999n (by decide)) xn0)).trans (hF14.2.1 _ (xn1 (xne_j hj9999z58 hj9999e (by first | decide | omega)) (xn1 (xne_j hj9999z58 hj9999f (by first | decide | omega)) (xn1 (xne_k hk9999z36 hk9999g (by decide)) (xn1 (xne_k hk9999z36 hk9999h (by decide)) (xn1 (xne_k hk9999z36 hk9999i (by decide)) (xn1 (xne_k hk9999z36 hk9999j (by decide)) (xn1 (xne_k hk9999z36 hk9999k (by decide)) (xn1 (xne_k hk9999z36 hk9999l (by decide)) (xn1 (xne_k hk9999z36 hk9999m (by decide)) xn0)))))))))))) (v_X10_actAsOnPaper_73_7 (K := K) (F := F) a G G18 G14 x18 ha hk9999 hj9999 hk9999a hj9999a hk9999b hj9999b hk9999c hj9999c hk9999d hj9999d hk9999e hj9999e hk9999f hj9999f hk9999g hj9999g hk9999h hj9999i hk9999i hj9999k hk9999j hj9999m hk9999k hj9999o hk9999l hj9999q hk9999m hj9999s hk9999n hj9999t hk9999o hj9999u hk9999p hj9999w hk9999q hj9999z25 hk9999r hj9999z27 hk9999s hj9999z29 hk9999t hj9999z31 hk9999u hj9999z33 hk9999v hj9999z34 hk9999w hj9999z36 hk9999y hj9999z38 hk9999z25 hj9999z40 hk9999z26 hj9999z42 hk9999z27 hj9999z44 hk9999z28 hj9999z46 hk9999z29 hj9999z48 hk9999z30 hj9999z50 hk9999z31 hj9999z51 hk9999z32 hj9999z52 hk9999z33 hj9999z53 hk9999z34 hj9999z54 hk9999z35 hj9999z56 hk9999z36 hj9999z58 hk9999z37 hj9999z59 hk9999z38 hj9999z61 hk9999z39 hj9999z63 (XFr.call (XFr.call XFr.rf hF14 (xm1 0 rfl (xm1 1 rfl xm0)) (xm1 0 rfl (xm1 1 rfl (xm1 2 rfl (xm1 3 rfl (xm1 4 rfl (xm1 5 rfl (xm1 6 rfl (xm1 7 rfl (xm1 8 rfl xm0))))))))) xm0) hF18 (xm1 2 rfl (xm1 3 rfl (xm1 4 rfl xm0))) (xm1 9 rfl xm0) xm0) hF14 hF18 ron rop rob bko bkn oq14 oq18 sb sw t14 c21 (xzi hz32) c35 ((hF18.2.1 _ (xn1 (xne_k hk9999p hk9999n (by decide)) xn0)).trans (hF14.2.1 _ (xn1 (xne_k hk9999p hk9999e (by decide)) (xn1 (xne_k hk9999p hk9999f (by decide)) (xn1 (xne_k hk9999p hk9999g (by decide)) (xn1 (xne_j hj9999w hj9999i (by first | decide | omega)) (xn1 (xne_j hj9999w hj9999k (by first | decide | omega)) (xn1 (xne_j hj9999w hj9999m (by first | decide | omega)) (xn1 (xne_j hj9999w hj9999o (by first | decide | omega)) (xn1 (xne_k hk9999p hk9999l (by decide)) (xn1 (xne_k hk9999p hk9999m (by decide)) xn0))))))))))) ((hF18.2.1 _ (xn1 (xne_k hk9999q hk9999n (by decide)) xn0)).trans (hF14.2.1 _ (xn1 (xne_k hk9999q hk9999e (by decide)) (xn1 (xne_k hk9999q hk9999f (by decide)) (xn1 (xne_k hk9999q hk9999g (by decide)) (xn1 (xne_j hj9999z25 hj9999i (by first | decide | omega)) (xn1 (xne_j hj9999z25 hj9999k (by first | decide | omega)) (xn1 (xne_j hj9999z25 hj9999m (by first | decide | omega)) (xn1 (xne_j hj9999z25 hj9999o (by first | decide | omega)) (xn1 (xne_k hk9999q hk9999l (by decide)) (xn1 (xne_k hk9999q hk9999m (by decide)) xn0))))))))))) ((hF18.2.1 _ (xn1 (xne_k hk9999r hk9999n (by decide)) xn0)).trans (hF14.2.1 _ (xn1 (xne_k hk9999r hk9999e (by decide)) (xn1 (xne_k hk9999r hk9999f (by decide)) (xn1 (xne_k hk9999r hk9999g (by decide)) (xn1 (xne_j hj9999z27 hj9999i (by first | decide | omega)) (xn1 (xne_j hj9999z27 hj9999k (by first | decide | omega)) (xn1 (xne_j hj9999z27 hj9999m (by first | decide | omega)) (xn1 (xne_j hj9999z27 hj9999o (by first | decide | omega)) (xn1 (xne_k hk9999r hk9999l (by decide)) (xn1 (xne_k hk9999r hk9999m (by decide)) xn0))))))))))) ((hF18.2.1 _ (xn1 (xne_k hk9999s hk9999n (by decide)) xn0)).trans (hF14.2.1 _ (xn1 (xne_k hk9999s hk9999e (by decide)) (xn1 (xne_k hk9999s hk9999f (by decide)) (xn1 (xne_k hk9999s hk9999g (by decide)) (xn1 (xne_j hj9999z29 hj9999i (by first | decide | omega)) (xn1 (xne_j hj9999z29 hj9999k (by first | decide | omega)) (xn1 (xne_j hj9999z29 hj9999m (by first | decide | omega)) (xn1 (xne_j hj9999z29 hj9999o (by first | decide | omega)) (xn1 (xne_k hk9999s hk9999l (by decide)) (xn1 (xne_k hk9999s hk9999m (by decide)) xn0))))))))))) ((hF18.2.1 _ (xn1 (xne_k hk9999t hk9999n (by decide)) xn0)).trans (hF14.2.1 _ (xn1 (xne_k hk9999t hk9999e (by decide)) (xn1 (xne_k hk9999t hk9999f (by decide)) (xn1 (xne_k hk9999t hk9999g (by decide)) (xn1 (xne_k hk9999t hk9999h (by decide)) (xn1 (xne_k hk9999t hk9999i (by decide)) (xn1 (xne_k hk9999t hk9999j (by decide)) (xn1 (xne_k hk9999t hk9999k (by decide)) (xn1 (xne_j hj9999z31 hj9999q (by first | decide | omega)) (xn1 (xne_j hj9999z31 hj9999s (by first | decide | omega)) xn0))))))))))) ((hF18.2.1 _ (xn1 (xne_k hk9999u hk9999n (by decide)) xn0)).trans (hF14.2.1 _ (xn1 (xne_k hk9999u hk9999e (by decide)) (xn1 (xne_k hk9999u hk9999f (by decide)) (xn1 (xne_k hk9999u hk9999g (by decide)) (xn1 (xne_k hk9999u hk9999h (by decide)) (xn1 (xne_k hk9999u hk9999i (by decide)) (xn1 (xne_k hk9999u hk9999j (by decide)) (xn1 (xne_k hk9999u hk9999k (by decide)) (xn1 (xne_j hj9999z33 hj9999q (by first | decide | omega)) (xn1 (xne_j hj9999z33 hj9999s (by first | decide | omega)) xn0))))))))))) (hF18.2.1 _ (xn1 (xne_k hk9999e hk9999n (by decide)) xn0)) (hF18.2.1 _ (xn1 (xne_k hk9999f hk9999n (by decide)) xn0)) (hF18.2.1 _ (xn1 (xne_k hk9999g hk9999n (by decide)) xn0)) ((hF18.2.1 _ (xn1 (xne_k hk9999w hk9999n (by decide)) xn0)).trans (hF14.2.1 _ (xn1 (xne_k hk9999w hk9999e (by decide)) (xn1 (xne_k hk9999w hk9999f (by decide)) (xn1 (xne_k hk9999w hk9999g (by decide)) (xn1 (xne_k hk9999w hk9999h (by decide)) (xn1 (xne_k hk9999w hk9999i (by decide)) (xn1 (xne_k hk9999w hk9999j (by decide)) (xn1 (xne_k hk9999w hk9999k (by decide)) (xn1 (xne_k hk9999w hk9999l (by decide)) (xn1 (xne_k hk9999w hk9999m (by decide)) xn0))))))))))) ((hF18.2.1 _ (xn1 (xne_k hk9999y hk9999n (by decide)) xn0)).trans (hF14.2.1 _ (xn1 (xne_j hj9999z38 hj9999e (by first | decide | omega)) (xn1 (xne_j hj9999z38 hj9999f (by first | decide | omega)) (xn1 (xne_k hk9999y hk9999g (by decide)) (xn1 (xne_k hk9999y hk9999h (by decide)) (xn1 (xne_k hk9999y hk9999i (by decide)) (xn1 (xne_k hk9999y hk9999j (by decide)) (xn1 (xne_k hk9999y hk9999k (by decide)) (xn1 (xne_k hk9999y hk9999l (by decide)) (xn1 (xne_k hk9999y hk9999m (by decide)) xn0))))))))))) ((hF18.2.1 _ (xn1 (xne_k hk9999z25 hk9999n (by decide)) xn0)).trans (hF14.2.1 _ (xn1 (xne_k hk9999z25 hk9999e (by decide)) (xn1 (xne_k hk9999z25 hk9999f (by decide)) (xn1 (xne_k hk9999z25 hk9999g (by decide)) (xn1 (xne_j hj9999z40 hj9999i (by first | decide | omega)) (xn1 (xne_j hj9999z40 hj9999k (by first | decide | omega)) (xn1 (xne_j hj9999z40 hj9999m (by first | decide | omega)) (xn1 (xne_j hj9999z40 hj9999o (by first | decide | omega)) (xn1 (xne_k hk9999z25 hk9999l (by decide)) (xn1 (xne_k hk9999z25 hk9999m (by decide)) xn0))))))))))) ((hF18.2.1 _ (xn1 (xne_k hk9999z26 hk9999n (by decide)) xn0)).trans (hF14.2.1 _ (xn1 (xne_k hk9999z26 hk9999e (by decide)) (xn1 (xne_k hk9999z26 hk9999f (by decide)) (xn1 (xne_k hk9999z26 hk9999g (by decide)) (xn1 (xne_j hj9999z42 hj9999i (by first | decide | omega)) (xn1 (xne_j hj9999z42 hj9999k (by first | decide | omega)) (xn1 (xne_j hj9999z42 hj9999m (by first | decide | omega)) (xn1 (xne_j hj9999z42 hj9999o (by first | decide | omega)) (xn1 (xne_k hk9999z26 hk9999l (by decide)) (xn1 (xne_k hk9999z26 hk9999m (by decide)) xn0))))))))))) ((hF18.2.1 _ (xn1 (xne_k hk9999z27 hk9999n (by decide)) xn0)).trans (hF14.2.1 _ (xn1 (xne_k hk9999z27 hk9999e (by decide)) (xn1 (xne_k hk9999z27 hk9999f (by decide)) (xn1 (xne_k hk9999z27 hk9999g (by decide)) (xn1 (xne_j hj9999z44 hj9999i (by first | decide | omega)) (xn1 (xne_j hj9999z44 hj9999k (by first | decide | omega)) (xn1 (xne_j hj9999z44 hj9999m (by first | decide | omega)) (xn1 (xne_j hj9999z44 hj9999o (by first | decide | omega)) (xn1 (xne_k hk9999z27 hk9999l (by decide)) (xn1 (xne_k hk9999z27 hk9999m (by decide)) xn0))))))))))) ((hF18.2.1 _ (xn1 (xne_k hk9999z28 hk9999n (by decide)) xn0)).trans (hF14.2.1 _ (xn1 (xne_k hk9999z28 hk9999e (by decide)) (xn1 (xne_k hk9999z28 hk9999f (by decide)) (xn1 (xne_k hk9999z28 hk9999g (by decide)) (xn1 (xne_j hj9999z46 hj9999i (by first | decide | omega)) (xn1 (xne_j hj9999z46 hj9999k (by first | decide | omega)) (xn1 (xne_j hj9999z46 hj9999m (by first | decide | omega)) (xn1 (xne_j hj9999z46 hj9999o (by first | decide | omega)) (xn1 (xne_k hk9999z28 hk9999l (by decide)) (xn1 (xne_k hk9999z28 hk9999m (by decide)) xn0))))))))))) ((hF18.2.1 _ (xn1 (xne_k hk9999z29 hk9999n (by decide)) xn0)).trans (hF14.2.1 _ (xn1 (xne_k hk9999z29 hk9999e (by decide)) (xn1 (xne_k hk9999z29 hk9999f (by decide)) (xn1 (xne_k hk9999z29 hk9999g (by decide)) (xn1 (xne_k hk9999z29 hk9999h (by decide)) (xn1 (xne_k hk9999z29 hk9999i (by decide)) (xn1 (xne_k hk9999z29 hk9999j (by decide)) (xn1 (xne_k hk9999z29 hk9999k (by decide)) (xn1 (xne_j hj9999z48 hj9999q (by first | decide | omega)) (xn1 (xne_j hj9999z48 hj9999s (by first | decide | omega)) xn0))))))))))) ((hF18.2.1 _ (xn1 (xne_k hk9999z30 hk9999n (by decide)) xn0)).trans (hF14.2.1 _ (xn1 (xne_k hk9999z30 hk9999e (by decide)) (xn1 (xne_k hk9999z30 hk9999f (by decide)) (xn1 (xne_k hk9999z30 hk9999g (by decide)) (xn1 (xne_k hk9999z30 hk9999h (by decide)) (xn1 (xne_k hk9999z30 hk9999i (by decide)) (xn1 (xne_k hk9999z30 hk9999j (by decide)) (xn1 (xne_k hk9999z30 hk9999k (by decide)) (xn1 (xne_j hj9999z50 hj9999q (by first | decide | omega)) (xn1 (xne_j hj9999z50 hj9999s (by first | decide | omega)) xn0))))))))))) (hF18.2.1 _ (xn1 (xne_k hk9999h hk9999n (by decide)) xn0)) (hF18.2.1 _ (xn1 (xne_k hk9999i hk9999n (by decide)) xn0)) (hF18.2.1 _ (xn1 (xne_k hk9999j hk9999n (by decide)) xn0)) (hF18.2.1 _ (xn1 (xne_k hk9999k hk9999n (by decide)) xn0)) (hF18.2.1 _ (xn1 (xne_k hk9999l hk9999n (by decide)) xn0)) (hF18.2.1 _ (xn1 (xne_k hk9999m hk9999n (by decide)) xn0)) ((hF18.2.1 _ (xn1 (xne_k hk9999o hk9999n (by decide)) xn0)).trans (hF14.2.1 _ (xn1 (xne_k hk9999o hk9999e (by decide)) (xn1 (xne_k hk9999o hk9999f (by decide)) (xn1 (xne_k hk9999o hk9999g (by decide)) (xn1 (xne_k hk9999o hk9999h (by decide)) (xn1 (xne_k hk9999o hk9999i (by decide)) (xn1 (xne_k hk9999o hk9999j (by decide)) (xn1 (xne_k hk9999o hk9999k (by decide)) (xn1 (xne_k hk9999o hk9999l (by decide)) (xn1 (xne_k hk9999o hk9999m (by decide)) xn0))))))))))) ((hF18.2.2 _ xn0).trans (hF14.2.2 _ xn0)) ((hF18.1 _ _ (xnj (by decide) (xnj (by decide) (xnj (by decide) xn0)))).trans (hF14.1 _ _ (xnj (by decide) (xna (xne_j hj9999c hj9999a (by first | decide | omega)) xn0)))) (hF18.1 _ _ (xnj (by decide) (xnj (by decide) (xna (xne_k hk9999 hk9999b (by decide)) xn0)))) ((hF18.1 _ _ (xnj (by decide) (xnj (by decide) (xnj (by decide) xn0)))).trans (hF14.1 _ _ (xnj (by decide) (xna (xne_j hj9999d hj9999a (by first | decide | omega)) xn0)))) (hF18.1 _ _ (xnj (by decide) (xnj (by decide) (xnj (by decide) xn0)))))) mv_X10_tally km_X10_251 rfl rfl ⟨Nat.le_of_ble_eq_true rfl, Nat.le_of_ble_eq_true rfl⟩ (rc_12 hK hT ha) hK (fun _ => XP.blind) (fun U hU hW => XP.at hK hz hS hT hU hW) rfl hl.1 (Nat.le_of_ble_eq_true rfl) dX10_actAsOnPaper_73 ⟨Nat.le_of_ble_eq_true rfl, Nat.le_of_ble_eq_true rfl⟩) hS ?_
      rintro G73 H locs hF73 hT hS
      refine lv_aload_n hx hb dX10_actAsOnPaper_76 rfl (lv_at hl 0 rfl) ?_
      refine gX10_15 S hK hT ha kf_X10_95 dX10_actAsOnPaper_77 (fun _ _ => ?_)
      refine lv_iconst (v := 4) hx hb dX10_actAsOnPaper_80 (by decide) ?_
      refine lv_dup2_11 hx hb dX10_actAsOnPaper_81 rfl rfl ?_
      refine al_0 S hK hT hk9999o ar_26 (by decide) (by decide) dX10_actAsOnPaper_82 (fun x82 hv82 o82 => ?_)
      have hv82 : x82.toInt = (aI (G73.2.1 (F a 15)) 4) := hv82.trans (by rw [((by decide) : Int32.toInt 4 = (4 : Int))])
      refine lv_iconst (v := 1) hx hb dX10_actAsOnPaper_83 (by decide) ?_
      refine xi_iadd hx hb (hv82 : Int32.toInt x82 = (aI (G73.2.1 (F a 15)) 4)) ((by decide) : Int32.toInt 1 = (1 : Int)) dX10_actAsOnPaper_84 (fun x84 t84 => ?_)
      refine as_0 (x := x84) S hK hT hS hk9999o ar_26 aw_26 (by decide) (by decide) dX10_actAsOnPaper_85 (fun H locs hT hS => ?_)
      obtain ⟨G85, hG85⟩ : ∃ GG : XG, GG = cput G73 (F a 15) (4 : Int32).toNatClampNeg x84 := ⟨_, rfl⟩
      rw [← hG85] at hT
      refine lv_aload_n hx hb dX10_actAsOnPaper_86 rfl (lv_at hl 0 rfl) ?_
      refine gX10_3 S hK hT ha kf_X10_37 dX10_actAsOnPaper_87 (fun _ _ => ?_)
      refine lv_aload_n hx hb dX10_actAsOnPaper_90 rfl (lv_at hl 0 rfl) ?_
      refine gX10_5 S hK hT ha kf_X10_44 dX10_actAsOnPaper_91 (fun _ _ => ?_)
      refine x_cv0 (x_runV (b := (F a 3)) (As := [.ref (F a 5)]) (rest := []) S (c_X6_copy l E K F G85 (F a 3) (F a 5) hk9999v hk9999z37 (v_X10_actAsOnPaper_94_8 (F := F) a G G85 ron rop rob ((lc_c hG85 (xne_k hk9999z38 hk9999o (by decide))).trans ((hF73.2.1 _ (xn1 (xne_k hk9999z38 hk9999o (by decide)) xn0)).trans ((hF18.2.1 _ (xn1 (xne_k hk9999z38 hk9999n (by decide)) xn0)).trans (hF14.2.1 _ (xn1 (xne_k hk9999z38 hk9999e (by decide)) (xn1 (xne_k hk9999z38 hk9999f (by decide)) (xn1 (xne_k hk9999z38 hk9999g (by decide)) (xn1 (xne_k hk9999z38 hk9999h (by decide)) (xn1 (xne_k hk9999z38 hk9999i (by decide)) (xn1 (xne_k hk9999z38 hk9999j (by decide)) (xn1 (xne_k hk9999z38 hk9999k (by decide)) (xn1 (xne_k hk9999z38 hk9999l (by decide)) (xn1 (xne_k hk9999z38 hk9999m (by decide)) xn0))))))))))))) ((lc_c hG85 (xne_k hk9999z39 hk9999o (by decide))).trans ((hF73.2.1 _ (xn1 (xne_k hk9999z39 hk9999o (by decide)) xn0)).trans ((hF18.2.1 _ (xn1 (xne_k hk9999z39 hk9999n (by decide)) xn0)).trans (hF14.2.1 _ (xn1 (xne_j hj9999z63 hj9999e (by first | decide | omega)) (xn1 (xne_j hj9999z63 hj9999f (by first | decide | omega)) (xn1 (xne_k hk9999z39 hk9999g (by decide)) (xn1 (xne_k hk9999z39 hk9999h (by decide)) (xn1 (xne_k hk9999z39 hk9999i (by decide)) (xn1 (xne_k hk9999z39 hk9999j (by decide)) (xn1 (xne_k hk9999z39 hk9999k (by decide)) (xn1 (xne_k hk9999z39 hk9999l (by decide)) (xn1 (xne_k hk9999z39 hk9999m (by decide)) xn0))))))))))))))) mv_X6_copy km_X10_195 rfl rfl ⟨Nat.le_of_ble_eq_true rfl, Nat.le_of_ble_eq_true rfl⟩ (rc_8 hK hT hk9999v) hK (fun _ => XP.blind) (fun U hU hW => XP.at hK hz hS hT hU hW) rfl hl.1 (Nat.le_of_ble_eq_true rfl) dX10_actAsOnPaper_94 ⟨Nat.le_of_ble_eq_true rfl, Nat.le_of_ble_eq_true rfl⟩) hS ?_
      rintro G94 H locs ⟨hF94, oq94, oq94a⟩ hT hS
      have oq94 : (vw (G94.2.1 (F (F a 3) 0))) = (vw (G.2.1 (F (F a 5) 0))) := by simp only [(show G85.2.1 (F (F a 5) 0) = G.2.1 (F (F a 5) 0) from ((lc_c hG85 (xne_k hk9999z38 hk9999o (by decide))).trans ((hF73.2.1 _ (xn1 (xne_k hk9999z38 hk9999o (by decide)) xn0)).trans ((hF18.2.1 _ (xn1 (xne_k hk9999z38 hk9999n (by decide)) xn0)).trans (hF14.2.1 _ (xn1 (xne_k hk9999z38 hk9999e (by decide)) (xn1 (xne_k hk9999z38 hk9999f (by decide)) (xn1 (xne_k hk9999z38 hk9999g (by decide)) (xn1 (xne_k hk9999z38 hk9999h (by decide)) (xn1 (xne_k hk9999z38 hk9999i (by decide)) (xn1 (xne_k hk9999z38 hk9999j (by decide)) (xn1 (xne_k hk9999z38 hk9999k (by decide)) (xn1 (xne_k hk9999z38 hk9999l (by decide)) (xn1 (xne_k hk9999z38 hk9999m (by decide)) xn0))))))))))))))] at oq94; exact oq94
      refine lv_aload_n hx hb dX10_actAsOnPaper_97 rfl (lv_at hl 0 rfl) ?_
      refine lv_aload_n hx hb dX10_actAsOnPaper_98 rfl (lv_at hl 0 rfl) ?_
      refine gX10_8 S hK hT ha kf_X10_57 dX10_actAsOnPaper_99 (fun _ _ => ?_)
      refine lv_aload_n hx hb dX10_actAsOnPaper_102 rfl (lv_at hl 0 rfl) ?_
      refine gX10_4 S hK hT ha kf_X10_41 dX10_actAsOnPaper_103 (fun _ _ => ?_)
      refine lv_aload_n hx hb dX10_actAsOnPaper_106 rfl (lv_at hl 0 rfl) ?_
      refine gX10_3 S hK hT ha kf_X10_37 dX10_actAsOnPaper_107 (fun _ _ => ?_)
      refine lv_iconst (v := 1) hx hb dX10_actAsOnPaper_110 (by decide) ?_
      refine x_cv0 (x_runV (b := a) (As := [.ref (F a 8), .ref (F a 4), .ref (F a 3), .int 1]) (rest := []) S (c_X10_gather l E K F G94 a (F a 8) (F a 4) (F a 3) 1 ha hk9999d hk9999z34 hk9999v (by rw [(show (G94.1 (F a 2) 2).toInt = ((G.1 (F a 2) 2).toInt) from (congrArg Int32.toInt ((hF94.1 _ _ xn0).trans ((lc_d hG85).trans ((hF73.1 _ _ xn0).trans ((hF18.1 _ _ (xnj (by decide) (xna (xne_k hk9999z31 hk9999b (by decide)) (xnj (by decide) xn0)))).trans (hF14.1 _ _ (xnj (by decide) (xnj (by decide) xn0)))))))).trans (rfl : Int32.toInt (G.1 (F a 2) 2) = ((G.1 (F a 2) 2).toInt)))] <;> exact (sb)) (v_X10_actAsOnPaper_111_9 (F := F) a G G94 ron rop rob oq94a ((hF94.2.1 _ (xn1 (xne_j hj9999z56 hj9999z36 (by first | decide | omega)) (xn1 (xne_k hk9999z35 hk9999y (by decide)) xn0))).trans ((lc_c hG85 (xne_k hk9999z35 hk9999o (by decide))).trans ((hF73.2.1 _ (xn1 (xne_k hk9999z35 hk9999o (by decide)) xn0)).trans ((hF18.2.1 _ (xn1 (xne_k hk9999z35 hk9999n (by decide)) xn0)).trans (hF14.2.1 _ (xn1 (xne_k hk9999z35 hk9999e (by decide)) (xn1 (xne_k hk9999z35 hk9999f (by decide)) (xn1 (xne_k hk9999z35 hk9999g (by decide)) (xn1 (xne_k hk9999z35 hk9999h (by decide)) (xn1 (xne_k hk9999z35 hk9999i (by decide)) (xn1 (xne_k hk9999z35 hk9999j (by decide)) (xn1 (xne_k hk9999z35 hk9999k (by decide)) (xn1 (xne_k hk9999z35 hk9999l (by decide)) (xn1 (xne_k hk9999z35 hk9999m (by decide)) xn0)))))))))))))) ((hF94.2.1 _ (xn1 (xne_k hk9999z36 hk9999w (by decide)) (xn1 (xne_j hj9999z58 hj9999z38 (by first | decide | omega)) xn0))).trans ((lc_c hG85 (xne_k hk9999z36 hk9999o (by decide))).trans ((hF73.2.1 _ (xn1 (xne_k hk9999z36 hk9999o (by decide)) xn0)).trans ((hF18.2.1 _ (xn1 (xne_k hk9999z36 hk9999n (by decide)) xn0)).trans (hF14.2.1 _ (xn1 (xne_j hj9999z58 hj9999e (by first | decide | omega)) (xn1 (xne_j hj9999z58 hj9999f (by first | decide | omega)) (xn1 (xne_k hk9999z36 hk9999g (by decide)) (xn1 (xne_k hk9999z36 hk9999h (by decide)) (xn1 (xne_k hk9999z36 hk9999i (by decide)) (xn1 (xne_k hk9999z36 hk9999j (by decide)) (xn1 (xne_k hk9999z36 hk9999k (by decide)) (xn1 (xne_k hk9999z36 hk9999l (by decide)) (xn1 (xne_k hk9999z36 hk9999m (by decide)) xn0))))))))))))))) (v_X10_actAsOnPaper_111_10 (F := F) a G94 oq94a) (v_X10_actAsOnPaper_111_11 (K := K) (F := F) a G G94 G14 G18 G73 G85 x84 x18 x82 ha hk9999 hj9999 hk9999a hj9999a hk9999b hj9999b hk9999c hj9999c hk9999d hj9999d hk9999e hj9999e hk9999f hj9999f hk9999g hj9999g hk9999h hj9999i hk9999i hj9999k hk9999j hj9999m hk9999k hj9999o hk9999l hj9999q hk9999m hj9999s hk9999n hj9999t hk9999o hj9999u hk9999p hj9999w hk9999q hj9999z25 hk9999r hj9999z27 hk9999s hj9999z29 hk9999t hj9999z31 hk9999u hj9999z33 hk9999v hj9999z34 hk9999w hj9999z36 hk9999y hj9999z38 hk9999z25 hj9999z40 hk9999z26 hj9999z42 hk9999z27 hj9999z44 hk9999z28 hj9999z46 hk9999z29 hj9999z48 hk9999z30 hj9999z50 hk9999z31 hj9999z51 hk9999z32 hj9999z52 hk9999z33 hj9999z53 hk9999z34 hj9999z54 hk9999z35 hj9999z56 hk9999z36 hj9999z58 hk9999z37 hj9999z59 hk9999z38 hj9999z61 hk9999z39 hj9999z63 (XFr.call (by rw [hG85]; exact XFr.cput (XFr.call (XFr.call (XFr.call XFr.rf hF14 (xm1 0 rfl (xm1 1 rfl xm0)) (xm1 0 rfl (xm1 1 rfl (xm1 2 rfl (xm1 3 rfl (xm1 4 rfl (xm1 5 rfl (xm1 6 rfl (xm1 7 rfl (xm1 8 rfl xm0))))))))) xm0) hF18 (xm1 2 rfl (xm1 3 rfl (xm1 4 rfl xm0))) (xm1 9 rfl xm0) xm0) hF73 xm0 (xm1 10 rfl xm0) xm0) (List.mem_of_getElem? (i := 10) rfl)) hF94 xm0 (xm1 17 rfl (xm1 18 rfl xm0)) xm0) hF14 hF18 hF73 hG85 hF94 ron rop rob bko bkn oq14 oq18 hv82 oq94 oq94a sb sw t14 c21 (xzi hz32) c35 t84 (hF18.2.1 _ (xn1 (xne_k hk9999h hk9999n (by decide)) xn0)) (hF18.2.1 _ (xn1 (xne_k hk9999i hk9999n (by decide)) xn0)) (hF18.2.1 _ (xn1 (xne_k hk9999j hk9999n (by decide)) xn0)) (hF18.2.1 _ (xn1 (xne_k hk9999k hk9999n (by decide)) xn0)) (hF18.2.1 _ (xn1 (xne_k hk9999l hk9999n (by decide)) xn0)) (hF18.2.1 _ (xn1 (xne_k hk9999m hk9999n (by decide)) xn0)) ((hF94.2.1 _ (xn1 (xne_k hk9999p hk9999w (by decide)) (xn1 (xne_k hk9999p hk9999y (by decide)) xn0))).trans ((lc_c hG85 (xne_k hk9999p hk9999o (by decide))).trans ((hF73.2.1 _ (xn1 (xne_k hk9999p hk9999o (by decide)) xn0)).trans ((hF18.2.1 _ (xn1 (xne_k hk9999p hk9999n (by decide)) xn0)).trans (hF14.2.1 _ (xn1 (xne_k hk9999p hk9999e (by decide)) (xn1 (xne_k hk9999p hk9999f (by decide)) (xn1 (xne_k hk9999p hk9999g (by decide)) (xn1 (xne_j hj9999w hj9999i (by first | decide | omega)) (xn1 (xne_j hj9999w hj9999k (by first | decide | omega)) (xn1 (xne_j hj9999w hj9999m (by first | decide | omega)) (xn1 (xne_j hj9999w hj9999o (by first | decide | omega)) (xn1 (xne_k hk9999p hk9999l (by decide)) (xn1 (xne_k hk9999p hk9999m (by decide)) xn0)))))))))))))) ((hF94.2.1 _ (xn1 (xne_k hk9999q hk9999w (by decide)) (xn1 (xne_k hk9999q hk9999y (by decide)) xn0))).trans ((lc_c hG85 (xne_k hk9999q hk9999o (by decide))).trans ((hF73.2.1 _ (xn1 (xne_k hk9999q hk9999o (by decide)) xn0)).trans ((hF18.2.1 _ (xn1 (xne_k hk9999q hk9999n (by decide)) xn0)).trans (hF14.2.1 _ (xn1 (xne_k hk9999q hk9999e (by decide)) (xn1 (xne_k hk9999q hk9999f (by decide)) (xn1 (xne_k hk9999q hk9999g (by decide)) (xn1 (xne_j hj9999z25 hj9999i (by first | decide | omega)) (xn1 (xne_j hj9999z25 hj9999k (by first | decide | omega)) (xn1 (xne_j hj9999z25 hj9999m (by first | decide | omega)) (xn1 (xne_j hj9999z25 hj9999o (by first | decide | omega)) (xn1 (xne_k hk9999q hk9999l (by decide)) (xn1 (xne_k hk9999q hk9999m (by decide)) xn0)))))))))))))) ((hF94.2.1 _ (xn1 (xne_k hk9999r hk9999w (by decide)) (xn1 (xne_k hk9999r hk9999y (by decide)) xn0))).trans ((lc_c hG85 (xne_k hk9999r hk9999o (by decide))).trans ((hF73.2.1 _ (xn1 (xne_k hk9999r hk9999o (by decide)) xn0)).trans ((hF18.2.1 _ (xn1 (xne_k hk9999r hk9999n (by decide)) xn0)).trans (hF14.2.1 _ (xn1 (xne_k hk9999r hk9999e (by decide)) (xn1 (xne_k hk9999r hk9999f (by decide)) (xn1 (xne_k hk9999r hk9999g (by decide)) (xn1 (xne_j hj9999z27 hj9999i (by first | decide | omega)) (xn1 (xne_j hj9999z27 hj9999k (by first | decide | omega)) (xn1 (xne_j hj9999z27 hj9999m (by first | decide | omega)) (xn1 (xne_j hj9999z27 hj9999o (by first | decide | omega)) (xn1 (xne_k hk9999r hk9999l (by decide)) (xn1 (xne_k hk9999r hk9999m (by decide)) xn0)))))))))))))) ((hF94.2.1 _ (xn1 (xne_k hk9999s hk9999w (by decide)) (xn1 (xne_k hk9999s hk9999y (by decide)) xn0))).trans ((lc_c hG85 (xne_k hk9999s hk9999o (by decide))).trans ((hF73.2.1 _ (xn1 (xne_k hk9999s hk9999o (by decide)) xn0)).trans ((hF18.2.1 _ (xn1 (xne_k hk9999s hk9999n (by decide)) xn0)).trans (hF14.2.1 _ (xn1 (xne_k hk9999s hk9999e (by decide)) (xn1 (xne_k hk9999s hk9999f (by decide)) (xn1 (xne_k hk9999s hk9999g (by decide)) (xn1 (xne_j hj9999z29 hj9999i (by first | decide | omega)) (xn1 (xne_j hj9999z29 hj9999k (by first | decide | omega)) (xn1 (xne_j hj9999z29 hj9999m (by first | decide | omega)) (xn1 (xne_j hj9999z29 hj9999o (by first | decide | omega)) (xn1 (xne_k hk9999s hk9999l (by decide)) (xn1 (xne_k hk9999s hk9999m (by decide)) xn0)))))))))))))) ((hF94.2.1 _ (xn1 (xne_k hk9999t hk9999w (by decide)) (xn1 (xne_k hk9999t hk9999y (by decide)) xn0))).trans ((lc_c hG85 (xne_k hk9999t hk9999o (by decide))).trans ((hF73.2.1 _ (xn1 (xne_k hk9999t hk9999o (by decide)) xn0)).trans ((hF18.2.1 _ (xn1 (xne_k hk9999t hk9999n (by decide)) xn0)).trans (hF14.2.1 _ (xn1 (xne_k hk9999t hk9999e (by decide)) (xn1 (xne_k hk9999t hk9999f (by decide)) (xn1 (xne_k hk9999t hk9999g (by decide)) (xn1 (xne_k hk9999t hk9999h (by decide)) (xn1 (xne_k hk9999t hk9999i (by decide)) (xn1 (xne_k hk9999t hk9999j (by decide)) (xn1 (xne_k hk9999t hk9999k (by decide)) (xn1 (xne_j hj9999z31 hj9999q (by first | decide | omega)) (xn1 (xne_j hj9999z31 hj9999s (by first | decide | omega)) xn0)))))))))))))) ((hF94.2.1 _ (xn1 (xne_k hk9999u hk9999w (by decide)) (xn1 (xne_k hk9999u hk9999y (by decide)) xn0))).trans ((lc_c hG85 (xne_k hk9999u hk9999o (by decide))).trans ((hF73.2.1 _ (xn1 (xne_k hk9999u hk9999o (by decide)) xn0)).trans ((hF18.2.1 _ (xn1 (xne_k hk9999u hk9999n (by decide)) xn0)).trans (hF14.2.1 _ (xn1 (xne_k hk9999u hk9999e (by decide)) (xn1 (xne_k hk9999u hk9999f (by decide)) (xn1 (xne_k hk9999u hk9999g (by decide)) (xn1 (xne_k hk9999u hk9999h (by decide)) (xn1 (xne_k hk9999u hk9999i (by decide)) (xn1 (xne_k hk9999u hk9999j (by decide)) (xn1 (xne_k hk9999u hk9999k (by decide)) (xn1 (xne_j hj9999z33 hj9999q (by first | decide | omega)) (xn1 (xne_j hj9999z33 hj9999s (by first | decide | omega)) xn0)))))))))))))) ((hF94.2.1 _ (xn1 (xne_k hk9999e hk9999w (by decide)) (xn1 (xne_j hj9999e hj9999z38 (by first | decide | omega)) xn0))).trans ((lc_c hG85 (xne_k hk9999e hk9999o (by decide))).trans ((hF73.2.1 _ (xn1 (xne_k hk9999e hk9999o (by decide)) xn0)).trans (hF18.2.1 _ (xn1 (xne_k hk9999e hk9999n (by decide)) xn0))))) ((hF94.2.1 _ (xn1 (xne_k hk9999f hk9999w (by decide)) (xn1 (xne_j hj9999f hj9999z38 (by first | decide | omega)) xn0))).trans ((lc_c hG85 (xne_k hk9999f hk9999o (by decide))).trans ((hF73.2.1 _ (xn1 (xne_k hk9999f hk9999o (by decide)) xn0)).trans (hF18.2.1 _ (xn1 (xne_k hk9999f hk9999n (by decide)) xn0))))) ((hF94.2.1 _ (xn1 (xne_k hk9999g hk9999w (by decide)) (xn1 (xne_k hk9999g hk9999y (by decide)) xn0))).trans ((lc_c hG85 (xne_k hk9999g hk9999o (by decide))).trans ((hF73.2.1 _ (xn1 (xne_k hk9999g hk9999o (by decide)) xn0)).trans (hF18.2.1 _ (xn1 (xne_k hk9999g hk9999n (by decide)) xn0))))) ((hF94.2.1 _ (xn1 (xne_k hk9999z25 hk9999w (by decide)) (xn1 (xne_k hk9999z25 hk9999y (by decide)) xn0))).trans ((lc_c hG85 (xne_k hk9999z25 hk9999o (by decide))).trans ((hF73.2.1 _ (xn1 (xne_k hk9999z25 hk9999o (by decide)) xn0)).trans ((hF18.2.1 _ (xn1 (xne_k hk9999z25 hk9999n (by decide)) xn0)).trans (hF14.2.1 _ (xn1 (xne_k hk9999z25 hk9999e (by decide)) (xn1 (xne_k hk9999z25 hk9999f (by decide)) (xn1 (xne_k hk9999z25 hk9999g (by decide)) (xn1 (xne_j hj9999z40 hj9999i (by first | decide | omega)) (xn1 (xne_j hj9999z40 hj9999k (by first | decide | omega)) (xn1 (xne_j hj9999z40 hj9999m (by first | decide | omega)) (xn1 (xne_j hj9999z40 hj9999o (by first | decide | omega)) (xn1 (xne_k hk9999z25 hk9999l (by decide)) (xn1 (xne_k hk9999z25 hk9999m (by decide)) xn0)))))))))))))) ((hF94.2.1 _ (xn1 (xne_k hk9999z26 hk9999w (by decide)) (xn1 (xne_k hk9999z26 hk9999y (by decide)) xn0))).trans ((lc_c hG85 (xne_k hk9999z26 hk9999o (by decide))).trans ((hF73.2.1 _ (xn1 (xne_k hk9999z26 hk9999o (by decide)) xn0)).trans ((hF18.2.1 _ (xn1 (xne_k hk9999z26 hk9999n (by decide)) xn0)).trans (hF14.2.1 _ (xn1 (xne_k hk9999z26 hk9999e (by decide)) (xn1 (xne_k hk9999z26 hk9999f (by decide)) (xn1 (xne_k hk9999z26 hk9999g (by decide)) (xn1 (xne_j hj9999z42 hj9999i (by first | decide | omega)) (xn1 (xne_j hj9999z42 hj9999k (by first | decide | omega)) (xn1 (xne_j hj9999z42 hj9999m (by first | decide | omega)) (xn1 (xne_j hj9999z42 hj9999o (by first | decide | omega)) (xn1 (xne_k hk9999z26 hk9999l (by decide)) (xn1 (xne_k hk9999z26 hk9999m (by decide)) xn0)))))))))))))) ((hF94.2.1 _ (xn1 (xne_k hk9999z27 hk9999w (by decide)) (xn1 (xne_k hk9999z27 hk9999y (by decide)) xn0))).trans ((lc_c hG85 (xne_k hk9999z27 hk9999o (by decide))).trans ((hF73.2.1 _ (xn1 (xne_k hk9999z27 hk9999o (by decide)) xn0)).trans ((hF18.2.1 _ (xn1 (xne_k hk9999z27 hk9999n (by decide)) xn0)).trans (hF14.2.1 _ (xn1 (xne_k hk9999z27 hk9999e (by decide)) (xn1 (xne_k hk9999z27 hk9999f (by decide)) (xn1 (xne_k hk9999z27 hk9999g (by decide)) (xn1 (xne_j hj9999z44 hj9999i (by first | decide | omega)) (xn1 (xne_j hj9999z44 hj9999k (by first | decide | omega)) (xn1 (xne_j hj9999z44 hj9999m (by first | decide | omega)) (xn1 (xne_j hj9999z44 hj9999o (by first | decide | omega)) (xn1 (xne_k hk9999z27 hk9999l (by decide)) (xn1 (xne_k hk9999z27 hk9999m (by decide)) xn0)))))))))))))) ((hF94.2.1 _ (xn1 (xne_k hk9999z28 hk9999w (by decide)) (xn1 (xne_k hk9999z28 hk9999y (by decide)) xn0))).trans ((lc_c hG85 (xne_k hk9999z28 hk9999o (by decide))).trans ((hF73.2.1 _ (xn1 (xne_k hk9999z28 hk9999o (by decide)) xn0)).trans ((hF18.2.1 _ (xn1 (xne_k hk9999z28 hk9999n (by decide)) xn0)).trans (hF14.2.1 _ (xn1 (xne_k hk9999z28 hk9999e (by decide)) (xn1 (xne_k hk9999z28 hk9999f (by decide)) (xn1 (xne_k hk9999z28 hk9999g (by decide)) (xn1 (xne_j hj9999z46 hj9999i (by first | decide | omega)) (xn1 (xne_j hj9999z46 hj9999k (by first | decide | omega)) (xn1 (xne_j hj9999z46 hj9999m (by first | decide | omega)) (xn1 (xne_j hj9999z46 hj9999o (by first | decide | omega)) (xn1 (xne_k hk9999z28 hk9999l (by decide)) (xn1 (xne_k hk9999z28 hk9999m (by decide)) xn0)))))))))))))) ((hF94.2.1 _ (xn1 (xne_k hk9999z29 hk9999w (by decide)) (xn1 (xne_k hk9999z29 hk9999y (by decide)) xn0))).trans ((lc_c hG85 (xne_k hk9999z29 hk9999o (by decide))).trans ((hF73.2.1 _ (xn1 (xne_k hk9999z29 hk9999o (by decide)) xn0)).trans ((hF18.2.1 _ (xn1 (xne_k hk9999z29 hk9999n (by decide)) xn0)).trans (hF14.2.1 _ (xn1 (xne_k hk9999z29 hk9999e (by decide)) (xn1 (xne_k hk9999z29 hk9999f (by decide)) (xn1 (xne_k hk9999z29 hk9999g (by decide)) (xn1 (xne_k hk9999z29 hk9999h (by decide)) (xn1 (xne_k hk9999z29 hk9999i (by decide)) (xn1 (xne_k hk9999z29 hk9999j (by decide)) (xn1 (xne_k hk9999z29 hk9999k (by decide)) (xn1 (xne_j hj9999z48 hj9999q (by first | decide | omega)) (xn1 (xne_j hj9999z48 hj9999s (by first | decide | omega)) xn0)))))))))))))) ((hF94.2.1 _ (xn1 (xne_k hk9999z30 hk9999w (by decide)) (xn1 (xne_k hk9999z30 hk9999y (by decide)) xn0))).trans ((lc_c hG85 (xne_k hk9999z30 hk9999o (by decide))).trans ((hF73.2.1 _ (xn1 (xne_k hk9999z30 hk9999o (by decide)) xn0)).trans ((hF18.2.1 _ (xn1 (xne_k hk9999z30 hk9999n (by decide)) xn0)).trans (hF14.2.1 _ (xn1 (xne_k hk9999z30 hk9999e (by decide)) (xn1 (xne_k hk9999z30 hk9999f (by decide)) (xn1 (xne_k hk9999z30 hk9999g (by decide)) (xn1 (xne_k hk9999z30 hk9999h (by decide)) (xn1 (xne_k hk9999z30 hk9999i (by decide)) (xn1 (xne_k hk9999z30 hk9999j (by decide)) (xn1 (xne_k hk9999z30 hk9999k (by decide)) (xn1 (xne_j hj9999z50 hj9999q (by first | decide | omega)) (xn1 (xne_j hj9999z50 hj9999s (by first | decide | omega)) xn0)))))))))))))) ((hF94.2.1 _ (xn1 (xne_k hk9999h hk9999w (by decide)) (xn1 (xne_k hk9999h hk9999y (by decide)) xn0))).trans ((lc_c hG85 (xne_k hk9999h hk9999o (by decide))).trans ((hF73.2.1 _ (xn1 (xne_k hk9999h hk9999o (by decide)) xn0)).trans (hF18.2.1 _ (xn1 (xne_k hk9999h hk9999n (by decide)) xn0))))) ((hF94.2.1 _ (xn1 (xne_k hk9999i hk9999w (by decide)) (xn1 (xne_k hk9999i hk9999y (by decide)) xn0))).trans ((lc_c hG85 (xne_k hk9999i hk9999o (by decide))).trans ((hF73.2.1 _ (xn1 (xne_k hk9999i hk9999o (by decide)) xn0)).trans (hF18.2.1 _ (xn1 (xne_k hk9999i hk9999n (by decide)) xn0))))) ((hF94.2.1 _ (xn1 (xne_k hk9999j hk9999w (by decide)) (xn1 (xne_k hk9999j hk9999y (by decide)) xn0))).trans ((lc_c hG85 (xne_k hk9999j hk9999o (by decide))).trans ((hF73.2.1 _ (xn1 (xne_k hk9999j hk9999o (by decide)) xn0)).trans (hF18.2.1 _ (xn1 (xne_k hk9999j hk9999n (by decide)) xn0))))) ((hF94.2.1 _ (xn1 (xne_k hk9999k hk9999w (by decide)) (xn1 (xne_k hk9999k hk9999y (by decide)) xn0))).trans ((lc_c hG85 (xne_k hk9999k hk9999o (by decide))).trans ((hF73.2.1 _ (xn1 (xne_k hk9999k hk9999o (by decide)) xn0)).trans (hF18.2.1 _ (xn1 (xne_k hk9999k hk9999n (by decide)) xn0))))) ((hF94.2.1 _ (xn1 (xne_k hk9999l hk9999w (by decide)) (xn1 (xne_k hk9999l hk9999y (by decide)) xn0))).trans ((lc_c hG85 (xne_k hk9999l hk9999o (by decide))).trans ((hF73.2.1 _ (xn1 (xne_k hk9999l hk9999o (by decide)) xn0)).trans (hF18.2.1 _ (xn1 (xne_k hk9999l hk9999n (by decide)) xn0))))) ((hF94.2.1 _ (xn1 (xne_k hk9999m hk9999w (by decide)) (xn1 (xne_k hk9999m hk9999y (by decide)) xn0))).trans ((lc_c hG85 (xne_k hk9999m hk9999o (by decide))).trans ((hF73.2.1 _ (xn1 (xne_k hk9999m hk9999o (by decide)) xn0)).trans (hF18.2.1 _ (xn1 (xne_k hk9999m hk9999n (by decide)) xn0))))) (hF94.2.1 _ (xn1 (xne_k hk9999o hk9999w (by decide)) (xn1 (xne_k hk9999o hk9999y (by decide)) xn0))) ((hF94.2.1 _ (xn1 (xne_k hk9999n hk9999w (by decide)) (xn1 (xne_k hk9999n hk9999y (by decide)) xn0))).trans ((lc_c hG85 (xne_k hk9999n hk9999o (by decide))).trans (hF73.2.1 _ (xn1 (xne_k hk9999n hk9999o (by decide)) xn0)))) ((hF94.2.2 _ xn0).trans ((lc_r hG85).trans ((hF73.2.2 _ xn0).trans ((hF18.2.2 _ xn0).trans (hF14.2.2 _ xn0))))) (hF18.1 _ _ (xnj (by decide) (xnj (by decide) (xnj (by decide) xn0)))) ((hF94.1 _ _ xn0).trans ((lc_d hG85).trans ((hF73.1 _ _ xn0).trans ((hF18.1 _ _ (xnj (by decide) (xnj (by decide) (xnj (by decide) xn0)))).trans (hF14.1 _ _ (xnj (by decide) (xna (xne_j hj9999c hj9999a (by first | decide | omega)) xn0))))))) ((hF94.1 _ _ xn0).trans ((lc_d hG85).trans ((hF73.1 _ _ xn0).trans (hF18.1 _ _ (xnj (by decide) (xnj (by decide) (xna (xne_k hk9999 hk9999b (by decide)) xn0))))))) ((hF94.1 _ _ xn0).trans ((lc_d hG85).trans (hF73.1 _ _ xn0))) ((hF94.1 _ _ xn0).trans ((lc_d hG85).trans (hF73.1 _ _ xn0))) ((hF94.1 _ _ xn0).trans ((lc_d hG85).trans (hF73.1 _ _ xn0))) ((hF94.1 _ _ xn0).trans ((lc_d hG85).trans ((hF73.1 _ _ xn0).trans ((hF18.1 _ _ (xnj (by decide) (xnj (by decide) (xnj (by decide) xn0)))).trans (hF14.1 _ _ (xnj (by decide) (xna (xne_j hj9999d hj9999a (by first | decide | omega)) xn0))))))) ((hF94.1 _ _ xn0).trans ((lc_d hG85).trans ((hF73.1 _ _ xn0).trans (hF18.1 _ _ (xnj (by decide) (xnj (by decide) (xnj (by decide) xn0)))))))) (v_X10_actAsOnPaper_111_12 (K := K) (F := F) a G G94 G14 G18 G73 G85 x84 x18 x82 ha hk9999 hj9999 hk9999a hj9999a hk9999b hj9999b hk9999c hj9999c hk9999d hj9999d hk9999e hj9999e hk9999f hj9999f hk9999g hj9999g hk9999h hj9999i hk9999i hj9999k hk9999j hj9999m hk9999k hj9999o hk9999l hj9999q hk9999m hj9999s hk9999n hj9999t hk9999o hj9999u hk9999p hj9999w hk9999q hj9999z25 hk9999r hj9999z27 hk9999s hj9999z29 hk9999t hj9999z31 hk9999u hj9999z33 hk9999v hj9999z34 hk9999w hj9999z36 hk9999y hj9999z38 hk9999z25 hj9999z40 hk9999z26 hj9999z42 hk9999z27 hj9999z44 hk9999z28 hj9999z46 hk9999z29 hj9999z48 hk9999z30 hj9999z50 hk9999z31 hj9999z51 hk9999z32 hj9999z52 hk9999z33 hj9999z53 hk9999z34 hj9999z54 hk9999z35 hj9999z56 hk9999z36 hj9999z58 hk9999z37 hj9999z59 hk9999z38 hj9999z61 hk9999z39 hj9999z63 (XFr.call (by rw [hG85]; exact XFr.cput (XFr.call (XFr.call (XFr.call XFr.rf hF14 (xm1 0 rfl (xm1 1 rfl xm0)) (xm1 0 rfl (xm1 1 rfl (xm1 2 rfl (xm1 3 rfl (xm1 4 rfl (xm1 5 rfl (xm1 6 rfl (xm1 7 rfl (xm1 8 rfl xm0))))))))) xm0) hF18 (xm1 2 rfl (xm1 3 rfl (xm1 4 rfl xm0))) (xm1 9 rfl xm0) xm0) hF73 xm0 (xm1 10 rfl xm0) xm0) (List.mem_of_getElem? (i := 10) rfl)) hF94 xm0 (xm1 17 rfl (xm1 18 rfl xm0)) xm0) hF14 hF18 hF73 hG85 hF94 ron rop rob bko bkn oq14 oq18 hv82 oq94 oq94a sb sw t14 c21 (xzi hz32) c35 t84 (hF18.2.1 _ (xn1 (xne_k hk9999h hk9999n (by decide)) xn0)) (hF18.2.1 _ (xn1 (xne_k hk9999i hk9999n (by decide)) xn0)) (hF18.2.1 _ (xn1 (xne_k hk9999j hk9999n (by decide)) xn0)) (hF18.2.1 _ (xn1 (xne_k hk9999k hk9999n (by decide)) xn0)) (hF18.2.1 _ (xn1 (xne_k hk9999l hk9999n (by decide)) xn0)) (hF18.2.1 _ (xn1 (xne_k hk9999m hk9999n (by decide)) xn0)) ((hF94.2.1 _ (xn1 (xne_k hk9999p hk9999w (by decide)) (xn1 (xne_k hk9999p hk9999y (by decide)) xn0))).trans ((lc_c hG85 (xne_k hk9999p hk9999o (by decide))).trans ((hF73.2.1 _ (xn1 (xne_k hk9999p hk9999o (by decide)) xn0)).trans ((hF18.2.1 _ (xn1 (xne_k hk9999p hk9999n (by decide)) xn0)).trans (hF14.2.1 _ (xn1 (xne_k hk9999p hk9999e (by decide)) (xn1 (xne_k hk9999p hk9999f (by decide)) (xn1 (xne_k hk9999p hk9999g (by decide)) (xn1 (xne_j hj9999w hj9999i (by first | decide | omega)) (xn1 (xne_j hj9999w hj9999k (by first | decide | omega)) (xn1 (xne_j hj9999w hj9999m (by first | decide | omega)) (xn1 (xne_j hj9999w hj9999o (by first | decide | omega)) (xn1 (xne_k hk9999p hk9999l (by decide)) (xn1 (xne_k hk9999p hk9999m (by decide)) xn0)))))))))))))) ((hF94.2.1 _ (xn1 (xne_k hk9999q hk9999w (by decide)) (xn1 (xne_k hk9999q hk9999y (by decide)) xn0))).trans ((lc_c hG85 (xne_k hk9999q hk9999o (by decide))).trans ((hF73.2.1 _ (xn1 (xne_k hk9999q hk9999o (by decide)) xn0)).trans ((hF18.2.1 _ (xn1 (xne_k hk9999q hk9999n (by decide)) xn0)).trans (hF14.2.1 _ (xn1 (xne_k hk9999q hk9999e (by decide)) (xn1 (xne_k hk9999q hk9999f (by decide)) (xn1 (xne_k hk9999q hk9999g (by decide)) (xn1 (xne_j hj9999z25 hj9999i (by first | decide | omega)) (xn1 (xne_j hj9999z25 hj9999k (by first | decide | omega)) (xn1 (xne_j hj9999z25 hj9999m (by first | decide | omega)) (xn1 (xne_j hj9999z25 hj9999o (by first | decide | omega)) (xn1 (xne_k hk9999q hk9999l (by decide)) (xn1 (xne_k hk9999q hk9999m (by decide)) xn0)))))))))))))) ((hF94.2.1 _ (xn1 (xne_k hk9999r hk9999w (by decide)) (xn1 (xne_k hk9999r hk9999y (by decide)) xn0))).trans ((lc_c hG85 (xne_k hk9999r hk9999o (by decide))).trans ((hF73.2.1 _ (xn1 (xne_k hk9999r hk9999o (by decide)) xn0)).trans ((hF18.2.1 _ (xn1 (xne_k hk9999r hk9999n (by decide)) xn0)).trans (hF14.2.1 _ (xn1 (xne_k hk9999r hk9999e (by decide)) (xn1 (xne_k hk9999r hk9999f (by decide)) (xn1 (xne_k hk9999r hk9999g (by decide)) (xn1 (xne_j hj9999z27 hj9999i (by first | decide | omega)) (xn1 (xne_j hj9999z27 hj9999k (by first | decide | omega)) (xn1 (xne_j hj9999z27 hj9999m (by first | decide | omega)) (xn1 (xne_j hj9999z27 hj9999o (by first | decide | omega)) (xn1 (xne_k hk9999r hk9999l (by decide)) (xn1 (xne_k hk9999r hk9999m (by decide)) xn0)))))))))))))) ((hF94.2.1 _ (xn1 (xne_k hk9999s hk9999w (by decide)) (xn1 (xne_k hk9999s hk9999y (by decide)) xn0))).trans ((lc_c hG85 (xne_k hk9999s hk9999o (by decide))).trans ((hF73.2.1 _ (xn1 (xne_k hk9999s hk9999o (by decide)) xn0)).trans ((hF18.2.1 _ (xn1 (xne_k hk9999s hk9999n (by decide)) xn0)).trans (hF14.2.1 _ (xn1 (xne_k hk9999s hk9999e (by decide)) (xn1 (xne_k hk9999s hk9999f (by decide)) (xn1 (xne_k hk9999s hk9999g (by decide)) (xn1 (xne_j hj9999z29 hj9999i (by first | decide | omega)) (xn1 (xne_j hj9999z29 hj9999k (by first | decide | omega)) (xn1 (xne_j hj9999z29 hj9999m (by first | decide | omega)) (xn1 (xne_j hj9999z29 hj9999o (by first | decide | omega)) (xn1 (xne_k hk9999s hk9999l (by decide)) (xn1 (xne_k hk9999s hk9999m (by decide)) xn0)))))))))))))) ((hF94.2.1 _ (xn1 (xne_k hk9999t hk9999w (by decide)) (xn1 (xne_k hk9999t hk9999y (by decide)) xn0))).trans ((lc_c hG85 (xne_k hk9999t hk9999o (by decide))).trans ((hF73.2.1 _ (xn1 (xne_k hk9999t hk9999o (by decide)) xn0)).trans ((hF18.2.1 _ (xn1 (xne_k hk9999t hk9999n (by decide)) xn0)).trans (hF14.2.1 _ (xn1 (xne_k hk9999t hk9999e (by decide)) (xn1 (xne_k hk9999t hk9999f (by decide)) (xn1 (xne_k hk9999t hk9999g (by decide)) (xn1 (xne_k hk9999t hk9999h (by decide)) (xn1 (xne_k hk9999t hk9999i (by decide)) (xn1 (xne_k hk9999t hk9999j (by decide)) (xn1 (xne_k hk9999t hk9999k (by decide)) (xn1 (xne_j hj9999z31 hj9999q (by first | decide | omega)) (xn1 (xne_j hj9999z31 hj9999s (by first | decide | omega)) xn0)))))))))))))) ((hF94.2.1 _ (xn1 (xne_k hk9999u hk9999w (by decide)) (xn1 (xne_k hk9999u hk9999y (by decide)) xn0))).trans ((lc_c hG85 (xne_k hk9999u hk9999o (by decide))).trans ((hF73.2.1 _ (xn1 (xne_k hk9999u hk9999o (by decide)) xn0)).trans ((hF18.2.1 _ (xn1 (xne_k hk9999u hk9999n (by decide)) xn0)).trans (hF14.2.1 _ (xn1 (xne_k hk9999u hk9999e (by decide)) (xn1 (xne_k hk9999u hk9999f (by decide)) (xn1 (xne_k hk9999u hk9999g (by decide)) (xn1 (xne_k hk9999u hk9999h (by decide)) (xn1 (xne_k hk9999u hk9999i (by decide)) (xn1 (xne_k hk9999u hk9999j (by decide)) (xn1 (xne_k hk9999u hk9999k (by decide)) (xn1 (xne_j hj9999z33 hj9999q (by first | decide | omega)) (xn1 (xne_j hj9999z33 hj9999s (by first | decide | omega)) xn0)))))))))))))) ((hF94.2.1 _ (xn1 (xne_k hk9999e hk9999w (by decide)) (xn1 (xne_j hj9999e hj9999z38 (by first | decide | omega)) xn0))).trans ((lc_c hG85 (xne_k hk9999e hk9999o (by decide))).trans ((hF73.2.1 _ (xn1 (xne_k hk9999e hk9999o (by decide)) xn0)).trans (hF18.2.1 _ (xn1 (xne_k hk9999e hk9999n (by decide)) xn0))))) ((hF94.2.1 _ (xn1 (xne_k hk9999f hk9999w (by decide)) (xn1 (xne_j hj9999f hj9999z38 (by first | decide | omega)) xn0))).trans ((lc_c hG85 (xne_k hk9999f hk9999o (by decide))).trans ((hF73.2.1 _ (xn1 (xne_k hk9999f hk9999o (by decide)) xn0)).trans (hF18.2.1 _ (xn1 (xne_k hk9999f hk9999n (by decide)) xn0))))) ((hF94.2.1 _ (xn1 (xne_k hk9999g hk9999w (by decide)) (xn1 (xne_k hk9999g hk9999y (by decide)) xn0))).trans ((lc_c hG85 (xne_k hk9999g hk9999o (by decide))).trans ((hF73.2.1 _ (xn1 (xne_k hk9999g hk9999o (by decide)) xn0)).trans (hF18.2.1 _ (xn1 (xne_k hk9999g hk9999n (by decide)) xn0))))) ((hF94.2.1 _ (xn1 (xne_k hk9999z25 hk9999w (by decide)) (xn1 (xne_k hk9999z25 hk9999y (by decide)) xn0))).trans ((lc_c hG85 (xne_k hk9999z25 hk9999o (by decide))).trans ((hF73.2.1 _ (xn1 (xne_k hk9999z25 hk9999o (by decide)) xn0)).trans ((hF18.2.1 _ (xn1 (xne_k hk9999z25 hk9999n (by decide)) xn0)).trans (hF14.2.1 _ (xn1 (xne_k hk9999z25 hk9999e (by decide)) (xn1 (xne_k hk9999z25 hk9999f (by decide)) (xn1 (xne_k hk9999z25 hk9999g (by decide)) (xn1 (xne_j hj9999z40 hj9999i (by first | decide | omega)) (xn1 (xne_j hj9999z40 hj9999k (by first | decide | omega)) (xn1 (xne_j hj9999z40 hj9999m (by first | decide | omega)) (xn1 (xne_j hj9999z40 hj9999o (by first | decide | omega)) (xn1 (xne_k hk9999z25 hk9999l (by decide)) (xn1 (xne_k hk9999z25 hk9999m (by decide)) xn0)))))))))))))) ((hF94.2.1 _ (xn1 (xne_k hk9999z26 hk9999w (by decide)) (xn1 (xne_k hk9999z26 hk9999y (by decide)) xn0))).trans ((lc_c hG85 (xne_k hk9999z26 hk9999o (by decide))).trans ((hF73.2.1 _ (xn1 (xne_k hk9999z26 hk9999o (by decide)) xn0)).trans ((hF18.2.1 _ (xn1 (xne_k hk9999z26 hk9999n (by decide)) xn0)).trans (hF14.2.1 _ (xn1 (xne_k hk9999z26 hk9999e (by decide)) (xn1 (xne_k hk9999z26 hk9999f (by decide)) (xn1 (xne_k hk9999z26 hk9999g (by decide)) (xn1 (xne_j hj9999z42 hj9999i (by first | decide | omega)) (xn1 (xne_j hj9999z42 hj9999k (by first | decide | omega)) (xn1 (xne_j hj9999z42 hj9999m (by first | decide | omega)) (xn1 (xne_j hj9999z42 hj9999o (by first | decide | omega)) (xn1 (xne_k hk9999z26 hk9999l (by decide)) (xn1 (xne_k hk9999z26 hk9999m (by decide)) xn0)))))))))))))) ((hF94.2.1 _ (xn1 (xne_k hk9999z27 hk9999w (by decide)) (xn1 (xne_k hk9999z27 hk9999y (by decide)) xn0))).trans ((lc_c hG85 (xne_k hk9999z27 hk9999o (by decide))).trans ((hF73.2.1 _ (xn1 (xne_k hk9999z27 hk9999o (by decide)) xn0)).trans ((hF18.2.1 _ (xn1 (xne_k hk9999z27 hk9999n (by decide)) xn0)).trans (hF14.2.1 _ (xn1 (xne_k hk9999z27 hk9999e (by decide)) (xn1 (xne_k hk9999z27 hk9999f (by decide)) (xn1 (xne_k hk9999z27 hk9999g (by decide)) (xn1 (xne_j hj9999z44 hj9999i (by first | decide | omega)) (xn1 (xne_j hj9999z44 hj9999k (by first | decide | omega)) (xn1 (xne_j hj9999z44 hj9999m (by first | decide | omega)) (xn1 (xne_j hj9999z44 hj9999o (by first | decide | omega)) (xn1 (xne_k hk9999z27 hk9999l (by decide)) (xn1 (xne_k hk9999z27 hk9999m (by decide)) xn0)))))))))))))) ((hF94.2.1 _ (xn1 (xne_k hk9999z28 hk9999w (by decide)) (xn1 (xne_k hk9999z28 hk9999y (by decide)) xn0))).trans ((lc_c hG85 (xne_k hk9999z28 hk9999o (by decide))).trans ((hF73.2.1 _ (xn1 (xne_k hk9999z28 hk9999o (by decide)) xn0)).trans ((hF18.2.1 _ (xn1 (xne_k hk9999z28 hk9999n (by decide)) xn0)).trans (hF14.2.1 _ (xn1 (xne_k hk9999z28 hk9999e (by decide)) (xn1 (xne_k hk9999z28 hk9999f (by decide)) (xn1 (xne_k hk9999z28 hk9999g (by decide)) (xn1 (xne_j hj9999z46 hj9999i (by first | decide | omega)) (xn1 (xne_j hj9999z46 hj9999k (by first | decide | omega)) (xn1 (xne_j hj9999z46 hj9999m (by first | decide | omega)) (xn1 (xne_j hj9999z46 hj9999o (by first | decide | omega)) (xn1 (xne_k hk9999z28 hk9999l (by decide)) (xn1 (xne_k hk9999z28 hk9999m (by decide)) xn0)))))))))))))) ((hF94.2.1 _ (xn1 (xne_k hk9999z29 hk9999w (by decide)) (xn1 (xne_k hk9999z29 hk9999y (by decide)) xn0))).trans ((lc_c hG85 (xne_k hk9999z29 hk9999o (by decide))).trans ((hF73.2.1 _ (xn1 (xne_k hk9999z29 hk9999o (by decide)) xn0)).trans ((hF18.2.1 _ (xn1 (xne_k hk9999z29 hk9999n (by decide)) xn0)).trans (hF14.2.1 _ (xn1 (xne_k hk9999z29 hk9999e (by decide)) (xn1 (xne_k hk9999z29 hk9999f (by decide)) (xn1 (xne_k hk9999z29 hk9999g (by decide)) (xn1 (xne_k hk9999z29 hk9999h (by decide)) (xn1 (xne_k hk9999z29 hk9999i (by decide)) (xn1 (xne_k hk9999z29 hk9999j (by decide)) (xn1 (xne_k hk9999z29 hk9999k (by decide)) (xn1 (xne_j hj9999z48 hj9999q (by first | decide | omega)) (xn1 (xne_j hj9999z48 hj9999s (by first | decide | omega)) xn0)))))))))))))) ((hF94.2.1 _ (xn1 (xne_k hk9999z30 hk9999w (by decide)) (xn1 (xne_k hk9999z30 hk9999y (by decide)) xn0))).trans ((lc_c hG85 (xne_k hk9999z30 hk9999o (by decide))).trans ((hF73.2.1 _ (xn1 (xne_k hk9999z30 hk9999o (by decide)) xn0)).trans ((hF18.2.1 _ (xn1 (xne_k hk9999z30 hk9999n (by decide)) xn0)).trans (hF14.2.1 _ (xn1 (xne_k hk9999z30 hk9999e (by decide)) (xn1 (xne_k hk9999z30 hk9999f (by decide)) (xn1 (xne_k hk9999z30 hk9999g (by decide)) (xn1 (xne_k hk9999z30 hk9999h (by decide)) (xn1 (xne_k hk9999z30 hk9999i (by decide)) (xn1 (xne_k hk9999z30 hk9999j (by decide)) (xn1 (xne_k hk9999z30 hk9999k (by decide)) (xn1 (xne_j hj9999z50 hj9999q (by first | decide | omega)) (xn1 (xne_j hj9999z50 hj9999s (by first | decide | omega)) xn0)))))))))))))) ((hF94.2.1 _ (xn1 (xne_k hk9999h hk9999w (by decide)) (xn1 (xne_k hk9999h hk9999y (by decide)) xn0))).trans ((lc_c hG85 (xne_k hk9999h hk9999o (by decide))).trans ((hF73.2.1 _ (xn1 (xne_k hk9999h hk9999o (by decide)) xn0)).trans (hF18.2.1 _ (xn1 (xne_k hk9999h hk9999n (by decide)) xn0))))) ((hF94.2.1 _ (xn1 (xne_k hk9999i hk9999w (by decide)) (xn1 (xne_k hk9999i hk9999y (by decide)) xn0))).trans ((lc_c hG85 (xne_k hk9999i hk9999o (by decide))).trans ((hF73.2.1 _ (xn1 (xne_k hk9999i hk9999o (by decide)) xn0)).trans (hF18.2.1 _ (xn1 (xne_k hk9999i hk9999n (by decide)) xn0))))) ((hF94.2.1 _ (xn1 (xne_k hk9999j hk9999w (by decide)) (xn1 (xne_k hk9999j hk9999y (by decide)) xn0))).trans ((lc_c hG85 (xne_k hk9999j hk9999o (by decide))).trans ((hF73.2.1 _ (xn1 (xne_k hk9999j hk9999o (by decide)) xn0)).trans (hF18.2.1 _ (xn1 (xne_k hk9999j hk9999n (by decide)) xn0))))) ((hF94.2.1 _ (xn1 (xne_k hk9999k hk9999w (by decide)) (xn1 (xne_k hk9999k hk9999y (by decide)) xn0))).trans ((lc_c hG85 (xne_k hk9999k hk9999o (by decide))).trans ((hF73.2.1 _ (xn1 (xne_k hk9999k hk9999o (by decide)) xn0)).trans (hF18.2.1 _ (xn1 (xne_k hk9999k hk9999n (by decide)) xn0))))) ((hF94.2.1 _ (xn1 (xne_k hk9999l hk9999w (by decide)) (xn1 (xne_k hk9999l hk9999y (by decide)) xn0))).trans ((lc_c hG85 (xne_k hk9999l hk9999o (by decide))).trans ((hF73.2.1 _ (xn1 (xne_k hk9999l hk9999o (by decide)) xn0)).trans (hF18.2.1 _ (xn1 (xne_k hk9999l hk9999n (by decide)) xn0))))) ((hF94.2.1 _ (xn1 (xne_k hk9999m hk9999w (by decide)) (xn1 (xne_k hk9999m hk9999y (by decide)) xn0))).trans ((lc_c hG85 (xne_k hk9999m hk9999o (by decide))).trans ((hF73.2.1 _ (xn1 (xne_k hk9999m hk9999o (by decide)) xn0)).trans (hF18.2.1 _ (xn1 (xne_k hk9999m hk9999n (by decide)) xn0))))) (hF94.2.1 _ (xn1 (xne_k hk9999o hk9999w (by decide)) (xn1 (xne_k hk9999o hk9999y (by decide)) xn0))) ((hF94.2.1 _ (xn1 (xne_k hk9999n hk9999w (by decide)) (xn1 (xne_k hk9999n hk9999y (by decide)) xn0))).trans ((lc_c hG85 (xne_k hk9999n hk9999o (by decide))).trans (hF73.2.1 _ (xn1 (xne_k hk9999n hk9999o (by decide)) xn0)))) (hF18.1 _ _ (xnj (by decide) (xnj (by decide) (xnj (by decide) xn0)))) ((hF94.1 _ _ xn0).trans ((lc_d hG85).trans ((hF73.1 _ _ xn0).trans ((hF18.1 _ _ (xnj (by decide) (xnj (by decide) (xnj (by decide) xn0)))).trans (hF14.1 _ _ (xnj (by decide) (xna (xne_j hj9999c hj9999a (by first | decide | omega)) xn0))))))) ((hF94.1 _ _ xn0).trans ((lc_d hG85).trans ((hF73.1 _ _ xn0).trans (hF18.1 _ _ (xnj (by decide) (xnj (by decide) (xna (xne_k hk9999 hk9999b (by decide)) xn0))))))) ((hF94.1 _ _ xn0).trans ((lc_d hG85).trans (hF73.1 _ _ xn0))) ((hF94.1 _ _ xn0).trans ((lc_d hG85).trans (hF73.1 _ _ xn0))) ((hF94.1 _ _ xn0).trans ((lc_d hG85).trans (hF73.1 _ _ xn0))) ((hF94.1 _ _ xn0).trans ((lc_d hG85).trans ((hF73.1 _ _ xn0).trans ((hF18.1 _ _ (xnj (by decide) (xnj (by decide) (xnj (by decide) xn0)))).trans (hF14.1 _ _ (xnj (by decide) (xna (xne_j hj9999d hj9999a (by first | decide | omega)) xn0))))))) ((hF94.1 _ _ xn0).trans ((lc_d hG85).trans ((hF73.1 _ _ xn0).trans (hF18.1 _ _ (xnj (by decide) (xnj (by decide) (xnj (by decide) xn0)))))))) (v_X10_actAsOnPaper_111_13 (K := K) (F := F) a G G94 G14 G18 G73 G85 x84 x18 x82 ha hk9999 hj9999 hk9999a hj9999a hk9999b hj9999b hk9999c hj9999c hk9999d hj9999d hk9999e hj9999e hk9999f hj9999f hk9999g hj9999g hk9999h hj9999i hk9999i hj9999k hk9999j hj9999m hk9999k hj9999o hk9999l hj9999q hk9999m hj9999s hk9999n hj9999t hk9999o hj9999u hk9999p hj9999w hk9999q hj9999z25 hk9999r hj9999z27 hk9999s hj9999z29 hk9999t hj9999z31 hk9999u hj9999z33 hk9999v hj9999z34 hk9999w hj9999z36 hk9999y hj9999z38 hk9999z25 hj9999z40 hk9999z26 hj9999z42 hk9999z27 hj9999z44 hk9999z28 hj9999z46 hk9999z29 hj9999z48 hk9999z30 hj9999z50 hk9999z31 hj9999z51 hk9999z32 hj9999z52 hk9999z33 hj9999z53 hk9999z34 hj9999z54 hk9999z35 hj9999z56 hk9999z36 hj9999z58 hk9999z37 hj9999z59 hk9999z38 hj9999z61 hk9999z39 hj9999z63 (XFr.call (by rw [hG85]; exact XFr.cput (XFr.call (XFr.call (XFr.call XFr.rf hF14 (xm1 0 rfl (xm1 1 rfl xm0)) (xm1 0 rfl (xm1 1 rfl (xm1 2 rfl (xm1 3 rfl (xm1 4 rfl (xm1 5 rfl (xm1 6 rfl (xm1 7 rfl (xm1 8 rfl xm0))))))))) xm0) hF18 (xm1 2 rfl (xm1 3 rfl (xm1 4 rfl xm0))) (xm1 9 rfl xm0) xm0) hF73 xm0 (xm1 10 rfl xm0) xm0) (List.mem_of_getElem? (i := 10) rfl)) hF94 xm0 (xm1 17 rfl (xm1 18 rfl xm0)) xm0) hF14 hF18 hF73 hG85 hF94 ron rop rob bko bkn oq14 oq18 hv82 oq94 oq94a sb sw t14 c21 (xzi hz32) c35 t84 (hF18.2.1 _ (xn1 (xne_k hk9999h hk9999n (by decide)) xn0)) (hF18.2.1 _ (xn1 (xne_k hk9999i hk9999n (by decide)) xn0)) (hF18.2.1 _ (xn1 (xne_k hk9999j hk9999n (by decide)) xn0)) (hF18.2.1 _ (xn1 (xne_k hk9999k hk9999n (by decide)) xn0)) (hF18.2.1 _ (xn1 (xne_k hk9999l hk9999n (by decide)) xn0)) (hF18.2.1 _ (xn1 (xne_k hk9999m hk9999n (by decide)) xn0)) ((hF94.2.1 _ (xn1 (xne_k hk9999p hk9999w (by decide)) (xn1 (xne_k hk9999p hk9999y (by decide)) xn0))).trans ((lc_c hG85 (xne_k hk9999p hk9999o (by decide))).trans ((hF73.2.1 _ (xn1 (xne_k hk9999p hk9999o (by decide)) xn0)).trans ((hF18.2.1 _ (xn1 (xne_k hk9999p hk9999n (by decide)) xn0)).trans (hF14.2.1 _ (xn1 (xne_k hk9999p hk9999e (by decide)) (xn1 (xne_k hk9999p hk9999f (by decide)) (xn1 (xne_k hk9999p hk9999g (by decide)) (xn1 (xne_j hj9999w hj9999i (by first | decide | omega)) (xn1 (xne_j hj9999w hj9999k (by first | decide | omega)) (xn1 (xne_j hj9999w hj9999m (by first | decide | omega)) (xn1 (xne_j hj9999w hj9999o (by first | decide | omega)) (xn1 (xne_k hk9999p hk9999l (by decide)) (xn1 (xne_k hk9999p hk9999m (by decide)) xn0)))))))))))))) ((hF94.2.1 _ (xn1 (xne_k hk9999q hk9999w (by decide)) (xn1 (xne_k hk9999q hk9999y (by decide)) xn0))).trans ((lc_c hG85 (xne_k hk9999q hk9999o (by decide))).trans ((hF73.2.1 _ (xn1 (xne_k hk9999q hk9999o (by decide)) xn0)).trans ((hF18.2.1 _ (xn1 (xne_k hk9999q hk9999n (by decide)) xn0)).trans (hF14.2.1 _ (xn1 (xne_k hk9999q hk9999e (by decide)) (xn1 (xne_k hk9999q hk9999f (by decide)) (xn1 (xne_k hk9999q hk9999g (by decide)) (xn1 (xne_j hj9999z25 hj9999i (by first | decide | omega)) (xn1 (xne_j hj9999z25 hj9999k (by first | decide | omega)) (xn1 (xne_j hj9999z25 hj9999m (by first | decide | omega)) (xn1 (xne_j hj9999z25 hj9999o (by first | decide | omega)) (xn1 (xne_k hk9999q hk9999l (by decide)) (xn1 (xne_k hk9999q hk9999m (by decide)) xn0)))))))))))))) ((hF94.2.1 _ (xn1 (xne_k hk9999r hk9999w (by decide)) (xn1 (xne_k hk9999r hk9999y (by decide)) xn0))).trans ((lc_c hG85 (xne_k hk9999r hk9999o (by decide))).trans ((hF73.2.1 _ (xn1 (xne_k hk9999r hk9999o (by decide)) xn0)).trans ((hF18.2.1 _ (xn1 (xne_k hk9999r hk9999n (by decide)) xn0)).trans (hF14.2.1 _ (xn1 (xne_k hk9999r hk9999e (by decide)) (xn1 (xne_k hk9999r hk9999f (by decide)) (xn1 (xne_k hk9999r hk9999g (by decide)) (xn1 (xne_j hj9999z27 hj9999i (by first | decide | omega)) (xn1 (xne_j hj9999z27 hj9999k (by first | decide | omega)) (xn1 (xne_j hj9999z27 hj9999m (by first | decide | omega)) (xn1 (xne_j hj9999z27 hj9999o (by first | decide | omega)) (xn1 (xne_k hk9999r hk9999l (by decide)) (xn1 (xne_k hk9999r hk9999m (by decide)) xn0)))))))))))))) ((hF94.2.1 _ (xn1 (xne_k hk9999s hk9999w (by decide)) (xn1 (xne_k hk9999s hk9999y (by decide)) xn0))).trans ((lc_c hG85 (xne_k hk9999s hk9999o (by decide))).trans ((hF73.2.1 _ (xn1 (xne_k hk9999s hk9999o (by decide)) xn0)).trans ((hF18.2.1 _ (xn1 (xne_k hk9999s hk9999n (by decide)) xn0)).trans (hF14.2.1 _ (xn1 (xne_k hk9999s hk9999e (by decide)) (xn1 (xne_k hk9999s hk9999f (by decide)) (xn1 (xne_k hk9999s hk9999g (by decide)) (xn1 (xne_j hj9999z29 hj9999i (by first | decide | omega)) (xn1 (xne_j hj9999z29 hj9999k (by first | decide | omega)) (xn1 (xne_j hj9999z29 hj9999m (by first | decide | omega)) (xn1 (xne_j hj9999z29 hj9999o (by first | decide | omega)) (xn1 (xne_k hk9999s hk9999l (by decide)) (xn1 (xne_k hk9999s hk9999m (by decide)) xn0)))))))))))))) ((hF94.2.1 _ (xn1 (xne_k hk9999t hk9999w (by decide)) (xn1 (xne_k hk9999t hk9999y (by decide)) xn0))).trans ((lc_c hG85 (xne_k hk9999t hk9999o (by decide))).trans ((hF73.2.1 _ (xn1 (xne_k hk9999t hk9999o (by decide)) xn0)).trans ((hF18.2.1 _ (xn1 (xne_k hk9999t hk9999n (by decide)) xn0)).trans (hF14.2.1 _ (xn1 (xne_k hk9999t hk9999e (by decide)) (xn1 (xne_k hk9999t hk9999f (by decide)) (xn1 (xne_k hk9999t hk9999g (by decide)) (xn1 (xne_k hk9999t hk9999h (by decide)) (xn1 (xne_k hk9999t hk9999i (by decide)) (xn1 (xne_k hk9999t hk9999j (by decide)) (xn1 (xne_k hk9999t hk9999k (by decide)) (xn1 (xne_j hj9999z31 hj9999q (by first | decide | omega)) (xn1 (xne_j hj9999z31 hj9999s (by first | decide | omega)) xn0)))))))))))))) ((hF94.2.1 _ (xn1 (xne_k hk9999u hk9999w (by decide)) (xn1 (xne_k hk9999u hk9999y (by decide)) xn0))).trans ((lc_c hG85 (xne_k hk9999u hk9999o (by decide))).trans ((hF73.2.1 _ (xn1 (xne_k hk9999u hk9999o (by decide)) xn0)).trans ((hF18.2.1 _ (xn1 (xne_k hk9999u hk9999n (by decide)) xn0)).trans (hF14.2.1 _ (xn1 (xne_k hk9999u hk9999e (by decide)) (xn1 (xne_k hk9999u hk9999f (by decide)) (xn1 (xne_k hk9999u hk9999g (by decide)) (xn1 (xne_k hk9999u hk9999h (by decide)) (xn1 (xne_k hk9999u hk9999i (by decide)) (xn1 (xne_k hk9999u hk9999j (by decide)) (xn1 (xne_k hk9999u hk9999k (by decide)) (xn1 (xne_j hj9999z33 hj9999q (by first | decide | omega)) (xn1 (xne_j hj9999z33 hj9999s (by first | decide | omega)) xn0)))))))))))))) ((hF94.2.1 _ (xn1 (xne_k hk9999e hk9999w (by decide)) (xn1 (xne_j hj9999e hj9999z38 (by first | decide | omega)) xn0))).trans ((lc_c hG85 (xne_k hk9999e hk9999o (by decide))).trans ((hF73.2.1 _ (xn1 (xne_k hk9999e hk9999o (by decide)) xn0)).trans (hF18.2.1 _ (xn1 (xne_k hk9999e hk9999n (by decide)) xn0))))) ((hF94.2.1 _ (xn1 (xne_k hk9999f hk9999w (by decide)) (xn1 (xne_j hj9999f hj9999z38 (by first | decide | omega)) xn0))).trans ((lc_c hG85 (xne_k hk9999f hk9999o (by decide))).trans ((hF73.2.1 _ (xn1 (xne_k hk9999f hk9999o (by decide)) xn0)).trans (hF18.2.1 _ (xn1 (xne_k hk9999f hk9999n (by decide)) xn0))))) ((hF94.2.1 _ (xn1 (xne_k hk9999g hk9999w (by decide)) (xn1 (xne_k hk9999g hk9999y (by decide)) xn0))).trans ((lc_c hG85 (xne_k hk9999g hk9999o (by decide))).trans ((hF73.2.1 _ (xn1 (xne_k hk9999g hk9999o (by decide)) xn0)).trans (hF18.2.1 _ (xn1 (xne_k hk9999g hk9999n (by decide)) xn0))))) ((hF94.2.1 _ (xn1 (xne_k hk9999z25 hk9999w (by decide)) (xn1 (xne_k hk9999z25 hk9999y (by decide)) xn0))).trans ((lc_c hG85 (xne_k hk9999z25 hk9999o (by decide))).trans ((hF73.2.1 _ (xn1 (xne_k hk9999z25 hk9999o (by decide)) xn0)).trans ((hF18.2.1 _ (xn1 (xne_k hk9999z25 hk9999n (by decide)) xn0)).trans (hF14.2.1 _ (xn1 (xne_k hk9999z25 hk9999e (by decide)) (xn1 (xne_k hk9999z25 hk9999f (by decide)) (xn1 (xne_k hk9999z25 hk9999g (by decide)) (xn1 (xne_j hj9999z40 hj9999i (by first | decide | omega)) (xn1 (xne_j hj9999z40 hj9999k (by first | decide | omega)) (xn1 (xne_j hj9999z40 hj9999m (by first | decide | omega)) (xn1 (xne_j hj9999z40 hj9999o (by first | decide | omega)) (xn1 (xne_k hk9999z25 hk9999l (by decide)) (xn1 (xne_k hk9999z25 hk9999m (by decide)) xn0)))))))))))))) ((hF94.2.1 _ (xn1 (xne_k hk9999z26 hk9999w (by decide)) (xn1 (xne_k hk9999z26 hk9999y (by decide)) xn0))).trans ((lc_c hG85 (xne_k hk9999z26 hk9999o (by decide))).trans ((hF73.2.1 _ (xn1 (xne_k hk9999z26 hk9999o (by decide)) xn0)).trans ((hF18.2.1 _ (xn1 (xne_k hk9999z26 hk9999n (by decide)) xn0)).trans (hF14.2.1 _ (xn1 (xne_k hk9999z26 hk9999e (by decide)) (xn1 (xne_k hk9999z26 hk9999f (by decide)) (xn1 (xne_k hk9999z26 hk9999g (by decide)) (xn1 (xne_j hj9999z42 hj9999i (by first | decide | omega)) (xn1 (xne_j hj9999z42 hj9999k (by first | decide | omega)) (xn1 (xne_j hj9999z42 hj9999m (by first | decide | omega)) (xn1 (xne_j hj9999z42 hj9999o (by first | decide | omega)) (xn1 (xne_k hk9999z26 hk9999l (by decide)) (xn1 (xne_k hk9999z26 hk9999m (by decide)) xn0)))))))))))))) ((hF94.2.1 _ (xn1 (xne_k hk9999z27 hk9999w (by decide)) (xn1 (xne_k hk9999z27 hk9999y (by decide)) xn0))).trans ((lc_c hG85 (xne_k hk9999z27 hk9999o (by decide))).trans ((hF73.2.1 _ (xn1 (xne_k hk9999z27 hk9999o (by decide)) xn0)).trans ((hF18.2.1 _ (xn1 (xne_k hk9999z27 hk9999n (by decide)) xn0)).trans (hF14.2.1 _ (xn1 (xne_k hk9999z27 hk9999e (by decide)) (xn1 (xne_k hk9999z27 hk9999f (by decide)) (xn1 (xne_k hk9999z27 hk9999g (by decide)) (xn1 (xne_j hj9999z44 hj9999i (by first | decide | omega)) (xn1 (xne_j hj9999z44 hj9999k (by first | decide | omega)) (xn1 (xne_j hj9999z44 hj9999m (by first | decide | omega)) (xn1 (xne_j hj9999z44 hj9999o (by first | decide | omega)) (xn1 (xne_k hk9999z27 hk9999l (by decide)) (xn1 (xne_k hk9999z27 hk9999m (by decide)) xn0)))))))))))))) ((hF94.2.1 _ (xn1 (xne_k hk9999z28 hk9999w (by decide)) (xn1 (xne_k hk9999z28 hk9999y (by decide)) xn0))).trans ((lc_c hG85 (xne_k hk9999z28 hk9999o (by decide))).trans ((hF73.2.1 _ (xn1 (xne_k hk9999z28 hk9999o (by decide)) xn0)).trans ((hF18.2.1 _ (xn1 (xne_k hk9999z28 hk9999n (by decide)) xn0)).trans (hF14.2.1 _ (xn1 (xne_k hk9999z28 hk9999e (by decide)) (xn1 (xne_k hk9999z28 hk9999f (by decide)) (xn1 (xne_k hk9999z28 hk9999g (by decide)) (xn1 (xne_j hj9999z46 hj9999i (by first | decide | omega)) (xn1 (xne_j hj9999z46 hj9999k (by first | decide | omega)) (xn1 (xne_j hj9999z46 hj9999m (by first | decide | omega)) (xn1 (xne_j hj9999z46 hj9999o (by first | decide | omega)) (xn1 (xne_k hk9999z28 hk9999l (by decide)) (xn1 (xne_k hk9999z28 hk9999m (by decide)) xn0)))))))))))))) ((hF94.2.1 _ (xn1 (xne_k hk9999z29 hk9999w (by decide)) (xn1 (xne_k hk9999z29 hk9999y (by decide)) xn0))).trans ((lc_c hG85 (xne_k hk9999z29 hk9999o (by decide))).trans ((hF73.2.1 _ (xn1 (xne_k hk9999z29 hk9999o (by decide)) xn0)).trans ((hF18.2.1 _ (xn1 (xne_k hk9999z29 hk9999n (by decide)) xn0)).trans (hF14.2.1 _ (xn1 (xne_k hk9999z29 hk9999e (by decide)) (xn1 (xne_k hk9999z29 hk9999f (by decide)) (xn1 (xne_k hk9999z29 hk9999g (by decide)) (xn1 (xne_k hk9999z29 hk9999h (by decide)) (xn1 (xne_k hk9999z29 hk9999i (by decide)) (xn1 (xne_k hk9999z29 hk9999j (by decide)) (xn1 (xne_k hk9999z29 hk9999k (by decide)) (xn1 (xne_j hj9999z48 hj9999q (by first | decide | omega)) (xn1 (xne_j hj9999z48 hj9999s (by first | decide | omega)) xn0)))))))))))))) ((hF94.2.1 _ (xn1 (xne_k hk9999z30 hk9999w (by decide)) (xn1 (xne_k hk9999z30 hk9999y (by decide)) xn0))).trans ((lc_c hG85 (xne_k hk9999z30 hk9999o (by decide))).trans ((hF73.2.1 _ (xn1 (xne_k hk9999z30 hk9999o (by decide)) xn0)).trans ((hF18.2.1 _ (xn1 (xne_k hk9999z30 hk9999n (by decide)) xn0)).trans (hF14.2.1 _ (xn1 (xne_k hk9999z30 hk9999e (by decide)) (xn1 (xne_k hk9999z30 hk9999f (by decide)) (xn1 (xne_k hk9999z30 hk9999g (by decide)) (xn1 (xne_k hk9999z30 hk9999h (by decide)) (xn1 (xne_k hk9999z30 hk9999i (by decide)) (xn1 (xne_k hk9999z30 hk9999j (by decide)) (xn1 (xne_k hk9999z30 hk9999k (by decide)) (xn1 (xne_j hj9999z50 hj9999q (by first | decide | omega)) (xn1 (xne_j hj9999z50 hj9999s (by first | decide | omega)) xn0)))))))))))))) ((hF94.2.1 _ (xn1 (xne_k hk9999h hk9999w (by decide)) (xn1 (xne_k hk9999h hk9999y (by decide)) xn0))).trans ((lc_c hG85 (xne_k hk9999h hk9999o (by decide))).trans ((hF73.2.1 _ (xn1 (xne_k hk9999h hk9999o (by decide)) xn0)).trans (hF18.2.1 _ (xn1 (xne_k hk9999h hk9999n (by decide)) xn0))))) ((hF94.2.1 _ (xn1 (xne_k hk9999i hk9999w (by decide)) (xn1 (xne_k hk9999i hk9999y (by decide)) xn0))).trans ((lc_c hG85 (xne_k hk9999i hk9999o (by decide))).trans ((hF73.2.1 _ (xn1 (xne_k hk9999i hk9999o (by decide)) xn0)).trans (hF18.2.1 _ (xn1 (xne_k hk9999i hk9999n (by decide)) xn0))))) ((hF94.2.1 _ (xn1 (xne_k hk9999j hk9999w (by decide)) (xn1 (xne_k hk9999j hk9999y (by decide)) xn0))).trans ((lc_c hG85 (xne_k hk9999j hk9999o (by decide))).trans ((hF73.2.1 _ (xn1 (xne_k hk9999j hk9999o (by decide)) xn0)).trans (hF18.2.1 _ (xn1 (xne_k hk9999j hk9999n (by decide)) xn0))))) ((hF94.2.1 _ (xn1 (xne_k hk9999k hk9999w (by decide)) (xn1 (xne_k hk9999k hk9999y (by decide)) xn0))).trans ((lc_c hG85 (xne_k hk9999k hk9999o (by decide))).trans ((hF73.2.1 _ (xn1 (xne_k hk9999k hk9999o (by decide)) xn0)).trans (hF18.2.1 _ (xn1 (xne_k hk9999k hk9999n (by decide)) xn0))))) ((hF94.2.1 _ (xn1 (xne_k hk9999l hk9999w (by decide)) (xn1 (xne_k hk9999l hk9999y (by decide)) xn0))).trans ((lc_c hG85 (xne_k hk9999l hk9999o (by decide))).trans ((hF73.2.1 _ (xn1 (xne_k hk9999l hk9999o (by decide)) xn0)).trans (hF18.2.1 _ (xn1 (xne_k hk9999l hk9999n (by decide)) xn0))))) ((hF94.2.1 _ (xn1 (xne_k hk9999m hk9999w (by decide)) (xn1 (xne_k hk9999m hk9999y (by decide)) xn0))).trans ((lc_c hG85 (xne_k hk9999m hk9999o (by decide))).trans ((hF73.2.1 _ (xn1 (xne_k hk9999m hk9999o (by decide)) xn0)).trans (hF18.2.1 _ (xn1 (xne_k hk9999m hk9999n (by decide)) xn0))))) (hF94.2.1 _ (xn1 (xne_k hk9999o hk9999w (by decide)) (xn1 (xne_k hk9999o hk9999y (by decide)) xn0))) ((hF94.2.1 _ (xn1 (xne_k hk9999n hk9999w (by decide)) (xn1 (xne_k hk9999n hk9999y (by decide)) xn0))).trans ((lc_c hG85 (xne_k hk9999n hk9999o (by decide))).trans (hF73.2.1 _ (xn1 (xne_k hk9999n hk9999o (by decide)) xn0)))) (hF18.1 _ _ (xnj (by decide) (xnj (by decide) (xnj (by decide) xn0)))) ((hF94.1 _ _ xn0).trans ((lc_d hG85).trans ((hF73.1 _ _ xn0).trans ((hF18.1 _ _ (xnj (by decide) (xnj (by decide) (xnj (by decide) xn0)))).trans (hF14.1 _ _ (xnj (by decide) (xna (xne_j hj9999c hj9999a (by first | decide | omega)) xn0))))))) ((hF94.1 _ _ xn0).trans ((lc_d hG85).trans ((hF73.1 _ _ xn0).trans (hF18.1 _ _ (xnj (by decide) (xnj (by decide) (xna (xne_k hk9999 hk9999b (by decide)) xn0))))))) ((hF94.1 _ _ xn0).trans ((lc_d hG85).trans (hF73.1 _ _ xn0))) ((hF94.1 _ _ xn0).trans ((lc_d hG85).trans (hF73.1 _ _ xn0))) ((hF94.1 _ _ xn0).trans ((lc_d hG85).trans (hF73.1 _ _ xn0))) ((hF94.1 _ _ xn0).trans ((lc_d hG85).trans ((hF73.1 _ _ xn0).trans ((hF18.1 _ _ (xnj (by decide) (xnj (by decide) (xnj (by decide) xn0)))).trans (hF14.1 _ _ (xnj (by decide) (xna (xne_j hj9999d hj9999a (by first | decide | omega)) xn0))))))) ((hF94.1 _ _ xn0).trans ((lc_d hG85).trans ((hF73.1 _ _ xn0).trans (hF18.1 _ _ (xnj (by decide) (xnj (by decide) (xnj (by decide) xn0))))))))) mv_X10_gather km_X10_240 rfl rfl ⟨Nat.le_of_ble_eq_true rfl, Nat.le_of_ble_eq_true rfl⟩ (rc_12 hK hT ha) hK (fun _ => XP.blind) (fun U hU hW => XP.at hK hz hS hT hU hW) rfl hl.1 (Nat.le_of_ble_eq_true rfl) dX10_actAsOnPaper_111 ⟨Nat.le_of_ble_eq_true rfl, Nat.le_of_ble_eq_true rfl⟩) hS ?_
      rintro G111 H locs ⟨hF111, t111, oq111⟩ hT hS
      have t111 : 0 ≤ ((G111.1 (F a 8) 6).toInt) ∧ ((G111.1 (F a 8) 6).toInt) ≤ 1080 := t111
      have oq111 : qL G111 F (F a 8) = gaL G94 (G94.2.2.1 (F (F a 2) 1)) (vw (G.2.1 (F (F a 4) 0))) (vw (G94.2.1 (F (F a 3) 0))) (1 : Int) (((G.1 (F a 2) 2).toInt)).toNat := by simp only [(show G94.2.1 (F (F a 4) 0) = G.2.1 (F (F a 4) 0) from ((hF94.2.1 _ (xn1 (xne_j hj9999z56 hj9999z36 (by first | decide | omega)) (xn1 (xne_k hk9999z35 hk9999y (by decide)) xn0))).trans ((lc_c hG85 (xne_k hk9999z35 hk9999o (by decide))).trans ((hF73.2.1 _ (xn1 (xne_k hk9999z35 hk9999o (by decide)) xn0)).trans ((hF18.2.1 _ (xn1 (xne_k hk9999z35 hk9999n (by decide)) xn0)).trans (hF14.2.1 _ (xn1 (xne_k hk9999z35 hk9999e (by decide)) (xn1 (xne_k hk9999z35 hk9999f (by decide)) (xn1 (xne_k hk9999z35 hk9999g (by decide)) (xn1 (xne_k hk9999z35 hk9999h (by decide)) (xn1 (xne_k hk9999z35 hk9999i (by decide)) (xn1 (xne_k hk9999z35 hk9999j (by decide)) (xn1 (xne_k hk9999z35 hk9999k (by decide)) (xn1 (xne_k hk9999z35 hk9999l (by decide)) (xn1 (xne_k hk9999z35 hk9999m (by decide)) xn0))))))))))))))), (show G94.1 (F a 2) 2 = G.1 (F a 2) 2 from ((hF94.1 _ _ xn0).trans ((lc_d hG85).trans ((hF73.1 _ _ xn0).trans ((hF18.1 _ _ (xnj (by decide) (xna (xne_k hk9999z31 hk9999b (by decide)) (xnj (by decide) xn0)))).trans (hF14.1 _ _ (xnj (by decide) (xnj (by decide) xn0))))))))] at oq111; exact oq111
      refine lv_aload_n hx hb dX10_actAsOnPaper_114 rfl (lv_at hl 0 rfl) ?_
      refine gX10_9 S hK hT ha kf_X10_61 dX10_actAsOnPaper_115 (fun _ _ => ?_)
      refine x_clp (x_runV (b := (F a 9)) (As := []) (rest := []) S (c_X4_size l E K F G111 H (F a 9) hk9999a) mv_X4_size km_X10_232 rfl rfl ⟨Nat.le_of_ble_eq_true rfl, Nat.le_of_ble_eq_true rfl⟩ (rc_6 hK hT hk9999a) hK (fun _ => XPh.blind) (fun U hU hW => XPh.at hK hz hS hT hU hW) rfl hl.1 (Nat.le_of_ble_eq_true rfl) dX10_actAsOnPaper_118 ⟨Nat.le_of_ble_eq_true rfl, Nat.le_of_ble_eq_true rfl⟩) hS ?_
      rintro _ _ locs ⟨x118, rfl, t118⟩ hS
      have t118 : x118.toInt = ((G14.1 (F a 9) 6).toInt) := by rw [(show (G111.1 (F a 9) 6).toInt = ((G14.1 (F a 9) 6).toInt) from (congrArg Int32.toInt ((hF111.1 _ _ (xnj (by decide) (xna (xne_j hj9999a hj9999d (by first | decide | omega)) xn0))).trans ((hF94.1 _ _ xn0).trans ((lc_d hG85).trans ((hF73.1 _ _ xn0).trans (hF18.1 _ _ (xnj (by decide) (xnj (by decide) (xnj (by decide) xn0))))))))).trans (rfl : Int32.toInt (G14.1 (F a 9) 6) = ((G14.1 (F a 9) 6).toInt)))] at t118; exact t118
      exact x_ri hx hb hr hlk hQ (Nat.le_of_ble_eq_true rfl) (Nat.le_of_ble_eq_true rfl) hS dX10_actAsOnPaper_121 G111 ⟨_, rfl, (XFr.call (XFr.call (by rw [hG85]; exact XFr.cput (XFr.call (XFr.call (XFr.call XFr.rf hF14 (xm1 0 rfl (xm1 1 rfl xm0)) (xm1 0 rfl (xm1 1 rfl (xm1 2 rfl (xm1 3 rfl (xm1 4 rfl (xm1 5 rfl (xm1 6 rfl (xm1 7 rfl (xm1 8 rfl xm0))))))))) xm0) hF18 (xm1 2 rfl (xm1 3 rfl (xm1 4 rfl xm0))) (xm1 9 rfl xm0) xm0) hF73 xm0 (xm1 10 rfl xm0) xm0) (List.mem_of_getElem? (i := 10) rfl)) hF94 xm0 (xm1 17 rfl (xm1 18 rfl xm0)) xm0) hF111 (xm1 0 rfl (xm1 6 rfl xm0)) (xm1 0 rfl (xm1 1 rfl (xm1 2 rfl (xm1 19 rfl (xm1 20 rfl (xm1 21 rfl (xm1 22 rfl (xm1 23 rfl (xm1 24 rfl xm0))))))))) xm0), (t111), (by rw [(t118 : Int32.toInt x118 = ((G14.1 (F a 9) 6).toInt))] <;> exact (v_X10_actAsOnPaper_121_14 (K := K) (F := F) a G G111 G14 G94 x18 ha hk9999 hj9999 hk9999a hj9999a hk9999b hj9999b hk9999c hj9999c hk9999d hj9999d hk9999e hj9999e hk9999f hj9999f hk9999g hj9999g hk9999h hj9999i hk9999i hj9999k hk9999j hj9999m hk9999k hj9999o hk9999l hj9999q hk9999m hj9999s hk9999n hj9999t hk9999o hj9999u hk9999p hj9999w hk9999q hj9999z25 hk9999r hj9999z27 hk9999s hj9999z29 hk9999t hj9999z31 hk9999u hj9999z33 hk9999v hj9999z34 hk9999w hj9999z36 hk9999y hj9999z38 hk9999z25 hj9999z40 hk9999z26 hj9999z42 hk9999z27 hj9999z44 hk9999z28 hj9999z46 hk9999z29 hj9999z48 hk9999z30 hj9999z50 hk9999z31 hj9999z51 hk9999z32 hj9999z52 hk9999z33 hj9999z53 hk9999z34 hj9999z54 hk9999z35 hj9999z56 hk9999z36 hj9999z58 hk9999z37 hj9999z59 hk9999z38 hj9999z61 hk9999z39 hj9999z63 (XFr.call (XFr.call (by rw [hG85]; exact XFr.cput (XFr.call (XFr.call (XFr.call XFr.rf hF14 (xm1 0 rfl (xm1 1 rfl xm0)) (xm1 0 rfl (xm1 1 rfl (xm1 2 rfl (xm1 3 rfl (xm1 4 rfl (xm1 5 rfl (xm1 6 rfl (xm1 7 rfl (xm1 8 rfl xm0))))))))) xm0) hF18 (xm1 2 rfl (xm1 3 rfl (xm1 4 rfl xm0))) (xm1 9 rfl xm0) xm0) hF73 xm0 (xm1 10 rfl xm0) xm0) (List.mem_of_getElem? (i := 10) rfl)) hF94 xm0 (xm1 17 rfl (xm1 18 rfl xm0)) xm0) hF111 (xm1 0 rfl (xm1 6 rfl xm0)) (xm1 0 rfl (xm1 1 rfl (xm1 2 rfl (xm1 19 rfl (xm1 20 rfl (xm1 21 rfl (xm1 22 rfl (xm1 23 rfl (xm1 24 rfl xm0))))))))) xm0) hF111 bko oq14 oq18 oq94 oq111 sb sw t14 c21 (xzi hz32) c35 t111 (hF111.2.1 _ (xn1 (xne_k hk9999w hk9999e (by decide)) (xn1 (xne_k hk9999w hk9999f (by decide)) (xn1 (xne_k hk9999w hk9999g (by decide)) (xn1 (xne_k hk9999w hk9999z25 (by decide)) (xn1 (xne_k hk9999w hk9999z26 (by decide)) (xn1 (xne_k hk9999w hk9999z27 (by decide)) (xn1 (xne_k hk9999w hk9999z28 (by decide)) (xn1 (xne_k hk9999w hk9999z29 (by decide)) (xn1 (xne_k hk9999w hk9999z30 (by decide)) xn0)))))))))) ((hF94.2.2 _ xn0).trans ((lc_r hG85).trans ((hF73.2.2 _ xn0).trans ((hF18.2.2 _ xn0).trans (hF14.2.2 _ xn0))))))), (v_X10_actAsOnPaper_121_15 (F := F) a G111 G94 oq94a (hF111.2.1 _ (xn1 (xne_k hk9999w hk9999e (by decide)) (xn1 (xne_k hk9999w hk9999f (by decide)) (xn1 (xne_k hk9999w hk9999g (by decide)) (xn1 (xne_k hk9999w hk9999z25 (by decide)) (xn1 (xne_k hk9999w hk9999z26 (by decide)) (xn1 (xne_k hk9999w hk9999z27 (by decide)) (xn1 (xne_k hk9999w hk9999z28 (by decide)) (xn1 (xne_k hk9999w hk9999z29 (by decide)) (xn1 (xne_k hk9999w hk9999z30 (by decide)) xn0)))))))))) (hF111.2.1 _ (xn1 (xne_j hj9999z38 hj9999e (by first | decide | omega)) (xn1 (xne_j hj9999z38 hj9999f (by first | decide | omega)) (xn1 (xne_k hk9999y hk9999g (by decide)) (xn1 (xne_k hk9999y hk9999z25 (by decide)) (xn1 (xne_k hk9999y hk9999z26 (by decide)) (xn1 (xne_k hk9999y hk9999z27 (by decide)) (xn1 (xne_k hk9999y hk9999z28 (by decide)) (xn1 (xne_k hk9999y hk9999z29 (by decide)) (xn1 (xne_k hk9999y hk9999z30 (by decide)) xn0)))))))))))⟩ hT
    · refine lv_aload_n hx hb dX10_actAsOnPaper_38 rfl (lv_at hl 0 rfl) ?_
      refine lv_aload_n hx hb dX10_actAsOnPaper_39 rfl (lv_at hl 0 rfl) ?_
      refine gX10_9 S hK hT ha kf_X10_61 dX10_actAsOnPaper_40 (fun _ _ => ?_)
      refine x_cl (x_runV (b := a) (As := [.ref (F a 9)]) (rest := []) S (c_X10_askToCommit l E K F G18 a (F a 9) ha hk9999a (by rw [(show (G18.1 (F a 9) 6).toInt = ((G14.1 (F a 9) 6).toInt) from (congrArg Int32.toInt (hF18.1 _ _ (xnj (by decide) (xnj (by decide) (xnj (by decide) xn0))))).trans (rfl : Int32.toInt (G14.1 (F a 9) 6) = ((G14.1 (F a 9) 6).toInt)))] <;> exact (t14)) (v_X10_actAsOnPaper_43_16 (K := K) (F := F) a G G14 x18 ha hk9999 hj9999 hk9999a hj9999a hk9999b hj9999b hk9999c hj9999c hk9999d hj9999d hk9999e hj9999e hk9999f hj9999f hk9999g hj9999g hk9999h hj9999i hk9999i hj9999k hk9999j hj9999m hk9999k hj9999o hk9999l hj9999q hk9999m hj9999s hk9999n hj9999t hk9999o hj9999u hk9999p hj9999w hk9999q hj9999z25 hk9999r hj9999z27 hk9999s hj9999z29 hk9999t hj9999z31 hk9999u hj9999z33 hk9999v hj9999z34 hk9999w hj9999z36 hk9999y hj9999z38 hk9999z25 hj9999z40 hk9999z26 hj9999z42 hk9999z27 hj9999z44 hk9999z28 hj9999z46 hk9999z29 hj9999z48 hk9999z30 hj9999z50 hk9999z31 hj9999z51 hk9999z32 hj9999z52 hk9999z33 hj9999z53 hk9999z34 hj9999z54 hk9999z35 hj9999z56 hk9999z36 hj9999z58 hk9999z37 hj9999z59 hk9999z38 hj9999z61 hk9999z39 hj9999z63 oq18 sb sw t14 c21 (xzi hz32) c35)) mv_X10_askToCommit km_X10_225 rfl rfl ⟨Nat.le_of_ble_eq_true rfl, Nat.le_of_ble_eq_true rfl⟩ (rc_12 hK hT ha) hK (fun _ => XP.blind) (fun U hU hW => XP.at hK hz hS hT hU hW) rfl hl.1 (Nat.le_of_ble_eq_true rfl) dX10_actAsOnPaper_43 ⟨Nat.le_of_ble_eq_true rfl, Nat.le_of_ble_eq_true rfl⟩) hS ?_
      rintro _ G43 H locs ⟨x43, rfl, b43, hF43, t43, oq43, oq43a⟩ hT hS
      have t43 : 0 ≤ ((G43.1 (F a 10) 6).toInt) ∧ ((G43.1 (F a 10) 6).toInt) ≤ 1080 := t43
      refine xi_zne (tgt := 52) hx hb (rfl : Int32.toInt x43 = x43.toInt) dX10_actAsOnPaper_46 (by decide) (fun c46 => ?_) (fun c46 => ?_)
      · refine lv_aload_n hx hb dX10_actAsOnPaper_52 rfl (lv_at hl 0 rfl) ?_
        refine gX10_3 S hK hT ha kf_X10_37 dX10_actAsOnPaper_53 (fun _ _ => ?_)
        refine lv_aload_n hx hb dX10_actAsOnPaper_56 rfl (lv_at hl 0 rfl) ?_
        refine gX10_5 S hK hT ha kf_X10_44 dX10_actAsOnPaper_57 (fun _ _ => ?_)
        refine x_cv0 (x_runV (b := (F a 3)) (As := [.ref (F a 5)]) (rest := []) S (c_X6_copy l E K F G43 (F a 3) (F a 5) hk9999v hk9999z37 (v_X10_actAsOnPaper_60_17 (F := F) a G G43 ron rop rob ((hF43.2.1 _ (xn1 (xne_k hk9999z38 hk9999n (by decide)) (xn1 (xne_k hk9999z38 hk9999p (by decide)) (xn1 (xne_k hk9999z38 hk9999q (by decide)) (xn1 (xne_k hk9999z38 hk9999r (by decide)) (xn1 (xne_k hk9999z38 hk9999s (by decide)) (xn1 (xne_k hk9999z38 hk9999t (by decide)) (xn1 (xne_k hk9999z38 hk9999u (by decide)) xn0)))))))).trans ((hF18.2.1 _ (xn1 (xne_k hk9999z38 hk9999n (by decide)) xn0)).trans (hF14.2.1 _ (xn1 (xne_k hk9999z38 hk9999e (by decide)) (xn1 (xne_k hk9999z38 hk9999f (by decide)) (xn1 (xne_k hk9999z38 hk9999g (by decide)) (xn1 (xne_k hk9999z38 hk9999h (by decide)) (xn1 (xne_k hk9999z38 hk9999i (by decide)) (xn1 (xne_k hk9999z38 hk9999j (by decide)) (xn1 (xne_k hk9999z38 hk9999k (by decide)) (xn1 (xne_k hk9999z38 hk9999l (by decide)) (xn1 (xne_k hk9999z38 hk9999m (by decide)) xn0)))))))))))) ((hF43.2.1 _ (xn1 (xne_k hk9999z39 hk9999n (by decide)) (xn1 (xne_k hk9999z39 hk9999p (by decide)) (xn1 (xne_k hk9999z39 hk9999q (by decide)) (xn1 (xne_k hk9999z39 hk9999r (by decide)) (xn1 (xne_k hk9999z39 hk9999s (by decide)) (xn1 (xne_k hk9999z39 hk9999t (by decide)) (xn1 (xne_k hk9999z39 hk9999u (by decide)) xn0)))))))).trans ((hF18.2.1 _ (xn1 (xne_k hk9999z39 hk9999n (by decide)) xn0)).trans (hF14.2.1 _ (xn1 (xne_j hj9999z63 hj9999e (by first | decide | omega)) (xn1 (xne_j hj9999z63 hj9999f (by first | decide | omega)) (xn1 (xne_k hk9999z39 hk9999g (by decide)) (xn1 (xne_k hk9999z39 hk9999h (by decide)) (xn1 (xne_k hk9999z39 hk9999i (by decide)) (xn1 (xne_k hk9999z39 hk9999j (by decide)) (xn1 (xne_k hk9999z39 hk9999k (by decide)) (xn1 (xne_k hk9999z39 hk9999l (by decide)) (xn1 (xne_k hk9999z39 hk9999m (by decide)) xn0)))))))))))))) mv_X6_copy km_X10_195 rfl rfl ⟨Nat.le_of_ble_eq_true rfl, Nat.le_of_ble_eq_true rfl⟩ (rc_8 hK hT hk9999v) hK (fun _ => XP.blind) (fun U hU hW => XP.at hK hz hS hT hU hW) rfl hl.1 (Nat.le_of_ble_eq_true rfl) dX10_actAsOnPaper_60 ⟨Nat.le_of_ble_eq_true rfl, Nat.le_of_ble_eq_true rfl⟩) hS ?_
        rintro G60 H locs ⟨hF60, oq60, oq60a⟩ hT hS
        have oq60 : (vw (G60.2.1 (F (F a 3) 0))) = (vw (G.2.1 (F (F a 5) 0))) := by simp only [(show G43.2.1 (F (F a 5) 0) = G.2.1 (F (F a 5) 0) from ((hF43.2.1 _ (xn1 (xne_k hk9999z38 hk9999n (by decide)) (xn1 (xne_k hk9999z38 hk9999p (by decide)) (xn1 (xne_k hk9999z38 hk9999q (by decide)) (xn1 (xne_k hk9999z38 hk9999r (by decide)) (xn1 (xne_k hk9999z38 hk9999s (by decide)) (xn1 (xne_k hk9999z38 hk9999t (by decide)) (xn1 (xne_k hk9999z38 hk9999u (by decide)) xn0)))))))).trans ((hF18.2.1 _ (xn1 (xne_k hk9999z38 hk9999n (by decide)) xn0)).trans (hF14.2.1 _ (xn1 (xne_k hk9999z38 hk9999e (by decide)) (xn1 (xne_k hk9999z38 hk9999f (by decide)) (xn1 (xne_k hk9999z38 hk9999g (by decide)) (xn1 (xne_k hk9999z38 hk9999h (by decide)) (xn1 (xne_k hk9999z38 hk9999i (by decide)) (xn1 (xne_k hk9999z38 hk9999j (by decide)) (xn1 (xne_k hk9999z38 hk9999k (by decide)) (xn1 (xne_k hk9999z38 hk9999l (by decide)) (xn1 (xne_k hk9999z38 hk9999m (by decide)) xn0)))))))))))))] at oq60; exact oq60
        refine lv_aload_n hx hb dX10_actAsOnPaper_63 rfl (lv_at hl 0 rfl) ?_
        refine gX10_9 S hK hT ha kf_X10_61 dX10_actAsOnPaper_64 (fun _ _ => ?_)
        refine x_clp (x_runV (b := (F a 9)) (As := []) (rest := []) S (c_X4_size l E K F G60 H (F a 9) hk9999a) mv_X4_size km_X10_232 rfl rfl ⟨Nat.le_of_ble_eq_true rfl, Nat.le_of_ble_eq_true rfl⟩ (rc_6 hK hT hk9999a) hK (fun _ => XPh.blind) (fun U hU hW => XPh.at hK hz hS hT hU hW) rfl hl.1 (Nat.le_of_ble_eq_true rfl) dX10_actAsOnPaper_67 ⟨Nat.le_of_ble_eq_true rfl, Nat.le_of_ble_eq_true rfl⟩) hS ?_
        rintro _ _ locs ⟨x67, rfl, t67⟩ hS
        have t67 : x67.toInt = ((G14.1 (F a 9) 6).toInt) := by rw [(show (G60.1 (F a 9) 6).toInt = ((G14.1 (F a 9) 6).toInt) from (congrArg Int32.toInt ((hF60.1 _ _ xn0).trans ((hF43.1 _ _ (xnj (by decide) (xnj (by decide) (xnj (by decide) (xna (xne_j hj9999a hj9999c (by first | decide | omega)) xn0))))).trans (hF18.1 _ _ (xnj (by decide) (xnj (by decide) (xnj (by decide) xn0))))))).trans (rfl : Int32.toInt (G14.1 (F a 9) 6) = ((G14.1 (F a 9) 6).toInt)))] at t67; exact t67
        exact x_ri hx hb hr hlk hQ (Nat.le_of_ble_eq_true rfl) (Nat.le_of_ble_eq_true rfl) hS dX10_actAsOnPaper_70 G60 ⟨_, rfl, (XFr.call (XFr.call (XFr.call (XFr.call XFr.rf hF14 (xm1 0 rfl (xm1 1 rfl xm0)) (xm1 0 rfl (xm1 1 rfl (xm1 2 rfl (xm1 3 rfl (xm1 4 rfl (xm1 5 rfl (xm1 6 rfl (xm1 7 rfl (xm1 8 rfl xm0))))))))) xm0) hF18 (xm1 2 rfl (xm1 3 rfl (xm1 4 rfl xm0))) (xm1 9 rfl xm0) xm0) hF43 (xm1 2 rfl (xm1 3 rfl (xm1 4 rfl (xm1 5 rfl xm0)))) (xm1 9 rfl (xm1 11 rfl (xm1 12 rfl (xm1 13 rfl (xm1 14 rfl (xm1 15 rfl (xm1 16 rfl xm0))))))) xm0) hF60 xm0 (xm1 17 rfl (xm1 18 rfl xm0)) xm0), (by rw [(show (G60.1 (F a 8) 6).toInt = ((G.1 (F a 8) 6).toInt) from (congrArg Int32.toInt ((hF60.1 _ _ xn0).trans ((hF43.1 _ _ (xnj (by decide) (xnj (by decide) (xnj (by decide) (xna (xne_j hj9999d hj9999c (by first | decide | omega)) xn0))))).trans ((hF18.1 _ _ (xnj (by decide) (xnj (by decide) (xnj (by decide) xn0)))).trans (hF14.1 _ _ (xnj (by decide) (xna (xne_j hj9999d hj9999a (by first | decide | omega)) xn0))))))).trans (rfl : Int32.toInt (G.1 (F a 8) 6) = ((G.1 (F a 8) 6).toInt)))] <;> exact (sw)), (by rw [(t67 : Int32.toInt x67 = ((G14.1 (F a 9) 6).toInt))] <;> exact (v_X10_actAsOnPaper_70_18 (K := K) (F := F) a G G60 G14 G18 G43 x18 x43 ha oq14 oq18 oq43 oq43a oq60 sb sw t14 c21 (xzi hz32) c35 t43 (xzi b43) c46 (hF18.2.1 _ (xn1 (xne_k hk9999h hk9999n (by decide)) xn0)) (hF18.2.1 _ (xn1 (xne_k hk9999i hk9999n (by decide)) xn0)) (hF18.2.1 _ (xn1 (xne_k hk9999j hk9999n (by decide)) xn0)) (hF18.2.1 _ (xn1 (xne_k hk9999k hk9999n (by decide)) xn0)) (hF18.2.1 _ (xn1 (xne_k hk9999l hk9999n (by decide)) xn0)) (hF18.2.1 _ (xn1 (xne_k hk9999m hk9999n (by decide)) xn0)) ((hF60.2.1 _ (xn1 (xne_k hk9999z25 hk9999w (by decide)) (xn1 (xne_k hk9999z25 hk9999y (by decide)) xn0))).trans ((hF43.2.1 _ (xn1 (xne_k hk9999z25 hk9999n (by decide)) (xn1 (xne_j hj9999z40 hj9999w (by first | decide | omega)) (xn1 (xne_j hj9999z40 hj9999z25 (by first | decide | omega)) (xn1 (xne_j hj9999z40 hj9999z27 (by first | decide | omega)) (xn1 (xne_j hj9999z40 hj9999z29 (by first | decide | omega)) (xn1 (xne_k hk9999z25 hk9999t (by decide)) (xn1 (xne_k hk9999z25 hk9999u (by decide)) xn0)))))))).trans ((hF18.2.1 _ (xn1 (xne_k hk9999z25 hk9999n (by decide)) xn0)).trans (hF14.2.1 _ (xn1 (xne_k hk9999z25 hk9999e (by decide)) (xn1 (xne_k hk9999z25 hk9999f (by decide)) (xn1 (xne_k hk9999z25 hk9999g (by decide)) (xn1 (xne_j hj9999z40 hj9999i (by first | decide | omega)) (xn1 (xne_j hj9999z40 hj9999k (by first | decide | omega)) (xn1 (xne_j hj9999z40 hj9999m (by first | decide | omega)) (xn1 (xne_j hj9999z40 hj9999o (by first | decide | omega)) (xn1 (xne_k hk9999z25 hk9999l (by decide)) (xn1 (xne_k hk9999z25 hk9999m (by decide)) xn0))))))))))))) ((hF60.2.1 _ (xn1 (xne_k hk9999z26 hk9999w (by decide)) (xn1 (xne_k hk9999z26 hk9999y (by decide)) xn0))).trans ((hF43.2.1 _ (xn1 (xne_k hk9999z26 hk9999n (by decide)) (xn1 (xne_j hj9999z42 hj9999w (by first | decide | omega)) (xn1 (xne_j hj9999z42 hj9999z25 (by first | decide | omega)) (xn1 (xne_j hj9999z42 hj9999z27 (by first | decide | omega)) (xn1 (xne_j hj9999z42 hj9999z29 (by first | decide | omega)) (xn1 (xne_k hk9999z26 hk9999t (by decide)) (xn1 (xne_k hk9999z26 hk9999u (by decide)) xn0)))))))).trans ((hF18.2.1 _ (xn1 (xne_k hk9999z26 hk9999n (by decide)) xn0)).trans (hF14.2.1 _ (xn1 (xne_k hk9999z26 hk9999e (by decide)) (xn1 (xne_k hk9999z26 hk9999f (by decide)) (xn1 (xne_k hk9999z26 hk9999g (by decide)) (xn1 (xne_j hj9999z42 hj9999i (by first | decide | omega)) (xn1 (xne_j hj9999z42 hj9999k (by first | decide | omega)) (xn1 (xne_j hj9999z42 hj9999m (by first | decide | omega)) (xn1 (xne_j hj9999z42 hj9999o (by first | decide | omega)) (xn1 (xne_k hk9999z26 hk9999l (by decide)) (xn1 (xne_k hk9999z26 hk9999m (by decide)) xn0))))))))))))) ((hF60.2.1 _ (xn1 (xne_k hk9999z27 hk9999w (by decide)) (xn1 (xne_k hk9999z27 hk9999y (by decide)) xn0))).trans ((hF43.2.1 _ (xn1 (xne_k hk9999z27 hk9999n (by decide)) (xn1 (xne_j hj9999z44 hj9999w (by first | decide | omega)) (xn1 (xne_j hj9999z44 hj9999z25 (by first | decide | omega)) (xn1 (xne_j hj9999z44 hj9999z27 (by first | decide | omega)) (xn1 (xne_j hj9999z44 hj9999z29 (by first | decide | omega)) (xn1 (xne_k hk9999z27 hk9999t (by decide)) (xn1 (xne_k hk9999z27 hk9999u (by decide)) xn0)))))))).trans ((hF18.2.1 _ (xn1 (xne_k hk9999z27 hk9999n (by decide)) xn0)).trans (hF14.2.1 _ (xn1 (xne_k hk9999z27 hk9999e (by decide)) (xn1 (xne_k hk9999z27 hk9999f (by decide)) (xn1 (xne_k hk9999z27 hk9999g (by decide)) (xn1 (xne_j hj9999z44 hj9999i (by first | decide | omega)) (xn1 (xne_j hj9999z44 hj9999k (by first | decide | omega)) (xn1 (xne_j hj9999z44 hj9999m (by first | decide | omega)) (xn1 (xne_j hj9999z44 hj9999o (by first | decide | omega)) (xn1 (xne_k hk9999z27 hk9999l (by decide)) (xn1 (xne_k hk9999z27 hk9999m (by decide)) xn0))))))))))))) ((hF60.2.1 _ (xn1 (xne_k hk9999z28 hk9999w (by decide)) (xn1 (xne_k hk9999z28 hk9999y (by decide)) xn0))).trans ((hF43.2.1 _ (xn1 (xne_k hk9999z28 hk9999n (by decide)) (xn1 (xne_j hj9999z46 hj9999w (by first | decide | omega)) (xn1 (xne_j hj9999z46 hj9999z25 (by first | decide | omega)) (xn1 (xne_j hj9999z46 hj9999z27 (by first | decide | omega)) (xn1 (xne_j hj9999z46 hj9999z29 (by first | decide | omega)) (xn1 (xne_k hk9999z28 hk9999t (by decide)) (xn1 (xne_k hk9999z28 hk9999u (by decide)) xn0)))))))).trans ((hF18.2.1 _ (xn1 (xne_k hk9999z28 hk9999n (by decide)) xn0)).trans (hF14.2.1 _ (xn1 (xne_k hk9999z28 hk9999e (by decide)) (xn1 (xne_k hk9999z28 hk9999f (by decide)) (xn1 (xne_k hk9999z28 hk9999g (by decide)) (xn1 (xne_j hj9999z46 hj9999i (by first | decide | omega)) (xn1 (xne_j hj9999z46 hj9999k (by first | decide | omega)) (xn1 (xne_j hj9999z46 hj9999m (by first | decide | omega)) (xn1 (xne_j hj9999z46 hj9999o (by first | decide | omega)) (xn1 (xne_k hk9999z28 hk9999l (by decide)) (xn1 (xne_k hk9999z28 hk9999m (by decide)) xn0))))))))))))) ((hF60.2.1 _ (xn1 (xne_k hk9999z29 hk9999w (by decide)) (xn1 (xne_k hk9999z29 hk9999y (by decide)) xn0))).trans ((hF43.2.1 _ (xn1 (xne_k hk9999z29 hk9999n (by decide)) (xn1 (xne_k hk9999z29 hk9999p (by decide)) (xn1 (xne_k hk9999z29 hk9999q (by decide)) (xn1 (xne_k hk9999z29 hk9999r (by decide)) (xn1 (xne_k hk9999z29 hk9999s (by decide)) (xn1 (xne_j hj9999z48 hj9999z31 (by first | decide | omega)) (xn1 (xne_j hj9999z48 hj9999z33 (by first | decide | omega)) xn0)))))))).trans ((hF18.2.1 _ (xn1 (xne_k hk9999z29 hk9999n (by decide)) xn0)).trans (hF14.2.1 _ (xn1 (xne_k hk9999z29 hk9999e (by decide)) (xn1 (xne_k hk9999z29 hk9999f (by decide)) (xn1 (xne_k hk9999z29 hk9999g (by decide)) (xn1 (xne_k hk9999z29 hk9999h (by decide)) (xn1 (xne_k hk9999z29 hk9999i (by decide)) (xn1 (xne_k hk9999z29 hk9999j (by decide)) (xn1 (xne_k hk9999z29 hk9999k (by decide)) (xn1 (xne_j hj9999z48 hj9999q (by first | decide | omega)) (xn1 (xne_j hj9999z48 hj9999s (by first | decide | omega)) xn0))))))))))))) ((hF60.2.1 _ (xn1 (xne_k hk9999z30 hk9999w (by decide)) (xn1 (xne_k hk9999z30 hk9999y (by decide)) xn0))).trans ((hF43.2.1 _ (xn1 (xne_k hk9999z30 hk9999n (by decide)) (xn1 (xne_k hk9999z30 hk9999p (by decide)) (xn1 (xne_k hk9999z30 hk9999q (by decide)) (xn1 (xne_k hk9999z30 hk9999r (by decide)) (xn1 (xne_k hk9999z30 hk9999s (by decide)) (xn1 (xne_j hj9999z50 hj9999z31 (by first | decide | omega)) (xn1 (xne_j hj9999z50 hj9999z33 (by first | decide | omega)) xn0)))))))).trans ((hF18.2.1 _ (xn1 (xne_k hk9999z30 hk9999n (by decide)) xn0)).trans (hF14.2.1 _ (xn1 (xne_k hk9999z30 hk9999e (by decide)) (xn1 (xne_k hk9999z30 hk9999f (by decide)) (xn1 (xne_k hk9999z30 hk9999g (by decide)) (xn1 (xne_k hk9999z30 hk9999h (by decide)) (xn1 (xne_k hk9999z30 hk9999i (by decide)) (xn1 (xne_k hk9999z30 hk9999j (by decide)) (xn1 (xne_k hk9999z30 hk9999k (by decide)) (xn1 (xne_j hj9999z50 hj9999q (by first | decide | omega)) (xn1 (xne_j hj9999z50 hj9999s (by first | decide | omega)) xn0))))))))))))) (hF18.1 _ _ (xnj (by decide) (xnj (by decide) (xnj (by decide) xn0)))) ((hF60.1 _ _ xn0).trans ((hF43.1 _ _ (xnj (by decide) (xnj (by decide) (xnj (by decide) (xna (xne_j hj9999d hj9999c (by first | decide | omega)) xn0))))).trans ((hF18.1 _ _ (xnj (by decide) (xnj (by decide) (xnj (by decide) xn0)))).trans (hF14.1 _ _ (xnj (by decide) (xna (xne_j hj9999d hj9999a (by first | decide | omega)) xn0)))))))), (v_X10_actAsOnPaper_70_19 (F := F) a G60 oq60a)⟩ hT
      · refine lv_bipush (v := (-5)) hx hb dX10_actAsOnPaper_49 (by decide) ?_
        exact x_ri hx hb hr hlk hQ (Nat.le_of_ble_eq_true rfl) (Nat.le_of_ble_eq_true rfl) hS dX10_actAsOnPaper_51 G43 ⟨_, rfl, (XFr.call (XFr.call (XFr.call XFr.rf hF14 (xm1 0 rfl (xm1 1 rfl xm0)) (xm1 0 rfl (xm1 1 rfl (xm1 2 rfl (xm1 3 rfl (xm1 4 rfl (xm1 5 rfl (xm1 6 rfl (xm1 7 rfl (xm1 8 rfl xm0))))))))) xm0) hF18 (xm1 2 rfl (xm1 3 rfl (xm1 4 rfl xm0))) (xm1 9 rfl xm0) xm0) hF43 (xm1 2 rfl (xm1 3 rfl (xm1 4 rfl (xm1 5 rfl xm0)))) (xm1 9 rfl (xm1 11 rfl (xm1 12 rfl (xm1 13 rfl (xm1 14 rfl (xm1 15 rfl (xm1 16 rfl xm0))))))) xm0), (by rw [(show (G43.1 (F a 8) 6).toInt = ((G.1 (F a 8) 6).toInt) from (congrArg Int32.toInt ((hF43.1 _ _ (xnj (by decide) (xnj (by decide) (xnj (by decide) (xna (xne_j hj9999d hj9999c (by first | decide | omega)) xn0))))).trans ((hF18.1 _ _ (xnj (by decide) (xnj (by decide) (xnj (by decide) xn0)))).trans (hF14.1 _ _ (xnj (by decide) (xna (xne_j hj9999d hj9999a (by first | decide | omega)) xn0)))))).trans (rfl : Int32.toInt (G.1 (F a 8) 6) = ((G.1 (F a 8) 6).toInt)))] <;> exact (sw)), (by rw [((by decide) : Int32.toInt (-5) = (-5 : Int))] <;> exact (v_X10_actAsOnPaper_51_20 (K := K) (F := F) a G G43 G14 G18 x18 x43 ha oq14 oq18 oq43 oq43a sb sw t14 c21 (xzi hz32) c35 t43 (xzi b43) c46 (hF18.2.1 _ (xn1 (xne_k hk9999h hk9999n (by decide)) xn0)) (hF18.2.1 _ (xn1 (xne_k hk9999i hk9999n (by decide)) xn0)) (hF18.2.1 _ (xn1 (xne_k hk9999j hk9999n (by decide)) xn0)) (hF18.2.1 _ (xn1 (xne_k hk9999k hk9999n (by decide)) xn0)) (hF18.2.1 _ (xn1 (xne_k hk9999l hk9999n (by decide)) xn0)) (hF18.2.1 _ (xn1 (xne_k hk9999m hk9999n (by decide)) xn0)) ((hF43.2.1 _ (xn1 (xne_k hk9999w hk9999n (by decide)) (xn1 (xne_k hk9999w hk9999p (by decide)) (xn1 (xne_k hk9999w hk9999q (by decide)) (xn1 (xne_k hk9999w hk9999r (by decide)) (xn1 (xne_k hk9999w hk9999s (by decide)) (xn1 (xne_k hk9999w hk9999t (by decide)) (xn1 (xne_k hk9999w hk9999u (by decide)) xn0)))))))).trans ((hF18.2.1 _ (xn1 (xne_k hk9999w hk9999n (by decide)) xn0)).trans (hF14.2.1 _ (xn1 (xne_k hk9999w hk9999e (by decide)) (xn1 (xne_k hk9999w hk9999f (by decide)) (xn1 (xne_k hk9999w hk9999g (by decide)) (xn1 (xne_k hk9999w hk9999h (by decide)) (xn1 (xne_k hk9999w hk9999i (by decide)) (xn1 (xne_k hk9999w hk9999j (by decide)) (xn1 (xne_k hk9999w hk9999k (by decide)) (xn1 (xne_k hk9999w hk9999l (by decide)) (xn1 (xne_k hk9999w hk9999m (by decide)) xn0)))))))))))) ((hF43.2.1 _ (xn1 (xne_k hk9999z25 hk9999n (by decide)) (xn1 (xne_j hj9999z40 hj9999w (by first | decide | omega)) (xn1 (xne_j hj9999z40 hj9999z25 (by first | decide | omega)) (xn1 (xne_j hj9999z40 hj9999z27 (by first | decide | omega)) (xn1 (xne_j hj9999z40 hj9999z29 (by first | decide | omega)) (xn1 (xne_k hk9999z25 hk9999t (by decide)) (xn1 (xne_k hk9999z25 hk9999u (by decide)) xn0)))))))).trans ((hF18.2.1 _ (xn1 (xne_k hk9999z25 hk9999n (by decide)) xn0)).trans (hF14.2.1 _ (xn1 (xne_k hk9999z25 hk9999e (by decide)) (xn1 (xne_k hk9999z25 hk9999f (by decide)) (xn1 (xne_k hk9999z25 hk9999g (by decide)) (xn1 (xne_j hj9999z40 hj9999i (by first | decide | omega)) (xn1 (xne_j hj9999z40 hj9999k (by first | decide | omega)) (xn1 (xne_j hj9999z40 hj9999m (by first | decide | omega)) (xn1 (xne_j hj9999z40 hj9999o (by first | decide | omega)) (xn1 (xne_k hk9999z25 hk9999l (by decide)) (xn1 (xne_k hk9999z25 hk9999m (by decide)) xn0)))))))))))) ((hF43.2.1 _ (xn1 (xne_k hk9999z26 hk9999n (by decide)) (xn1 (xne_j hj9999z42 hj9999w (by first | decide | omega)) (xn1 (xne_j hj9999z42 hj9999z25 (by first | decide | omega)) (xn1 (xne_j hj9999z42 hj9999z27 (by first | decide | omega)) (xn1 (xne_j hj9999z42 hj9999z29 (by first | decide | omega)) (xn1 (xne_k hk9999z26 hk9999t (by decide)) (xn1 (xne_k hk9999z26 hk9999u (by decide)) xn0)))))))).trans ((hF18.2.1 _ (xn1 (xne_k hk9999z26 hk9999n (by decide)) xn0)).trans (hF14.2.1 _ (xn1 (xne_k hk9999z26 hk9999e (by decide)) (xn1 (xne_k hk9999z26 hk9999f (by decide)) (xn1 (xne_k hk9999z26 hk9999g (by decide)) (xn1 (xne_j hj9999z42 hj9999i (by first | decide | omega)) (xn1 (xne_j hj9999z42 hj9999k (by first | decide | omega)) (xn1 (xne_j hj9999z42 hj9999m (by first | decide | omega)) (xn1 (xne_j hj9999z42 hj9999o (by first | decide | omega)) (xn1 (xne_k hk9999z26 hk9999l (by decide)) (xn1 (xne_k hk9999z26 hk9999m (by decide)) xn0)))))))))))) ((hF43.2.1 _ (xn1 (xne_k hk9999z27 hk9999n (by decide)) (xn1 (xne_j hj9999z44 hj9999w (by first | decide | omega)) (xn1 (xne_j hj9999z44 hj9999z25 (by first | decide | omega)) (xn1 (xne_j hj9999z44 hj9999z27 (by first | decide | omega)) (xn1 (xne_j hj9999z44 hj9999z29 (by first | decide | omega)) (xn1 (xne_k hk9999z27 hk9999t (by decide)) (xn1 (xne_k hk9999z27 hk9999u (by decide)) xn0)))))))).trans ((hF18.2.1 _ (xn1 (xne_k hk9999z27 hk9999n (by decide)) xn0)).trans (hF14.2.1 _ (xn1 (xne_k hk9999z27 hk9999e (by decide)) (xn1 (xne_k hk9999z27 hk9999f (by decide)) (xn1 (xne_k hk9999z27 hk9999g (by decide)) (xn1 (xne_j hj9999z44 hj9999i (by first | decide | omega)) (xn1 (xne_j hj9999z44 hj9999k (by first | decide | omega)) (xn1 (xne_j hj9999z44 hj9999m (by first | decide | omega)) (xn1 (xne_j hj9999z44 hj9999o (by first | decide | omega)) (xn1 (xne_k hk9999z27 hk9999l (by decide)) (xn1 (xne_k hk9999z27 hk9999m (by decide)) xn0)))))))))))) ((hF43.2.1 _ (xn1 (xne_k hk9999z28 hk9999n (by decide)) (xn1 (xne_j hj9999z46 hj9999w (by first | decide | omega)) (xn1 (xne_j hj9999z46 hj9999z25 (by first | decide | omega)) (xn1 (xne_j hj9999z46 hj9999z27 (by first | decide | omega)) (xn1 (xne_j hj9999z46 hj9999z29 (by first | decide | omega)) (xn1 (xne_k hk9999z28 hk9999t (by decide)) (xn1 (xne_k hk9999z28 hk9999u (by decide)) xn0)))))))).trans ((hF18.2.1 _ (xn1 (xne_k hk9999z28 hk9999n (by decide)) xn0)).trans (hF14.2.1 _ (xn1 (xne_k hk9999z28 hk9999e (by decide)) (xn1 (xne_k hk9999z28 hk9999f (by decide)) (xn1 (xne_k hk9999z28 hk9999g (by decide)) (xn1 (xne_j hj9999z46 hj9999i (by first | decide | omega)) (xn1 (xne_j hj9999z46 hj9999k (by first | decide | omega)) (xn1 (xne_j hj9999z46 hj9999m (by first | decide | omega)) (xn1 (xne_j hj9999z46 hj9999o (by first | decide | omega)) (xn1 (xne_k hk9999z28 hk9999l (by decide)) (xn1 (xne_k hk9999z28 hk9999m (by decide)) xn0)))))))))))) ((hF43.2.1 _ (xn1 (xne_k hk9999z29 hk9999n (by decide)) (xn1 (xne_k hk9999z29 hk9999p (by decide)) (xn1 (xne_k hk9999z29 hk9999q (by decide)) (xn1 (xne_k hk9999z29 hk9999r (by decide)) (xn1 (xne_k hk9999z29 hk9999s (by decide)) (xn1 (xne_j hj9999z48 hj9999z31 (by first | decide | omega)) (xn1 (xne_j hj9999z48 hj9999z33 (by first | decide | omega)) xn0)))))))).trans ((hF18.2.1 _ (xn1 (xne_k hk9999z29 hk9999n (by decide)) xn0)).trans (hF14.2.1 _ (xn1 (xne_k hk9999z29 hk9999e (by decide)) (xn1 (xne_k hk9999z29 hk9999f (by decide)) (xn1 (xne_k hk9999z29 hk9999g (by decide)) (xn1 (xne_k hk9999z29 hk9999h (by decide)) (xn1 (xne_k hk9999z29 hk9999i (by decide)) (xn1 (xne_k hk9999z29 hk9999j (by decide)) (xn1 (xne_k hk9999z29 hk9999k (by decide)) (xn1 (xne_j hj9999z48 hj9999q (by first | decide | omega)) (xn1 (xne_j hj9999z48 hj9999s (by first | decide | omega)) xn0)))))))))))) ((hF43.2.1 _ (xn1 (xne_k hk9999z30 hk9999n (by decide)) (xn1 (xne_k hk9999z30 hk9999p (by decide)) (xn1 (xne_k hk9999z30 hk9999q (by decide)) (xn1 (xne_k hk9999z30 hk9999r (by decide)) (xn1 (xne_k hk9999z30 hk9999s (by decide)) (xn1 (xne_j hj9999z50 hj9999z31 (by first | decide | omega)) (xn1 (xne_j hj9999z50 hj9999z33 (by first | decide | omega)) xn0)))))))).trans ((hF18.2.1 _ (xn1 (xne_k hk9999z30 hk9999n (by decide)) xn0)).trans (hF14.2.1 _ (xn1 (xne_k hk9999z30 hk9999e (by decide)) (xn1 (xne_k hk9999z30 hk9999f (by decide)) (xn1 (xne_k hk9999z30 hk9999g (by decide)) (xn1 (xne_k hk9999z30 hk9999h (by decide)) (xn1 (xne_k hk9999z30 hk9999i (by decide)) (xn1 (xne_k hk9999z30 hk9999j (by decide)) (xn1 (xne_k hk9999z30 hk9999k (by decide)) (xn1 (xne_j hj9999z50 hj9999q (by first | decide | omega)) (xn1 (xne_j hj9999z50 hj9999s (by first | decide | omega)) xn0)))))))))))) (hF18.1 _ _ (xnj (by decide) (xnj (by decide) (xnj (by decide) xn0)))) ((hF43.1 _ _ (xnj (by decide) (xnj (by decide) (xnj (by decide) (xna (xne_j hj9999d hj9999c (by first | decide | omega)) xn0))))).trans ((hF18.1 _ _ (xnj (by decide) (xnj (by decide) (xnj (by decide) xn0)))).trans (hF14.1 _ _ (xnj (by decide) (xna (xne_j hj9999d hj9999a (by first | decide | omega)) xn0))))))), (v_X10_actAsOnPaper_51_21 (F := F) a G G43 ron ((hF43.2.1 _ (xn1 (xne_k hk9999w hk9999n (by decide)) (xn1 (xne_k hk9999w hk9999p (by decide)) (xn1 (xne_k hk9999w hk9999q (by decide)) (xn1 (xne_k hk9999w hk9999r (by decide)) (xn1 (xne_k hk9999w hk9999s (by decide)) (xn1 (xne_k hk9999w hk9999t (by decide)) (xn1 (xne_k hk9999w hk9999u (by decide)) xn0)))))))).trans ((hF18.2.1 _ (xn1 (xne_k hk9999w hk9999n (by decide)) xn0)).trans (hF14.2.1 _ (xn1 (xne_k hk9999w hk9999e (by decide)) (xn1 (xne_k hk9999w hk9999f (by decide)) (xn1 (xne_k hk9999w hk9999g (by decide)) (xn1 (xne_k hk9999w hk9999h (by decide)) (xn1 (xne_k hk9999w hk9999i (by decide)) (xn1 (xne_k hk9999w hk9999j (by decide)) (xn1 (xne_k hk9999w hk9999k (by decide)) (xn1 (xne_k hk9999w hk9999l (by decide)) (xn1 (xne_k hk9999w hk9999m (by decide)) xn0)))))))))))) ((hF43.2.1 _ (xn1 (xne_k hk9999y hk9999n (by decide)) (xn1 (xne_k hk9999y hk9999p (by decide)) (xn1 (xne_k hk9999y hk9999q (by decide)) (xn1 (xne_k hk9999y hk9999r (by decide)) (xn1 (xne_k hk9999y hk9999s (by decide)) (xn1 (xne_k hk9999y hk9999t (by decide)) (xn1 (xne_k hk9999y hk9999u (by decide)) xn0)))))))).trans ((hF18.2.1 _ (xn1 (xne_k hk9999y hk9999n (by decide)) xn0)).trans (hF14.2.1 _ (xn1 (xne_j hj9999z38 hj9999e (by first | decide | omega)) (xn1 (xne_j hj9999z38 hj9999f (by first | decide | omega)) (xn1 (xne_k hk9999y hk9999g (by decide)) (xn1 (xne_k hk9999y hk9999h (by decide)) (xn1 (xne_k hk9999y hk9999i (by decide)) (xn1 (xne_k hk9999y hk9999j (by decide)) (xn1 (xne_k hk9999y hk9999k (by decide)) (xn1 (xne_k hk9999y hk9999l (by decide)) (xn1 (xne_k hk9999y hk9999m (by decide)) xn0)))))))))))))⟩ hT
  · refine lv_aload_n hx hb dX10_actAsOnPaper_24 rfl (lv_at hl 0 rfl) ?_
    refine lv_bipush (v := (-5)) hx hb dX10_actAsOnPaper_25 (by decide) ?_
    refine x_cl0 (x_runV (b := a) (As := [.int (-5)]) (rest := []) S (c_X10_refuseAct l E K F G18 a (-5) ha) mv_X10_refuseAct km_X10_188 rfl rfl ⟨Nat.le_of_ble_eq_true rfl, Nat.le_of_ble_eq_true rfl⟩ (rc_12 hK hT ha) hK (fun _ => XP.blind) (fun U hU hW => XP.at hK hz hS hT hU hW) rfl hl.1 (Nat.le_of_ble_eq_true rfl) dX10_actAsOnPaper_27 ⟨Nat.le_of_ble_eq_true rfl, Nat.le_of_ble_eq_true rfl⟩) hS ?_
    rintro _ G27 H locs ⟨x27, rfl, hF27, t27⟩ hT hS
    have t27 : x27.toInt = (-5 : Int) := by rw [((by decide) : Int32.toInt (-5) = (-5 : Int))] at t27; exact t27
    exact x_ri hx hb hr hlk hQ (Nat.le_of_ble_eq_true rfl) (Nat.le_of_ble_eq_true rfl) hS dX10_actAsOnPaper_30 G27 ⟨_, rfl, (XFr.call (XFr.call (XFr.call XFr.rf hF14 (xm1 0 rfl (xm1 1 rfl xm0)) (xm1 0 rfl (xm1 1 rfl (xm1 2 rfl (xm1 3 rfl (xm1 4 rfl (xm1 5 rfl (xm1 6 rfl (xm1 7 rfl (xm1 8 rfl xm0))))))))) xm0) hF18 (xm1 2 rfl (xm1 3 rfl (xm1 4 rfl xm0))) (xm1 9 rfl xm0) xm0) hF27 xm0 (xm1 10 rfl xm0) xm0), (by rw [(show (G27.1 (F a 8) 6).toInt = ((G.1 (F a 8) 6).toInt) from (congrArg Int32.toInt ((hF27.1 _ _ xn0).trans ((hF18.1 _ _ (xnj (by decide) (xnj (by decide) (xnj (by decide) xn0)))).trans (hF14.1 _ _ (xnj (by decide) (xna (xne_j hj9999d hj9999a (by first | decide | omega)) xn0)))))).trans (rfl : Int32.toInt (G.1 (F a 8) 6) = ((G.1 (F a 8) 6).toInt)))] <;> exact (sw)), (by rw [(t27 : Int32.toInt x27 = (-5 : Int))] <;> exact (v_X10_actAsOnPaper_30_22 (K := K) (F := F) a G G27 G14 x18 ha oq14 oq18 sb sw t14 c21 ((hF27.2.1 _ (xn1 (xne_k hk9999w hk9999o (by decide)) xn0)).trans ((hF18.2.1 _ (xn1 (xne_k hk9999w hk9999n (by decide)) xn0)).trans (hF14.2.1 _ (xn1 (xne_k hk9999w hk9999e (by decide)) (xn1 (xne_k hk9999w hk9999f (by decide)) (xn1 (xne_k hk9999w hk9999g (by decide)) (xn1 (xne_k hk9999w hk9999h (by decide)) (xn1 (xne_k hk9999w hk9999i (by decide)) (xn1 (xne_k hk9999w hk9999j (by decide)) (xn1 (xne_k hk9999w hk9999k (by decide)) (xn1 (xne_k hk9999w hk9999l (by decide)) (xn1 (xne_k hk9999w hk9999m (by decide)) xn0)))))))))))) ((hF27.2.1 _ (xn1 (xne_k hk9999z25 hk9999o (by decide)) xn0)).trans ((hF18.2.1 _ (xn1 (xne_k hk9999z25 hk9999n (by decide)) xn0)).trans (hF14.2.1 _ (xn1 (xne_k hk9999z25 hk9999e (by decide)) (xn1 (xne_k hk9999z25 hk9999f (by decide)) (xn1 (xne_k hk9999z25 hk9999g (by decide)) (xn1 (xne_j hj9999z40 hj9999i (by first | decide | omega)) (xn1 (xne_j hj9999z40 hj9999k (by first | decide | omega)) (xn1 (xne_j hj9999z40 hj9999m (by first | decide | omega)) (xn1 (xne_j hj9999z40 hj9999o (by first | decide | omega)) (xn1 (xne_k hk9999z25 hk9999l (by decide)) (xn1 (xne_k hk9999z25 hk9999m (by decide)) xn0)))))))))))) ((hF27.2.1 _ (xn1 (xne_k hk9999z26 hk9999o (by decide)) xn0)).trans ((hF18.2.1 _ (xn1 (xne_k hk9999z26 hk9999n (by decide)) xn0)).trans (hF14.2.1 _ (xn1 (xne_k hk9999z26 hk9999e (by decide)) (xn1 (xne_k hk9999z26 hk9999f (by decide)) (xn1 (xne_k hk9999z26 hk9999g (by decide)) (xn1 (xne_j hj9999z42 hj9999i (by first | decide | omega)) (xn1 (xne_j hj9999z42 hj9999k (by first | decide | omega)) (xn1 (xne_j hj9999z42 hj9999m (by first | decide | omega)) (xn1 (xne_j hj9999z42 hj9999o (by first | decide | omega)) (xn1 (xne_k hk9999z26 hk9999l (by decide)) (xn1 (xne_k hk9999z26 hk9999m (by decide)) xn0)))))))))))) ((hF27.2.1 _ (xn1 (xne_k hk9999z27 hk9999o (by decide)) xn0)).trans ((hF18.2.1 _ (xn1 (xne_k hk9999z27 hk9999n (by decide)) xn0)).trans (hF14.2.1 _ (xn1 (xne_k hk9999z27 hk9999e (by decide)) (xn1 (xne_k hk9999z27 hk9999f (by decide)) (xn1 (xne_k hk9999z27 hk9999g (by decide)) (xn1 (xne_j hj9999z44 hj9999i (by first | decide | omega)) (xn1 (xne_j hj9999z44 hj9999k (by first | decide | omega)) (xn1 (xne_j hj9999z44 hj9999m (by first | decide | omega)) (xn1 (xne_j hj9999z44 hj9999o (by first | decide | omega)) (xn1 (xne_k hk9999z27 hk9999l (by decide)) (xn1 (xne_k hk9999z27 hk9999m (by decide)) xn0)))))))))))) ((hF27.2.1 _ (xn1 (xne_k hk9999z28 hk9999o (by decide)) xn0)).trans ((hF18.2.1 _ (xn1 (xne_k hk9999z28 hk9999n (by decide)) xn0)).trans (hF14.2.1 _ (xn1 (xne_k hk9999z28 hk9999e (by decide)) (xn1 (xne_k hk9999z28 hk9999f (by decide)) (xn1 (xne_k hk9999z28 hk9999g (by decide)) (xn1 (xne_j hj9999z46 hj9999i (by first | decide | omega)) (xn1 (xne_j hj9999z46 hj9999k (by first | decide | omega)) (xn1 (xne_j hj9999z46 hj9999m (by first | decide | omega)) (xn1 (xne_j hj9999z46 hj9999o (by first | decide | omega)) (xn1 (xne_k hk9999z28 hk9999l (by decide)) (xn1 (xne_k hk9999z28 hk9999m (by decide)) xn0)))))))))))) ((hF27.2.1 _ (xn1 (xne_k hk9999z29 hk9999o (by decide)) xn0)).trans ((hF18.2.1 _ (xn1 (xne_k hk9999z29 hk9999n (by decide)) xn0)).trans (hF14.2.1 _ (xn1 (xne_k hk9999z29 hk9999e (by decide)) (xn1 (xne_k hk9999z29 hk9999f (by decide)) (xn1 (xne_k hk9999z29 hk9999g (by decide)) (xn1 (xne_k hk9999z29 hk9999h (by decide)) (xn1 (xne_k hk9999z29 hk9999i (by decide)) (xn1 (xne_k hk9999z29 hk9999j (by decide)) (xn1 (xne_k hk9999z29 hk9999k (by decide)) (xn1 (xne_j hj9999z48 hj9999q (by first | decide | omega)) (xn1 (xne_j hj9999z48 hj9999s (by first | decide | omega)) xn0)))))))))))) ((hF27.2.1 _ (xn1 (xne_k hk9999z30 hk9999o (by decide)) xn0)).trans ((hF18.2.1 _ (xn1 (xne_k hk9999z30 hk9999n (by decide)) xn0)).trans (hF14.2.1 _ (xn1 (xne_k hk9999z30 hk9999e (by decide)) (xn1 (xne_k hk9999z30 hk9999f (by decide)) (xn1 (xne_k hk9999z30 hk9999g (by decide)) (xn1 (xne_k hk9999z30 hk9999h (by decide)) (xn1 (xne_k hk9999z30 hk9999i (by decide)) (xn1 (xne_k hk9999z30 hk9999j (by decide)) (xn1 (xne_k hk9999z30 hk9999k (by decide)) (xn1 (xne_j hj9999z50 hj9999q (by first | decide | omega)) (xn1 (xne_j hj9999z50 hj9999s (by first | decide | omega)) xn0)))))))))))) ((hF27.1 _ _ xn0).trans ((hF18.1 _ _ (xnj (by decide) (xnj (by decide) (xnj (by decide) xn0)))).trans (hF14.1 _ _ (xnj (by decide) (xna (xne_j hj9999d hj9999a (by first | decide | omega)) xn0))))))), (v_X10_actAsOnPaper_30_23 (F := F) a G G27 ron ((hF27.2.1 _ (xn1 (xne_k hk9999w hk9999o (by decide)) xn0)).trans ((hF18.2.1 _ (xn1 (xne_k hk9999w hk9999n (by decide)) xn0)).trans (hF14.2.1 _ (xn1 (xne_k hk9999w hk9999e (by decide)) (xn1 (xne_k hk9999w hk9999f (by decide)) (xn1 (xne_k hk9999w hk9999g (by decide)) (xn1 (xne_k hk9999w hk9999h (by decide)) (xn1 (xne_k hk9999w hk9999i (by decide)) (xn1 (xne_k hk9999w hk9999j (by decide)) (xn1 (xne_k hk9999w hk9999k (by decide)) (xn1 (xne_k hk9999w hk9999l (by decide)) (xn1 (xne_k hk9999w hk9999m (by decide)) xn0)))))))))))) ((hF27.2.1 _ (xn1 (xne_k hk9999y hk9999o (by decide)) xn0)).trans ((hF18.2.1 _ (xn1 (xne_k hk9999y hk9999n (by decide)) xn0)).trans (hF14.2.1 _ (xn1 (xne_j hj9999z38 hj9999e (by first | decide | omega)) (xn1 (xne_j hj9999z38 hj9999f (by first | decide | omega)) (xn1 (xne_k hk9999y hk9999g (by decide)) (xn1 (xne_k hk9999y hk9999h (by decide)) (xn1 (xne_k hk9999y hk9999i (by decide)) (xn1 (xne_k hk9999y hk9999j (by decide)) (xn1 (xne_k hk9999y hk9999k (by decide)) (xn1 (xne_k hk9999y hk9999l (by decide)) (xn1 (xne_k hk9999y hk9999m (by decide)) xn0)))))))))))))⟩ hT
theorem v_X10_set_13_1 {F : Nat → Nat → Nat} (a : Nat) (G : XG) (G4 : XG)
    (ron : RO (vw (G.2.1 (F (F a 3) 0))) (aI (G.2.1 (F (F a 3) 1))))
    (rob : RO (vw (G.2.1 (F (F a 4) 0))) (aI (G.2.1 (F (F a 4) 1))))
    (c_G4_F_F_a_3_0 : G4.2.1 (F (F a 3) 0) = G.2.1 (F (F a 3) 0))
    (c_G4_F_F_a_3_1 : G4.2.1 (F (F a 3) 1) = G.2.1 (F (F a 3) 1)) :
    RO (vw (G4.2.1 (F (F a 3) 0))) (aI (G4.2.1 (F (F a 3) 1))) := by simp only [c_G4_F_F_a_3_0, c_G4_F_F_a_3_1]; assumption
theorem v_X10_set_33_2 {F : Nat → Nat → Nat} (a : Nat) (G : XG) (G13 : XG)
    (ron : RO (vw (G.2.1 (F (F a 3) 0))) (aI (G.2.1 (F (F a 3) 1))))
    (rob : RO (vw (G.2.1 (F (F a 4) 0))) (aI (G.2.1 (F (F a 4) 1))))
    (c_G13_F_F_a_3_0 : G13.2.1 (F (F a 3) 0) = G.2.1 (F (F a 3) 0))
    (c_G13_F_F_a_3_1 : G13.2.1 (F (F a 3) 1) = G.2.1 (F (F a 3) 1)) :
    RO (vw (G13.2.1 (F (F a 3) 0))) (aI (G13.2.1 (F (F a 3) 1))) := by simp only [c_G13_F_F_a_3_0, c_G13_F_F_a_3_1]; assumption
theorem v_X10_set_33_3 {K : Nat → Nat} {F : Nat → Nat → Nat} (a : Nat) (G : XG) (G4 : XG) (G13 : XG) (x13 : Int32) (p0 : Int32) (p1 : Int32) (p2 : Int32) (p3 : Int32)
    (ha : K a = 12)
    (oq13 : (x13.toInt = -1 ∧ ¬ ((0 ≤ p0.toInt ∧ p0.toInt < 3) ∧ (0 ≤ p1.toInt ∧ p1.toInt < 30) ∧ (0 ≤ p2.toInt ∧ p2.toInt < 3) ∧ (p3.toInt = -1000 ∨ (-99 ≤ p3.toInt ∧ p3.toInt ≤ 99)))) ∨ ((0 ≤ p0.toInt ∧ p0.toInt < 3) ∧ (0 ≤ p1.toInt ∧ p1.toInt < 30) ∧ (0 ≤ p2.toInt ∧ p2.toInt < 3) ∧ (p3.toInt = -1000 ∨ (-99 ≤ p3.toInt ∧ p3.toInt ≤ 99)) ∧ ((x13.toInt = -2 ∧ cel (vw (G.2.1 (F (F a 3) 0))) p0.toInt p1.toInt 0 = -2000) ∨ (cel (vw (G.2.1 (F (F a 3) 0))) p0.toInt p1.toInt 0 ≠ -2000 ∧ ((x13.toInt = -4 ∧ cel (vw (G.2.1 (F (F a 3) 0))) p0.toInt p1.toInt p2.toInt = p3.toInt) ∨ (x13.toInt = 0 ∧ cel (vw (G.2.1 (F (F a 3) 0))) p0.toInt p1.toInt p2.toInt ≠ p3.toInt ∧ (vw (G13.2.1 (F (F a 5) 0))) = rset (vw (G.2.1 (F (F a 3) 0))) (90 * p0.toInt + 30 * p2.toInt + p1.toInt) p3.toInt ∧ RO (vw (G13.2.1 (F (F a 5) 0))) (aI (G13.2.1 (F (F a 5) 1)))))))))
    (sb : 0 ≤ ((G.1 (F a 2) 2).toInt) ∧ ((G.1 (F a 2) 2).toInt) ≤ 12)
    (sw : 0 ≤ ((G.1 (F a 8) 6).toInt) ∧ ((G.1 (F a 8) 6).toInt) ≤ 1080)
    (t4 : ((G4.1 (F a 14) 1).toInt) = 0)
    (t13 : -4 ≤ x13.toInt ∧ x13.toInt ≤ 0)
    (c20 : 0 ≤ x13.toInt) :
    RO (vw (G13.2.1 (F (F a 5) 0))) (aI (G13.2.1 (F (F a 5) 1))) := by
  rcases oq13 with ⟨h1, h2⟩ | ⟨v1, v2, v3, v4, ⟨h1, h2⟩ | ⟨h0, ⟨h1, h2⟩ | ⟨h1, h2, h3, h4⟩⟩⟩
  · exfalso; omega
  · exfalso; omega
  · exfalso; omega
  · exact h4
theorem v_X10_set_33_4 {F : Nat → Nat → Nat} (a : Nat) (G : XG) (G13 : XG)
    (ron : RO (vw (G.2.1 (F (F a 3) 0))) (aI (G.2.1 (F (F a 3) 1))))
    (rob : RO (vw (G.2.1 (F (F a 4) 0))) (aI (G.2.1 (F (F a 4) 1))))
    (c_G13_F_F_a_4_0 : G13.2.1 (F (F a 4) 0) = G.2.1 (F (F a 4) 0))
    (c_G13_F_F_a_4_1 : G13.2.1 (F (F a 4) 1) = G.2.1 (F (F a 4) 1)) :
    RO (vw (G13.2.1 (F (F a 4) 0))) (aI (G13.2.1 (F (F a 4) 1))) := by simp only [c_G13_F_F_a_4_0, c_G13_F_F_a_4_1]; assumption
theorem v_X10_set_33_5 {K : Nat → Nat} {F : Nat → Nat → Nat} (a : Nat) (G : XG) (G4 : XG) (G13 : XG) (x13 : Int32) (p0 : Int32) (p1 : Int32) (p2 : Int32) (p3 : Int32)
    (ha : K a = 12)
    (hk9999 : K (F a 11) = 3)
    (hj9999 : F (F a 11) 99 = 0)
    (hk9999a : K (F a 9) = 6)
    (hj9999a : F (F a 9) 99 = 1)
    (hk9999b : K (F a 14) = 11)
    (hj9999b : F (F a 14) 99 = 0)
    (hk9999c : K (F a 10) = 6)
    (hj9999c : F (F a 10) 99 = 2)
    (hk9999d : K (F a 8) = 6)
    (hj9999d : F (F a 8) 99 = 0)
    (hk9999e : K (F (F a 11) 0) = 21)
    (hj9999e : F (F (F a 11) 0) 99 = 100)
    (hk9999f : K (F (F a 11) 1) = 21)
    (hj9999f : F (F (F a 11) 1) 99 = 101)
    (hk9999g : K (F (F a 11) 2) = 24)
    (hj9999g : F (F (F a 11) 2) 99 = 4)
    (hk9999h : K (F (F a 9) 0) = 22)
    (hj9999i : F (F (F a 9) 0) 99 = 10 * 1 + 0)
    (hk9999i : K (F (F a 9) 1) = 22)
    (hj9999k : F (F (F a 9) 1) 99 = 10 * 1 + 1)
    (hk9999j : K (F (F a 9) 2) = 22)
    (hj9999m : F (F (F a 9) 2) 99 = 10 * 1 + 2)
    (hk9999k : K (F (F a 9) 3) = 22)
    (hj9999o : F (F (F a 9) 3) 99 = 10 * 1 + 3)
    (hk9999l : K (F (F a 9) 4) = 23)
    (hj9999q : F (F (F a 9) 4) 99 = 10 * 1 + 4)
    (hk9999m : K (F (F a 9) 5) = 23)
    (hj9999s : F (F (F a 9) 5) 99 = 10 * 1 + 5)
    (hk9999n : K (F a 16) = 27)
    (hj9999t : F (F a 16) 99 = 0)
    (hk9999o : K (F a 15) = 26)
    (hj9999u : F (F a 15) 99 = 0)
    (hk9999p : K (F (F a 10) 0) = 22)
    (hj9999w : F (F (F a 10) 0) 99 = 10 * 2 + 0)
    (hk9999q : K (F (F a 10) 1) = 22)
    (hj9999z25 : F (F (F a 10) 1) 99 = 10 * 2 + 1)
    (hk9999r : K (F (F a 10) 2) = 22)
    (hj9999z27 : F (F (F a 10) 2) 99 = 10 * 2 + 2)
    (hk9999s : K (F (F a 10) 3) = 22)
    (hj9999z29 : F (F (F a 10) 3) 99 = 10 * 2 + 3)
    (hk9999t : K (F (F a 10) 4) = 23)
    (hj9999z31 : F (F (F a 10) 4) 99 = 10 * 2 + 4)
    (hk9999u : K (F (F a 10) 5) = 23)
    (hj9999z33 : F (F (F a 10) 5) 99 = 10 * 2 + 5)
    (hk9999v : K (F a 3) = 8)
    (hj9999z34 : F (F a 3) 99 = 0)
    (hk9999w : K (F (F a 3) 0) = 20)
    (hj9999z36 : F (F (F a 3) 0) 99 = 0)
    (hk9999y : K (F (F a 3) 1) = 21)
    (hj9999z38 : F (F (F a 3) 1) 99 = 0)
    (hk9999z25 : K (F (F a 8) 0) = 22)
    (hj9999z40 : F (F (F a 8) 0) 99 = 10 * 0 + 0)
    (hk9999z26 : K (F (F a 8) 1) = 22)
    (hj9999z42 : F (F (F a 8) 1) 99 = 10 * 0 + 1)
    (hk9999z27 : K (F (F a 8) 2) = 22)
    (hj9999z44 : F (F (F a 8) 2) 99 = 10 * 0 + 2)
    (hk9999z28 : K (F (F a 8) 3) = 22)
    (hj9999z46 : F (F (F a 8) 3) 99 = 10 * 0 + 3)
    (hk9999z29 : K (F (F a 8) 4) = 23)
    (hj9999z48 : F (F (F a 8) 4) 99 = 10 * 0 + 4)
    (hk9999z30 : K (F (F a 8) 5) = 23)
    (hj9999z50 : F (F (F a 8) 5) 99 = 10 * 0 + 5)
    (hk9999z31 : K (F a 5) = 8)
    (hj9999z51 : F (F a 5) 99 = 2)
    (hk9999z32 : K (F (F a 5) 0) = 20)
    (hj9999z53 : F (F (F a 5) 0) 99 = 2)
    (hk9999z33 : K (F (F a 5) 1) = 21)
    (hj9999z55 : F (F (F a 5) 1) 99 = 2)
    (hk9999z34 : K (F a 2) = 2)
    (hj9999z56 : F (F a 2) 99 = 0)
    (hk9999z35 : K (F (F a 2) 1) = 15)
    (hj9999z57 : F (F (F a 2) 1) 99 = 1)
    (hk9999z36 : K (F (F a 2) 0) = 15)
    (hj9999z58 : F (F (F a 2) 0) 99 = 0)
    (hk9999z37 : K (F a 4) = 8)
    (hj9999z59 : F (F a 4) 99 = 1)
    (hk9999z38 : K (F (F a 4) 0) = 20)
    (hj9999z61 : F (F (F a 4) 0) 99 = 1)
    (hk9999z39 : K (F (F a 4) 1) = 21)
    (hj9999z63 : F (F (F a 4) 1) 99 = 1)
    (hF4 : XFr [(F a 14, 1)] [] [] G G4)
    (hF13 : XFr [] [F (F a 5) 0, F (F a 5) 1] [] G4 G13)
    (ron : RO (vw (G.2.1 (F (F a 3) 0))) (aI (G.2.1 (F (F a 3) 1))))
    (rob : RO (vw (G.2.1 (F (F a 4) 0))) (aI (G.2.1 (F (F a 4) 1))))
    (bko : BKr K G (G.2.2.1 (F (F a 2) 1)))
    (bkn : BKr K G (G.2.2.1 (F (F a 2) 0)))
    (oq13 : (x13.toInt = -1 ∧ ¬ ((0 ≤ p0.toInt ∧ p0.toInt < 3) ∧ (0 ≤ p1.toInt ∧ p1.toInt < 30) ∧ (0 ≤ p2.toInt ∧ p2.toInt < 3) ∧ (p3.toInt = -1000 ∨ (-99 ≤ p3.toInt ∧ p3.toInt ≤ 99)))) ∨ ((0 ≤ p0.toInt ∧ p0.toInt < 3) ∧ (0 ≤ p1.toInt ∧ p1.toInt < 30) ∧ (0 ≤ p2.toInt ∧ p2.toInt < 3) ∧ (p3.toInt = -1000 ∨ (-99 ≤ p3.toInt ∧ p3.toInt ≤ 99)) ∧ ((x13.toInt = -2 ∧ cel (vw (G.2.1 (F (F a 3) 0))) p0.toInt p1.toInt 0 = -2000) ∨ (cel (vw (G.2.1 (F (F a 3) 0))) p0.toInt p1.toInt 0 ≠ -2000 ∧ ((x13.toInt = -4 ∧ cel (vw (G.2.1 (F (F a 3) 0))) p0.toInt p1.toInt p2.toInt = p3.toInt) ∨ (x13.toInt = 0 ∧ cel (vw (G.2.1 (F (F a 3) 0))) p0.toInt p1.toInt p2.toInt ≠ p3.toInt ∧ (vw (G13.2.1 (F (F a 5) 0))) = rset (vw (G.2.1 (F (F a 3) 0))) (90 * p0.toInt + 30 * p2.toInt + p1.toInt) p3.toInt ∧ RO (vw (G13.2.1 (F (F a 5) 0))) (aI (G13.2.1 (F (F a 5) 1)))))))))
    (sb : 0 ≤ ((G.1 (F a 2) 2).toInt) ∧ ((G.1 (F a 2) 2).toInt) ≤ 12)
    (sw : 0 ≤ ((G.1 (F a 8) 6).toInt) ∧ ((G.1 (F a 8) 6).toInt) ≤ 1080)
    (t4 : ((G4.1 (F a 14) 1).toInt) = 0)
    (t13 : -4 ≤ x13.toInt ∧ x13.toInt ≤ 0)
    (c20 : 0 ≤ x13.toInt)
    (c_G13_F_F_a_10_0 : G13.2.1 (F (F a 10) 0) = G.2.1 (F (F a 10) 0))
    (c_G13_F_F_a_10_1 : G13.2.1 (F (F a 10) 1) = G.2.1 (F (F a 10) 1))
    (c_G13_F_F_a_10_2 : G13.2.1 (F (F a 10) 2) = G.2.1 (F (F a 10) 2))
    (c_G13_F_F_a_10_3 : G13.2.1 (F (F a 10) 3) = G.2.1 (F (F a 10) 3))
    (c_G13_F_F_a_10_4 : G13.2.1 (F (F a 10) 4) = G.2.1 (F (F a 10) 4))
    (c_G13_F_F_a_10_5 : G13.2.1 (F (F a 10) 5) = G.2.1 (F (F a 10) 5))
    (c_G13_F_F_a_11_0 : G13.2.1 (F (F a 11) 0) = G.2.1 (F (F a 11) 0))
    (c_G13_F_F_a_11_1 : G13.2.1 (F (F a 11) 1) = G.2.1 (F (F a 11) 1))
    (c_G13_F_F_a_11_2 : G13.2.1 (F (F a 11) 2) = G.2.1 (F (F a 11) 2))
    (c_G13_F_F_a_3_0 : G13.2.1 (F (F a 3) 0) = G.2.1 (F (F a 3) 0))
    (c_G13_F_F_a_3_1 : G13.2.1 (F (F a 3) 1) = G.2.1 (F (F a 3) 1))
    (c_G13_F_F_a_8_0 : G13.2.1 (F (F a 8) 0) = G.2.1 (F (F a 8) 0))
    (c_G13_F_F_a_8_1 : G13.2.1 (F (F a 8) 1) = G.2.1 (F (F a 8) 1))
    (c_G13_F_F_a_8_2 : G13.2.1 (F (F a 8) 2) = G.2.1 (F (F a 8) 2))
    (c_G13_F_F_a_8_3 : G13.2.1 (F (F a 8) 3) = G.2.1 (F (F a 8) 3))
    (c_G13_F_F_a_8_4 : G13.2.1 (F (F a 8) 4) = G.2.1 (F (F a 8) 4))
    (c_G13_F_F_a_8_5 : G13.2.1 (F (F a 8) 5) = G.2.1 (F (F a 8) 5))
    (c_G13_F_F_a_9_0 : G13.2.1 (F (F a 9) 0) = G.2.1 (F (F a 9) 0))
    (c_G13_F_F_a_9_1 : G13.2.1 (F (F a 9) 1) = G.2.1 (F (F a 9) 1))
    (c_G13_F_F_a_9_2 : G13.2.1 (F (F a 9) 2) = G.2.1 (F (F a 9) 2))
    (c_G13_F_F_a_9_3 : G13.2.1 (F (F a 9) 3) = G.2.1 (F (F a 9) 3))
    (c_G13_F_F_a_9_4 : G13.2.1 (F (F a 9) 4) = G.2.1 (F (F a 9) 4))
    (c_G13_F_F_a_9_5 : G13.2.1 (F (F a 9) 5) = G.2.1 (F (F a 9) 5))
    (c_G13_F_a_15 : G13.2.1 (F a 15) = G.2.1 (F a 15))
    (c_G13_F_a_16 : G13.2.1 (F a 16) = G.2.1 (F a 16))
    (r_G13_F_F_a_2_1 : G13.2.2.1 (F (F a 2) 1) = G.2.2.1 (F (F a 2) 1))
    (d_G13_F_a_10_6 : G13.1 (F a 10) 6 = G.1 (F a 10) 6)
    (d_G13_F_a_11_3 : G13.1 (F a 11) 3 = G.1 (F a 11) 3)
    (d_G13_F_a_14_1 : G13.1 (F a 14) 1 = G4.1 (F a 14) 1)
    (d_G13_F_a_14_2 : G13.1 (F a 14) 2 = G.1 (F a 14) 2)
    (d_G13_F_a_14_3 : G13.1 (F a 14) 3 = G.1 (F a 14) 3)
    (d_G13_F_a_8_6 : G13.1 (F a 8) 6 = G.1 (F a 8) 6)
    (d_G13_F_a_9_6 : G13.1 (F a 9) 6 = G.1 (F a 9) 6) :
    BKr K G13 (G13.2.2.1 (F (F a 2) 1)) := by
  have hd1 : ∀ p, p ∈ [(F a 14, 1)] → K p.1 ≠ 9 := (List.forall_mem_cons.mpr ⟨(show K (F a 14) ≠ 9 by omega), fun _ h => by cases h⟩)
  have hd0 : ∀ p, p ∈ ([] : List (Nat × Nat)) → K p.1 ≠ 9 := fun _ h => by cases h
  rw [show G13.2.2.1 (F (F a 2) 1) = G.2.2.1 (F (F a 2) 1) by assumption]
  exact (bko.fr hF4 hd1).fr hF13 hd0
theorem v_X10_set_33_6 {K : Nat → Nat} {F : Nat → Nat → Nat} (a : Nat) (G : XG) (G4 : XG) (G13 : XG) (x13 : Int32) (p0 : Int32) (p1 : Int32) (p2 : Int32) (p3 : Int32)
    (ha : K a = 12)
    (hk9999 : K (F a 11) = 3)
    (hj9999 : F (F a 11) 99 = 0)
    (hk9999a : K (F a 9) = 6)
    (hj9999a : F (F a 9) 99 = 1)
    (hk9999b : K (F a 14) = 11)
    (hj9999b : F (F a 14) 99 = 0)
    (hk9999c : K (F a 10) = 6)
    (hj9999c : F (F a 10) 99 = 2)
    (hk9999d : K (F a 8) = 6)
    (hj9999d : F (F a 8) 99 = 0)
    (hk9999e : K (F (F a 11) 0) = 21)
    (hj9999e : F (F (F a 11) 0) 99 = 100)
    (hk9999f : K (F (F a 11) 1) = 21)
    (hj9999f : F (F (F a 11) 1) 99 = 101)
    (hk9999g : K (F (F a 11) 2) = 24)
    (hj9999g : F (F (F a 11) 2) 99 = 4)
    (hk9999h : K (F (F a 9) 0) = 22)
    (hj9999i : F (F (F a 9) 0) 99 = 10 * 1 + 0)
    (hk9999i : K (F (F a 9) 1) = 22)
    (hj9999k : F (F (F a 9) 1) 99 = 10 * 1 + 1)
    (hk9999j : K (F (F a 9) 2) = 22)
    (hj9999m : F (F (F a 9) 2) 99 = 10 * 1 + 2)
    (hk9999k : K (F (F a 9) 3) = 22)
    (hj9999o : F (F (F a 9) 3) 99 = 10 * 1 + 3)
    (hk9999l : K (F (F a 9) 4) = 23)
    (hj9999q : F (F (F a 9) 4) 99 = 10 * 1 + 4)
    (hk9999m : K (F (F a 9) 5) = 23)
    (hj9999s : F (F (F a 9) 5) 99 = 10 * 1 + 5)
    (hk9999n : K (F a 16) = 27)
    (hj9999t : F (F a 16) 99 = 0)
    (hk9999o : K (F a 15) = 26)
    (hj9999u : F (F a 15) 99 = 0)
    (hk9999p : K (F (F a 10) 0) = 22)
    (hj9999w : F (F (F a 10) 0) 99 = 10 * 2 + 0)
    (hk9999q : K (F (F a 10) 1) = 22)
    (hj9999z25 : F (F (F a 10) 1) 99 = 10 * 2 + 1)
    (hk9999r : K (F (F a 10) 2) = 22)
    (hj9999z27 : F (F (F a 10) 2) 99 = 10 * 2 + 2)
    (hk9999s : K (F (F a 10) 3) = 22)
    (hj9999z29 : F (F (F a 10) 3) 99 = 10 * 2 + 3)
    (hk9999t : K (F (F a 10) 4) = 23)
    (hj9999z31 : F (F (F a 10) 4) 99 = 10 * 2 + 4)
    (hk9999u : K (F (F a 10) 5) = 23)
    (hj9999z33 : F (F (F a 10) 5) 99 = 10 * 2 + 5)
    (hk9999v : K (F a 3) = 8)
    (hj9999z34 : F (F a 3) 99 = 0)
    (hk9999w : K (F (F a 3) 0) = 20)
    (hj9999z36 : F (F (F a 3) 0) 99 = 0)
    (hk9999y : K (F (F a 3) 1) = 21)
    (hj9999z38 : F (F (F a 3) 1) 99 = 0)
    (hk9999z25 : K (F (F a 8) 0) = 22)
    (hj9999z40 : F (F (F a 8) 0) 99 = 10 * 0 + 0)
    (hk9999z26 : K (F (F a 8) 1) = 22)
    (hj9999z42 : F (F (F a 8) 1) 99 = 10 * 0 + 1)
    (hk9999z27 : K (F (F a 8) 2) = 22)
    (hj9999z44 : F (F (F a 8) 2) 99 = 10 * 0 + 2)
    (hk9999z28 : K (F (F a 8) 3) = 22)
    (hj9999z46 : F (F (F a 8) 3) 99 = 10 * 0 + 3)
    (hk9999z29 : K (F (F a 8) 4) = 23)
    (hj9999z48 : F (F (F a 8) 4) 99 = 10 * 0 + 4)
    (hk9999z30 : K (F (F a 8) 5) = 23)
    (hj9999z50 : F (F (F a 8) 5) 99 = 10 * 0 + 5)
    (hk9999z31 : K (F a 5) = 8)
    (hj9999z51 : F (F a 5) 99 = 2)
    (hk9999z32 : K (F (F a 5) 0) = 20)
    (hj9999z53 : F (F (F a 5) 0) 99 = 2)
    (hk9999z33 : K (F (F a 5) 1) = 21)
    (hj9999z55 : F (F (F a 5) 1) 99 = 2)
    (hk9999z34 : K (F a 2) = 2)
    (hj9999z56 : F (F a 2) 99 = 0)
    (hk9999z35 : K (F (F a 2) 1) = 15)
    (hj9999z57 : F (F (F a 2) 1) 99 = 1)
    (hk9999z36 : K (F (F a 2) 0) = 15)
    (hj9999z58 : F (F (F a 2) 0) 99 = 0)
    (hk9999z37 : K (F a 4) = 8)
    (hj9999z59 : F (F a 4) 99 = 1)
    (hk9999z38 : K (F (F a 4) 0) = 20)
    (hj9999z61 : F (F (F a 4) 0) 99 = 1)
    (hk9999z39 : K (F (F a 4) 1) = 21)
    (hj9999z63 : F (F (F a 4) 1) 99 = 1)
    (hF4 : XFr [(F a 14, 1)] [] [] G G4)
    (hF13 : XFr [] [F (F a 5) 0, F (F a 5) 1] [] G4 G13)
    (ron : RO (vw (G.2.1 (F (F a 3) 0))) (aI (G.2.1 (F (F a 3) 1))))
    (rob : RO (vw (G.2.1 (F (F a 4) 0))) (aI (G.2.1 (F (F a 4) 1))))
    (bko : BKr K G (G.2.2.1 (F (F a 2) 1)))
    (bkn : BKr K G (G.2.2.1 (F (F a 2) 0)))
    (oq13 : (x13.toInt = -1 ∧ ¬ ((0 ≤ p0.toInt ∧ p0.toInt < 3) ∧ (0 ≤ p1.toInt ∧ p1.toInt < 30) ∧ (0 ≤ p2.toInt ∧ p2.toInt < 3) ∧ (p3.toInt = -1000 ∨ (-99 ≤ p3.toInt ∧ p3.toInt ≤ 99)))) ∨ ((0 ≤ p0.toInt ∧ p0.toInt < 3) ∧ (0 ≤ p1.toInt ∧ p1.toInt < 30) ∧ (0 ≤ p2.toInt ∧ p2.toInt < 3) ∧ (p3.toInt = -1000 ∨ (-99 ≤ p3.toInt ∧ p3.toInt ≤ 99)) ∧ ((x13.toInt = -2 ∧ cel (vw (G.2.1 (F (F a 3) 0))) p0.toInt p1.toInt 0 = -2000) ∨ (cel (vw (G.2.1 (F (F a 3) 0))) p0.toInt p1.toInt 0 ≠ -2000 ∧ ((x13.toInt = -4 ∧ cel (vw (G.2.1 (F (F a 3) 0))) p0.toInt p1.toInt p2.toInt = p3.toInt) ∨ (x13.toInt = 0 ∧ cel (vw (G.2.1 (F (F a 3) 0))) p0.toInt p1.toInt p2.toInt ≠ p3.toInt ∧ (vw (G13.2.1 (F (F a 5) 0))) = rset (vw (G.2.1 (F (F a 3) 0))) (90 * p0.toInt + 30 * p2.toInt + p1.toInt) p3.toInt ∧ RO (vw (G13.2.1 (F (F a 5) 0))) (aI (G13.2.1 (F (F a 5) 1)))))))))
    (sb : 0 ≤ ((G.1 (F a 2) 2).toInt) ∧ ((G.1 (F a 2) 2).toInt) ≤ 12)
    (sw : 0 ≤ ((G.1 (F a 8) 6).toInt) ∧ ((G.1 (F a 8) 6).toInt) ≤ 1080)
    (t4 : ((G4.1 (F a 14) 1).toInt) = 0)
    (t13 : -4 ≤ x13.toInt ∧ x13.toInt ≤ 0)
    (c20 : 0 ≤ x13.toInt)
    (c_G13_F_F_a_10_0 : G13.2.1 (F (F a 10) 0) = G.2.1 (F (F a 10) 0))
    (c_G13_F_F_a_10_1 : G13.2.1 (F (F a 10) 1) = G.2.1 (F (F a 10) 1))
    (c_G13_F_F_a_10_2 : G13.2.1 (F (F a 10) 2) = G.2.1 (F (F a 10) 2))
    (c_G13_F_F_a_10_3 : G13.2.1 (F (F a 10) 3) = G.2.1 (F (F a 10) 3))
    (c_G13_F_F_a_10_4 : G13.2.1 (F (F a 10) 4) = G.2.1 (F (F a 10) 4))
    (c_G13_F_F_a_10_5 : G13.2.1 (F (F a 10) 5) = G.2.1 (F (F a 10) 5))
    (c_G13_F_F_a_11_0 : G13.2.1 (F (F a 11) 0) = G.2.1 (F (F a 11) 0))
    (c_G13_F_F_a_11_1 : G13.2.1 (F (F a 11) 1) = G.2.1 (F (F a 11) 1))
    (c_G13_F_F_a_11_2 : G13.2.1 (F (F a 11) 2) = G.2.1 (F (F a 11) 2))
    (c_G13_F_F_a_3_0 : G13.2.1 (F (F a 3) 0) = G.2.1 (F (F a 3) 0))
    (c_G13_F_F_a_3_1 : G13.2.1 (F (F a 3) 1) = G.2.1 (F (F a 3) 1))
    (c_G13_F_F_a_8_0 : G13.2.1 (F (F a 8) 0) = G.2.1 (F (F a 8) 0))
    (c_G13_F_F_a_8_1 : G13.2.1 (F (F a 8) 1) = G.2.1 (F (F a 8) 1))
    (c_G13_F_F_a_8_2 : G13.2.1 (F (F a 8) 2) = G.2.1 (F (F a 8) 2))
    (c_G13_F_F_a_8_3 : G13.2.1 (F (F a 8) 3) = G.2.1 (F (F a 8) 3))
    (c_G13_F_F_a_8_4 : G13.2.1 (F (F a 8) 4) = G.2.1 (F (F a 8) 4))
    (c_G13_F_F_a_8_5 : G13.2.1 (F (F a 8) 5) = G.2.1 (F (F a 8) 5))
    (c_G13_F_F_a_9_0 : G13.2.1 (F (F a 9) 0) = G.2.1 (F (F a 9) 0))
    (c_G13_F_F_a_9_1 : G13.2.1 (F (F a 9) 1) = G.2.1 (F (F a 9) 1))
    (c_G13_F_F_a_9_2 : G13.2.1 (F (F a 9) 2) = G.2.1 (F (F a 9) 2))
    (c_G13_F_F_a_9_3 : G13.2.1 (F (F a 9) 3) = G.2.1 (F (F a 9) 3))
    (c_G13_F_F_a_9_4 : G13.2.1 (F (F a 9) 4) = G.2.1 (F (F a 9) 4))
    (c_G13_F_F_a_9_5 : G13.2.1 (F (F a 9) 5) = G.2.1 (F (F a 9) 5))
    (c_G13_F_a_15 : G13.2.1 (F a 15) = G.2.1 (F a 15))
    (c_G13_F_a_16 : G13.2.1 (F a 16) = G.2.1 (F a 16))
    (r_G13_F_F_a_2_0 : G13.2.2.1 (F (F a 2) 0) = G.2.2.1 (F (F a 2) 0))
    (r_G13_F_F_a_2_1 : G13.2.2.1 (F (F a 2) 1) = G.2.2.1 (F (F a 2) 1))
    (d_G13_F_a_10_6 : G13.1 (F a 10) 6 = G.1 (F a 10) 6)
    (d_G13_F_a_11_3 : G13.1 (F a 11) 3 = G.1 (F a 11) 3)
    (d_G13_F_a_14_1 : G13.1 (F a 14) 1 = G4.1 (F a 14) 1)
    (d_G13_F_a_14_2 : G13.1 (F a 14) 2 = G.1 (F a 14) 2)
    (d_G13_F_a_14_3 : G13.1 (F a 14) 3 = G.1 (F a 14) 3)
    (d_G13_F_a_8_6 : G13.1 (F a 8) 6 = G.1 (F a 8) 6)
    (d_G13_F_a_9_6 : G13.1 (F a 9) 6 = G.1 (F a 9) 6) :
    BKr K G13 (G13.2.2.1 (F (F a 2) 0)) := by
  have hd1 : ∀ p, p ∈ [(F a 14, 1)] → K p.1 ≠ 9 := (List.forall_mem_cons.mpr ⟨(show K (F a 14) ≠ 9 by omega), fun _ h => by cases h⟩)
  have hd0 : ∀ p, p ∈ ([] : List (Nat × Nat)) → K p.1 ≠ 9 := fun _ h => by cases h
  rw [show G13.2.2.1 (F (F a 2) 0) = G.2.2.1 (F (F a 2) 0) by assumption]
  exact (bkn.fr hF4 hd1).fr hF13 hd0
theorem v_X10_set_36_7 {K : Nat → Nat} {F : Nat → Nat → Nat} (a : Nat) (G : XG) (G4 : XG) (G13 : XG) (G33 : XG) (x13 : Int32) (p0 : Int32) (p1 : Int32) (p2 : Int32) (p3 : Int32) (x33 : Int32)
    (ha : K a = 12)
    (hk9999 : K (F a 11) = 3)
    (hj9999 : F (F a 11) 99 = 0)
    (hk9999a : K (F a 9) = 6)
    (hj9999a : F (F a 9) 99 = 1)
    (hk9999b : K (F a 14) = 11)
    (hj9999b : F (F a 14) 99 = 0)
    (hk9999c : K (F a 10) = 6)
    (hj9999c : F (F a 10) 99 = 2)
    (hk9999d : K (F a 8) = 6)
    (hj9999d : F (F a 8) 99 = 0)
    (hk9999e : K (F (F a 11) 0) = 21)
    (hj9999e : F (F (F a 11) 0) 99 = 100)
    (hk9999f : K (F (F a 11) 1) = 21)
    (hj9999f : F (F (F a 11) 1) 99 = 101)
    (hk9999g : K (F (F a 11) 2) = 24)
    (hj9999g : F (F (F a 11) 2) 99 = 4)
    (hk9999h : K (F (F a 9) 0) = 22)
    (hj9999i : F (F (F a 9) 0) 99 = 10 * 1 + 0)
    (hk9999i : K (F (F a 9) 1) = 22)
    (hj9999k : F (F (F a 9) 1) 99 = 10 * 1 + 1)
    (hk9999j : K (F (F a 9) 2) = 22)
    (hj9999m : F (F (F a 9) 2) 99 = 10 * 1 + 2)
    (hk9999k : K (F (F a 9) 3) = 22)
    (hj9999o : F (F (F a 9) 3) 99 = 10 * 1 + 3)
    (hk9999l : K (F (F a 9) 4) = 23)
    (hj9999q : F (F (F a 9) 4) 99 = 10 * 1 + 4)
    (hk9999m : K (F (F a 9) 5) = 23)
    (hj9999s : F (F (F a 9) 5) 99 = 10 * 1 + 5)
    (hk9999n : K (F a 16) = 27)
    (hj9999t : F (F a 16) 99 = 0)
    (hk9999o : K (F a 15) = 26)
    (hj9999u : F (F a 15) 99 = 0)
    (hk9999p : K (F (F a 10) 0) = 22)
    (hj9999w : F (F (F a 10) 0) 99 = 10 * 2 + 0)
    (hk9999q : K (F (F a 10) 1) = 22)
    (hj9999z25 : F (F (F a 10) 1) 99 = 10 * 2 + 1)
    (hk9999r : K (F (F a 10) 2) = 22)
    (hj9999z27 : F (F (F a 10) 2) 99 = 10 * 2 + 2)
    (hk9999s : K (F (F a 10) 3) = 22)
    (hj9999z29 : F (F (F a 10) 3) 99 = 10 * 2 + 3)
    (hk9999t : K (F (F a 10) 4) = 23)
    (hj9999z31 : F (F (F a 10) 4) 99 = 10 * 2 + 4)
    (hk9999u : K (F (F a 10) 5) = 23)
    (hj9999z33 : F (F (F a 10) 5) 99 = 10 * 2 + 5)
    (hk9999v : K (F a 3) = 8)
    (hj9999z34 : F (F a 3) 99 = 0)
    (hk9999w : K (F (F a 3) 0) = 20)
    (hj9999z36 : F (F (F a 3) 0) 99 = 0)
    (hk9999y : K (F (F a 3) 1) = 21)
    (hj9999z38 : F (F (F a 3) 1) 99 = 0)
    (hk9999z25 : K (F (F a 8) 0) = 22)
    (hj9999z40 : F (F (F a 8) 0) 99 = 10 * 0 + 0)
    (hk9999z26 : K (F (F a 8) 1) = 22)
    (hj9999z42 : F (F (F a 8) 1) 99 = 10 * 0 + 1)
    (hk9999z27 : K (F (F a 8) 2) = 22)
    (hj9999z44 : F (F (F a 8) 2) 99 = 10 * 0 + 2)
    (hk9999z28 : K (F (F a 8) 3) = 22)
    (hj9999z46 : F (F (F a 8) 3) 99 = 10 * 0 + 3)
    (hk9999z29 : K (F (F a 8) 4) = 23)
    (hj9999z48 : F (F (F a 8) 4) 99 = 10 * 0 + 4)
    (hk9999z30 : K (F (F a 8) 5) = 23)
    (hj9999z50 : F (F (F a 8) 5) 99 = 10 * 0 + 5)
    (hk9999z31 : K (F a 5) = 8)
    (hj9999z51 : F (F a 5) 99 = 2)
    (hk9999z32 : K (F (F a 5) 0) = 20)
    (hj9999z53 : F (F (F a 5) 0) 99 = 2)
    (hk9999z33 : K (F (F a 5) 1) = 21)
    (hj9999z55 : F (F (F a 5) 1) 99 = 2)
    (hk9999z34 : K (F a 2) = 2)
    (hj9999z56 : F (F a 2) 99 = 0)
    (hk9999z35 : K (F (F a 2) 1) = 15)
    (hj9999z57 : F (F (F a 2) 1) 99 = 1)
    (hk9999z36 : K (F (F a 2) 0) = 15)
    (hj9999z58 : F (F (F a 2) 0) 99 = 0)
    (hk9999z37 : K (F a 4) = 8)
    (hj9999z59 : F (F a 4) 99 = 1)
    (hk9999z38 : K (F (F a 4) 0) = 20)
    (hj9999z61 : F (F (F a 4) 0) 99 = 1)
    (hk9999z39 : K (F (F a 4) 1) = 21)
    (hj9999z63 : F (F (F a 4) 1) 99 = 1)
    (hF4 : XFr [(F a 14, 1)] [] [] G G4)
    (hF13 : XFr [] [F (F a 5) 0, F (F a 5) 1] [] G4 G13)
    (bko : BKr K G (G.2.2.1 (F (F a 2) 1)))
    (oq13 : (x13.toInt = -1 ∧ ¬ ((0 ≤ p0.toInt ∧ p0.toInt < 3) ∧ (0 ≤ p1.toInt ∧ p1.toInt < 30) ∧ (0 ≤ p2.toInt ∧ p2.toInt < 3) ∧ (p3.toInt = -1000 ∨ (-99 ≤ p3.toInt ∧ p3.toInt ≤ 99)))) ∨ ((0 ≤ p0.toInt ∧ p0.toInt < 3) ∧ (0 ≤ p1.toInt ∧ p1.toInt < 30) ∧ (0 ≤ p2.toInt ∧ p2.toInt < 3) ∧ (p3.toInt = -1000 ∨ (-99 ≤ p3.toInt ∧ p3.toInt ≤ 99)) ∧ ((x13.toInt = -2 ∧ cel (vw (G.2.1 (F (F a 3) 0))) p0.toInt p1.toInt 0 = -2000) ∨ (cel (vw (G.2.1 (F (F a 3) 0))) p0.toInt p1.toInt 0 ≠ -2000 ∧ ((x13.toInt = -4 ∧ cel (vw (G.2.1 (F (F a 3) 0))) p0.toInt p1.toInt p2.toInt = p3.toInt) ∨ (x13.toInt = 0 ∧ cel (vw (G.2.1 (F (F a 3) 0))) p0.toInt p1.toInt p2.toInt ≠ p3.toInt ∧ (vw (G13.2.1 (F (F a 5) 0))) = rset (vw (G.2.1 (F (F a 3) 0))) (90 * p0.toInt + 30 * p2.toInt + p1.toInt) p3.toInt ∧ RO (vw (G13.2.1 (F (F a 5) 0))) (aI (G13.2.1 (F (F a 5) 1)))))))))
    (oq33 : ActR ((G.1 a 18).toInt) x33.toInt (gaL G13 (G13.2.2.1 (F (F a 2) 1)) (vw (G.2.1 (F (F a 3) 0))) (vw (G13.2.1 (F (F a 5) 0))) 0 (((G.1 (F a 2) 2).toInt)).toNat) (vw (G.2.1 (F (F a 3) 0))) (vw (G33.2.1 (F (F a 3) 0))) (vw (G13.2.1 (F (F a 5) 0))) (qL G13 F (F a 8)) (qL G33 F (F a 8)) (gaL G13 (G13.2.2.1 (F (F a 2) 1)) (vw (G.2.1 (F (F a 4) 0))) (vw (G13.2.1 (F (F a 5) 0))) 1 (((G.1 (F a 2) 2).toInt)).toNat))
    (sb : 0 ≤ ((G.1 (F a 2) 2).toInt) ∧ ((G.1 (F a 2) 2).toInt) ≤ 12)
    (sw : 0 ≤ ((G.1 (F a 8) 6).toInt) ∧ ((G.1 (F a 8) 6).toInt) ≤ 1080)
    (t4 : ((G4.1 (F a 14) 1).toInt) = 0)
    (t13 : -4 ≤ x13.toInt ∧ x13.toInt ≤ 0)
    (c20 : 0 ≤ x13.toInt)
    (t33 : 0 ≤ ((G33.1 (F a 8) 6).toInt) ∧ ((G33.1 (F a 8) 6).toInt) ≤ 1080)
    (c_G13_F_F_a_8_0 : G13.2.1 (F (F a 8) 0) = G.2.1 (F (F a 8) 0))
    (c_G13_F_F_a_8_1 : G13.2.1 (F (F a 8) 1) = G.2.1 (F (F a 8) 1))
    (c_G13_F_F_a_8_2 : G13.2.1 (F (F a 8) 2) = G.2.1 (F (F a 8) 2))
    (c_G13_F_F_a_8_3 : G13.2.1 (F (F a 8) 3) = G.2.1 (F (F a 8) 3))
    (c_G13_F_F_a_8_4 : G13.2.1 (F (F a 8) 4) = G.2.1 (F (F a 8) 4))
    (c_G13_F_F_a_8_5 : G13.2.1 (F (F a 8) 5) = G.2.1 (F (F a 8) 5))
    (r_G13_F_F_a_2_1 : G13.2.2.1 (F (F a 2) 1) = G.2.2.1 (F (F a 2) 1))
    (d_G13_F_a_8_6 : G13.1 (F a 8) 6 = G.1 (F a 8) 6) :
    (x33.toInt = -1 ∧ ¬ ((0 ≤ p0.toInt ∧ p0.toInt < 3) ∧ (0 ≤ p1.toInt ∧ p1.toInt < 30) ∧ (0 ≤ p2.toInt ∧ p2.toInt < 3) ∧ (p3.toInt = -1000 ∨ (-99 ≤ p3.toInt ∧ p3.toInt ≤ 99))) ∧ ((vw (G33.2.1 (F (F a 3) 0))) = (vw (G.2.1 (F (F a 3) 0))) ∧ qL G33 F (F a 8) = qL G F (F a 8))) ∨ (((0 ≤ p0.toInt ∧ p0.toInt < 3) ∧ (0 ≤ p1.toInt ∧ p1.toInt < 30) ∧ (0 ≤ p2.toInt ∧ p2.toInt < 3) ∧ (p3.toInt = -1000 ∨ (-99 ≤ p3.toInt ∧ p3.toInt ≤ 99))) ∧ x33.toInt = -2 ∧ cel (vw (G.2.1 (F (F a 3) 0))) p0.toInt p1.toInt 0 = -2000 ∧ ((vw (G33.2.1 (F (F a 3) 0))) = (vw (G.2.1 (F (F a 3) 0))) ∧ qL G33 F (F a 8) = qL G F (F a 8))) ∨ (((0 ≤ p0.toInt ∧ p0.toInt < 3) ∧ (0 ≤ p1.toInt ∧ p1.toInt < 30) ∧ (0 ≤ p2.toInt ∧ p2.toInt < 3) ∧ (p3.toInt = -1000 ∨ (-99 ≤ p3.toInt ∧ p3.toInt ≤ 99))) ∧ cel (vw (G.2.1 (F (F a 3) 0))) p0.toInt p1.toInt 0 ≠ -2000 ∧ x33.toInt = -4 ∧ cel (vw (G.2.1 (F (F a 3) 0))) p0.toInt p1.toInt p2.toInt = p3.toInt ∧ ((vw (G33.2.1 (F (F a 3) 0))) = (vw (G.2.1 (F (F a 3) 0))) ∧ qL G33 F (F a 8) = qL G F (F a 8))) ∨ (((0 ≤ p0.toInt ∧ p0.toInt < 3) ∧ (0 ≤ p1.toInt ∧ p1.toInt < 30) ∧ (0 ≤ p2.toInt ∧ p2.toInt < 3) ∧ (p3.toInt = -1000 ∨ (-99 ≤ p3.toInt ∧ p3.toInt ≤ 99))) ∧ cel (vw (G.2.1 (F (F a 3) 0))) p0.toInt p1.toInt 0 ≠ -2000 ∧ cel (vw (G.2.1 (F (F a 3) 0))) p0.toInt p1.toInt p2.toInt ≠ p3.toInt ∧ ActR ((G.1 a 18).toInt) x33.toInt (gaL G (G.2.2.1 (F (F a 2) 1)) (vw (G.2.1 (F (F a 3) 0))) (rset (vw (G.2.1 (F (F a 3) 0))) (90 * p0.toInt + 30 * p2.toInt + p1.toInt) p3.toInt) 0 (((G.1 (F a 2) 2).toInt)).toNat) (vw (G.2.1 (F (F a 3) 0))) (vw (G33.2.1 (F (F a 3) 0))) (rset (vw (G.2.1 (F (F a 3) 0))) (90 * p0.toInt + 30 * p2.toInt + p1.toInt) p3.toInt) (qL G F (F a 8)) (qL G33 F (F a 8)) (gaL G (G.2.2.1 (F (F a 2) 1)) (vw (G.2.1 (F (F a 4) 0))) (rset (vw (G.2.1 (F (F a 3) 0))) (90 * p0.toInt + 30 * p2.toInt + p1.toInt) p3.toInt) 1 (((G.1 (F a 2) 2).toInt)).toNat)) := by
  rcases oq13 with ⟨h1, h2⟩ | ⟨v1, v2, v3, v4, ⟨h1, h2⟩ | ⟨h0, ⟨h1, h2⟩ | ⟨h1, h2, h3, h4⟩⟩⟩
  · first
      | (exfalso; omega)
      | exact Or.inl ⟨h1, fun h => h2 h, by rw [c_G26_F_F_a_3_0], qL_cg d_G26_F_a_8_6 c_G26_F_F_a_8_0 c_G26_F_F_a_8_1 c_G26_F_F_a_8_2 c_G26_F_F_a_8_3 c_G26_F_F_a_8_4 c_G26_F_F_a_8_5⟩
  · first
      | (exfalso; omega)
      | exact Or.inr (Or.inl ⟨⟨v1, v2, v3, v4⟩, h1, h2, by rw [c_G26_F_F_a_3_0], qL_cg d_G26_F_a_8_6 c_G26_F_F_a_8_0 c_G26_F_F_a_8_1 c_G26_F_F_a_8_2 c_G26_F_F_a_8_3 c_G26_F_F_a_8_4 c_G26_F_F_a_8_5⟩)
  · first
      | (exfalso; omega)
      | exact Or.inr (Or.inr (Or.inl ⟨⟨v1, v2, v3, v4⟩, h0, h1, h2, by rw [c_G26_F_F_a_3_0], qL_cg d_G26_F_a_8_6 c_G26_F_F_a_8_0 c_G26_F_F_a_8_1 c_G26_F_F_a_8_2 c_G26_F_F_a_8_3 c_G26_F_F_a_8_4 c_G26_F_F_a_8_5⟩))
  · first
      | (exfalso; omega)
      | (have hd1 : ∀ p, p ∈ [(F a 14, 1)] → K p.1 ≠ 9 := (List.forall_mem_cons.mpr ⟨(show K (F a 14) ≠ 9 by omega), fun _ h => by cases h⟩)
         have hd0 : ∀ p, p ∈ ([] : List (Nat × Nat)) → K p.1 ≠ 9 := fun _ h => by cases h
         have hc : ∀ (i q : Nat), i < ((G.1 (F a 2) 2).toInt).toNat → G.2.2.1 (F (F a 2) 1) i = some q → G13.1 q = G.1 q := fun i q hi hq => by
           have hk := (bko i q (by omega) hq).1
           exact (hF13.rule hd0 hk).trans (hF4.rule hd1 hk)
         have eq8 : qL G13 F (F a 8) = qL G F (F a 8) := qL_cg d_G13_F_a_8_6 c_G13_F_F_a_8_0 c_G13_F_F_a_8_1 c_G13_F_F_a_8_2 c_G13_F_F_a_8_3 c_G13_F_F_a_8_4 c_G13_F_F_a_8_5
         rw [h3, r_G13_F_F_a_2_1, gaL_cg hc, gaL_cg hc, eq8] at oq33
         exact Or.inr (Or.inr (Or.inr ⟨⟨v1, v2, v3, v4⟩, h0, h2, oq33⟩)))
theorem v_X10_set_36_8 {F : Nat → Nat → Nat} (a : Nat) (G : XG) (G33 : XG)
    (ron : RO (vw (G.2.1 (F (F a 3) 0))) (aI (G.2.1 (F (F a 3) 1))))
    (oq33a : RO (vw (G33.2.1 (F (F a 3) 0))) (aI (G33.2.1 (F (F a 3) 1)))) :
    RO (vw (G33.2.1 (F (F a 3) 0))) (aI (G33.2.1 (F (F a 3) 1))) := by
  first
    | exact oq33a
    | (rw [c_G26_F_F_a_3_0, c_G26_F_F_a_3_1]; exact ron)
theorem v_X10_set_36_9 {K : Nat → Nat} {F : Nat → Nat → Nat} (a : Nat) (G : XG) (G4 : XG) (G13 : XG) (G26 : XG) (x13 : Int32) (p0 : Int32) (p1 : Int32) (p2 : Int32) (p3 : Int32)
    (ha : K a = 12)
    (hk9999 : K (F a 11) = 3)
    (hj9999 : F (F a 11) 99 = 0)
    (hk9999a : K (F a 9) = 6)
    (hj9999a : F (F a 9) 99 = 1)
    (hk9999b : K (F a 14) = 11)
    (hj9999b : F (F a 14) 99 = 0)
    (hk9999c : K (F a 10) = 6)
    (hj9999c : F (F a 10) 99 = 2)
    (hk9999d : K (F a 8) = 6)
    (hj9999d : F (F a 8) 99 = 0)
    (hk9999e : K (F (F a 11) 0) = 21)
    (hj9999e : F (F (F a 11) 0) 99 = 100)
    (hk9999f : K (F (F a 11) 1) = 21)
    (hj9999f : F (F (F a 11) 1) 99 = 101)
    (hk9999g : K (F (F a 11) 2) = 24)
    (hj9999g : F (F (F a 11) 2) 99 = 4)
    (hk9999h : K (F (F a 9) 0) = 22)
    (hj9999i : F (F (F a 9) 0) 99 = 10 * 1 + 0)
    (hk9999i : K (F (F a 9) 1) = 22)
    (hj9999k : F (F (F a 9) 1) 99 = 10 * 1 + 1)
    (hk9999j : K (F (F a 9) 2) = 22)
    (hj9999m : F (F (F a 9) 2) 99 = 10 * 1 + 2)
    (hk9999k : K (F (F a 9) 3) = 22)
    (hj9999o : F (F (F a 9) 3) 99 = 10 * 1 + 3)
    (hk9999l : K (F (F a 9) 4) = 23)
    (hj9999q : F (F (F a 9) 4) 99 = 10 * 1 + 4)
    (hk9999m : K (F (F a 9) 5) = 23)
    (hj9999s : F (F (F a 9) 5) 99 = 10 * 1 + 5)
    (hk9999n : K (F a 16) = 27)
    (hj9999t : F (F a 16) 99 = 0)
    (hk9999o : K (F a 15) = 26)
    (hj9999u : F (F a 15) 99 = 0)
    (hk9999p : K (F (F a 10) 0) = 22)
    (hj9999w : F (F (F a 10) 0) 99 = 10 * 2 + 0)
    (hk9999q : K (F (F a 10) 1) = 22)
    (hj9999z25 : F (F (F a 10) 1) 99 = 10 * 2 + 1)
    (hk9999r : K (F (F a 10) 2) = 22)
    (hj9999z27 : F (F (F a 10) 2) 99 = 10 * 2 + 2)
    (hk9999s : K (F (F a 10) 3) = 22)
    (hj9999z29 : F (F (F a 10) 3) 99 = 10 * 2 + 3)
    (hk9999t : K (F (F a 10) 4) = 23)
    (hj9999z31 : F (F (F a 10) 4) 99 = 10 * 2 + 4)
    (hk9999u : K (F (F a 10) 5) = 23)
    (hj9999z33 : F (F (F a 10) 5) 99 = 10 * 2 + 5)
    (hk9999v : K (F a 3) = 8)
    (hj9999z34 : F (F a 3) 99 = 0)
    (hk9999w : K (F (F a 3) 0) = 20)
    (hj9999z36 : F (F (F a 3) 0) 99 = 0)
    (hk9999y : K (F (F a 3) 1) = 21)
    (hj9999z38 : F (F (F a 3) 1) 99 = 0)
    (hk9999z25 : K (F (F a 8) 0) = 22)
    (hj9999z40 : F (F (F a 8) 0) 99 = 10 * 0 + 0)
    (hk9999z26 : K (F (F a 8) 1) = 22)
    (hj9999z42 : F (F (F a 8) 1) 99 = 10 * 0 + 1)
    (hk9999z27 : K (F (F a 8) 2) = 22)
    (hj9999z44 : F (F (F a 8) 2) 99 = 10 * 0 + 2)
    (hk9999z28 : K (F (F a 8) 3) = 22)
    (hj9999z46 : F (F (F a 8) 3) 99 = 10 * 0 + 3)
    (hk9999z29 : K (F (F a 8) 4) = 23)
    (hj9999z48 : F (F (F a 8) 4) 99 = 10 * 0 + 4)
    (hk9999z30 : K (F (F a 8) 5) = 23)
    (hj9999z50 : F (F (F a 8) 5) 99 = 10 * 0 + 5)
    (hk9999z31 : K (F a 5) = 8)
    (hj9999z51 : F (F a 5) 99 = 2)
    (hk9999z32 : K (F (F a 5) 0) = 20)
    (hj9999z53 : F (F (F a 5) 0) 99 = 2)
    (hk9999z33 : K (F (F a 5) 1) = 21)
    (hj9999z55 : F (F (F a 5) 1) 99 = 2)
    (hk9999z34 : K (F a 2) = 2)
    (hj9999z56 : F (F a 2) 99 = 0)
    (hk9999z35 : K (F (F a 2) 1) = 15)
    (hj9999z57 : F (F (F a 2) 1) 99 = 1)
    (hk9999z36 : K (F (F a 2) 0) = 15)
    (hj9999z58 : F (F (F a 2) 0) 99 = 0)
    (hk9999z37 : K (F a 4) = 8)
    (hj9999z59 : F (F a 4) 99 = 1)
    (hk9999z38 : K (F (F a 4) 0) = 20)
    (hj9999z61 : F (F (F a 4) 0) 99 = 1)
    (hk9999z39 : K (F (F a 4) 1) = 21)
    (hj9999z63 : F (F (F a 4) 1) 99 = 1)
    (hF4 : XFr [(F a 14, 1)] [] [] G G4)
    (hF13 : XFr [] [F (F a 5) 0, F (F a 5) 1] [] G4 G13)
    (bko : BKr K G (G.2.2.1 (F (F a 2) 1)))
    (oq13 : (x13.toInt = -1 ∧ ¬ ((0 ≤ p0.toInt ∧ p0.toInt < 3) ∧ (0 ≤ p1.toInt ∧ p1.toInt < 30) ∧ (0 ≤ p2.toInt ∧ p2.toInt < 3) ∧ (p3.toInt = -1000 ∨ (-99 ≤ p3.toInt ∧ p3.toInt ≤ 99)))) ∨ ((0 ≤ p0.toInt ∧ p0.toInt < 3) ∧ (0 ≤ p1.toInt ∧ p1.toInt < 30) ∧ (0 ≤ p2.toInt ∧ p2.toInt < 3) ∧ (p3.toInt = -1000 ∨ (-99 ≤ p3.toInt ∧ p3.toInt ≤ 99)) ∧ ((x13.toInt = -2 ∧ cel (vw (G.2.1 (F (F a 3) 0))) p0.toInt p1.toInt 0 = -2000) ∨ (cel (vw (G.2.1 (F (F a 3) 0))) p0.toInt p1.toInt 0 ≠ -2000 ∧ ((x13.toInt = -4 ∧ cel (vw (G.2.1 (F (F a 3) 0))) p0.toInt p1.toInt p2.toInt = p3.toInt) ∨ (x13.toInt = 0 ∧ cel (vw (G.2.1 (F (F a 3) 0))) p0.toInt p1.toInt p2.toInt ≠ p3.toInt ∧ (vw (G13.2.1 (F (F a 5) 0))) = rset (vw (G.2.1 (F (F a 3) 0))) (90 * p0.toInt + 30 * p2.toInt + p1.toInt) p3.toInt ∧ RO (vw (G13.2.1 (F (F a 5) 0))) (aI (G13.2.1 (F (F a 5) 1)))))))))
    (sb : 0 ≤ ((G.1 (F a 2) 2).toInt) ∧ ((G.1 (F a 2) 2).toInt) ≤ 12)
    (sw : 0 ≤ ((G.1 (F a 8) 6).toInt) ∧ ((G.1 (F a 8) 6).toInt) ≤ 1080)
    (t4 : ((G4.1 (F a 14) 1).toInt) = 0)
    (t13 : -4 ≤ x13.toInt ∧ x13.toInt ≤ 0)
    (c20 : ¬ (0 ≤ x13.toInt))
    (c_G13_F_F_a_8_0 : G13.2.1 (F (F a 8) 0) = G.2.1 (F (F a 8) 0))
    (c_G13_F_F_a_8_1 : G13.2.1 (F (F a 8) 1) = G.2.1 (F (F a 8) 1))
    (c_G13_F_F_a_8_2 : G13.2.1 (F (F a 8) 2) = G.2.1 (F (F a 8) 2))
    (c_G13_F_F_a_8_3 : G13.2.1 (F (F a 8) 3) = G.2.1 (F (F a 8) 3))
    (c_G13_F_F_a_8_4 : G13.2.1 (F (F a 8) 4) = G.2.1 (F (F a 8) 4))
    (c_G13_F_F_a_8_5 : G13.2.1 (F (F a 8) 5) = G.2.1 (F (F a 8) 5))
    (c_G26_F_F_a_3_0 : G26.2.1 (F (F a 3) 0) = G.2.1 (F (F a 3) 0))
    (c_G26_F_F_a_8_0 : G26.2.1 (F (F a 8) 0) = G.2.1 (F (F a 8) 0))
    (c_G26_F_F_a_8_1 : G26.2.1 (F (F a 8) 1) = G.2.1 (F (F a 8) 1))
    (c_G26_F_F_a_8_2 : G26.2.1 (F (F a 8) 2) = G.2.1 (F (F a 8) 2))
    (c_G26_F_F_a_8_3 : G26.2.1 (F (F a 8) 3) = G.2.1 (F (F a 8) 3))
    (c_G26_F_F_a_8_4 : G26.2.1 (F (F a 8) 4) = G.2.1 (F (F a 8) 4))
    (c_G26_F_F_a_8_5 : G26.2.1 (F (F a 8) 5) = G.2.1 (F (F a 8) 5))
    (r_G13_F_F_a_2_1 : G13.2.2.1 (F (F a 2) 1) = G.2.2.1 (F (F a 2) 1))
    (d_G13_F_a_8_6 : G13.1 (F a 8) 6 = G.1 (F a 8) 6)
    (d_G26_F_a_8_6 : G26.1 (F a 8) 6 = G.1 (F a 8) 6) :
    (x13.toInt = -1 ∧ ¬ ((0 ≤ p0.toInt ∧ p0.toInt < 3) ∧ (0 ≤ p1.toInt ∧ p1.toInt < 30) ∧ (0 ≤ p2.toInt ∧ p2.toInt < 3) ∧ (p3.toInt = -1000 ∨ (-99 ≤ p3.toInt ∧ p3.toInt ≤ 99))) ∧ ((vw (G26.2.1 (F (F a 3) 0))) = (vw (G.2.1 (F (F a 3) 0))) ∧ qL G26 F (F a 8) = qL G F (F a 8))) ∨ (((0 ≤ p0.toInt ∧ p0.toInt < 3) ∧ (0 ≤ p1.toInt ∧ p1.toInt < 30) ∧ (0 ≤ p2.toInt ∧ p2.toInt < 3) ∧ (p3.toInt = -1000 ∨ (-99 ≤ p3.toInt ∧ p3.toInt ≤ 99))) ∧ x13.toInt = -2 ∧ cel (vw (G.2.1 (F (F a 3) 0))) p0.toInt p1.toInt 0 = -2000 ∧ ((vw (G26.2.1 (F (F a 3) 0))) = (vw (G.2.1 (F (F a 3) 0))) ∧ qL G26 F (F a 8) = qL G F (F a 8))) ∨ (((0 ≤ p0.toInt ∧ p0.toInt < 3) ∧ (0 ≤ p1.toInt ∧ p1.toInt < 30) ∧ (0 ≤ p2.toInt ∧ p2.toInt < 3) ∧ (p3.toInt = -1000 ∨ (-99 ≤ p3.toInt ∧ p3.toInt ≤ 99))) ∧ cel (vw (G.2.1 (F (F a 3) 0))) p0.toInt p1.toInt 0 ≠ -2000 ∧ x13.toInt = -4 ∧ cel (vw (G.2.1 (F (F a 3) 0))) p0.toInt p1.toInt p2.toInt = p3.toInt ∧ ((vw (G26.2.1 (F (F a 3) 0))) = (vw (G.2.1 (F (F a 3) 0))) ∧ qL G26 F (F a 8) = qL G F (F a 8))) ∨ (((0 ≤ p0.toInt ∧ p0.toInt < 3) ∧ (0 ≤ p1.toInt ∧ p1.toInt < 30) ∧ (0 ≤ p2.toInt ∧ p2.toInt < 3) ∧ (p3.toInt = -1000 ∨ (-99 ≤ p3.toInt ∧ p3.toInt ≤ 99))) ∧ cel (vw (G.2.1 (F (F a 3) 0))) p0.toInt p1.toInt 0 ≠ -2000 ∧ cel (vw (G.2.1 (F (F a 3) 0))) p0.toInt p1.toInt p2.toInt ≠ p3.toInt ∧ ActR ((G.1 a 18).toInt) x13.toInt (gaL G (G.2.2.1 (F (F a 2) 1)) (vw (G.2.1 (F (F a 3) 0))) (rset (vw (G.2.1 (F (F a 3) 0))) (90 * p0.toInt + 30 * p2.toInt + p1.toInt) p3.toInt) 0 (((G.1 (F a 2) 2).toInt)).toNat) (vw (G.2.1 (F (F a 3) 0))) (vw (G26.2.1 (F (F a 3) 0))) (rset (vw (G.2.1 (F (F a 3) 0))) (90 * p0.toInt + 30 * p2.toInt + p1.toInt) p3.toInt) (qL G F (F a 8)) (qL G26 F (F a 8)) (gaL G (G.2.2.1 (F (F a 2) 1)) (vw (G.2.1 (F (F a 4) 0))) (rset (vw (G.2.1 (F (F a 3) 0))) (90 * p0.toInt + 30 * p2.toInt + p1.toInt) p3.toInt) 1 (((G.1 (F a 2) 2).toInt)).toNat)) := by
  rcases oq13 with ⟨h1, h2⟩ | ⟨v1, v2, v3, v4, ⟨h1, h2⟩ | ⟨h0, ⟨h1, h2⟩ | ⟨h1, h2, h3, h4⟩⟩⟩
  · first
      | (exfalso; omega)
      | exact Or.inl ⟨h1, fun h => h2 h, by rw [c_G26_F_F_a_3_0], qL_cg d_G26_F_a_8_6 c_G26_F_F_a_8_0 c_G26_F_F_a_8_1 c_G26_F_F_a_8_2 c_G26_F_F_a_8_3 c_G26_F_F_a_8_4 c_G26_F_F_a_8_5⟩
  · first
      | (exfalso; omega)
      | exact Or.inr (Or.inl ⟨⟨v1, v2, v3, v4⟩, h1, h2, by rw [c_G26_F_F_a_3_0], qL_cg d_G26_F_a_8_6 c_G26_F_F_a_8_0 c_G26_F_F_a_8_1 c_G26_F_F_a_8_2 c_G26_F_F_a_8_3 c_G26_F_F_a_8_4 c_G26_F_F_a_8_5⟩)
  · first
      | (exfalso; omega)
      | exact Or.inr (Or.inr (Or.inl ⟨⟨v1, v2, v3, v4⟩, h0, h1, h2, by rw [c_G26_F_F_a_3_0], qL_cg d_G26_F_a_8_6 c_G26_F_F_a_8_0 c_G26_F_F_a_8_1 c_G26_F_F_a_8_2 c_G26_F_F_a_8_3 c_G26_F_F_a_8_4 c_G26_F_F_a_8_5⟩))
  · first
      | (exfalso; omega)
      | (have hd1 : ∀ p, p ∈ [(F a 14, 1)] → K p.1 ≠ 9 := (List.forall_mem_cons.mpr ⟨(show K (F a 14) ≠ 9 by omega), fun _ h => by cases h⟩)
         have hd0 : ∀ p, p ∈ ([] : List (Nat × Nat)) → K p.1 ≠ 9 := fun _ h => by cases h
         have hc : ∀ (i q : Nat), i < ((G.1 (F a 2) 2).toInt).toNat → G.2.2.1 (F (F a 2) 1) i = some q → G13.1 q = G.1 q := fun i q hi hq => by
           have hk := (bko i q (by omega) hq).1
           exact (hF13.rule hd0 hk).trans (hF4.rule hd1 hk)
         have eq8 : qL G13 F (F a 8) = qL G F (F a 8) := qL_cg d_G13_F_a_8_6 c_G13_F_F_a_8_0 c_G13_F_F_a_8_1 c_G13_F_F_a_8_2 c_G13_F_F_a_8_3 c_G13_F_F_a_8_4 c_G13_F_F_a_8_5
         rw [h3, r_G13_F_F_a_2_1, gaL_cg hc, gaL_cg hc, eq8] at oq33
         exact Or.inr (Or.inr (Or.inr ⟨⟨v1, v2, v3, v4⟩, h0, h2, oq33⟩)))
theorem v_X10_set_36_10 {F : Nat → Nat → Nat} (a : Nat) (G : XG) (G26 : XG)
    (ron : RO (vw (G.2.1 (F (F a 3) 0))) (aI (G.2.1 (F (F a 3) 1))))
    (c_G26_F_F_a_3_0 : G26.2.1 (F (F a 3) 0) = G.2.1 (F (F a 3) 0))
    (c_G26_F_F_a_3_1 : G26.2.1 (F (F a 3) 1) = G.2.1 (F (F a 3) 1)) :
    RO (vw (G26.2.1 (F (F a 3) 0))) (aI (G26.2.1 (F (F a 3) 1))) := by
  first
    | exact oq33a
    | (rw [c_G26_F_F_a_3_0, c_G26_F_F_a_3_1]; exact ron)
abbrev rm_X10_set : Room := { frames := 10, cells := 15, slots := 1500, locals := 236 }
set_option maxHeartbeats 4000000 in
set_option maxRecDepth 100000 in
theorem c_X10_set (l : Launch) (E : XE) (K : Nat → Nat) (F : Nat → Nat → Nat) (G : XG) (a : Nat) (p0 : Int32) (p1 : Int32) (p2 : Int32) (p3 : Int32) (ha : K a = 12) (sb : 0 ≤ ((G.1 (F a 2) 2).toInt) ∧ ((G.1 (F a 2) 2).toInt) ≤ 12) (sw : 0 ≤ ((G.1 (F a 8) 6).toInt) ∧ ((G.1 (F a 8) 6).toInt) ≤ 1080) (ron : RO (vw (G.2.1 (F (F a 3) 0))) (aI (G.2.1 (F (F a 3) 1)))) (rob : RO (vw (G.2.1 (F (F a 4) 0))) (aI (G.2.1 (F (F a 4) 1)))) (bko : BKr K G (G.2.2.1 (F (F a 2) 1))) (bkn : BKr K G (G.2.2.1 (F (F a 2) 0))) : Met l yX10_set (xw yX10_set cX10_set 6 (some .int)) rm_X10_set (va_Pc [.ref a, .int p0, .int p1, .int p2, .int p3] (XP E K F G)) (XQ E (fun v (u : XG) => ∃ r : Int32, v = .int r ∧ XFr [(F a 11, 3), (F a 9, 6), (F a 14, 1), (F a 14, 2), (F a 14, 3), (F a 10, 6), (F a 8, 6)] [F (F a 11) 0, F (F a 11) 1, F (F a 11) 2, F (F a 9) 0, F (F a 9) 1, F (F a 9) 2, F (F a 9) 3, F (F a 9) 4, F (F a 9) 5, F a 16, F a 15, F (F a 10) 0, F (F a 10) 1, F (F a 10) 2, F (F a 10) 3, F (F a 10) 4, F (F a 10) 5, F (F a 3) 0, F (F a 3) 1, F (F a 8) 0, F (F a 8) 1, F (F a 8) 2, F (F a 8) 3, F (F a 8) 4, F (F a 8) 5, F (F a 5) 0, F (F a 5) 1] [] G u ∧ (0 ≤ ((u.1 (F a 8) 6).toInt) ∧ ((u.1 (F a 8) 6).toInt) ≤ 1080) ∧ ((r.toInt = -1 ∧ ¬ ((0 ≤ p0.toInt ∧ p0.toInt < 3) ∧ (0 ≤ p1.toInt ∧ p1.toInt < 30) ∧ (0 ≤ p2.toInt ∧ p2.toInt < 3) ∧ (p3.toInt = -1000 ∨ (-99 ≤ p3.toInt ∧ p3.toInt ≤ 99))) ∧ ((vw (u.2.1 (F (F a 3) 0))) = (vw (G.2.1 (F (F a 3) 0))) ∧ qL u F (F a 8) = qL G F (F a 8))) ∨ (((0 ≤ p0.toInt ∧ p0.toInt < 3) ∧ (0 ≤ p1.toInt ∧ p1.toInt < 30) ∧ (0 ≤ p2.toInt ∧ p2.toInt < 3) ∧ (p3.toInt = -1000 ∨ (-99 ≤ p3.toInt ∧ p3.toInt ≤ 99))) ∧ r.toInt = -2 ∧ cel (vw (G.2.1 (F (F a 3) 0))) p0.toInt p1.toInt 0 = -2000 ∧ ((vw (u.2.1 (F (F a 3) 0))) = (vw (G.2.1 (F (F a 3) 0))) ∧ qL u F (F a 8) = qL G F (F a 8))) ∨ (((0 ≤ p0.toInt ∧ p0.toInt < 3) ∧ (0 ≤ p1.toInt ∧ p1.toInt < 30) ∧ (0 ≤ p2.toInt ∧ p2.toInt < 3) ∧ (p3.toInt = -1000 ∨ (-99 ≤ p3.toInt ∧ p3.toInt ≤ 99))) ∧ cel (vw (G.2.1 (F (F a 3) 0))) p0.toInt p1.toInt 0 ≠ -2000 ∧ r.toInt = -4 ∧ cel (vw (G.2.1 (F (F a 3) 0))) p0.toInt p1.toInt p2.toInt = p3.toInt ∧ ((vw (u.2.1 (F (F a 3) 0))) = (vw (G.2.1 (F (F a 3) 0))) ∧ qL u F (F a 8) = qL G F (F a 8))) ∨ (((0 ≤ p0.toInt ∧ p0.toInt < 3) ∧ (0 ≤ p1.toInt ∧ p1.toInt < 30) ∧ (0 ≤ p2.toInt ∧ p2.toInt < 3) ∧ (p3.toInt = -1000 ∨ (-99 ≤ p3.toInt ∧ p3.toInt ≤ 99))) ∧ cel (vw (G.2.1 (F (F a 3) 0))) p0.toInt p1.toInt 0 ≠ -2000 ∧ cel (vw (G.2.1 (F (F a 3) 0))) p0.toInt p1.toInt p2.toInt ≠ p3.toInt ∧ ActR ((G.1 a 18).toInt) r.toInt (gaL G (G.2.2.1 (F (F a 2) 1)) (vw (G.2.1 (F (F a 3) 0))) (rset (vw (G.2.1 (F (F a 3) 0))) (90 * p0.toInt + 30 * p2.toInt + p1.toInt) p3.toInt) 0 (((G.1 (F a 2) 2).toInt)).toNat) (vw (G.2.1 (F (F a 3) 0))) (vw (u.2.1 (F (F a 3) 0))) (rset (vw (G.2.1 (F (F a 3) 0))) (90 * p0.toInt + 30 * p2.toInt + p1.toInt) p3.toInt) (qL G F (F a 8)) (qL u F (F a 8)) (gaL G (G.2.2.1 (F (F a 2) 1)) (vw (G.2.1 (F (F a 4) 0))) (rset (vw (G.2.1 (F (F a 3) 0))) (90 * p0.toInt + 30 * p2.toInt + p1.toInt) p3.toInt) 1 (((G.1 (F a 2) 2).toInt)).toNat))) ∧ (RO (vw (u.2.1 (F (F a 3) 0))) (aI (u.2.1 (F (F a 3) 1))))) (fun u H => TW E K F u H)) 15 1500 (xA E) := by
  refine x_enter (by decide) (Nat.le_of_ble_eq_true rfl) ?_
  intro p e s m args below meth c Q S hr hlk hnm hQ hP ls hl
  obtain ⟨hz, hK, hT⟩ := hP
  obtain ⟨hx, hb, -, -, -⟩ := id S
  obtain ⟨H, hT, hS, hgo⟩ : ∃ H : Heap, TW E K F G H ∧ va_S (xA E) s.heap H [] ∧ H = s.heap := ⟨_, hT, va_S.rf, rfl⟩
  rw [← hgo]
  have hl : lv_has ls 6 [(0, .ref a), (1, .int p0), (2, .int p1), (3, .int p2), (4, .int p3)] := hl
  obtain ⟨hk9999, hj9999⟩ := fkX10_11 hT ha
  obtain ⟨hk9999a, hj9999a⟩ := fkX10_9 hT ha
  obtain ⟨hk9999b, hj9999b⟩ := fkX10_14 hT ha
  obtain ⟨hk9999c, hj9999c⟩ := fkX10_10 hT ha
  obtain ⟨hk9999d, hj9999d⟩ := fkX10_8 hT ha
  obtain ⟨hk9999e, hj9999e⟩ := fkX1_0 hT hk9999
  obtain ⟨hk9999f, hj9999f⟩ := fkX1_1 hT hk9999
  obtain ⟨hk9999g, hj9999g⟩ := fkX1_2 hT hk9999
  obtain ⟨hk9999h, hj9999h⟩ := fkX4_0 hT hk9999a
  have hj9999i : F (F (F a 9) 0) 99 = 10 * 1 + 0 := by rw [hj9999h, hj9999a]
  obtain ⟨hk9999i, hj9999j⟩ := fkX4_1 hT hk9999a
  have hj9999k : F (F (F a 9) 1) 99 = 10 * 1 + 1 := by rw [hj9999j, hj9999a]
  obtain ⟨hk9999j, hj9999l⟩ := fkX4_2 hT hk9999a
  have hj9999m : F (F (F a 9) 2) 99 = 10 * 1 + 2 := by rw [hj9999l, hj9999a]
  obtain ⟨hk9999k, hj9999n⟩ := fkX4_3 hT hk9999a
  have hj9999o : F (F (F a 9) 3) 99 = 10 * 1 + 3 := by rw [hj9999n, hj9999a]
  obtain ⟨hk9999l, hj9999p⟩ := fkX4_4 hT hk9999a
  have hj9999q : F (F (F a 9) 4) 99 = 10 * 1 + 4 := by rw [hj9999p, hj9999a]
  obtain ⟨hk9999m, hj9999r⟩ := fkX4_5 hT hk9999a
  have hj9999s : F (F (F a 9) 5) 99 = 10 * 1 + 5 := by rw [hj9999r, hj9999a]
  obtain ⟨hk9999n, hj9999t⟩ := fkX10_16 hT ha
  obtain ⟨hk9999o, hj9999u⟩ := fkX10_15 hT ha
  obtain ⟨hk9999p, hj9999v⟩ := fkX4_0 hT hk9999c
  have hj9999w : F (F (F a 10) 0) 99 = 10 * 2 + 0 := by rw [hj9999v, hj9999c]
  obtain ⟨hk9999q, hj9999y⟩ := fkX4_1 hT hk9999c
  have hj9999z25 : F (F (F a 10) 1) 99 = 10 * 2 + 1 := by rw [hj9999y, hj9999c]
  obtain ⟨hk9999r, hj9999z26⟩ := fkX4_2 hT hk9999c
  have hj9999z27 : F (F (F a 10) 2) 99 = 10 * 2 + 2 := by rw [hj9999z26, hj9999c]
  obtain ⟨hk9999s, hj9999z28⟩ := fkX4_3 hT hk9999c
  have hj9999z29 : F (F (F a 10) 3) 99 = 10 * 2 + 3 := by rw [hj9999z28, hj9999c]
  obtain ⟨hk9999t, hj9999z30⟩ := fkX4_4 hT hk9999c
  have hj9999z31 : F (F (F a 10) 4) 99 = 10 * 2 + 4 := by rw [hj9999z30, hj9999c]
  obtain ⟨hk9999u, hj9999z32⟩ := fkX4_5 hT hk9999c
  have hj9999z33 : F (F (F a 10) 5) 99 = 10 * 2 + 5 := by rw [hj9999z32, hj9999c]
  obtain ⟨hk9999v, hj9999z34⟩ := fkX10_3 hT ha
  obtain ⟨hk9999w, hj9999z35⟩ := fkX6_0 hT hk9999v
  have hj9999z36 : F (F (F a 3) 0) 99 = 0 := by rw [hj9999z35, hj9999z34]
  obtain ⟨hk9999y, hj9999z37⟩ := fkX6_1 hT hk9999v
  have hj9999z38 : F (F (F a 3) 1) 99 = 0 := by rw [hj9999z37, hj9999z34]
  obtain ⟨hk9999z25, hj9999z39⟩ := fkX4_0 hT hk9999d
  have hj9999z40 : F (F (F a 8) 0) 99 = 10 * 0 + 0 := by rw [hj9999z39, hj9999d]
  obtain ⟨hk9999z26, hj9999z41⟩ := fkX4_1 hT hk9999d
  have hj9999z42 : F (F (F a 8) 1) 99 = 10 * 0 + 1 := by rw [hj9999z41, hj9999d]
  obtain ⟨hk9999z27, hj9999z43⟩ := fkX4_2 hT hk9999d
  have hj9999z44 : F (F (F a 8) 2) 99 = 10 * 0 + 2 := by rw [hj9999z43, hj9999d]
  obtain ⟨hk9999z28, hj9999z45⟩ := fkX4_3 hT hk9999d
  have hj9999z46 : F (F (F a 8) 3) 99 = 10 * 0 + 3 := by rw [hj9999z45, hj9999d]
  obtain ⟨hk9999z29, hj9999z47⟩ := fkX4_4 hT hk9999d
  have hj9999z48 : F (F (F a 8) 4) 99 = 10 * 0 + 4 := by rw [hj9999z47, hj9999d]
  obtain ⟨hk9999z30, hj9999z49⟩ := fkX4_5 hT hk9999d
  have hj9999z50 : F (F (F a 8) 5) 99 = 10 * 0 + 5 := by rw [hj9999z49, hj9999d]
  obtain ⟨hk9999z31, hj9999z51⟩ := fkX10_5 hT ha
  obtain ⟨hk9999z32, hj9999z52⟩ := fkX6_0 hT hk9999z31
  have hj9999z53 : F (F (F a 5) 0) 99 = 2 := by rw [hj9999z52, hj9999z51]
  obtain ⟨hk9999z33, hj9999z54⟩ := fkX6_1 hT hk9999z31
  have hj9999z55 : F (F (F a 5) 1) 99 = 2 := by rw [hj9999z54, hj9999z51]
  obtain ⟨hk9999z34, hj9999z56⟩ := fkX10_2 hT ha
  obtain ⟨hk9999z35, hj9999z57⟩ := fkX0_1 hT hk9999z34
  obtain ⟨hk9999z36, hj9999z58⟩ := fkX0_0 hT hk9999z34
  obtain ⟨hk9999z37, hj9999z59⟩ := fkX10_4 hT ha
  obtain ⟨hk9999z38, hj9999z60⟩ := fkX6_0 hT hk9999z37
  have hj9999z61 : F (F (F a 4) 0) 99 = 1 := by rw [hj9999z60, hj9999z59]
  obtain ⟨hk9999z39, hj9999z62⟩ := fkX6_1 hT hk9999z37
  have hj9999z63 : F (F (F a 4) 1) 99 = 1 := by rw [hj9999z62, hj9999z59]
  refine lv_aload_n hx hb dX10_set_0 rfl (lv_at hl 0 rfl) ?_
  refine gX10_14 S hK hT ha kf_X10_91 dX10_set_1 (fun _ _ => ?_)
  refine x_cv (x_runV (b := (F a 14)) (As := []) (rest := []) S (c_X9_clear l E K F G (F a 14) hk9999b) mv_X9_clear km_X10_113 rfl rfl ⟨Nat.le_of_ble_eq_true rfl, Nat.le_of_ble_eq_true rfl⟩ (rc_11 hK hT hk9999b) hK (fun _ => XP.blind) (fun U hU hW => XP.at hK hz hS hT hU hW) rfl hl.1 (Nat.le_of_ble_eq_true rfl) dX10_set_4 ⟨Nat.le_of_ble_eq_true rfl, Nat.le_of_ble_eq_true rfl⟩) hS ?_
  rintro G4 H locs ⟨hF4, t4⟩ hT hS
  have t4 : ((G4.1 (F a 14) 1).toInt) = 0 := t4
  refine lv_aload_n hx hb dX10_set_7 rfl (lv_at hl 0 rfl) ?_
  refine lv_iload_n hx hb dX10_set_8 rfl (lv_at hl 1 rfl) ?_
  refine lv_iload_n hx hb dX10_set_9 rfl (lv_at hl 2 rfl) ?_
  refine lv_iload_n hx hb dX10_set_10 rfl (lv_at hl 3 rfl) ?_
  refine lv_iload hx hb dX10_set_11 (lv_at hl 4 rfl) ?_
  refine x_cl0 (x_runV (b := a) (As := [.int p0, .int p1, .int p2, .int p3]) (rest := []) S (c_X10_setOnPaper l E K F G4 a p0 p1 p2 p3 ha (v_X10_set_13_1 (F := F) a G G4 ron rob (hF4.2.1 _ xn0) (hF4.2.1 _ xn0))) mv_X10_setOnPaper km_X10_210 rfl rfl ⟨Nat.le_of_ble_eq_true rfl, Nat.le_of_ble_eq_true rfl⟩ (rc_12 hK hT ha) hK (fun _ => XP.blind) (fun U hU hW => XP.at hK hz hS hT hU hW) rfl hl.1 (Nat.le_of_ble_eq_true rfl) dX10_set_13 ⟨Nat.le_of_ble_eq_true rfl, Nat.le_of_ble_eq_true rfl⟩) hS ?_
  rintro _ G13 H locs ⟨x13, rfl, hF13, t13, oq13⟩ hT hS
  have t13 : -4 ≤ x13.toInt ∧ x13.toInt ≤ 0 := t13
  have oq13 : (x13.toInt = -1 ∧ ¬ ((0 ≤ p0.toInt ∧ p0.toInt < 3) ∧ (0 ≤ p1.toInt ∧ p1.toInt < 30) ∧ (0 ≤ p2.toInt ∧ p2.toInt < 3) ∧ (p3.toInt = -1000 ∨ (-99 ≤ p3.toInt ∧ p3.toInt ≤ 99)))) ∨ ((0 ≤ p0.toInt ∧ p0.toInt < 3) ∧ (0 ≤ p1.toInt ∧ p1.toInt < 30) ∧ (0 ≤ p2.toInt ∧ p2.toInt < 3) ∧ (p3.toInt = -1000 ∨ (-99 ≤ p3.toInt ∧ p3.toInt ≤ 99)) ∧ ((x13.toInt = -2 ∧ cel (vw (G.2.1 (F (F a 3) 0))) p0.toInt p1.toInt 0 = -2000) ∨ (cel (vw (G.2.1 (F (F a 3) 0))) p0.toInt p1.toInt 0 ≠ -2000 ∧ ((x13.toInt = -4 ∧ cel (vw (G.2.1 (F (F a 3) 0))) p0.toInt p1.toInt p2.toInt = p3.toInt) ∨ (x13.toInt = 0 ∧ cel (vw (G.2.1 (F (F a 3) 0))) p0.toInt p1.toInt p2.toInt ≠ p3.toInt ∧ (vw (G13.2.1 (F (F a 5) 0))) = rset (vw (G.2.1 (F (F a 3) 0))) (90 * p0.toInt + 30 * p2.toInt + p1.toInt) p3.toInt ∧ RO (vw (G13.2.1 (F (F a 5) 0))) (aI (G13.2.1 (F (F a 5) 1)))))))) := by simp only [(show G4.2.1 (F (F a 3) 0) = G.2.1 (F (F a 3) 0) from (hF4.2.1 _ xn0))] at oq13; exact oq13
  refine lv_istore (lv' := [(5, .int x13), (0, .ref a), (1, .int p0), (2, .int p1), (3, .int p2), (4, .int p3)]) hx hb dX10_set_16 hl (by decide) rfl (fun ls hl => ?_)
  refine lv_iload hx hb dX10_set_18 (lv_at hl 0 rfl) ?_
  refine xi_zge (tgt := 32) hx hb (rfl : Int32.toInt x13 = x13.toInt) dX10_set_20 (by decide) (fun c20 => ?_) (fun c20 => ?_)
  · refine lv_aload_n hx hb dX10_set_32 rfl (lv_at hl 1 rfl) ?_
    refine x_cl (x_runV (b := a) (As := []) (rest := []) S (c_X10_actAsOnPaper l E K F G13 a ha (by rw [(show (G13.1 (F a 2) 2).toInt = ((G.1 (F a 2) 2).toInt) from (congrArg Int32.toInt ((hF13.1 _ _ xn0).trans (hF4.1 _ _ (xnj (by decide) xn0)))).trans (rfl : Int32.toInt (G.1 (F a 2) 2) = ((G.1 (F a 2) 2).toInt)))] <;> exact (sb)) (by rw [(show (G13.1 (F a 8) 6).toInt = ((G.1 (F a 8) 6).toInt) from (congrArg Int32.toInt ((hF13.1 _ _ xn0).trans (hF4.1 _ _ (xnj (by decide) xn0)))).trans (rfl : Int32.toInt (G.1 (F a 8) 6) = ((G.1 (F a 8) 6).toInt)))] <;> exact (sw)) (v_X10_set_33_2 (F := F) a G G13 ron rob ((hF13.2.1 _ (xn1 (xne_j hj9999z36 hj9999z53 (by first | decide | omega)) (xn1 (xne_k hk9999w hk9999z33 (by decide)) xn0))).trans (hF4.2.1 _ xn0)) ((hF13.2.1 _ (xn1 (xne_k hk9999y hk9999z32 (by decide)) (xn1 (xne_j hj9999z38 hj9999z55 (by first | decide | omega)) xn0))).trans (hF4.2.1 _ xn0))) (v_X10_set_33_3 (K := K) (F := F) a G G4 G13 x13 p0 p1 p2 p3 ha oq13 sb sw t4 t13 c20) (v_X10_set_33_4 (F := F) a G G13 ron rob ((hF13.2.1 _ (xn1 (xne_j hj9999z61 hj9999z53 (by first | decide | omega)) (xn1 (xne_k hk9999z38 hk9999z33 (by decide)) xn0))).trans (hF4.2.1 _ xn0)) ((hF13.2.1 _ (xn1 (xne_k hk9999z39 hk9999z32 (by decide)) (xn1 (xne_j hj9999z63 hj9999z55 (by first | decide | omega)) xn0))).trans (hF4.2.1 _ xn0))) (v_X10_set_33_5 (K := K) (F := F) a G G4 G13 x13 p0 p1 p2 p3 ha hk9999 hj9999 hk9999a hj9999a hk9999b hj9999b hk9999c hj9999c hk9999d hj9999d hk9999e hj9999e hk9999f hj9999f hk9999g hj9999g hk9999h hj9999i hk9999i hj9999k hk9999j hj9999m hk9999k hj9999o hk9999l hj9999q hk9999m hj9999s hk9999n hj9999t hk9999o hj9999u hk9999p hj9999w hk9999q hj9999z25 hk9999r hj9999z27 hk9999s hj9999z29 hk9999t hj9999z31 hk9999u hj9999z33 hk9999v hj9999z34 hk9999w hj9999z36 hk9999y hj9999z38 hk9999z25 hj9999z40 hk9999z26 hj9999z42 hk9999z27 hj9999z44 hk9999z28 hj9999z46 hk9999z29 hj9999z48 hk9999z30 hj9999z50 hk9999z31 hj9999z51 hk9999z32 hj9999z53 hk9999z33 hj9999z55 hk9999z34 hj9999z56 hk9999z35 hj9999z57 hk9999z36 hj9999z58 hk9999z37 hj9999z59 hk9999z38 hj9999z61 hk9999z39 hj9999z63 hF4 hF13 ron rob bko bkn oq13 sb sw t4 t13 c20 ((hF13.2.1 _ (xn1 (xne_k hk9999p hk9999z32 (by decide)) (xn1 (xne_k hk9999p hk9999z33 (by decide)) xn0))).trans (hF4.2.1 _ xn0)) ((hF13.2.1 _ (xn1 (xne_k hk9999q hk9999z32 (by decide)) (xn1 (xne_k hk9999q hk9999z33 (by decide)) xn0))).trans (hF4.2.1 _ xn0)) ((hF13.2.1 _ (xn1 (xne_k hk9999r hk9999z32 (by decide)) (xn1 (xne_k hk9999r hk9999z33 (by decide)) xn0))).trans (hF4.2.1 _ xn0)) ((hF13.2.1 _ (xn1 (xne_k hk9999s hk9999z32 (by decide)) (xn1 (xne_k hk9999s hk9999z33 (by decide)) xn0))).trans (hF4.2.1 _ xn0)) ((hF13.2.1 _ (xn1 (xne_k hk9999t hk9999z32 (by decide)) (xn1 (xne_k hk9999t hk9999z33 (by decide)) xn0))).trans (hF4.2.1 _ xn0)) ((hF13.2.1 _ (xn1 (xne_k hk9999u hk9999z32 (by decide)) (xn1 (xne_k hk9999u hk9999z33 (by decide)) xn0))).trans (hF4.2.1 _ xn0)) ((hF13.2.1 _ (xn1 (xne_k hk9999e hk9999z32 (by decide)) (xn1 (xne_j hj9999e hj9999z55 (by first | decide | omega)) xn0))).trans (hF4.2.1 _ xn0)) ((hF13.2.1 _ (xn1 (xne_k hk9999f hk9999z32 (by decide)) (xn1 (xne_j hj9999f hj9999z55 (by first | decide | omega)) xn0))).trans (hF4.2.1 _ xn0)) ((hF13.2.1 _ (xn1 (xne_k hk9999g hk9999z32 (by decide)) (xn1 (xne_k hk9999g hk9999z33 (by decide)) xn0))).trans (hF4.2.1 _ xn0)) ((hF13.2.1 _ (xn1 (xne_j hj9999z36 hj9999z53 (by first | decide | omega)) (xn1 (xne_k hk9999w hk9999z33 (by decide)) xn0))).trans (hF4.2.1 _ xn0)) ((hF13.2.1 _ (xn1 (xne_k hk9999y hk9999z32 (by decide)) (xn1 (xne_j hj9999z38 hj9999z55 (by first | decide | omega)) xn0))).trans (hF4.2.1 _ xn0)) ((hF13.2.1 _ (xn1 (xne_k hk9999z25 hk9999z32 (by decide)) (xn1 (xne_k hk9999z25 hk9999z33 (by decide)) xn0))).trans (hF4.2.1 _ xn0)) ((hF13.2.1 _ (xn1 (xne_k hk9999z26 hk9999z32 (by decide)) (xn1 (xne_k hk9999z26 hk9999z33 (by decide)) xn0))).trans (hF4.2.1 _ xn0)) ((hF13.2.1 _ (xn1 (xne_k hk9999z27 hk9999z32 (by decide)) (xn1 (xne_k hk9999z27 hk9999z33 (by decide)) xn0))).trans (hF4.2.1 _ xn0)) ((hF13.2.1 _ (xn1 (xne_k hk9999z28 hk9999z32 (by decide)) (xn1 (xne_k hk9999z28 hk9999z33 (by decide)) xn0))).trans (hF4.2.1 _ xn0)) ((hF13.2.1 _ (xn1 (xne_k hk9999z29 hk9999z32 (by decide)) (xn1 (xne_k hk9999z29 hk9999z33 (by decide)) xn0))).trans (hF4.2.1 _ xn0)) ((hF13.2.1 _ (xn1 (xne_k hk9999z30 hk9999z32 (by decide)) (xn1 (xne_k hk9999z30 hk9999z33 (by decide)) xn0))).trans (hF4.2.1 _ xn0)) ((hF13.2.1 _ (xn1 (xne_k hk9999h hk9999z32 (by decide)) (xn1 (xne_k hk9999h hk9999z33 (by decide)) xn0))).trans (hF4.2.1 _ xn0)) ((hF13.2.1 _ (xn1 (xne_k hk9999i hk9999z32 (by decide)) (xn1 (xne_k hk9999i hk9999z33 (by decide)) xn0))).trans (hF4.2.1 _ xn0)) ((hF13.2.1 _ (xn1 (xne_k hk9999j hk9999z32 (by decide)) (xn1 (xne_k hk9999j hk9999z33 (by decide)) xn0))).trans (hF4.2.1 _ xn0)) ((hF13.2.1 _ (xn1 (xne_k hk9999k hk9999z32 (by decide)) (xn1 (xne_k hk9999k hk9999z33 (by decide)) xn0))).trans (hF4.2.1 _ xn0)) ((hF13.2.1 _ (xn1 (xne_k hk9999l hk9999z32 (by decide)) (xn1 (xne_k hk9999l hk9999z33 (by decide)) xn0))).trans (hF4.2.1 _ xn0)) ((hF13.2.1 _ (xn1 (xne_k hk9999m hk9999z32 (by decide)) (xn1 (xne_k hk9999m hk9999z33 (by decide)) xn0))).trans (hF4.2.1 _ xn0)) ((hF13.2.1 _ (xn1 (xne_k hk9999o hk9999z32 (by decide)) (xn1 (xne_k hk9999o hk9999z33 (by decide)) xn0))).trans (hF4.2.1 _ xn0)) ((hF13.2.1 _ (xn1 (xne_k hk9999n hk9999z32 (by decide)) (xn1 (xne_k hk9999n hk9999z33 (by decide)) xn0))).trans (hF4.2.1 _ xn0)) ((hF13.2.2 _ xn0).trans (hF4.2.2 _ xn0)) ((hF13.1 _ _ xn0).trans (hF4.1 _ _ (xnj (by decide) xn0))) ((hF13.1 _ _ xn0).trans (hF4.1 _ _ (xnj (by decide) xn0))) (hF13.1 _ _ xn0) ((hF13.1 _ _ xn0).trans (hF4.1 _ _ (xnj (by decide) xn0))) ((hF13.1 _ _ xn0).trans (hF4.1 _ _ (xnj (by decide) xn0))) ((hF13.1 _ _ xn0).trans (hF4.1 _ _ (xnj (by decide) xn0))) ((hF13.1 _ _ xn0).trans (hF4.1 _ _ (xnj (by decide) xn0)))) (v_X10_set_33_6 (K := K) (F := F) a G G4 G13 x13 p0 p1 p2 p3 ha hk9999 hj9999 hk9999a hj9999a hk9999b hj9999b hk9999c hj9999c hk9999d hj9999d hk9999e hj9999e hk9999f hj9999f hk9999g hj9999g hk9999h hj9999i hk9999i hj9999k hk9999j hj9999m hk9999k hj9999o hk9999l hj9999q hk9999m hj9999s hk9999n hj9999t hk9999o hj9999u hk9999p hj9999w hk9999q hj9999z25 hk9999r hj9999z27 hk9999s hj9999z29 hk9999t hj9999z31 hk9999u hj9999z33 hk9999v hj9999z34 hk9999w hj9999z36 hk9999y hj9999z38 hk9999z25 hj9999z40 hk9999z26 hj9999z42 hk9999z27 hj9999z44 hk9999z28 hj9999z46 hk9999z29 hj9999z48 hk9999z30 hj9999z50 hk9999z31 hj9999z51 hk9999z32 hj9999z53 hk9999z33 hj9999z55 hk9999z34 hj9999z56 hk9999z35 hj9999z57 hk9999z36 hj9999z58 hk9999z37 hj9999z59 hk9999z38 hj9999z61 hk9999z39 hj9999z63 hF4 hF13 ron rob bko bkn oq13 sb sw t4 t13 c20 ((hF13.2.1 _ (xn1 (xne_k hk9999p hk9999z32 (by decide)) (xn1 (xne_k hk9999p hk9999z33 (by decide)) xn0))).trans (hF4.2.1 _ xn0)) ((hF13.2.1 _ (xn1 (xne_k hk9999q hk9999z32 (by decide)) (xn1 (xne_k hk9999q hk9999z33 (by decide)) xn0))).trans (hF4.2.1 _ xn0)) ((hF13.2.1 _ (xn1 (xne_k hk9999r hk9999z32 (by decide)) (xn1 (xne_k hk9999r hk9999z33 (by decide)) xn0))).trans (hF4.2.1 _ xn0)) ((hF13.2.1 _ (xn1 (xne_k hk9999s hk9999z32 (by decide)) (xn1 (xne_k hk9999s hk9999z33 (by decide)) xn0))).trans (hF4.2.1 _ xn0)) ((hF13.2.1 _ (xn1 (xne_k hk9999t hk9999z32 (by decide)) (xn1 (xne_k hk9999t hk9999z33 (by decide)) xn0))).trans (hF4.2.1 _ xn0)) ((hF13.2.1 _ (xn1 (xne_k hk9999u hk9999z32 (by decide)) (xn1 (xne_k hk9999u hk9999z33 (by decide)) xn0))).trans (hF4.2.1 _ xn0)) ((hF13.2.1 _ (xn1 (xne_k hk9999e hk9999z32 (by decide)) (xn1 (xne_j hj9999e hj9999z55 (by first | decide | omega)) xn0))).trans (hF4.2.1 _ xn0)) ((hF13.2.1 _ (xn1 (xne_k hk9999f hk9999z32 (by decide)) (xn1 (xne_j hj9999f hj9999z55 (by first | decide | omega)) xn0))).trans (hF4.2.1 _ xn0)) ((hF13.2.1 _ (xn1 (xne_k hk9999g hk9999z32 (by decide)) (xn1 (xne_k hk9999g hk9999z33 (by decide)) xn0))).trans (hF4.2.1 _ xn0)) ((hF13.2.1 _ (xn1 (xne_j hj9999z36 hj9999z53 (by first | decide | omega)) (xn1 (xne_k hk9999w hk9999z33 (by decide)) xn0))).trans (hF4.2.1 _ xn0)) ((hF13.2.1 _ (xn1 (xne_k hk9999y hk9999z32 (by decide)) (xn1 (xne_j hj9999z38 hj9999z55 (by first | decide | omega)) xn0))).trans (hF4.2.1 _ xn0)) ((hF13.2.1 _ (xn1 (xne_k hk9999z25 hk9999z32 (by decide)) (xn1 (xne_k hk9999z25 hk9999z33 (by decide)) xn0))).trans (hF4.2.1 _ xn0)) ((hF13.2.1 _ (xn1 (xne_k hk9999z26 hk9999z32 (by decide)) (xn1 (xne_k hk9999z26 hk9999z33 (by decide)) xn0))).trans (hF4.2.1 _ xn0)) ((hF13.2.1 _ (xn1 (xne_k hk9999z27 hk9999z32 (by decide)) (xn1 (xne_k hk9999z27 hk9999z33 (by decide)) xn0))).trans (hF4.2.1 _ xn0)) ((hF13.2.1 _ (xn1 (xne_k hk9999z28 hk9999z32 (by decide)) (xn1 (xne_k hk9999z28 hk9999z33 (by decide)) xn0))).trans (hF4.2.1 _ xn0)) ((hF13.2.1 _ (xn1 (xne_k hk9999z29 hk9999z32 (by decide)) (xn1 (xne_k hk9999z29 hk9999z33 (by decide)) xn0))).trans (hF4.2.1 _ xn0)) ((hF13.2.1 _ (xn1 (xne_k hk9999z30 hk9999z32 (by decide)) (xn1 (xne_k hk9999z30 hk9999z33 (by decide)) xn0))).trans (hF4.2.1 _ xn0)) ((hF13.2.1 _ (xn1 (xne_k hk9999h hk9999z32 (by decide)) (xn1 (xne_k hk9999h hk9999z33 (by decide)) xn0))).trans (hF4.2.1 _ xn0)) ((hF13.2.1 _ (xn1 (xne_k hk9999i hk9999z32 (by decide)) (xn1 (xne_k hk9999i hk9999z33 (by decide)) xn0))).trans (hF4.2.1 _ xn0)) ((hF13.2.1 _ (xn1 (xne_k hk9999j hk9999z32 (by decide)) (xn1 (xne_k hk9999j hk9999z33 (by decide)) xn0))).trans (hF4.2.1 _ xn0)) ((hF13.2.1 _ (xn1 (xne_k hk9999k hk9999z32 (by decide)) (xn1 (xne_k hk9999k hk9999z33 (by decide)) xn0))).trans (hF4.2.1 _ xn0)) ((hF13.2.1 _ (xn1 (xne_k hk9999l hk9999z32 (by decide)) (xn1 (xne_k hk9999l hk9999z33 (by decide)) xn0))).trans (hF4.2.1 _ xn0)) ((hF13.2.1 _ (xn1 (xne_k hk9999m hk9999z32 (by decide)) (xn1 (xne_k hk9999m hk9999z33 (by decide)) xn0))).trans (hF4.2.1 _ xn0)) ((hF13.2.1 _ (xn1 (xne_k hk9999o hk9999z32 (by decide)) (xn1 (xne_k hk9999o hk9999z33 (by decide)) xn0))).trans (hF4.2.1 _ xn0)) ((hF13.2.1 _ (xn1 (xne_k hk9999n hk9999z32 (by decide)) (xn1 (xne_k hk9999n hk9999z33 (by decide)) xn0))).trans (hF4.2.1 _ xn0)) ((hF13.2.2 _ xn0).trans (hF4.2.2 _ xn0)) ((hF13.2.2 _ xn0).trans (hF4.2.2 _ xn0)) ((hF13.1 _ _ xn0).trans (hF4.1 _ _ (xnj (by decide) xn0))) ((hF13.1 _ _ xn0).trans (hF4.1 _ _ (xnj (by decide) xn0))) (hF13.1 _ _ xn0) ((hF13.1 _ _ xn0).trans (hF4.1 _ _ (xnj (by decide) xn0))) ((hF13.1 _ _ xn0).trans (hF4.1 _ _ (xnj (by decide) xn0))) ((hF13.1 _ _ xn0).trans (hF4.1 _ _ (xnj (by decide) xn0))) ((hF13.1 _ _ xn0).trans (hF4.1 _ _ (xnj (by decide) xn0))))) mv_X10_actAsOnPaper km_X10_207 rfl rfl ⟨Nat.le_of_ble_eq_true rfl, Nat.le_of_ble_eq_true rfl⟩ (rc_12 hK hT ha) hK (fun _ => XP.blind) (fun U hU hW => XP.at hK hz hS hT hU hW) rfl hl.1 (Nat.le_of_ble_eq_true rfl) dX10_set_33 ⟨Nat.le_of_ble_eq_true rfl, Nat.le_of_ble_eq_true rfl⟩) hS ?_
    rintro _ G33 H locs ⟨x33, rfl, hF33, t33, oq33, oq33a⟩ hT hS
    have t33 : 0 ≤ ((G33.1 (F a 8) 6).toInt) ∧ ((G33.1 (F a 8) 6).toInt) ≤ 1080 := t33
    have oq33 : ActR ((G.1 a 18).toInt) x33.toInt (gaL G13 (G13.2.2.1 (F (F a 2) 1)) (vw (G.2.1 (F (F a 3) 0))) (vw (G13.2.1 (F (F a 5) 0))) 0 (((G.1 (F a 2) 2).toInt)).toNat) (vw (G.2.1 (F (F a 3) 0))) (vw (G33.2.1 (F (F a 3) 0))) (vw (G13.2.1 (F (F a 5) 0))) (qL G13 F (F a 8)) (qL G33 F (F a 8)) (gaL G13 (G13.2.2.1 (F (F a 2) 1)) (vw (G.2.1 (F (F a 4) 0))) (vw (G13.2.1 (F (F a 5) 0))) 1 (((G.1 (F a 2) 2).toInt)).toNat) := by simp only [(show G13.1 a 18 = G.1 a 18 from ((hF13.1 _ _ xn0).trans (hF4.1 _ _ (xnj (by decide) xn0)))), (show G13.2.1 (F (F a 3) 0) = G.2.1 (F (F a 3) 0) from ((hF13.2.1 _ (xn1 (xne_j hj9999z36 hj9999z53 (by first | decide | omega)) (xn1 (xne_k hk9999w hk9999z33 (by decide)) xn0))).trans (hF4.2.1 _ xn0))), (show G13.1 (F a 2) 2 = G.1 (F a 2) 2 from ((hF13.1 _ _ xn0).trans (hF4.1 _ _ (xnj (by decide) xn0)))), (show G13.2.1 (F (F a 4) 0) = G.2.1 (F (F a 4) 0) from ((hF13.2.1 _ (xn1 (xne_j hj9999z61 hj9999z53 (by first | decide | omega)) (xn1 (xne_k hk9999z38 hk9999z33 (by decide)) xn0))).trans (hF4.2.1 _ xn0)))] at oq33; exact oq33
    exact x_ri hx hb hr hlk hQ (Nat.le_of_ble_eq_true rfl) (Nat.le_of_ble_eq_true rfl) hS dX10_set_36 G33 ⟨_, rfl, (XFr.call (XFr.call (XFr.call XFr.rf hF4 (xm1 2 rfl xm0) xm0 xm0) hF13 xm0 (xm1 25 rfl (xm1 26 rfl xm0)) xm0) hF33 (xm1 0 rfl (xm1 1 rfl (xm1 2 rfl (xm1 3 rfl (xm1 4 rfl (xm1 5 rfl (xm1 6 rfl xm0))))))) (xm1 0 rfl (xm1 1 rfl (xm1 2 rfl (xm1 3 rfl (xm1 4 rfl (xm1 5 rfl (xm1 6 rfl (xm1 7 rfl (xm1 8 rfl (xm1 9 rfl (xm1 10 rfl (xm1 11 rfl (xm1 12 rfl (xm1 13 rfl (xm1 14 rfl (xm1 15 rfl (xm1 16 rfl (xm1 17 rfl (xm1 18 rfl (xm1 19 rfl (xm1 20 rfl (xm1 21 rfl (xm1 22 rfl (xm1 23 rfl (xm1 24 rfl xm0))))))))))))))))))))))))) xm0), (t33), (v_X10_set_36_7 (K := K) (F := F) a G G4 G13 G33 x13 p0 p1 p2 p3 x33 ha hk9999 hj9999 hk9999a hj9999a hk9999b hj9999b hk9999c hj9999c hk9999d hj9999d hk9999e hj9999e hk9999f hj9999f hk9999g hj9999g hk9999h hj9999i hk9999i hj9999k hk9999j hj9999m hk9999k hj9999o hk9999l hj9999q hk9999m hj9999s hk9999n hj9999t hk9999o hj9999u hk9999p hj9999w hk9999q hj9999z25 hk9999r hj9999z27 hk9999s hj9999z29 hk9999t hj9999z31 hk9999u hj9999z33 hk9999v hj9999z34 hk9999w hj9999z36 hk9999y hj9999z38 hk9999z25 hj9999z40 hk9999z26 hj9999z42 hk9999z27 hj9999z44 hk9999z28 hj9999z46 hk9999z29 hj9999z48 hk9999z30 hj9999z50 hk9999z31 hj9999z51 hk9999z32 hj9999z53 hk9999z33 hj9999z55 hk9999z34 hj9999z56 hk9999z35 hj9999z57 hk9999z36 hj9999z58 hk9999z37 hj9999z59 hk9999z38 hj9999z61 hk9999z39 hj9999z63 hF4 hF13 bko oq13 oq33 sb sw t4 t13 c20 t33 ((hF13.2.1 _ (xn1 (xne_k hk9999z25 hk9999z32 (by decide)) (xn1 (xne_k hk9999z25 hk9999z33 (by decide)) xn0))).trans (hF4.2.1 _ xn0)) ((hF13.2.1 _ (xn1 (xne_k hk9999z26 hk9999z32 (by decide)) (xn1 (xne_k hk9999z26 hk9999z33 (by decide)) xn0))).trans (hF4.2.1 _ xn0)) ((hF13.2.1 _ (xn1 (xne_k hk9999z27 hk9999z32 (by decide)) (xn1 (xne_k hk9999z27 hk9999z33 (by decide)) xn0))).trans (hF4.2.1 _ xn0)) ((hF13.2.1 _ (xn1 (xne_k hk9999z28 hk9999z32 (by decide)) (xn1 (xne_k hk9999z28 hk9999z33 (by decide)) xn0))).trans (hF4.2.1 _ xn0)) ((hF13.2.1 _ (xn1 (xne_k hk9999z29 hk9999z32 (by decide)) (xn1 (xne_k hk9999z29 hk9999z33 (by decide)) xn0))).trans (hF4.2.1 _ xn0)) ((hF13.2.1 _ (xn1 (xne_k hk9999z30 hk9999z32 (by decide)) (xn1 (xne_k hk9999z30 hk9999z33 (by decide)) xn0))).trans (hF4.2.1 _ xn0)) ((hF13.2.2 _ xn0).trans (hF4.2.2 _ xn0)) ((hF13.1 _ _ xn0).trans (hF4.1 _ _ (xnj (by decide) xn0)))), (v_X10_set_36_8 (F := F) a G G33 ron oq33a)⟩ hT
  · refine lv_aload_n hx hb dX10_set_23 rfl (lv_at hl 1 rfl) ?_
    refine lv_iload hx hb dX10_set_24 (lv_at hl 0 rfl) ?_
    refine x_cl0 (x_runV (b := a) (As := [.int x13]) (rest := []) S (c_X10_refuseAct l E K F G13 a x13 ha) mv_X10_refuseAct km_X10_188 rfl rfl ⟨Nat.le_of_ble_eq_true rfl, Nat.le_of_ble_eq_true rfl⟩ (rc_12 hK hT ha) hK (fun _ => XP.blind) (fun U hU hW => XP.at hK hz hS hT hU hW) rfl hl.1 (Nat.le_of_ble_eq_true rfl) dX10_set_26 ⟨Nat.le_of_ble_eq_true rfl, Nat.le_of_ble_eq_true rfl⟩) hS ?_
    rintro _ G26 H locs ⟨x26, rfl, hF26, t26⟩ hT hS
    have t26 : x26.toInt = x13.toInt := t26
    refine lv_goto (tgt := 36) hx hb dX10_set_29 (by decide) ?_
    exact x_ri hx hb hr hlk hQ (Nat.le_of_ble_eq_true rfl) (Nat.le_of_ble_eq_true rfl) hS dX10_set_36 G26 ⟨_, rfl, (XFr.call (XFr.call (XFr.call XFr.rf hF4 (xm1 2 rfl xm0) xm0 xm0) hF13 xm0 (xm1 25 rfl (xm1 26 rfl xm0)) xm0) hF26 xm0 (xm1 10 rfl xm0) xm0), (by rw [(show (G26.1 (F a 8) 6).toInt = ((G.1 (F a 8) 6).toInt) from (congrArg Int32.toInt ((hF26.1 _ _ xn0).trans ((hF13.1 _ _ xn0).trans (hF4.1 _ _ (xnj (by decide) xn0))))).trans (rfl : Int32.toInt (G.1 (F a 8) 6) = ((G.1 (F a 8) 6).toInt)))] <;> exact (sw)), (by rw [(t26 : Int32.toInt x26 = x13.toInt)] <;> exact (v_X10_set_36_9 (K := K) (F := F) a G G4 G13 G26 x13 p0 p1 p2 p3 ha hk9999 hj9999 hk9999a hj9999a hk9999b hj9999b hk9999c hj9999c hk9999d hj9999d hk9999e hj9999e hk9999f hj9999f hk9999g hj9999g hk9999h hj9999i hk9999i hj9999k hk9999j hj9999m hk9999k hj9999o hk9999l hj9999q hk9999m hj9999s hk9999n hj9999t hk9999o hj9999u hk9999p hj9999w hk9999q hj9999z25 hk9999r hj9999z27 hk9999s hj9999z29 hk9999t hj9999z31 hk9999u hj9999z33 hk9999v hj9999z34 hk9999w hj9999z36 hk9999y hj9999z38 hk9999z25 hj9999z40 hk9999z26 hj9999z42 hk9999z27 hj9999z44 hk9999z28 hj9999z46 hk9999z29 hj9999z48 hk9999z30 hj9999z50 hk9999z31 hj9999z51 hk9999z32 hj9999z53 hk9999z33 hj9999z55 hk9999z34 hj9999z56 hk9999z35 hj9999z57 hk9999z36 hj9999z58 hk9999z37 hj9999z59 hk9999z38 hj9999z61 hk9999z39 hj9999z63 hF4 hF13 bko oq13 sb sw t4 t13 c20 ((hF13.2.1 _ (xn1 (xne_k hk9999z25 hk9999z32 (by decide)) (xn1 (xne_k hk9999z25 hk9999z33 (by decide)) xn0))).trans (hF4.2.1 _ xn0)) ((hF13.2.1 _ (xn1 (xne_k hk9999z26 hk9999z32 (by decide)) (xn1 (xne_k hk9999z26 hk9999z33 (by decide)) xn0))).trans (hF4.2.1 _ xn0)) ((hF13.2.1 _ (xn1 (xne_k hk9999z27 hk9999z32 (by decide)) (xn1 (xne_k hk9999z27 hk9999z33 (by decide)) xn0))).trans (hF4.2.1 _ xn0)) ((hF13.2.1 _ (xn1 (xne_k hk9999z28 hk9999z32 (by decide)) (xn1 (xne_k hk9999z28 hk9999z33 (by decide)) xn0))).trans (hF4.2.1 _ xn0)) ((hF13.2.1 _ (xn1 (xne_k hk9999z29 hk9999z32 (by decide)) (xn1 (xne_k hk9999z29 hk9999z33 (by decide)) xn0))).trans (hF4.2.1 _ xn0)) ((hF13.2.1 _ (xn1 (xne_k hk9999z30 hk9999z32 (by decide)) (xn1 (xne_k hk9999z30 hk9999z33 (by decide)) xn0))).trans (hF4.2.1 _ xn0)) ((hF26.2.1 _ (xn1 (xne_k hk9999w hk9999o (by decide)) xn0)).trans ((hF13.2.1 _ (xn1 (xne_j hj9999z36 hj9999z53 (by first | decide | omega)) (xn1 (xne_k hk9999w hk9999z33 (by decide)) xn0))).trans (hF4.2.1 _ xn0))) ((hF26.2.1 _ (xn1 (xne_k hk9999z25 hk9999o (by decide)) xn0)).trans ((hF13.2.1 _ (xn1 (xne_k hk9999z25 hk9999z32 (by decide)) (xn1 (xne_k hk9999z25 hk9999z33 (by decide)) xn0))).trans (hF4.2.1 _ xn0))) ((hF26.2.1 _ (xn1 (xne_k hk9999z26 hk9999o (by decide)) xn0)).trans ((hF13.2.1 _ (xn1 (xne_k hk9999z26 hk9999z32 (by decide)) (xn1 (xne_k hk9999z26 hk9999z33 (by decide)) xn0))).trans (hF4.2.1 _ xn0))) ((hF26.2.1 _ (xn1 (xne_k hk9999z27 hk9999o (by decide)) xn0)).trans ((hF13.2.1 _ (xn1 (xne_k hk9999z27 hk9999z32 (by decide)) (xn1 (xne_k hk9999z27 hk9999z33 (by decide)) xn0))).trans (hF4.2.1 _ xn0))) ((hF26.2.1 _ (xn1 (xne_k hk9999z28 hk9999o (by decide)) xn0)).trans ((hF13.2.1 _ (xn1 (xne_k hk9999z28 hk9999z32 (by decide)) (xn1 (xne_k hk9999z28 hk9999z33 (by decide)) xn0))).trans (hF4.2.1 _ xn0))) ((hF26.2.1 _ (xn1 (xne_k hk9999z29 hk9999o (by decide)) xn0)).trans ((hF13.2.1 _ (xn1 (xne_k hk9999z29 hk9999z32 (by decide)) (xn1 (xne_k hk9999z29 hk9999z33 (by decide)) xn0))).trans (hF4.2.1 _ xn0))) ((hF26.2.1 _ (xn1 (xne_k hk9999z30 hk9999o (by decide)) xn0)).trans ((hF13.2.1 _ (xn1 (xne_k hk9999z30 hk9999z32 (by decide)) (xn1 (xne_k hk9999z30 hk9999z33 (by decide)) xn0))).trans (hF4.2.1 _ xn0))) ((hF13.2.2 _ xn0).trans (hF4.2.2 _ xn0)) ((hF13.1 _ _ xn0).trans (hF4.1 _ _ (xnj (by decide) xn0))) ((hF26.1 _ _ xn0).trans ((hF13.1 _ _ xn0).trans (hF4.1 _ _ (xnj (by decide) xn0)))))), (v_X10_set_36_10 (F := F) a G G26 ron ((hF26.2.1 _ (xn1 (xne_k hk9999w hk9999o (by decide)) xn0)).trans ((hF13.2.1 _ (xn1 (xne_j hj9999z36 hj9999z53 (by first | decide | omega)) (xn1 (xne_k hk9999w hk9999z33 (by decide)) xn0))).trans (hF4.2.1 _ xn0))) ((hF26.2.1 _ (xn1 (xne_k hk9999y hk9999o (by decide)) xn0)).trans ((hF13.2.1 _ (xn1 (xne_k hk9999y hk9999z32 (by decide)) (xn1 (xne_j hj9999z38 hj9999z55 (by first | decide | omega)) xn0))).trans (hF4.2.1 _ xn0))))⟩ hT
