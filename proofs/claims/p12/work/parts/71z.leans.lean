/-! ===== who leans on whom: what was reached ===== -/
def inR (u k : Int) : Prop := (0 ≤ u ∧ u < 3) ∧ (0 ≤ k ∧ k < 30)
/-- the row (u, k) refers to the row (t, j) by one of the first n rules: the class's list, the reference's numbers -/
def lnC (G : XG) (b : Nat → Option Nat) (r : Int → Int) (n u k t j : Int) : Prop := ∃ i q : Nat, (i : Int) < n ∧ b i = some q ∧ (G.1 q 0).toInt = 1 ∧ (G.1 q 4).toInt = t ∧ (G.1 q 2).toInt = u ∧ cel r u k (G.1 q 3).toInt = j
def lnM (f : Nat → Int32) (r : Int → Int) (n u k t j : Int) : Prop := ∃ q : Int, (0 ≤ q ∧ q < n) ∧ aI f (10 * q + 0) = 1 ∧ aI f (10 * q + 3) = t ∧ aI f (10 * q + 1) = u ∧ cel r u k (aI f (10 * q + 2)) = j
/-- all that one comes to from (t, j); the same, one step at least -/
def RCH (L : Int → Int → Int → Int → Prop) (t j u k : Int) : Prop := ∀ S : Int → Int → Prop, S t j → (∀ u k t2 j2 : Int, inR u k → S t2 j2 → L u k t2 j2 → S u k) → S u k
def RC1 (L : Int → Int → Int → Int → Prop) (t j u k : Int) : Prop := ∀ S : Int → Int → Prop, (∀ u k : Int, inR u k → L u k t j → S u k) → (∀ u k t2 j2 : Int, inR u k → S t2 j2 → L u k t2 j2 → S u k) → S u k
theorem RCH.self (L : Int → Int → Int → Int → Prop) (t j : Int) : RCH L t j t j := fun _ h _ => h
theorem RCH.go {L : Int → Int → Int → Int → Prop} {t j u k t2 j2 : Int} (h : RCH L t j t2 j2) (hi : inR u k) (hl : L u k t2 j2) : RCH L t j u k := fun S h0 h1 => h1 u k t2 j2 hi (h S h0 h1) hl
theorem RC1.one {L : Int → Int → Int → Int → Prop} {t j u k : Int} (hi : inR u k) (hl : L u k t j) : RC1 L t j u k := fun _ h0 _ => h0 u k hi hl
theorem RC1.go {L : Int → Int → Int → Int → Prop} {t j u k t2 j2 : Int} (h : RC1 L t j t2 j2) (hi : inR u k) (hl : L u k t2 j2) : RC1 L t j u k := fun S h0 h1 => h1 u k t2 j2 hi (h S h0 h1) hl
theorem RC1.rch {L : Int → Int → Int → Int → Prop} {t j u k : Int} (h : RC1 L t j u k) : RCH L t j u k := fun S h0 h1 => h S (fun u k hi hl => h1 u k t j hi h0 hl) h1
theorem RCH.rc1 {L : Int → Int → Int → Int → Prop} {t j u k : Int} (h : RCH L t j u k) : (u = t ∧ k = j) ∨ RC1 L t j u k := h (fun u k => (u = t ∧ k = j) ∨ RC1 L t j u k) (Or.inl ⟨rfl, rfl⟩) (fun u k t2 j2 hi hs hl => by
  rcases hs with ⟨e1, e2⟩ | hs
  · subst e1 e2; exact Or.inr (RC1.one hi hl)
  · exact Or.inr (hs.go hi hl))
theorem RCH.cg {L M : Int → Int → Int → Int → Prop} {t j u k : Int} (h : RCH L t j u k) (e : ∀ u k t2 j2 : Int, L u k t2 j2 → M u k t2 j2) : RCH M t j u k := fun S h0 h1 => h S h0 (fun u k t2 j2 hi hs hl => h1 u k t2 j2 hi hs (e u k t2 j2 hl))
/-- the bits b, the list (x, y) of n rows: the same rows, each once -/
def LIv (b x y : Int → Int) (n : Int) : Prop := n = toB b 3 ∧ (∀ z : Int, 0 ≤ z → z < n → inR (x z) (y z) ∧ bI (b (x z)) (y z) = 1) ∧ ∀ u k : Int, inR u k → bI (b u) k = 1 → ∃ z : Int, 0 ≤ z ∧ z < n ∧ x z = u ∧ y z = k
def LGo (b x y : Int → Int) (n : Int) (b2 x2 y2 : Int → Int) (n2 : Int) (P : Int → Int → Prop) : Prop := LIv b2 x2 y2 n2 ∧ n ≤ n2 ∧ (∀ z : Int, 0 ≤ z → z < n → x2 z = x z ∧ y2 z = y z) ∧ ∀ u k : Int, inR u k → (bI (b2 u) k = 1 ↔ bI (b u) k = 1 ∨ P u k)
theorem toB_3 (b : Int → Int) : toB b 3 = szB b 0 + szB b 1 + szB b 2 := by
  show 0 + szB b ((0 : Nat) : Int) + szB b ((1 : Nat) : Int) + szB b ((2 : Nat) : Int) = _
  show 0 + szB b 0 + szB b 1 + szB b 2 = _
  omega
theorem bsm_lt {f : Int → Int} {i : Nat} : ∀ n : Nat, (∀ k : Nat, k < n → f k = 0 ∨ f k = 1) → i < n → f i = 0 → bsm f n ≤ (n : Int) - 1
  | 0, _, hi, _ => absurd hi (Nat.not_lt_zero i)
  | n + 1, h, hi, h0 => by
    have hn := h n (by omega)
    show bsm f n + f n ≤ ((n + 1 : Nat) : Int) - 1
    by_cases e : i = n
    · subst e
      have := (bsm_b i (fun k hk => h k (by omega))).2
      omega
    · have := bsm_lt n (fun k hk => h k (by omega)) (by omega) h0
      omega
theorem bsm_set {f g : Int → Int} {i : Nat} : ∀ n : Nat, i < n → f i = 0 → g i = 1 → (∀ k : Nat, k < n → k ≠ i → g k = f k) → bsm g n = bsm f n + 1
  | 0, hi, _, _, _ => absurd hi (Nat.not_lt_zero i)
  | n + 1, hi, h0, h1, h => by
    show bsm g n + g n = bsm f n + f n + 1
    by_cases e : i = n
    · subst e
      have := bsm_cg (f := g) (g := f) i (fun k hk => h k (by omega) (by omega))
      omega
    · have h2 := bsm_set n (by omega) h0 h1 (fun k hk hne => h k (by omega) hne)
      have h3 := h n (by omega) (fun q => e q.symm)
      omega
theorem LIv.b {b x y : Int → Int} {n : Int} (h : LIv b x y n) : 0 ≤ n ∧ n ≤ 90 := by
  have e := h.1
  rw [toB_3] at e
  have h0 := szB_b b 0
  have h1 := szB_b b 1
  have h2 := szB_b b 2
  omega
theorem szB_lt {b : Int → Int} {u k : Int} (hk : 0 ≤ k ∧ k < 30) (h0 : bI (b u) k = 0) : szB b u ≤ 29 := by
  have e : ((k.toNat : Nat) : Int) = k := by omega
  have h := bsm_lt (f := bI (b u)) (i := k.toNat) 30 (fun k _ => bI01 (b u) k) (by omega) (by rw [e]; exact h0)
  exact h
theorem LIv.lt {b x y : Int → Int} {n u k : Int} (h : LIv b x y n) (hi : inR u k) (h0 : bI (b u) k = 0) : n ≤ 89 := by
  have e := h.1
  rw [toB_3] at e
  have q := szB_lt hi.2 h0
  have h0 := szB_b b 0
  have h1 := szB_b b 1
  have h2 := szB_b b 2
  have hu : u = 0 ∨ u = 1 ∨ u = 2 := by have := hi.1; omega
  rcases hu with g | g | g <;> rw [g] at q <;> omega
theorem LIv_0 {b x y : Int → Int} {n : Int} (hb : ∀ t : Int, 0 ≤ t → t < 3 → b t = 0) (hn : n = 0) : LIv b x y n := by
  have z : ∀ t : Int, 0 ≤ t → t < 3 → szB b t = 0 := fun t h0 h1 => by
    unfold szB
    rw [hb t h0 h1]
    have e := bsm_cg (f := bI 0) (g := fun _ => 0) 30 (fun k _ => bI_0 _)
    rw [e]
    rfl
  refine ⟨?_, fun z0 h0 h1 => by omega, fun u k hi h1 => ?_⟩
  · rw [toB_3, z 0 (by decide) (by decide), z 1 (by decide) (by decide), z 2 (by decide) (by decide), hn]
    rfl
  · rw [hb u hi.1.1 hi.1.2, bI_0] at h1
    exact absurd h1 (by decide)
theorem LGo_same {b x y : Int → Int} {n : Int} {P : Int → Int → Prop} (h : LIv b x y n) (hp : ∀ u k : Int, inR u k → P u k → bI (b u) k = 1) : LGo b x y n b x y n P := ⟨h, Int.le_refl n, fun _ _ _ => ⟨rfl, rfl⟩, fun u k hi => ⟨Or.inl, fun q => q.elim id (hp u k hi)⟩⟩
theorem LGo.tr {b x y b2 x2 y2 b3 x3 y3 : Int → Int} {n n2 n3 : Int} {P Q R : Int → Int → Prop} (h : LGo b x y n b2 x2 y2 n2 P) (g : LGo b2 x2 y2 n2 b3 x3 y3 n3 Q) (hR : ∀ u k : Int, inR u k → (R u k ↔ P u k ∨ Q u k)) : LGo b x y n b3 x3 y3 n3 R := by
  obtain ⟨h1, h2, h3, h4⟩ := h
  obtain ⟨g1, g2, g3, g4⟩ := g
  refine ⟨g1, Int.le_trans h2 g2, fun z z0 z1 => ?_, fun u k hi => ?_⟩
  · have a := h3 z z0 z1
    have c := g3 z z0 (by omega)
    exact ⟨c.1.trans a.1, c.2.trans a.2⟩
  · rw [g4 u k hi, h4 u k hi, hR u k hi, or_assoc]
theorem LGo.cg {b x y b2 x2 y2 : Int → Int} {n n2 : Int} {P Q : Int → Int → Prop} (h : LGo b x y n b2 x2 y2 n2 P) (e : ∀ u k : Int, inR u k → (Q u k ↔ P u k)) : LGo b x y n b2 x2 y2 n2 Q := ⟨h.1, h.2.1, h.2.2.1, fun u k hi => by rw [h.2.2.2 u k hi, e u k hi]⟩
theorem LGo_add {b x y b2 x2 y2 : Int → Int} {n n2 u k : Int} (h : LIv b x y n) (hi : inR u k) (h0 : bI (b u) k = 0) (hn : n2 = n + 1) (hb : ∀ t : Int, 0 ≤ t → t ≠ u → b2 t = b t) (hb2 : ∀ j : Int, 0 ≤ j → j < 32 → bI (b2 u) j = if j = k then 1 else bI (b u) j) (hx : ∀ z : Int, 0 ≤ z → x2 z = if z = n then u else x z) (hy : ∀ z : Int, 0 ≤ z → y2 z = if z = n then k else y z) : LGo b x y n b2 x2 y2 n2 (fun u2 k2 => u2 = u ∧ k2 = k) := by
  have hnb := h.b
  have bit : ∀ u2 k2 : Int, inR u2 k2 → (bI (b2 u2) k2 = 1 ↔ bI (b u2) k2 = 1 ∨ (u2 = u ∧ k2 = k)) := by
    intro u2 k2 hi2
    by_cases e : u2 = u
    · rw [e, hb2 k2 hi2.2.1 (by have := hi2.2.2; omega)]
      by_cases e2 : k2 = k
      · rw [if_pos e2]; exact ⟨fun _ => Or.inr ⟨rfl, e2⟩, fun _ => rfl⟩
      · rw [if_neg e2]; exact ⟨Or.inl, fun q => q.elim id (fun w => absurd w.2 e2)⟩
    · rw [hb u2 hi2.1.1 e]; exact ⟨Or.inl, fun q => q.elim id (fun w => absurd w.1 e)⟩
  have szs : szB b2 u = szB b u + 1 := by
    have ek : ((k.toNat : Nat) : Int) = k := by have := hi.2; omega
    refine bsm_set (f := bI (b u)) (g := bI (b2 u)) (i := k.toNat) 30 (by have := hi.2; omega) (by rw [ek]; exact h0) (by rw [ek, hb2 k hi.2.1 (by have := hi.2; omega), if_pos rfl]) (fun j hj hne => ?_)
    rw [hb2 (j : Int) (by omega) (by omega), if_neg (by omega)]
  have szo : ∀ t : Int, 0 ≤ t → t ≠ u → szB b2 t = szB b t := fun t t0 hne => by unfold szB; rw [hb t t0 hne]
  have eT : toB b2 3 = toB b 3 + 1 := by
    rw [toB_3, toB_3]
    have hu : u = 0 ∨ u = 1 ∨ u = 2 := by have := hi.1; omega
    rcases hu with g | g | g
    · rw [g] at szs; have q1 := szo 1 (by decide) (by omega); have q2 := szo 2 (by decide) (by omega); omega
    · rw [g] at szs; have q1 := szo 0 (by decide) (by omega); have q2 := szo 2 (by decide) (by omega); omega
    · rw [g] at szs; have q1 := szo 0 (by decide) (by omega); have q2 := szo 1 (by decide) (by omega); omega
  have old : ∀ z : Int, 0 ≤ z → z < n → x2 z = x z ∧ y2 z = y z := fun z z0 z1 => ⟨by rw [hx z z0, if_neg (by omega)], by rw [hy z z0, if_neg (by omega)]⟩
  have new : x2 n = u ∧ y2 n = k := ⟨by rw [hx n hnb.1, if_pos rfl], by rw [hy n hnb.1, if_pos rfl]⟩
  refine ⟨⟨by rw [hn, eT, ← h.1], fun z z0 z1 => ?_, fun u2 k2 hi2 q => ?_⟩, by omega, old, bit⟩
  · by_cases e : z = n
    · rw [e, new.1, new.2]
      exact ⟨hi, (bit u k hi).mpr (Or.inr ⟨rfl, rfl⟩)⟩
    · obtain ⟨e1, e2⟩ := old z z0 (by omega)
      obtain ⟨a, c⟩ := h.2.1 z z0 (by omega)
      rw [e1, e2]
      exact ⟨a, (bit _ _ a).mpr (Or.inl c)⟩
  · rcases (bit u2 k2 hi2).mp q with w | ⟨w1, w2⟩
    · obtain ⟨z, z0, z1, e1, e2⟩ := h.2.2 u2 k2 hi2 w
      obtain ⟨o1, o2⟩ := old z z0 z1
      exact ⟨z, z0, by omega, o1.trans e1, o2.trans e2⟩
    · exact ⟨n, hnb.1, by omega, new.1.trans w1.symm, new.2.trans w2.symm⟩
/-- a rule more -/
theorem lnC_s {G : XG} {b : Nat → Option Nat} {r : Int → Int} {n u k t j : Int} (hn : 0 ≤ n) : lnC G b r (n + 1) u k t j ↔ lnC G b r n u k t j ∨ ∃ q : Nat, b n.toNat = some q ∧ (G.1 q 0).toInt = 1 ∧ (G.1 q 4).toInt = t ∧ (G.1 q 2).toInt = u ∧ cel r u k (G.1 q 3).toInt = j := by
  constructor
  · rintro ⟨i, q, hi, h⟩
    by_cases e : (i : Int) < n
    · exact Or.inl ⟨i, q, e, h⟩
    · have e2 : n.toNat = i := by omega
      exact Or.inr ⟨q, by rw [e2]; exact h.1, h.2⟩
  · rintro (⟨i, q, hi, h⟩ | ⟨q, h⟩)
    · exact ⟨i, q, by omega, h⟩
    · exact ⟨n.toNat, q, by omega, h⟩
theorem lnC_0 {G : XG} {b : Nat → Option Nat} {r : Int → Int} {n u k t j : Int} (hn : n ≤ 0) : ¬ lnC G b r n u k t j := by
  rintro ⟨i, q, hi, -⟩
  omega
theorem lnM_s {f : Nat → Int32} {r : Int → Int} {n u k t j : Int} (hn : 0 ≤ n) : lnM f r (n + 1) u k t j ↔ lnM f r n u k t j ∨ (aI f (10 * n + 0) = 1 ∧ aI f (10 * n + 3) = t ∧ aI f (10 * n + 1) = u ∧ cel r u k (aI f (10 * n + 2)) = j) := by
  constructor
  · rintro ⟨q, hq, h⟩
    by_cases e : q < n
    · exact Or.inl ⟨q, ⟨hq.1, e⟩, h⟩
    · have e2 : q = n := by omega
      subst e2
      exact Or.inr h
  · rintro (⟨q, hq, h⟩ | h)
    · exact ⟨q, ⟨hq.1, by omega⟩, h⟩
    · exact ⟨n, ⟨hn, by omega⟩, h⟩
theorem lnM_0 {f : Nat → Int32} {r : Int → Int} {n u k t j : Int} (hn : n ≤ 0) : ¬ lnM f r n u k t j := by
  rintro ⟨q, hq, -⟩
  omega
/-- the search is through: all that one comes to is reached -/
theorem reach_all {L : Int → Int → Int → Int → Prop} {b x y : Int → Int} {n i t j : Int} (h : LIv b x y n) (hi : n ≤ i) (h0 : bI (b t) j = 1) (h1 : ∀ u k : Int, inR u k → bI (b u) k = 1 → RCH L t j u k) (h2 : ∀ z : Int, 0 ≤ z → z < i → ∀ u k : Int, inR u k → L u k (x z) (y z) → bI (b u) k = 1) (hj : inR t j) : ∀ u k : Int, inR u k → (bI (b u) k = 1 ↔ RCH L t j u k) := fun u k hi2 => ⟨h1 u k hi2, fun q => by
  refine (q (fun u k => inR u k ∧ bI (b u) k = 1) ⟨hj, h0⟩ (fun u k t2 j2 a s l => ⟨a, ?_⟩)).2
  obtain ⟨z, z0, z1, e1, e2⟩ := h.2.2 t2 j2 s.1 s.2
  refine h2 z z0 (by omega) u k a ?_
  rw [e1, e2]
  exact l⟩
/-- the set is a sum of bits -/
theorem toB_sm {b g : Int → Int} (h : ∀ u k : Int, inR u k → bI (b u) k = g (30 * u + k)) : toB b 3 = bsm g 90 := by
  have key : ∀ t : Nat, t < 3 → bsm (fun k => g (((30 * t : Nat) : Int) + k)) 30 = szB b t := fun t ht => bsm_cg 30 (fun k hk => by
    show g (((30 * t : Nat) : Int) + (k : Int)) = bI (b t) k
    rw [h (t : Int) (k : Int) ⟨by omega, by omega⟩, show ((30 * t : Nat) : Int) = 30 * (t : Int) by omega])
  have e1 : bsm g 90 = bsm g (30 + (30 + 30)) := rfl
  have k0 : bsm g 30 = szB b ((0 : Nat) : Int) := by
    rw [← key 0 (by decide)]
    exact bsm_cg 30 (fun k _ => by
      show g (k : Int) = g (((30 * 0 : Nat) : Int) + (k : Int))
      rw [show (((30 * 0 : Nat) : Int) + (k : Int)) = (k : Int) by omega])
  have k1 : bsm (fun k => g (((30 : Nat) : Int) + k)) 30 = szB b ((1 : Nat) : Int) := key 1 (by decide)
  have k2 : bsm (fun k => (fun k => g (((30 : Nat) : Int) + k)) (((30 : Nat) : Int) + k)) 30 = szB b ((2 : Nat) : Int) := by
    rw [← key 2 (by decide)]
    exact bsm_cg 30 (fun k _ => by
      show g (((30 : Nat) : Int) + (((30 : Nat) : Int) + (k : Int))) = g (((30 * 2 : Nat) : Int) + (k : Int))
      rw [show (((30 : Nat) : Int) + (((30 : Nat) : Int) + (k : Int))) = (((30 * 2 : Nat) : Int) + (k : Int)) by omega])
  rw [e1, bsm_add, bsm_add, k0, k1, k2, toB_3]
  show _ = szB b 0 + (szB b 1 + szB b 2)
  omega
/-- sums by an integer's bound -/
def bsI (g : Int → Int) (z : Int) : Int := bsm g z.toNat
theorem bsI_0 (g : Int → Int) : bsI g 0 = 0 := rfl
theorem bsI_s (g : Int → Int) {z : Int} (h : 0 ≤ z) : bsI g (z + 1) = bsI g z + g z := by
  have e : (z + 1).toNat = z.toNat + 1 := by omega
  have e2 : ((z.toNat : Nat) : Int) = z := by omega
  unfold bsI
  rw [e]
  show bsm g z.toNat + g ((z.toNat : Nat) : Int) = _
  rw [e2]
noncomputable def lnI (f : Nat → Int32) (r : Int → Int) (t j z : Int) : Int := by
  classical
  exact if lnM f r 12 (z / 30) (z % 30) t j then 1 else 0
theorem lnI_y {f : Nat → Int32} {r : Int → Int} {t j z : Int} (h : lnM f r 12 (z / 30) (z % 30) t j) : lnI f r t j z = 1 := by
  unfold lnI
  exact if_pos h
theorem lnI_n {f : Nat → Int32} {r : Int → Int} {t j z : Int} (h : ¬ lnM f r 12 (z / 30) (z % 30) t j) : lnI f r t j z = 0 := by
  unfold lnI
  exact if_neg h
def lnK (g : Int → Int) (s z : Int) : Int := if g z = 1 ∧ z ≠ s then 1 else 0
theorem lnK_st (g : Int → Int) (s z : Int) : (g z = 1 ∧ z ≠ s → lnK g s z = 1) ∧ (¬ (g z = 1 ∧ z ≠ s) → lnK g s z = 0) := ⟨fun h => if_pos h, fun h => if_neg h⟩
theorem lnC_cg {G u : XG} {b : Nat → Option Nat} {r : Int → Int} {n x k t j : Int} (hn : n ≤ 12) (h : ∀ i q : Nat, i < 12 → b i = some q → u.1 q = G.1 q) : lnC u b r n x k t j ↔ lnC G b r n x k t j := by
  constructor
  · rintro ⟨i, q, hi, hb, hh⟩
    rw [h i q (by omega) hb] at hh
    exact ⟨i, q, hi, hb, hh⟩
  · rintro ⟨i, q, hi, hb, hh⟩
    refine ⟨i, q, hi, hb, ?_⟩
    rw [h i q (by omega) hb]
    exact hh
/-! the reference's own reading of a row -/
def lnR (f g : Nat → Int32) (n u k t j : Int) : Prop := ∃ q : Int, (0 ≤ q ∧ q < n) ∧ aI f (10 * q + 0) = 1 ∧ aI f (10 * q + 3) = t ∧ aI f (10 * q + 1) = u ∧ aI g (4 * (30 * u + k) + 1 + aI f (10 * q + 2)) = j
theorem lnR_s {f g : Nat → Int32} {n u k t j : Int} (hn : 0 ≤ n) : lnR f g (n + 1) u k t j ↔ lnR f g n u k t j ∨ (aI f (10 * n + 0) = 1 ∧ aI f (10 * n + 3) = t ∧ aI f (10 * n + 1) = u ∧ aI g (4 * (30 * u + k) + 1 + aI f (10 * n + 2)) = j) := by
  constructor
  · rintro ⟨q, hq, h⟩
    by_cases e : q < n
    · exact Or.inl ⟨q, ⟨hq.1, e⟩, h⟩
    · have e2 : q = n := by omega
      subst e2
      exact Or.inr h
  · rintro (⟨q, hq, h⟩ | h)
    · exact ⟨q, ⟨hq.1, by omega⟩, h⟩
    · exact ⟨n, ⟨hn, by omega⟩, h⟩
theorem lnR_0 {f g : Nat → Int32} {n u k t j : Int} (hn : n ≤ 0) : ¬ lnR f g n u k t j := by
  rintro ⟨q, hq, -⟩
  omega
theorem lnM_R {f g : Nat → Int32} {n u k t j : Int} (hR : RV f) (hM : RM g 0) (h0 : inR u k) (hn : n ≤ 12) (hj : 0 ≤ j) (h : lnM f (mw g 0) n u k t j) : lnR f g n u k t j := by
  obtain ⟨q, hq, h1, h2, h3, h4⟩ := h
  obtain ⟨-, -, c1, -⟩ := hR q hq.1 (by omega)
  refine ⟨q, hq, h1, h2, h3, ?_⟩
  have e9 : 4 * (30 * u + k) + 1 + aI f (10 * q + 2) = 0 + 4 * (30 * u + k) + 1 + aI f (10 * q + 2) := by omega
  rw [e9]
  rcases hM.okc (t := u) (k := k) (c := aI f (10 * q + 2)) ⟨h0.1.1, h0.1.2, h0.2.1, h0.2.2, c1.1, by omega⟩ with ⟨-, e⟩ | ⟨-, e, -⟩
  · rw [h4] at e; omega
  · rw [← e]; exact h4
theorem lnR_M {f g : Nat → Int32} {n u k t j : Int} (hR : RV f) (hM : RM g 0) (h0 : inR u k) (hn : n ≤ 12) (hp : cel (mw g 0) u k 0 ≠ -2000) (h : lnR f g n u k t j) : lnM f (mw g 0) n u k t j := by
  obtain ⟨q, hq, h1, h2, h3, h4⟩ := h
  obtain ⟨-, -, c1, -⟩ := hR q hq.1 (by omega)
  refine ⟨q, hq, h1, h2, h3, ?_⟩
  have e9 : 4 * (30 * u + k) + 1 + aI f (10 * q + 2) = 0 + 4 * (30 * u + k) + 1 + aI f (10 * q + 2) := by omega
  rw [e9] at h4
  rcases hM.okc (t := u) (k := k) (c := aI f (10 * q + 2)) ⟨h0.1.1, h0.1.2, h0.2.1, h0.2.2, c1.1, by omega⟩ with ⟨-, e⟩ | ⟨-, e, -⟩
  · exact absurd ((hM.absent u k (aI f (10 * q + 2)) ⟨c1.1, by omega⟩).mp e) hp
  · rw [e]; exact h4
theorem lnM_no {f g : Nat → Int32} {n u k t j : Int} (hM : RM g 0) (hp : cel (mw g 0) u k 0 = -2000) (hj : 0 ≤ j) : ¬ lnM f (mw g 0) n u k t j := by
  rintro ⟨q, -, -, -, -, h4⟩
  by_cases c1 : 0 ≤ aI f (10 * q + 2) ∧ aI f (10 * q + 2) < 3
  · have e := (hM.absent u k (aI f (10 * q + 2)) c1).mpr hp
    rw [h4] at e; omega
  · have e : cel (mw g 0) u k (aI f (10 * q + 2)) = -2000 := cel_out (fun h => c1 ⟨h.2.2.2.2.1, h.2.2.2.2.2⟩)
    rw [h4] at e; omega
/-! the reference's marks: those that lean straight, those that lean by others, till none comes -/
def LQ (f : Nat → Int32) (r : Int → Int) (t j : Int) (g : Int → Int) : Prop := (∀ z : Int, 0 ≤ z → z < 90 → g z = 0 ∨ g z = 1) ∧ (∀ z : Int, 0 ≤ z → z < 90 → lnM f r 12 (z / 30) (z % 30) t j → g z = 1) ∧ ∀ z : Int, 0 ≤ z → z < 90 → g z = 1 → RC1 (lnM f r 12) t j (z / 30) (z % 30)
def LZ (f : Nat → Int32) (r g : Int → Int) (i o : Int) : Prop := (∀ z y : Int, 0 ≤ z → z < i → 0 ≤ y → y < 90 → g z = 0 → g y = 1 → ¬ lnM f r 12 (z / 30) (z % 30) (y / 30) (y % 30)) ∧ ∀ y : Int, 0 ≤ y → y < o → g i = 0 → g y = 1 → ¬ lnM f r 12 (i / 30) (i % 30) (y / 30) (y % 30)
section LEANS
variable {f : Nat → Int32} {r g g2 : Int → Int} {t j i o : Int}
theorem inR_z {z : Int} (h0 : 0 ≤ z) (h1 : z < 90) : inR (z / 30) (z % 30) := ⟨by omega, by omega⟩
theorem LQ_0 {n : Int} (h : ∀ z : Int, 0 ≤ z → z < n → (g z = 1 ∧ lnM f r 12 (z / 30) (z % 30) t j) ∨ (g z = 0 ∧ ¬ lnM f r 12 (z / 30) (z % 30) t j)) (hn : 90 ≤ n) : LQ f r t j g := by
  refine ⟨fun z z0 z1 => ?_, fun z z0 z1 hl => ?_, fun z z0 z1 hg => ?_⟩
  · rcases h z z0 (by omega) with ⟨a, -⟩ | ⟨a, -⟩
    · exact Or.inr a
    · exact Or.inl a
  · rcases h z z0 (by omega) with ⟨a, -⟩ | ⟨-, a⟩
    · exact a
    · exact absurd hl a
  · rcases h z z0 (by omega) with ⟨-, a⟩ | ⟨a, -⟩
    · exact RC1.one (inR_z z0 z1) a
    · rw [hg] at a; exact absurd a (by decide)
theorem LZ_0 : LZ f r g 0 0 := ⟨fun z y h0 h1 => absurd h0 (by omega), fun y h0 h1 => absurd h0 (by omega)⟩
theorem LZ_new (h : ∀ z y : Int, 0 ≤ z → z < i → 0 ≤ y → y < 90 → g z = 0 → g y = 1 → ¬ lnM f r 12 (z / 30) (z % 30) (y / 30) (y % 30)) : LZ f r g i 0 := ⟨h, fun y h0 h1 => absurd h0 (by omega)⟩
theorem LZ_row (h : LZ f r g i o) (ho : 90 ≤ o) : LZ f r g (i + 1) 0 := ⟨fun z y z0 z1 y0 y1 a c => by
  by_cases e : z = i
  · subst e; exact h.2 y y0 (by omega) a c
  · exact h.1 z y z0 (by omega) y0 y1 a c, fun y h0 h1 => absurd h0 (by omega)⟩
theorem LZ_one (h : ∀ z y : Int, 0 ≤ z → z < i → 0 ≤ y → y < 90 → g z = 0 → g y = 1 → ¬ lnM f r 12 (z / 30) (z % 30) (y / 30) (y % 30)) (hi : g i ≠ 0) : LZ f r g (i + 1) 0 := ⟨fun z y z0 z1 y0 y1 a c => by
  by_cases e : z = i
  · subst e; exact absurd a hi
  · exact h z y z0 (by omega) y0 y1 a c, fun y h0 h1 => absurd h0 (by omega)⟩
theorem LZ_skip (h : LZ f r g i o) (ho : g o ≠ 1 ∨ ¬ lnM f r 12 (i / 30) (i % 30) (o / 30) (o % 30)) : LZ f r g i (o + 1) := ⟨h.1, fun y y0 y1 a c => by
  by_cases e : y = o
  · subst e
    rcases ho with ho | ho
    · exact absurd c ho
    · exact ho
  · exact h.2 y y0 (by omega) a c⟩
theorem LQ_set (h : LQ f r t j g) (hi : 0 ≤ i ∧ i < 90) (ho : 0 ≤ o ∧ o < 90) (hl : lnM f r 12 (i / 30) (i % 30) (o / 30) (o % 30)) (hg : g o = 1) (hs : ∀ z : Int, 0 ≤ z → g2 z = if z = i then 1 else g z) : LQ f r t j g2 := by
  obtain ⟨h1, h2, h3⟩ := h
  refine ⟨fun z z0 z1 => ?_, fun z z0 z1 q => ?_, fun z z0 z1 q => ?_⟩
  · rw [hs z z0]
    by_cases e : z = i
    · rw [if_pos e]; exact Or.inr rfl
    · rw [if_neg e]; exact h1 z z0 z1
  · rw [hs z z0]
    by_cases e : z = i
    · rw [if_pos e]
    · rw [if_neg e]; exact h2 z z0 z1 q
  · rw [hs z z0] at q
    by_cases e : z = i
    · subst e; exact (h3 o ho.1 ho.2 hg).go (inR_z z0 z1) hl
    · rw [if_neg e] at q; exact h3 z z0 z1 q
theorem LQ_end (h : LQ f r t j g) (hz : LZ f r g 90 0) : ∀ z : Int, 0 ≤ z → z < 90 → (g z = 1 ↔ RC1 (lnM f r 12) t j (z / 30) (z % 30)) := by
  obtain ⟨h1, h2, h3⟩ := h
  intro z z0 z1
  refine ⟨h3 z z0 z1, fun q => ?_⟩
  have key : ∀ u k : Int, inR u k → (30 * u + k) / 30 = u ∧ (30 * u + k) % 30 = k ∧ 0 ≤ 30 * u + k ∧ 30 * u + k < 90 := fun u k hi => by
    obtain ⟨a, c⟩ := hi
    omega
  have e := q (fun u k => inR u k ∧ g (30 * u + k) = 1) (fun u k hi hl => ⟨hi, by
    obtain ⟨e1, e2, e3, e4⟩ := key u k hi
    refine h2 _ e3 e4 ?_
    rw [e1, e2]
    exact hl⟩) (fun u k t2 j2 hi hs hl => ⟨hi, by
    obtain ⟨e1, e2, e3, e4⟩ := key u k hi
    obtain ⟨d1, d2, d3, d4⟩ := key t2 j2 hs.1
    rcases h1 _ e3 e4 with a | a
    · exfalso
      refine hz.1 _ _ e3 e4 d3 d4 a hs.2 ?_
      rw [e1, e2, d1, d2]
      exact hl
    · exact a⟩)
  have e2 := e.2
  rw [show 30 * (z / 30) + z % 30 = z by omega] at e2
  exact e2
end LEANS
/-! ===== rows that would go, values that would become NULL ===== -/
def nn1 (p v : Int → Int) (z : Int) : Int := if p z = -1000 ∧ v z ≠ -1000 then 1 else 0
theorem nn1_st (p v : Int → Int) (z : Int) : (p z = -1000 ∧ v z ≠ -1000 → nn1 p v z = 1) ∧ (¬ (p z = -1000 ∧ v z ≠ -1000) → nn1 p v z = 0) := ⟨fun h => if_pos h, fun h => if_neg h⟩
def clA (f0 f1 : Nat → Int32) (x c : Int) : Int := if aI f1 x = 1 ∧ aI f0 (x + c) ≠ aI f1 (x + c) then 1 else 0
theorem clA_st (f0 f1 : Nat → Int32) (x c : Int) : (aI f1 x = 1 ∧ aI f0 (x + c) ≠ aI f1 (x + c) → clA f0 f1 x c = 1) ∧ (¬ (aI f1 x = 1 ∧ aI f0 (x + c) ≠ aI f1 (x + c)) → clA f0 f1 x c = 0) := ⟨fun h => if_pos h, fun h => if_neg h⟩
def clR (f0 f1 : Nat → Int32) (x z : Int) : Int := smS (clA f0 f1 x) 1 z
theorem clR_0 (f0 f1 : Nat → Int32) (x : Int) : clR f0 f1 x 1 = 0 := smS_0 _ _
theorem clR_s (f0 f1 : Nat → Int32) (x : Int) {z : Int} (h : 1 ≤ z) : clR f0 f1 x (z + 1) = clR f0 f1 x z + clA f0 f1 x z := smS_s h
theorem clR_4 (f0 f1 : Nat → Int32) (x : Int) : clR f0 f1 x 4 = clA f0 f1 x 1 + clA f0 f1 x 2 + clA f0 f1 x 3 := by
  have h1 := clR_s f0 f1 x (z := 1) (by decide)
  have h2 := clR_s f0 f1 x (z := 2) (by decide)
  have h3 := clR_s f0 f1 x (z := 3) (by decide)
  have h0 := clR_0 f0 f1 x
  rw [show (3 : Int) + 1 = 4 from by decide] at h3
  rw [show (2 : Int) + 1 = 3 from by decide] at h2
  rw [show (1 : Int) + 1 = 2 from by decide] at h1
  omega
theorem clR_z {f0 f1 : Nat → Int32} {x z : Int} (h : aI f1 x ≠ 1) (hz : 1 ≤ z ∧ z ≤ 4) : clR f0 f1 x 4 = clR f0 f1 x z := by
  have h1 := clR_s f0 f1 x (z := 1) (by decide)
  have h2 := clR_s f0 f1 x (z := 2) (by decide)
  have h3 := clR_s f0 f1 x (z := 3) (by decide)
  have h0 := clR_0 f0 f1 x
  rw [show (3 : Int) + 1 = 4 from by decide] at h3
  rw [show (2 : Int) + 1 = 3 from by decide] at h2
  rw [show (1 : Int) + 1 = 2 from by decide] at h1
  have c1 := (clA_st f0 f1 x 1).2 (fun q => h q.1)
  have c2 := (clA_st f0 f1 x 2).2 (fun q => h q.1)
  have c3 := (clA_st f0 f1 x 3).2 (fun q => h q.1)
  have hc : z = 1 ∨ z = 2 ∨ z = 3 ∨ z = 4 := by omega
  rcases hc with e | e | e | e
  · rw [e]; omega
  · rw [e]; omega
  · rw [e]; omega
  · rw [e]
def clT (f0 f1 : Nat → Int32) (z : Int) : Int := bsI (fun j => clR f0 f1 (4 * j) 4) (z / 4)
theorem clT_0 (f0 f1 : Nat → Int32) : clT f0 f1 0 = 0 := rfl
theorem clT_s (f0 f1 : Nat → Int32) {z : Int} (h : 0 ≤ z) (h4 : z % 4 = 0) : clT f0 f1 (z + 4) = clT f0 f1 z + clR f0 f1 z 4 := by
  unfold clT
  rw [show (z + 4) / 4 = z / 4 + 1 by omega, bsI_s _ (by omega)]
  show _ + clR f0 f1 (4 * (z / 4)) 4 = _
  rw [show 4 * (z / 4) = z by omega]
