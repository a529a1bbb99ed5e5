/-! the rules that rows follow, as the class has them -/
def clsA (G : XG) (b : Nat → Option Nat) (r t : Int) : Int := match b r.toNat with
  | none => 0
  | some q => if 0 ≤ r ∧ r < 12 ∧ (G.1 q 0).toInt = 1 ∧ (G.1 q 4).toInt = t then (G.1 q 7).toInt else 0
def clsT (G : XG) (b : Nat → Option Nat) (r : Int) : Int := match b r.toNat with
  | none => 0
  | some q => if 0 ≤ r ∧ r < 12 ∧ (G.1 q 0).toInt = 1 then (G.1 q 2).toInt else 0
def clsC (G : XG) (b : Nat → Option Nat) (r : Int) : Int := match b r.toNat with
  | none => 0
  | some q => if 0 ≤ r ∧ r < 12 ∧ (G.1 q 0).toInt = 1 then (G.1 q 3).toInt else 0
theorem clsA_n {G : XG} {b : Nat → Option Nat} {r t : Int} (h : b r.toNat = none) : clsA G b r t = 0 := by unfold clsA; rw [h]
theorem clsA_s {G : XG} {b : Nat → Option Nat} {r t : Int} {q : Nat} (h : b r.toNat = some q) : clsA G b r t = if 0 ≤ r ∧ r < 12 ∧ (G.1 q 0).toInt = 1 ∧ (G.1 q 4).toInt = t then (G.1 q 7).toInt else 0 := by unfold clsA; rw [h]
theorem clsT_s {G : XG} {b : Nat → Option Nat} {r : Int} {q : Nat} (h : b r.toNat = some q) (h0 : 0 ≤ r ∧ r < 12 ∧ (G.1 q 0).toInt = 1) : clsT G b r = (G.1 q 2).toInt ∧ clsC G b r = (G.1 q 3).toInt := by
  unfold clsT clsC
  rw [h]
  exact ⟨if_pos h0, if_pos h0⟩
/-- what a rule has its rows do is 0, 1 or 2 -/
def ACo (G : XG) (b : Nat → Option Nat) : Prop := ∀ (i q : Nat), i < 12 → b i = some q → 0 ≤ (G.1 q 7).toInt ∧ (G.1 q 7).toInt ≤ 2
theorem clsA_f {G : XG} {b : Nat → Option Nat} {r t : Int} (h : 0 < clsA G b r t) : (0 ≤ r ∧ r < 12) ∧ ∃ q, b r.toNat = some q ∧ (G.1 q 0).toInt = 1 ∧ (G.1 q 4).toInt = t ∧ clsA G b r t = (G.1 q 7).toInt ∧ clsT G b r = (G.1 q 2).toInt ∧ clsC G b r = (G.1 q 3).toInt := by
  cases hb : b r.toNat with
  | none => rw [clsA_n hb] at h; exact absurd h (by decide)
  | some q =>
    have e := clsA_s (G := G) (t := t) hb
    by_cases g : 0 ≤ r ∧ r < 12 ∧ (G.1 q 0).toInt = 1 ∧ (G.1 q 4).toInt = t
    · rw [if_pos g] at e
      have e2 := clsT_s (G := G) hb ⟨g.1, g.2.1, g.2.2.1⟩
      exact ⟨⟨g.1, g.2.1⟩, q, rfl, g.2.2.1, g.2.2.2, e, e2.1, e2.2⟩
    · rw [if_neg g] at e
      omega
theorem clsTo {K : Nat → Nat} {G : XG} {b : Nat → Option Nat} (h : BKr K G b) : CTo (clsA G b) (clsT G b) (clsC G b) := by
  intro r t ha
  obtain ⟨h1, q, h2, -, -, -, h3, h4⟩ := clsA_f ha
  have h5 := (h r.toNat q (by omega) h2).2.f
  rw [h3, h4]
  omega
theorem cls_cg {G u : XG} {b : Nat → Option Nat} (h : ∀ (i q : Nat), i < 12 → b i = some q → u.1 q = G.1 q) : clsA u b = clsA G b ∧ clsT u b = clsT G b ∧ clsC u b = clsC G b := by
  refine ⟨funext (fun r => funext (fun t => ?_)), funext (fun r => ?_), funext (fun r => ?_)⟩
  · unfold clsA
    cases hb : b r.toNat with
    | none => rfl
    | some q =>
      simp only
      by_cases g : 0 ≤ r ∧ r < 12
      · rw [h _ q (by omega) hb]
      · rw [if_neg (fun x => g ⟨x.1, x.2.1⟩), if_neg (fun x => g ⟨x.1, x.2.1⟩)]
  · unfold clsT
    cases hb : b r.toNat with
    | none => rfl
    | some q =>
      simp only
      by_cases g : 0 ≤ r ∧ r < 12
      · rw [h _ q (by omega) hb]
      · rw [if_neg (fun x => g ⟨x.1, x.2.1⟩), if_neg (fun x => g ⟨x.1, x.2.1⟩)]
  · unfold clsC
    cases hb : b r.toNat with
    | none => rfl
    | some q =>
      simp only
      by_cases g : 0 ≤ r ∧ r < 12
      · rw [h _ q (by omega) hb]
      · rw [if_neg (fun x => g ⟨x.1, x.2.1⟩), if_neg (fun x => g ⟨x.1, x.2.1⟩)]
theorem ACo.cg {G u : XG} {b : Nat → Option Nat} (h0 : ACo G b) (h : ∀ (i q : Nat), i < 12 → b i = some q → u.1 q = G.1 q) : ACo u b := fun i q hi hq => by rw [h i q hi hq]; exact h0 i q hi hq
theorem BKr.cg {K : Nat → Nat} {G u : XG} {b : Nat → Option Nat} (h0 : BKr K G b) (h : ∀ (i q : Nat), i < 12 → b i = some q → u.1 q = G.1 q) : BKr K u b := fun i q hi hq => ⟨(h0 i q hi hq).1, by rw [h i q hi hq]; exact (h0 i q hi hq).2⟩
/-- a rule with clear is looked at from its first key on -/
def CZ (A : Int → Int → Int) (s : List CFr) : Prop := ∀ x, x ∈ s → A x.2.2.1 x.1 = 2 → x.2.2.2 = 0
theorem CZ.cons {A : Int → Int → Int} {s : List CFr} {t k r n : Int} (h : CZ A s) (h1 : A r t = 2 → n = 0) : CZ A ((t, k, r, n) :: s) := fun x hx => (List.mem_cons.mp hx).elim (fun e => by rw [e]; exact h1) (h x)
theorem CZ.tl {A : Int → Int → Int} {s : List CFr} {y : CFr} (h : CZ A (y :: s)) : CZ A s := fun x hx => h x (List.mem_cons_of_mem _ hx)
def cnv (S : CSt) : Int := 14 * pn S.2 + cnu S.1
theorem cnv_b {S : CSt} (h : CIv S) : 0 ≤ cnv S ∧ (S.1 ≠ [] → 1 ≤ cnv S) := by
  have h1 := cnu_b h.1
  have h2 := pn_b S.2
  unfold cnv
  exact ⟨by omega, fun q => by have := h1.2 q; omega⟩
/-- what one step of the class keeps -/
def CGo (A : Int → Int → Int) (T C : Int → Int) (S S2 : CSt) : Prop := CIv S2 ∧ CZ A S2.1 ∧ cfin A T C S2 = cfin A T C S ∧ cnv S2 = cnv S - 1
section CGO
variable {A : Int → Int → Int} {T C : Int → Int} {t k r n : Int} {s : List CFr} {v : Int → Int}
theorem cnv_c : cnv ((t, k, r, n) :: s, v) = 14 * pn v + (13 - r + cnu s) := rfl
theorem cgo_pop (hT : CTo A T C) (h : CIv ((t, k, r, n) :: s, v)) (hz : CZ A ((t, k, r, n) :: s)) (hr : r = 12) : CGo A T C ((t, k, r, n) :: s, v) (s, v) := by
  obtain ⟨h1, h2⟩ := cm_st hT h (cst_pop (A := A) (T := T) (C := C) hr)
  refine ⟨h1, hz.tl, h2, ?_⟩
  show 14 * pn v + cnu s = 14 * pn v + (13 - r + cnu s) - 1
  omega
theorem cgo_nx (hT : CTo A T C) (h : CIv ((t, k, r, n) :: s, v)) (hz : CZ A ((t, k, r, n) :: s)) (hr : r ≠ 12) (ha : ¬ (0 < A r t)) : CGo A T C ((t, k, r, n) :: s, v) ((t, k, r + 1, 0) :: s, v) := by
  obtain ⟨h1, h2⟩ := cm_st hT h (cst_nx (A := A) (T := T) (C := C) hr (Or.inr ha))
  refine ⟨h1, hz.tl.cons (fun _ => rfl), h2, ?_⟩
  show 14 * pn v + (13 - (r + 1) + cnu s) = 14 * pn v + (13 - r + cnu s) - 1
  omega
theorem cgo_cl (hT : CTo A T C) (h : CIv ((t, k, r, n) :: s, v)) (hz : CZ A ((t, k, r, n) :: s)) (hr : r ≠ 12) (ha : A r t = 2) : CGo A T C ((t, k, r, n) :: s, v) ((t, k, r + 1, 0) :: s, repl v (T r) (C r) k (-1000) 30) := by
  have n0 : n = 0 := hz _ List.mem_cons_self ha
  subst n0
  obtain ⟨h1, h2, h3⟩ := cm_clr hT hr ha h
  refine ⟨h1, hz.tl.cons (fun _ => rfl), h2, ?_⟩
  show 14 * pn (repl v (T r) (C r) k (-1000) 30) + (13 - (r + 1) + cnu s) = 14 * pn v + (13 - r + cnu s) - 1
  rw [h3]
  omega
theorem cgo_no (hT : CTo A T C) (h : CIv ((t, k, r, n) :: s, v)) (hz : CZ A ((t, k, r, n) :: s)) (hr : r ≠ 12) (ha : 0 < A r t) (hk : ∀ j : Int, n ≤ j → j < 30 → cel v (T r) j (C r) ≠ k) : CGo A T C ((t, k, r, n) :: s, v) ((t, k, r + 1, 0) :: s, v) := by
  have h0 := (h.1 (t, k, r, n) List.mem_cons_self).2.2.2
  simp only at h0
  obtain ⟨g1, g2⟩ := cm_sk hT hr ha h (m := 30) (by omega) hk
  obtain ⟨h1, h2⟩ := cm_st hT g1 (cst_nx (A := A) (T := T) (C := C) hr (Or.inl rfl))
  refine ⟨h1, hz.tl.cons (fun _ => rfl), h2.trans g2, ?_⟩
  show 14 * pn v + (13 - (r + 1) + cnu s) = 14 * pn v + (13 - r + cnu s) - 1
  omega
theorem cgo_go (hT : CTo A T C) (h : CIv ((t, k, r, n) :: s, v)) (hz : CZ A ((t, k, r, n) :: s)) (hr : r ≠ 12) (ha : 0 < A r t) (ha2 : A r t ≠ 2) {j : Int} (hj : n ≤ j ∧ j < 30) (hk : ∀ i : Int, n ≤ i → i < j → cel v (T r) i (C r) ≠ k) (he : cel v (T r) j (C r) = k) : CGo A T C ((t, k, r, n) :: s, v) ((T r, j, 0, 0) :: (t, k, r, j + 1) :: s, rfil v (T r) j (-2000) 3) := by
  obtain ⟨g1, g2⟩ := cm_sk hT hr ha h (m := j) (by omega) hk
  obtain ⟨h1, h2⟩ := cm_st hT g1 (cst_go (A := A) (T := T) (C := C) hr (by omega) ha ha2 he)
  refine ⟨h1, (hz.tl.cons (fun q => absurd q ha2)).cons (fun _ => rfl), h2.trans g2, ?_⟩
  have h0 := h.1 (t, k, r, n) List.mem_cons_self
  have tt := hT r t ha
  have h3 : RC v := h.2.2
  have h4 := h0.2.1
  have h5 := h0.2.2.2
  simp only at h4 h5
  have hin : 0 ≤ T r ∧ T r < 3 ∧ 0 ≤ j ∧ j < 30 ∧ 0 ≤ C r ∧ C r < 3 := by omega
  rw [cel_in hin] at he
  have hp : v (90 * T r + j) ≠ -2000 := fun q => by
    have := (h3 (T r) j (C r) hin.1 hin.2.1 hin.2.2.1 hin.2.2.2.1 hin.2.2.2.2.1 hin.2.2.2.2.2).mpr q
    omega
  have e2 := (h3.cut (t := T r) (k := j) (by omega) hp).2
  show 14 * pn (rfil v (T r) j (-2000) 3) + (13 - 0 + (13 - r + cnu s)) = 14 * pn v + (13 - r + cnu s) - 1
  rw [e2]
  omega
end CGO
theorem RO.rc {r b : Int → Int} (h : RO r b) : RC r := fun t k c a1 a2 a3 a4 a5 a6 => (h.1 t k a1 a2 a3 a4).2 c a5 a6
/-! a row under another key, and those that refer to it -/
def mvR (A : Int → Int → Int) (T C : Int → Int) (t key to : Int) (v : Int → Int) : Nat → (Int → Int)
  | 0 => v
  | n + 1 => if 0 < A n t then repl (mvR A T C t key to v n) (T n) (C n) key (if A n t = 1 then to else -1000) 30 else mvR A T C t key to v n
theorem mvR_s {A : Int → Int → Int} {T C : Int → Int} {t key to n : Int} {v : Int → Int} (h : 0 ≤ n) : mvR A T C t key to v (n + 1).toNat = if 0 < A n t then repl (mvR A T C t key to v n.toNat) (T n) (C n) key (if A n t = 1 then to else -1000) 30 else mvR A T C t key to v n.toNat := by
  have e : (n + 1).toNat = n.toNat + 1 := by omega
  have e2 : ((n.toNat : Nat) : Int) = n := by omega
  rw [e]
  show (if 0 < A (n.toNat : Int) t then repl (mvR A T C t key to v n.toNat) (T (n.toNat : Int)) (C (n.toNat : Int)) key (if A (n.toNat : Int) t = 1 then to else -1000) 30 else mvR A T C t key to v n.toNat) = _
  rw [e2]
theorem toNat_lt12 {z : Int} (h : 0 ≤ z ∧ z < 12) : z.toNat < 12 := by omega
