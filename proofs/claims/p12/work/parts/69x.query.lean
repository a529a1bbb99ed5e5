/-! ===== what a question tells ===== -/
noncomputable def quS (r : Int → Int) (k t c o lo hi s w : Int) : Int := by
  classical
  exact if sbj k s then (if w = 0 then stt r k t c o s else if w = 1 then flq r k t c lo hi s (stt r k t c o s) else -2147483648) else -2147483648
theorem quS_n {r : Int → Int} {k t c o lo hi s w : Int} (h : ¬ sbj k s) : quS r k t c o lo hi s w = -2147483648 := by
  unfold quS
  exact if_neg h
theorem quS_0 {r : Int → Int} {k t c o lo hi s w : Int} (h : sbj k s) (hw : w = 0) : quS r k t c o lo hi s w = stt r k t c o s := by
  unfold quS
  rw [if_pos h, if_pos hw]
theorem quS_1 {r : Int → Int} {k t c o lo hi s w : Int} (h : sbj k s) (hw : w = 1) : quS r k t c o lo hi s w = flq r k t c lo hi s (stt r k t c o s) := by
  unfold quS
  rw [if_pos h, if_neg (by omega), if_pos hw]
theorem quS_o {r : Int → Int} {k t c o lo hi s w : Int} (h0 : ¬ w = 0) (h1 : ¬ w = 1) : quS r k t c o lo hi s w = -2147483648 := by
  unfold quS
  by_cases h : sbj k s
  · rw [if_pos h, if_neg h0, if_neg h1]
  · rw [if_neg h]
/-! ===== what is told of a rule ===== -/
def tdC (q : Nat → Int32) (n w : Int) : Int := if w = 0 then (q 0).toInt else if w = 1 then (q 2).toInt else if w = 2 then (q 3).toInt else if w = 3 then (q 4).toInt else if w = 4 then (q 5).toInt else if w = 5 then (q 6).toInt else if w = 6 then (q 9).toInt else if w = 7 then (q 8).toInt else if w = 8 then (q 7).toInt else if w = 9 then n else -2147483648
theorem tdC_0 {q : Nat → Int32} {n w : Int} (h : w = 0) : tdC q n w = (q 0).toInt := by subst h; rfl
theorem tdC_1 {q : Nat → Int32} {n w : Int} (h : w = 1) : tdC q n w = (q 2).toInt := by subst h; rfl
theorem tdC_2 {q : Nat → Int32} {n w : Int} (h : w = 2) : tdC q n w = (q 3).toInt := by subst h; rfl
theorem tdC_3 {q : Nat → Int32} {n w : Int} (h : w = 3) : tdC q n w = (q 4).toInt := by subst h; rfl
theorem tdC_4 {q : Nat → Int32} {n w : Int} (h : w = 4) : tdC q n w = (q 5).toInt := by subst h; rfl
theorem tdC_5 {q : Nat → Int32} {n w : Int} (h : w = 5) : tdC q n w = (q 6).toInt := by subst h; rfl
theorem tdC_6 {q : Nat → Int32} {n w : Int} (h : w = 6) : tdC q n w = (q 9).toInt := by subst h; rfl
theorem tdC_7 {q : Nat → Int32} {n w : Int} (h : w = 7) : tdC q n w = (q 8).toInt := by subst h; rfl
theorem tdC_8 {q : Nat → Int32} {n w : Int} (h : w = 8) : tdC q n w = (q 7).toInt := by subst h; rfl
theorem tdC_9 {q : Nat → Int32} {n w : Int} (h : w = 9) : tdC q n w = n := by subst h; rfl
theorem tdC_o {q : Nat → Int32} {n w : Int} (h : w < 0 ∨ 9 < w) : tdC q n w = -2147483648 := by
  unfold tdC
  rw [if_neg (by omega), if_neg (by omega), if_neg (by omega), if_neg (by omega), if_neg (by omega), if_neg (by omega), if_neg (by omega), if_neg (by omega), if_neg (by omega), if_neg (by omega)]
noncomputable def tdM (f : Nat → Int32) (p n w : Int) : Int := if 0 ≤ w ∧ w ≤ 8 then aI f (10 * p + w) else if w = 9 then n else -2147483648
theorem tdM_i {f : Nat → Int32} {p n w : Int} (h : 0 ≤ w ∧ w ≤ 8) : tdM f p n w = aI f (10 * p + w) := if_pos h
theorem tdM_9 {f : Nat → Int32} {p n w : Int} (h : w = 9) : tdM f p n w = n := by
  unfold tdM
  rw [if_neg (by omega), if_pos h]
theorem tdM_o {f : Nat → Int32} {p n w : Int} (h : w < 0 ∨ 9 < w) : tdM f p n w = -2147483648 := by
  unfold tdM
  rw [if_neg (by omega), if_neg (by omega)]
/-! ===== how many rows a table has, and which ===== -/
def rmR (f : Nat → Int32) (t z : Int) : Int := bsm (fun k => aI f (4 * (30 * t + k))) z.toNat
theorem rmR_0 (f : Nat → Int32) (t : Int) : rmR f t 0 = 0 := rfl
theorem rmR_s (f : Nat → Int32) (t : Int) {z : Int} (h : 0 ≤ z) : rmR f t (z + 1) = rmR f t z + aI f (4 * (30 * t + z)) := by
  have e : (z + 1).toNat = z.toNat + 1 := by omega
  have e2 : ((z.toNat : Nat) : Int) = z := by omega
  unfold rmR
  rw [e]
  show bsm (fun k => aI f (4 * (30 * t + k))) z.toNat + aI f (4 * (30 * t + ((z.toNat : Nat) : Int))) = _
  rw [e2]
theorem RM.is2 {f : Nat → Int32} (h : RM f 0) {t k : Int} (ht : 0 ≤ t ∧ t < 3) (hk : 0 ≤ k ∧ k < 30) : aI f (4 * (30 * t + k)) = 0 ∨ aI f (4 * (30 * t + k)) = 1 := by
  have q := h.flag (t := t) (k := k) ⟨ht.1, ht.2, hk.1, hk.2⟩
  rw [show 0 + 4 * (30 * t + k) = 4 * (30 * t + k) by omega] at q
  exact q.imp (fun x => x.1) (fun x => x.1)
/-- a bit more -/
theorem bI_or01 {x v k y w : Int32} {X Z V : Int} (hv : v.toInt = V) (h01 : V = 0 ∨ V = 1) (hy : y = v <<< (k &&& 31)) (hw : w = x ||| y) (hX : x.toInt = X) (hk : k.toInt = Z) (h0 : 0 ≤ Z ∧ Z < 32) (hz : bI X Z = 0) : ∀ j : Int, 0 ≤ j → j < 32 → bI w.toInt j = if j = Z then V else bI X j := by
  rcases h01 with e | e
  · have ev : v = 0 := Int32.toInt_inj.mp (by rw [hv, e]; rfl)
    have ey : y = 0 := by
      rw [hy, ev]
      apply Int32.toBitVec_inj.mp
      simp
    have ew : w = x := by
      rw [hw, ey]
      simp
    intro j h1 h2
    rw [ew, hX, e]
    by_cases g : j = Z
    · rw [if_pos g, g]; exact hz
    · rw [if_neg g]
  · have ev : v = 1 := Int32.toInt_inj.mp (by rw [hv, e]; rfl)
    rw [ev] at hy
    intro j h1 h2
    rw [e]
    exact bI_set hy hw hX hk h0 j h1 h2
theorem bI_ext {x y : Int32} (h : ∀ j : Int, 0 ≤ j → j < 32 → bI x.toInt j = bI y.toInt j) : x = y := by
  apply Int32.toBitVec_inj.mp
  apply BitVec.eq_of_getLsbD_eq
  intro i hi
  have q := h (i : Int) (by omega) (by omega)
  rw [bI_of rfl, bI_of rfl] at q
  have q : (if bt x i then (1 : Int) else 0) = if bt y i then 1 else 0 := q
  show bt x i = bt y i
  cases hx : bt x i <;> cases hy : bt y i
  · rfl
  · rw [hx, hy] at q; exact absurd q (by decide)
  · rw [hx, hy] at q; exact absurd q (by decide)
  · rfl
/-! how deep a row lies under its tree -/
def dpF (v : Int → Int) (T C : Int) : Nat → Int → Int → Int
  | 0, _, _ => -2
  | m + 1, n, k => if cel v T (cel v T k C) 0 = -2000 then n else dpF v T C m (n + 1) (cel v T k C)
theorem dpF_o {v : Int → Int} {T C : Int} {m : Nat} {n k : Int} (h : cel v T (cel v T k C) 0 = -2000) : dpF v T C (m + 1) n k = n := if_pos h
theorem dpF_s {v : Int → Int} {T C : Int} {m : Nat} {n k : Int} (h : cel v T (cel v T k C) 0 ≠ -2000) : dpF v T C (m + 1) n k = dpF v T C m (n + 1) (cel v T k C) := if_neg h
def dpS (v : Int → Int) (kd T C key : Int) : Int := if kd = 5 ∧ cel v T key 0 ≠ -2000 then dpF v T C 31 0 key else -1
theorem dpS_i {v : Int → Int} {kd T C key : Int} (h : kd = 5 ∧ cel v T key 0 ≠ -2000) : dpS v kd T C key = dpF v T C 31 0 key := if_pos h
theorem dpS_n {v : Int → Int} {kd T C key : Int} (h : kd ≠ 5 ∨ cel v T key 0 = -2000) : dpS v kd T C key = -1 := if_neg (fun q => h.elim (fun g => g q.1) q.2)
theorem RM.cel0 {f : Nat → Int32} {t k c : Int} (h : RM f 0) (h0 : (0 ≤ t ∧ t < 3) ∧ (0 ≤ k ∧ k < 30) ∧ (0 ≤ c ∧ c < 3)) (hr : cel (mw f 0) t k 0 ≠ -2000) : aI f (4 * (30 * t + k) + 1 + c) = cel (mw f 0) t k c := by
  have k1 := h.okc (t := t) (k := k) (c := 0) ⟨h0.1.1, h0.1.2, h0.2.1.1, h0.2.1.2, by decide, by decide⟩
  have k2 := h.okc (t := t) (k := k) (c := c) ⟨h0.1.1, h0.1.2, h0.2.1.1, h0.2.1.2, h0.2.2.1, h0.2.2.2⟩
  rw [Int.zero_add] at k1 k2
  rcases k2 with ⟨e, -⟩ | ⟨-, e2, -⟩
  · rcases k1 with ⟨-, e3⟩ | ⟨e3, -⟩
    · exact absurd e3 hr
    · rw [e] at e3; exact absurd e3 (by decide)
  · exact e2.symm
/-! all that fail, in order -/
noncomputable def fa1 (f : Nat → Int32) (r : Int → Int) (q s : Int) : Option (Int × Int) := if fzq f r q s = 1 then some (q, s) else none
noncomputable def fas (f : Nat → Int32) (r : Int → Int) (q : Int) : List (Int × Int) := (subs (aI f (10 * q + 0))).filterMap (fa1 f r q)
noncomputable def faL (f : Nat → Int32) (r : Int → Int) (o : Nat → Nat) : Nat → List (Int × Int)
  | 0 => []
  | n + 1 => faL f r o n ++ fas f r ((o n : Nat) : Int)
theorem faL_s (f : Nat → Int32) (r : Int → Int) (o : Nat → Nat) (n : Nat) : faL f r o (n + 1) = faL f r o n ++ fas f r ((o n : Nat) : Int) := rfl
noncomputable def faO (f : Nat → Int32) (r : Int → Int) : List (Int × Int) := faL f r (ordN (prM f) (rkM f) 12).2 (ordN (prM f) (rkM f) 12).1
noncomputable def fap (f : Nat → Int32) (r : Int → Int) (q s : Int) : List (Int × Int) := (lst (fun i : Nat => (i : Int) + sF (aI f (10 * q + 0))) (s - sF (aI f (10 * q + 0))).toNat).filterMap (fa1 f r q)
theorem fap_0 {f : Nat → Int32} {r : Int → Int} {q s : Int} (h : s = sF (aI f (10 * q + 0))) : fap f r q s = [] := by
  unfold fap
  rw [h, Int.sub_self]
  rfl
theorem fap_s {f : Nat → Int32} {r : Int → Int} {q s : Int} (h : sF (aI f (10 * q + 0)) ≤ s) : fap f r q (s + 1) = fap f r q s ++ [s].filterMap (fa1 f r q) := by
  unfold fap
  rw [show (s + 1 - sF (aI f (10 * q + 0))).toNat = (s - sF (aI f (10 * q + 0))).toNat + 1 from by omega, lst_s, List.filterMap_append]
  congr 2
  congr 1
  omega
theorem fap_y {f : Nat → Int32} {r : Int → Int} {q s : Int} (h : sF (aI f (10 * q + 0)) ≤ s) (hz : fzq f r q s = 1) : fap f r q (s + 1) = fap f r q s ++ [(q, s)] := by
  rw [fap_s h, filterMap_1s (show fa1 f r q s = some (q, s) from if_pos hz)]
theorem fap_n {f : Nat → Int32} {r : Int → Int} {q s : Int} (h : sF (aI f (10 * q + 0)) ≤ s) (hz : fzq f r q s ≠ 1) : fap f r q (s + 1) = fap f r q s := by
  rw [fap_s h, filterMap_1n2 (show fa1 f r q s = none from if_neg hz), List.append_nil]
theorem fap_l {f : Nat → Int32} {r : Int → Int} {q s : Int} (h : s = sL (aI f (10 * q + 0)) + 1) : fap f r q s = fas f r q := by
  unfold fap fas
  rw [subs_lst, h]
  congr 3
  omega
def alS (p : Int) (l : List (Int × Int)) : Int := if p = 0 then ((l.length : Nat) : Int) else match l with
  | [] => -1
  | y :: _ => if p = 1 then y.1 else y.2
def TrA (n i s : Int) (l : List (Int × Int)) : Prop := n = ((l.length : Nat) : Int) ∧ ((l = [] ∧ i = -2147483648 ∧ s = -2147483648) ∨ ∃ (y : Int × Int) (t : List (Int × Int)), l = y :: t ∧ i = y.1 ∧ s = y.2)
theorem TrA_0 : TrA 0 (-2147483648) (-2147483648) [] := ⟨rfl, Or.inl ⟨rfl, rfl, rfl⟩⟩
theorem TrA_n {n i s q u : Int} {l : List (Int × Int)} (h : TrA n i s l) (hn : n = 0) : TrA (n + 1) q u (l ++ [(q, u)]) := by
  obtain ⟨h1, -⟩ := h
  have e : l = [] := List.eq_nil_of_length_eq_zero (by omega)
  subst e
  rw [hn]
  exact ⟨rfl, Or.inr ⟨(q, u), [], rfl, rfl, rfl⟩⟩
theorem TrA_s {n i s : Int} {l : List (Int × Int)} (h : TrA n i s l) (hn : n ≠ 0) (x : Int × Int) : TrA (n + 1) i s (l ++ [x]) := by
  obtain ⟨h1, ⟨e, -⟩ | ⟨y, t, e, a, b⟩⟩ := h
  · rw [e] at h1; exact absurd h1 hn
  · refine ⟨?_, Or.inr ⟨y, t ++ [x], by rw [e]; rfl, a, b⟩⟩
    rw [List.length_append, List.length_singleton]
    omega
theorem alS_0 {n i s p : Int} {l : List (Int × Int)} (h : TrA n i s l) (hp : p = 0) : alS p l = n := (if_pos hp).trans h.1.symm
theorem alS_e {n i s p : Int} {l : List (Int × Int)} (h : TrA n i s l) (hp : p ≠ 0) (hn : n = 0) : alS p l = -1 := by
  obtain ⟨h1, -⟩ := h
  have e : l = [] := List.eq_nil_of_length_eq_zero (by omega)
  subst e
  exact if_neg hp
theorem alS_1 {n i s p : Int} {l : List (Int × Int)} (h : TrA n i s l) (hp : p = 1) (hn : n ≠ 0) : alS p l = i := by
  obtain ⟨h1, ⟨e, -⟩ | ⟨y, t, e, a, b⟩⟩ := h
  · rw [e] at h1; exact absurd h1 hn
  · rw [e, a]
    show (if p = 0 then _ else if p = 1 then y.1 else y.2) = _
    rw [if_neg (by omega), if_pos hp]
theorem alS_2 {n i s p : Int} {l : List (Int × Int)} (h : TrA n i s l) (hp : p = 2) (hn : n ≠ 0) : alS p l = s := by
  obtain ⟨h1, ⟨e, -⟩ | ⟨y, t, e, a, b⟩⟩ := h
  · rw [e] at h1; exact absurd h1 hn
  · rw [e, b]
    show (if p = 0 then _ else if p = 1 then y.1 else y.2) = _
    rw [if_neg (by omega), if_neg (by omega)]
/-- of the class's list -/
def fqL (l : List Qt) : List (Int × Int) := (l.filter (fun x => decide (x.2.2.2.2.2 = 1))).map (fun x => (x.1, x.2.1))
theorem fqL_cnt (l : List Qt) : (fqL l).length = l.countP (fun x => decide (x.2.2.2.2.2 = 1)) := by
  unfold fqL
  rw [List.length_map, List.countP_eq_length_filter]
theorem hv_qL5 (G : XG) (F : Nat → Nat → Nat) (a : Nat) : hv (aI (G.2.1 (F a 5))) 0 1 ((G.1 a 6).toInt) = (((fqL (qL G F a)).length : Nat) : Int) := by
  rw [hv_eq, fqL_cnt]
  exact hvR_cnt _ _ _ 1 _ (fun i _ => by
    show decide ((G.2.1 (F a 5) i).toInt = 1) = true ↔ _
    exact decide_eq_true_iff)
theorem fil_nil {α : Type} {p : α → Bool} : ∀ {l : List α}, (∀ (j : Nat) (x : α), l[j]? = some x → p x = false) → l.filter p = []
  | [], _ => rfl
  | y :: l, h => by
    have h0 := h 0 y rfl
    rw [List.filter_cons_of_neg (by rw [h0]; decide)]
    exact fil_nil (fun j x hj => h (j + 1) x hj)
theorem fil_hd {α : Type} {p : α → Bool} : ∀ {l : List α} {n : Nat} {y : α}, l[n]? = some y → p y = true → (∀ (j : Nat) (x : α), j < n → l[j]? = some x → p x = false) → ∃ t, l.filter p = y :: t
  | [], n, y, h, _, _ => by cases n <;> cases h
  | z :: l, 0, y, h, hy, _ => by
    have e : z = y := Option.some.inj h
    subst e
    exact ⟨_, List.filter_cons_of_pos hy⟩
  | z :: l, n + 1, y, h, hy, hj => by
    have h0 := hj 0 z (by omega) rfl
    rw [List.filter_cons_of_neg (by rw [h0]; decide)]
    exact fil_hd (l := l) (n := n) h hy (fun j x a b => hj (j + 1) x (by omega) b)
theorem ff_none {G : XG} {F : Nat → Nat → Nat} {a : Nat} {r : Int} (hr : r = -1) (h2 : ∀ j : Int, 0 ≤ j → j < (G.1 a 6).toInt → (r = -1 ∨ j < r) → aI (G.2.1 (F a 5)) j = 0) : fqL (qL G F a) = [] := by
  unfold fqL
  rw [fil_nil (fun j x hj => by
    obtain ⟨hl, rfl⟩ := qL_get hj
    have := h2 (j : Int) (by omega) hl (Or.inl hr)
    have e : (G.2.1 (F a 5) j).toInt = 0 := this
    show decide ((G.2.1 (F a 5) j).toInt = 1) = false
    rw [e]; rfl)]
  rfl
theorem ff_some {G : XG} {F : Nat → Nat → Nat} {a : Nat} {r : Int} (hr : r ≠ -1) (h1 : r = -1 ∨ (0 ≤ r ∧ r < (G.1 a 6).toInt ∧ aI (G.2.1 (F a 5)) r = 1)) (h2 : ∀ j : Int, 0 ≤ j → j < (G.1 a 6).toInt → (r = -1 ∨ j < r) → aI (G.2.1 (F a 5)) j = 0) : ∃ t, fqL (qL G F a) = (aI (G.2.1 (F a 0)) r, aI (G.2.1 (F a 1)) r) :: t := by
  obtain ⟨a0, a1, a2⟩ := h1.resolve_left hr
  have hg := qL_at (G := G) (F := F) (a := a) (z := r) ⟨a0, a1⟩
  obtain ⟨t, ht⟩ := fil_hd (p := fun x : Qt => decide (x.2.2.2.2.2 = 1)) hg (decide_eq_true a2) (fun j x hj hx => by
    obtain ⟨hl, rfl⟩ := qL_get hx
    have := h2 (j : Int) (by omega) hl (Or.inr (by omega))
    have e : (G.2.1 (F a 5) j).toInt = 0 := this
    show decide ((G.2.1 (F a 5) j).toInt = 1) = false
    rw [e]; rfl)
  refine ⟨t.map (fun x => (x.1, x.2.1)), ?_⟩
  unfold fqL
  rw [ht]
  rfl
theorem alS_len {p : Int} {l : List (Int × Int)} (hp : p = 0) : alS p l = ((l.length : Nat) : Int) := if_pos hp
theorem alS_nil {p : Int} {l : List (Int × Int)} (hp : p ≠ 0) (h : l = []) : alS p l = -1 := by
  subst h
  exact if_neg hp
theorem alS_c1 {p q u : Int} {l t : List (Int × Int)} (hp : p = 1) (h : l = (q, u) :: t) : alS p l = q := by
  subst h
  show (if p = 0 then _ else if p = 1 then q else u) = _
  rw [if_neg (by omega), if_pos hp]
theorem alS_c2 {p q u : Int} {l t : List (Int × Int)} (hp : p = 2) (h : l = (q, u) :: t) : alS p l = u := by
  subst h
  show (if p = 0 then _ else if p = 1 then q else u) = _
  rw [if_neg (by omega), if_neg (by omega)]
/-! what the queue tells -/
noncomputable def quM (f : Nat → Int32) (mn mb : Int → Int) (y : Int × Int) (w : Int) : Int := if w = 0 then y.1 else if w = 1 then y.2 else if w = 2 then stt mb (aI f (10 * y.1 + 0)) (aI f (10 * y.1 + 1)) (aI f (10 * y.1 + 2)) (aI f (10 * y.1 + 3)) y.2 else if w = 3 then stt mn (aI f (10 * y.1 + 0)) (aI f (10 * y.1 + 1)) (aI f (10 * y.1 + 2)) (aI f (10 * y.1 + 3)) y.2 else if w = 4 then fzq f mn y.1 y.2 else -2147483648
theorem quM_0 {f : Nat → Int32} {mn mb : Int → Int} {y : Int × Int} {w : Int} (h : w = 0) : quM f mn mb y w = y.1 := if_pos h
theorem quM_1 {f : Nat → Int32} {mn mb : Int → Int} {y : Int × Int} {w : Int} (h : w = 1) : quM f mn mb y w = y.2 := by
  subst h; rfl
theorem quM_2 {f : Nat → Int32} {mn mb : Int → Int} {y : Int × Int} {w : Int} (h : w = 2) : quM f mn mb y w = stt mb (aI f (10 * y.1 + 0)) (aI f (10 * y.1 + 1)) (aI f (10 * y.1 + 2)) (aI f (10 * y.1 + 3)) y.2 := by
  subst h; rfl
theorem quM_3 {f : Nat → Int32} {mn mb : Int → Int} {y : Int × Int} {w : Int} (h : w = 3) : quM f mn mb y w = stt mn (aI f (10 * y.1 + 0)) (aI f (10 * y.1 + 1)) (aI f (10 * y.1 + 2)) (aI f (10 * y.1 + 3)) y.2 := by
  subst h; rfl
theorem quM_4 {f : Nat → Int32} {mn mb : Int → Int} {y : Int × Int} {w : Int} (h : w = 4) : quM f mn mb y w = fzq f mn y.1 y.2 := by
  subst h; rfl
theorem quM_o {f : Nat → Int32} {mn mb : Int → Int} {y : Int × Int} {w : Int} (h : w < 0 ∨ 4 < w) : quM f mn mb y w = -2147483648 := by
  unfold quM
  rw [if_neg (by omega), if_neg (by omega), if_neg (by omega), if_neg (by omega), if_neg (by omega)]
/-! where rules begin in a list that keeps those of a rule together -/
def stN (g : Int → Int) : Nat → Int
  | 0 => 0
  | n + 1 => stN g n + (if n = 0 ∨ g (n : Int) ≠ g ((n : Int) - 1) then 1 else 0)
def stF (g : Int → Int) (z : Int) : Int := stN g z.toNat
theorem stF_0 (g : Int → Int) : stF g 0 = 0 := rfl
theorem stF_s {g : Int → Int} {z : Int} (h : 0 ≤ z) : (z = 0 ∨ g z ≠ g (z - 1) → stF g (z + 1) = stF g z + 1) ∧ (¬ (z = 0 ∨ g z ≠ g (z - 1)) → stF g (z + 1) = stF g z) := by
  obtain ⟨n, rfl⟩ : ∃ n : Nat, z = (n : Int) := ⟨z.toNat, by omega⟩
  have e : stF g ((n : Int) + 1) = stF g (n : Int) + (if n = 0 ∨ g (n : Int) ≠ g ((n : Int) - 1) then 1 else 0) := by
    unfold stF
    rw [show ((n : Int) + 1).toNat = n + 1 from by omega, show ((n : Int)).toNat = n from by omega]
    rfl
  rw [e]
  constructor
  · intro q
    rw [if_pos (q.imp (fun a => by omega) id)]
  · intro q
    rw [if_neg (fun a => q (a.imp (fun b => by omega) id))]
    omega
theorem stF_run {g : Int → Int} {s e : Int} (h : 0 ≤ s ∧ s < e) (hs : s = 0 ∨ g s ≠ g (s - 1)) (hr : ∀ j : Int, s ≤ j → j < e → g j = g s) : stF g e = stF g s + 1 := by
  obtain ⟨n, hn⟩ : ∃ n : Nat, e = s + 1 + (n : Int) := ⟨(e - s - 1).toNat, by omega⟩
  have h0 : 0 ≤ s := h.1
  clear h
  induction n generalizing e with
  | zero =>
    rw [hn, show s + 1 + ((0 : Nat) : Int) = s + 1 from by omega]
    exact (stF_s h0).1 hs
  | succ n ih =>
    have e1 : e = (s + 1 + (n : Int)) + 1 := by omega
    have i1 := ih (e := s + 1 + (n : Int)) (fun j a b => hr j a (by omega)) rfl
    have e2 := hr (s + 1 + (n : Int)) (by omega) (by omega)
    have e3 := hr (s + 1 + (n : Int) - 1) (by omega) (by omega)
    rw [e1, ← i1]
    exact (stF_s (by omega)).2 (fun q => q.elim (fun a => by omega) (fun a => a (e2.trans e3.symm)))
def GrC (g : Int → Int) (n i w r : Int) : Prop := (i = -1 ∧ r = stF g n) ∨ (i ≠ -1 ∧ (i < 0 ∨ stF g n ≤ i) ∧ r = -1) ∨ (∃ s : Int, (0 ≤ s ∧ s < n) ∧ (s = 0 ∨ g s ≠ g (s - 1)) ∧ stF g s = i ∧ ((w = 0 ∧ r = g s) ∨ (w ≠ 0 ∧ r = hv g 0 (g s) n)))
def GrM (g : Int → Int) (n i w r : Int) : Prop := (i = -1 ∧ r = stF g n) ∨ (i ≠ -1 ∧ (i < 0 ∨ stF g n ≤ i) ∧ r = -1) ∨ (∃ s e : Int, (0 ≤ s ∧ s < e ∧ e ≤ n) ∧ (s = 0 ∨ g s ≠ g (s - 1)) ∧ stF g s = i ∧ (∀ j : Int, s ≤ j → j < e → g j = g s) ∧ (e = n ∨ g e ≠ g s) ∧ ((w = 0 ∧ r = g s) ∨ (w ≠ 0 ∧ r = e - s)))
def nth1 (l : List (Int × Int)) (j : Int) : Int := ((l[j.toNat]?).map Prod.fst).getD 0
theorem nth1_some {l : List (Int × Int)} {j : Int} {y : Int × Int} (h : l[j.toNat]? = some y) : nth1 l j = y.1 := congrArg (fun o : Option (Int × Int) => (o.map Prod.fst).getD 0) h
theorem nth1_pL {G : XG} {F : Nat → Nat → Nat} {a : Nat} {j : Int} (h : 0 ≤ j ∧ j < (G.1 a 19).toInt) : nth1 (pL G F a) j = aI (G.2.1 (F a 17)) j := nth1_some (pL_at h)
theorem stN_congr {g h : Int → Int} : ∀ n : Nat, (∀ j : Int, 0 ≤ j → j < (n : Int) → g j = h j) → stN g n = stN h n
  | 0, _ => rfl
  | n + 1, q => by
    show stN g n + (if n = 0 ∨ g (n : Int) ≠ g ((n : Int) - 1) then 1 else 0) = stN h n + (if n = 0 ∨ h (n : Int) ≠ h ((n : Int) - 1) then 1 else 0)
    rw [stN_congr n (fun j a b => q j a (by omega)), q (n : Int) (by omega) (by omega)]
    by_cases z : n = 0
    · rw [if_pos (Or.inl z), if_pos (Or.inl z)]
    · rw [q ((n : Int) - 1) (by omega) (by omega)]
theorem stF_congr {g h : Int → Int} {n : Int} (q : ∀ j : Int, 0 ≤ j → j < n → g j = h j) : stF g n = stF h n := stN_congr n.toNat (fun j a b => q j a (by omega))
theorem GrM_congr {g h : Int → Int} {n i w r : Int} (q : ∀ j : Int, 0 ≤ j → j < n → g j = h j) (x : GrM g n i w r) : GrM h n i w r := by
  rcases x with ⟨a, b⟩ | ⟨a, b, c⟩ | ⟨s, e, ⟨s0, s1, s2⟩, b, c, d, e1, f⟩
  · exact Or.inl ⟨a, by rw [b, stF_congr q]⟩
  · exact Or.inr (Or.inl ⟨a, by rw [← stF_congr q]; exact b, c⟩)
  · refine Or.inr (Or.inr ⟨s, e, ⟨s0, s1, s2⟩, ?_, ?_, ?_, ?_, ?_⟩)
    · by_cases z : s = 0
      · exact Or.inl z
      · rw [← q s s0 (by omega), ← q (s - 1) (by omega) (by omega)]; exact b
    · rw [← stF_congr (g := g) (h := h) (n := s) (fun j a1 a2 => q j a1 (by omega))]; exact c
    · intro j a1 a2
      rw [← q j (by omega) (by omega), ← q s s0 (by omega)]
      exact d j a1 a2
    · by_cases z : e = n
      · exact Or.inl z
      · rw [← q e (by omega) (by omega), ← q s s0 (by omega)]; exact e1
    · rw [← q s s0 (by omega)]; exact f
