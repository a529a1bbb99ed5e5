/-! ===== what class and reference tell of a question ===== -/
theorem no_rule {K : Nat → Nat} {F : Nat → Nat → Nat} {G : XG} {b : Nat} {f : Nat → Int32} {p : Int} (h : A_book K F G b f) (a : (p < 0 ∨ 12 ≤ p) ∨ G.2.2.1 (F b 0) p.toNat = none) : ¬ (0 ≤ p ∧ p ≤ 11 ∧ aI f (10 * p + 0) ≠ -1) := by
  rintro ⟨x1, x2, x3⟩
  rcases h.2.2.2.2.2.nat (r := p) (by omega) with ⟨-, c⟩ | ⟨y, c, -⟩
  · exact x3 c
  · rcases a with a | a
    · omega
    · rw [a] at c; cases c
theorem is_rule {K : Nat → Nat} {F : Nat → Nat → Nat} {G : XG} {b q : Nat} {f : Nat → Int32} {p : Int} (h : A_book K F G b f) (hp : 0 ≤ p ∧ p < 12) (a : G.2.2.1 (F b 0) p.toNat = some q) : (0 ≤ p ∧ p ≤ 11 ∧ aI f (10 * p + 0) ≠ -1) ∧ RQ f p (G.1 q) := by
  rcases h.2.2.2.2.2.nat hp with ⟨c, -⟩ | ⟨y, c, d, e⟩
  · rw [a] at c; cases c
  · rw [a] at c
    have := Option.some.inj c
    subst this
    exact ⟨⟨hp.1, by omega, d⟩, e⟩
theorem question_all {K : Nat → Nat} {F : Nat → Nat → Nat} {G : XG} {b : Nat} {f : Nat → Int32} {vn mn : Int → Int} {p s w r r1 : Int} (h : A_book K F G b f) (hn : vn = mn)
    (t : (((p < 0 ∨ 12 ≤ p) ∨ G.2.2.1 (F b 0) p.toNat = none) ∧ r = -2147483648) ∨ (∃ q : Nat, ((0 ≤ p ∧ p < 12) ∧ G.2.2.1 (F b 0) p.toNat = some q) ∧ r = quS vn (G.1 q 0).toInt (G.1 q 2).toInt (G.1 q 3).toInt (G.1 q 4).toInt (G.1 q 5).toInt (G.1 q 6).toInt s w))
    (t2 : (¬ (0 ≤ p ∧ p ≤ 11 ∧ aI f (10 * p + 0) ≠ -1) ∧ r1 = -2147483648) ∨ ((0 ≤ p ∧ p ≤ 11 ∧ aI f (10 * p + 0) ≠ -1) ∧ r1 = quS mn (aI f (10 * p + 0)) (aI f (10 * p + 1)) (aI f (10 * p + 2)) (aI f (10 * p + 3)) (aI f (10 * p + 4)) (aI f (10 * p + 5)) s w)) : r = r1 := by
  subst hn
  rcases t with ⟨a, e⟩ | ⟨q, ⟨hp, hq⟩, e⟩
  · rcases t2 with ⟨-, e2⟩ | ⟨b1, -⟩
    · exact e.trans e2.symm
    · exact absurd b1 (no_rule h a)
  · obtain ⟨i1, k0, -, k2, k3, k4, k5, k6, -⟩ := is_rule h hp hq
    rcases t2 with ⟨b1, -⟩ | ⟨-, e2⟩
    · exact absurd i1 b1
    · rw [e, e2, k0, k2, k3, k4, k5, k6]
theorem depth_all {K : Nat → Nat} {F : Nat → Nat → Nat} {G : XG} {b : Nat} {f : Nat → Int32} {vn mn : Int → Int} {p s r r1 : Int} (h : A_book K F G b f) (hn : vn = mn)
    (t : (((p < 0 ∨ 12 ≤ p) ∨ G.2.2.1 (F b 0) p.toNat = none) ∧ r = -1) ∨ (∃ q : Nat, ((0 ≤ p ∧ p < 12) ∧ G.2.2.1 (F b 0) p.toNat = some q) ∧ r = dpS vn (G.1 q 0).toInt (G.1 q 2).toInt (G.1 q 3).toInt s))
    (t2 : (¬ (0 ≤ p ∧ p ≤ 11 ∧ aI f (10 * p + 0) ≠ -1) ∧ r1 = -1) ∨ ((0 ≤ p ∧ p ≤ 11 ∧ aI f (10 * p + 0) ≠ -1) ∧ r1 = dpS mn (aI f (10 * p + 0)) (aI f (10 * p + 1)) (aI f (10 * p + 2)) s)) : r = r1 := by
  subst hn
  rcases t with ⟨a, e⟩ | ⟨q, ⟨hp, hq⟩, e⟩
  · rcases t2 with ⟨-, e2⟩ | ⟨b1, -⟩
    · exact e.trans e2.symm
    · exact absurd b1 (no_rule h a)
  · obtain ⟨i1, k0, -, k2, k3, -⟩ := is_rule h hp hq
    rcases t2 with ⟨b1, -⟩ | ⟨-, e2⟩
    · exact absurd i1 b1
    · rw [e, e2, k0, k2, k3]
theorem least_all {K : Nat → Nat} {F : Nat → Nat → Nat} {G : XG} {b : Nat} {f : Nat → Int32} {vn mn : Int → Int} {t k c r r1 : Int} (h : A_book K F G b f) (hn : vn = mn)
    (x : (¬ (cel vn t k 0 ≠ -2000 ∧ 0 ≤ c ∧ c < 3) ∧ r = -2147483648) ∨ ((cel vn t k 0 ≠ -2000 ∧ 0 ≤ c ∧ c < 3) ∧ LsS (fun v => ffL (gaL G (G.2.2.1 (F b 1)) vn (rset vn (90 * t + 30 * c + k) v) 0 ((G.1 b 2).toInt).toNat) = -1) (cel vn t k c) r))
    (y : (¬ (cel mn t k 0 ≠ -2000 ∧ 0 ≤ c ∧ c < 3) ∧ r1 = -2147483648) ∨ ((cel mn t k 0 ≠ -2000 ∧ 0 ≤ c ∧ c < 3) ∧ LsS (fun v => ffP f (rset mn (90 * t + 30 * c + k) v) (fuO f mn (rset mn (90 * t + 30 * c + k) v) 2) = -1) (cel mn t k c) r1)) : r = r1 := by
  subst hn
  rcases x with ⟨a, e⟩ | ⟨a, e⟩
  · rcases y with ⟨-, e2⟩ | ⟨a2, -⟩
    · exact e.trans e2.symm
    · exact absurd a2 a
  · rcases y with ⟨a2, -⟩ | ⟨-, e2⟩
    · exact absurd a a2
    · refine LsS_eq e e2 (fun v => ?_)
      show ffL (gaL G (G.2.2.1 (F b 1)) vn (rset vn (90 * t + 30 * c + k) v) 0 ((G.1 b 2).toInt).toNat) = -1 ↔ ffP f (rset vn (90 * t + 30 * c + k) v) (fuO f vn (rset vn (90 * t + 30 * c + k) v) 2) = -1
      rw [gaL_fuO h.2.2.2.2.2 h.1 (Or.inl rfl), lw_0]
      have q := (ffT_iff (f := f) (r1 := vn) (r2 := rset vn (90 * t + 30 * c + k) v) (l := fuO f vn (rset vn (90 * t + 30 * c + k) v) 2)).trans ffP_iff.symm
      constructor
      · intro g
        apply Classical.byContradiction
        intro n
        exact q.mpr n g
      · intro g
        apply Classical.byContradiction
        intro n
        exact q.mp n g
/-! all that fail: those of the class's list, and those of the reference's -/
theorem fil_fm {f : Nat → Int32} {r : Int → Int} {q : Int} (l : List Int) (h : ∀ s, s ∈ l → fzq f r q s = 1 → stt v0 (aI f (10 * q + 0)) (aI f (10 * q + 1)) (aI f (10 * q + 2)) (aI f (10 * q + 3)) s ≠ stt r (aI f (10 * q + 0)) (aI f (10 * q + 1)) (aI f (10 * q + 2)) (aI f (10 * q + 3)) s) : (l.filterMap (fu1 f v0 r q)).filter (fun y => decide (fzq f r y.1 y.2 = 1)) = l.filterMap (fa1 f r q) := by
  induction l with
  | nil => rfl
  | cons s l ih =>
    have ih := ih (fun x hx => h x (List.mem_cons_of_mem _ hx))
    by_cases z : fzq f r q s = 1
    · have u := h s (List.mem_cons.mpr (Or.inl rfl)) z
      rw [List.filterMap_cons_some (show fu1 f v0 r q s = some (q, s) from if_pos u), List.filterMap_cons_some (show fa1 f r q s = some (q, s) from if_pos z), List.filter_cons_of_pos (by exact decide_eq_true z), ih]
    · rw [List.filterMap_cons_none (show fa1 f r q s = none from if_neg z)]
      cases hu : fu1 f v0 r q s with
      | none =>
        rw [List.filterMap_cons_none hu]
        exact ih
      | some y =>
        have e : (q, s) = y := by
          have hu2 := hu
          unfold fu1 at hu2
          split at hu2
          · exact Option.some.inj hu2
          · cases hu2
        subst e
        rw [List.filterMap_cons_some hu, List.filter_cons_of_neg (p := fun y : Int × Int => decide (fzq f r y.1 y.2 = 1)) (a := (q, s)) (fun e => z (of_decide_eq_true (show decide (fzq f r q s = 1) = true from e)))]
        exact ih
theorem faL_fuL {f : Nat → Int32} {r : Int → Int} (hR : RV f) (o : Nat → Nat) : ∀ n : Nat, (∀ i, i < n → o i < 12) → (fuL f v0 r 2 o n).filter (fun y => decide (fzq f r y.1 y.2 = 1)) = faL f r o n
  | 0, _ => rfl
  | n + 1, h => by
    rw [fuL_s, faL_s, List.filter_append, faL_fuL hR o n (fun i hi => h i (by omega))]
    congr 1
    have hn := h n (by omega)
    unfold fus fas
    rw [if_pos (Or.inl rfl)]
    exact fil_fm _ (fun s hs hz => fz_v0 hR (by omega) ((subs_mem _ _).mp hs) (by rw [hz]; decide))
theorem fq_all {f : Nat → Int32} {r : Int → Int} (hR : RV f) : fqL ((fuO f v0 r 2).map (tqq f v0 r)) = faO f r := by
  unfold fqL
  rw [List.filter_map, List.map_map]
  have e1 : ((fun x : Qt => (x.1, x.2.1)) ∘ tqq f v0 r) = id := by
    funext y
    rfl
  rw [e1, List.map_id]
  exact faL_fuL hR _ _ (fun i hi => (ordN_in (prM f) (rkM f) 12 i hi).1)
theorem all_all {K : Nat → Nat} {F : Nat → Nat → Nat} {G : XG} {b : Nat} {f : Nat → Int32} {vz vn mn : Int → Int} {p r r1 : Int} (h : A_book K F G b f) (hn : vn = mn) (h0 : vz = v0)
    (x : ((p < 0 ∨ 2 < p) ∧ r = -2147483648) ∨ ((0 ≤ p ∧ p ≤ 2) ∧ r = alS p (fqL (gaL G (G.2.2.1 (F b 1)) vz vn 0 ((G.1 b 2).toInt).toNat))))
    (y : (¬ (0 ≤ p ∧ p ≤ 2) ∧ r1 = -2147483648) ∨ ((0 ≤ p ∧ p ≤ 2) ∧ r1 = alS p (faO f mn))) : r = r1 := by
  subst hn h0
  rcases x with ⟨a, e⟩ | ⟨a, e⟩
  · rcases y with ⟨-, e2⟩ | ⟨a2, -⟩
    · exact e.trans e2.symm
    · omega
  · rcases y with ⟨a2, -⟩ | ⟨-, e2⟩
    · exact absurd a a2
    · rw [e, e2, gaL_fuO h.2.2.2.2.2 h.1 (Or.inl rfl), lw_0, fq_all h.2.2.2.2.1]
/-! a value, or an exception -/
theorem val_all {L : Nat → Int64} {vn mn : Int → Int} {t k c d : Int} {r1 r2 r3 : Int32} (hn : vn = mn)
    (x : (r1.toInt = 1 ∧ (cel vn t k 0 = -2000 ∨ c < 0 ∨ 3 ≤ c)) ∨ (r1.toInt = 0 ∧ ∃ y : Int32, L 0 = y.toInt64 ∧ y.toInt = cel vn t k c ∧ cel vn t k 0 ≠ -2000 ∧ 0 ≤ c ∧ c < 3))
    (y : (cel mn t k 0 ≠ -2000 ∧ 0 ≤ c ∧ c < 3 ∧ d = 0 ∧ r2.toInt = cel mn t k c) ∨ ((cel mn t k 0 = -2000 ∨ c < 0 ∨ 3 ≤ c) ∧ d = 1 ∧ r2.toInt = 0)) (z : r3.toInt = d) : r3.toInt = r1.toInt ∧ (r1.toInt = 0 → L 0 = r2.toInt64) := by
  subst hn
  rcases x with ⟨a, b⟩ | ⟨a, w, hw, e, b⟩
  · refine ⟨?_, fun g => absurd (g.symm.trans a) (by decide)⟩
    rcases y with ⟨h1, h2, h3, -, -⟩ | ⟨-, h2, -⟩
    · omega
    · omega
  · rcases y with ⟨-, -, -, h4, h5⟩ | ⟨h1, -, -⟩
    · refine ⟨by omega, fun _ => ?_⟩
      have e2 : w = r2 := Int32.toInt_inj.mp (e.trans h5.symm)
      rw [hw, e2]
    · omega
theorem que_all {G : XG} {F : Nat → Nat → Nat} {a : Nat} {L : Nat → Int64} {f : Nat → Int32} {vn vb mn mb : Int → Int} {op op2 p w d : Int} {r1 r2 r3 : Int32} (ho : op = op2) (hn : vn = mn) (hb : op ≠ 0 → vb = mb) (hw : A_wait op f vb vn (qL G F a)) (h0 : 0 ≤ (G.1 a 6).toInt)
    (x : (r1.toInt = 1 ∧ (p < 0 ∨ (G.1 a 6).toInt ≤ p)) ∨ (r1.toInt = 0 ∧ ∃ y : Int32, L 0 = y.toInt64 ∧ (0 ≤ p ∧ p < (G.1 a 6).toInt) ∧ ((w = 0 ∧ y.toInt = aI (G.2.1 (F a 0)) p) ∨ (w = 1 ∧ y.toInt = aI (G.2.1 (F a 1)) p) ∨ (w = 2 ∧ y.toInt = aI (G.2.1 (F a 2)) p) ∨ (w = 3 ∧ y.toInt = aI (G.2.1 (F a 3)) p) ∨ (w = 4 ∧ y.toInt = aI (G.2.1 (F a 5)) p) ∨ ((w < 0 ∨ 4 < w) ∧ y.toInt = -2147483648))))
    (y : (¬ (0 ≤ p ∧ p < (((if op2 = 0 then [] else fuO f mn mb 1).length : Nat) : Int)) ∧ d = 1 ∧ r2.toInt = 0) ∨ (∃ y : Int × Int, 0 ≤ p ∧ (if op2 = 0 then [] else fuO f mn mb 1)[p.toNat]? = some y ∧ d = 0 ∧ r2.toInt = quM f mn mb y w)) (z : r3.toInt = d) : r3.toInt = r1.toInt ∧ (r1.toInt = 0 → L 0 = r2.toInt64) := by
  subst ho hn
  have hl := qL_len G F a
  by_cases o : op = 0
  · rw [if_pos o] at y
    rw [hw.1 o] at hl
    have hl : (0 : Nat) = (G.1 a 6).toInt.toNat := hl
    rcases y with ⟨-, e2, -⟩ | ⟨q, -, hq, -, -⟩
    · rcases x with ⟨e1, -⟩ | ⟨-, -, -, hp, -⟩
      · exact ⟨by omega, fun g => absurd (g.symm.trans e1) (by decide)⟩
      · exfalso; omega
    · rw [List.getElem?_nil] at hq; cases hq
  · have hb := hb o
    subst hb
    rw [if_neg o] at y
    have hW : qL G F a = (fuO f vn vb 1).map (tqq f vb vn) := by rw [hw.2 o, fuO_comm f vb vn 1]
    rw [hW, List.length_map] at hl
    rcases y with ⟨b, e2, -⟩ | ⟨q, p0, hq, e2, e3⟩
    · rcases x with ⟨e1, -⟩ | ⟨-, -, -, hp, -⟩
      · exact ⟨by omega, fun g => absurd (g.symm.trans e1) (by decide)⟩
      · exact absurd ⟨hp.1, by omega⟩ b
    · obtain ⟨hi, -⟩ := List.getElem?_eq_some_iff.mp hq
      rcases x with ⟨-, b⟩ | ⟨e1, v, hv, hp, hc⟩
      · exfalso; omega
      · refine ⟨by omega, fun _ => ?_⟩
        have h1 := qL_at (G := G) (F := F) (a := a) (z := p) hp
        rw [hW, List.getElem?_map, hq] at h1
        have h2 := Option.some.inj h1
        have c0 : q.1 = aI (G.2.1 (F a 0)) p := congrArg (fun x : Qt => x.1) h2
        have c1 : q.2 = aI (G.2.1 (F a 1)) p := congrArg (fun x : Qt => x.2.1) h2
        have c2 : stt vb (aI f (10 * q.1 + 0)) (aI f (10 * q.1 + 1)) (aI f (10 * q.1 + 2)) (aI f (10 * q.1 + 3)) q.2 = aI (G.2.1 (F a 2)) p := congrArg (fun x : Qt => x.2.2.1) h2
        have c3 : stt vn (aI f (10 * q.1 + 0)) (aI f (10 * q.1 + 1)) (aI f (10 * q.1 + 2)) (aI f (10 * q.1 + 3)) q.2 = aI (G.2.1 (F a 3)) p := congrArg (fun x : Qt => x.2.2.2.1) h2
        have c5 : fzq f vn q.1 q.2 = aI (G.2.1 (F a 5)) p := congrArg (fun x : Qt => x.2.2.2.2.2) h2
        have e : v = r2 := by
          apply Int32.toInt_inj.mp
          rw [e3]
          rcases hc with ⟨w0, k⟩ | ⟨w0, k⟩ | ⟨w0, k⟩ | ⟨w0, k⟩ | ⟨w0, k⟩ | ⟨w0, k⟩
          · rw [quM_0 w0, k, c0]
          · rw [quM_1 w0, k, c1]
          · rw [quM_2 w0, k, c2]
          · rw [quM_3 w0, k, c3]
          · rw [quM_4 w0, k, c5]
          · rw [quM_o w0, k]
        rw [hv, e]
/-! the groups of the queue -/
theorem ordN_inj (pr : Nat → Bool) (rk : Nat → Int) (n : Nat) : ∀ i j : Nat, i < (ordN pr rk n).1 → j < (ordN pr rk n).1 → (ordN pr rk n).2 i = (ordN pr rk n).2 j → i = j := by
  induction n with
  | zero => intro i j hi; exact absurd hi (Nat.not_lt_zero i)
  | succ n ih =>
    intro i j hi hj h
    by_cases hp : pr n = true
    · have e : ordN pr rk (n + 1) = ((ordN pr rk n).1 + 1, insF (ordN pr rk n).2 (posR (fun i => rk ((ordN pr rk n).2 i)) (rk n) (ordN pr rk n).1) n) := if_pos hp
      rw [e] at hi hj h
      have hi : i < (ordN pr rk n).1 + 1 := hi
      have hj : j < (ordN pr rk n).1 + 1 := hj
      have pl := posR_le (fun i => rk ((ordN pr rk n).2 i)) (rk n) (ordN pr rk n).1
      generalize posR (fun i => rk ((ordN pr rk n).2 i)) (rk n) (ordN pr rk n).1 = p at *
      have h : insF (ordN pr rk n).2 p n i = insF (ordN pr rk n).2 p n j := h
      have hl : ∀ k : Nat, k < (ordN pr rk n).1 → (ordN pr rk n).2 k < n := fun k hk => (ordN_in pr rk n k hk).1
      unfold insF at h
      by_cases a1 : i < p
      · rw [if_pos a1] at h
        have l1 := hl i (by omega)
        by_cases b1 : j < p
        · rw [if_pos b1] at h; exact ih i j (by omega) (by omega) h
        · rw [if_neg b1] at h
          by_cases b2 : j = p
          · rw [if_pos b2] at h; omega
          · rw [if_neg b2] at h
            have := ih i (j - 1) (by omega) (by omega) h
            omega
      · rw [if_neg a1] at h
        by_cases a2 : i = p
        · rw [if_pos a2] at h
          by_cases b1 : j < p
          · rw [if_pos b1] at h
            have l1 := hl j (by omega)
            omega
          · rw [if_neg b1] at h
            by_cases b2 : j = p
            · omega
            · rw [if_neg b2] at h
              have l1 := hl (j - 1) (by omega)
              omega
        · rw [if_neg a2] at h
          have l0 := hl (i - 1) (by omega)
          by_cases b1 : j < p
          · rw [if_pos b1] at h
            have := ih (i - 1) j (by omega) (by omega) h
            omega
          · rw [if_neg b1] at h
            by_cases b2 : j = p
            · rw [if_pos b2] at h; omega
            · rw [if_neg b2] at h
              have := ih (i - 1) (j - 1) (by omega) (by omega) h
              omega
    · have e : ordN pr rk (n + 1) = ordN pr rk n := if_neg hp
      rw [e] at hi hj h
      exact ih i j hi hj h
def GRl (l : List (Int × Int)) : Prop := ∀ (i j k : Nat) (x y z : Int × Int), i < j → j < k → l[i]? = some x → l[j]? = some y → l[k]? = some z → x.1 = z.1 → y.1 = x.1
theorem GRl_app {l t : List (Int × Int)} {q : Int} (h : GRl l) (h1 : ∀ x, x ∈ l → x.1 ≠ q) (h2 : ∀ x, x ∈ t → x.1 = q) : GRl (l ++ t) := by
  intro i j k x y z ij jk hi hj hk e
  by_cases a : k < l.length
  · rw [List.getElem?_append_left (by omega)] at hi
    rw [List.getElem?_append_left (by omega)] at hj
    rw [List.getElem?_append_left a] at hk
    exact h i j k x y z ij jk hi hj hk e
  · rw [List.getElem?_append_right (by omega)] at hk
    have ez := h2 z (List.mem_of_getElem? hk)
    by_cases b : i < l.length
    · rw [List.getElem?_append_left b] at hi
      exact absurd (e.trans ez) (h1 x (List.mem_of_getElem? hi))
    · rw [List.getElem?_append_right (by omega)] at hi
      rw [List.getElem?_append_right (by omega)] at hj
      rw [h2 y (List.mem_of_getElem? hj), h2 x (List.mem_of_getElem? hi)]
theorem fus_fst {f : Nat → Int32} {r1 r2 : Int → Int} {late q : Int} {x : Int × Int} (h : x ∈ fus f r1 r2 late q) : x.1 = q := by
  unfold fus at h
  split at h
  · exact (fu_mem.mp h).1
  · exact absurd h List.not_mem_nil
theorem fuL_GR {f : Nat → Int32} {r1 r2 : Int → Int} {late : Int} {o : Nat → Nat} : ∀ n : Nat, (∀ i j, i < n → j < n → o i = o j → i = j) → GRl (fuL f r1 r2 late o n)
  | 0, _ => fun i j k x y z _ _ hi => by
    rw [show fuL f r1 r2 late o 0 = [] from rfl, List.getElem?_nil] at hi
    cases hi
  | n + 1, h => by
    rw [fuL_s]
    refine GRl_app (q := ((o n : Nat) : Int)) (fuL_GR n (fun i j a b c => h i j (by omega) (by omega) c)) (fun x hx => ?_) (fun x hx => fus_fst hx)
    obtain ⟨i, hi, hm⟩ := (fuL_mem n).mp hx
    have e := fus_fst hm
    intro q
    have e2 : o i = o n := by omega
    exact absurd (h i n (by omega) (by omega) e2) (by omega)
theorem fuO_GR (f : Nat → Int32) (r1 r2 : Int → Int) (late : Int) : GRl (fuO f r1 r2 late) := fuL_GR _ (fun i j a b c => ordN_inj (prM f) (rkM f) 12 i j a b c)
theorem nth1_get {l : List (Int × Int)} {j : Int} (h : 0 ≤ j ∧ j < ((l.length : Nat) : Int)) : ∃ y : Int × Int, l[j.toNat]? = some y ∧ nth1 l j = y.1 := by
  have e : l[j.toNat]? = some (l[j.toNat]'(by omega)) := List.getElem?_eq_getElem (by omega)
  exact ⟨_, e, nth1_some e⟩
theorem nth1_GR {l : List (Int × Int)} (h : GRl l) {i j k : Int} (h0 : 0 ≤ i ∧ i < j ∧ j < k ∧ k < ((l.length : Nat) : Int)) (e : nth1 l i = nth1 l k) : nth1 l j = nth1 l i := by
  obtain ⟨x, hx, ex⟩ := nth1_get (l := l) (j := i) (by omega)
  obtain ⟨y, hy, ey⟩ := nth1_get (l := l) (j := j) (by omega)
  obtain ⟨z, hz, ez⟩ := nth1_get (l := l) (j := k) (by omega)
  rw [ey, ex]
  exact h i.toNat j.toNat k.toNat x y z (by omega) (by omega) hx hy hz (by rw [← ex, ← ez]; exact e)
theorem hv_run {g : Int → Int} {s e n : Int} (h : 0 ≤ s ∧ s < e ∧ e ≤ n) (h1 : ∀ j : Int, s ≤ j → j < e → g j = g s) (h2 : ∀ j : Int, 0 ≤ j → j < s → g j ≠ g s) (h3 : ∀ j : Int, e ≤ j → j < n → g j ≠ g s) : hv g 0 (g s) n = e - s := by
  have key : ∀ m : Nat, (m : Int) ≤ n → ((m : Int) ≤ s → hv g 0 (g s) (m : Int) = 0) ∧ (s ≤ (m : Int) → (m : Int) ≤ e → hv g 0 (g s) (m : Int) = (m : Int) - s) ∧ (e ≤ (m : Int) → hv g 0 (g s) (m : Int) = e - s) := by
    intro m
    induction m with
    | zero =>
      intro _
      have z : hv g 0 (g s) ((0 : Nat) : Int) = 0 := hv_0 _ _ _
      rw [z]
      omega
    | succ m ih =>
      intro hm
      obtain ⟨i1, i2, i3⟩ := ih (by omega)
      have st := hv_st (r := g) (b := 0) (v := g s) (z := (m : Int)) (y := g (m : Int)) (by omega) (by rw [Int.zero_add])
      have e1 : ((m + 1 : Nat) : Int) = (m : Int) + 1 := by omega
      rw [e1]
      refine ⟨fun q => ?_, fun q1 q2 => ?_, fun q => ?_⟩
      · rw [st.2 (h2 (m : Int) (by omega) (by omega)), i1 (by omega)]
      · by_cases c : (m : Int) < s
        · rw [st.2 (h2 (m : Int) (by omega) c), i1 (by omega)]; omega
        · rw [st.1 (h1 (m : Int) (by omega) (by omega)), i2 (by omega) (by omega)]; omega
      · by_cases c : e ≤ (m : Int)
        · rw [st.2 (h3 (m : Int) c (by omega)), i3 c]
        · rw [st.1 (h1 (m : Int) (by omega) (by omega)), i2 (by omega) (by omega)]; omega
  have k := (key n.toNat (by omega)).2.2
  rw [show ((n.toNat : Nat) : Int) = n from by omega] at k
  exact k h.2.2
theorem stF_le {g : Int → Int} {a b : Int} (h : 0 ≤ a ∧ a ≤ b) : stF g a ≤ stF g b := by
  obtain ⟨n, rfl⟩ : ∃ n : Nat, b = a + (n : Int) := ⟨(b - a).toNat, by omega⟩
  induction n with
  | zero =>
    rw [show a + ((0 : Nat) : Int) = a from by omega]
    exact Int.le_refl _
  | succ n ih =>
    have i := ih (by omega)
    have s := stF_s (g := g) (z := a + (n : Int)) (by omega)
    rw [show a + ((n + 1 : Nat) : Int) = a + (n : Int) + 1 from by omega]
    by_cases c : a + (n : Int) = 0 ∨ g (a + (n : Int)) ≠ g (a + (n : Int) - 1)
    · have := s.1 c; omega
    · have := s.2 c; omega
theorem gr_eq {g : Int → Int} {n i w r r1 : Int} (hw : 0 ≤ w ∧ w ≤ 1) (hG : ∀ a b c : Int, 0 ≤ a → a < b → b < c → c < n → g a = g c → g b = g a) (x : GrC g n i w r) (y : GrM g n i w r1) (hn : 0 ≤ n) : r = r1 := by
  have up : ∀ s s2 : Int, 0 ≤ s → s < s2 → (s = 0 ∨ g s ≠ g (s - 1)) → stF g s < stF g s2 := fun s s2 a b c => by
    have h1 := (stF_s (g := g) a).1 c
    have h2 := stF_le (g := g) (a := s + 1) (b := s2) (by omega)
    omega
  have nn : ∀ s : Int, 0 ≤ s → 0 ≤ stF g s := fun s a => by
    have h2 := stF_le (g := g) (a := 0) (b := s) (by omega)
    rw [stF_0] at h2
    exact h2
  rcases x with ⟨a1, a2⟩ | ⟨a1, a2, a3⟩ | ⟨s, ⟨s0, s1⟩, s2, s3, s4⟩
  · rcases y with ⟨b1, b2⟩ | ⟨b1, -, -⟩ | ⟨t, e, ⟨t0, t1, t2⟩, -, t4, -⟩
    · rw [a2, b2]
    · exact absurd a1 b1
    · have := nn t t0; omega
  · rcases y with ⟨b1, -⟩ | ⟨-, -, b3⟩ | ⟨t, e, ⟨t0, t1, t2⟩, t3, t4, -⟩
    · exact absurd b1 a1
    · rw [a3, b3]
    · have k := nn t t0
      have := up t n t0 (by omega) t3
      omega
  · rcases y with ⟨b1, -⟩ | ⟨b1, b2, -⟩ | ⟨t, e, ⟨t0, t1, t2⟩, t3, t4, t5, t6, t7⟩
    · have := nn s s0; omega
    · have k := nn s s0
      have := up s n s0 s1 s2
      omega
    · have est : s = t := by
        apply Classical.byContradiction
        intro q
        rcases Int.lt_or_gt_of_ne q with q | q
        · have := up s t s0 q s2; omega
        · have := up t s t0 q t3; omega
      subst est
      rcases s4 with ⟨w0, e1⟩ | ⟨w0, e1⟩
      · rcases t7 with ⟨-, e2⟩ | ⟨w1, -⟩
        · rw [e1, e2]
        · exact absurd w0 w1
      · rcases t7 with ⟨w1, -⟩ | ⟨-, e2⟩
        · exact absurd w1 w0
        · rw [e1, e2]
          refine hv_run ⟨s0, t1, t2⟩ t5 (fun j j0 j1 q => ?_) (fun j j0 j1 q => ?_)
          · rcases s2 with s2 | s2
            · omega
            · by_cases c : j = s - 1
              · exact s2 (by rw [← c]; exact q.symm)
              · exact s2 ((hG j (s - 1) s j0 (by omega) (by omega) s1 q).trans q).symm
          · rcases t6 with t6 | t6
            · omega
            · by_cases c : j = e
              · exact t6 (by rw [← c]; exact q)
              · exact t6 (hG s e j s0 t1 (by omega) j1 q.symm)
theorem grp_all {G : XG} {F : Nat → Nat → Nat} {a : Nat} {f : Nat → Int32} {vn vb mn mb : Int → Int} {op op2 i w r r1 : Int} (ho : op = op2) (hn : vn = mn) (hb : op ≠ 0 → vb = mb) (hw : A_wait op f vb vn (qL G F a)) (h0 : 0 ≤ (G.1 a 6).toInt)
    (x : ((w < 0 ∨ 1 < w) ∧ r = -1) ∨ ((0 ≤ w ∧ w ≤ 1) ∧ GrC (aI (G.2.1 (F a 0))) ((G.1 a 6).toInt) i w r))
    (y : ((w < 0 ∨ 1 < w) ∧ r1 = -1) ∨ ((0 ≤ w ∧ w ≤ 1) ∧ GrM (nth1 (if op2 = 0 then [] else fuO f mn mb 1)) (((if op2 = 0 then [] else fuO f mn mb 1).length : Nat) : Int) i w r1)) : r = r1 := by
  subst ho hn
  have hq : qL G F a = (if op = 0 then [] else fuO f vn mb 1).map (tqq f vb vn) := by
    by_cases o : op = 0
    · rw [if_pos o, hw.1 o]; rfl
    · rw [if_neg o, hw.2 o, ← hb o, fuO_comm f vb vn 1]
  have hG : GRl (if op = 0 then [] else fuO f vn mb 1) := by
    by_cases o : op = 0
    · rw [if_pos o]
      intro i j k x y z _ _ hi
      rw [List.getElem?_nil] at hi
      cases hi
    · rw [if_neg o]; exact fuO_GR _ _ _ _
  obtain ⟨L, eL⟩ : ∃ L : List (Int × Int), L = if op = 0 then [] else fuO f vn mb 1 := ⟨_, rfl⟩
  rw [← eL] at hq hG y
  clear eL
  have hl : ((L.length : Nat) : Int) = (G.1 a 6).toInt := by
    have k := qL_len G F a
    rw [hq, List.length_map] at k
    omega
  have hc : ∀ j : Int, 0 ≤ j → j < (G.1 a 6).toInt → aI (G.2.1 (F a 0)) j = nth1 L j := fun j j0 j1 => by
    obtain ⟨y, hy, ey⟩ := nth1_get (l := L) (j := j) (by omega)
    have h1 := qL_at (G := G) (F := F) (a := a) (z := j) ⟨j0, j1⟩
    rw [hq, List.getElem?_map, hy] at h1
    have h2 := Option.some.inj h1
    have c0 : y.1 = aI (G.2.1 (F a 0)) j := congrArg (fun x : Qt => x.1) h2
    rw [ey, c0]
  rcases x with ⟨a1, a2⟩ | ⟨a1, a2⟩
  · rcases y with ⟨-, b2⟩ | ⟨b1, -⟩
    · exact a2.trans b2.symm
    · omega
  · rcases y with ⟨b1, -⟩ | ⟨-, b2⟩
    · omega
    · rw [hl] at b2
      refine gr_eq a1 (fun u v t u0 uv vt tn e => ?_) a2 (GrM_congr (fun j j0 j1 => (hc j j0 j1).symm) b2) h0
      rw [hc u u0 (by omega), hc v (by omega) (by omega)]
      exact nth1_GR hG ⟨u0, uv, vt, by omega⟩ (by rw [← hc u u0 (by omega), ← hc t (by omega) tn]; exact e)
/-! what changed, what was settled since a mark -/
def smP (h : Int × Int → Int) : List (Int × Int) → Int
  | [] => 0
  | x :: l => h x + smP h l
theorem smP_app (h : Int × Int → Int) : ∀ l t : List (Int × Int), smP h (l ++ t) = smP h l + smP h t
  | [], t => (Int.zero_add _).symm
  | x :: l, t => by
    show h x + smP h (l ++ t) = h x + smP h l + smP h t
    rw [smP_app h l t, Int.add_assoc]
theorem smP_congr {g h : Int × Int → Int} : ∀ l : List (Int × Int), (∀ y, y ∈ l → g y = h y) → smP g l = smP h l
  | [], _ => rfl
  | x :: l, q => by
    show g x + smP g l = h x + smP h l
    rw [q x (List.mem_cons.mpr (Or.inl rfl)), smP_congr l (fun y hy => q y (List.mem_cons_of_mem _ hy))]
theorem smQ_map (h : Qt → Int) (t : Int × Int → Qt) : ∀ l : List (Int × Int), smQ h (l.map t) = smP (fun y => h (t y)) l
  | [] => rfl
  | x :: l => by
    show h (t x) + smQ h (l.map t) = h (t x) + smP (fun y => h (t y)) l
    rw [smQ_map h t l]
def opP (g : Int × Int → Int) (o : Option (Int × Int)) : Int := (o.map g).getD 0
theorem smP_fm (g : Int × Int → Int) (P : Int → Option (Int × Int)) (c : Nat → Int) : ∀ n : Nat, smP g ((lst c n).filterMap P) = smN (fun i => opP g (P (c i))) n
  | 0 => rfl
  | n + 1 => by
    rw [lst_s, List.filterMap_append, smP_app, smP_fm g P c n]
    show _ = smN (fun i => opP g (P (c i))) n + opP g (P (c n))
    congr 1
    cases h : P (c n) with
    | none =>
      rw [filterMap_1n2 h]
      rfl
    | some y =>
      rw [filterMap_1s h]
      show g y + 0 = g y
      omega
theorem smP_fuL (g : Int × Int → Int) (f : Nat → Int32) (r1 r2 : Int → Int) (late : Int) (o : Nat → Nat) : ∀ n : Nat, smP g (fuL f r1 r2 late o n) = smN (fun i => smP g (fus f r1 r2 late ((o i : Nat) : Int))) n
  | 0 => rfl
  | n + 1 => by
    rw [fuL_s, smP_app, smP_fuL g f r1 r2 late o n]
    rfl
theorem smN_ins (H : Nat → Int) (f : Nat → Nat) (x : Nat) : ∀ m p : Nat, p ≤ m → smN (fun i => H (insF f p x i)) (m + 1) = smN (fun i => H (f i)) m + H x
  | 0, p, hp => by
    have e : p = 0 := by omega
    subst e
    rfl
  | m + 1, p, hp => by
    show smN (fun i => H (insF f p x i)) (m + 1) + H (insF f p x (m + 1)) = smN (fun i => H (f i)) (m + 1) + H x
    by_cases e : p = m + 1
    · have e1 : smN (fun i => H (insF f p x i)) (m + 1) = smN (fun i => H (f i)) (m + 1) := smN_congr _ (fun i hi => by
        show H (insF f p x i) = H (f i)
        unfold insF
        rw [if_pos (by omega)])
      have e2 : insF f p x (m + 1) = x := by
        unfold insF
        rw [if_neg (by omega), if_pos e.symm]
      rw [e1, e2]
    · have e2 : insF f p x (m + 1) = f m := by
        unfold insF
        rw [if_neg (by omega), if_neg (by omega)]
        rfl
      rw [smN_ins H f x m p (by omega), e2]
      show smN (fun i => H (f i)) m + H x + H (f m) = smN (fun i => H (f i)) m + H (f m) + H x
      omega
theorem smN_ord (H : Nat → Int) (pr : Nat → Bool) (rk : Nat → Int) : ∀ n : Nat, smN (fun i => H ((ordN pr rk n).2 i)) (ordN pr rk n).1 = smN (fun q => if pr q = true then H q else 0) n
  | 0 => rfl
  | n + 1 => by
    show _ = smN (fun q => if pr q = true then H q else 0) n + (if pr n = true then H n else 0)
    rw [← smN_ord H pr rk n]
    by_cases hp : pr n = true
    · have e : ordN pr rk (n + 1) = ((ordN pr rk n).1 + 1, insF (ordN pr rk n).2 (posR (fun i => rk ((ordN pr rk n).2 i)) (rk n) (ordN pr rk n).1) n) := if_pos hp
      rw [e, if_pos hp]
      exact smN_ins H _ n _ _ (posR_le _ _ _)
    · have e : ordN pr rk (n + 1) = ordN pr rk n := if_neg hp
      rw [e, if_neg hp, Int.add_zero]
/-- a sum over what is unlike, of late rules: rule by rule -/
theorem smP_fuO {f : Nat → Int32} {r1 r2 mn mb mk : Int → Int} {w : Int} (g : Int × Int → Int) (h : ∀ q s : Int, opP g (fu1 f r1 r2 q s) = frI f mn mb mk w q s) : smP g (fuO f r1 r2 1) = frA f mn mb mk w 12 := by
  unfold fuO
  rw [smP_fuL, smN_ord (fun q => smP g (fus f r1 r2 1 ((q : Nat) : Int)))]
  show _ = smN _ (12 - 0 : Int).toNat
  rw [show ((12 : Int) - 0).toNat = 12 from by decide]
  refine smN_congr _ (fun i hi => ?_)
  show (if prM f i = true then smP g (fus f r1 r2 1 ((i : Nat) : Int)) else 0) = frQ f mn mb mk w ((i : Int) + 0)
  rw [Int.add_zero]
  unfold frQ
  by_cases c : aI f (10 * (i : Int) + 0) ≠ -1
  · rw [if_pos (show prM f i = true from decide_eq_true c)]
    unfold fus
    by_cases d : aI f (10 * (i : Int) + 6) = 1
    · rw [if_pos (Or.inr d), if_pos ⟨c, d⟩, subs_lst, smP_fm]
      unfold smS
      rw [show (sL (aI f (10 * (i : Int) + 0)) + 1 - sF (aI f (10 * (i : Int) + 0))).toNat = (sL (aI f (10 * (i : Int) + 0)) - sF (aI f (10 * (i : Int) + 0)) + 1).toNat from by omega]
      exact smN_congr _ (fun j _ => h _ _)
    · rw [if_neg (fun q => q.elim (fun e => absurd e (by decide)) d), if_neg (fun q => d q.2)]
      rfl
  · rw [if_neg (show ¬ prM f i = true from fun q => c (of_decide_eq_true q)), if_neg (fun q => c q.1)]
theorem ch_opP {f : Nat → Int32} {mn mb mk : Int → Int} (q s : Int) : opP (fun y => if stt mk (aI f (10 * y.1 + 0)) (aI f (10 * y.1 + 1)) (aI f (10 * y.1 + 2)) (aI f (10 * y.1 + 3)) y.2 ≠ stt mn (aI f (10 * y.1 + 0)) (aI f (10 * y.1 + 1)) (aI f (10 * y.1 + 2)) (aI f (10 * y.1 + 3)) y.2 then 1 else 0) (fu1 f mb mn q s) = frI f mn mb mk 0 q s := by
  have k := (frI_st f mn mb mk 0 q s).1 rfl
  unfold fu1
  by_cases c : stt mb (aI f (10 * q + 0)) (aI f (10 * q + 1)) (aI f (10 * q + 2)) (aI f (10 * q + 3)) s ≠ stt mn (aI f (10 * q + 0)) (aI f (10 * q + 1)) (aI f (10 * q + 2)) (aI f (10 * q + 3)) s
  · rw [if_pos c]
    show (if stt mk (aI f (10 * q + 0)) (aI f (10 * q + 1)) (aI f (10 * q + 2)) (aI f (10 * q + 3)) s ≠ stt mn (aI f (10 * q + 0)) (aI f (10 * q + 1)) (aI f (10 * q + 2)) (aI f (10 * q + 3)) s then (1 : Int) else 0) = _
    by_cases d : stt mk (aI f (10 * q + 0)) (aI f (10 * q + 1)) (aI f (10 * q + 2)) (aI f (10 * q + 3)) s ≠ stt mn (aI f (10 * q + 0)) (aI f (10 * q + 1)) (aI f (10 * q + 2)) (aI f (10 * q + 3)) s
    · rw [if_pos d, k.1 ⟨fun e => c e.symm, fun e => d e.symm⟩]
    · rw [if_neg d, k.2 (fun e => d (fun z => e.2 z.symm))]
  · rw [if_neg c, k.2 (fun e => c (fun z => e.1 z.symm))]
    rfl
theorem se_opP {f : Nat → Int32} {mn mb mk : Int → Int} {w : Int} (hw : w ≠ 0) (q s : Int) : opP (fun y => if stt mn (aI f (10 * y.1 + 0)) (aI f (10 * y.1 + 1)) (aI f (10 * y.1 + 2)) (aI f (10 * y.1 + 3)) y.2 = stt mb (aI f (10 * y.1 + 0)) (aI f (10 * y.1 + 1)) (aI f (10 * y.1 + 2)) (aI f (10 * y.1 + 3)) y.2 then 1 else 0) (fu1 f mb mk q s) = frI f mn mb mk w q s := by
  have k := (frI_st f mn mb mk w q s).2 hw
  unfold fu1
  by_cases c : stt mb (aI f (10 * q + 0)) (aI f (10 * q + 1)) (aI f (10 * q + 2)) (aI f (10 * q + 3)) s ≠ stt mk (aI f (10 * q + 0)) (aI f (10 * q + 1)) (aI f (10 * q + 2)) (aI f (10 * q + 3)) s
  · rw [if_pos c]
    show (if stt mn (aI f (10 * q + 0)) (aI f (10 * q + 1)) (aI f (10 * q + 2)) (aI f (10 * q + 3)) s = stt mb (aI f (10 * q + 0)) (aI f (10 * q + 1)) (aI f (10 * q + 2)) (aI f (10 * q + 3)) s then (1 : Int) else 0) = _
    by_cases d : stt mn (aI f (10 * q + 0)) (aI f (10 * q + 1)) (aI f (10 * q + 2)) (aI f (10 * q + 3)) s = stt mb (aI f (10 * q + 0)) (aI f (10 * q + 1)) (aI f (10 * q + 2)) (aI f (10 * q + 3)) s
    · rw [if_pos d, k.1 ⟨d, fun e => c e.symm⟩]
    · rw [if_neg d, k.2 (fun e => d e.1)]
  · rw [if_neg c, k.2 (fun e => c (fun z => e.2 z.symm))]
    rfl
theorem ch_at {G : XG} {b : Nat → Option Nat} {f : Nat → Int32} {vk r1 r2 : Int → Int} {y : Int × Int} (hL : LK G b f) (hy : (0 ≤ y.1 ∧ y.1 < 12) ∧ aI f (10 * y.1 + 0) ≠ -1) : chQ G b vk (tqq f r1 r2 y) = (if stt vk (aI f (10 * y.1 + 0)) (aI f (10 * y.1 + 1)) (aI f (10 * y.1 + 2)) (aI f (10 * y.1 + 3)) y.2 ≠ stt r2 (aI f (10 * y.1 + 0)) (aI f (10 * y.1 + 1)) (aI f (10 * y.1 + 2)) (aI f (10 * y.1 + 3)) y.2 then 1 else 0) ∧ seQ G b vk (tqq f r1 r2 y) = (if stt vk (aI f (10 * y.1 + 0)) (aI f (10 * y.1 + 1)) (aI f (10 * y.1 + 2)) (aI f (10 * y.1 + 3)) y.2 = stt r1 (aI f (10 * y.1 + 0)) (aI f (10 * y.1 + 1)) (aI f (10 * y.1 + 2)) (aI f (10 * y.1 + 3)) y.2 then 1 else 0) := by
  have ey : ((y.1.toNat : Nat) : Int) = y.1 := by omega
  rcases hL y.1.toNat (by omega) with ⟨-, k⟩ | ⟨q, hq, -, hr⟩
  · rw [ey] at k; exact absurd k hy.2
  · rw [ey] at hr
    obtain ⟨h0, -, h2, h3, h4, -⟩ := hr
    have c := chQ_y (G := G) (b := b) (v := vk) (x := tqq f r1 r2 y) (z := y.1) rfl hy.1 hq rfl rfl rfl
    have d := seQ_y (G := G) (b := b) (v := vk) (x := tqq f r1 r2 y) (z := y.1) rfl hy.1 hq rfl rfl rfl
    have e : stt vk (G.1 q 0).toInt (G.1 q 2).toInt (G.1 q 3).toInt (G.1 q 4).toInt (tqq f r1 r2 y).2.1 = stt vk (aI f (10 * y.1 + 0)) (aI f (10 * y.1 + 1)) (aI f (10 * y.1 + 2)) (aI f (10 * y.1 + 3)) y.2 := by rw [h0, h2, h3, h4]; rfl
    rw [e] at c d
    constructor
    · by_cases g : stt vk (aI f (10 * y.1 + 0)) (aI f (10 * y.1 + 1)) (aI f (10 * y.1 + 2)) (aI f (10 * y.1 + 3)) y.2 ≠ stt r2 (aI f (10 * y.1 + 0)) (aI f (10 * y.1 + 1)) (aI f (10 * y.1 + 2)) (aI f (10 * y.1 + 3)) y.2
      · rw [if_pos g]; exact c.1 g
      · rw [if_neg g]; exact c.2 (Classical.not_not.mp g)
    · by_cases g : stt vk (aI f (10 * y.1 + 0)) (aI f (10 * y.1 + 1)) (aI f (10 * y.1 + 2)) (aI f (10 * y.1 + 3)) y.2 = stt r1 (aI f (10 * y.1 + 0)) (aI f (10 * y.1 + 1)) (aI f (10 * y.1 + 2)) (aI f (10 * y.1 + 3)) y.2
      · rw [if_pos g]; exact d.1 g
      · rw [if_neg g]; exact d.2 g
theorem fresh_all {K : Nat → Nat} {F : Nat → Nat → Nat} {mr : Nat → Option Nat} {G : XG} {b : Nat} {cb cbb cz czb : Nat → Int32} {cm : Nat → Nat → Int32} {rb rk f : Nat → Int32} {vn mn : Int → Int} {op op2 mc mcm p w r r1 : Int} {W : List Qt} (hB : A_book K F G b f) (h : A_tr F mr cb cbb cz czb cm rb rk op op2 mc mcm) (hn : vn = mn) (hw : A_wait op f (vw cb) vn W)
    (x : (((p < 0 ∨ mc ≤ p ∨ 8 ≤ p) ∨ w < 0 ∨ 1 < w) ∧ r = -1) ∨ (∃ q : Nat, (0 ≤ p ∧ p < mc ∧ p < 8) ∧ mr p.toNat = some q ∧ ((w = 0 ∧ r = smQ (chQ G (G.2.2.1 (F b 0)) (vw (cm (F q 0)))) W) ∨ (w = 1 ∧ r = smQ (seQ G (G.2.2.1 (F b 0)) vn) (gaL G (G.2.2.1 (F b 1)) (vw cb) (vw (cm (F q 0))) 1 ((G.1 b 2).toInt).toNat)))))
    (y : ((¬ (op2 ≠ 0 ∧ 0 ≤ p ∧ p ≤ mcm - 1) ∨ w < 0 ∨ 1 < w) ∧ r1 = -1) ∨ ((op2 ≠ 0 ∧ 0 ≤ p ∧ p ≤ mcm - 1) ∧ (0 ≤ w ∧ w ≤ 1) ∧ r1 = frA f mn (mw rb 0) (mw rk (360 * p)) w 12)) : r = r1 := by
  obtain ⟨-, h2, h3, -, -, h6, h7, h8⟩ := h
  subst h6 hn
  by_cases o : op = 0
  · have m0 := h8 o
    rcases x with ⟨-, e⟩ | ⟨q, a, -⟩
    · rcases y with ⟨-, e2⟩ | ⟨c, -⟩
      · exact e.trans e2.symm
      · exact absurd o c.1
    · omega
  · obtain ⟨k1, k2, k3⟩ := h7 o
    rcases x with ⟨a, e⟩ | ⟨q, a, hq, z⟩
    · rcases y with ⟨-, e2⟩ | ⟨c, d, -⟩
      · exact e.trans e2.symm
      · omega
    · rcases y with ⟨c, -⟩ | ⟨-, -, e2⟩
      · rcases c with c | c
        · exact absurd ⟨o, a.1, by omega⟩ c
        · rcases z with ⟨z, -⟩ | ⟨z, -⟩ <;> omega
      · have ek := k3 p.toNat q (by omega) hq
        rw [show ((p.toNat : Nat) : Int) = p from by omega] at ek
        have hL := hB.2.2.2.2.2
        rcases z with ⟨w0, e⟩ | ⟨w0, e⟩
        · subst w0
          rw [e, e2, ek, hw.2 o, smQ_map, k1]
          refine Eq.trans (smP_congr _ (fun y hy => ?_)) (smP_fuO (r1 := mw rb 0) (r2 := vn) _ (fun q s => ch_opP (f := f) (mn := vn) (mb := mw rb 0) (mk := mw rk (360 * p)) q s))
          have hm := fuO_mem.mp hy
          exact (ch_at (vk := mw rk (360 * p)) (r1 := mw rb 0) (r2 := vn) hL ⟨hm.1.1, hm.1.2.1⟩).1
        · subst w0
          rw [e, e2, gaL_fuO hL hB.1 (Or.inr (Or.inl rfl)), ek, smQ_map, k1, lw_1]
          refine Eq.trans (smP_congr _ (fun y hy => ?_)) (smP_fuO (r1 := mw rb 0) (r2 := mw rk (360 * p)) _ (fun q s => se_opP (f := f) (mn := vn) (mb := mw rb 0) (mk := mw rk (360 * p)) (w := 1) (by decide) q s))
          have hm := fuO_mem.mp hy
          exact (ch_at (vk := vn) (r1 := mw rb 0) (r2 := mw rk (360 * p)) hL ⟨hm.1.1, hm.1.2.1⟩).2
theorem wait_cn {op op2 : Int} {f : Nat → Int32} {vb vn mb mn : Int → Int} {w : List Qt} (ho : op = op2) (hn : vn = mn) (hb : op ≠ 0 → vb = mb) (hw : A_wait op f vb vn w) (p : Int) : cnQ w p = cnP (if op2 = 0 then [] else fuO f mn mb 1) p := by
  subst ho hn
  by_cases o : op = 0
  · rw [if_pos o, hw.1 o]; rfl
  · rw [if_neg o, hw.2 o, cnQ_map, ← hb o, fuO_comm f vb vn 1]
theorem td_eq {f : Nat → Int32} {p n w : Int} {q : Nat → Int32} (h : RQ f p q) : tdC q n w = tdM f p n w := by
  obtain ⟨h0, -, h2, h3, h4, h5, h6, h7, h8, h9, -⟩ := h
  by_cases g : 0 ≤ w ∧ w ≤ 8
  · have e : w = 0 ∨ w = 1 ∨ w = 2 ∨ w = 3 ∨ w = 4 ∨ w = 5 ∨ w = 6 ∨ w = 7 ∨ w = 8 := by omega
    rw [tdM_i g]
    rcases e with e | e | e | e | e | e | e | e | e
    · rw [tdC_0 e, e]; exact h0
    · rw [tdC_1 e, e]; exact h2
    · rw [tdC_2 e, e]; exact h3
    · rw [tdC_3 e, e]; exact h4
    · rw [tdC_4 e, e]; exact h5
    · rw [tdC_5 e, e]; exact h6
    · rw [tdC_6 e, e]; exact h9
    · rw [tdC_7 e, e]; exact h8
    · rw [tdC_8 e, e]; exact h7
  · by_cases e : w = 9
    · rw [tdC_9 e, tdM_9 e]
    · rw [tdC_o (by omega), tdM_o (by omega)]
theorem told_all {K : Nat → Nat} {F : Nat → Nat → Nat} {G : XG} {b : Nat} {f : Nat → Int32} {vb vn mb mn : Int → Int} {op op2 p s r r1 : Int} {w : List Qt} (h : A_book K F G b f) (ho : op = op2) (hn : vn = mn) (hb : op ≠ 0 → vb = mb) (hw : A_wait op f vb vn w)
    (t : (((p < 0 ∨ 12 ≤ p) ∨ G.2.2.1 (F b 0) p.toNat = none) ∧ r = -2147483648) ∨ (∃ q : Nat, ((0 ≤ p ∧ p < 12) ∧ G.2.2.1 (F b 0) p.toNat = some q) ∧ r = tdC (G.1 q) (cnQ w p) s))
    (t2 : (¬ (0 ≤ p ∧ p ≤ 11 ∧ aI f (10 * p + 0) ≠ -1) ∧ r1 = -2147483648) ∨ ((0 ≤ p ∧ p ≤ 11 ∧ aI f (10 * p + 0) ≠ -1) ∧ r1 = tdM f p (cnP (if op2 = 0 then [] else fuO f mn mb 1) p) s)) : r = r1 := by
  rcases t with ⟨a, e⟩ | ⟨q, ⟨hp, hq⟩, e⟩
  · rcases t2 with ⟨-, e2⟩ | ⟨b1, -⟩
    · exact e.trans e2.symm
    · exact absurd b1 (no_rule h a)
  · obtain ⟨i1, hR⟩ := is_rule h hp hq
    rcases t2 with ⟨b1, -⟩ | ⟨-, e2⟩
    · exact absurd i1 b1
    · rw [e, e2, wait_cn ho hn hb hw p, td_eq hR]
/-! ===== how many rows there are ===== -/
theorem row_bit {v b : Int → Int} {f : Nat → Int32} (hro : RO v b) (hm : RM f 0) (e : v = mw f 0) {t k : Int} (ht : 0 ≤ t ∧ t < 3) (hk : 0 ≤ k ∧ k < 30) : aI f (4 * (30 * t + k)) = bI (b t) k := by
  have h1 := (hro.1 t k ht.1 ht.2 hk.1 hk.2).1
  have h2 : cel v t k 0 = v (90 * t + 30 * 0 + k) := cel_in ⟨ht.1, ht.2, hk.1, hk.2, by decide, by decide⟩
  have h3 := hm.flag (t := t) (k := k) ⟨ht.1, ht.2, hk.1, hk.2⟩
  rw [← e, h2, show 90 * t + 30 * 0 + k = 90 * t + k by omega, show 0 + 4 * (30 * t + k) = 4 * (30 * t + k) by omega] at h3
  rcases bI01 (b t) k with z | z
  · rcases h3 with ⟨a, -⟩ | ⟨-, a⟩
    · rw [a, z]
    · have := h1.mpr a
      omega
  · rcases h3 with ⟨-, a⟩ | ⟨a, -⟩
    · exact absurd a (h1.mp z)
    · rw [a, z]
theorem rows_eq {v b : Int → Int} {f : Nat → Int32} (hro : RO v b) (hm : RM f 0) (e : v = mw f 0) : toB b 3 = rmT f 360 := by
  have key : ∀ t : Nat, t < 3 → bsm (fun k => aI f (4 * (((30 * t : Nat) : Int) + k))) 30 = szB b t := fun t ht => bsm_cg 30 (fun k hk => by
    show aI f (4 * (((30 * t : Nat) : Int) + (k : Int))) = bI (b t) k
    rw [← row_bit hro hm e (t := (t : Int)) (k := (k : Int)) ⟨by omega, by omega⟩ ⟨by omega, by omega⟩, show ((30 * t : Nat) : Int) = 30 * (t : Int) by omega])
  have e1 : rmT f 360 = bsm (fun k => aI f (4 * k)) (30 + (30 + 30)) := rfl
  have e3 : toB b 3 = 0 + szB b ((0 : Nat) : Int) + szB b ((1 : Nat) : Int) + szB b ((2 : Nat) : Int) := rfl
  have k0 : bsm (fun k => aI f (4 * k)) 30 = szB b ((0 : Nat) : Int) := by
    rw [← key 0 (by decide)]
    exact bsm_cg 30 (fun k _ => by
      show aI f (4 * (k : Int)) = aI f (4 * (((30 * 0 : Nat) : Int) + (k : Int)))
      rw [show (((30 * 0 : Nat) : Int) + (k : Int)) = (k : Int) by omega])
  rw [e1, bsm_add, bsm_add, k0, e3]
  have k1 := key 1 (by decide)
  have k2 : bsm (fun k => (fun k => aI f (4 * k)) (((30 : Nat) : Int) + (((30 : Nat) : Int) + k))) 30 = szB b ((2 : Nat) : Int) := by
    rw [← key 2 (by decide)]
    exact bsm_cg 30 (fun k _ => by
      show aI f (4 * (((30 : Nat) : Int) + (((30 : Nat) : Int) + (k : Int)))) = aI f (4 * (((30 * 2 : Nat) : Int) + (k : Int)))
      rw [show (((30 : Nat) : Int) + (((30 : Nat) : Int) + (k : Int))) = (((30 * 2 : Nat) : Int) + (k : Int)) by omega])
  have k1 : bsm (fun k => (fun k => aI f (4 * k)) (((30 : Nat) : Int) + k)) 30 = szB b ((1 : Nat) : Int) := k1
  rw [k1, k2]
  omega
theorem begin_r {v b : Int → Int} {f : Nat → Int32} {A B C D E : Prop} {op op2 r r1 : Int} (ho : op = op2) (hro : RO v b) (hm : RM f 0) (e : v = mw f 0) (t : (op ≠ 0 ∧ r = -3 ∧ A) ∨ (op = 0 ∧ B ∧ r = toB b 3)) (t2 : (op2 ≠ 0 ∧ r1 = -3 ∧ C) ∨ (op2 = 0 ∧ D ∧ E ∧ r1 = rmT f 360)) : r = r1 := by
  subst ho
  rcases t with ⟨a, c, -⟩ | ⟨a, -, c⟩
  · rcases t2 with ⟨-, d, -⟩ | ⟨d, -⟩
    · exact c.trans d.symm
    · exact absurd d a
  · rcases t2 with ⟨d, -⟩ | ⟨-, -, -, d⟩
    · exact absurd a d
    · rw [c, d, rows_eq hro hm e]
/-! ===== what an act would tell ===== -/
theorem would_core {K : Nat → Nat} {F : Nat → Nat → Nat} {G : XG} {b : Nat} {f : Nat → Int32} {vn p : Int → Int} {op op2 r r1 : Int} (h : A_book K F G b f) (ho : op = op2) (hA : AnsR op r (gaL G (G.2.2.1 (F b 1)) vn p 0 ((G.1 b 2).toInt).toNat)) (hS : AnsM op2 r1 f vn p) : r = r1 := by
  obtain ⟨n1, w1, hA⟩ := hA.act vn p
  obtain ⟨r3, hS⟩ := hS.st
  have hL := h.2.2.2.2.2
  rw [gaL_fuO hL h.1 (Or.inl rfl), lw_0] at hA
  exact (act_link hL ho hA hS).1
theorem wset_all {K : Nat → Nat} {F : Nat → Nat → Nat} {G : XG} {b : Nat} {f : Nat → Int32} {vn mn : Int → Int} {op op2 r r1 t k c v : Int} (h : A_book K F G b f) (ho : op = op2) (hn : vn = mn)
    (x : (r = -1 ∧ ¬ ((0 ≤ t ∧ t < 3) ∧ (0 ≤ k ∧ k < 30) ∧ (0 ≤ c ∧ c < 3) ∧ (v = -1000 ∨ (-99 ≤ v ∧ v ≤ 99)))) ∨ (((0 ≤ t ∧ t < 3) ∧ (0 ≤ k ∧ k < 30) ∧ (0 ≤ c ∧ c < 3) ∧ (v = -1000 ∨ (-99 ≤ v ∧ v ≤ 99))) ∧ r = -2 ∧ cel vn t k 0 = -2000) ∨ (((0 ≤ t ∧ t < 3) ∧ (0 ≤ k ∧ k < 30) ∧ (0 ≤ c ∧ c < 3) ∧ (v = -1000 ∨ (-99 ≤ v ∧ v ≤ 99))) ∧ cel vn t k 0 ≠ -2000 ∧ r = -4 ∧ cel vn t k c = v) ∨ (((0 ≤ t ∧ t < 3) ∧ (0 ≤ k ∧ k < 30) ∧ (0 ≤ c ∧ c < 3) ∧ (v = -1000 ∨ (-99 ≤ v ∧ v ≤ 99))) ∧ cel vn t k 0 ≠ -2000 ∧ cel vn t k c ≠ v ∧ AnsR op r (gaL G (G.2.2.1 (F b 1)) vn (rset vn (90 * t + 30 * c + k) v) 0 ((G.1 b 2).toInt).toNat)))
    (y : (whyS mn t k c v ≠ 0 ∧ r1 = whyS mn t k c v) ∨ (whyS mn t k c v = 0 ∧ AnsM op2 r1 f mn (rset mn (90 * t + 30 * c + k) v))) : r = r1 := by
  subst hn
  rcases x with ⟨a1, a2⟩ | ⟨a1, a2, a3⟩ | ⟨a1, a2, a3, a4⟩ | ⟨a1, a2, a3, a4⟩
  · have w : whyS vn t k c v = -1 := by
      unfold whyS
      exact if_neg (fun q => a2 ⟨⟨q.1, q.2.1⟩, ⟨q.2.2.1, q.2.2.2.1⟩, ⟨q.2.2.2.2.1, q.2.2.2.2.2.1⟩, q.2.2.2.2.2.2⟩)
    rw [w] at y
    rcases y with ⟨-, b2⟩ | ⟨b1, -⟩
    · exact a1.trans b2.symm
    · exact absurd b1 (by decide)
  · have w : whyS vn t k c v = -2 := by
      unfold whyS
      rw [if_pos ⟨a1.1.1, a1.1.2, a1.2.1.1, a1.2.1.2, a1.2.2.1.1, a1.2.2.1.2, a1.2.2.2⟩, if_pos a3]
    rw [w] at y
    rcases y with ⟨-, b2⟩ | ⟨b1, -⟩
    · exact a2.trans b2.symm
    · exact absurd b1 (by decide)
  · have w : whyS vn t k c v = -4 := by
      unfold whyS
      rw [if_pos ⟨a1.1.1, a1.1.2, a1.2.1.1, a1.2.1.2, a1.2.2.1.1, a1.2.2.1.2, a1.2.2.2⟩, if_neg a2, if_pos a4]
    rw [w] at y
    rcases y with ⟨-, b2⟩ | ⟨b1, -⟩
    · exact a3.trans b2.symm
    · exact absurd b1 (by decide)
  · have w : whyS vn t k c v = 0 := by
      unfold whyS
      rw [if_pos ⟨a1.1.1, a1.1.2, a1.2.1.1, a1.2.1.2, a1.2.2.1.1, a1.2.2.1.2, a1.2.2.2⟩, if_neg a2, if_neg a3]
    rw [w] at y
    rcases y with ⟨b1, -⟩ | ⟨-, b2⟩
    · exact absurd rfl b1
    · exact would_core h ho a4 b2
theorem sz_rmR {v b : Int → Int} {f : Nat → Int32} (hro : RO v b) (hm : RM f 0) (e : v = mw f 0) {t : Int} (ht : 0 ≤ t ∧ t < 3) : szB b t = rmR f t 30 := (bsm_cg 30 (fun k hk => row_bit hro hm e ht (k := (k : Int)) ⟨by omega, by omega⟩)).symm
theorem rows_all {v b : Int → Int} {f : Nat → Int32} {t w : Int} {r r1 : Int32} (hro : RO v b) (hm : RM f 0) (e : v = mw f 0)
    (x : (¬ (0 ≤ t ∧ t < 3) ∧ r.toInt = -1) ∨ ((0 ≤ t ∧ t < 3) ∧ ((w = 0 ∧ r.toInt = szB b t) ∨ (w = 1 ∧ r.toInt = b t) ∨ (w ≠ 0 ∧ w ≠ 1 ∧ r.toInt = -1))))
    (y : (¬ ((0 ≤ t ∧ t ≤ 2) ∧ (w = 0 ∨ w = 1)) ∧ r1.toInt = -1) ∨ ((0 ≤ t ∧ t ≤ 2) ∧ w = 0 ∧ r1.toInt = rmR f t 30) ∨ ((0 ≤ t ∧ t ≤ 2) ∧ w = 1 ∧ ∀ j : Int, 0 ≤ j → j < 32 → bI r1.toInt j = if j < 30 then aI f (4 * (30 * t + j)) else 0)) : r.toInt = r1.toInt := by
  rcases x with ⟨a, c⟩ | ⟨a, ⟨g, c⟩ | ⟨g, c⟩ | ⟨g, g2, c⟩⟩
  · rcases y with ⟨a2, c2⟩ | ⟨a2, -⟩ | ⟨a2, -⟩
    · exact c.trans c2.symm
    · exact absurd ⟨a2.1, by omega⟩ a
    · exact absurd ⟨a2.1, by omega⟩ a
  · rcases y with ⟨a2, -⟩ | ⟨-, -, c2⟩ | ⟨-, g3, -⟩
    · exact absurd ⟨⟨a.1, by omega⟩, Or.inl g⟩ a2
    · rw [c, c2]; exact sz_rmR hro hm e a
    · omega
  · rcases y with ⟨a2, -⟩ | ⟨-, g3, -⟩ | ⟨-, -, c2⟩
    · exact absurd ⟨⟨a.1, by omega⟩, Or.inr g⟩ a2
    · omega
    · refine congrArg Int32.toInt (bI_ext (fun j h1 h2 => ?_))
      rw [c2 j h1 h2, c]
      by_cases q : j < 30
      · rw [if_pos q, row_bit hro hm e a ⟨h1, q⟩]
      · rw [if_neg q]
        exact hro.2.2 t j a.1 a.2 (by omega) h2
  · rcases y with ⟨-, c2⟩ | ⟨-, g3, -⟩ | ⟨-, g3, -⟩
    · exact c.trans c2.symm
    · exact absurd g3 g
    · exact absurd g3 g2
