/-! ===== who leans, what a cut would take: class and reference ===== -/
theorem lnC_M {K : Nat → Nat} {F : Nat → Nat → Nat} {G : XG} {b : Nat} {f : Nat → Int32} {v : Int → Int} {u k t j : Int} (h : A_book K F G b f) : lnC G (G.2.2.1 (F b 1)) v (G.1 b 2).toInt u k t j ↔ lnM f v 12 u k t j := by
  obtain ⟨⟨b1, b2⟩, -, -, -, -, hL⟩ := h
  constructor
  · rintro ⟨i, q, hi, hq, h1, h2, h3, h4⟩
    have hi2 : i < (ordN (fun i => (G.2.2.1 (F b 0) i).isSome) (fun i => rkO G (G.2.2.1 (F b 0) i)) 12).1 := by omega
    have hin := ordN_in (fun i => (G.2.2.1 (F b 0) i).isSome) (fun i => rkO G (G.2.2.1 (F b 0) i)) 12 i hi2
    have e := b2 i hi2
    rw [hq] at e
    rcases hL _ hin.1 with ⟨a, -⟩ | ⟨y, a, -, c⟩
    · rw [a] at e; cases e
    · rw [a] at e
      have e := Option.some.inj e
      subst e
      obtain ⟨c0, -, c2, c3, c4, -⟩ := c
      refine ⟨_, ⟨Int.natCast_nonneg _, Int.ofNat_lt.mpr hin.1⟩, c0.symm.trans h1, c4.symm.trans h2, c2.symm.trans h3, ?_⟩
      rw [← c3]
      exact h4
  · rintro ⟨q, hq, h1, h2, h3, h4⟩
    rcases hL.nat hq with ⟨-, a⟩ | ⟨y, a, -, c⟩
    · omega
    · obtain ⟨i, hi, e⟩ := ordN_all (pr := fun i => (G.2.2.1 (F b 0) i).isSome) (rk := fun i => rkO G (G.2.2.1 (F b 0) i)) (n := 12) (q := q.toNat) (by omega) (by show (G.2.2.1 (F b 0) q.toNat).isSome = true; rw [a]; rfl)
      obtain ⟨c0, -, c2, c3, c4, -⟩ := c
      refine ⟨i, y, by omega, by rw [b2 i hi, e, a], c0.trans h1, c4.trans h2, c2.trans h3, ?_⟩
      rw [c3]
      exact h4
theorem bI_of1 {b k z : Int} (hz : z = 0 ∨ z = 1) (h : bI b k = 1 ↔ z = 1) : bI b k = z := by
  rcases bI01 b k with e | e <;> omega
theorem leans_all {K : Nat → Nat} {F : Nat → Nat → Nat} {G : XG} {b : Nat} {f : Nat → Int32} {vn mn : Int → Int} {t k w r r1 : Int} (h : A_book K F G b f) (hn : vn = mn)
    (x : ((cel vn t k 0 = -2000 ∨ (w ≠ 0 ∧ w ≠ 1)) ∧ r = -1) ∨ (cel vn t k 0 ≠ -2000 ∧ ((w = 0 ∧ ∃ b9 : Int → Int, r = toB b9 3 ∧ ∀ u j : Int, inR u j → (bI (b9 u) j = 1 ↔ lnC G (G.2.2.1 (F b 1)) vn (G.1 b 2).toInt u j t k)) ∨ (w = 1 ∧ ∃ b9 : Int → Int, r = toB b9 3 - 1 ∧ ∀ u j : Int, inR u j → (bI (b9 u) j = 1 ↔ RCH (lnC G (G.2.2.1 (F b 1)) vn (G.1 b 2).toInt) t k u j)))))
    (y : (¬ (cel mn t k 0 ≠ -2000 ∧ 0 ≤ w ∧ w ≤ 1) ∧ r1 = -1) ∨ ((cel mn t k 0 ≠ -2000 ∧ 0 ≤ w ∧ w ≤ 1) ∧ ((w = 0 ∧ r1 = bsI (lnI f mn t k) 90) ∨ (w = 1 ∧ ∃ g : Int → Int, r1 = bsI (lnK g (30 * t + k)) 90 ∧ ∀ z : Int, 0 ≤ z → z < 90 → (g z = 1 ↔ RC1 (lnM f mn 12) t k (z / 30) (z % 30)))))) : r = r1 := by
  subst hn
  rcases x with ⟨a, e⟩ | ⟨a, x⟩
  · rcases y with ⟨-, e2⟩ | ⟨a2, -⟩
    · exact e.trans e2.symm
    · exfalso
      rcases a with a | a
      · exact a2.1 a
      · omega
  · have hin : inR t k := by
      apply Classical.byContradiction
      intro q
      exact a (cel_out (fun z => q ⟨⟨z.1, z.2.1⟩, ⟨z.2.2.1, z.2.2.2.1⟩⟩))
    have div : ∀ u j : Int, inR u j → (30 * u + j) / 30 = u ∧ (30 * u + j) % 30 = j ∧ 0 ≤ 30 * u + j ∧ 30 * u + j < 90 := fun u j hi => by
      obtain ⟨p, q⟩ := hi
      omega
    have hC : ∀ u j t2 j2 : Int, lnC G (G.2.2.1 (F b 1)) vn (G.1 b 2).toInt u j t2 j2 ↔ lnM f vn 12 u j t2 j2 := fun _ _ _ _ => lnC_M h
    rcases y with ⟨a2, -⟩ | ⟨-, y⟩
    · exfalso
      rcases x with ⟨w0, -⟩ | ⟨w0, -⟩
      · exact a2 ⟨a, by omega, by omega⟩
      · exact a2 ⟨a, by omega, by omega⟩
    · rcases x with ⟨w0, b9, e, hb⟩ | ⟨w0, b9, e, hb⟩
      · rcases y with ⟨-, e2⟩ | ⟨w1, -⟩
        · rw [e, e2]
          refine toB_sm (fun u j hi => ?_)
          obtain ⟨d1, d2, -, -⟩ := div u j hi
          refine bI_of1 ?_ ((hb u j hi).trans ((hC u j t k).trans ?_))
          · by_cases q : lnM f vn 12 ((30 * u + j) / 30) ((30 * u + j) % 30) t k
            · exact Or.inr (lnI_y q)
            · exact Or.inl (lnI_n q)
          · constructor
            · intro q
              exact lnI_y (by rw [d1, d2]; exact q)
            · intro q
              apply Classical.byContradiction
              intro n
              rw [lnI_n (by rw [d1, d2]; exact n)] at q
              exact absurd q (by decide)
        · omega
      · rcases y with ⟨w1, -⟩ | ⟨-, g, e2, hg⟩
        · omega
        · have hR : ∀ u j : Int, inR u j → (bI (b9 u) j = 1 ↔ RCH (lnM f vn 12) t k u j) := fun u j hi => (hb u j hi).trans ⟨fun q => q.cg (fun u j t2 j2 z => (hC u j t2 j2).mp z), fun q => q.cg (fun u j t2 j2 z => (hC u j t2 j2).mpr z)⟩
          obtain ⟨s1, s2, s3, s4⟩ := div t k hin
          have e3 : toB b9 3 = bsm (fun z => bI (b9 (z / 30)) (z % 30)) 90 := toB_sm (fun u j hi => by
            obtain ⟨d1, d2, -, -⟩ := div u j hi
            show bI (b9 u) j = bI (b9 ((30 * u + j) / 30)) ((30 * u + j) % 30)
            rw [d1, d2])
          have e4 : bsm (fun z => bI (b9 (z / 30)) (z % 30)) 90 = bsm (lnK g (30 * t + k)) 90 + 1 := by
            have es : (((30 * t + k).toNat : Nat) : Int) = 30 * t + k := by omega
            refine bsm_set (i := (30 * t + k).toNat) 90 (by omega) ?_ ?_ (fun z hz hne => ?_)
            · rw [es]
              exact (lnK_st _ _ _).2 (fun q => q.2 rfl)
            · show bI (b9 ((((30 * t + k).toNat : Nat) : Int) / 30)) ((((30 * t + k).toNat : Nat) : Int) % 30) = 1
              rw [es, s1, s2]
              exact (hR t k hin).mpr (RCH.self _ _ _)
            · show bI (b9 ((z : Int) / 30)) ((z : Int) % 30) = lnK g (30 * t + k) (z : Int)
              have hzz : inR ((z : Int) / 30) ((z : Int) % 30) := inR_z (by omega) (by omega)
              have nz : (z : Int) ≠ 30 * t + k := by omega
              have i1 := hR _ _ hzz
              have i2 := hg (z : Int) (by omega) (by omega)
              by_cases q : g (z : Int) = 1
              · rw [(lnK_st _ _ _).1 ⟨q, nz⟩]
                exact i1.mpr (i2.mp q).rch
              · rw [(lnK_st _ _ _).2 (fun n => q n.1)]
                rcases bI01 (b9 ((z : Int) / 30)) ((z : Int) % 30) with c | c
                · exact c
                · exfalso
                  rcases (i1.mp c).rc1 with ⟨d1, d2⟩ | d
                  · omega
                  · exact q (i2.mpr d)
          rw [e, e2, e3, e4]
          show _ = bsm (lnK g (30 * t + k)) 90
          omega
/-! what the cut leaves of a cell: as it was, NULL, or gone with its row -/
def CTc (v p : Int → Int) : Prop := ∀ i : Int, p i = v i ∨ p i = -2000 ∨ (p i = -1000 ∧ v i ≠ -2000)
theorem CTc.fil {v p : Int → Int} (h : CTc v p) (t k : Int) : CTc v (rfil p t k (-2000) 3) := fun i => by
  unfold rfil
  split
  · exact Or.inr (Or.inl rfl)
  · exact h i
theorem CTc.set {v p : Int → Int} (h : CTc v p) {j : Int} (hj : p j ≠ -2000) : CTc v (rset p j (-1000)) := fun i => by
  unfold rset
  split
  · rename_i e
    subst e
    rcases h i with a | a | a
    · exact Or.inr (Or.inr ⟨rfl, by rw [← a]; exact hj⟩)
    · exact absurd a hj
    · exact Or.inr (Or.inr ⟨rfl, a.2⟩)
  · exact h i
theorem cst_ct {A : Int → Int → Int} {T C : Int → Int} (hT : CTo A T C) {v : Int → Int} {S : CSt} (hi : CIv S) (h : CTc v S.2) : CTc v (cst A T C S).2 := by
  obtain ⟨s, p⟩ := S
  cases s with
  | nil => exact h
  | cons x s =>
    obtain ⟨t, k, r, n⟩ := x
    have ok := hi.1 (t, k, r, n) (List.mem_cons.mpr (Or.inl rfl))
    have kk : 0 ≤ k ∧ k < 30 := ok.2.1
    have h : CTc v p := h
    by_cases c1 : r = 12
    · rw [cst_pop c1]; exact h
    · by_cases c2 : n = 30 ∨ ¬ (0 < A r t)
      · rw [cst_nx c1 c2]; exact h
      · have c3 : n ≠ 30 := fun q => c2 (Or.inl q)
        have c4 : 0 < A r t := Classical.byContradiction (fun q => c2 (Or.inr q))
        by_cases c5 : cel p (T r) n (C r) = k
        · by_cases c6 : A r t = 2
          · rw [cst_cl c1 c3 c6 c5]
            refine h.set ?_
            have o : 0 ≤ n ∧ n ≤ 30 := ok.2.2.2
            have tt := hT r t c4
            have n30 : n < 30 := by omega
            have e := cel_in (r := p) (t := T r) (k := n) (c := C r) ⟨tt.1.1, tt.1.2, o.1, n30, tt.2.1, tt.2.2⟩
            rw [← e, c5]
            omega
          · rw [cst_go c1 c3 c4 c6 c5]
            exact h.fil _ _
        · rw [cst_sk c1 c3 c4 c5]; exact h
theorem cit_ct {A : Int → Int → Int} {T C : Int → Int} (hT : CTo A T C) {v : Int → Int} : ∀ (n : Nat) {S : CSt}, CIv S → CTc v S.2 → CTc v (cit A T C n S).2
  | 0, _, _, h => h
  | n + 1, S, hi, h => cit_ct hT n (S := cst A T C S) (cst_iv hT hi).1 (cst_ct hT hi h)
theorem cfin_ct {A : Int → Int → Int} {T C : Int → Int} (hT : CTo A T C) {v : Int → Int} {t k : Int} (h : RC v) (h0 : 0 ≤ t ∧ t < 3 ∧ 0 ≤ k ∧ k < 30) (hp : cel v t k 0 ≠ -2000) : CTc v (cfin A T C ([(t, k, 0, 0)], rfil v t k (-2000) 3)) := by
  rw [cfin_eq]
  exact cit_ct hT _ (civ_0 h h0 hp).1 (CTc.fil (fun i => Or.inl rfl) t k)
/-! a sum over cells, by columns and by rows -/
theorem bsm_3 (g h : Int → Int) (e : ∀ k : Int, 0 ≤ k → k < 30 → h k = g k + g (30 + k) + g (60 + k)) : bsm g 90 = bsm h 30 := by
  have key : ∀ n : Nat, n ≤ 30 → bsm h n = bsm g n + bsm (fun k => g (30 + k)) n + bsm (fun k => g (60 + k)) n := by
    intro n
    induction n with
    | zero => intro _; rfl
    | succ n ih =>
      intro hn
      have ih := ih (by omega)
      have e := e (n : Int) (by omega) (by omega)
      show bsm h n + h (n : Int) = (bsm g n + g (n : Int)) + (bsm (fun k => g (30 + k)) n + g (30 + (n : Int))) + (bsm (fun k => g (60 + k)) n + g (60 + (n : Int)))
      omega
  have e1 : bsm g 90 = bsm g (30 + (30 + 30)) := rfl
  rw [e1, bsm_add, bsm_add, key 30 (Nat.le_refl _)]
  have e2 : bsm (fun k => (fun k => g (((30 : Nat) : Int) + k)) (((30 : Nat) : Int) + k)) 30 = bsm (fun k => g (60 + k)) 30 := bsm_cg 30 (fun k _ => by
    show g (((30 : Nat) : Int) + (((30 : Nat) : Int) + (k : Int))) = g (60 + (k : Int))
    rw [show (((30 : Nat) : Int) + (((30 : Nat) : Int) + (k : Int))) = 60 + (k : Int) by omega])
  rw [e2]
  show bsm g 30 + (bsm (fun k => g (30 + k)) 30 + bsm (fun k => g (60 + k)) 30) = _
  omega
theorem bsm_90 (g h : Int → Int) (e : ∀ t k : Int, 0 ≤ t → t < 3 → 0 ≤ k → k < 30 → h (30 * t + k) = g (90 * t + k) + g (90 * t + 30 + k) + g (90 * t + 60 + k)) : bsm g 270 = bsm h 90 := by
  have e1 : bsm g 270 = bsm g (90 + (90 + 90)) := rfl
  have e2 : bsm h 90 = bsm h (30 + (30 + 30)) := rfl
  have k0 : bsm g 90 = bsm h 30 := bsm_3 g h (fun k h0 h1 => by
    have q := e 0 k (by decide) (by decide) h0 h1
    rw [show 30 * 0 + k = k by omega, show 90 * 0 + k = k by omega, show 90 * 0 + 30 + k = 30 + k by omega, show 90 * 0 + 60 + k = 60 + k by omega] at q
    exact q)
  have k1 : bsm (fun k => g (((90 : Nat) : Int) + k)) 90 = bsm (fun k => h (((30 : Nat) : Int) + k)) 30 := bsm_3 _ _ (fun k h0 h1 => by
    have q := e 1 k (by decide) (by decide) h0 h1
    show h (((30 : Nat) : Int) + k) = g (((90 : Nat) : Int) + k) + g (((90 : Nat) : Int) + (30 + k)) + g (((90 : Nat) : Int) + (60 + k))
    rw [show ((30 : Nat) : Int) + k = 30 * 1 + k by omega, show ((90 : Nat) : Int) + k = 90 * 1 + k by omega, show ((90 : Nat) : Int) + (30 + k) = 90 * 1 + 30 + k by omega, show ((90 : Nat) : Int) + (60 + k) = 90 * 1 + 60 + k by omega]
    exact q)
  have k2 : bsm (fun k => (fun k => g (((90 : Nat) : Int) + k)) (((90 : Nat) : Int) + k)) 90 = bsm (fun k => (fun k => h (((30 : Nat) : Int) + k)) (((30 : Nat) : Int) + k)) 30 := bsm_3 _ _ (fun k h0 h1 => by
    have q := e 2 k (by decide) (by decide) h0 h1
    show h (((30 : Nat) : Int) + (((30 : Nat) : Int) + k)) = g (((90 : Nat) : Int) + (((90 : Nat) : Int) + k)) + g (((90 : Nat) : Int) + (((90 : Nat) : Int) + (30 + k))) + g (((90 : Nat) : Int) + (((90 : Nat) : Int) + (60 + k)))
    rw [show ((30 : Nat) : Int) + (((30 : Nat) : Int) + k) = 30 * 2 + k by omega, show ((90 : Nat) : Int) + (((90 : Nat) : Int) + k) = 90 * 2 + k by omega, show ((90 : Nat) : Int) + (((90 : Nat) : Int) + (30 + k)) = 90 * 2 + 30 + k by omega, show ((90 : Nat) : Int) + (((90 : Nat) : Int) + (60 + k)) = 90 * 2 + 60 + k by omega]
    exact q)
  rw [e1, e2, bsm_add, bsm_add, bsm_add, bsm_add, k0, k1, k2]
theorem cl_cell {f0 f1 : Nat → Int32} {v p : Int → Int} {t k c : Int} (h0 : RM f0 0) (h1 : RM f1 0) (e0 : v = mw f0 0) (e1 : p = mw f1 0) (hc : CTc v p) (hi : 0 ≤ t ∧ t < 3 ∧ 0 ≤ k ∧ k < 30 ∧ 0 ≤ c ∧ c < 3) : clA f0 f1 (4 * (30 * t + k)) (1 + c) = nn1 p v (90 * t + 30 * c + k) := by
  have o0 := h0.okc hi
  have o1 := h1.okc hi
  rw [← e0, cel_in hi] at o0
  rw [← e1, cel_in hi] at o1
  rw [show 0 + 4 * (30 * t + k) = 4 * (30 * t + k) by omega] at o0 o1
  have hh := hc (90 * t + 30 * c + k)
  have n1 := nn1_st p v (90 * t + 30 * c + k)
  have a1 := clA_st f0 f1 (4 * (30 * t + k)) (1 + c)
  rw [show 4 * (30 * t + k) + (1 + c) = 4 * (30 * t + k) + 1 + c by omega] at a1
  by_cases g : p (90 * t + 30 * c + k) = -1000 ∧ v (90 * t + 30 * c + k) ≠ -1000
  · rw [n1.1 g]
    refine a1.1 ⟨?_, ?_⟩
    · rcases o1 with ⟨-, q⟩ | ⟨q, -⟩
      · omega
      · exact q
    · rcases o1 with ⟨-, q⟩ | ⟨-, q, -⟩
      · omega
      · rcases o0 with ⟨-, q0⟩ | ⟨-, q0, -⟩
        · omega
        · omega
  · rw [n1.2 g]
    refine a1.2 (fun z => ?_)
    obtain ⟨z1, z2⟩ := z
    rcases o1 with ⟨q, -⟩ | ⟨-, q, w⟩
    · rw [z1] at q; exact absurd q (by decide)
    · rcases o0 with ⟨-, q0⟩ | ⟨-, q0, -⟩
      · omega
      · omega
theorem cl_all {f0 f1 : Nat → Int32} {v p : Int → Int} (h0 : RM f0 0) (h1 : RM f1 0) (e0 : v = mw f0 0) (e1 : p = mw f1 0) (hc : CTc v p) : bsI (nn1 p v) 270 = clT f0 f1 360 := by
  show bsm (nn1 p v) 270 = bsm (fun j => clR f0 f1 (4 * j) 4) 90
  refine bsm_90 _ _ (fun t k t0 t1 k0 k1 => ?_)
  show clR f0 f1 (4 * (30 * t + k)) 4 = _
  have c0 := cl_cell (c := 0) h0 h1 e0 e1 hc ⟨t0, t1, k0, k1, by decide, by decide⟩
  have c1 := cl_cell (c := 1) h0 h1 e0 e1 hc ⟨t0, t1, k0, k1, by decide, by decide⟩
  have c2 := cl_cell (c := 2) h0 h1 e0 e1 hc ⟨t0, t1, k0, k1, by decide, by decide⟩
  rw [show (1 : Int) + 0 = 1 from by decide, show 90 * t + 30 * 0 + k = 90 * t + k by omega] at c0
  rw [show (1 : Int) + 1 = 2 from by decide, show 90 * t + 30 * 1 + k = 90 * t + 30 + k by omega] at c1
  rw [show (1 : Int) + 2 = 3 from by decide, show 90 * t + 30 * 2 + k = 90 * t + 60 + k by omega] at c2
  rw [clR_4, c0, c1, c2]
theorem wcut_all {K : Nat → Nat} {F : Nat → Nat → Nat} {G : XG} {b : Nat} {f : Nat → Int32} {vn mn nb p q : Int → Int} {op op2 t k w r r1 : Int} (h : A_book K F G b f) (ho : op = op2) (hn : vn = mn) (hro : RO vn nb) (hm : RC vn) (hp : p = cfin (refA f) (refT f) (refC f) ([(t, k, 0, 0)], rfil vn t k (-2000) 3)) (hq : p = q)
    (x : (cel vn t k 0 = -2000 ∧ r = -1) ∨ (cel vn t k 0 ≠ -2000 ∧ ((w = 0 ∧ ∃ b9 : Int → Int, RO p b9 ∧ r = toB nb 3 - toB b9 3) ∨ (w = 1 ∧ r = bsI (nn1 p vn) 270) ∨ (w = 2 ∧ AnsR op r (gaL G (G.2.2.1 (F b 1)) vn p 0 ((G.1 b 2).toInt).toNat)) ∨ ((w < 0 ∨ 2 < w) ∧ r = -1))))
    (y : (¬ (cel mn t k 0 ≠ -2000 ∧ 0 ≤ w ∧ w ≤ 2) ∧ r1 = -1) ∨ ((cel mn t k 0 ≠ -2000 ∧ 0 ≤ w ∧ w ≤ 2) ∧ ((w = 0 ∧ ∃ f0 f1 : Nat → Int32, (RM f0 0 ∧ mw f0 0 = mn) ∧ (RM f1 0 ∧ mw f1 0 = q) ∧ r1 = rmT f0 360 - rmT f1 360) ∨ (w = 1 ∧ ∃ f0 f1 : Nat → Int32, (RM f0 0 ∧ mw f0 0 = mn) ∧ (RM f1 0 ∧ mw f1 0 = q) ∧ r1 = clT f0 f1 360) ∨ (w = 2 ∧ AnsM op2 r1 f mn q)))) : r = r1 := by
  subst hn hq
  rcases x with ⟨a, e⟩ | ⟨a, x⟩
  · rcases y with ⟨-, e2⟩ | ⟨a2, -⟩
    · exact e.trans e2.symm
    · exact absurd a a2.1
  · have hin : 0 ≤ t ∧ t < 3 ∧ 0 ≤ k ∧ k < 30 := by
      apply Classical.byContradiction
      intro z
      exact a (cel_out (fun g => z ⟨g.1, g.2.1, g.2.2.1, g.2.2.2.1⟩))
    rcases y with ⟨a2, e2⟩ | ⟨-, y⟩
    · rcases x with ⟨w0, -⟩ | ⟨w0, -⟩ | ⟨w0, -⟩ | ⟨-, e⟩
      · exact absurd ⟨a, by omega, by omega⟩ a2
      · exact absurd ⟨a, by omega, by omega⟩ a2
      · exact absurd ⟨a, by omega, by omega⟩ a2
      · exact e.trans e2.symm
    · rcases x with ⟨w0, b9, hb, e⟩ | ⟨w0, e⟩ | ⟨w0, e⟩ | ⟨w0, -⟩
      · rcases y with ⟨-, f0, f1, ⟨m0, v0⟩, ⟨m1, v1⟩, e2⟩ | ⟨w1, -⟩ | ⟨w1, -⟩
        · rw [e, e2, rows_eq hro m0 v0.symm, rows_eq hb m1 v1.symm]
        · omega
        · omega
      · rcases y with ⟨w1, -⟩ | ⟨-, f0, f1, ⟨m0, v0⟩, ⟨m1, v1⟩, e2⟩ | ⟨w1, -⟩
        · omega
        · rw [e, e2]
          exact cl_all m0 m1 v0.symm v1.symm (by rw [hp]; exact cfin_ct (refTo h.2.2.2.2.1) hm hin a)
        · omega
      · rcases y with ⟨w1, -⟩ | ⟨w1, -⟩ | ⟨-, e2⟩
        · omega
        · omega
        · exact would_core h ho e e2
      · exfalso
        rcases y with ⟨w1, -⟩ | ⟨w1, -⟩ | ⟨w1, -⟩ <;> omega
/-! THE CLAIM OUT OF ONE WALK OF THE LAW'S BODY. Your part is whole_start (and what it stands on); all else here is the same for every law, but numbers. -/
def R_law : String := "LateRulesLaw"
def lw_P (b : Addr) (xs : List Int32) (args : Array Value) (s : State) : Prop := args = #[.ref b] ∧ s.IntsAt b xs ∧ xs.length ≤ 3072 ∧ (Jvm.Cond.and given_1 narrow_1).before args s = true
def lw_Q (_ : Array Value) (s : State) (o : Outcome) (t : State) : Prop := o = .returned (some (.int 1)) ∧ Framed s o t [] 601024 7293034
def lw_Z (below : List Frame) (a : Array Value) (s : State) : State → Prop := fun t => ∃ o, t.status = .running ∧ Ended t below o ∧ lw_Q a s o t
/-- the law's own end, with 1 on the stack, nothing written that was there before, its room as the claim has it -/
theorem lw_ret {p : Program} {l : Launch} {e : Env} {s : State} {m : MethodId} {below : List Frame} {meth : Method} {c : Code} {b : Nat} (hx : p.tables.exec = Jvm.exec) (hb : c.code = code) (hr : meth.sig.returnType = ret) (hlocks : meth.locks = false) {pc : Nat} {H : Heap} {ls : Array Slot} (hdg : decode code pc = .ok (.ireturn, 1)) : W p l e room_1 s m #[Value.ref b] below meth c H [] 601024 7293034 (lw_Z below #[Value.ref b] s) (F0 m pc ls [.int 1]) := by
  intro T hT X
  obtain ⟨fs, hret, hrun, hended, hW, hframe⟩ := X.leave (v := some (.int 1)) (hlocks := hlocks) (fun h => by rw [hr] at h; cases h)
  have hmeth' : T.vm.method? m = some meth := X.method'
  refine ⟨T.setFrames fs, ?_, .returned (some (.int 1)), hrun, hended, rfl, ⟨_, rfl⟩, hW, hframe⟩
  jvm_step X.here [X.here.top, hx, hb, hdg, hmeth', hr, ret, narrow_b1]
  (try refine ⟨rfl, ?_⟩); (try refine ⟨rfl, ?_⟩)
  first | (intro acts; rw [hret _ acts rfl rfl rfl]) | rw [hret _ _ rfl rfl rfl]
  exact Steps.refl _
/-- what holds at the law's entry: the machine, the code, the tables' words (any of lw_tbl by 'hts w (by decide +kernel)'), the script of L ints xs at the cell b, what the Statement gives of the start (any of its parts by flat_of_before) -/
def lw_At (p : Program) (s : State) (m : MethodId) (meth : Method) (c : Code) (b L : Nat) (xs : Nat → Int32) : Prop :=
  p.tables.exec = Jvm.exec ∧ c.code = code ∧ meth.sig.returnType = ret ∧ c.maxLocals = 7 ∧ s.vm.findClass R_law = some m.cls ∧ (∀ w ∈ lw_tbl, w.before #[Value.ref b] s = true) ∧ va_X b L xs s s.heap ∧ b < s.heap.size ∧ meth.locks = false ∧ (Jvm.Cond.and given_1 narrow_1).before #[Value.ref b] s = true
