/-! ===== what class and reference tell of a question ===== -/
theorem no_rule {K : Nat → Nat} {F : Nat → Nat → Nat} {G : XG} {b : Nat} {f : Nat → Int32} {p : Int} (h : A_book K F G b f) (a : (p < 0 ∨ 12 ≤ p) ∨ G.2.2.1 (F b 0) p.toNat = none) : ¬ (0 ≤ p ∧ p ≤ 11 ∧ aI f (10 * p + 0) ≠ -1) := by
  rintro ⟨x1, x2, x3⟩
  rcases h.2.2.2.2.2.nat (r := p) (by omega) with ⟨-, c⟩ | ⟨y, c, -⟩
  · exact x3 c
  · rcases a with a | a
    · omega
    · rw [a] at c; cases c
theorem is_rule {K : Nat → Nat} {F : Nat → Nat → Nat} {G : XG} {b q : Nat} {f : Nat → Int32} {p : Int} (h : A_book K F G b f) (hp : 0 ≤ p ∧ p < 12) (a : G.2.2.1 (F b 0) p.toNat = some q) : (0 ≤ p ∧ p ≤ 11 ∧ aI f (10 * p + 0) ≠ -1) ∧ RQ f p (G.1 q) := by
  rcases h.2.2.2.2.2.nat hp with ⟨c, -⟩ | ⟨y, c, d, e⟩
  · rw [a] at c; cases c
  · rw [a] at c
    have := Option.some.inj c
    subst this
    exact ⟨⟨hp.1, by omega, d⟩, e⟩
theorem question_all {K : Nat → Nat} {F : Nat → Nat → Nat} {G : XG} {b : Nat} {f : Nat → Int32} {vn mn : Int → Int} {p s w r r1 : Int} (h : A_book K F G b f) (hn : vn = mn)
    (t : (((p < 0 ∨ 12 ≤ p) ∨ G.2.2.1 (F b 0) p.toNat = none) ∧ r = -2147483648) ∨ (∃ q : Nat, ((0 ≤ p ∧ p < 12) ∧ G.2.2.1 (F b 0) p.toNat = some q) ∧ r = quS vn (G.1 q 0).toInt (G.1 q 2).toInt (G.1 q 3).toInt (G.1 q 4).toInt (G.1 q 5).toInt (G.1 q 6).toInt s w))
    (t2 : (¬ (0 ≤ p ∧ p ≤ 11 ∧ aI f (10 * p + 0) ≠ -1) ∧ r1 = -2147483648) ∨ ((0 ≤ p ∧ p ≤ 11 ∧ aI f (10 * p + 0) ≠ -1) ∧ r1 = quS mn (aI f (10 * p + 0)) (aI f (10 * p + 1)) (aI f (10 * p + 2)) (aI f (10 * p + 3)) (aI f (10 * p + 4)) (aI f (10 * p + 5)) s w)) : r = r1 := by
  subst hn
  rcases t with ⟨a, e⟩ | ⟨q, ⟨hp, hq⟩, e⟩
  · rcases t2 with ⟨-, e2⟩ | ⟨b1, -⟩
    · exact e.trans e2.symm
    · exact absurd b1 (no_rule h a)
  · obtain ⟨i1, k0, -, k2, k3, k4, k5, k6, -⟩ := is_rule h hp hq
    rcases t2 with ⟨b1, -⟩ | ⟨-, e2⟩
    · exact absurd i1 b1
    · rw [e, e2, k0, k2, k3, k4, k5, k6]
theorem depth_all {K : Nat → Nat} {F : Nat → Nat → Nat} {G : XG} {b : Nat} {f : Nat → Int32} {vn mn : Int → Int} {p s r r1 : Int} (h : A_book K F G b f) (hn : vn = mn)
    (t : (((p < 0 ∨ 12 ≤ p) ∨ G.2.2.1 (F b 0) p.toNat = none) ∧ r = -1) ∨ (∃ q : Nat, ((0 ≤ p ∧ p < 12) ∧ G.2.2.1 (F b 0) p.toNat = some q) ∧ r = dpS vn (G.1 q 0).toInt (G.1 q 2).toInt (G.1 q 3).toInt s))
    (t2 : (¬ (0 ≤ p ∧ p ≤ 11 ∧ aI f (10 * p + 0) ≠ -1) ∧ r1 = -1) ∨ ((0 ≤ p ∧ p ≤ 11 ∧ aI f (10 * p + 0) ≠ -1) ∧ r1 = dpS mn (aI f (10 * p + 0)) (aI f (10 * p + 1)) (aI f (10 * p + 2)) s)) : r = r1 := by
  subst hn
  rcases t with ⟨a, e⟩ | ⟨q, ⟨hp, hq⟩, e⟩
  · rcases t2 with ⟨-, e2⟩ | ⟨b1, -⟩
    · exact e.trans e2.symm
    · exact absurd b1 (no_rule h a)
  · obtain ⟨i1, k0, -, k2, k3, -⟩ := is_rule h hp hq
    rcases t2 with ⟨b1, -⟩ | ⟨-, e2⟩
    · exact absurd i1 b1
    · rw [e, e2, k0, k2, k3]
theorem wait_cn {op op2 : Int} {f : Nat → Int32} {vb vn mb mn : Int → Int} {w : List Qt} (ho : op = op2) (hn : vn = mn) (hb : op ≠ 0 → vb = mb) (hw : A_wait op f vb vn w) (p : Int) : cnQ w p = cnP (if op2 = 0 then [] else fuO f mn mb 1) p := by
  subst ho hn
  by_cases o : op = 0
  · rw [if_pos o, hw.1 o]; rfl
  · rw [if_neg o, hw.2 o, cnQ_map, ← hb o, fuO_comm f vb vn 1]
theorem td_eq {f : Nat → Int32} {p n w : Int} {q : Nat → Int32} (h : RQ f p q) : tdC q n w = tdM f p n w := by
  obtain ⟨h0, -, h2, h3, h4, h5, h6, h7, h8, h9, -⟩ := h
  by_cases g : 0 ≤ w ∧ w ≤ 8
  · have e : w = 0 ∨ w = 1 ∨ w = 2 ∨ w = 3 ∨ w = 4 ∨ w = 5 ∨ w = 6 ∨ w = 7 ∨ w = 8 := by omega
    rw [tdM_i g]
    rcases e with e | e | e | e | e | e | e | e | e
    · rw [tdC_0 e, e]; exact h0
    · rw [tdC_1 e, e]; exact h2
    · rw [tdC_2 e, e]; exact h3
    · rw [tdC_3 e, e]; exact h4
    · rw [tdC_4 e, e]; exact h5
    · rw [tdC_5 e, e]; exact h6
    · rw [tdC_6 e, e]; exact h9
    · rw [tdC_7 e, e]; exact h8
    · rw [tdC_8 e, e]; exact h7
  · by_cases e : w = 9
    · rw [tdC_9 e, tdM_9 e]
    · rw [tdC_o (by omega), tdM_o (by omega)]
theorem told_all {K : Nat → Nat} {F : Nat → Nat → Nat} {G : XG} {b : Nat} {f : Nat → Int32} {vb vn mb mn : Int → Int} {op op2 p s r r1 : Int} {w : List Qt} (h : A_book K F G b f) (ho : op = op2) (hn : vn = mn) (hb : op ≠ 0 → vb = mb) (hw : A_wait op f vb vn w)
    (t : (((p < 0 ∨ 12 ≤ p) ∨ G.2.2.1 (F b 0) p.toNat = none) ∧ r = -2147483648) ∨ (∃ q : Nat, ((0 ≤ p ∧ p < 12) ∧ G.2.2.1 (F b 0) p.toNat = some q) ∧ r = tdC (G.1 q) (cnQ w p) s))
    (t2 : (¬ (0 ≤ p ∧ p ≤ 11 ∧ aI f (10 * p + 0) ≠ -1) ∧ r1 = -2147483648) ∨ ((0 ≤ p ∧ p ≤ 11 ∧ aI f (10 * p + 0) ≠ -1) ∧ r1 = tdM f p (cnP (if op2 = 0 then [] else fuO f mn mb 1) p) s)) : r = r1 := by
  rcases t with ⟨a, e⟩ | ⟨q, ⟨hp, hq⟩, e⟩
  · rcases t2 with ⟨-, e2⟩ | ⟨b1, -⟩
    · exact e.trans e2.symm
    · exact absurd b1 (no_rule h a)
  · obtain ⟨i1, hR⟩ := is_rule h hp hq
    rcases t2 with ⟨b1, -⟩ | ⟨-, e2⟩
    · exact absurd i1 b1
    · rw [e, e2, wait_cn ho hn hb hw p, td_eq hR]
/-! ===== how many rows there are ===== -/
theorem row_bit {v b : Int → Int} {f : Nat → Int32} (hro : RO v b) (hm : RM f 0) (e : v = mw f 0) {t k : Int} (ht : 0 ≤ t ∧ t < 3) (hk : 0 ≤ k ∧ k < 30) : aI f (4 * (30 * t + k)) = bI (b t) k := by
  have h1 := (hro.1 t k ht.1 ht.2 hk.1 hk.2).1
  have h2 : cel v t k 0 = v (90 * t + 30 * 0 + k) := cel_in ⟨ht.1, ht.2, hk.1, hk.2, by decide, by decide⟩
  have h3 := hm.flag (t := t) (k := k) ⟨ht.1, ht.2, hk.1, hk.2⟩
  rw [← e, h2, show 90 * t + 30 * 0 + k = 90 * t + k by omega, show 0 + 4 * (30 * t + k) = 4 * (30 * t + k) by omega] at h3
  rcases bI01 (b t) k with z | z
  · rcases h3 with ⟨a, -⟩ | ⟨-, a⟩
    · rw [a, z]
    · have := h1.mpr a
      omega
  · rcases h3 with ⟨-, a⟩ | ⟨a, -⟩
    · exact absurd a (h1.mp z)
    · rw [a, z]
theorem rows_eq {v b : Int → Int} {f : Nat → Int32} (hro : RO v b) (hm : RM f 0) (e : v = mw f 0) : toB b 3 = rmT f 360 := by
  have key : ∀ t : Nat, t < 3 → bsm (fun k => aI f (4 * (((30 * t : Nat) : Int) + k))) 30 = szB b t := fun t ht => bsm_cg 30 (fun k hk => by
    show aI f (4 * (((30 * t : Nat) : Int) + (k : Int))) = bI (b t) k
    rw [← row_bit hro hm e (t := (t : Int)) (k := (k : Int)) ⟨by omega, by omega⟩ ⟨by omega, by omega⟩, show ((30 * t : Nat) : Int) = 30 * (t : Int) by omega])
  have e1 : rmT f 360 = bsm (fun k => aI f (4 * k)) (30 + (30 + 30)) := rfl
  have e3 : toB b 3 = 0 + szB b ((0 : Nat) : Int) + szB b ((1 : Nat) : Int) + szB b ((2 : Nat) : Int) := rfl
  have k0 : bsm (fun k => aI f (4 * k)) 30 = szB b ((0 : Nat) : Int) := by
    rw [← key 0 (by decide)]
    exact bsm_cg 30 (fun k _ => by
      show aI f (4 * (k : Int)) = aI f (4 * (((30 * 0 : Nat) : Int) + (k : Int)))
      rw [show (((30 * 0 : Nat) : Int) + (k : Int)) = (k : Int) by omega])
  rw [e1, bsm_add, bsm_add, k0, e3]
  have k1 := key 1 (by decide)
  have k2 : bsm (fun k => (fun k => aI f (4 * k)) (((30 : Nat) : Int) + (((30 : Nat) : Int) + k))) 30 = szB b ((2 : Nat) : Int) := by
    rw [← key 2 (by decide)]
    exact bsm_cg 30 (fun k _ => by
      show aI f (4 * (((30 : Nat) : Int) + (((30 : Nat) : Int) + (k : Int)))) = aI f (4 * (((30 * 2 : Nat) : Int) + (k : Int)))
      rw [show (((30 : Nat) : Int) + (((30 : Nat) : Int) + (k : Int))) = (((30 * 2 : Nat) : Int) + (k : Int)) by omega])
  have k1 : bsm (fun k => (fun k => aI f (4 * k)) (((30 : Nat) : Int) + k)) 30 = szB b ((1 : Nat) : Int) := k1
  rw [k1, k2]
  omega
theorem begin_r {v b : Int → Int} {f : Nat → Int32} {A B C D E : Prop} {op op2 r r1 : Int} (ho : op = op2) (hro : RO v b) (hm : RM f 0) (e : v = mw f 0) (t : (op ≠ 0 ∧ r = -3 ∧ A) ∨ (op = 0 ∧ B ∧ r = toB b 3)) (t2 : (op2 ≠ 0 ∧ r1 = -3 ∧ C) ∨ (op2 = 0 ∧ D ∧ E ∧ r1 = rmT f 360)) : r = r1 := by
  subst ho
  rcases t with ⟨a, c, -⟩ | ⟨a, -, c⟩
  · rcases t2 with ⟨-, d, -⟩ | ⟨d, -⟩
    · exact c.trans d.symm
    · exact absurd d a
  · rcases t2 with ⟨d, -⟩ | ⟨-, -, -, d⟩
    · exact absurd a d
    · rw [c, d, rows_eq hro hm e]
/-! ===== what an act would tell ===== -/
theorem would_core {K : Nat → Nat} {F : Nat → Nat → Nat} {G : XG} {b : Nat} {f : Nat → Int32} {vn p : Int → Int} {op op2 r r1 : Int} (h : A_book K F G b f) (ho : op = op2) (hA : AnsR op r (gaL G (G.2.2.1 (F b 1)) vn p 0 ((G.1 b 2).toInt).toNat)) (hS : AnsM op2 r1 f vn p) : r = r1 := by
  obtain ⟨n1, w1, hA⟩ := hA.act vn p
  obtain ⟨r3, hS⟩ := hS.st
  have hL := h.2.2.2.2.2
  rw [gaL_fuO hL h.1 (Or.inl rfl), lw_0] at hA
  exact (act_link hL ho hA hS).1
theorem wset_all {K : Nat → Nat} {F : Nat → Nat → Nat} {G : XG} {b : Nat} {f : Nat → Int32} {vn mn : Int → Int} {op op2 r r1 t k c v : Int} (h : A_book K F G b f) (ho : op = op2) (hn : vn = mn)
    (x : (r = -1 ∧ ¬ ((0 ≤ t ∧ t < 3) ∧ (0 ≤ k ∧ k < 30) ∧ (0 ≤ c ∧ c < 3) ∧ (v = -1000 ∨ (-99 ≤ v ∧ v ≤ 99)))) ∨ (((0 ≤ t ∧ t < 3) ∧ (0 ≤ k ∧ k < 30) ∧ (0 ≤ c ∧ c < 3) ∧ (v = -1000 ∨ (-99 ≤ v ∧ v ≤ 99))) ∧ r = -2 ∧ cel vn t k 0 = -2000) ∨ (((0 ≤ t ∧ t < 3) ∧ (0 ≤ k ∧ k < 30) ∧ (0 ≤ c ∧ c < 3) ∧ (v = -1000 ∨ (-99 ≤ v ∧ v ≤ 99))) ∧ cel vn t k 0 ≠ -2000 ∧ r = -4 ∧ cel vn t k c = v) ∨ (((0 ≤ t ∧ t < 3) ∧ (0 ≤ k ∧ k < 30) ∧ (0 ≤ c ∧ c < 3) ∧ (v = -1000 ∨ (-99 ≤ v ∧ v ≤ 99))) ∧ cel vn t k 0 ≠ -2000 ∧ cel vn t k c ≠ v ∧ AnsR op r (gaL G (G.2.2.1 (F b 1)) vn (rset vn (90 * t + 30 * c + k) v) 0 ((G.1 b 2).toInt).toNat)))
    (y : (whyS mn t k c v ≠ 0 ∧ r1 = whyS mn t k c v) ∨ (whyS mn t k c v = 0 ∧ AnsM op2 r1 f mn (rset mn (90 * t + 30 * c + k) v))) : r = r1 := by
  subst hn
  rcases x with ⟨a1, a2⟩ | ⟨a1, a2, a3⟩ | ⟨a1, a2, a3, a4⟩ | ⟨a1, a2, a3, a4⟩
  · have w : whyS vn t k c v = -1 := by
      unfold whyS
      exact if_neg (fun q => a2 ⟨⟨q.1, q.2.1⟩, ⟨q.2.2.1, q.2.2.2.1⟩, ⟨q.2.2.2.2.1, q.2.2.2.2.2.1⟩, q.2.2.2.2.2.2⟩)
    rw [w] at y
    rcases y with ⟨-, b2⟩ | ⟨b1, -⟩
    · exact a1.trans b2.symm
    · exact absurd b1 (by decide)
  · have w : whyS vn t k c v = -2 := by
      unfold whyS
      rw [if_pos ⟨a1.1.1, a1.1.2, a1.2.1.1, a1.2.1.2, a1.2.2.1.1, a1.2.2.1.2, a1.2.2.2⟩, if_pos a3]
    rw [w] at y
    rcases y with ⟨-, b2⟩ | ⟨b1, -⟩
    · exact a2.trans b2.symm
    · exact absurd b1 (by decide)
  · have w : whyS vn t k c v = -4 := by
      unfold whyS
      rw [if_pos ⟨a1.1.1, a1.1.2, a1.2.1.1, a1.2.1.2, a1.2.2.1.1, a1.2.2.1.2, a1.2.2.2⟩, if_neg a2, if_pos a4]
    rw [w] at y
    rcases y with ⟨-, b2⟩ | ⟨b1, -⟩
    · exact a3.trans b2.symm
    · exact absurd b1 (by decide)
  · have w : whyS vn t k c v = 0 := by
      unfold whyS
      rw [if_pos ⟨a1.1.1, a1.1.2, a1.2.1.1, a1.2.1.2, a1.2.2.1.1, a1.2.2.1.2, a1.2.2.2⟩, if_neg a2, if_neg a3]
    rw [w] at y
    rcases y with ⟨b1, -⟩ | ⟨-, b2⟩
    · exact absurd rfl b1
    · exact would_core h ho a4 b2
theorem sz_rmR {v b : Int → Int} {f : Nat → Int32} (hro : RO v b) (hm : RM f 0) (e : v = mw f 0) {t : Int} (ht : 0 ≤ t ∧ t < 3) : szB b t = rmR f t 30 := (bsm_cg 30 (fun k hk => row_bit hro hm e ht (k := (k : Int)) ⟨by omega, by omega⟩)).symm
theorem rows_all {v b : Int → Int} {f : Nat → Int32} {t w : Int} {r r1 : Int32} (hro : RO v b) (hm : RM f 0) (e : v = mw f 0)
    (x : (¬ (0 ≤ t ∧ t < 3) ∧ r.toInt = -1) ∨ ((0 ≤ t ∧ t < 3) ∧ ((w = 0 ∧ r.toInt = szB b t) ∨ (w = 1 ∧ r.toInt = b t) ∨ (w ≠ 0 ∧ w ≠ 1 ∧ r.toInt = -1))))
    (y : (¬ ((0 ≤ t ∧ t ≤ 2) ∧ (w = 0 ∨ w = 1)) ∧ r1.toInt = -1) ∨ ((0 ≤ t ∧ t ≤ 2) ∧ w = 0 ∧ r1.toInt = rmR f t 30) ∨ ((0 ≤ t ∧ t ≤ 2) ∧ w = 1 ∧ ∀ j : Int, 0 ≤ j → j < 32 → bI r1.toInt j = if j < 30 then aI f (4 * (30 * t + j)) else 0)) : r.toInt = r1.toInt := by
  rcases x with ⟨a, c⟩ | ⟨a, ⟨g, c⟩ | ⟨g, c⟩ | ⟨g, g2, c⟩⟩
  · rcases y with ⟨a2, c2⟩ | ⟨a2, -⟩ | ⟨a2, -⟩
    · exact c.trans c2.symm
    · exact absurd ⟨a2.1, by omega⟩ a
    · exact absurd ⟨a2.1, by omega⟩ a
  · rcases y with ⟨a2, -⟩ | ⟨-, -, c2⟩ | ⟨-, g3, -⟩
    · exact absurd ⟨⟨a.1, by omega⟩, Or.inl g⟩ a2
    · rw [c, c2]; exact sz_rmR hro hm e a
    · omega
  · rcases y with ⟨a2, -⟩ | ⟨-, g3, -⟩ | ⟨-, -, c2⟩
    · exact absurd ⟨⟨a.1, by omega⟩, Or.inr g⟩ a2
    · omega
    · refine congrArg Int32.toInt (bI_ext (fun j h1 h2 => ?_))
      rw [c2 j h1 h2, c]
      by_cases q : j < 30
      · rw [if_pos q, row_bit hro hm e a ⟨h1, q⟩]
      · rw [if_neg q]
        exact hro.2.2 t j a.1 a.2 (by omega) h2
  · rcases y with ⟨-, c2⟩ | ⟨-, g3, -⟩ | ⟨-, g3, -⟩
    · exact c.trans c2.symm
    · exact absurd g3 g
    · exact absurd g3 g2
