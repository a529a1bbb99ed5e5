section
/-! ===== the queue, the acts ===== -/
theorem fu1_comm (f : Nat → Int32) (r1 r2 : Int → Int) (q s : Int) : fu1 f r1 r2 q s = fu1 f r2 r1 q s := by
  unfold fu1
  split
  · rename_i h; rw [if_pos (Ne.symm h)]
  · rename_i h; rw [if_neg (fun g => h (Ne.symm g))]
theorem fus_comm (f : Nat → Int32) (r1 r2 : Int → Int) (late q : Int) : fus f r1 r2 late q = fus f r2 r1 late q := by
  unfold fus
  rw [show fu1 f r1 r2 q = fu1 f r2 r1 q from funext (fu1_comm f r1 r2 q)]
theorem fuL_comm (f : Nat → Int32) (r1 r2 : Int → Int) (late : Int) (o : Nat → Nat) : ∀ n : Nat, fuL f r1 r2 late o n = fuL f r2 r1 late o n
  | 0 => rfl
  | n + 1 => by rw [fuL_s, fuL_s, fuL_comm f r1 r2 late o n, fus_comm f r1 r2]
theorem fuO_comm (f : Nat → Int32) (r1 r2 : Int → Int) (late : Int) : fuO f r1 r2 late = fuO f r2 r1 late := fuL_comm f r1 r2 late _ _
theorem cnQ_map (f : Nat → Int32) (r1 r2 : Int → Int) (l : List (Int × Int)) (v : Int) : cnQ (l.map (tqq f r1 r2)) v = cnP l v := by
  unfold cnQ cnP
  rw [List.countP_map]
  rfl
def A_wait (op : Int) (f : Nat → Int32) (vb vn : Int → Int) (w : List Qt) : Prop := (op = 0 → w = []) ∧ (op ≠ 0 → w = (fuO f vb vn 1).map (tqq f vb vn))
theorem A_wait.z {op : Int} {f f1 : Nat → Int32} {vb vn vb1 vn1 : Int → Int} {w : List Qt} (h : A_wait op f vb vn w) (ho : op = 0) : A_wait op f1 vb1 vn1 w := ⟨h.1, fun q => absurd ho q⟩
theorem RW.cg9 {q q1 : Nat → Int32} (h : RW q) (e : ∀ j, j ≠ 9 → q1 j = q j) : RW q1 := by
  unfold RW at *
  rw [e 0 (by decide), e 2 (by decide), e 3 (by decide), e 4 (by decide)]
  exact h
theorem B_late {K : Nat → Nat} {F : Nat → Nat → Nat} {G u : XG} {b xq : Nat} {f f1 : Nat → Int32} {p v : Int} (h : A_book K F G b f) (hp : 0 ≤ p ∧ p < 12) (hx : G.2.2.1 (F b 0) p.toNat = some xq) (hv : v = 0 ∨ v = 1) (hu : (u.1 xq 9).toInt = v) (hr : ∀ q j, K q = 9 → (q ≠ xq ∨ j ≠ 9) → u.1 q j = G.1 q j) (e0 : u.2.2.1 (F b 0) = G.2.2.1 (F b 0)) (e1 : u.2.2.1 (F b 1) = G.2.2.1 (F b 1)) (e2 : (u.1 b 2).toInt = (G.1 b 2).toInt) (hf : ∀ z : Int, 0 ≤ z → aI f1 z = if z = 10 * p + 6 then v else aI f z) (hV : RV f1) : A_book K F u b f1 := by
  obtain ⟨h1, h2, h3, h4, h5, h6⟩ := h
  have n9 : ∀ q, K q = 9 → ∀ j, j ≠ 9 → u.1 q j = G.1 q j := fun q hq j hj => hr q j hq (Or.inr hj)
  refine ⟨h1.cg e0 e1 e2 (fun i q _ hq => n9 q (h2 i q hq).1 8 (by decide)), fun i q hq => ?_, fun i q hq => ?_, fun i q hi hq => ?_, hV, fun i hi => ?_⟩
  · rw [e0] at hq
    have h := h2 i q hq
    exact ⟨h.1, h.2.cg9 (n9 q h.1)⟩
  · rw [e1] at hq
    have h := h3 i q hq
    exact ⟨h.1, h.2.cg9 (n9 q h.1)⟩
  · rw [e0] at hq
    rw [n9 q (h2 i q hq).1 7 (by decide)]
    exact h4 i q hi hq
  · rw [e0]
    have nx := LK.nat h6 hp
    rcases nx with ⟨cc, -⟩ | ⟨y, cc, -, cx⟩
    · rw [hx] at cc; cases cc
    · have ey : y = xq := by rw [hx] at cc; exact (Option.some.inj cc).symm
      subst ey
      rcases h6 i hi with ⟨a, c⟩ | ⟨q, a, c, d⟩
      · exact Or.inl ⟨a, by rw [hf _ (by omega), if_neg (by omega)]; exact c⟩
      · have hq9 := (h2 i q a).1
        by_cases g : (i : Int) = p
        · have eq : q = y := by
            have e : i = p.toNat := by omega
            rw [e, hx] at a
            exact (Option.some.inj a).symm
          subst eq
          refine Or.inr ⟨q, a, by rw [hf _ (by omega), if_neg (by omega)]; exact c, ?_⟩
          have o : ∀ j : Int, 0 ≤ j → j < 9 → j ≠ 6 → aI f1 (10 * (i : Int) + j) = aI f (10 * (i : Int) + j) := fun j _ _ hj => by rw [hf _ (by omega), if_neg (by omega)]
          unfold RQ at d ⊢
          rw [o 0 (by decide) (by decide) (by decide), o 1 (by decide) (by decide) (by decide), o 2 (by decide) (by decide) (by decide), o 3 (by decide) (by decide) (by decide), o 4 (by decide) (by decide) (by decide), o 5 (by decide) (by decide) (by decide), o 7 (by decide) (by decide) (by decide), o 8 (by decide) (by decide) (by decide), n9 q hq9 0 (by decide), n9 q hq9 1 (by decide), n9 q hq9 2 (by decide), n9 q hq9 3 (by decide), n9 q hq9 4 (by decide), n9 q hq9 5 (by decide), n9 q hq9 6 (by decide), n9 q hq9 7 (by decide), n9 q hq9 8 (by decide), hu, hf (10 * (i : Int) + 6) (by omega), if_pos (by omega)]
          obtain ⟨d0, d1, d2, d3, d4, d5, d6, d7, d8, -, -⟩ := d
          exact ⟨d0, d1, d2, d3, d4, d5, d6, d7, d8, rfl, hv⟩
        · have nq : q ≠ y := fun e => by
            subst e
            exact g (d.2.1.symm.trans cx.2.1)
          have eq : u.1 q = G.1 q := funext (fun j => hr q j hq9 (Or.inl nq))
          exact Or.inr ⟨q, a, by rw [hf _ (by omega), if_neg (by omega)]; exact c, by rw [eq]; exact d.cgf (fun j h1 h2 => by rw [hf _ (by omega), if_neg (by omega)])⟩
theorem wait_new {K : Nat → Nat} {F : Nat → Nat → Nat} {u : XG} {b : Nat} {f : Nat → Int32} {vb vn : Int → Int} {op : Int} {w : List Qt} (h : A_book K F u b f) (ho : op ≠ 0) (hw : w = gaL u (u.2.2.1 (F b 1)) vb vn 1 (u.1 b 2).toInt.toNat) : A_wait op f vb vn w := by
  refine ⟨fun q => absurd q ho, fun _ => ?_⟩
  rw [hw, gaL_fuO h.2.2.2.2.2 h.1 (Or.inr (Or.inl rfl)), lw_1]
theorem later_wait {K : Nat → Nat} {F : Nat → Nat → Nat} {G u : XG} {b xq : Nat} {f1 : Nat → Int32} {vb vn : Int → Int} {op : Int} {w : List Qt} {v : Int32} (h : A_book K F u b f1) (ho : op ≠ 0) (hu : u.1 xq 9 = v) (hr : ∀ q j, K q = 9 → (q ≠ xq ∨ j ≠ 9) → u.1 q j = G.1 q j) (e1 : u.2.2.1 (F b 1) = G.2.2.1 (F b 1)) (e2 : (u.1 b 2).toInt = (G.1 b 2).toInt) (hw : w = gaL (dput G xq 9 v) (G.2.2.1 (F b 1)) vb vn 1 (G.1 b 2).toInt.toNat) : A_wait op f1 vb vn w := by
  refine wait_new h ho ?_
  rw [hw, e1, e2]
  refine (gaL_cg (fun i q _ hq => ?_)).symm
  have hk := (h.2.2.1 i q (by rw [e1]; exact hq)).1
  funext j
  show u.1 q j = up2 G.1 xq 9 v q j
  unfold up2
  by_cases g : q = xq ∧ j = 9
  · rw [if_pos g, g.1, g.2, hu]
  · rw [if_neg g]
    refine hr q j hk ?_
    by_cases g2 : q = xq
    · exact Or.inr (fun e => g ⟨g2, e⟩)
    · exact Or.inl g2
theorem later_all {K : Nat → Nat} {F : Nat → Nat → Nat} {G u : XG} {b a8 xq : Nat} {f f1 : Nat → Int32} {vb vn : Int → Int} {p p1 op op2 r r1 : Int} (h : A_book K F G b f) (ho : op = op2) (hw : A_wait op f vb vn (qL G F a8)) (hxk : (K xq = 9 ∧ (0 ≤ p ∧ p < 12) ∧ G.2.2.1 (F b 0) p.toNat = some xq) ∨ K xq ≠ 9) (hr : ∀ q j, K q = 9 → (q ≠ xq ∨ j ≠ 9) → u.1 q j = G.1 q j) (e0 : u.2.2.1 (F b 0) = G.2.2.1 (F b 0)) (e1 : u.2.2.1 (F b 1) = G.2.2.1 (F b 1)) (e2 : (u.1 b 2).toInt = (G.1 b 2).toInt)
    (t : (((p < 0 ∨ 12 ≤ p) ∨ G.2.2.1 (F b 0) p.toNat = none) ∧ r = -2 ∧ qL u F a8 = qL G F a8) ∨ (((0 ≤ p ∧ p < 12) ∧ G.2.2.1 (F b 0) p.toNat = some xq) ∧ (G.1 xq 9).toInt = p1 ∧ r = -4 ∧ ((u.1 xq 9).toInt = (G.1 xq 9).toInt ∧ qL u F a8 = qL G F a8)) ∨ (((0 ≤ p ∧ p < 12) ∧ G.2.2.1 (F b 0) p.toNat = some xq) ∧ (G.1 xq 9).toInt ≠ p1 ∧ p1 ≠ 0 ∧ (u.1 xq 9).toInt = 1 ∧ ((op = 0 ∧ qL u F a8 = qL G F a8 ∧ r = 0) ∨ (op ≠ 0 ∧ qL u F a8 = (gaL (dput G xq 9 1) (G.2.2.1 (F b 1)) vb vn 1 ((G.1 b 2).toInt).toNat) ∧ r = cnQ (qL u F a8) ((G.1 xq 1).toInt)))) ∨ (((0 ≤ p ∧ p < 12) ∧ G.2.2.1 (F b 0) p.toNat = some xq) ∧ (G.1 xq 9).toInt ≠ p1 ∧ p1 = 0 ∧ (((∃ x, x ∈ qL G F a8 ∧ x.1 = (G.1 xq 1).toInt ∧ x.2.2.2.2.2 ≠ 0) ∧ r = -5 ∧ ((u.1 xq 9).toInt = (G.1 xq 9).toInt ∧ qL u F a8 = qL G F a8)) ∨ ((∀ x, x ∈ qL G F a8 → x.1 = (G.1 xq 1).toInt → x.2.2.2.2.2 = 0) ∧ (u.1 xq 9).toInt = 0 ∧ ((op = 0 ∧ qL u F a8 = qL G F a8 ∧ r = 0) ∨ (op ≠ 0 ∧ qL u F a8 = (gaL (dput G xq 9 0) (G.2.2.1 (F b 1)) vb vn 1 ((G.1 b 2).toInt).toNat) ∧ r = cnQ (qL G F a8) ((G.1 xq 1).toInt)))))))
    (t2 : (¬ (0 ≤ p ∧ p ≤ 11 ∧ aI f (10 * p + 0) ≠ -1) ∧ r1 = -2 ∧ f1 = f) ∨ ((0 ≤ p ∧ p ≤ 11 ∧ aI f (10 * p + 0) ≠ -1) ∧ aI f (10 * p + 6) = p1 ∧ r1 = -4 ∧ f1 = f) ∨ ((0 ≤ p ∧ p ≤ 11 ∧ aI f (10 * p + 0) ≠ -1) ∧ aI f (10 * p + 6) ≠ p1 ∧ p1 = 1 ∧ (∀ z : Int, 0 ≤ z → aI f1 z = if z = 10 * p + 6 then 1 else aI f z) ∧ r1 = cnP (if op2 = 0 then [] else fuO f1 vn vb 1) p) ∨ ((0 ≤ p ∧ p ≤ 11 ∧ aI f (10 * p + 0) ≠ -1) ∧ aI f (10 * p + 6) ≠ p1 ∧ p1 = 0 ∧ ((QFl f vn (if op2 = 0 then [] else fuO f vn vb 1) p ∧ r1 = -5 ∧ f1 = f) ∨ (¬ QFl f vn (if op2 = 0 then [] else fuO f vn vb 1) p ∧ (∀ z : Int, 0 ≤ z → aI f1 z = if z = 10 * p + 6 then 0 else aI f z) ∧ r1 = cnP (if op2 = 0 then [] else fuO f vn vb 1) p))))
    (hV : RV f1) : r = r1 ∧ A_book K F u b f1 ∧ A_wait op f1 vb vn (qL u F a8) := by
  subst ho
  have hL := h.2.2.2.2.2
  have sm : f1 = f → (∀ q, K q = 9 → u.1 q = G.1 q) → qL u F a8 = qL G F a8 → A_book K F u b f1 ∧ A_wait op f1 vb vn (qL u F a8) := fun e hq e3 => ⟨h.cg (fun _ h => h) e e0 e1 e2 hq, by rw [e, e3]; exact hw⟩
  have eqx : (u.1 xq 9).toInt = (G.1 xq 9).toInt → ∀ q, K q = 9 → u.1 q = G.1 q := fun e q hq => funext (fun j => by
    by_cases g : q = xq ∧ j = 9
    · rw [g.1, g.2]; exact Int32.toInt_inj.mp e
    · refine hr q j hq ?_
      by_cases g2 : q = xq
      · exact Or.inr (fun e => g ⟨g2, e⟩)
      · exact Or.inl g2)
  have isx : ((0 ≤ p ∧ p < 12) ∧ G.2.2.1 (F b 0) p.toNat = some xq) → aI f (10 * p + 0) ≠ -1 ∧ RQ f p (G.1 xq) := by
    rintro ⟨hp, hx⟩
    rcases hL.nat hp with ⟨c, -⟩ | ⟨y, c, d, e⟩
    · rw [hx] at c; cases c
    · rw [hx] at c
      have := Option.some.inj c
      subst this
      exact ⟨d, e⟩
  rcases t with ⟨a1, a2, a3⟩ | ⟨a1, a2, ar, a4, a5⟩ | ⟨a1, a2, a3, a4, a5⟩ | ⟨a1, a2, a3, t⟩
  · have no : ¬ (0 ≤ p ∧ p ≤ 11 ∧ aI f (10 * p + 0) ≠ -1) := by
      rintro ⟨x1, x2, x3⟩
      rcases hL.nat (r := p) (by omega) with ⟨-, c⟩ | ⟨y, c, -⟩
      · exact x3 c
      · rcases a1 with a1 | a1
        · omega
        · rw [a1] at c; cases c
    rcases t2 with ⟨-, b2, b3⟩ | ⟨b1, -⟩ | ⟨b1, -⟩ | ⟨b1, -⟩
    · have nk : K xq ≠ 9 := by
        rcases hxk with ⟨-, x1, x2⟩ | x
        · exfalso
          rcases a1 with a1 | a1
          · omega
          · rw [a1] at x2; cases x2
        · exact x
      exact ⟨a2.trans b2.symm, sm b3 (fun q hq => funext (fun j => hr q j hq (Or.inl (fun e => nk (by rw [← e]; exact hq))))) a3⟩
    · exact absurd b1 no
    · exact absurd b1 no
    · exact absurd b1 no
  · obtain ⟨k1, k2⟩ := isx a1
    have k9 := k2.2.2.2.2.2.2.2.2.2.1
    rcases t2 with ⟨b1, -⟩ | ⟨-, -, b2, b3⟩ | ⟨-, b1, -⟩ | ⟨-, b1, -⟩
    · exact absurd ⟨a1.1.1, by omega, k1⟩ b1
    · exact ⟨ar.trans b2.symm, sm b3 (eqx a4) a5⟩
    · omega
    · omega
  · obtain ⟨k1, k2⟩ := isx a1
    have k9 := k2.2.2.2.2.2.2.2.2.2.1
    rcases t2 with ⟨b1, -⟩ | ⟨-, b1, -⟩ | ⟨-, -, -, b1, br⟩ | ⟨-, -, b1, -⟩
    · exact absurd ⟨a1.1.1, by omega, k1⟩ b1
    · omega
    · have hB := B_late h a1.1 a1.2 (Or.inr rfl) a4 hr e0 e1 e2 b1 hV
      rcases a5 with ⟨o, e, er⟩ | ⟨o, e, er⟩
      · exact ⟨by rw [er, br, if_pos o]; rfl, hB, by rw [e]; exact hw.z o⟩
      · have wt := later_wait hB o (Int32.toInt_inj.mp a4) hr e1 e2 e
        exact ⟨by rw [er, br, if_neg o, wt.2 o, cnQ_map, k2.2.1, fuO_comm f1 vb vn 1], hB, wt⟩
    · exact absurd b1 a3
  · obtain ⟨k1, k2⟩ := isx a1
    have k9 := k2.2.2.2.2.2.2.2.2.2.1
    have kn := k2.2.1
    have lk := later_link (f := f) (n := p) hw
    rw [kn] at t
    rcases t2 with ⟨b1, -⟩ | ⟨-, b1, -⟩ | ⟨-, -, b1, -⟩ | ⟨-, -, -, t2⟩
    · exact absurd ⟨a1.1.1, by omega, k1⟩ b1
    · exact absurd (k9.trans b1) a2
    · omega
    · rcases t with ⟨c1, cr, c3, c4⟩ | ⟨c1, c2, c3⟩
      · rcases t2 with ⟨-, dr, d1⟩ | ⟨d1, -⟩
        · exact ⟨cr.trans dr.symm, sm d1 (eqx c3) c4⟩
        · exact absurd (lk.mp c1) d1
      · rcases t2 with ⟨d1, -⟩ | ⟨-, d1, dr⟩
        · exfalso
          obtain ⟨x, x1, x2, x3⟩ := lk.mpr d1
          exact x3 (c1 x x1 x2)
        · have hB := B_late h a1.1 a1.2 (Or.inl rfl) c2 hr e0 e1 e2 d1 hV
          rcases c3 with ⟨o, e, er⟩ | ⟨o, e, er⟩
          · exact ⟨by rw [er, dr, if_pos o]; rfl, hB, by rw [e]; exact hw.z o⟩
          · exact ⟨by rw [er, dr, if_neg o, hw.2 o, cnQ_map, fuO_comm f vb vn 1], hB, later_wait hB o (Int32.toInt_inj.mp c2) hr e1 e2 e⟩
theorem act_core {K : Nat → Nat} {F : Nat → Nat → Nat} {G : XG} {b : Nat} {f : Nat → Int32} {vb vn v1 m1 p : Int → Int} {op op2 r r1 : Int} {w0 w1 : List Qt} (h : A_book K F G b f) (ho : op = op2) (hw : A_wait op f vb vn w0) (hA : ActR op r (gaL G (G.2.2.1 (F b 1)) vn p 0 ((G.1 b 2).toInt).toNat) vn v1 p w0 w1 (gaL G (G.2.2.1 (F b 1)) vb p 1 ((G.1 b 2).toInt).toNat)) (hS : StR op2 r1 f vn p m1) : r = r1 ∧ v1 = m1 ∧ A_wait op f vb v1 w1 := by
  have hL := h.2.2.2.2.2
  rw [gaL_fuO hL h.1 (Or.inl rfl), lw_0] at hA
  obtain ⟨a1, a2, a3⟩ := act_link hL ho hA hS
  refine ⟨a1, a2, ?_⟩
  rcases a3 with ⟨c1, c2⟩ | ⟨c1, c2, c3⟩
  · rw [c1, c2]; exact hw
  · rw [c1]
    by_cases o : op = 0
    · rw [c2 o]; exact hw.z o
    · exact wait_new h o (c3 o)
theorem act_same {f : Nat → Int32} {vb vn v1 m1 : Int → Int} {op : Int} {w0 w1 : List Qt} (hw : A_wait op f vb vn w0) (e1 : v1 = vn) (e2 : w1 = w0) (e3 : m1 = vn) : v1 = m1 ∧ A_wait op f vb v1 w1 := by
  rw [e1, e2, e3]
  exact ⟨rfl, hw⟩
section ACTS
variable {K : Nat → Nat} {F : Nat → Nat → Nat} {G : XG} {b : Nat} {f : Nat → Int32} {vb vn mn v1 m1 : Int → Int} {op op2 r r1 : Int} {w0 w1 : List Qt}
theorem put_all {C : Prop} {t k : Int} {p : (Int → Int) → Int → Int} (h : A_book K F G b f) (ho : op = op2) (hn : vn = mn) (hw : A_wait op f vb vn w0)
    (x : (r = -1 ∧ ¬ C ∧ (v1 = vn ∧ w1 = w0)) ∨ (C ∧ r = -4 ∧ cel vn t k 0 ≠ -2000 ∧ (v1 = vn ∧ w1 = w0)) ∨ (C ∧ cel vn t k 0 = -2000 ∧ ActR op r (gaL G (G.2.2.1 (F b 1)) vn (p vn) 0 ((G.1 b 2).toInt).toNat) vn v1 (p vn) w0 w1 (gaL G (G.2.2.1 (F b 1)) vb (p vn) 1 ((G.1 b 2).toInt).toNat)))
    (y : (¬ C ∧ r1 = -1 ∧ m1 = mn) ∨ (C ∧ cel mn t k 0 ≠ -2000 ∧ r1 = -4 ∧ m1 = mn) ∨ (C ∧ cel mn t k 0 = -2000 ∧ StR op2 r1 f mn (p mn) m1)) : r = r1 ∧ v1 = m1 ∧ A_wait op f vb v1 w1 := by
  subst hn
  rcases x with ⟨a1, a2, a3, a4⟩ | ⟨a1, a2, a3, a4, a5⟩ | ⟨a1, a2, a3⟩
  · rcases y with ⟨-, b2, b3⟩ | ⟨b1, -⟩ | ⟨b1, -⟩
    · exact ⟨a1.trans b2.symm, act_same hw a3 a4 b3⟩
    · exact absurd b1 a2
    · exact absurd b1 a2
  · rcases y with ⟨b1, -⟩ | ⟨-, -, b2, b3⟩ | ⟨-, b1, -⟩
    · exact absurd a1 b1
    · exact ⟨a2.trans b2.symm, act_same hw a4 a5 b3⟩
    · exact absurd b1 a3
  · rcases y with ⟨b1, -⟩ | ⟨-, b1, -⟩ | ⟨-, -, b2⟩
    · exact absurd a1 b1
    · exact absurd a2 b1
    · exact act_core h ho hw a3 b2
theorem set_all {t k c v : Int} (h : A_book K F G b f) (ho : op = op2) (hn : vn = mn) (hw : A_wait op f vb vn w0)
    (x : (r = -1 ∧ ¬ ((0 ≤ t ∧ t < 3) ∧ (0 ≤ k ∧ k < 30) ∧ (0 ≤ c ∧ c < 3) ∧ (v = -1000 ∨ (-99 ≤ v ∧ v ≤ 99))) ∧ (v1 = vn ∧ w1 = w0)) ∨ (((0 ≤ t ∧ t < 3) ∧ (0 ≤ k ∧ k < 30) ∧ (0 ≤ c ∧ c < 3) ∧ (v = -1000 ∨ (-99 ≤ v ∧ v ≤ 99))) ∧ r = -2 ∧ cel vn t k 0 = -2000 ∧ (v1 = vn ∧ w1 = w0)) ∨ (((0 ≤ t ∧ t < 3) ∧ (0 ≤ k ∧ k < 30) ∧ (0 ≤ c ∧ c < 3) ∧ (v = -1000 ∨ (-99 ≤ v ∧ v ≤ 99))) ∧ cel vn t k 0 ≠ -2000 ∧ r = -4 ∧ cel vn t k c = v ∧ (v1 = vn ∧ w1 = w0)) ∨ (((0 ≤ t ∧ t < 3) ∧ (0 ≤ k ∧ k < 30) ∧ (0 ≤ c ∧ c < 3) ∧ (v = -1000 ∨ (-99 ≤ v ∧ v ≤ 99))) ∧ cel vn t k 0 ≠ -2000 ∧ cel vn t k c ≠ v ∧ ActR op r (gaL G (G.2.2.1 (F b 1)) vn (rset vn (90 * t + 30 * c + k) v) 0 ((G.1 b 2).toInt).toNat) vn v1 (rset vn (90 * t + 30 * c + k) v) w0 w1 (gaL G (G.2.2.1 (F b 1)) vb (rset vn (90 * t + 30 * c + k) v) 1 ((G.1 b 2).toInt).toNat)))
    (y : (whyS mn t k c v ≠ 0 ∧ r1 = whyS mn t k c v ∧ m1 = mn) ∨ (whyS mn t k c v = 0 ∧ StR op2 r1 f mn (rset mn (90 * t + 30 * c + k) v) m1)) : r = r1 ∧ v1 = m1 ∧ A_wait op f vb v1 w1 := by
  subst hn
  rcases x with ⟨a1, a2, a3, a4⟩ | ⟨a1, a2, a3, a4, a5⟩ | ⟨a1, a2, a3, a4, a5, a6⟩ | ⟨a1, a2, a3, a4⟩
  · have w : whyS vn t k c v = -1 := by
      unfold whyS
      exact if_neg (fun q => a2 ⟨⟨q.1, q.2.1⟩, ⟨q.2.2.1, q.2.2.2.1⟩, ⟨q.2.2.2.2.1, q.2.2.2.2.2.1⟩, q.2.2.2.2.2.2⟩)
    rw [w] at y
    rcases y with ⟨-, b2, b3⟩ | ⟨b1, -⟩
    · exact ⟨a1.trans b2.symm, act_same hw a3 a4 b3⟩
    · exact absurd b1 (by decide)
  · have w : whyS vn t k c v = -2 := by
      unfold whyS
      rw [if_pos ⟨a1.1.1, a1.1.2, a1.2.1.1, a1.2.1.2, a1.2.2.1.1, a1.2.2.1.2, a1.2.2.2⟩, if_pos a3]
    rw [w] at y
    rcases y with ⟨-, b2, b3⟩ | ⟨b1, -⟩
    · exact ⟨a2.trans b2.symm, act_same hw a4 a5 b3⟩
    · exact absurd b1 (by decide)
  · have w : whyS vn t k c v = -4 := by
      unfold whyS
      rw [if_pos ⟨a1.1.1, a1.1.2, a1.2.1.1, a1.2.1.2, a1.2.2.1.1, a1.2.2.1.2, a1.2.2.2⟩, if_neg a2, if_pos a4]
    rw [w] at y
    rcases y with ⟨-, b2, b3⟩ | ⟨b1, -⟩
    · exact ⟨a3.trans b2.symm, act_same hw a5 a6 b3⟩
    · exact absurd b1 (by decide)
  · have w : whyS vn t k c v = 0 := by
      unfold whyS
      rw [if_pos ⟨a1.1.1, a1.1.2, a1.2.1.1, a1.2.1.2, a1.2.2.1.1, a1.2.2.1.2, a1.2.2.2⟩, if_neg a2, if_neg a3]
    rw [w] at y
    rcases y with ⟨b1, -⟩ | ⟨-, b2⟩
    · exact absurd rfl b1
    · exact act_core h ho hw a4 b2
theorem cut_all {C : Prop} {t k : Int} {p q : (Int → Int) → Int → Int} (h : A_book K F G b f) (ho : op = op2) (hn : vn = mn) (hq : p = q) (hw : A_wait op f vb vn w0)
    (x : (r = -1 ∧ ¬ C ∧ (v1 = vn ∧ w1 = w0)) ∨ (C ∧ r = -2 ∧ cel vn t k 0 = -2000 ∧ (v1 = vn ∧ w1 = w0)) ∨ (C ∧ cel vn t k 0 ≠ -2000 ∧ ActR op r (gaL G (G.2.2.1 (F b 1)) vn (p vn) 0 ((G.1 b 2).toInt).toNat) vn v1 (p vn) w0 w1 (gaL G (G.2.2.1 (F b 1)) vb (p vn) 1 ((G.1 b 2).toInt).toNat)))
    (y : (¬ C ∧ r1 = -1 ∧ m1 = mn) ∨ (C ∧ cel mn t k 0 = -2000 ∧ r1 = -2 ∧ m1 = mn) ∨ (C ∧ cel mn t k 0 ≠ -2000 ∧ StR op2 r1 f mn (q mn) m1)) : r = r1 ∧ v1 = m1 ∧ A_wait op f vb v1 w1 := by
  subst hn hq
  rcases x with ⟨a1, a2, a3, a4⟩ | ⟨a1, a2, a3, a4, a5⟩ | ⟨a1, a2, a3⟩
  · rcases y with ⟨-, b2, b3⟩ | ⟨b1, -⟩ | ⟨b1, -⟩
    · exact ⟨a1.trans b2.symm, act_same hw a3 a4 b3⟩
    · exact absurd b1 a2
    · exact absurd b1 a2
  · rcases y with ⟨b1, -⟩ | ⟨-, -, b2, b3⟩ | ⟨-, b1, -⟩
    · exact absurd a1 b1
    · exact ⟨a2.trans b2.symm, act_same hw a4 a5 b3⟩
    · exact absurd a3 b1
  · rcases y with ⟨b1, -⟩ | ⟨-, b1, -⟩ | ⟨-, -, b2⟩
    · exact absurd a1 b1
    · exact absurd b1 a2
    · exact act_core h ho hw a3 b2
theorem rekey_all {C : Prop} {t k k2 : Int} {p q : (Int → Int) → Int → Int} (h : A_book K F G b f) (ho : op = op2) (hn : vn = mn) (hq : p = q) (hw : A_wait op f vb vn w0)
    (x : (r = -1 ∧ ¬ C ∧ (v1 = vn ∧ w1 = w0)) ∨ (C ∧ r = -2 ∧ cel vn t k 0 = -2000 ∧ (v1 = vn ∧ w1 = w0)) ∨ (C ∧ cel vn t k 0 ≠ -2000 ∧ r = -4 ∧ cel vn t k2 0 ≠ -2000 ∧ (v1 = vn ∧ w1 = w0)) ∨ (C ∧ cel vn t k 0 ≠ -2000 ∧ cel vn t k2 0 = -2000 ∧ ActR op r (gaL G (G.2.2.1 (F b 1)) vn (p vn) 0 ((G.1 b 2).toInt).toNat) vn v1 (p vn) w0 w1 (gaL G (G.2.2.1 (F b 1)) vb (p vn) 1 ((G.1 b 2).toInt).toNat)))
    (y : (¬ C ∧ r1 = -1 ∧ m1 = mn) ∨ (C ∧ cel mn t k 0 = -2000 ∧ r1 = -2 ∧ m1 = mn) ∨ (C ∧ cel mn t k 0 ≠ -2000 ∧ cel mn t k2 0 ≠ -2000 ∧ r1 = -4 ∧ m1 = mn) ∨ (C ∧ cel mn t k 0 ≠ -2000 ∧ cel mn t k2 0 = -2000 ∧ StR op2 r1 f mn (q mn) m1)) : r = r1 ∧ v1 = m1 ∧ A_wait op f vb v1 w1 := by
  subst hn hq
  rcases x with ⟨a1, a2, a3, a4⟩ | ⟨a1, a2, a3, a4, a5⟩ | ⟨a1, a2, a3, a4, a5, a6⟩ | ⟨a1, a2, a3, a4⟩
  · rcases y with ⟨-, b2, b3⟩ | ⟨b1, -⟩ | ⟨b1, -⟩ | ⟨b1, -⟩
    · exact ⟨a1.trans b2.symm, act_same hw a3 a4 b3⟩
    · exact absurd b1 a2
    · exact absurd b1 a2
    · exact absurd b1 a2
  · rcases y with ⟨b1, -⟩ | ⟨-, -, b2, b3⟩ | ⟨-, b1, -⟩ | ⟨-, b1, -⟩
    · exact absurd a1 b1
    · exact ⟨a2.trans b2.symm, act_same hw a4 a5 b3⟩
    · exact absurd a3 b1
    · exact absurd a3 b1
  · rcases y with ⟨b1, -⟩ | ⟨-, b1, -⟩ | ⟨-, -, -, b2, b3⟩ | ⟨-, -, b1, -⟩
    · exact absurd a1 b1
    · exact absurd b1 a2
    · exact ⟨a3.trans b2.symm, act_same hw a5 a6 b3⟩
    · exact absurd b1 a4
  · rcases y with ⟨b1, -⟩ | ⟨-, b1, -⟩ | ⟨-, -, b1, -⟩ | ⟨-, -, -, b2⟩
    · exact absurd a1 b1
    · exact absurd b1 a2
    · exact absurd a3 b1
    · exact act_core h ho hw a4 b2
end ACTS
end
section
/-! ===== transactions, marks ===== -/
theorem fuO_nil (f : Nat → Int32) (r : Int → Int) (late : Int) : fuO f r r late = [] := by
  apply List.eq_nil_iff_forall_not_mem.mpr
  intro y hy
  exact (fuO_mem.mp hy).1.2.2.2 rfl
def MKS (K : Nat → Nat) (F : Nat → Nat → Nat) (mr : Nat → Option Nat) : Prop := ∀ i : Nat, i < 8 → ∃ q : Nat, mr i = some q ∧ K q = 8 ∧ F q 99 = 4 + i ∧ K (F q 0) = 20 ∧ F (F q 0) 99 = 4 + i ∧ K (F q 1) = 21 ∧ F (F q 1) 99 = 4 + i
/-- rows at the begin, none, at marks: class and reference -/
def A_tr (F : Nat → Nat → Nat) (mr : Nat → Option Nat) (cb cbb cz czb : Nat → Int32) (cm : Nat → Nat → Int32) (rb rk : Nat → Int32) (op op2 mc mcm : Int) : Prop :=
  (RO (vw cb) (aI cbb) ∧ RM rb 0 ∧ vw cz = v0 ∧ RO (vw cz) (aI czb)) ∧ (0 ≤ mc ∧ mc ≤ 8) ∧ (0 ≤ mcm ∧ mcm ≤ 8) ∧ (∀ i q : Nat, i < 8 → mr i = some q → RO (vw (cm (F q 0))) (aI (cm (F q 1)))) ∧ (∀ i : Int, 0 ≤ i → i < mcm → RM rk (360 * i)) ∧ op = op2 ∧ (op ≠ 0 → vw cb = mw rb 0 ∧ mc = mcm ∧ ∀ i q : Nat, (i : Int) < mc → mr i = some q → vw (cm (F q 0)) = mw rk (360 * (i : Int))) ∧ (op = 0 → mc = 0)
section TRS
variable {F : Nat → Nat → Nat} {mr : Nat → Option Nat} {r9 r8 : Int} {cb cbb cz czb cb1 cbb1 : Nat → Int32} {cm cm1 : Nat → Nat → Int32} {rb rk rb1 rk1 : Nat → Int32} {op op2 mc mcm op1 op3 mc1 mcm1 : Int}
theorem A_tr.cg (h : A_tr F mr cb cbb cz czb cm rb rk op op2 mc mcm) (hm : ∀ i q : Nat, i < 8 → mr i = some q → cm1 (F q 0) = cm (F q 0) ∧ cm1 (F q 1) = cm (F q 1)) : A_tr F mr cb cbb cz czb cm1 rb rk op op2 mc mcm := by
  obtain ⟨h1, h2, h3, h4, h5, h6, h7, h8⟩ := h
  refine ⟨h1, h2, h3, fun i q hi hq => ?_, h5, h6, fun o => ?_, h8⟩
  · rw [(hm i q hi hq).1, (hm i q hi hq).2]; exact h4 i q hi hq
  · obtain ⟨a, b, c⟩ := h7 o
    exact ⟨a, b, fun i q hi hq => by rw [(hm i q (by omega) hq).1]; exact c i q hi hq⟩
theorem tr_begin {cn nb : Nat → Int32} {rn : Nat → Int32} (h : A_tr F mr cb cbb cz czb cm rb rk op op2 mc mcm) (hn : vw cn = mw rn 0)
    (t : (op ≠ 0 ∧ r9 = -3 ∧ op1 = op) ∨ (op = 0 ∧ op1 = 1)) (tb : (op ≠ 0 ∧ vw cb1 = vw cb) ∨ (op = 0 ∧ vw cb1 = vw cn)) (ro : RO (vw cb1) (aI cbb1))
    (t2 : (op2 ≠ 0 ∧ r8 = -3 ∧ op3 = op2 ∧ mcm1 = mcm) ∨ (op2 = 0 ∧ op3 = 1 ∧ mcm1 = 0)) (tb2 : (op2 ≠ 0 ∧ rb1 = rb) ∨ (op2 = 0 ∧ mw rb1 0 = mw rn 0)) (rm : RM rb1 0) : A_tr F mr cb1 cbb1 cz czb cm rb1 rk op1 op3 mc mcm1 ∧ ((op ≠ 0 ∧ op1 = op ∧ vw cb1 = vw cb ∧ r9 = r8) ∨ (op = 0 ∧ op1 ≠ 0 ∧ vw cb1 = vw cn)) := by
  obtain ⟨⟨h1, h1b, h1c, h1d⟩, h2, h3, h4, h5, h6, h7, h8⟩ := h
  subst h6
  rcases t with ⟨a1, a2, a3⟩ | ⟨a1, a2⟩
  · rcases tb with ⟨-, b2⟩ | ⟨b1, -⟩
    · rcases t2 with ⟨-, c2, c3, c4⟩ | ⟨c1, -⟩
      · rcases tb2 with ⟨-, d2⟩ | ⟨d1, -⟩
        · refine ⟨⟨⟨ro, rm, h1c, h1d⟩, h2, by omega, h4, fun i i0 i1 => h5 i i0 (by omega), a3.trans c3.symm, fun _ => ?_, fun o => absurd (a3.symm.trans o) a1⟩, Or.inl ⟨a1, a3, b2, a2.trans c2.symm⟩⟩
          obtain ⟨x1, x2, x3⟩ := h7 a1
          exact ⟨by rw [b2, d2]; exact x1, by omega, x3⟩
        · exact absurd d1 a1
      · exact absurd c1 a1
    · exact absurd b1 a1
  · rcases tb with ⟨b1, -⟩ | ⟨-, b2⟩
    · exact absurd a1 b1
    · rcases t2 with ⟨c1, -⟩ | ⟨-, c2, c3⟩
      · exact absurd a1 c1
      · rcases tb2 with ⟨d1, -⟩ | ⟨-, d2⟩
        · exact absurd a1 d1
        · have hm := h8 a1
          refine ⟨⟨⟨ro, rm, h1c, h1d⟩, h2, by omega, h4, fun i i0 i1 => by omega, a2.trans c2.symm, fun _ => ?_, fun o => by omega⟩, Or.inr ⟨a1, by omega, b2⟩⟩
          exact ⟨by rw [b2, d2]; exact hn, by omega, fun i q hi => by omega⟩
theorem tr_close (h : A_tr F mr cb cbb cz czb cm rb rk op op2 mc mcm) (t : (op = 0 ∧ op1 = op ∧ mc1 = mc) ∨ (op ≠ 0 ∧ op1 = 0 ∧ mc1 = 0)) (t2 : (op2 = 0 ∧ op3 = op2) ∨ (op2 ≠ 0 ∧ op3 = 0)) : A_tr F mr cb cbb cz czb cm rb rk op1 op3 mc1 mcm ∧ op1 = 0 := by
  obtain ⟨h1, h2, h3, h4, h5, h6, h7, h8⟩ := h
  subst h6
  have o1 : op1 = 0 := by omega
  have o3 : op3 = 0 := by omega
  have m1 : mc1 = 0 := by
    rcases t with ⟨a, -, c⟩ | ⟨-, -, c⟩
    · rw [c]; exact h8 a
    · exact c
  exact ⟨⟨h1, by omega, h3, h4, h5, by omega, fun o => absurd o1 o, fun _ => m1⟩, o1⟩
theorem ltF_late (f : Nat → Int32) (r1 r2 : Int → Int) : ltF ((fuO f r1 r2 1).map (tqq f r1 r2)) = (fuO f r1 r2 1).map (tqq f r1 r2) := by
  unfold ltF
  refine List.filter_eq_self.mpr (fun x hx => ?_)
  obtain ⟨y, hy, e⟩ := List.mem_map.mp hx
  subst e
  have h := (fuO_mem.mp hy).2
  exact decide_eq_true (show aI f (10 * y.1 + 6) ≠ 0 by omega)
theorem commit_all {f : Nat → Int32} {vb vn mb mn v1 m1 : Int → Int} {w : List Qt} {r r1 : Int} (ho : op = op2) (hn : vn = mn) (hb : op ≠ 0 → vb = mb) (hw : A_wait op f vb vn w)
    (x : (op = 0 ∧ r = -3 ∧ v1 = vn) ∨ (op ≠ 0 ∧ (((∃ x, x ∈ w ∧ x.2.2.2.2.1 ≠ 0 ∧ x.2.2.2.2.2 ≠ 0) ∧ r = -5 ∧ v1 = vb) ∨ ((∀ x, x ∈ w → x.2.2.2.2.1 ≠ 0 → x.2.2.2.2.2 = 0) ∧ v1 = vn ∧ r = (((ltF w).length : Nat) : Int)))))
    (y : (op2 = 0 ∧ r1 = -3 ∧ m1 = mn) ∨ (op2 ≠ 0 ∧ ((ffP f mn (fuO f mn mb 1) ≠ -1 ∧ r1 = -5 ∧ m1 = mb) ∨ (ffP f mn (fuO f mn mb 1) = -1 ∧ m1 = mn ∧ r1 = (((fuO f mn mb 1).length : Nat) : Int))))) : r = r1 ∧ v1 = m1 := by
  subst ho hn
  rcases x with ⟨a1, a2, a3⟩ | ⟨a1, x⟩
  · rcases y with ⟨-, b2, b3⟩ | ⟨b1, -⟩
    · exact ⟨a2.trans b2.symm, by rw [a3, b3]⟩
    · exact absurd a1 b1
  · have e := hb a1
    subst e
    rw [hw.2 a1] at x
    have lk := commit_link (f := f) (vn := vn) (vb := vb)
    rcases y with ⟨b1, -⟩ | ⟨-, y⟩
    · exact absurd b1 a1
    · rcases x with ⟨c1, c2, c3⟩ | ⟨c1, c2, c4⟩
      · rcases y with ⟨-, d2, d3⟩ | ⟨d1, -⟩
        · exact ⟨c2.trans d2.symm, by rw [c3, d3]⟩
        · exact absurd d1 (lk.mp c1)
      · rcases y with ⟨d1, -⟩ | ⟨-, d2, d4⟩
        · exfalso
          obtain ⟨x, x1, x2, x3⟩ := lk.mpr d1
          exact x3 (c1 x x1 x2)
        · exact ⟨by rw [c4, d4, ltF_late, List.length_map, fuO_comm f vb vn 1], by rw [c2, d2]⟩
theorem abort_r {f : Nat → Int32} {vb vn mb mn : Int → Int} {w : List Qt} {r r1 s : Int} (ho : op = op2) (hn : vn = mn) (hb : op ≠ 0 → vb = mb) (hw : A_wait op f vb vn w) (hl : ((w.length : Nat) : Int) = s) (t : (op = 0 ∧ r = -3) ∨ (op ≠ 0 ∧ r = s)) (t2 : (op2 = 0 ∧ r1 = -3) ∨ op2 ≠ 0) (n2 : op2 = 0 ∨ r1 = (((fuO f mn mb 1).length : Nat) : Int)) : r = r1 := by
  subst ho hn
  rcases t with ⟨a, b⟩ | ⟨a, b⟩
  · rcases t2 with ⟨c, d⟩ | c
    · exact b.trans d.symm
    · exact absurd a c
  · rcases n2 with c | c
    · exact absurd c a
    · rw [c, b, ← hl, hw.2 a, List.length_map, ← hb a, fuO_comm f vb vn 1]
theorem abort_all {vb vn mb mn v1 m1 : Int → Int} (ho : op = op2) (hn : vn = mn) (hb : op ≠ 0 → vb = mb) (x : (op = 0 → v1 = vn) ∧ (op ≠ 0 → v1 = vb)) (y : (op2 = 0 ∧ m1 = mn) ∨ (op2 ≠ 0 ∧ m1 = mb)) : v1 = m1 := by
  subst ho hn
  rcases y with ⟨a, b⟩ | ⟨a, b⟩
  · rw [x.1 a, b]
  · rw [x.2 a, b]; exact hb a
theorem tr_mark {K : Nat → Nat} {xq : Nat} {cn rn : Nat → Int32} {r r1 : Int} (h : A_tr F mr cb cbb cz czb cm rb rk op op2 mc mcm) (hs : MKS K F mr) (hn : vw cn = mw rn 0) (hrm : RM rn 0) (hx : mc < 8 → mr mc.toNat = some xq) (hx8 : ¬ mc < 8 → mr 7 = some xq)
    (hfr : ∀ b : Nat, b ≠ F xq 0 → b ≠ F xq 1 → cm1 b = cm b)
    (t : (op = 0 ∧ r = -3 ∧ mc1 = mc) ∨ (op ≠ 0 ∧ 8 ≤ mc ∧ r = -4 ∧ mc1 = mc) ∨ (op ≠ 0 ∧ mc < 8 ∧ r = mc ∧ mc1 = mc + 1))
    (tk : ((op = 0 ∨ 8 ≤ mc) ∧ cm1 (F xq 0) = cm (F xq 0) ∧ cm1 (F xq 1) = cm (F xq 1)) ∨ ((op ≠ 0 ∧ mc < 8) ∧ vw (cm1 (F xq 0)) = vw cn)) (ro : RO (vw (cm1 (F xq 0))) (aI (cm1 (F xq 1))))
    (t2 : (op2 = 0 ∧ r1 = -3 ∧ mcm1 = mcm) ∨ (op2 ≠ 0 ∧ mcm = 8 ∧ r1 = -4 ∧ mcm1 = mcm) ∨ (op2 ≠ 0 ∧ mcm ≠ 8 ∧ r1 = mcm ∧ mcm1 = mcm + 1))
    (tk2 : ((op2 = 0 ∨ mcm = 8) ∧ rk1 = rk) ∨ ((op2 ≠ 0 ∧ mcm ≠ 8) ∧ CPd rn rk rk1 0 (360 * mcm) 360)) : r = r1 ∧ A_tr F mr cb cbb cz czb cm1 rb rk1 op op2 mc1 mcm1 := by
  obtain ⟨h1, h2, h3, h4, h5, h6, h7, h8⟩ := h
  subst h6
  -- which mark xq is
  obtain ⟨n, hn8, hxn⟩ : ∃ n : Nat, n < 8 ∧ mr n = some xq := by
    by_cases g : mc < 8
    · exact ⟨mc.toNat, by omega, hx g⟩
    · exact ⟨7, by decide, hx8 g⟩
  have num : ∀ i q : Nat, i < 8 → mr i = some q → F (F q 0) 99 = 4 + i ∧ F (F q 1) 99 = 4 + i ∧ K (F q 0) = 20 ∧ K (F q 1) = 21 := by
    intro i q hi hq
    obtain ⟨y, e, -, -, k0, j0, k1, j1⟩ := hs i hi
    rw [hq] at e
    have := Option.some.inj e
    subst this
    exact ⟨j0, j1, k0, k1⟩
  obtain ⟨x1, x2, x3, x4⟩ := num n xq hn8 hxn
  have far : ∀ i q : Nat, i < 8 → i ≠ n → mr i = some q → cm1 (F q 0) = cm (F q 0) ∧ cm1 (F q 1) = cm (F q 1) := by
    intro i q hi hne hq
    obtain ⟨y1, y2, y3, y4⟩ := num i q hi hq
    refine ⟨hfr _ (fun e => ?_) (fun e => ?_), hfr _ (fun e => ?_) (fun e => ?_)⟩
    · rw [e, x1] at y1; omega
    · rw [e, x4] at y3; cases y3
    · rw [e, x3] at y4; cases y4
    · rw [e, x2] at y2; omega
  have ro8 : ∀ i q : Nat, i < 8 → mr i = some q → RO (vw (cm1 (F q 0))) (aI (cm1 (F q 1))) := by
    intro i q hi hq
    by_cases g : i = n
    · subst g
      rw [hxn] at hq
      have := Option.some.inj hq
      subst this
      exact ro
    · obtain ⟨e0, e1⟩ := far i q hi g hq
      rw [e0, e1]
      exact h4 i q hi hq
  have nop : (op = 0 ∨ 8 ≤ mc) → cm1 (F xq 0) = cm (F xq 0) := fun o => by
    rcases tk with ⟨-, e, -⟩ | ⟨a, -⟩
    · exact e
    · omega
  have all0 : (op = 0 ∨ 8 ≤ mc) → ∀ i q : Nat, i < 8 → mr i = some q → cm1 (F q 0) = cm (F q 0) := by
    intro o i q hi hq
    by_cases g : i = n
    · subst g
      rw [hxn] at hq
      have := Option.some.inj hq
      subst this
      exact nop o
    · exact (far i q hi g hq).1
  rcases t with ⟨a1, a2, a3⟩ | ⟨a1, a2, a3, a4⟩ | ⟨a1, a2, a3, a4⟩
  · rcases t2 with ⟨-, b2, b3⟩ | ⟨b1, -⟩ | ⟨b1, -⟩
    · have ek : rk1 = rk := by
        rcases tk2 with ⟨-, e⟩ | ⟨a, -⟩
        · exact e
        · exact absurd a1 a.1
      subst ek
      exact ⟨a2.trans b2.symm, h1, by omega, by omega, ro8, fun i i0 i1 => h5 i i0 (by omega), rfl, fun o => absurd a1 o, fun _ => by rw [a3]; exact h8 a1⟩
    · exact absurd a1 b1
    · exact absurd a1 b1
  · obtain ⟨c1, c2, c3⟩ := h7 a1
    rcases t2 with ⟨b1, -⟩ | ⟨-, b1, b2, b3⟩ | ⟨-, b1, -⟩
    · exact absurd b1 a1
    · have ek : rk1 = rk := by
        rcases tk2 with ⟨-, e⟩ | ⟨a, -⟩
        · exact e
        · exact absurd b1 a.2
      subst ek
      refine ⟨a3.trans b2.symm, h1, by omega, by omega, ro8, fun i i0 i1 => h5 i i0 (by omega), rfl, fun _ => ⟨c1, by omega, fun i q hi hq => ?_⟩, fun o => absurd o a1⟩
      rw [all0 (Or.inr a2) i q (by omega) hq]
      exact c3 i q (by omega) hq
    · omega
  · obtain ⟨c1, c2, c3⟩ := h7 a1
    rcases t2 with ⟨b1, -⟩ | ⟨-, b1, -⟩ | ⟨-, b1, b2, b3⟩
    · exact absurd b1 a1
    · omega
    · have hc : CPd rn rk rk1 0 (360 * mcm) 360 := by
        rcases tk2 with ⟨a, -⟩ | ⟨-, e⟩
        · omega
        · exact e
      have vk : vw (cm1 (F xq 0)) = vw cn := by
        rcases tk with ⟨a, -⟩ | ⟨-, e⟩
        · omega
        · exact e
      have en : n = mc.toNat := by
        have e1 := hx a2
        obtain ⟨y, e2, -, j2, -⟩ := hs n hn8
        obtain ⟨y3, e3, -, j3, -⟩ := hs mc.toNat (by omega)
        rw [hxn] at e2
        rw [e1] at e3
        rw [← Option.some.inj e2] at j2
        rw [← Option.some.inj e3] at j3
        omega
      refine ⟨by omega, h1, by omega, by omega, ro8, fun i i0 i1 => ?_, rfl, fun _ => ⟨c1, by omega, fun i q hi hq => ?_⟩, fun o => absurd o a1⟩
      · by_cases g : i = mcm
        · rw [g]; exact hc.rm (by omega) hrm
        · exact (hc.far (b3 := 360 * i) (by omega) (by omega)).2 (h5 i i0 (by omega))
      · by_cases g : (i : Int) = mc
        · have ei : i = n := by omega
          subst ei
          rw [hxn] at hq
          have := Option.some.inj hq
          subst this
          rw [vk, show (360 * (i : Int)) = 360 * mcm from by omega, hc.vwm (by omega)]
          exact hn
        · rw [(far i q (by omega) (by omega) hq).1, (hc.far (b3 := 360 * (i : Int)) (by omega) (by omega)).1]
          exact c3 i q (by omega) hq
theorem back_all {K : Nat → Nat} {G : XG} {b a8 : Nat} {u : XG} {f : Nat → Int32} {vb v9 vn mn v1 m1 : Int → Int} {p r r1 s1 : Int} {w0 w1 : List Qt} (hs1 : ((w1.length : Nat) : Int) = s1) (hB : A_book K F G b f) (h : A_tr F mr cb cbb cz czb cm rb rk op op2 mc mcm) (hmk : MKS K F mr) (hn : vn = mn) (h9 : v9 = v0) (hb : vb = vw cb) (hw : A_wait op f vb vn w0)
    (x : (op = 0 ∧ r = -3 ∧ (v1 = vn ∧ w1 = w0) ∧ mc1 = mc) ∨ (op ≠ 0 ∧ (p < 0 ∨ mc ≤ p ∨ 8 ≤ p) ∧ r = -2 ∧ (v1 = vn ∧ w1 = w0) ∧ mc1 = mc) ∨ (op ≠ 0 ∧ (0 ≤ p ∧ p < mc ∧ p < 8) ∧ ∃ q : Nat, mr p.toNat = some q ∧ ((ffL (gaL G (G.2.2.1 (F b 1)) v9 (vw (cm (F q 0))) 2 ((G.1 b 2).toInt).toNat) ≠ -1 ∧ r = -5 ∧ (v1 = vn ∧ w1 = w0) ∧ mc1 = mc) ∨ (ffL (gaL G (G.2.2.1 (F b 1)) v9 (vw (cm (F q 0))) 2 ((G.1 b 2).toInt).toNat) = -1 ∧ v1 = vw (cm (F q 0)) ∧ mc1 = p + 1 ∧ r = s1 ∧ w1 = gaL G (G.2.2.1 (F b 1)) vb (vw (cm (F q 0))) 1 ((G.1 b 2).toInt).toNat))))
    (y : (op2 = 0 ∧ r1 = -3 ∧ (m1 = mn ∧ mcm1 = mcm)) ∨ (op2 ≠ 0 ∧ ¬ (0 ≤ p ∧ p < mcm) ∧ r1 = -2 ∧ (m1 = mn ∧ mcm1 = mcm)) ∨ (op2 ≠ 0 ∧ (0 ≤ p ∧ p < mcm) ∧ ((PFl f (mw rk (360 * p)) ∧ r1 = -5 ∧ (m1 = mn ∧ mcm1 = mcm)) ∨ (¬ PFl f (mw rk (360 * p)) ∧ m1 = mw rk (360 * p) ∧ mcm1 = p + 1 ∧ r1 = (((fuO f m1 (mw rb 0) 1).length : Nat) : Int))))) : r = r1 ∧ v1 = m1 ∧ A_wait op f vb v1 w1 ∧ A_tr F mr cb cbb cz czb cm rb rk op op2 mc1 mcm1 := by
  obtain ⟨h1, h2, h3, h4, h5, h6, h7, h8⟩ := h
  subst h6 hn h9
  have hV := hB.2.2.2.2.1
  have keep : mc1 = mc → mcm1 = mcm → A_tr F mr cb cbb cz czb cm rb rk op op mc1 mcm1 := fun e e2 => by
    rw [e, e2]; exact ⟨h1, h2, h3, h4, h5, rfl, h7, h8⟩
  rcases x with ⟨a1, ar, ⟨a3, a4⟩, a5⟩ | ⟨a1, a2, ar, ⟨a3, a4⟩, a5⟩ | ⟨a1, a2, q, hq, x⟩
  · rcases y with ⟨-, br, b1, b2⟩ | ⟨b1, -⟩ | ⟨b1, -⟩
    · obtain ⟨z1, z2⟩ := act_same hw a3 a4 b1
      exact ⟨ar.trans br.symm, z1, z2, keep a5 b2⟩
    · exact absurd a1 b1
    · exact absurd a1 b1
  · obtain ⟨c1, c2, c3⟩ := h7 a1
    rcases y with ⟨b1, -⟩ | ⟨-, -, br, b1, b2⟩ | ⟨-, b1, -⟩
    · exact absurd b1 a1
    · obtain ⟨z1, z2⟩ := act_same hw a3 a4 b1
      exact ⟨ar.trans br.symm, z1, z2, keep a5 b2⟩
    · omega
  · obtain ⟨c1, c2, c3⟩ := h7 a1
    have ep : (((p.toNat : Nat)) : Int) = p := by omega
    have eq := c3 p.toNat q (by omega) hq
    rw [ep] at eq
    rw [gaL_fuO hB.2.2.2.2.2 hB.1 (Or.inr (Or.inr rfl)), lw_2, eq] at x
    have lk := back_link (f := f) (r := mw rk (360 * p)) hV
    rcases y with ⟨b1, -⟩ | ⟨-, b1, -⟩ | ⟨-, -, y⟩
    · exact absurd b1 a1
    · omega
    · rcases x with ⟨d1, dr, ⟨d3, d4⟩, d5⟩ | ⟨d1, d2, d3, dr, d4⟩
      · rcases y with ⟨-, er, e1, e2⟩ | ⟨e1, -⟩
        · obtain ⟨z1, z2⟩ := act_same hw d3 d4 e1
          exact ⟨dr.trans er.symm, z1, z2, keep d5 e2⟩
        · exact absurd (lk.mp d1) e1
      · rcases y with ⟨e1, -⟩ | ⟨-, e2, e3, er⟩
        · exact absurd d1 (lk.mpr e1)
        · have wn := wait_new (u := G) hB a1 d4
          refine ⟨by rw [dr, er, ← hs1, wn.2 a1, List.length_map, e2, ← c1, hb, fuO_comm f _ (vw cb) 1], d2.trans e2.symm, ?_, h1, by omega, by omega, h4, fun i i0 i1 => h5 i i0 (by omega), rfl, fun _ => ⟨c1, by omega, fun i q hi hq => c3 i q (by omega) hq⟩, fun o => absurd o a1⟩
          rw [d2]
          exact wn
end TRS
end
/-! ===== the relation between class and reference ===== -/
def REL (K : Nat → Nat) (F : Nat → Nat → Nat) (G : XG) (a m : Nat) : Prop :=
  (K a = 12 ∧ K m = 13 ∧ F (F a 1) 0 = F a 0) ∧
  A_text ((G.1 (F a 0) 1).toInt) ((G.1 m 36).toInt) (G.2.1 (F (F a 0) 0)) (G.2.1 (F m 35)) ∧
  A_book K F G (F a 2) (G.2.1 (F m 10)) ∧
  (RO (vw (G.2.1 (F (F a 3) 0))) (aI (G.2.1 (F (F a 3) 1))) ∧ RM (G.2.1 (F m 1)) 0 ∧ vw (G.2.1 (F (F a 3) 0)) = mw (G.2.1 (F m 1)) 0) ∧
  A_tr F (G.2.2.1 (F a 7)) (G.2.1 (F (F a 4) 0)) (G.2.1 (F (F a 4) 1)) (G.2.1 (F (F a 6) 0)) (G.2.1 (F (F a 6) 1)) G.2.1 (G.2.1 (F m 2)) (G.2.1 (F m 3)) ((G.1 a 18).toInt) ((G.1 m 6).toInt) ((G.1 a 17).toInt) ((G.1 m 7).toInt) ∧
  MKS K F (G.2.2.1 (F a 7)) ∧
  (A_wait ((G.1 a 18).toInt) (G.2.1 (F m 10)) (vw (G.2.1 (F (F a 4) 0))) (vw (G.2.1 (F (F a 3) 0))) (qL G F (F a 8)) ∧ (0 ≤ ((G.1 (F a 8) 6).toInt) ∧ ((G.1 (F a 8) 6).toInt) ≤ 1080)) ∧
  ((0 ≤ ((G.1 m 23).toInt) ∧ ((G.1 m 23).toInt) ≤ 24) ∧ (0 ≤ ((G.1 m 43).toInt) ∧ ((G.1 m 43).toInt) ≤ 2388) ∧ WDo G F m)
theorem ws_z {op : Int} {f : Nat → Int32} {vb vn : Int → Int} {u : XG} {F : Nat → Nat → Nat} {a : Nat} (h : A_wait op f vb vn (qL u F a)) (h0 : 0 ≤ (u.1 a 6).toInt) (o : op = 0) : (u.1 a 6).toInt = 0 := by
  have e := qL_len u F a
  rw [h.1 o] at e
  have e : 0 = (u.1 a 6).toInt.toNat := e
  omega
theorem wait_begin {op op1 x : Int} {f : Nat → Int32} {vb vb1 vn : Int → Int} {w : List Qt} {Z : Prop} (hw : A_wait op f vb vn w) (z : (op ≠ 0 ∧ op1 = op ∧ vb1 = vb ∧ Z) ∨ (op = 0 ∧ op1 ≠ 0 ∧ vb1 = vn)) : A_wait op1 f vb1 vn w := by
  rcases z with ⟨-, b, c, -⟩ | ⟨a, b, c⟩
  · rw [b, c]; exact hw
  · rw [c]
    refine ⟨fun o => absurd o b, fun _ => ?_⟩
    rw [hw.1 a, fuO_nil]
    rfl
theorem wait_nil {op : Int} {f : Nat → Int32} {vb vn : Int → Int} {u : XG} {F : Nat → Nat → Nat} {a : Nat} (o : op = 0) (h : (u.1 a 6).toInt = 0) : A_wait op f vb vn (qL u F a) := ⟨fun _ => qL_nil h, fun q => absurd o q⟩
theorem later_xq {K : Nat → Nat} {F : Nat → Nat → Nat} {G : XG} {b x : Nat} {f : Nat → Int32} (h : A_book K F G b f) (hx : K x = 12) (p : Int) : ∃ xq : Nat, (0 ≤ p → p < 12 → ∀ q : Nat, G.2.2.1 (F b 0) p.toNat = some q → q = xq) ∧ ((K xq = 9 ∧ (0 ≤ p ∧ p < 12) ∧ G.2.2.1 (F b 0) p.toNat = some xq) ∨ K xq = 12) := by
  by_cases g : 0 ≤ p ∧ p < 12
  · rcases h.2.2.2.2.2.nat g with ⟨a, -⟩ | ⟨y, a, -⟩
    · exact ⟨x, fun _ _ q e => (by rw [a] at e; cases e), Or.inr hx⟩
    · exact ⟨y, fun _ _ q e => (by rw [a] at e; exact (Option.some.inj e).symm), Or.inl ⟨(h.2.1 _ _ a).1, g, a⟩⟩
  · exact ⟨x, fun a b => absurd ⟨a, b⟩ g, Or.inr hx⟩
theorem mark_xq {K : Nat → Nat} {F : Nat → Nat → Nat} {mr : Nat → Option Nat} (h : MKS K F mr) (mc : Int) (h0 : 0 ≤ mc) : ∃ xq n : Nat, n < 8 ∧ mr n = some xq ∧ (K xq = 8 ∧ F xq 99 = 4 + n) ∧ (K (F xq 0) = 20 ∧ F (F xq 0) 99 = 4 + n) ∧ (K (F xq 1) = 21 ∧ F (F xq 1) 99 = 4 + n) ∧ (mc < 8 → mr mc.toNat = some xq) ∧ (¬ mc < 8 → mr 7 = some xq) := by
  by_cases g : mc < 8
  · obtain ⟨q, a, b, c, d, e, k, j⟩ := h mc.toNat (by omega)
    exact ⟨q, mc.toNat, by omega, a, ⟨b, c⟩, ⟨d, e⟩, ⟨k, j⟩, fun _ => a, fun n => absurd g n⟩
  · obtain ⟨q, a, b, c, d, e, k, j⟩ := h 7 (by decide)
    exact ⟨q, 7, by decide, a, ⟨b, c⟩, ⟨d, e⟩, ⟨k, j⟩, fun n => absurd n g, fun _ => a⟩
theorem MKS.km {K K1 : Nat → Nat} {F : Nat → Nat → Nat} {mr : Nat → Option Nat} (h : MKS K F mr) (hM : ∀ x n : Nat, K x = n → n ≠ 0 → n ≠ 14 → K1 x = n) : MKS K1 F mr := fun i hi => by
  obtain ⟨q, a, b, c, d, e, k, j⟩ := h i hi
  exact ⟨q, a, hM _ _ b (by decide) (by decide), c, hM _ _ d (by decide) (by decide), e, hM _ _ k (by decide) (by decide), j⟩
theorem WDo.cg {G u : XG} {F : Nat → Nat → Nat} {a : Nat} (h : WDo G F a) (e : ∀ i : Nat, i < 10 → u.2.1 (F a (25 + i)) = G.2.1 (F a (25 + i))) : WDo u F a := fun i hi j hj => by
  rw [e i hi]
  exact h i hi j hj
theorem marks_fr {K : Nat → Nat} {F : Nat → Nat → Nat} {mr : Nat → Option Nat} {G u : XG} {d : List (Nat × Nat)} {c r : List Nat} (h : MKS K F mr) (hf : XFr d c r G u) (hc : ∀ b ∈ c, (K b = 20 ∨ K b = 21) → F b 99 < 4 ∨ 12 ≤ F b 99) : ∀ i q : Nat, i < 8 → mr i = some q → u.2.1 (F q 0) = G.2.1 (F q 0) ∧ u.2.1 (F q 1) = G.2.1 (F q 1) := by
  intro i q hi hq
  obtain ⟨y, a, -, -, k0, j0, k1, j1⟩ := h i hi
  rw [hq] at a
  have e := Option.some.inj a
  subst e
  refine ⟨hf.2.1 _ (fun hm => ?_), hf.2.1 _ (fun hm => ?_)⟩
  · have := hc _ hm (Or.inl k0); omega
  · have := hc _ hm (Or.inr k1); omega
theorem words_fr {K : Nat → Nat} {F : Nat → Nat → Nat} {G u : XG} {m : Nat} {d : List (Nat × Nat)} {c r : List Nat} (h : ∀ i : Nat, i < 10 → 46 ≤ K (F m (25 + i)) ∧ K (F m (25 + i)) ≤ 50) (hf : XFr d c r G u) (hc : ∀ b ∈ c, ¬ (46 ≤ K b ∧ K b ≤ 50)) : ∀ i : Nat, i < 10 → u.2.1 (F m (25 + i)) = G.2.1 (F m (25 + i)) := fun i hi => hf.2.1 _ (fun hm => hc _ hm (h i hi))
theorem marks_tr {F : Nat → Nat → Nat} {mr : Nat → Option Nat} {G u v : XG} (h : ∀ i q : Nat, i < 8 → mr i = some q → u.2.1 (F q 0) = G.2.1 (F q 0) ∧ u.2.1 (F q 1) = G.2.1 (F q 1)) (g : ∀ i q : Nat, i < 8 → mr i = some q → v.2.1 (F q 0) = u.2.1 (F q 0) ∧ v.2.1 (F q 1) = u.2.1 (F q 1)) : ∀ i q : Nat, i < 8 → mr i = some q → v.2.1 (F q 0) = G.2.1 (F q 0) ∧ v.2.1 (F q 1) = G.2.1 (F q 1) := fun i q hi hq => ⟨(g i q hi hq).1.trans (h i q hi hq).1, (g i q hi hq).2.trans (h i q hi hq).2⟩
theorem rules_fr {K : Nat → Nat} {G u : XG} {d : List (Nat × Nat)} {c r : List Nat} (hf : XFr d c r G u) (hd : ∀ p ∈ d, K p.1 ≠ 9) : ∀ q, K q = 9 → u.1 q = G.1 q := fun q hq => hf.rule hd hq
theorem if_list {op : Int} {l1 l2 : List (Int × Int)} (h : op ≠ 0 → l1 = l2) : (if op = 0 then [] else l1) = (if op = 0 then [] else l2) := by
  by_cases o : op = 0
  · rw [if_pos o, if_pos o]
  · rw [if_neg o, if_neg o, h o]
theorem law_ix {x xk x1 x3 : Int32} {L : Nat} {k : Int} (hx9 : 0 ≤ x.toInt ∧ x.toInt ≤ 3078) (hL9 : ((L : Nat) : Int) ≤ 3072) (t2 : x1.toInt = ((L : Nat) : Int)) (t4 : x3.toInt = x1.toInt - 6 ∨ x1.toInt - 6 < -2147483648 ∨ 2147483648 ≤ x1.toInt - 6) (c5 : ¬ (x3.toInt < x.toInt)) (hk : 0 ≤ k ∧ k ≤ 5) (t : xk.toInt = x.toInt + k ∨ x.toInt + k < -2147483648 ∨ 2147483648 ≤ x.toInt + k) : xk.toInt = x.toInt + k ∧ 0 ≤ xk.toInt ∧ xk.toInt < ((L : Nat) : Int) := by omega
theorem law_i0 {x x1 x3 : Int32} {L : Nat} (hx9 : 0 ≤ x.toInt ∧ x.toInt ≤ 3078) (hL9 : ((L : Nat) : Int) ≤ 3072) (t2 : x1.toInt = ((L : Nat) : Int)) (t4 : x3.toInt = x1.toInt - 6 ∨ x1.toInt - 6 < -2147483648 ∨ 2147483648 ≤ x1.toInt - 6) (c5 : ¬ (x3.toInt < x.toInt)) : 0 ≤ x.toInt ∧ x.toInt < ((L : Nat) : Int) := by omega
theorem law_nx {x x9 x1 x3 : Int32} {L n : Nat} (hx9 : 0 ≤ x.toInt ∧ x.toInt ≤ 3078) (hL9 : ((L : Nat) : Int) ≤ 3072) (t2 : x1.toInt = ((L : Nat) : Int)) (t4 : x3.toInt = x1.toInt - 6 ∨ x1.toInt - 6 < -2147483648 ∨ 2147483648 ≤ x1.toInt - 6) (c5 : ¬ (x3.toInt < x.toInt)) (t : x9.toInt = x.toInt + 6 ∨ x.toInt + 6 < -2147483648 ∨ 2147483648 ≤ x.toInt + 6) (hn9 : 3078 - x.toInt < 6 * ((n + 1 : Nat) : Int)) : (0 ≤ x9.toInt ∧ x9.toInt ≤ 3078) ∧ 3078 - x9.toInt < 6 * ((n : Nat) : Int) := by omega
theorem law_c {cells n : Nat} (h : cells + 24 * (n + 1) ≤ 590000) : cells + 24 + 24 * n ≤ 590000 := by omega
theorem law_s {slots n : Nat} (h : slots + 2400 * (n + 1) ≤ 7000000) : slots + 2400 + 2400 * n ≤ 7000000 := by omega
theorem law_fc {cells n : Nat} (h : cells + 24 * (n + 1) ≤ 590000) {a b : Nat} (hab : a + b ≤ 24) : cells + a + b ≤ 601024 := by omega
theorem law_fs {slots n : Nat} (h : slots + 2400 * (n + 1) ≤ 7000000) {a b : Nat} (hab : a + b ≤ 2400) : slots + a + b ≤ 7293034 := by omega
/-! ===== what class and reference tell of a question ===== -/
theorem no_rule {K : Nat → Nat} {F : Nat → Nat → Nat} {G : XG} {b : Nat} {f : Nat → Int32} {p : Int} (h : A_book K F G b f) (a : (p < 0 ∨ 12 ≤ p) ∨ G.2.2.1 (F b 0) p.toNat = none) : ¬ (0 ≤ p ∧ p ≤ 11 ∧ aI f (10 * p + 0) ≠ -1) := by
  rintro ⟨x1, x2, x3⟩
  rcases h.2.2.2.2.2.nat (r := p) (by omega) with ⟨-, c⟩ | ⟨y, c, -⟩
  · exact x3 c
  · rcases a with a | a
    · omega
    · rw [a] at c; cases c
theorem is_rule {K : Nat → Nat} {F : Nat → Nat → Nat} {G : XG} {b q : Nat} {f : Nat → Int32} {p : Int} (h : A_book K F G b f) (hp : 0 ≤ p ∧ p < 12) (a : G.2.2.1 (F b 0) p.toNat = some q) : (0 ≤ p ∧ p ≤ 11 ∧ aI f (10 * p + 0) ≠ -1) ∧ RQ f p (G.1 q) := by
  rcases h.2.2.2.2.2.nat hp with ⟨c, -⟩ | ⟨y, c, d, e⟩
  · rw [a] at c; cases c
  · rw [a] at c
    have := Option.some.inj c
    subst this
    exact ⟨⟨hp.1, by omega, d⟩, e⟩
theorem question_all {K : Nat → Nat} {F : Nat → Nat → Nat} {G : XG} {b : Nat} {f : Nat → Int32} {vn mn : Int → Int} {p s w r r1 : Int} (h : A_book K F G b f) (hn : vn = mn)
    (t : (((p < 0 ∨ 12 ≤ p) ∨ G.2.2.1 (F b 0) p.toNat = none) ∧ r = -2147483648) ∨ (∃ q : Nat, ((0 ≤ p ∧ p < 12) ∧ G.2.2.1 (F b 0) p.toNat = some q) ∧ r = quS vn (G.1 q 0).toInt (G.1 q 2).toInt (G.1 q 3).toInt (G.1 q 4).toInt (G.1 q 5).toInt (G.1 q 6).toInt s w))
    (t2 : (¬ (0 ≤ p ∧ p ≤ 11 ∧ aI f (10 * p + 0) ≠ -1) ∧ r1 = -2147483648) ∨ ((0 ≤ p ∧ p ≤ 11 ∧ aI f (10 * p + 0) ≠ -1) ∧ r1 = quS mn (aI f (10 * p + 0)) (aI f (10 * p + 1)) (aI f (10 * p + 2)) (aI f (10 * p + 3)) (aI f (10 * p + 4)) (aI f (10 * p + 5)) s w)) : r = r1 := by
  subst hn
  rcases t with ⟨a, e⟩ | ⟨q, ⟨hp, hq⟩, e⟩
  · rcases t2 with ⟨-, e2⟩ | ⟨b1, -⟩
    · exact e.trans e2.symm
    · exact absurd b1 (no_rule h a)
  · obtain ⟨i1, k0, -, k2, k3, k4, k5, k6, -⟩ := is_rule h hp hq
    rcases t2 with ⟨b1, -⟩ | ⟨-, e2⟩
    · exact absurd i1 b1
    · rw [e, e2, k0, k2, k3, k4, k5, k6]
theorem depth_all {K : Nat → Nat} {F : Nat → Nat → Nat} {G : XG} {b : Nat} {f : Nat → Int32} {vn mn : Int → Int} {p s r r1 : Int} (h : A_book K F G b f) (hn : vn = mn)
    (t : (((p < 0 ∨ 12 ≤ p) ∨ G.2.2.1 (F b 0) p.toNat = none) ∧ r = -1) ∨ (∃ q : Nat, ((0 ≤ p ∧ p < 12) ∧ G.2.2.1 (F b 0) p.toNat = some q) ∧ r = dpS vn (G.1 q 0).toInt (G.1 q 2).toInt (G.1 q 3).toInt s))
    (t2 : (¬ (0 ≤ p ∧ p ≤ 11 ∧ aI f (10 * p + 0) ≠ -1) ∧ r1 = -1) ∨ ((0 ≤ p ∧ p ≤ 11 ∧ aI f (10 * p + 0) ≠ -1) ∧ r1 = dpS mn (aI f (10 * p + 0)) (aI f (10 * p + 1)) (aI f (10 * p + 2)) s)) : r = r1 := by
  subst hn
  rcases t with ⟨a, e⟩ | ⟨q, ⟨hp, hq⟩, e⟩
  · rcases t2 with ⟨-, e2⟩ | ⟨b1, -⟩
    · exact e.trans e2.symm
    · exact absurd b1 (no_rule h a)
  · obtain ⟨i1, k0, -, k2, k3, -⟩ := is_rule h hp hq
    rcases t2 with ⟨b1, -⟩ | ⟨-, e2⟩
    · exact absurd i1 b1
    · rw [e, e2, k0, k2, k3]
theorem least_all {K : Nat → Nat} {F : Nat → Nat → Nat} {G : XG} {b : Nat} {f : Nat → Int32} {vn mn : Int → Int} {t k c r r1 : Int} (h : A_book K F G b f) (hn : vn = mn)
    (x : (¬ (cel vn t k 0 ≠ -2000 ∧ 0 ≤ c ∧ c < 3) ∧ r = -2147483648) ∨ ((cel vn t k 0 ≠ -2000 ∧ 0 ≤ c ∧ c < 3) ∧ LsS (fun v => ffL (gaL G (G.2.2.1 (F b 1)) vn (rset vn (90 * t + 30 * c + k) v) 0 ((G.1 b 2).toInt).toNat) = -1) (cel vn t k c) r))
    (y : (¬ (cel mn t k 0 ≠ -2000 ∧ 0 ≤ c ∧ c < 3) ∧ r1 = -2147483648) ∨ ((cel mn t k 0 ≠ -2000 ∧ 0 ≤ c ∧ c < 3) ∧ LsS (fun v => ffP f (rset mn (90 * t + 30 * c + k) v) (fuO f mn (rset mn (90 * t + 30 * c + k) v) 2) = -1) (cel mn t k c) r1)) : r = r1 := by
  subst hn
  rcases x with ⟨a, e⟩ | ⟨a, e⟩
  · rcases y with ⟨-, e2⟩ | ⟨a2, -⟩
    · exact e.trans e2.symm
    · exact absurd a2 a
  · rcases y with ⟨a2, -⟩ | ⟨-, e2⟩
    · exact absurd a a2
    · refine LsS_eq e e2 (fun v => ?_)
      show ffL (gaL G (G.2.2.1 (F b 1)) vn (rset vn (90 * t + 30 * c + k) v) 0 ((G.1 b 2).toInt).toNat) = -1 ↔ ffP f (rset vn (90 * t + 30 * c + k) v) (fuO f vn (rset vn (90 * t + 30 * c + k) v) 2) = -1
      rw [gaL_fuO h.2.2.2.2.2 h.1 (Or.inl rfl), lw_0]
      have q := (ffT_iff (f := f) (r1 := vn) (r2 := rset vn (90 * t + 30 * c + k) v) (l := fuO f vn (rset vn (90 * t + 30 * c + k) v) 2)).trans ffP_iff.symm
      constructor
      · intro g
        apply Classical.byContradiction
        intro n
        exact q.mpr n g
      · intro g
        apply Classical.byContradiction
        intro n
        exact q.mp n g
/-! all that fail: those of the class's list, and those of the reference's -/
theorem fil_fm {f : Nat → Int32} {r : Int → Int} {q : Int} (l : List Int) (h : ∀ s, s ∈ l → fzq f r q s = 1 → stt v0 (aI f (10 * q + 0)) (aI f (10 * q + 1)) (aI f (10 * q + 2)) (aI f (10 * q + 3)) s ≠ stt r (aI f (10 * q + 0)) (aI f (10 * q + 1)) (aI f (10 * q + 2)) (aI f (10 * q + 3)) s) : (l.filterMap (fu1 f v0 r q)).filter (fun y => decide (fzq f r y.1 y.2 = 1)) = l.filterMap (fa1 f r q) := by
  induction l with
  | nil => rfl
  | cons s l ih =>
    have ih := ih (fun x hx => h x (List.mem_cons_of_mem _ hx))
    by_cases z : fzq f r q s = 1
    · have u := h s (List.mem_cons.mpr (Or.inl rfl)) z
      rw [List.filterMap_cons_some (show fu1 f v0 r q s = some (q, s) from if_pos u), List.filterMap_cons_some (show fa1 f r q s = some (q, s) from if_pos z), List.filter_cons_of_pos (by exact decide_eq_true z), ih]
    · rw [List.filterMap_cons_none (show fa1 f r q s = none from if_neg z)]
      cases hu : fu1 f v0 r q s with
      | none =>
        rw [List.filterMap_cons_none hu]
        exact ih
      | some y =>
        have e : (q, s) = y := by
          have hu2 := hu
          unfold fu1 at hu2
          split at hu2
          · exact Option.some.inj hu2
          · cases hu2
        subst e
        rw [List.filterMap_cons_some hu, List.filter_cons_of_neg (p := fun y : Int × Int => decide (fzq f r y.1 y.2 = 1)) (a := (q, s)) (fun e => z (of_decide_eq_true (show decide (fzq f r q s = 1) = true from e)))]
        exact ih
theorem faL_fuL {f : Nat → Int32} {r : Int → Int} (hR : RV f) (o : Nat → Nat) : ∀ n : Nat, (∀ i, i < n → o i < 12) → (fuL f v0 r 2 o n).filter (fun y => decide (fzq f r y.1 y.2 = 1)) = faL f r o n
  | 0, _ => rfl
  | n + 1, h => by
    rw [fuL_s, faL_s, List.filter_append, faL_fuL hR o n (fun i hi => h i (by omega))]
    congr 1
    have hn := h n (by omega)
    unfold fus fas
    rw [if_pos (Or.inl rfl)]
    exact fil_fm _ (fun s hs hz => fz_v0 hR (by omega) ((subs_mem _ _).mp hs) (by rw [hz]; decide))
theorem fq_all {f : Nat → Int32} {r : Int → Int} (hR : RV f) : fqL ((fuO f v0 r 2).map (tqq f v0 r)) = faO f r := by
  unfold fqL
  rw [List.filter_map, List.map_map]
  have e1 : ((fun x : Qt => (x.1, x.2.1)) ∘ tqq f v0 r) = id := by
    funext y
    rfl
  rw [e1, List.map_id]
  exact faL_fuL hR _ _ (fun i hi => (ordN_in (prM f) (rkM f) 12 i hi).1)
theorem all_all {K : Nat → Nat} {F : Nat → Nat → Nat} {G : XG} {b : Nat} {f : Nat → Int32} {vz vn mn : Int → Int} {p r r1 : Int} (h : A_book K F G b f) (hn : vn = mn) (h0 : vz = v0)
    (x : ((p < 0 ∨ 2 < p) ∧ r = -2147483648) ∨ ((0 ≤ p ∧ p ≤ 2) ∧ r = alS p (fqL (gaL G (G.2.2.1 (F b 1)) vz vn 0 ((G.1 b 2).toInt).toNat))))
    (y : (¬ (0 ≤ p ∧ p ≤ 2) ∧ r1 = -2147483648) ∨ ((0 ≤ p ∧ p ≤ 2) ∧ r1 = alS p (faO f mn))) : r = r1 := by
  subst hn h0
  rcases x with ⟨a, e⟩ | ⟨a, e⟩
  · rcases y with ⟨-, e2⟩ | ⟨a2, -⟩
    · exact e.trans e2.symm
    · omega
  · rcases y with ⟨a2, -⟩ | ⟨-, e2⟩
    · exact absurd a a2
    · rw [e, e2, gaL_fuO h.2.2.2.2.2 h.1 (Or.inl rfl), lw_0, fq_all h.2.2.2.2.1]
/-! a value, or an exception -/
theorem val_all {L : Nat → Int64} {vn mn : Int → Int} {t k c d : Int} {r1 r2 r3 : Int32} (hn : vn = mn)
    (x : (r1.toInt = 1 ∧ (cel vn t k 0 = -2000 ∨ c < 0 ∨ 3 ≤ c)) ∨ (r1.toInt = 0 ∧ ∃ y : Int32, L 0 = y.toInt64 ∧ y.toInt = cel vn t k c ∧ cel vn t k 0 ≠ -2000 ∧ 0 ≤ c ∧ c < 3))
    (y : (cel mn t k 0 ≠ -2000 ∧ 0 ≤ c ∧ c < 3 ∧ d = 0 ∧ r2.toInt = cel mn t k c) ∨ ((cel mn t k 0 = -2000 ∨ c < 0 ∨ 3 ≤ c) ∧ d = 1 ∧ r2.toInt = 0)) (z : r3.toInt = d) : r3.toInt = r1.toInt ∧ (r1.toInt = 0 → L 0 = r2.toInt64) := by
  subst hn
  rcases x with ⟨a, b⟩ | ⟨a, w, hw, e, b⟩
  · refine ⟨?_, fun g => absurd (g.symm.trans a) (by decide)⟩
    rcases y with ⟨h1, h2, h3, -, -⟩ | ⟨-, h2, -⟩
    · omega
    · omega
  · rcases y with ⟨-, -, -, h4, h5⟩ | ⟨h1, -, -⟩
    · refine ⟨by omega, fun _ => ?_⟩
      have e2 : w = r2 := Int32.toInt_inj.mp (e.trans h5.symm)
      rw [hw, e2]
    · omega
theorem que_all {G : XG} {F : Nat → Nat → Nat} {a : Nat} {L : Nat → Int64} {f : Nat → Int32} {vn vb mn mb : Int → Int} {op op2 p w d : Int} {r1 r2 r3 : Int32} (ho : op = op2) (hn : vn = mn) (hb : op ≠ 0 → vb = mb) (hw : A_wait op f vb vn (qL G F a)) (h0 : 0 ≤ (G.1 a 6).toInt)
    (x : (r1.toInt = 1 ∧ (p < 0 ∨ (G.1 a 6).toInt ≤ p)) ∨ (r1.toInt = 0 ∧ ∃ y : Int32, L 0 = y.toInt64 ∧ (0 ≤ p ∧ p < (G.1 a 6).toInt) ∧ ((w = 0 ∧ y.toInt = aI (G.2.1 (F a 0)) p) ∨ (w = 1 ∧ y.toInt = aI (G.2.1 (F a 1)) p) ∨ (w = 2 ∧ y.toInt = aI (G.2.1 (F a 2)) p) ∨ (w = 3 ∧ y.toInt = aI (G.2.1 (F a 3)) p) ∨ (w = 4 ∧ y.toInt = aI (G.2.1 (F a 5)) p) ∨ ((w < 0 ∨ 4 < w) ∧ y.toInt = -2147483648))))
    (y : (¬ (0 ≤ p ∧ p < (((if op2 = 0 then [] else fuO f mn mb 1).length : Nat) : Int)) ∧ d = 1 ∧ r2.toInt = 0) ∨ (∃ y : Int × Int, 0 ≤ p ∧ (if op2 = 0 then [] else fuO f mn mb 1)[p.toNat]? = some y ∧ d = 0 ∧ r2.toInt = quM f mn mb y w)) (z : r3.toInt = d) : r3.toInt = r1.toInt ∧ (r1.toInt = 0 → L 0 = r2.toInt64) := by
  subst ho hn
  have hl := qL_len G F a
  by_cases o : op = 0
  · rw [if_pos o] at y
    rw [hw.1 o] at hl
    have hl : (0 : Nat) = (G.1 a 6).toInt.toNat := hl
    rcases y with ⟨-, e2, -⟩ | ⟨q, -, hq, -, -⟩
    · rcases x with ⟨e1, -⟩ | ⟨-, -, -, hp, -⟩
      · exact ⟨by omega, fun g => absurd (g.symm.trans e1) (by decide)⟩
      · exfalso; omega
    · rw [List.getElem?_nil] at hq; cases hq
  · have hb := hb o
    subst hb
    rw [if_neg o] at y
    have hW : qL G F a = (fuO f vn vb 1).map (tqq f vb vn) := by rw [hw.2 o, fuO_comm f vb vn 1]
    rw [hW, List.length_map] at hl
    rcases y with ⟨b, e2, -⟩ | ⟨q, p0, hq, e2, e3⟩
    · rcases x with ⟨e1, -⟩ | ⟨-, -, -, hp, -⟩
      · exact ⟨by omega, fun g => absurd (g.symm.trans e1) (by decide)⟩
      · exact absurd ⟨hp.1, by omega⟩ b
    · obtain ⟨hi, -⟩ := List.getElem?_eq_some_iff.mp hq
      rcases x with ⟨-, b⟩ | ⟨e1, v, hv, hp, hc⟩
      · exfalso; omega
      · refine ⟨by omega, fun _ => ?_⟩
        have h1 := qL_at (G := G) (F := F) (a := a) (z := p) hp
        rw [hW, List.getElem?_map, hq] at h1
        have h2 := Option.some.inj h1
        have c0 : q.1 = aI (G.2.1 (F a 0)) p := congrArg (fun x : Qt => x.1) h2
        have c1 : q.2 = aI (G.2.1 (F a 1)) p := congrArg (fun x : Qt => x.2.1) h2
        have c2 : stt vb (aI f (10 * q.1 + 0)) (aI f (10 * q.1 + 1)) (aI f (10 * q.1 + 2)) (aI f (10 * q.1 + 3)) q.2 = aI (G.2.1 (F a 2)) p := congrArg (fun x : Qt => x.2.2.1) h2
        have c3 : stt vn (aI f (10 * q.1 + 0)) (aI f (10 * q.1 + 1)) (aI f (10 * q.1 + 2)) (aI f (10 * q.1 + 3)) q.2 = aI (G.2.1 (F a 3)) p := congrArg (fun x : Qt => x.2.2.2.1) h2
        have c5 : fzq f vn q.1 q.2 = aI (G.2.1 (F a 5)) p := congrArg (fun x : Qt => x.2.2.2.2.2) h2
        have e : v = r2 := by
          apply Int32.toInt_inj.mp
          rw [e3]
          rcases hc with ⟨w0, k⟩ | ⟨w0, k⟩ | ⟨w0, k⟩ | ⟨w0, k⟩ | ⟨w0, k⟩ | ⟨w0, k⟩
          · rw [quM_0 w0, k, c0]
          · rw [quM_1 w0, k, c1]
          · rw [quM_2 w0, k, c2]
          · rw [quM_3 w0, k, c3]
          · rw [quM_4 w0, k, c5]
          · rw [quM_o w0, k]
        rw [hv, e]
/-! the groups of the queue -/
theorem ordN_inj (pr : Nat → Bool) (rk : Nat → Int) (n : Nat) : ∀ i j : Nat, i < (ordN pr rk n).1 → j < (ordN pr rk n).1 → (ordN pr rk n).2 i = (ordN pr rk n).2 j → i = j := by
  induction n with
  | zero => intro i j hi; exact absurd hi (Nat.not_lt_zero i)
  | succ n ih =>
    intro i j hi hj h
    by_cases hp : pr n = true
    · have e : ordN pr rk (n + 1) = ((ordN pr rk n).1 + 1, insF (ordN pr rk n).2 (posR (fun i => rk ((ordN pr rk n).2 i)) (rk n) (ordN pr rk n).1) n) := if_pos hp
      rw [e] at hi hj h
      have hi : i < (ordN pr rk n).1 + 1 := hi
      have hj : j < (ordN pr rk n).1 + 1 := hj
      have pl := posR_le (fun i => rk ((ordN pr rk n).2 i)) (rk n) (ordN pr rk n).1
      generalize posR (fun i => rk ((ordN pr rk n).2 i)) (rk n) (ordN pr rk n).1 = p at *
      have h : insF (ordN pr rk n).2 p n i = insF (ordN pr rk n).2 p n j := h
      have hl : ∀ k : Nat, k < (ordN pr rk n).1 → (ordN pr rk n).2 k < n := fun k hk => (ordN_in pr rk n k hk).1
      unfold insF at h
      by_cases a1 : i < p
      · rw [if_pos a1] at h
        have l1 := hl i (by omega)
        by_cases b1 : j < p
        · rw [if_pos b1] at h; exact ih i j (by omega) (by omega) h
        · rw [if_neg b1] at h
          by_cases b2 : j = p
          · rw [if_pos b2] at h; omega
          · rw [if_neg b2] at h
            have := ih i (j - 1) (by omega) (by omega) h
            omega
      · rw [if_neg a1] at h
        by_cases a2 : i = p
        · rw [if_pos a2] at h
          by_cases b1 : j < p
          · rw [if_pos b1] at h
            have l1 := hl j (by omega)
            omega
          · rw [if_neg b1] at h
            by_cases b2 : j = p
            · omega
            · rw [if_neg b2] at h
              have l1 := hl (j - 1) (by omega)
              omega
        · rw [if_neg a2] at h
          have l0 := hl (i - 1) (by omega)
          by_cases b1 : j < p
          · rw [if_pos b1] at h
            have := ih (i - 1) j (by omega) (by omega) h
            omega
          · rw [if_neg b1] at h
            by_cases b2 : j = p
            · rw [if_pos b2] at h; omega
            · rw [if_neg b2] at h
              have := ih (i - 1) (j - 1) (by omega) (by omega) h
              omega
    · have e : ordN pr rk (n + 1) = ordN pr rk n := if_neg hp
      rw [e] at hi hj h
      exact ih i j hi hj h
def GRl (l : List (Int × Int)) : Prop := ∀ (i j k : Nat) (x y z : Int × Int), i < j → j < k → l[i]? = some x → l[j]? = some y → l[k]? = some z → x.1 = z.1 → y.1 = x.1
theorem GRl_app {l t : List (Int × Int)} {q : Int} (h : GRl l) (h1 : ∀ x, x ∈ l → x.1 ≠ q) (h2 : ∀ x, x ∈ t → x.1 = q) : GRl (l ++ t) := by
  intro i j k x y z ij jk hi hj hk e
  by_cases a : k < l.length
  · rw [List.getElem?_append_left (by omega)] at hi
    rw [List.getElem?_append_left (by omega)] at hj
    rw [List.getElem?_append_left a] at hk
    exact h i j k x y z ij jk hi hj hk e
  · rw [List.getElem?_append_right (by omega)] at hk
    have ez := h2 z (List.mem_of_getElem? hk)
    by_cases b : i < l.length
    · rw [List.getElem?_append_left b] at hi
      exact absurd (e.trans ez) (h1 x (List.mem_of_getElem? hi))
    · rw [List.getElem?_append_right (by omega)] at hi
      rw [List.getElem?_append_right (by omega)] at hj
      rw [h2 y (List.mem_of_getElem? hj), h2 x (List.mem_of_getElem? hi)]
theorem fus_fst {f : Nat → Int32} {r1 r2 : Int → Int} {late q : Int} {x : Int × Int} (h : x ∈ fus f r1 r2 late q) : x.1 = q := by
  unfold fus at h
  split at h
  · exact (fu_mem.mp h).1
  · exact absurd h List.not_mem_nil
theorem fuL_GR {f : Nat → Int32} {r1 r2 : Int → Int} {late : Int} {o : Nat → Nat} : ∀ n : Nat, (∀ i j, i < n → j < n → o i = o j → i = j) → GRl (fuL f r1 r2 late o n)
  | 0, _ => fun i j k x y z _ _ hi => by
    rw [show fuL f r1 r2 late o 0 = [] from rfl, List.getElem?_nil] at hi
    cases hi
  | n + 1, h => by
    rw [fuL_s]
    refine GRl_app (q := ((o n : Nat) : Int)) (fuL_GR n (fun i j a b c => h i j (by omega) (by omega) c)) (fun x hx => ?_) (fun x hx => fus_fst hx)
    obtain ⟨i, hi, hm⟩ := (fuL_mem n).mp hx
    have e := fus_fst hm
    intro q
    have e2 : o i = o n := by omega
    exact absurd (h i n (by omega) (by omega) e2) (by omega)
theorem fuO_GR (f : Nat → Int32) (r1 r2 : Int → Int) (late : Int) : GRl (fuO f r1 r2 late) := fuL_GR _ (fun i j a b c => ordN_inj (prM f) (rkM f) 12 i j a b c)
theorem nth1_get {l : List (Int × Int)} {j : Int} (h : 0 ≤ j ∧ j < ((l.length : Nat) : Int)) : ∃ y : Int × Int, l[j.toNat]? = some y ∧ nth1 l j = y.1 := by
  have e : l[j.toNat]? = some (l[j.toNat]'(by omega)) := List.getElem?_eq_getElem (by omega)
  exact ⟨_, e, nth1_some e⟩
theorem nth1_GR {l : List (Int × Int)} (h : GRl l) {i j k : Int} (h0 : 0 ≤ i ∧ i < j ∧ j < k ∧ k < ((l.length : Nat) : Int)) (e : nth1 l i = nth1 l k) : nth1 l j = nth1 l i := by
  obtain ⟨x, hx, ex⟩ := nth1_get (l := l) (j := i) (by omega)
  obtain ⟨y, hy, ey⟩ := nth1_get (l := l) (j := j) (by omega)
  obtain ⟨z, hz, ez⟩ := nth1_get (l := l) (j := k) (by omega)
  rw [ey, ex]
  exact h i.toNat j.toNat k.toNat x y z (by omega) (by omega) hx hy hz (by rw [← ex, ← ez]; exact e)
theorem hv_run {g : Int → Int} {s e n : Int} (h : 0 ≤ s ∧ s < e ∧ e ≤ n) (h1 : ∀ j : Int, s ≤ j → j < e → g j = g s) (h2 : ∀ j : Int, 0 ≤ j → j < s → g j ≠ g s) (h3 : ∀ j : Int, e ≤ j → j < n → g j ≠ g s) : hv g 0 (g s) n = e - s := by
  have key : ∀ m : Nat, (m : Int) ≤ n → ((m : Int) ≤ s → hv g 0 (g s) (m : Int) = 0) ∧ (s ≤ (m : Int) → (m : Int) ≤ e → hv g 0 (g s) (m : Int) = (m : Int) - s) ∧ (e ≤ (m : Int) → hv g 0 (g s) (m : Int) = e - s) := by
    intro m
    induction m with
    | zero =>
      intro _
      have z : hv g 0 (g s) ((0 : Nat) : Int) = 0 := hv_0 _ _ _
      rw [z]
      omega
    | succ m ih =>
      intro hm
      obtain ⟨i1, i2, i3⟩ := ih (by omega)
      have st := hv_st (r := g) (b := 0) (v := g s) (z := (m : Int)) (y := g (m : Int)) (by omega) (by rw [Int.zero_add])
      have e1 : ((m + 1 : Nat) : Int) = (m : Int) + 1 := by omega
      rw [e1]
      refine ⟨fun q => ?_, fun q1 q2 => ?_, fun q => ?_⟩
      · rw [st.2 (h2 (m : Int) (by omega) (by omega)), i1 (by omega)]
      · by_cases c : (m : Int) < s
        · rw [st.2 (h2 (m : Int) (by omega) c), i1 (by omega)]; omega
        · rw [st.1 (h1 (m : Int) (by omega) (by omega)), i2 (by omega) (by omega)]; omega
      · by_cases c : e ≤ (m : Int)
        · rw [st.2 (h3 (m : Int) c (by omega)), i3 c]
        · rw [st.1 (h1 (m : Int) (by omega) (by omega)), i2 (by omega) (by omega)]; omega
  have k := (key n.toNat (by omega)).2.2
  rw [show ((n.toNat : Nat) : Int) = n from by omega] at k
  exact k h.2.2
theorem stF_le {g : Int → Int} {a b : Int} (h : 0 ≤ a ∧ a ≤ b) : stF g a ≤ stF g b := by
  obtain ⟨n, rfl⟩ : ∃ n : Nat, b = a + (n : Int) := ⟨(b - a).toNat, by omega⟩
  induction n with
  | zero =>
    rw [show a + ((0 : Nat) : Int) = a from by omega]
    exact Int.le_refl _
  | succ n ih =>
    have i := ih (by omega)
    have s := stF_s (g := g) (z := a + (n : Int)) (by omega)
    rw [show a + ((n + 1 : Nat) : Int) = a + (n : Int) + 1 from by omega]
    by_cases c : a + (n : Int) = 0 ∨ g (a + (n : Int)) ≠ g (a + (n : Int) - 1)
    · have := s.1 c; omega
    · have := s.2 c; omega
theorem gr_eq {g : Int → Int} {n i w r r1 : Int} (hw : 0 ≤ w ∧ w ≤ 1) (hG : ∀ a b c : Int, 0 ≤ a → a < b → b < c → c < n → g a = g c → g b = g a) (x : GrC g n i w r) (y : GrM g n i w r1) (hn : 0 ≤ n) : r = r1 := by
  have up : ∀ s s2 : Int, 0 ≤ s → s < s2 → (s = 0 ∨ g s ≠ g (s - 1)) → stF g s < stF g s2 := fun s s2 a b c => by
    have h1 := (stF_s (g := g) a).1 c
    have h2 := stF_le (g := g) (a := s + 1) (b := s2) (by omega)
    omega
  have nn : ∀ s : Int, 0 ≤ s → 0 ≤ stF g s := fun s a => by
    have h2 := stF_le (g := g) (a := 0) (b := s) (by omega)
    rw [stF_0] at h2
    exact h2
  rcases x with ⟨a1, a2⟩ | ⟨a1, a2, a3⟩ | ⟨s, ⟨s0, s1⟩, s2, s3, s4⟩
  · rcases y with ⟨b1, b2⟩ | ⟨b1, -, -⟩ | ⟨t, e, ⟨t0, t1, t2⟩, -, t4, -⟩
    · rw [a2, b2]
    · exact absurd a1 b1
    · have := nn t t0; omega
  · rcases y with ⟨b1, -⟩ | ⟨-, -, b3⟩ | ⟨t, e, ⟨t0, t1, t2⟩, t3, t4, -⟩
    · exact absurd b1 a1
    · rw [a3, b3]
    · have k := nn t t0
      have := up t n t0 (by omega) t3
      omega
  · rcases y with ⟨b1, -⟩ | ⟨b1, b2, -⟩ | ⟨t, e, ⟨t0, t1, t2⟩, t3, t4, t5, t6, t7⟩
    · have := nn s s0; omega
    · have k := nn s s0
      have := up s n s0 s1 s2
      omega
    · have est : s = t := by
        apply Classical.byContradiction
        intro q
        rcases Int.lt_or_gt_of_ne q with q | q
        · have := up s t s0 q s2; omega
        · have := up t s t0 q t3; omega
      subst est
      rcases s4 with ⟨w0, e1⟩ | ⟨w0, e1⟩
      · rcases t7 with ⟨-, e2⟩ | ⟨w1, -⟩
        · rw [e1, e2]
        · exact absurd w0 w1
      · rcases t7 with ⟨w1, -⟩ | ⟨-, e2⟩
        · exact absurd w1 w0
        · rw [e1, e2]
          refine hv_run ⟨s0, t1, t2⟩ t5 (fun j j0 j1 q => ?_) (fun j j0 j1 q => ?_)
          · rcases s2 with s2 | s2
            · omega
            · by_cases c : j = s - 1
              · exact s2 (by rw [← c]; exact q.symm)
              · exact s2 ((hG j (s - 1) s j0 (by omega) (by omega) s1 q).trans q).symm
          · rcases t6 with t6 | t6
            · omega
            · by_cases c : j = e
              · exact t6 (by rw [← c]; exact q)
              · exact t6 (hG s e j s0 t1 (by omega) j1 q.symm)
theorem grp_all {G : XG} {F : Nat → Nat → Nat} {a : Nat} {f : Nat → Int32} {vn vb mn mb : Int → Int} {op op2 i w r r1 : Int} (ho : op = op2) (hn : vn = mn) (hb : op ≠ 0 → vb = mb) (hw : A_wait op f vb vn (qL G F a)) (h0 : 0 ≤ (G.1 a 6).toInt)
    (x : ((w < 0 ∨ 1 < w) ∧ r = -1) ∨ ((0 ≤ w ∧ w ≤ 1) ∧ GrC (aI (G.2.1 (F a 0))) ((G.1 a 6).toInt) i w r))
    (y : ((w < 0 ∨ 1 < w) ∧ r1 = -1) ∨ ((0 ≤ w ∧ w ≤ 1) ∧ GrM (nth1 (if op2 = 0 then [] else fuO f mn mb 1)) (((if op2 = 0 then [] else fuO f mn mb 1).length : Nat) : Int) i w r1)) : r = r1 := by
  subst ho hn
  have hq : qL G F a = (if op = 0 then [] else fuO f vn mb 1).map (tqq f vb vn) := by
    by_cases o : op = 0
    · rw [if_pos o, hw.1 o]; rfl
    · rw [if_neg o, hw.2 o, ← hb o, fuO_comm f vb vn 1]
  have hG : GRl (if op = 0 then [] else fuO f vn mb 1) := by
    by_cases o : op = 0
    · rw [if_pos o]
      intro i j k x y z _ _ hi
      rw [List.getElem?_nil] at hi
      cases hi
    · rw [if_neg o]; exact fuO_GR _ _ _ _
  obtain ⟨L, eL⟩ : ∃ L : List (Int × Int), L = if op = 0 then [] else fuO f vn mb 1 := ⟨_, rfl⟩
  rw [← eL] at hq hG y
  clear eL
  have hl : ((L.length : Nat) : Int) = (G.1 a 6).toInt := by
    have k := qL_len G F a
    rw [hq, List.length_map] at k
    omega
  have hc : ∀ j : Int, 0 ≤ j → j < (G.1 a 6).toInt → aI (G.2.1 (F a 0)) j = nth1 L j := fun j j0 j1 => by
    obtain ⟨y, hy, ey⟩ := nth1_get (l := L) (j := j) (by omega)
    have h1 := qL_at (G := G) (F := F) (a := a) (z := j) ⟨j0, j1⟩
    rw [hq, List.getElem?_map, hy] at h1
    have h2 := Option.some.inj h1
    have c0 : y.1 = aI (G.2.1 (F a 0)) j := congrArg (fun x : Qt => x.1) h2
    rw [ey, c0]
  rcases x with ⟨a1, a2⟩ | ⟨a1, a2⟩
  · rcases y with ⟨-, b2⟩ | ⟨b1, -⟩
    · exact a2.trans b2.symm
    · omega
  · rcases y with ⟨b1, -⟩ | ⟨-, b2⟩
    · omega
    · rw [hl] at b2
      refine gr_eq a1 (fun u v t u0 uv vt tn e => ?_) a2 (GrM_congr (fun j j0 j1 => (hc j j0 j1).symm) b2) h0
      rw [hc u u0 (by omega), hc v (by omega) (by omega)]
      exact nth1_GR hG ⟨u0, uv, vt, by omega⟩ (by rw [← hc u u0 (by omega), ← hc t (by omega) tn]; exact e)
/-! what changed, what was settled since a mark -/
def smP (h : Int × Int → Int) : List (Int × Int) → Int
  | [] => 0
  | x :: l => h x + smP h l
theorem smP_app (h : Int × Int → Int) : ∀ l t : List (Int × Int), smP h (l ++ t) = smP h l + smP h t
  | [], t => (Int.zero_add _).symm
  | x :: l, t => by
    show h x + smP h (l ++ t) = h x + smP h l + smP h t
    rw [smP_app h l t, Int.add_assoc]
theorem smP_congr {g h : Int × Int → Int} : ∀ l : List (Int × Int), (∀ y, y ∈ l → g y = h y) → smP g l = smP h l
  | [], _ => rfl
  | x :: l, q => by
    show g x + smP g l = h x + smP h l
    rw [q x (List.mem_cons.mpr (Or.inl rfl)), smP_congr l (fun y hy => q y (List.mem_cons_of_mem _ hy))]
theorem smQ_map (h : Qt → Int) (t : Int × Int → Qt) : ∀ l : List (Int × Int), smQ h (l.map t) = smP (fun y => h (t y)) l
  | [] => rfl
  | x :: l => by
    show h (t x) + smQ h (l.map t) = h (t x) + smP (fun y => h (t y)) l
    rw [smQ_map h t l]
def opP (g : Int × Int → Int) (o : Option (Int × Int)) : Int := (o.map g).getD 0
theorem smP_fm (g : Int × Int → Int) (P : Int → Option (Int × Int)) (c : Nat → Int) : ∀ n : Nat, smP g ((lst c n).filterMap P) = smN (fun i => opP g (P (c i))) n
  | 0 => rfl
  | n + 1 => by
    rw [lst_s, List.filterMap_append, smP_app, smP_fm g P c n]
    show _ = smN (fun i => opP g (P (c i))) n + opP g (P (c n))
    congr 1
    cases h : P (c n) with
    | none =>
      rw [filterMap_1n2 h]
      rfl
    | some y =>
      rw [filterMap_1s h]
      show g y + 0 = g y
      omega
theorem smP_fuL (g : Int × Int → Int) (f : Nat → Int32) (r1 r2 : Int → Int) (late : Int) (o : Nat → Nat) : ∀ n : Nat, smP g (fuL f r1 r2 late o n) = smN (fun i => smP g (fus f r1 r2 late ((o i : Nat) : Int))) n
  | 0 => rfl
  | n + 1 => by
    rw [fuL_s, smP_app, smP_fuL g f r1 r2 late o n]
    rfl
theorem smN_ins (H : Nat → Int) (f : Nat → Nat) (x : Nat) : ∀ m p : Nat, p ≤ m → smN (fun i => H (insF f p x i)) (m + 1) = smN (fun i => H (f i)) m + H x
  | 0, p, hp => by
    have e : p = 0 := by omega
    subst e
    rfl
  | m + 1, p, hp => by
    show smN (fun i => H (insF f p x i)) (m + 1) + H (insF f p x (m + 1)) = smN (fun i => H (f i)) (m + 1) + H x
    by_cases e : p = m + 1
    · have e1 : smN (fun i => H (insF f p x i)) (m + 1) = smN (fun i => H (f i)) (m + 1) := smN_congr _ (fun i hi => by
        show H (insF f p x i) = H (f i)
        unfold insF
        rw [if_pos (by omega)])
      have e2 : insF f p x (m + 1) = x := by
        unfold insF
        rw [if_neg (by omega), if_pos e.symm]
      rw [e1, e2]
    · have e2 : insF f p x (m + 1) = f m := by
        unfold insF
        rw [if_neg (by omega), if_neg (by omega)]
        rfl
      rw [smN_ins H f x m p (by omega), e2]
      show smN (fun i => H (f i)) m + H x + H (f m) = smN (fun i => H (f i)) m + H (f m) + H x
      omega
theorem smN_ord (H : Nat → Int) (pr : Nat → Bool) (rk : Nat → Int) : ∀ n : Nat, smN (fun i => H ((ordN pr rk n).2 i)) (ordN pr rk n).1 = smN (fun q => if pr q = true then H q else 0) n
  | 0 => rfl
  | n + 1 => by
    show _ = smN (fun q => if pr q = true then H q else 0) n + (if pr n = true then H n else 0)
    rw [← smN_ord H pr rk n]
    by_cases hp : pr n = true
    · have e : ordN pr rk (n + 1) = ((ordN pr rk n).1 + 1, insF (ordN pr rk n).2 (posR (fun i => rk ((ordN pr rk n).2 i)) (rk n) (ordN pr rk n).1) n) := if_pos hp
      rw [e, if_pos hp]
      exact smN_ins H _ n _ _ (posR_le _ _ _)
    · have e : ordN pr rk (n + 1) = ordN pr rk n := if_neg hp
      rw [e, if_neg hp, Int.add_zero]
/-- a sum over what is unlike, of late rules: rule by rule -/
theorem smP_fuO {f : Nat → Int32} {r1 r2 mn mb mk : Int → Int} {w : Int} (g : Int × Int → Int) (h : ∀ q s : Int, opP g (fu1 f r1 r2 q s) = frI f mn mb mk w q s) : smP g (fuO f r1 r2 1) = frA f mn mb mk w 12 := by
  unfold fuO
  rw [smP_fuL, smN_ord (fun q => smP g (fus f r1 r2 1 ((q : Nat) : Int)))]
  show _ = smN _ (12 - 0 : Int).toNat
  rw [show ((12 : Int) - 0).toNat = 12 from by decide]
  refine smN_congr _ (fun i hi => ?_)
  show (if prM f i = true then smP g (fus f r1 r2 1 ((i : Nat) : Int)) else 0) = frQ f mn mb mk w ((i : Int) + 0)
  rw [Int.add_zero]
  unfold frQ
  by_cases c : aI f (10 * (i : Int) + 0) ≠ -1
  · rw [if_pos (show prM f i = true from decide_eq_true c)]
    unfold fus
    by_cases d : aI f (10 * (i : Int) + 6) = 1
    · rw [if_pos (Or.inr d), if_pos ⟨c, d⟩, subs_lst, smP_fm]
      unfold smS
      rw [show (sL (aI f (10 * (i : Int) + 0)) + 1 - sF (aI f (10 * (i : Int) + 0))).toNat = (sL (aI f (10 * (i : Int) + 0)) - sF (aI f (10 * (i : Int) + 0)) + 1).toNat from by omega]
      exact smN_congr _ (fun j _ => h _ _)
    · rw [if_neg (fun q => q.elim (fun e => absurd e (by decide)) d), if_neg (fun q => d q.2)]
      rfl
  · rw [if_neg (show ¬ prM f i = true from fun q => c (of_decide_eq_true q)), if_neg (fun q => c q.1)]
theorem ch_opP {f : Nat → Int32} {mn mb mk : Int → Int} (q s : Int) : opP (fun y => if stt mk (aI f (10 * y.1 + 0)) (aI f (10 * y.1 + 1)) (aI f (10 * y.1 + 2)) (aI f (10 * y.1 + 3)) y.2 ≠ stt mn (aI f (10 * y.1 + 0)) (aI f (10 * y.1 + 1)) (aI f (10 * y.1 + 2)) (aI f (10 * y.1 + 3)) y.2 then 1 else 0) (fu1 f mb mn q s) = frI f mn mb mk 0 q s := by
  have k := (frI_st f mn mb mk 0 q s).1 rfl
  unfold fu1
  by_cases c : stt mb (aI f (10 * q + 0)) (aI f (10 * q + 1)) (aI f (10 * q + 2)) (aI f (10 * q + 3)) s ≠ stt mn (aI f (10 * q + 0)) (aI f (10 * q + 1)) (aI f (10 * q + 2)) (aI f (10 * q + 3)) s
  · rw [if_pos c]
    show (if stt mk (aI f (10 * q + 0)) (aI f (10 * q + 1)) (aI f (10 * q + 2)) (aI f (10 * q + 3)) s ≠ stt mn (aI f (10 * q + 0)) (aI f (10 * q + 1)) (aI f (10 * q + 2)) (aI f (10 * q + 3)) s then (1 : Int) else 0) = _
    by_cases d : stt mk (aI f (10 * q + 0)) (aI f (10 * q + 1)) (aI f (10 * q + 2)) (aI f (10 * q + 3)) s ≠ stt mn (aI f (10 * q + 0)) (aI f (10 * q + 1)) (aI f (10 * q + 2)) (aI f (10 * q + 3)) s
    · rw [if_pos d, k.1 ⟨fun e => c e.symm, fun e => d e.symm⟩]
    · rw [if_neg d, k.2 (fun e => d (fun z => e.2 z.symm))]
  · rw [if_neg c, k.2 (fun e => c (fun z => e.1 z.symm))]
    rfl
theorem se_opP {f : Nat → Int32} {mn mb mk : Int → Int} {w : Int} (hw : w ≠ 0) (q s : Int) : opP (fun y => if stt mn (aI f (10 * y.1 + 0)) (aI f (10 * y.1 + 1)) (aI f (10 * y.1 + 2)) (aI f (10 * y.1 + 3)) y.2 = stt mb (aI f (10 * y.1 + 0)) (aI f (10 * y.1 + 1)) (aI f (10 * y.1 + 2)) (aI f (10 * y.1 + 3)) y.2 then 1 else 0) (fu1 f mb mk q s) = frI f mn mb mk w q s := by
  have k := (frI_st f mn mb mk w q s).2 hw
  unfold fu1
  by_cases c : stt mb (aI f (10 * q + 0)) (aI f (10 * q + 1)) (aI f (10 * q + 2)) (aI f (10 * q + 3)) s ≠ stt mk (aI f (10 * q + 0)) (aI f (10 * q + 1)) (aI f (10 * q + 2)) (aI f (10 * q + 3)) s
  · rw [if_pos c]
    show (if stt mn (aI f (10 * q + 0)) (aI f (10 * q + 1)) (aI f (10 * q + 2)) (aI f (10 * q + 3)) s = stt mb (aI f (10 * q + 0)) (aI f (10 * q + 1)) (aI f (10 * q + 2)) (aI f (10 * q + 3)) s then (1 : Int) else 0) = _
    by_cases d : stt mn (aI f (10 * q + 0)) (aI f (10 * q + 1)) (aI f (10 * q + 2)) (aI f (10 * q + 3)) s = stt mb (aI f (10 * q + 0)) (aI f (10 * q + 1)) (aI f (10 * q + 2)) (aI f (10 * q + 3)) s
    · rw [if_pos d, k.1 ⟨d, fun e => c e.symm⟩]
    · rw [if_neg d, k.2 (fun e => d e.1)]
  · rw [if_neg c, k.2 (fun e => c (fun z => e.2 z.symm))]
    rfl
theorem ch_at {G : XG} {b : Nat → Option Nat} {f : Nat → Int32} {vk r1 r2 : Int → Int} {y : Int × Int} (hL : LK G b f) (hy : (0 ≤ y.1 ∧ y.1 < 12) ∧ aI f (10 * y.1 + 0) ≠ -1) : chQ G b vk (tqq f r1 r2 y) = (if stt vk (aI f (10 * y.1 + 0)) (aI f (10 * y.1 + 1)) (aI f (10 * y.1 + 2)) (aI f (10 * y.1 + 3)) y.2 ≠ stt r2 (aI f (10 * y.1 + 0)) (aI f (10 * y.1 + 1)) (aI f (10 * y.1 + 2)) (aI f (10 * y.1 + 3)) y.2 then 1 else 0) ∧ seQ G b vk (tqq f r1 r2 y) = (if stt vk (aI f (10 * y.1 + 0)) (aI f (10 * y.1 + 1)) (aI f (10 * y.1 + 2)) (aI f (10 * y.1 + 3)) y.2 = stt r1 (aI f (10 * y.1 + 0)) (aI f (10 * y.1 + 1)) (aI f (10 * y.1 + 2)) (aI f (10 * y.1 + 3)) y.2 then 1 else 0) := by
  have ey : ((y.1.toNat : Nat) : Int) = y.1 := by omega
  rcases hL y.1.toNat (by omega) with ⟨-, k⟩ | ⟨q, hq, -, hr⟩
  · rw [ey] at k; exact absurd k hy.2
  · rw [ey] at hr
    obtain ⟨h0, -, h2, h3, h4, -⟩ := hr
    have c := chQ_y (G := G) (b := b) (v := vk) (x := tqq f r1 r2 y) (z := y.1) rfl hy.1 hq rfl rfl rfl
    have d := seQ_y (G := G) (b := b) (v := vk) (x := tqq f r1 r2 y) (z := y.1) rfl hy.1 hq rfl rfl rfl
    have e : stt vk (G.1 q 0).toInt (G.1 q 2).toInt (G.1 q 3).toInt (G.1 q 4).toInt (tqq f r1 r2 y).2.1 = stt vk (aI f (10 * y.1 + 0)) (aI f (10 * y.1 + 1)) (aI f (10 * y.1 + 2)) (aI f (10 * y.1 + 3)) y.2 := by rw [h0, h2, h3, h4]; rfl
    rw [e] at c d
    constructor
    · by_cases g : stt vk (aI f (10 * y.1 + 0)) (aI f (10 * y.1 + 1)) (aI f (10 * y.1 + 2)) (aI f (10 * y.1 + 3)) y.2 ≠ stt r2 (aI f (10 * y.1 + 0)) (aI f (10 * y.1 + 1)) (aI f (10 * y.1 + 2)) (aI f (10 * y.1 + 3)) y.2
      · rw [if_pos g]; exact c.1 g
      · rw [if_neg g]; exact c.2 (Classical.not_not.mp g)
    · by_cases g : stt vk (aI f (10 * y.1 + 0)) (aI f (10 * y.1 + 1)) (aI f (10 * y.1 + 2)) (aI f (10 * y.1 + 3)) y.2 = stt r1 (aI f (10 * y.1 + 0)) (aI f (10 * y.1 + 1)) (aI f (10 * y.1 + 2)) (aI f (10 * y.1 + 3)) y.2
      · rw [if_pos g]; exact d.1 g
      · rw [if_neg g]; exact d.2 g
theorem fresh_all {K : Nat → Nat} {F : Nat → Nat → Nat} {mr : Nat → Option Nat} {G : XG} {b : Nat} {cb cbb cz czb : Nat → Int32} {cm : Nat → Nat → Int32} {rb rk f : Nat → Int32} {vn mn : Int → Int} {op op2 mc mcm p w r r1 : Int} {W : List Qt} (hB : A_book K F G b f) (h : A_tr F mr cb cbb cz czb cm rb rk op op2 mc mcm) (hn : vn = mn) (hw : A_wait op f (vw cb) vn W)
    (x : (((p < 0 ∨ mc ≤ p ∨ 8 ≤ p) ∨ w < 0 ∨ 1 < w) ∧ r = -1) ∨ (∃ q : Nat, (0 ≤ p ∧ p < mc ∧ p < 8) ∧ mr p.toNat = some q ∧ ((w = 0 ∧ r = smQ (chQ G (G.2.2.1 (F b 0)) (vw (cm (F q 0)))) W) ∨ (w = 1 ∧ r = smQ (seQ G (G.2.2.1 (F b 0)) vn) (gaL G (G.2.2.1 (F b 1)) (vw cb) (vw (cm (F q 0))) 1 ((G.1 b 2).toInt).toNat)))))
    (y : ((¬ (op2 ≠ 0 ∧ 0 ≤ p ∧ p ≤ mcm - 1) ∨ w < 0 ∨ 1 < w) ∧ r1 = -1) ∨ ((op2 ≠ 0 ∧ 0 ≤ p ∧ p ≤ mcm - 1) ∧ (0 ≤ w ∧ w ≤ 1) ∧ r1 = frA f mn (mw rb 0) (mw rk (360 * p)) w 12)) : r = r1 := by
  obtain ⟨-, h2, h3, -, -, h6, h7, h8⟩ := h
  subst h6 hn
  by_cases o : op = 0
  · have m0 := h8 o
    rcases x with ⟨-, e⟩ | ⟨q, a, -⟩
    · rcases y with ⟨-, e2⟩ | ⟨c, -⟩
      · exact e.trans e2.symm
      · exact absurd o c.1
    · omega
  · obtain ⟨k1, k2, k3⟩ := h7 o
    rcases x with ⟨a, e⟩ | ⟨q, a, hq, z⟩
    · rcases y with ⟨-, e2⟩ | ⟨c, d, -⟩
      · exact e.trans e2.symm
      · omega
    · rcases y with ⟨c, -⟩ | ⟨-, -, e2⟩
      · rcases c with c | c
        · exact absurd ⟨o, a.1, by omega⟩ c
        · rcases z with ⟨z, -⟩ | ⟨z, -⟩ <;> omega
      · have ek := k3 p.toNat q (by omega) hq
        rw [show ((p.toNat : Nat) : Int) = p from by omega] at ek
        have hL := hB.2.2.2.2.2
        rcases z with ⟨w0, e⟩ | ⟨w0, e⟩
        · subst w0
          rw [e, e2, ek, hw.2 o, smQ_map, k1]
          refine Eq.trans (smP_congr _ (fun y hy => ?_)) (smP_fuO (r1 := mw rb 0) (r2 := vn) _ (fun q s => ch_opP (f := f) (mn := vn) (mb := mw rb 0) (mk := mw rk (360 * p)) q s))
          have hm := fuO_mem.mp hy
          exact (ch_at (vk := mw rk (360 * p)) (r1 := mw rb 0) (r2 := vn) hL ⟨hm.1.1, hm.1.2.1⟩).1
        · subst w0
          rw [e, e2, gaL_fuO hL hB.1 (Or.inr (Or.inl rfl)), ek, smQ_map, k1, lw_1]
          refine Eq.trans (smP_congr _ (fun y hy => ?_)) (smP_fuO (r1 := mw rb 0) (r2 := mw rk (360 * p)) _ (fun q s => se_opP (f := f) (mn := vn) (mb := mw rb 0) (mk := mw rk (360 * p)) (w := 1) (by decide) q s))
          have hm := fuO_mem.mp hy
          exact (ch_at (vk := vn) (r1 := mw rb 0) (r2 := mw rk (360 * p)) hL ⟨hm.1.1, hm.1.2.1⟩).2
theorem wait_cn {op op2 : Int} {f : Nat → Int32} {vb vn mb mn : Int → Int} {w : List Qt} (ho : op = op2) (hn : vn = mn) (hb : op ≠ 0 → vb = mb) (hw : A_wait op f vb vn w) (p : Int) : cnQ w p = cnP (if op2 = 0 then [] else fuO f mn mb 1) p := by
  subst ho hn
  by_cases o : op = 0
  · rw [if_pos o, hw.1 o]; rfl
  · rw [if_neg o, hw.2 o, cnQ_map, ← hb o, fuO_comm f vb vn 1]
theorem td_eq {f : Nat → Int32} {p n w : Int} {q : Nat → Int32} (h : RQ f p q) : tdC q n w = tdM f p n w := by
  obtain ⟨h0, -, h2, h3, h4, h5, h6, h7, h8, h9, -⟩ := h
  by_cases g : 0 ≤ w ∧ w ≤ 8
  · have e : w = 0 ∨ w = 1 ∨ w = 2 ∨ w = 3 ∨ w = 4 ∨ w = 5 ∨ w = 6 ∨ w = 7 ∨ w = 8 := by omega
    rw [tdM_i g]
    rcases e with e | e | e | e | e | e | e | e | e
    · rw [tdC_0 e, e]; exact h0
    · rw [tdC_1 e, e]; exact h2
    · rw [tdC_2 e, e]; exact h3
    · rw [tdC_3 e, e]; exact h4
    · rw [tdC_4 e, e]; exact h5
    · rw [tdC_5 e, e]; exact h6
    · rw [tdC_6 e, e]; exact h9
    · rw [tdC_7 e, e]; exact h8
    · rw [tdC_8 e, e]; exact h7
  · by_cases e : w = 9
    · rw [tdC_9 e, tdM_9 e]
    · rw [tdC_o (by omega), tdM_o (by omega)]
theorem told_all {K : Nat → Nat} {F : Nat → Nat → Nat} {G : XG} {b : Nat} {f : Nat → Int32} {vb vn mb mn : Int → Int} {op op2 p s r r1 : Int} {w : List Qt} (h : A_book K F G b f) (ho : op = op2) (hn : vn = mn) (hb : op ≠ 0 → vb = mb) (hw : A_wait op f vb vn w)
    (t : (((p < 0 ∨ 12 ≤ p) ∨ G.2.2.1 (F b 0) p.toNat = none) ∧ r = -2147483648) ∨ (∃ q : Nat, ((0 ≤ p ∧ p < 12) ∧ G.2.2.1 (F b 0) p.toNat = some q) ∧ r = tdC (G.1 q) (cnQ w p) s))
    (t2 : (¬ (0 ≤ p ∧ p ≤ 11 ∧ aI f (10 * p + 0) ≠ -1) ∧ r1 = -2147483648) ∨ ((0 ≤ p ∧ p ≤ 11 ∧ aI f (10 * p + 0) ≠ -1) ∧ r1 = tdM f p (cnP (if op2 = 0 then [] else fuO f mn mb 1) p) s)) : r = r1 := by
  rcases t with ⟨a, e⟩ | ⟨q, ⟨hp, hq⟩, e⟩
  · rcases t2 with ⟨-, e2⟩ | ⟨b1, -⟩
    · exact e.trans e2.symm
    · exact absurd b1 (no_rule h a)
  · obtain ⟨i1, hR⟩ := is_rule h hp hq
    rcases t2 with ⟨b1, -⟩ | ⟨-, e2⟩
    · exact absurd i1 b1
    · rw [e, e2, wait_cn ho hn hb hw p, td_eq hR]
/-! ===== how many rows there are ===== -/
theorem row_bit {v b : Int → Int} {f : Nat → Int32} (hro : RO v b) (hm : RM f 0) (e : v = mw f 0) {t k : Int} (ht : 0 ≤ t ∧ t < 3) (hk : 0 ≤ k ∧ k < 30) : aI f (4 * (30 * t + k)) = bI (b t) k := by
  have h1 := (hro.1 t k ht.1 ht.2 hk.1 hk.2).1
  have h2 : cel v t k 0 = v (90 * t + 30 * 0 + k) := cel_in ⟨ht.1, ht.2, hk.1, hk.2, by decide, by decide⟩
  have h3 := hm.flag (t := t) (k := k) ⟨ht.1, ht.2, hk.1, hk.2⟩
  rw [← e, h2, show 90 * t + 30 * 0 + k = 90 * t + k by omega, show 0 + 4 * (30 * t + k) = 4 * (30 * t + k) by omega] at h3
  rcases bI01 (b t) k with z | z
  · rcases h3 with ⟨a, -⟩ | ⟨-, a⟩
    · rw [a, z]
    · have := h1.mpr a
      omega
  · rcases h3 with ⟨-, a⟩ | ⟨a, -⟩
    · exact absurd a (h1.mp z)
    · rw [a, z]
theorem rows_eq {v b : Int → Int} {f : Nat → Int32} (hro : RO v b) (hm : RM f 0) (e : v = mw f 0) : toB b 3 = rmT f 360 := by
  have key : ∀ t : Nat, t < 3 → bsm (fun k => aI f (4 * (((30 * t : Nat) : Int) + k))) 30 = szB b t := fun t ht => bsm_cg 30 (fun k hk => by
    show aI f (4 * (((30 * t : Nat) : Int) + (k : Int))) = bI (b t) k
    rw [← row_bit hro hm e (t := (t : Int)) (k := (k : Int)) ⟨by omega, by omega⟩ ⟨by omega, by omega⟩, show ((30 * t : Nat) : Int) = 30 * (t : Int) by omega])
  have e1 : rmT f 360 = bsm (fun k => aI f (4 * k)) (30 + (30 + 30)) := rfl
  have e3 : toB b 3 = 0 + szB b ((0 : Nat) : Int) + szB b ((1 : Nat) : Int) + szB b ((2 : Nat) : Int) := rfl
  have k0 : bsm (fun k => aI f (4 * k)) 30 = szB b ((0 : Nat) : Int) := by
    rw [← key 0 (by decide)]
    exact bsm_cg 30 (fun k _ => by
      show aI f (4 * (k : Int)) = aI f (4 * (((30 * 0 : Nat) : Int) + (k : Int)))
      rw [show (((30 * 0 : Nat) : Int) + (k : Int)) = (k : Int) by omega])
  rw [e1, bsm_add, bsm_add, k0, e3]
  have k1 := key 1 (by decide)
  have k2 : bsm (fun k => (fun k => aI f (4 * k)) (((30 : Nat) : Int) + (((30 : Nat) : Int) + k))) 30 = szB b ((2 : Nat) : Int) := by
    rw [← key 2 (by decide)]
    exact bsm_cg 30 (fun k _ => by
      show aI f (4 * (((30 : Nat) : Int) + (((30 : Nat) : Int) + (k : Int)))) = aI f (4 * (((30 * 2 : Nat) : Int) + (k : Int)))
      rw [show (((30 : Nat) : Int) + (((30 : Nat) : Int) + (k : Int))) = (((30 * 2 : Nat) : Int) + (k : Int)) by omega])
  have k1 : bsm (fun k => (fun k => aI f (4 * k)) (((30 : Nat) : Int) + k)) 30 = szB b ((1 : Nat) : Int) := k1
  rw [k1, k2]
  omega
theorem begin_r {v b : Int → Int} {f : Nat → Int32} {A B C D E : Prop} {op op2 r r1 : Int} (ho : op = op2) (hro : RO v b) (hm : RM f 0) (e : v = mw f 0) (t : (op ≠ 0 ∧ r = -3 ∧ A) ∨ (op = 0 ∧ B ∧ r = toB b 3)) (t2 : (op2 ≠ 0 ∧ r1 = -3 ∧ C) ∨ (op2 = 0 ∧ D ∧ E ∧ r1 = rmT f 360)) : r = r1 := by
  subst ho
  rcases t with ⟨a, c, -⟩ | ⟨a, -, c⟩
  · rcases t2 with ⟨-, d, -⟩ | ⟨d, -⟩
    · exact c.trans d.symm
    · exact absurd d a
  · rcases t2 with ⟨d, -⟩ | ⟨-, -, -, d⟩
    · exact absurd a d
    · rw [c, d, rows_eq hro hm e]
/-! ===== what an act would tell ===== -/
theorem would_core {K : Nat → Nat} {F : Nat → Nat → Nat} {G : XG} {b : Nat} {f : Nat → Int32} {vn p : Int → Int} {op op2 r r1 : Int} (h : A_book K F G b f) (ho : op = op2) (hA : AnsR op r (gaL G (G.2.2.1 (F b 1)) vn p 0 ((G.1 b 2).toInt).toNat)) (hS : AnsM op2 r1 f vn p) : r = r1 := by
  obtain ⟨n1, w1, hA⟩ := hA.act vn p
  obtain ⟨r3, hS⟩ := hS.st
  have hL := h.2.2.2.2.2
  rw [gaL_fuO hL h.1 (Or.inl rfl), lw_0] at hA
  exact (act_link hL ho hA hS).1
theorem wset_all {K : Nat → Nat} {F : Nat → Nat → Nat} {G : XG} {b : Nat} {f : Nat → Int32} {vn mn : Int → Int} {op op2 r r1 t k c v : Int} (h : A_book K F G b f) (ho : op = op2) (hn : vn = mn)
    (x : (r = -1 ∧ ¬ ((0 ≤ t ∧ t < 3) ∧ (0 ≤ k ∧ k < 30) ∧ (0 ≤ c ∧ c < 3) ∧ (v = -1000 ∨ (-99 ≤ v ∧ v ≤ 99)))) ∨ (((0 ≤ t ∧ t < 3) ∧ (0 ≤ k ∧ k < 30) ∧ (0 ≤ c ∧ c < 3) ∧ (v = -1000 ∨ (-99 ≤ v ∧ v ≤ 99))) ∧ r = -2 ∧ cel vn t k 0 = -2000) ∨ (((0 ≤ t ∧ t < 3) ∧ (0 ≤ k ∧ k < 30) ∧ (0 ≤ c ∧ c < 3) ∧ (v = -1000 ∨ (-99 ≤ v ∧ v ≤ 99))) ∧ cel vn t k 0 ≠ -2000 ∧ r = -4 ∧ cel vn t k c = v) ∨ (((0 ≤ t ∧ t < 3) ∧ (0 ≤ k ∧ k < 30) ∧ (0 ≤ c ∧ c < 3) ∧ (v = -1000 ∨ (-99 ≤ v ∧ v ≤ 99))) ∧ cel vn t k 0 ≠ -2000 ∧ cel vn t k c ≠ v ∧ AnsR op r (gaL G (G.2.2.1 (F b 1)) vn (rset vn (90 * t + 30 * c + k) v) 0 ((G.1 b 2).toInt).toNat)))
    (y : (whyS mn t k c v ≠ 0 ∧ r1 = whyS mn t k c v) ∨ (whyS mn t k c v = 0 ∧ AnsM op2 r1 f mn (rset mn (90 * t + 30 * c + k) v))) : r = r1 := by
  subst hn
  rcases x with ⟨a1, a2⟩ | ⟨a1, a2, a3⟩ | ⟨a1, a2, a3, a4⟩ | ⟨a1, a2, a3, a4⟩
  · have w : whyS vn t k c v = -1 := by
      unfold whyS
      exact if_neg (fun q => a2 ⟨⟨q.1, q.2.1⟩, ⟨q.2.2.1, q.2.2.2.1⟩, ⟨q.2.2.2.2.1, q.2.2.2.2.2.1⟩, q.2.2.2.2.2.2⟩)
    rw [w] at y
    rcases y with ⟨-, b2⟩ | ⟨b1, -⟩
    · exact a1.trans b2.symm
    · exact absurd b1 (by decide)
  · have w : whyS vn t k c v = -2 := by
      unfold whyS
      rw [if_pos ⟨a1.1.1, a1.1.2, a1.2.1.1, a1.2.1.2, a1.2.2.1.1, a1.2.2.1.2, a1.2.2.2⟩, if_pos a3]
    rw [w] at y
    rcases y with ⟨-, b2⟩ | ⟨b1, -⟩
    · exact a2.trans b2.symm
    · exact absurd b1 (by decide)
  · have w : whyS vn t k c v = -4 := by
      unfold whyS
      rw [if_pos ⟨a1.1.1, a1.1.2, a1.2.1.1, a1.2.1.2, a1.2.2.1.1, a1.2.2.1.2, a1.2.2.2⟩, if_neg a2, if_pos a4]
    rw [w] at y
    rcases y with ⟨-, b2⟩ | ⟨b1, -⟩
    · exact a3.trans b2.symm
    · exact absurd b1 (by decide)
  · have w : whyS vn t k c v = 0 := by
      unfold whyS
      rw [if_pos ⟨a1.1.1, a1.1.2, a1.2.1.1, a1.2.1.2, a1.2.2.1.1, a1.2.2.1.2, a1.2.2.2⟩, if_neg a2, if_neg a3]
    rw [w] at y
    rcases y with ⟨b1, -⟩ | ⟨-, b2⟩
    · exact absurd rfl b1
    · exact would_core h ho a4 b2
theorem sz_rmR {v b : Int → Int} {f : Nat → Int32} (hro : RO v b) (hm : RM f 0) (e : v = mw f 0) {t : Int} (ht : 0 ≤ t ∧ t < 3) : szB b t = rmR f t 30 := (bsm_cg 30 (fun k hk => row_bit hro hm e ht (k := (k : Int)) ⟨by omega, by omega⟩)).symm
theorem rows_all {v b : Int → Int} {f : Nat → Int32} {t w : Int} {r r1 : Int32} (hro : RO v b) (hm : RM f 0) (e : v = mw f 0)
    (x : (¬ (0 ≤ t ∧ t < 3) ∧ r.toInt = -1) ∨ ((0 ≤ t ∧ t < 3) ∧ ((w = 0 ∧ r.toInt = szB b t) ∨ (w = 1 ∧ r.toInt = b t) ∨ (w ≠ 0 ∧ w ≠ 1 ∧ r.toInt = -1))))
    (y : (¬ ((0 ≤ t ∧ t ≤ 2) ∧ (w = 0 ∨ w = 1)) ∧ r1.toInt = -1) ∨ ((0 ≤ t ∧ t ≤ 2) ∧ w = 0 ∧ r1.toInt = rmR f t 30) ∨ ((0 ≤ t ∧ t ≤ 2) ∧ w = 1 ∧ ∀ j : Int, 0 ≤ j → j < 32 → bI r1.toInt j = if j < 30 then aI f (4 * (30 * t + j)) else 0)) : r.toInt = r1.toInt := by
  rcases x with ⟨a, c⟩ | ⟨a, ⟨g, c⟩ | ⟨g, c⟩ | ⟨g, g2, c⟩⟩
  · rcases y with ⟨a2, c2⟩ | ⟨a2, -⟩ | ⟨a2, -⟩
    · exact c.trans c2.symm
    · exact absurd ⟨a2.1, by omega⟩ a
    · exact absurd ⟨a2.1, by omega⟩ a
  · rcases y with ⟨a2, -⟩ | ⟨-, -, c2⟩ | ⟨-, g3, -⟩
    · exact absurd ⟨⟨a.1, by omega⟩, Or.inl g⟩ a2
    · rw [c, c2]; exact sz_rmR hro hm e a
    · omega
  · rcases y with ⟨a2, -⟩ | ⟨-, g3, -⟩ | ⟨-, -, c2⟩
    · exact absurd ⟨⟨a.1, by omega⟩, Or.inr g⟩ a2
    · omega
    · refine congrArg Int32.toInt (bI_ext (fun j h1 h2 => ?_))
      rw [c2 j h1 h2, c]
      by_cases q : j < 30
      · rw [if_pos q, row_bit hro hm e a ⟨h1, q⟩]
      · rw [if_neg q]
        exact hro.2.2 t j a.1 a.2 (by omega) h2
  · rcases y with ⟨-, c2⟩ | ⟨-, g3, -⟩ | ⟨-, g3, -⟩
    · exact c.trans c2.symm
    · exact absurd g3 g
    · exact absurd g3 g2
/-! ===== who leans, what a cut would take: class and reference ===== -/
theorem lnC_M {K : Nat → Nat} {F : Nat → Nat → Nat} {G : XG} {b : Nat} {f : Nat → Int32} {v : Int → Int} {u k t j : Int} (h : A_book K F G b f) : lnC G (G.2.2.1 (F b 1)) v (G.1 b 2).toInt u k t j ↔ lnM f v 12 u k t j := by
  obtain ⟨⟨b1, b2⟩, -, -, -, -, hL⟩ := h
  constructor
  · rintro ⟨i, q, hi, hq, h1, h2, h3, h4⟩
    have hi2 : i < (ordN (fun i => (G.2.2.1 (F b 0) i).isSome) (fun i => rkO G (G.2.2.1 (F b 0) i)) 12).1 := by omega
    have hin := ordN_in (fun i => (G.2.2.1 (F b 0) i).isSome) (fun i => rkO G (G.2.2.1 (F b 0) i)) 12 i hi2
    have e := b2 i hi2
    rw [hq] at e
    rcases hL _ hin.1 with ⟨a, -⟩ | ⟨y, a, -, c⟩
    · rw [a] at e; cases e
    · rw [a] at e
      have e := Option.some.inj e
      subst e
      obtain ⟨c0, -, c2, c3, c4, -⟩ := c
      refine ⟨_, ⟨Int.natCast_nonneg _, Int.ofNat_lt.mpr hin.1⟩, c0.symm.trans h1, c4.symm.trans h2, c2.symm.trans h3, ?_⟩
      rw [← c3]
      exact h4
  · rintro ⟨q, hq, h1, h2, h3, h4⟩
    rcases hL.nat hq with ⟨-, a⟩ | ⟨y, a, -, c⟩
    · omega
    · obtain ⟨i, hi, e⟩ := ordN_all (pr := fun i => (G.2.2.1 (F b 0) i).isSome) (rk := fun i => rkO G (G.2.2.1 (F b 0) i)) (n := 12) (q := q.toNat) (by omega) (by show (G.2.2.1 (F b 0) q.toNat).isSome = true; rw [a]; rfl)
      obtain ⟨c0, -, c2, c3, c4, -⟩ := c
      refine ⟨i, y, by omega, by rw [b2 i hi, e, a], c0.trans h1, c4.trans h2, c2.trans h3, ?_⟩
      rw [c3]
      exact h4
theorem bI_of1 {b k z : Int} (hz : z = 0 ∨ z = 1) (h : bI b k = 1 ↔ z = 1) : bI b k = z := by
  rcases bI01 b k with e | e <;> omega
theorem leans_all {K : Nat → Nat} {F : Nat → Nat → Nat} {G : XG} {b : Nat} {f : Nat → Int32} {vn mn : Int → Int} {t k w r r1 : Int} (h : A_book K F G b f) (hn : vn = mn)
    (x : ((cel vn t k 0 = -2000 ∨ (w ≠ 0 ∧ w ≠ 1)) ∧ r = -1) ∨ (cel vn t k 0 ≠ -2000 ∧ ((w = 0 ∧ ∃ b9 : Int → Int, r = toB b9 3 ∧ ∀ u j : Int, inR u j → (bI (b9 u) j = 1 ↔ lnC G (G.2.2.1 (F b 1)) vn (G.1 b 2).toInt u j t k)) ∨ (w = 1 ∧ ∃ b9 : Int → Int, r = toB b9 3 - 1 ∧ ∀ u j : Int, inR u j → (bI (b9 u) j = 1 ↔ RCH (lnC G (G.2.2.1 (F b 1)) vn (G.1 b 2).toInt) t k u j)))))
    (y : (¬ (cel mn t k 0 ≠ -2000 ∧ 0 ≤ w ∧ w ≤ 1) ∧ r1 = -1) ∨ ((cel mn t k 0 ≠ -2000 ∧ 0 ≤ w ∧ w ≤ 1) ∧ ((w = 0 ∧ r1 = bsI (lnI f mn t k) 90) ∨ (w = 1 ∧ ∃ g : Int → Int, r1 = bsI (lnK g (30 * t + k)) 90 ∧ ∀ z : Int, 0 ≤ z → z < 90 → (g z = 1 ↔ RC1 (lnM f mn 12) t k (z / 30) (z % 30)))))) : r = r1 := by
  subst hn
  rcases x with ⟨a, e⟩ | ⟨a, x⟩
  · rcases y with ⟨-, e2⟩ | ⟨a2, -⟩
    · exact e.trans e2.symm
    · exfalso
      rcases a with a | a
      · exact a2.1 a
      · omega
  · have hin : inR t k := by
      apply Classical.byContradiction
      intro q
      exact a (cel_out (fun z => q ⟨⟨z.1, z.2.1⟩, ⟨z.2.2.1, z.2.2.2.1⟩⟩))
    have div : ∀ u j : Int, inR u j → (30 * u + j) / 30 = u ∧ (30 * u + j) % 30 = j ∧ 0 ≤ 30 * u + j ∧ 30 * u + j < 90 := fun u j hi => by
      obtain ⟨p, q⟩ := hi
      omega
    have hC : ∀ u j t2 j2 : Int, lnC G (G.2.2.1 (F b 1)) vn (G.1 b 2).toInt u j t2 j2 ↔ lnM f vn 12 u j t2 j2 := fun _ _ _ _ => lnC_M h
    rcases y with ⟨a2, -⟩ | ⟨-, y⟩
    · exfalso
      rcases x with ⟨w0, -⟩ | ⟨w0, -⟩
      · exact a2 ⟨a, by omega, by omega⟩
      · exact a2 ⟨a, by omega, by omega⟩
    · rcases x with ⟨w0, b9, e, hb⟩ | ⟨w0, b9, e, hb⟩
      · rcases y with ⟨-, e2⟩ | ⟨w1, -⟩
        · rw [e, e2]
          refine toB_sm (fun u j hi => ?_)
          obtain ⟨d1, d2, -, -⟩ := div u j hi
          refine bI_of1 ?_ ((hb u j hi).trans ((hC u j t k).trans ?_))
          · by_cases q : lnM f vn 12 ((30 * u + j) / 30) ((30 * u + j) % 30) t k
            · exact Or.inr (lnI_y q)
            · exact Or.inl (lnI_n q)
          · constructor
            · intro q
              exact lnI_y (by rw [d1, d2]; exact q)
            · intro q
              apply Classical.byContradiction
              intro n
              rw [lnI_n (by rw [d1, d2]; exact n)] at q
              exact absurd q (by decide)
        · omega
      · rcases y with ⟨w1, -⟩ | ⟨-, g, e2, hg⟩
        · omega
        · have hR : ∀ u j : Int, inR u j → (bI (b9 u) j = 1 ↔ RCH (lnM f vn 12) t k u j) := fun u j hi => (hb u j hi).trans ⟨fun q => q.cg (fun u j t2 j2 z => (hC u j t2 j2).mp z), fun q => q.cg (fun u j t2 j2 z => (hC u j t2 j2).mpr z)⟩
          obtain ⟨s1, s2, s3, s4⟩ := div t k hin
          have e3 : toB b9 3 = bsm (fun z => bI (b9 (z / 30)) (z % 30)) 90 := toB_sm (fun u j hi => by
            obtain ⟨d1, d2, -, -⟩ := div u j hi
            show bI (b9 u) j = bI (b9 ((30 * u + j) / 30)) ((30 * u + j) % 30)
            rw [d1, d2])
          have e4 : bsm (fun z => bI (b9 (z / 30)) (z % 30)) 90 = bsm (lnK g (30 * t + k)) 90 + 1 := by
            have es : (((30 * t + k).toNat : Nat) : Int) = 30 * t + k := by omega
            refine bsm_set (i := (30 * t + k).toNat) 90 (by omega) ?_ ?_ (fun z hz hne => ?_)
            · rw [es]
              exact (lnK_st _ _ _).2 (fun q => q.2 rfl)
            · show bI (b9 ((((30 * t + k).toNat : Nat) : Int) / 30)) ((((30 * t + k).toNat : Nat) : Int) % 30) = 1
              rw [es, s1, s2]
              exact (hR t k hin).mpr (RCH.self _ _ _)
            · show bI (b9 ((z : Int) / 30)) ((z : Int) % 30) = lnK g (30 * t + k) (z : Int)
              have hzz : inR ((z : Int) / 30) ((z : Int) % 30) := inR_z (by omega) (by omega)
              have nz : (z : Int) ≠ 30 * t + k := by omega
              have i1 := hR _ _ hzz
              have i2 := hg (z : Int) (by omega) (by omega)
              by_cases q : g (z : Int) = 1
              · rw [(lnK_st _ _ _).1 ⟨q, nz⟩]
                exact i1.mpr (i2.mp q).rch
              · rw [(lnK_st _ _ _).2 (fun n => q n.1)]
                rcases bI01 (b9 ((z : Int) / 30)) ((z : Int) % 30) with c | c
                · exact c
                · exfalso
                  rcases (i1.mp c).rc1 with ⟨d1, d2⟩ | d
                  · omega
                  · exact q (i2.mpr d)
          rw [e, e2, e3, e4]
          show _ = bsm (lnK g (30 * t + k)) 90
          omega
/-! what the cut leaves of a cell: as it was, NULL, or gone with its row -/
def CTc (v p : Int → Int) : Prop := ∀ i : Int, p i = v i ∨ p i = -2000 ∨ (p i = -1000 ∧ v i ≠ -2000)
theorem CTc.fil {v p : Int → Int} (h : CTc v p) (t k : Int) : CTc v (rfil p t k (-2000) 3) := fun i => by
  unfold rfil
  split
  · exact Or.inr (Or.inl rfl)
  · exact h i
theorem CTc.set {v p : Int → Int} (h : CTc v p) {j : Int} (hj : p j ≠ -2000) : CTc v (rset p j (-1000)) := fun i => by
  unfold rset
  split
  · rename_i e
    subst e
    rcases h i with a | a | a
    · exact Or.inr (Or.inr ⟨rfl, by rw [← a]; exact hj⟩)
    · exact absurd a hj
    · exact Or.inr (Or.inr ⟨rfl, a.2⟩)
  · exact h i
theorem cst_ct {A : Int → Int → Int} {T C : Int → Int} (hT : CTo A T C) {v : Int → Int} {S : CSt} (hi : CIv S) (h : CTc v S.2) : CTc v (cst A T C S).2 := by
  obtain ⟨s, p⟩ := S
  cases s with
  | nil => exact h
  | cons x s =>
    obtain ⟨t, k, r, n⟩ := x
    have ok := hi.1 (t, k, r, n) (List.mem_cons.mpr (Or.inl rfl))
    have kk : 0 ≤ k ∧ k < 30 := ok.2.1
    have h : CTc v p := h
    by_cases c1 : r = 12
    · rw [cst_pop c1]; exact h
    · by_cases c2 : n = 30 ∨ ¬ (0 < A r t)
      · rw [cst_nx c1 c2]; exact h
      · have c3 : n ≠ 30 := fun q => c2 (Or.inl q)
        have c4 : 0 < A r t := Classical.byContradiction (fun q => c2 (Or.inr q))
        by_cases c5 : cel p (T r) n (C r) = k
        · by_cases c6 : A r t = 2
          · rw [cst_cl c1 c3 c6 c5]
            refine h.set ?_
            have o : 0 ≤ n ∧ n ≤ 30 := ok.2.2.2
            have tt := hT r t c4
            have n30 : n < 30 := by omega
            have e := cel_in (r := p) (t := T r) (k := n) (c := C r) ⟨tt.1.1, tt.1.2, o.1, n30, tt.2.1, tt.2.2⟩
            rw [← e, c5]
            omega
          · rw [cst_go c1 c3 c4 c6 c5]
            exact h.fil _ _
        · rw [cst_sk c1 c3 c4 c5]; exact h
theorem cit_ct {A : Int → Int → Int} {T C : Int → Int} (hT : CTo A T C) {v : Int → Int} : ∀ (n : Nat) {S : CSt}, CIv S → CTc v S.2 → CTc v (cit A T C n S).2
  | 0, _, _, h => h
  | n + 1, S, hi, h => cit_ct hT n (S := cst A T C S) (cst_iv hT hi).1 (cst_ct hT hi h)
theorem cfin_ct {A : Int → Int → Int} {T C : Int → Int} (hT : CTo A T C) {v : Int → Int} {t k : Int} (h : RC v) (h0 : 0 ≤ t ∧ t < 3 ∧ 0 ≤ k ∧ k < 30) (hp : cel v t k 0 ≠ -2000) : CTc v (cfin A T C ([(t, k, 0, 0)], rfil v t k (-2000) 3)) := by
  rw [cfin_eq]
  exact cit_ct hT _ (civ_0 h h0 hp).1 (CTc.fil (fun i => Or.inl rfl) t k)
/-! a sum over cells, by columns and by rows -/
theorem bsm_3 (g h : Int → Int) (e : ∀ k : Int, 0 ≤ k → k < 30 → h k = g k + g (30 + k) + g (60 + k)) : bsm g 90 = bsm h 30 := by
  have key : ∀ n : Nat, n ≤ 30 → bsm h n = bsm g n + bsm (fun k => g (30 + k)) n + bsm (fun k => g (60 + k)) n := by
    intro n
    induction n with
    | zero => intro _; rfl
    | succ n ih =>
      intro hn
      have ih := ih (by omega)
      have e := e (n : Int) (by omega) (by omega)
      show bsm h n + h (n : Int) = (bsm g n + g (n : Int)) + (bsm (fun k => g (30 + k)) n + g (30 + (n : Int))) + (bsm (fun k => g (60 + k)) n + g (60 + (n : Int)))
      omega
  have e1 : bsm g 90 = bsm g (30 + (30 + 30)) := rfl
  rw [e1, bsm_add, bsm_add, key 30 (Nat.le_refl _)]
  have e2 : bsm (fun k => (fun k => g (((30 : Nat) : Int) + k)) (((30 : Nat) : Int) + k)) 30 = bsm (fun k => g (60 + k)) 30 := bsm_cg 30 (fun k _ => by
    show g (((30 : Nat) : Int) + (((30 : Nat) : Int) + (k : Int))) = g (60 + (k : Int))
    rw [show (((30 : Nat) : Int) + (((30 : Nat) : Int) + (k : Int))) = 60 + (k : Int) by omega])
  rw [e2]
  show bsm g 30 + (bsm (fun k => g (30 + k)) 30 + bsm (fun k => g (60 + k)) 30) = _
  omega
theorem bsm_90 (g h : Int → Int) (e : ∀ t k : Int, 0 ≤ t → t < 3 → 0 ≤ k → k < 30 → h (30 * t + k) = g (90 * t + k) + g (90 * t + 30 + k) + g (90 * t + 60 + k)) : bsm g 270 = bsm h 90 := by
  have e1 : bsm g 270 = bsm g (90 + (90 + 90)) := rfl
  have e2 : bsm h 90 = bsm h (30 + (30 + 30)) := rfl
  have k0 : bsm g 90 = bsm h 30 := bsm_3 g h (fun k h0 h1 => by
    have q := e 0 k (by decide) (by decide) h0 h1
    rw [show 30 * 0 + k = k by omega, show 90 * 0 + k = k by omega, show 90 * 0 + 30 + k = 30 + k by omega, show 90 * 0 + 60 + k = 60 + k by omega] at q
    exact q)
  have k1 : bsm (fun k => g (((90 : Nat) : Int) + k)) 90 = bsm (fun k => h (((30 : Nat) : Int) + k)) 30 := bsm_3 _ _ (fun k h0 h1 => by
    have q := e 1 k (by decide) (by decide) h0 h1
    show h (((30 : Nat) : Int) + k) = g (((90 : Nat) : Int) + k) + g (((90 : Nat) : Int) + (30 + k)) + g (((90 : Nat) : Int) + (60 + k))
    rw [show ((30 : Nat) : Int) + k = 30 * 1 + k by omega, show ((90 : Nat) : Int) + k = 90 * 1 + k by omega, show ((90 : Nat) : Int) + (30 + k) = 90 * 1 + 30 + k by omega, show ((90 : Nat) : Int) + (60 + k) = 90 * 1 + 60 + k by omega]
    exact q)
  have k2 : bsm (fun k => (fun k => g (((90 : Nat) : Int) + k)) (((90 : Nat) : Int) + k)) 90 = bsm (fun k => (fun k => h (((30 : Nat) : Int) + k)) (((30 : Nat) : Int) + k)) 30 := bsm_3 _ _ (fun k h0 h1 => by
    have q := e 2 k (by decide) (by decide) h0 h1
    show h (((30 : Nat) : Int) + (((30 : Nat) : Int) + k)) = g (((90 : Nat) : Int) + (((90 : Nat) : Int) + k)) + g (((90 : Nat) : Int) + (((90 : Nat) : Int) + (30 + k))) + g (((90 : Nat) : Int) + (((90 : Nat) : Int) + (60 + k)))
    rw [show ((30 : Nat) : Int) + (((30 : Nat) : Int) + k) = 30 * 2 + k by omega, show ((90 : Nat) : Int) + (((90 : Nat) : Int) + k) = 90 * 2 + k by omega, show ((90 : Nat) : Int) + (((90 : Nat) : Int) + (30 + k)) = 90 * 2 + 30 + k by omega, show ((90 : Nat) : Int) + (((90 : Nat) : Int) + (60 + k)) = 90 * 2 + 60 + k by omega]
    exact q)
  rw [e1, e2, bsm_add, bsm_add, bsm_add, bsm_add, k0, k1, k2]
theorem cl_cell {f0 f1 : Nat → Int32} {v p : Int → Int} {t k c : Int} (h0 : RM f0 0) (h1 : RM f1 0) (e0 : v = mw f0 0) (e1 : p = mw f1 0) (hc : CTc v p) (hi : 0 ≤ t ∧ t < 3 ∧ 0 ≤ k ∧ k < 30 ∧ 0 ≤ c ∧ c < 3) : clA f0 f1 (4 * (30 * t + k)) (1 + c) = nn1 p v (90 * t + 30 * c + k) := by
  have o0 := h0.okc hi
  have o1 := h1.okc hi
  rw [← e0, cel_in hi] at o0
  rw [← e1, cel_in hi] at o1
  rw [show 0 + 4 * (30 * t + k) = 4 * (30 * t + k) by omega] at o0 o1
  have hh := hc (90 * t + 30 * c + k)
  have n1 := nn1_st p v (90 * t + 30 * c + k)
  have a1 := clA_st f0 f1 (4 * (30 * t + k)) (1 + c)
  rw [show 4 * (30 * t + k) + (1 + c) = 4 * (30 * t + k) + 1 + c by omega] at a1
  by_cases g : p (90 * t + 30 * c + k) = -1000 ∧ v (90 * t + 30 * c + k) ≠ -1000
  · rw [n1.1 g]
    refine a1.1 ⟨?_, ?_⟩
    · rcases o1 with ⟨-, q⟩ | ⟨q, -⟩
      · omega
      · exact q
    · rcases o1 with ⟨-, q⟩ | ⟨-, q, -⟩
      · omega
      · rcases o0 with ⟨-, q0⟩ | ⟨-, q0, -⟩
        · omega
        · omega
  · rw [n1.2 g]
    refine a1.2 (fun z => ?_)
    obtain ⟨z1, z2⟩ := z
    rcases o1 with ⟨q, -⟩ | ⟨-, q, w⟩
    · rw [z1] at q; exact absurd q (by decide)
    · rcases o0 with ⟨-, q0⟩ | ⟨-, q0, -⟩
      · omega
      · omega
theorem cl_all {f0 f1 : Nat → Int32} {v p : Int → Int} (h0 : RM f0 0) (h1 : RM f1 0) (e0 : v = mw f0 0) (e1 : p = mw f1 0) (hc : CTc v p) : bsI (nn1 p v) 270 = clT f0 f1 360 := by
  show bsm (nn1 p v) 270 = bsm (fun j => clR f0 f1 (4 * j) 4) 90
  refine bsm_90 _ _ (fun t k t0 t1 k0 k1 => ?_)
  show clR f0 f1 (4 * (30 * t + k)) 4 = _
  have c0 := cl_cell (c := 0) h0 h1 e0 e1 hc ⟨t0, t1, k0, k1, by decide, by decide⟩
  have c1 := cl_cell (c := 1) h0 h1 e0 e1 hc ⟨t0, t1, k0, k1, by decide, by decide⟩
  have c2 := cl_cell (c := 2) h0 h1 e0 e1 hc ⟨t0, t1, k0, k1, by decide, by decide⟩
  rw [show (1 : Int) + 0 = 1 from by decide, show 90 * t + 30 * 0 + k = 90 * t + k by omega] at c0
  rw [show (1 : Int) + 1 = 2 from by decide, show 90 * t + 30 * 1 + k = 90 * t + 30 + k by omega] at c1
  rw [show (1 : Int) + 2 = 3 from by decide, show 90 * t + 30 * 2 + k = 90 * t + 60 + k by omega] at c2
  rw [clR_4, c0, c1, c2]
theorem wcut_all {K : Nat → Nat} {F : Nat → Nat → Nat} {G : XG} {b : Nat} {f : Nat → Int32} {vn mn nb p q : Int → Int} {op op2 t k w r r1 : Int} (h : A_book K F G b f) (ho : op = op2) (hn : vn = mn) (hro : RO vn nb) (hm : RC vn) (hp : p = cfin (refA f) (refT f) (refC f) ([(t, k, 0, 0)], rfil vn t k (-2000) 3)) (hq : p = q)
    (x : (cel vn t k 0 = -2000 ∧ r = -1) ∨ (cel vn t k 0 ≠ -2000 ∧ ((w = 0 ∧ ∃ b9 : Int → Int, RO p b9 ∧ r = toB nb 3 - toB b9 3) ∨ (w = 1 ∧ r = bsI (nn1 p vn) 270) ∨ (w = 2 ∧ AnsR op r (gaL G (G.2.2.1 (F b 1)) vn p 0 ((G.1 b 2).toInt).toNat)) ∨ ((w < 0 ∨ 2 < w) ∧ r = -1))))
    (y : (¬ (cel mn t k 0 ≠ -2000 ∧ 0 ≤ w ∧ w ≤ 2) ∧ r1 = -1) ∨ ((cel mn t k 0 ≠ -2000 ∧ 0 ≤ w ∧ w ≤ 2) ∧ ((w = 0 ∧ ∃ f0 f1 : Nat → Int32, (RM f0 0 ∧ mw f0 0 = mn) ∧ (RM f1 0 ∧ mw f1 0 = q) ∧ r1 = rmT f0 360 - rmT f1 360) ∨ (w = 1 ∧ ∃ f0 f1 : Nat → Int32, (RM f0 0 ∧ mw f0 0 = mn) ∧ (RM f1 0 ∧ mw f1 0 = q) ∧ r1 = clT f0 f1 360) ∨ (w = 2 ∧ AnsM op2 r1 f mn q)))) : r = r1 := by
  subst hn hq
  rcases x with ⟨a, e⟩ | ⟨a, x⟩
  · rcases y with ⟨-, e2⟩ | ⟨a2, -⟩
    · exact e.trans e2.symm
    · exact absurd a a2.1
  · have hin : 0 ≤ t ∧ t < 3 ∧ 0 ≤ k ∧ k < 30 := by
      apply Classical.byContradiction
      intro z
      exact a (cel_out (fun g => z ⟨g.1, g.2.1, g.2.2.1, g.2.2.2.1⟩))
    rcases y with ⟨a2, e2⟩ | ⟨-, y⟩
    · rcases x with ⟨w0, -⟩ | ⟨w0, -⟩ | ⟨w0, -⟩ | ⟨-, e⟩
      · exact absurd ⟨a, by omega, by omega⟩ a2
      · exact absurd ⟨a, by omega, by omega⟩ a2
      · exact absurd ⟨a, by omega, by omega⟩ a2
      · exact e.trans e2.symm
    · rcases x with ⟨w0, b9, hb, e⟩ | ⟨w0, e⟩ | ⟨w0, e⟩ | ⟨w0, -⟩
      · rcases y with ⟨-, f0, f1, ⟨m0, v0⟩, ⟨m1, v1⟩, e2⟩ | ⟨w1, -⟩ | ⟨w1, -⟩
        · rw [e, e2, rows_eq hro m0 v0.symm, rows_eq hb m1 v1.symm]
        · omega
        · omega
      · rcases y with ⟨w1, -⟩ | ⟨-, f0, f1, ⟨m0, v0⟩, ⟨m1, v1⟩, e2⟩ | ⟨w1, -⟩
        · omega
        · rw [e, e2]
          exact cl_all m0 m1 v0.symm v1.symm (by rw [hp]; exact cfin_ct (refTo h.2.2.2.2.1) hm hin a)
        · omega
      · rcases y with ⟨w1, -⟩ | ⟨w1, -⟩ | ⟨-, e2⟩
        · omega
        · omega
        · exact would_core h ho e e2
      · exfalso
        rcases y with ⟨w1, -⟩ | ⟨w1, -⟩ | ⟨w1, -⟩ <;> omega
/-! THE CLAIM OUT OF ONE WALK OF THE LAW'S BODY. Your part is whole_start (and what it stands on); all else here is the same for every law, but numbers. -/
def R_law : String := "LateRulesLaw"
def lw_P (b : Addr) (xs : List Int32) (args : Array Value) (s : State) : Prop := args = #[.ref b] ∧ s.IntsAt b xs ∧ xs.length ≤ 3072 ∧ (Jvm.Cond.and given_1 narrow_1).before args s = true
def lw_Q (_ : Array Value) (s : State) (o : Outcome) (t : State) : Prop := o = .returned (some (.int 1)) ∧ Framed s o t [] 601024 7293034
def lw_Z (below : List Frame) (a : Array Value) (s : State) : State → Prop := fun t => ∃ o, t.status = .running ∧ Ended t below o ∧ lw_Q a s o t
/-- the law's own end, with 1 on the stack, nothing written that was there before, its room as the claim has it -/
theorem lw_ret {p : Program} {l : Launch} {e : Env} {s : State} {m : MethodId} {below : List Frame} {meth : Method} {c : Code} {b : Nat} (hx : p.tables.exec = Jvm.exec) (hb : c.code = code) (hr : meth.sig.returnType = ret) (hlocks : meth.locks = false) {pc : Nat} {H : Heap} {ls : Array Slot} (hdg : decode code pc = .ok (.ireturn, 1)) : W p l e room_1 s m #[Value.ref b] below meth c H [] 601024 7293034 (lw_Z below #[Value.ref b] s) (F0 m pc ls [.int 1]) := by
  intro T hT X
  obtain ⟨fs, hret, hrun, hended, hW, hframe⟩ := X.leave (v := some (.int 1)) (hlocks := hlocks) (fun h => by rw [hr] at h; cases h)
  have hmeth' : T.vm.method? m = some meth := X.method'
  refine ⟨T.setFrames fs, ?_, .returned (some (.int 1)), hrun, hended, rfl, ⟨_, rfl⟩, hW, hframe⟩
  jvm_step X.here [X.here.top, hx, hb, hdg, hmeth', hr, ret, narrow_b1]
  (try refine ⟨rfl, ?_⟩); (try refine ⟨rfl, ?_⟩)
  first | (intro acts; rw [hret _ acts rfl rfl rfl]) | rw [hret _ _ rfl rfl rfl]
  exact Steps.refl _
/-- what holds at the law's entry: the machine, the code, the tables' words (any of lw_tbl by 'hts w (by decide +kernel)'), the script of L ints xs at the cell b, what the Statement gives of the start (any of its parts by flat_of_before) -/
def lw_At (p : Program) (s : State) (m : MethodId) (meth : Method) (c : Code) (b L : Nat) (xs : Nat → Int32) : Prop :=
  p.tables.exec = Jvm.exec ∧ c.code = code ∧ meth.sig.returnType = ret ∧ c.maxLocals = 7 ∧ s.vm.findClass R_law = some m.cls ∧ (∀ w ∈ lw_tbl, w.before #[Value.ref b] s = true) ∧ va_X b L xs s s.heap ∧ b < s.heap.size ∧ meth.locks = false ∧ (Jvm.Cond.and given_1 narrow_1).before #[Value.ref b] s = true
