/-! ===== the queue, the acts ===== -/
theorem fu1_comm (f : Nat → Int32) (r1 r2 : Int → Int) (q s : Int) : fu1 f r1 r2 q s = fu1 f r2 r1 q s := by
  unfold fu1
  split
  · rename_i h; rw [if_pos (Ne.symm h)]
  · rename_i h; rw [if_neg (fun g => h (Ne.symm g))]
theorem fus_comm (f : Nat → Int32) (r1 r2 : Int → Int) (late q : Int) : fus f r1 r2 late q = fus f r2 r1 late q := by
  unfold fus
  rw [show fu1 f r1 r2 q = fu1 f r2 r1 q from funext (fu1_comm f r1 r2 q)]
theorem fuL_comm (f : Nat → Int32) (r1 r2 : Int → Int) (late : Int) (o : Nat → Nat) : ∀ n : Nat, fuL f r1 r2 late o n = fuL f r2 r1 late o n
  | 0 => rfl
  | n + 1 => by rw [fuL_s, fuL_s, fuL_comm f r1 r2 late o n, fus_comm f r1 r2]
theorem fuO_comm (f : Nat → Int32) (r1 r2 : Int → Int) (late : Int) : fuO f r1 r2 late = fuO f r2 r1 late := fuL_comm f r1 r2 late _ _
theorem cnQ_map (f : Nat → Int32) (r1 r2 : Int → Int) (l : List (Int × Int)) (v : Int) : cnQ (l.map (tqq f r1 r2)) v = cnP l v := by
  unfold cnQ cnP
  rw [List.countP_map]
  rfl
def A_wait (op : Int) (f : Nat → Int32) (vb vn : Int → Int) (w : List Qt) : Prop := (op = 0 → w = []) ∧ (op ≠ 0 → w = (fuO f vb vn 1).map (tqq f vb vn))
theorem A_wait.z {op : Int} {f f1 : Nat → Int32} {vb vn vb1 vn1 : Int → Int} {w : List Qt} (h : A_wait op f vb vn w) (ho : op = 0) : A_wait op f1 vb1 vn1 w := ⟨h.1, fun q => absurd ho q⟩
theorem RW.cg9 {q q1 : Nat → Int32} (h : RW q) (e : ∀ j, j ≠ 9 → q1 j = q j) : RW q1 := by
  unfold RW at *
  rw [e 0 (by decide), e 2 (by decide), e 3 (by decide), e 4 (by decide)]
  exact h
theorem B_late {K : Nat → Nat} {F : Nat → Nat → Nat} {G u : XG} {b xq : Nat} {f f1 : Nat → Int32} {p v : Int} (h : A_book K F G b f) (hp : 0 ≤ p ∧ p < 12) (hx : G.2.2.1 (F b 0) p.toNat = some xq) (hv : v = 0 ∨ v = 1) (hu : (u.1 xq 9).toInt = v) (hr : ∀ q j, K q = 9 → (q ≠ xq ∨ j ≠ 9) → u.1 q j = G.1 q j) (e0 : u.2.2.1 (F b 0) = G.2.2.1 (F b 0)) (e1 : u.2.2.1 (F b 1) = G.2.2.1 (F b 1)) (e2 : (u.1 b 2).toInt = (G.1 b 2).toInt) (hf : ∀ z : Int, 0 ≤ z → aI f1 z = if z = 10 * p + 6 then v else aI f z) (hV : RV f1) : A_book K F u b f1 := by
  obtain ⟨h1, h2, h3, h4, h5, h6⟩ := h
  have n9 : ∀ q, K q = 9 → ∀ j, j ≠ 9 → u.1 q j = G.1 q j := fun q hq j hj => hr q j hq (Or.inr hj)
  refine ⟨h1.cg e0 e1 e2 (fun i q _ hq => n9 q (h2 i q hq).1 8 (by decide)), fun i q hq => ?_, fun i q hq => ?_, fun i q hi hq => ?_, hV, fun i hi => ?_⟩
  · rw [e0] at hq
    have h := h2 i q hq
    exact ⟨h.1, h.2.cg9 (n9 q h.1)⟩
  · rw [e1] at hq
    have h := h3 i q hq
    exact ⟨h.1, h.2.cg9 (n9 q h.1)⟩
  · rw [e0] at hq
    rw [n9 q (h2 i q hq).1 7 (by decide)]
    exact h4 i q hi hq
  · rw [e0]
    have nx := LK.nat h6 hp
    rcases nx with ⟨cc, -⟩ | ⟨y, cc, -, cx⟩
    · rw [hx] at cc; cases cc
    · have ey : y = xq := by rw [hx] at cc; exact (Option.some.inj cc).symm
      subst ey
      rcases h6 i hi with ⟨a, c⟩ | ⟨q, a, c, d⟩
      · exact Or.inl ⟨a, by rw [hf _ (by omega), if_neg (by omega)]; exact c⟩
      · have hq9 := (h2 i q a).1
        by_cases g : (i : Int) = p
        · have eq : q = y := by
            have e : i = p.toNat := by omega
            rw [e, hx] at a
            exact (Option.some.inj a).symm
          subst eq
          refine Or.inr ⟨q, a, by rw [hf _ (by omega), if_neg (by omega)]; exact c, ?_⟩
          have o : ∀ j : Int, 0 ≤ j → j < 9 → j ≠ 6 → aI f1 (10 * (i : Int) + j) = aI f (10 * (i : Int) + j) := fun j _ _ hj => by rw [hf _ (by omega), if_neg (by omega)]
          unfold RQ at d ⊢
          rw [o 0 (by decide) (by decide) (by decide), o 1 (by decide) (by decide) (by decide), o 2 (by decide) (by decide) (by decide), o 3 (by decide) (by decide) (by decide), o 4 (by decide) (by decide) (by decide), o 5 (by decide) (by decide) (by decide), o 7 (by decide) (by decide) (by decide), o 8 (by decide) (by decide) (by decide), n9 q hq9 0 (by decide), n9 q hq9 1 (by decide), n9 q hq9 2 (by decide), n9 q hq9 3 (by decide), n9 q hq9 4 (by decide), n9 q hq9 5 (by decide), n9 q hq9 6 (by decide), n9 q hq9 7 (by decide), n9 q hq9 8 (by decide), hu, hf (10 * (i : Int) + 6) (by omega), if_pos (by omega)]
          obtain ⟨d0, d1, d2, d3, d4, d5, d6, d7, d8, -, -⟩ := d
          exact ⟨d0, d1, d2, d3, d4, d5, d6, d7, d8, rfl, hv⟩
        · have nq : q ≠ y := fun e => by
            subst e
            exact g (d.2.1.symm.trans cx.2.1)
          have eq : u.1 q = G.1 q := funext (fun j => hr q j hq9 (Or.inl nq))
          exact Or.inr ⟨q, a, by rw [hf _ (by omega), if_neg (by omega)]; exact c, by rw [eq]; exact d.cgf (fun j h1 h2 => by rw [hf _ (by omega), if_neg (by omega)])⟩
theorem wait_new {K : Nat → Nat} {F : Nat → Nat → Nat} {u : XG} {b : Nat} {f : Nat → Int32} {vb vn : Int → Int} {op : Int} {w : List Qt} (h : A_book K F u b f) (ho : op ≠ 0) (hw : w = gaL u (u.2.2.1 (F b 1)) vb vn 1 (u.1 b 2).toInt.toNat) : A_wait op f vb vn w := by
  refine ⟨fun q => absurd q ho, fun _ => ?_⟩
  rw [hw, gaL_fuO h.2.2.2.2.2 h.1 (Or.inr (Or.inl rfl)), lw_1]
theorem later_wait {K : Nat → Nat} {F : Nat → Nat → Nat} {G u : XG} {b xq : Nat} {f1 : Nat → Int32} {vb vn : Int → Int} {op : Int} {w : List Qt} {v : Int32} (h : A_book K F u b f1) (ho : op ≠ 0) (hu : u.1 xq 9 = v) (hr : ∀ q j, K q = 9 → (q ≠ xq ∨ j ≠ 9) → u.1 q j = G.1 q j) (e1 : u.2.2.1 (F b 1) = G.2.2.1 (F b 1)) (e2 : (u.1 b 2).toInt = (G.1 b 2).toInt) (hw : w = gaL (dput G xq 9 v) (G.2.2.1 (F b 1)) vb vn 1 (G.1 b 2).toInt.toNat) : A_wait op f1 vb vn w := by
  refine wait_new h ho ?_
  rw [hw, e1, e2]
  refine (gaL_cg (fun i q _ hq => ?_)).symm
  have hk := (h.2.2.1 i q (by rw [e1]; exact hq)).1
  funext j
  show u.1 q j = up2 G.1 xq 9 v q j
  unfold up2
  by_cases g : q = xq ∧ j = 9
  · rw [if_pos g, g.1, g.2, hu]
  · rw [if_neg g]
    refine hr q j hk ?_
    by_cases g2 : q = xq
    · exact Or.inr (fun e => g ⟨g2, e⟩)
    · exact Or.inl g2
theorem later_all {K : Nat → Nat} {F : Nat → Nat → Nat} {G u : XG} {b a8 xq : Nat} {f f1 : Nat → Int32} {vb vn : Int → Int} {p p1 op op2 r r1 : Int} (h : A_book K F G b f) (ho : op = op2) (hw : A_wait op f vb vn (qL G F a8)) (hxk : (K xq = 9 ∧ (0 ≤ p ∧ p < 12) ∧ G.2.2.1 (F b 0) p.toNat = some xq) ∨ K xq ≠ 9) (hr : ∀ q j, K q = 9 → (q ≠ xq ∨ j ≠ 9) → u.1 q j = G.1 q j) (e0 : u.2.2.1 (F b 0) = G.2.2.1 (F b 0)) (e1 : u.2.2.1 (F b 1) = G.2.2.1 (F b 1)) (e2 : (u.1 b 2).toInt = (G.1 b 2).toInt)
    (t : (((p < 0 ∨ 12 ≤ p) ∨ G.2.2.1 (F b 0) p.toNat = none) ∧ r = -2 ∧ qL u F a8 = qL G F a8) ∨ (((0 ≤ p ∧ p < 12) ∧ G.2.2.1 (F b 0) p.toNat = some xq) ∧ (G.1 xq 9).toInt = p1 ∧ r = -4 ∧ ((u.1 xq 9).toInt = (G.1 xq 9).toInt ∧ qL u F a8 = qL G F a8)) ∨ (((0 ≤ p ∧ p < 12) ∧ G.2.2.1 (F b 0) p.toNat = some xq) ∧ (G.1 xq 9).toInt ≠ p1 ∧ p1 ≠ 0 ∧ (u.1 xq 9).toInt = 1 ∧ ((op = 0 ∧ qL u F a8 = qL G F a8 ∧ r = 0) ∨ (op ≠ 0 ∧ qL u F a8 = (gaL (dput G xq 9 1) (G.2.2.1 (F b 1)) vb vn 1 ((G.1 b 2).toInt).toNat) ∧ r = cnQ (qL u F a8) ((G.1 xq 1).toInt)))) ∨ (((0 ≤ p ∧ p < 12) ∧ G.2.2.1 (F b 0) p.toNat = some xq) ∧ (G.1 xq 9).toInt ≠ p1 ∧ p1 = 0 ∧ (((∃ x, x ∈ qL G F a8 ∧ x.1 = (G.1 xq 1).toInt ∧ x.2.2.2.2.2 ≠ 0) ∧ r = -5 ∧ ((u.1 xq 9).toInt = (G.1 xq 9).toInt ∧ qL u F a8 = qL G F a8)) ∨ ((∀ x, x ∈ qL G F a8 → x.1 = (G.1 xq 1).toInt → x.2.2.2.2.2 = 0) ∧ (u.1 xq 9).toInt = 0 ∧ ((op = 0 ∧ qL u F a8 = qL G F a8 ∧ r = 0) ∨ (op ≠ 0 ∧ qL u F a8 = (gaL (dput G xq 9 0) (G.2.2.1 (F b 1)) vb vn 1 ((G.1 b 2).toInt).toNat) ∧ r = cnQ (qL G F a8) ((G.1 xq 1).toInt)))))))
    (t2 : (¬ (0 ≤ p ∧ p ≤ 11 ∧ aI f (10 * p + 0) ≠ -1) ∧ r1 = -2 ∧ f1 = f) ∨ ((0 ≤ p ∧ p ≤ 11 ∧ aI f (10 * p + 0) ≠ -1) ∧ aI f (10 * p + 6) = p1 ∧ r1 = -4 ∧ f1 = f) ∨ ((0 ≤ p ∧ p ≤ 11 ∧ aI f (10 * p + 0) ≠ -1) ∧ aI f (10 * p + 6) ≠ p1 ∧ p1 = 1 ∧ (∀ z : Int, 0 ≤ z → aI f1 z = if z = 10 * p + 6 then 1 else aI f z) ∧ r1 = cnP (if op2 = 0 then [] else fuO f1 vn vb 1) p) ∨ ((0 ≤ p ∧ p ≤ 11 ∧ aI f (10 * p + 0) ≠ -1) ∧ aI f (10 * p + 6) ≠ p1 ∧ p1 = 0 ∧ ((QFl f vn (if op2 = 0 then [] else fuO f vn vb 1) p ∧ r1 = -5 ∧ f1 = f) ∨ (¬ QFl f vn (if op2 = 0 then [] else fuO f vn vb 1) p ∧ (∀ z : Int, 0 ≤ z → aI f1 z = if z = 10 * p + 6 then 0 else aI f z) ∧ r1 = cnP (if op2 = 0 then [] else fuO f vn vb 1) p))))
    (hV : RV f1) : r = r1 ∧ A_book K F u b f1 ∧ A_wait op f1 vb vn (qL u F a8) := by
  subst ho
  have hL := h.2.2.2.2.2
  have sm : f1 = f → (∀ q, K q = 9 → u.1 q = G.1 q) → qL u F a8 = qL G F a8 → A_book K F u b f1 ∧ A_wait op f1 vb vn (qL u F a8) := fun e hq e3 => ⟨h.cg (fun _ h => h) e e0 e1 e2 hq, by rw [e, e3]; exact hw⟩
  have eqx : (u.1 xq 9).toInt = (G.1 xq 9).toInt → ∀ q, K q = 9 → u.1 q = G.1 q := fun e q hq => funext (fun j => by
    by_cases g : q = xq ∧ j = 9
    · rw [g.1, g.2]; exact Int32.toInt_inj.mp e
    · refine hr q j hq ?_
      by_cases g2 : q = xq
      · exact Or.inr (fun e => g ⟨g2, e⟩)
      · exact Or.inl g2)
  have isx : ((0 ≤ p ∧ p < 12) ∧ G.2.2.1 (F b 0) p.toNat = some xq) → aI f (10 * p + 0) ≠ -1 ∧ RQ f p (G.1 xq) := by
    rintro ⟨hp, hx⟩
    rcases hL.nat hp with ⟨c, -⟩ | ⟨y, c, d, e⟩
    · rw [hx] at c; cases c
    · rw [hx] at c
      have := Option.some.inj c
      subst this
      exact ⟨d, e⟩
  rcases t with ⟨a1, a2, a3⟩ | ⟨a1, a2, ar, a4, a5⟩ | ⟨a1, a2, a3, a4, a5⟩ | ⟨a1, a2, a3, t⟩
  · have no : ¬ (0 ≤ p ∧ p ≤ 11 ∧ aI f (10 * p + 0) ≠ -1) := by
      rintro ⟨x1, x2, x3⟩
      rcases hL.nat (r := p) (by omega) with ⟨-, c⟩ | ⟨y, c, -⟩
      · exact x3 c
      · rcases a1 with a1 | a1
        · omega
        · rw [a1] at c; cases c
    rcases t2 with ⟨-, b2, b3⟩ | ⟨b1, -⟩ | ⟨b1, -⟩ | ⟨b1, -⟩
    · have nk : K xq ≠ 9 := by
        rcases hxk with ⟨-, x1, x2⟩ | x
        · exfalso
          rcases a1 with a1 | a1
          · omega
          · rw [a1] at x2; cases x2
        · exact x
      exact ⟨a2.trans b2.symm, sm b3 (fun q hq => funext (fun j => hr q j hq (Or.inl (fun e => nk (by rw [← e]; exact hq))))) a3⟩
    · exact absurd b1 no
    · exact absurd b1 no
    · exact absurd b1 no
  · obtain ⟨k1, k2⟩ := isx a1
    have k9 := k2.2.2.2.2.2.2.2.2.2.1
    rcases t2 with ⟨b1, -⟩ | ⟨-, -, b2, b3⟩ | ⟨-, b1, -⟩ | ⟨-, b1, -⟩
    · exact absurd ⟨a1.1.1, by omega, k1⟩ b1
    · exact ⟨ar.trans b2.symm, sm b3 (eqx a4) a5⟩
    · omega
    · omega
  · obtain ⟨k1, k2⟩ := isx a1
    have k9 := k2.2.2.2.2.2.2.2.2.2.1
    rcases t2 with ⟨b1, -⟩ | ⟨-, b1, -⟩ | ⟨-, -, -, b1, br⟩ | ⟨-, -, b1, -⟩
    · exact absurd ⟨a1.1.1, by omega, k1⟩ b1
    · omega
    · have hB := B_late h a1.1 a1.2 (Or.inr rfl) a4 hr e0 e1 e2 b1 hV
      rcases a5 with ⟨o, e, er⟩ | ⟨o, e, er⟩
      · exact ⟨by rw [er, br, if_pos o]; rfl, hB, by rw [e]; exact hw.z o⟩
      · have wt := later_wait hB o (Int32.toInt_inj.mp a4) hr e1 e2 e
        exact ⟨by rw [er, br, if_neg o, wt.2 o, cnQ_map, k2.2.1, fuO_comm f1 vb vn 1], hB, wt⟩
    · exact absurd b1 a3
  · obtain ⟨k1, k2⟩ := isx a1
    have k9 := k2.2.2.2.2.2.2.2.2.2.1
    have kn := k2.2.1
    have lk := later_link (f := f) (n := p) hw
    rw [kn] at t
    rcases t2 with ⟨b1, -⟩ | ⟨-, b1, -⟩ | ⟨-, -, b1, -⟩ | ⟨-, -, -, t2⟩
    · exact absurd ⟨a1.1.1, by omega, k1⟩ b1
    · exact absurd (k9.trans b1) a2
    · omega
    · rcases t with ⟨c1, cr, c3, c4⟩ | ⟨c1, c2, c3⟩
      · rcases t2 with ⟨-, dr, d1⟩ | ⟨d1, -⟩
        · exact ⟨cr.trans dr.symm, sm d1 (eqx c3) c4⟩
        · exact absurd (lk.mp c1) d1
      · rcases t2 with ⟨d1, -⟩ | ⟨-, d1, dr⟩
        · exfalso
          obtain ⟨x, x1, x2, x3⟩ := lk.mpr d1
          exact x3 (c1 x x1 x2)
        · have hB := B_late h a1.1 a1.2 (Or.inl rfl) c2 hr e0 e1 e2 d1 hV
          rcases c3 with ⟨o, e, er⟩ | ⟨o, e, er⟩
          · exact ⟨by rw [er, dr, if_pos o]; rfl, hB, by rw [e]; exact hw.z o⟩
          · exact ⟨by rw [er, dr, if_neg o, hw.2 o, cnQ_map, fuO_comm f vb vn 1], hB, later_wait hB o (Int32.toInt_inj.mp c2) hr e1 e2 e⟩
theorem act_core {K : Nat → Nat} {F : Nat → Nat → Nat} {G : XG} {b : Nat} {f : Nat → Int32} {vb vn v1 m1 p : Int → Int} {op op2 r r1 : Int} {w0 w1 : List Qt} (h : A_book K F G b f) (ho : op = op2) (hw : A_wait op f vb vn w0) (hA : ActR op r (gaL G (G.2.2.1 (F b 1)) vn p 0 ((G.1 b 2).toInt).toNat) vn v1 p w0 w1 (gaL G (G.2.2.1 (F b 1)) vb p 1 ((G.1 b 2).toInt).toNat)) (hS : StR op2 r1 f vn p m1) : r = r1 ∧ v1 = m1 ∧ A_wait op f vb v1 w1 := by
  have hL := h.2.2.2.2.2
  rw [gaL_fuO hL h.1 (Or.inl rfl), lw_0] at hA
  obtain ⟨a1, a2, a3⟩ := act_link hL ho hA hS
  refine ⟨a1, a2, ?_⟩
  rcases a3 with ⟨c1, c2⟩ | ⟨c1, c2, c3⟩
  · rw [c1, c2]; exact hw
  · rw [c1]
    by_cases o : op = 0
    · rw [c2 o]; exact hw.z o
    · exact wait_new h o (c3 o)
theorem act_same {f : Nat → Int32} {vb vn v1 m1 : Int → Int} {op : Int} {w0 w1 : List Qt} (hw : A_wait op f vb vn w0) (e1 : v1 = vn) (e2 : w1 = w0) (e3 : m1 = vn) : v1 = m1 ∧ A_wait op f vb v1 w1 := by
  rw [e1, e2, e3]
  exact ⟨rfl, hw⟩
section ACTS
variable {K : Nat → Nat} {F : Nat → Nat → Nat} {G : XG} {b : Nat} {f : Nat → Int32} {vb vn mn v1 m1 : Int → Int} {op op2 r r1 : Int} {w0 w1 : List Qt}
theorem put_all {C : Prop} {t k : Int} {p : (Int → Int) → Int → Int} (h : A_book K F G b f) (ho : op = op2) (hn : vn = mn) (hw : A_wait op f vb vn w0)
    (x : (r = -1 ∧ ¬ C ∧ (v1 = vn ∧ w1 = w0)) ∨ (C ∧ r = -4 ∧ cel vn t k 0 ≠ -2000 ∧ (v1 = vn ∧ w1 = w0)) ∨ (C ∧ cel vn t k 0 = -2000 ∧ ActR op r (gaL G (G.2.2.1 (F b 1)) vn (p vn) 0 ((G.1 b 2).toInt).toNat) vn v1 (p vn) w0 w1 (gaL G (G.2.2.1 (F b 1)) vb (p vn) 1 ((G.1 b 2).toInt).toNat)))
    (y : (¬ C ∧ r1 = -1 ∧ m1 = mn) ∨ (C ∧ cel mn t k 0 ≠ -2000 ∧ r1 = -4 ∧ m1 = mn) ∨ (C ∧ cel mn t k 0 = -2000 ∧ StR op2 r1 f mn (p mn) m1)) : r = r1 ∧ v1 = m1 ∧ A_wait op f vb v1 w1 := by
  subst hn
  rcases x with ⟨a1, a2, a3, a4⟩ | ⟨a1, a2, a3, a4, a5⟩ | ⟨a1, a2, a3⟩
  · rcases y with ⟨-, b2, b3⟩ | ⟨b1, -⟩ | ⟨b1, -⟩
    · exact ⟨a1.trans b2.symm, act_same hw a3 a4 b3⟩
    · exact absurd b1 a2
    · exact absurd b1 a2
  · rcases y with ⟨b1, -⟩ | ⟨-, -, b2, b3⟩ | ⟨-, b1, -⟩
    · exact absurd a1 b1
    · exact ⟨a2.trans b2.symm, act_same hw a4 a5 b3⟩
    · exact absurd b1 a3
  · rcases y with ⟨b1, -⟩ | ⟨-, b1, -⟩ | ⟨-, -, b2⟩
    · exact absurd a1 b1
    · exact absurd a2 b1
    · exact act_core h ho hw a3 b2
theorem set_all {t k c v : Int} (h : A_book K F G b f) (ho : op = op2) (hn : vn = mn) (hw : A_wait op f vb vn w0)
    (x : (r = -1 ∧ ¬ ((0 ≤ t ∧ t < 3) ∧ (0 ≤ k ∧ k < 30) ∧ (0 ≤ c ∧ c < 3) ∧ (v = -1000 ∨ (-99 ≤ v ∧ v ≤ 99))) ∧ (v1 = vn ∧ w1 = w0)) ∨ (((0 ≤ t ∧ t < 3) ∧ (0 ≤ k ∧ k < 30) ∧ (0 ≤ c ∧ c < 3) ∧ (v = -1000 ∨ (-99 ≤ v ∧ v ≤ 99))) ∧ r = -2 ∧ cel vn t k 0 = -2000 ∧ (v1 = vn ∧ w1 = w0)) ∨ (((0 ≤ t ∧ t < 3) ∧ (0 ≤ k ∧ k < 30) ∧ (0 ≤ c ∧ c < 3) ∧ (v = -1000 ∨ (-99 ≤ v ∧ v ≤ 99))) ∧ cel vn t k 0 ≠ -2000 ∧ r = -4 ∧ cel vn t k c = v ∧ (v1 = vn ∧ w1 = w0)) ∨ (((0 ≤ t ∧ t < 3) ∧ (0 ≤ k ∧ k < 30) ∧ (0 ≤ c ∧ c < 3) ∧ (v = -1000 ∨ (-99 ≤ v ∧ v ≤ 99))) ∧ cel vn t k 0 ≠ -2000 ∧ cel vn t k c ≠ v ∧ ActR op r (gaL G (G.2.2.1 (F b 1)) vn (rset vn (90 * t + 30 * c + k) v) 0 ((G.1 b 2).toInt).toNat) vn v1 (rset vn (90 * t + 30 * c + k) v) w0 w1 (gaL G (G.2.2.1 (F b 1)) vb (rset vn (90 * t + 30 * c + k) v) 1 ((G.1 b 2).toInt).toNat)))
    (y : (whyS mn t k c v ≠ 0 ∧ r1 = whyS mn t k c v ∧ m1 = mn) ∨ (whyS mn t k c v = 0 ∧ StR op2 r1 f mn (rset mn (90 * t + 30 * c + k) v) m1)) : r = r1 ∧ v1 = m1 ∧ A_wait op f vb v1 w1 := by
  subst hn
  rcases x with ⟨a1, a2, a3, a4⟩ | ⟨a1, a2, a3, a4, a5⟩ | ⟨a1, a2, a3, a4, a5, a6⟩ | ⟨a1, a2, a3, a4⟩
  · have w : whyS vn t k c v = -1 := by
      unfold whyS
      exact if_neg (fun q => a2 ⟨⟨q.1, q.2.1⟩, ⟨q.2.2.1, q.2.2.2.1⟩, ⟨q.2.2.2.2.1, q.2.2.2.2.2.1⟩, q.2.2.2.2.2.2⟩)
    rw [w] at y
    rcases y with ⟨-, b2, b3⟩ | ⟨b1, -⟩
    · exact ⟨a1.trans b2.symm, act_same hw a3 a4 b3⟩
    · exact absurd b1 (by decide)
  · have w : whyS vn t k c v = -2 := by
      unfold whyS
      rw [if_pos ⟨a1.1.1, a1.1.2, a1.2.1.1, a1.2.1.2, a1.2.2.1.1, a1.2.2.1.2, a1.2.2.2⟩, if_pos a3]
    rw [w] at y
    rcases y with ⟨-, b2, b3⟩ | ⟨b1, -⟩
    · exact ⟨a2.trans b2.symm, act_same hw a4 a5 b3⟩
    · exact absurd b1 (by decide)
  · have w : whyS vn t k c v = -4 := by
      unfold whyS
      rw [if_pos ⟨a1.1.1, a1.1.2, a1.2.1.1, a1.2.1.2, a1.2.2.1.1, a1.2.2.1.2, a1.2.2.2⟩, if_neg a2, if_pos a4]
    rw [w] at y
    rcases y with ⟨-, b2, b3⟩ | ⟨b1, -⟩
    · exact ⟨a3.trans b2.symm, act_same hw a5 a6 b3⟩
    · exact absurd b1 (by decide)
  · have w : whyS vn t k c v = 0 := by
      unfold whyS
      rw [if_pos ⟨a1.1.1, a1.1.2, a1.2.1.1, a1.2.1.2, a1.2.2.1.1, a1.2.2.1.2, a1.2.2.2⟩, if_neg a2, if_neg a3]
    rw [w] at y
    rcases y with ⟨b1, -⟩ | ⟨-, b2⟩
    · exact absurd rfl b1
    · exact act_core h ho hw a4 b2
theorem cut_all {C : Prop} {t k : Int} {p q : (Int → Int) → Int → Int} (h : A_book K F G b f) (ho : op = op2) (hn : vn = mn) (hq : p = q) (hw : A_wait op f vb vn w0)
    (x : (r = -1 ∧ ¬ C ∧ (v1 = vn ∧ w1 = w0)) ∨ (C ∧ r = -2 ∧ cel vn t k 0 = -2000 ∧ (v1 = vn ∧ w1 = w0)) ∨ (C ∧ cel vn t k 0 ≠ -2000 ∧ ActR op r (gaL G (G.2.2.1 (F b 1)) vn (p vn) 0 ((G.1 b 2).toInt).toNat) vn v1 (p vn) w0 w1 (gaL G (G.2.2.1 (F b 1)) vb (p vn) 1 ((G.1 b 2).toInt).toNat)))
    (y : (¬ C ∧ r1 = -1 ∧ m1 = mn) ∨ (C ∧ cel mn t k 0 = -2000 ∧ r1 = -2 ∧ m1 = mn) ∨ (C ∧ cel mn t k 0 ≠ -2000 ∧ StR op2 r1 f mn (q mn) m1)) : r = r1 ∧ v1 = m1 ∧ A_wait op f vb v1 w1 := by
  subst hn hq
  rcases x with ⟨a1, a2, a3, a4⟩ | ⟨a1, a2, a3, a4, a5⟩ | ⟨a1, a2, a3⟩
  · rcases y with ⟨-, b2, b3⟩ | ⟨b1, -⟩ | ⟨b1, -⟩
    · exact ⟨a1.trans b2.symm, act_same hw a3 a4 b3⟩
    · exact absurd b1 a2
    · exact absurd b1 a2
  · rcases y with ⟨b1, -⟩ | ⟨-, -, b2, b3⟩ | ⟨-, b1, -⟩
    · exact absurd a1 b1
    · exact ⟨a2.trans b2.symm, act_same hw a4 a5 b3⟩
    · exact absurd a3 b1
  · rcases y with ⟨b1, -⟩ | ⟨-, b1, -⟩ | ⟨-, -, b2⟩
    · exact absurd a1 b1
    · exact absurd b1 a2
    · exact act_core h ho hw a3 b2
theorem rekey_all {C : Prop} {t k k2 : Int} {p q : (Int → Int) → Int → Int} (h : A_book K F G b f) (ho : op = op2) (hn : vn = mn) (hq : p = q) (hw : A_wait op f vb vn w0)
    (x : (r = -1 ∧ ¬ C ∧ (v1 = vn ∧ w1 = w0)) ∨ (C ∧ r = -2 ∧ cel vn t k 0 = -2000 ∧ (v1 = vn ∧ w1 = w0)) ∨ (C ∧ cel vn t k 0 ≠ -2000 ∧ r = -4 ∧ cel vn t k2 0 ≠ -2000 ∧ (v1 = vn ∧ w1 = w0)) ∨ (C ∧ cel vn t k 0 ≠ -2000 ∧ cel vn t k2 0 = -2000 ∧ ActR op r (gaL G (G.2.2.1 (F b 1)) vn (p vn) 0 ((G.1 b 2).toInt).toNat) vn v1 (p vn) w0 w1 (gaL G (G.2.2.1 (F b 1)) vb (p vn) 1 ((G.1 b 2).toInt).toNat)))
    (y : (¬ C ∧ r1 = -1 ∧ m1 = mn) ∨ (C ∧ cel mn t k 0 = -2000 ∧ r1 = -2 ∧ m1 = mn) ∨ (C ∧ cel mn t k 0 ≠ -2000 ∧ cel mn t k2 0 ≠ -2000 ∧ r1 = -4 ∧ m1 = mn) ∨ (C ∧ cel mn t k 0 ≠ -2000 ∧ cel mn t k2 0 = -2000 ∧ StR op2 r1 f mn (q mn) m1)) : r = r1 ∧ v1 = m1 ∧ A_wait op f vb v1 w1 := by
  subst hn hq
  rcases x with ⟨a1, a2, a3, a4⟩ | ⟨a1, a2, a3, a4, a5⟩ | ⟨a1, a2, a3, a4, a5, a6⟩ | ⟨a1, a2, a3, a4⟩
  · rcases y with ⟨-, b2, b3⟩ | ⟨b1, -⟩ | ⟨b1, -⟩ | ⟨b1, -⟩
    · exact ⟨a1.trans b2.symm, act_same hw a3 a4 b3⟩
    · exact absurd b1 a2
    · exact absurd b1 a2
    · exact absurd b1 a2
  · rcases y with ⟨b1, -⟩ | ⟨-, -, b2, b3⟩ | ⟨-, b1, -⟩ | ⟨-, b1, -⟩
    · exact absurd a1 b1
    · exact ⟨a2.trans b2.symm, act_same hw a4 a5 b3⟩
    · exact absurd a3 b1
    · exact absurd a3 b1
  · rcases y with ⟨b1, -⟩ | ⟨-, b1, -⟩ | ⟨-, -, -, b2, b3⟩ | ⟨-, -, b1, -⟩
    · exact absurd a1 b1
    · exact absurd b1 a2
    · exact ⟨a3.trans b2.symm, act_same hw a5 a6 b3⟩
    · exact absurd b1 a4
  · rcases y with ⟨b1, -⟩ | ⟨-, b1, -⟩ | ⟨-, -, b1, -⟩ | ⟨-, -, -, b2⟩
    · exact absurd a1 b1
    · exact absurd b1 a2
    · exact absurd a3 b1
    · exact act_core h ho hw a4 b2
end ACTS
