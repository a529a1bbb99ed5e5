/-! ===== transactions, marks ===== -/
theorem fuO_nil (f : Nat → Int32) (r : Int → Int) (late : Int) : fuO f r r late = [] := by
  apply List.eq_nil_iff_forall_not_mem.mpr
  intro y hy
  exact (fuO_mem.mp hy).1.2.2.2 rfl
def MKS (K : Nat → Nat) (F : Nat → Nat → Nat) (mr : Nat → Option Nat) : Prop := ∀ i : Nat, i < 8 → ∃ q : Nat, mr i = some q ∧ K q = 8 ∧ F q 99 = 4 + i ∧ K (F q 0) = 20 ∧ F (F q 0) 99 = 4 + i ∧ K (F q 1) = 21 ∧ F (F q 1) 99 = 4 + i
/-- rows at the begin, none, at marks: class and reference -/
def A_tr (F : Nat → Nat → Nat) (mr : Nat → Option Nat) (cb cbb cz czb : Nat → Int32) (cm : Nat → Nat → Int32) (rb rk : Nat → Int32) (op op2 mc mcm : Int) : Prop :=
  (RO (vw cb) (aI cbb) ∧ RM rb 0 ∧ vw cz = v0 ∧ RO (vw cz) (aI czb)) ∧ (0 ≤ mc ∧ mc ≤ 8) ∧ (0 ≤ mcm ∧ mcm ≤ 8) ∧ (∀ i q : Nat, i < 8 → mr i = some q → RO (vw (cm (F q 0))) (aI (cm (F q 1)))) ∧ (∀ i : Int, 0 ≤ i → i < mcm → RM rk (360 * i)) ∧ op = op2 ∧ (op ≠ 0 → vw cb = mw rb 0 ∧ mc = mcm ∧ ∀ i q : Nat, (i : Int) < mc → mr i = some q → vw (cm (F q 0)) = mw rk (360 * (i : Int))) ∧ (op = 0 → mc = 0)
section TRS
variable {F : Nat → Nat → Nat} {mr : Nat → Option Nat} {r9 r8 : Int} {cb cbb cz czb cb1 cbb1 : Nat → Int32} {cm cm1 : Nat → Nat → Int32} {rb rk rb1 rk1 : Nat → Int32} {op op2 mc mcm op1 op3 mc1 mcm1 : Int}
theorem A_tr.cg (h : A_tr F mr cb cbb cz czb cm rb rk op op2 mc mcm) (hm : ∀ i q : Nat, i < 8 → mr i = some q → cm1 (F q 0) = cm (F q 0) ∧ cm1 (F q 1) = cm (F q 1)) : A_tr F mr cb cbb cz czb cm1 rb rk op op2 mc mcm := by
  obtain ⟨h1, h2, h3, h4, h5, h6, h7, h8⟩ := h
  refine ⟨h1, h2, h3, fun i q hi hq => ?_, h5, h6, fun o => ?_, h8⟩
  · rw [(hm i q hi hq).1, (hm i q hi hq).2]; exact h4 i q hi hq
  · obtain ⟨a, b, c⟩ := h7 o
    exact ⟨a, b, fun i q hi hq => by rw [(hm i q (by omega) hq).1]; exact c i q hi hq⟩
theorem tr_begin {cn nb : Nat → Int32} {rn : Nat → Int32} (h : A_tr F mr cb cbb cz czb cm rb rk op op2 mc mcm) (hn : vw cn = mw rn 0)
    (t : (op ≠ 0 ∧ r9 = -3 ∧ op1 = op) ∨ (op = 0 ∧ op1 = 1)) (tb : (op ≠ 0 ∧ vw cb1 = vw cb) ∨ (op = 0 ∧ vw cb1 = vw cn)) (ro : RO (vw cb1) (aI cbb1))
    (t2 : (op2 ≠ 0 ∧ r8 = -3 ∧ op3 = op2 ∧ mcm1 = mcm) ∨ (op2 = 0 ∧ op3 = 1 ∧ mcm1 = 0)) (tb2 : (op2 ≠ 0 ∧ rb1 = rb) ∨ (op2 = 0 ∧ mw rb1 0 = mw rn 0)) (rm : RM rb1 0) : A_tr F mr cb1 cbb1 cz czb cm rb1 rk op1 op3 mc mcm1 ∧ ((op ≠ 0 ∧ op1 = op ∧ vw cb1 = vw cb ∧ r9 = r8) ∨ (op = 0 ∧ op1 ≠ 0 ∧ vw cb1 = vw cn)) := by
  obtain ⟨⟨h1, h1b, h1c, h1d⟩, h2, h3, h4, h5, h6, h7, h8⟩ := h
  subst h6
  rcases t with ⟨a1, a2, a3⟩ | ⟨a1, a2⟩
  · rcases tb with ⟨-, b2⟩ | ⟨b1, -⟩
    · rcases t2 with ⟨-, c2, c3, c4⟩ | ⟨c1, -⟩
      · rcases tb2 with ⟨-, d2⟩ | ⟨d1, -⟩
        · refine ⟨⟨⟨ro, rm, h1c, h1d⟩, h2, by omega, h4, fun i i0 i1 => h5 i i0 (by omega), a3.trans c3.symm, fun _ => ?_, fun o => absurd (a3.symm.trans o) a1⟩, Or.inl ⟨a1, a3, b2, a2.trans c2.symm⟩⟩
          obtain ⟨x1, x2, x3⟩ := h7 a1
          exact ⟨by rw [b2, d2]; exact x1, by omega, x3⟩
        · exact absurd d1 a1
      · exact absurd c1 a1
    · exact absurd b1 a1
  · rcases tb with ⟨b1, -⟩ | ⟨-, b2⟩
    · exact absurd a1 b1
    · rcases t2 with ⟨c1, -⟩ | ⟨-, c2, c3⟩
      · exact absurd a1 c1
      · rcases tb2 with ⟨d1, -⟩ | ⟨-, d2⟩
        · exact absurd a1 d1
        · have hm := h8 a1
          refine ⟨⟨⟨ro, rm, h1c, h1d⟩, h2, by omega, h4, fun i i0 i1 => by omega, a2.trans c2.symm, fun _ => ?_, fun o => by omega⟩, Or.inr ⟨a1, by omega, b2⟩⟩
          exact ⟨by rw [b2, d2]; exact hn, by omega, fun i q hi => by omega⟩
theorem tr_close (h : A_tr F mr cb cbb cz czb cm rb rk op op2 mc mcm) (t : (op = 0 ∧ op1 = op ∧ mc1 = mc) ∨ (op ≠ 0 ∧ op1 = 0 ∧ mc1 = 0)) (t2 : (op2 = 0 ∧ op3 = op2) ∨ (op2 ≠ 0 ∧ op3 = 0)) : A_tr F mr cb cbb cz czb cm rb rk op1 op3 mc1 mcm ∧ op1 = 0 := by
  obtain ⟨h1, h2, h3, h4, h5, h6, h7, h8⟩ := h
  subst h6
  have o1 : op1 = 0 := by omega
  have o3 : op3 = 0 := by omega
  have m1 : mc1 = 0 := by
    rcases t with ⟨a, -, c⟩ | ⟨-, -, c⟩
    · rw [c]; exact h8 a
    · exact c
  exact ⟨⟨h1, by omega, h3, h4, h5, by omega, fun o => absurd o1 o, fun _ => m1⟩, o1⟩
theorem ltF_late (f : Nat → Int32) (r1 r2 : Int → Int) : ltF ((fuO f r1 r2 1).map (tqq f r1 r2)) = (fuO f r1 r2 1).map (tqq f r1 r2) := by
  unfold ltF
  refine List.filter_eq_self.mpr (fun x hx => ?_)
  obtain ⟨y, hy, e⟩ := List.mem_map.mp hx
  subst e
  have h := (fuO_mem.mp hy).2
  exact decide_eq_true (show aI f (10 * y.1 + 6) ≠ 0 by omega)
theorem commit_all {f : Nat → Int32} {vb vn mb mn v1 m1 : Int → Int} {w : List Qt} {r r1 : Int} (ho : op = op2) (hn : vn = mn) (hb : op ≠ 0 → vb = mb) (hw : A_wait op f vb vn w)
    (x : (op = 0 ∧ r = -3 ∧ v1 = vn) ∨ (op ≠ 0 ∧ (((∃ x, x ∈ w ∧ x.2.2.2.2.1 ≠ 0 ∧ x.2.2.2.2.2 ≠ 0) ∧ r = -5 ∧ v1 = vb) ∨ ((∀ x, x ∈ w → x.2.2.2.2.1 ≠ 0 → x.2.2.2.2.2 = 0) ∧ v1 = vn ∧ r = (((ltF w).length : Nat) : Int)))))
    (y : (op2 = 0 ∧ r1 = -3 ∧ m1 = mn) ∨ (op2 ≠ 0 ∧ ((ffP f mn (fuO f mn mb 1) ≠ -1 ∧ r1 = -5 ∧ m1 = mb) ∨ (ffP f mn (fuO f mn mb 1) = -1 ∧ m1 = mn ∧ r1 = (((fuO f mn mb 1).length : Nat) : Int))))) : r = r1 ∧ v1 = m1 := by
  subst ho hn
  rcases x with ⟨a1, a2, a3⟩ | ⟨a1, x⟩
  · rcases y with ⟨-, b2, b3⟩ | ⟨b1, -⟩
    · exact ⟨a2.trans b2.symm, by rw [a3, b3]⟩
    · exact absurd a1 b1
  · have e := hb a1
    subst e
    rw [hw.2 a1] at x
    have lk := commit_link (f := f) (vn := vn) (vb := vb)
    rcases y with ⟨b1, -⟩ | ⟨-, y⟩
    · exact absurd b1 a1
    · rcases x with ⟨c1, c2, c3⟩ | ⟨c1, c2, c4⟩
      · rcases y with ⟨-, d2, d3⟩ | ⟨d1, -⟩
        · exact ⟨c2.trans d2.symm, by rw [c3, d3]⟩
        · exact absurd d1 (lk.mp c1)
      · rcases y with ⟨d1, -⟩ | ⟨-, d2, d4⟩
        · exfalso
          obtain ⟨x, x1, x2, x3⟩ := lk.mpr d1
          exact x3 (c1 x x1 x2)
        · exact ⟨by rw [c4, d4, ltF_late, List.length_map, fuO_comm f vb vn 1], by rw [c2, d2]⟩
theorem abort_r {f : Nat → Int32} {vb vn mb mn : Int → Int} {w : List Qt} {r r1 s : Int} (ho : op = op2) (hn : vn = mn) (hb : op ≠ 0 → vb = mb) (hw : A_wait op f vb vn w) (hl : ((w.length : Nat) : Int) = s) (t : (op = 0 ∧ r = -3) ∨ (op ≠ 0 ∧ r = s)) (t2 : (op2 = 0 ∧ r1 = -3) ∨ op2 ≠ 0) (n2 : op2 = 0 ∨ r1 = (((fuO f mn mb 1).length : Nat) : Int)) : r = r1 := by
  subst ho hn
  rcases t with ⟨a, b⟩ | ⟨a, b⟩
  · rcases t2 with ⟨c, d⟩ | c
    · exact b.trans d.symm
    · exact absurd a c
  · rcases n2 with c | c
    · exact absurd c a
    · rw [c, b, ← hl, hw.2 a, List.length_map, ← hb a, fuO_comm f vb vn 1]
theorem abort_all {vb vn mb mn v1 m1 : Int → Int} (ho : op = op2) (hn : vn = mn) (hb : op ≠ 0 → vb = mb) (x : (op = 0 → v1 = vn) ∧ (op ≠ 0 → v1 = vb)) (y : (op2 = 0 ∧ m1 = mn) ∨ (op2 ≠ 0 ∧ m1 = mb)) : v1 = m1 := by
  subst ho hn
  rcases y with ⟨a, b⟩ | ⟨a, b⟩
  · rw [x.1 a, b]
  · rw [x.2 a, b]; exact hb a
theorem tr_mark {K : Nat → Nat} {xq : Nat} {cn rn : Nat → Int32} {r r1 : Int} (h : A_tr F mr cb cbb cz czb cm rb rk op op2 mc mcm) (hs : MKS K F mr) (hn : vw cn = mw rn 0) (hrm : RM rn 0) (hx : mc < 8 → mr mc.toNat = some xq) (hx8 : ¬ mc < 8 → mr 7 = some xq)
    (hfr : ∀ b : Nat, b ≠ F xq 0 → b ≠ F xq 1 → cm1 b = cm b)
    (t : (op = 0 ∧ r = -3 ∧ mc1 = mc) ∨ (op ≠ 0 ∧ 8 ≤ mc ∧ r = -4 ∧ mc1 = mc) ∨ (op ≠ 0 ∧ mc < 8 ∧ r = mc ∧ mc1 = mc + 1))
    (tk : ((op = 0 ∨ 8 ≤ mc) ∧ cm1 (F xq 0) = cm (F xq 0) ∧ cm1 (F xq 1) = cm (F xq 1)) ∨ ((op ≠ 0 ∧ mc < 8) ∧ vw (cm1 (F xq 0)) = vw cn)) (ro : RO (vw (cm1 (F xq 0))) (aI (cm1 (F xq 1))))
    (t2 : (op2 = 0 ∧ r1 = -3 ∧ mcm1 = mcm) ∨ (op2 ≠ 0 ∧ mcm = 8 ∧ r1 = -4 ∧ mcm1 = mcm) ∨ (op2 ≠ 0 ∧ mcm ≠ 8 ∧ r1 = mcm ∧ mcm1 = mcm + 1))
    (tk2 : ((op2 = 0 ∨ mcm = 8) ∧ rk1 = rk) ∨ ((op2 ≠ 0 ∧ mcm ≠ 8) ∧ CPd rn rk rk1 0 (360 * mcm) 360)) : r = r1 ∧ A_tr F mr cb cbb cz czb cm1 rb rk1 op op2 mc1 mcm1 := by
  obtain ⟨h1, h2, h3, h4, h5, h6, h7, h8⟩ := h
  subst h6
  -- which mark xq is
  obtain ⟨n, hn8, hxn⟩ : ∃ n : Nat, n < 8 ∧ mr n = some xq := by
    by_cases g : mc < 8
    · exact ⟨mc.toNat, by omega, hx g⟩
    · exact ⟨7, by decide, hx8 g⟩
  have num : ∀ i q : Nat, i < 8 → mr i = some q → F (F q 0) 99 = 4 + i ∧ F (F q 1) 99 = 4 + i ∧ K (F q 0) = 20 ∧ K (F q 1) = 21 := by
    intro i q hi hq
    obtain ⟨y, e, -, -, k0, j0, k1, j1⟩ := hs i hi
    rw [hq] at e
    have := Option.some.inj e
    subst this
    exact ⟨j0, j1, k0, k1⟩
  obtain ⟨x1, x2, x3, x4⟩ := num n xq hn8 hxn
  have far : ∀ i q : Nat, i < 8 → i ≠ n → mr i = some q → cm1 (F q 0) = cm (F q 0) ∧ cm1 (F q 1) = cm (F q 1) := by
    intro i q hi hne hq
    obtain ⟨y1, y2, y3, y4⟩ := num i q hi hq
    refine ⟨hfr _ (fun e => ?_) (fun e => ?_), hfr _ (fun e => ?_) (fun e => ?_)⟩
    · rw [e, x1] at y1; omega
    · rw [e, x4] at y3; cases y3
    · rw [e, x3] at y4; cases y4
    · rw [e, x2] at y2; omega
  have ro8 : ∀ i q : Nat, i < 8 → mr i = some q → RO (vw (cm1 (F q 0))) (aI (cm1 (F q 1))) := by
    intro i q hi hq
    by_cases g : i = n
    · subst g
      rw [hxn] at hq
      have := Option.some.inj hq
      subst this
      exact ro
    · obtain ⟨e0, e1⟩ := far i q hi g hq
      rw [e0, e1]
      exact h4 i q hi hq
  have nop : (op = 0 ∨ 8 ≤ mc) → cm1 (F xq 0) = cm (F xq 0) := fun o => by
    rcases tk with ⟨-, e, -⟩ | ⟨a, -⟩
    · exact e
    · omega
  have all0 : (op = 0 ∨ 8 ≤ mc) → ∀ i q : Nat, i < 8 → mr i = some q → cm1 (F q 0) = cm (F q 0) := by
    intro o i q hi hq
    by_cases g : i = n
    · subst g
      rw [hxn] at hq
      have := Option.some.inj hq
      subst this
      exact nop o
    · exact (far i q hi g hq).1
  rcases t with ⟨a1, a2, a3⟩ | ⟨a1, a2, a3, a4⟩ | ⟨a1, a2, a3, a4⟩
  · rcases t2 with ⟨-, b2, b3⟩ | ⟨b1, -⟩ | ⟨b1, -⟩
    · have ek : rk1 = rk := by
        rcases tk2 with ⟨-, e⟩ | ⟨a, -⟩
        · exact e
        · exact absurd a1 a.1
      subst ek
      exact ⟨a2.trans b2.symm, h1, by omega, by omega, ro8, fun i i0 i1 => h5 i i0 (by omega), rfl, fun o => absurd a1 o, fun _ => by rw [a3]; exact h8 a1⟩
    · exact absurd a1 b1
    · exact absurd a1 b1
  · obtain ⟨c1, c2, c3⟩ := h7 a1
    rcases t2 with ⟨b1, -⟩ | ⟨-, b1, b2, b3⟩ | ⟨-, b1, -⟩
    · exact absurd b1 a1
    · have ek : rk1 = rk := by
        rcases tk2 with ⟨-, e⟩ | ⟨a, -⟩
        · exact e
        · exact absurd b1 a.2
      subst ek
      refine ⟨a3.trans b2.symm, h1, by omega, by omega, ro8, fun i i0 i1 => h5 i i0 (by omega), rfl, fun _ => ⟨c1, by omega, fun i q hi hq => ?_⟩, fun o => absurd o a1⟩
      rw [all0 (Or.inr a2) i q (by omega) hq]
      exact c3 i q (by omega) hq
    · omega
  · obtain ⟨c1, c2, c3⟩ := h7 a1
    rcases t2 with ⟨b1, -⟩ | ⟨-, b1, -⟩ | ⟨-, b1, b2, b3⟩
    · exact absurd b1 a1
    · omega
    · have hc : CPd rn rk rk1 0 (360 * mcm) 360 := by
        rcases tk2 with ⟨a, -⟩ | ⟨-, e⟩
        · omega
        · exact e
      have vk : vw (cm1 (F xq 0)) = vw cn := by
        rcases tk with ⟨a, -⟩ | ⟨-, e⟩
        · omega
        · exact e
      have en : n = mc.toNat := by
        have e1 := hx a2
        obtain ⟨y, e2, -, j2, -⟩ := hs n hn8
        obtain ⟨y3, e3, -, j3, -⟩ := hs mc.toNat (by omega)
        rw [hxn] at e2
        rw [e1] at e3
        rw [← Option.some.inj e2] at j2
        rw [← Option.some.inj e3] at j3
        omega
      refine ⟨by omega, h1, by omega, by omega, ro8, fun i i0 i1 => ?_, rfl, fun _ => ⟨c1, by omega, fun i q hi hq => ?_⟩, fun o => absurd o a1⟩
      · by_cases g : i = mcm
        · rw [g]; exact hc.rm (by omega) hrm
        · exact (hc.far (b3 := 360 * i) (by omega) (by omega)).2 (h5 i i0 (by omega))
      · by_cases g : (i : Int) = mc
        · have ei : i = n := by omega
          subst ei
          rw [hxn] at hq
          have := Option.some.inj hq
          subst this
          rw [vk, show (360 * (i : Int)) = 360 * mcm from by omega, hc.vwm (by omega)]
          exact hn
        · rw [(far i q (by omega) (by omega) hq).1, (hc.far (b3 := 360 * (i : Int)) (by omega) (by omega)).1]
          exact c3 i q (by omega) hq
theorem back_all {K : Nat → Nat} {G : XG} {b a8 : Nat} {u : XG} {f : Nat → Int32} {vb v9 vn mn v1 m1 : Int → Int} {p r r1 s1 : Int} {w0 w1 : List Qt} (hs1 : ((w1.length : Nat) : Int) = s1) (hB : A_book K F G b f) (h : A_tr F mr cb cbb cz czb cm rb rk op op2 mc mcm) (hmk : MKS K F mr) (hn : vn = mn) (h9 : v9 = v0) (hb : vb = vw cb) (hw : A_wait op f vb vn w0)
    (x : (op = 0 ∧ r = -3 ∧ (v1 = vn ∧ w1 = w0) ∧ mc1 = mc) ∨ (op ≠ 0 ∧ (p < 0 ∨ mc ≤ p ∨ 8 ≤ p) ∧ r = -2 ∧ (v1 = vn ∧ w1 = w0) ∧ mc1 = mc) ∨ (op ≠ 0 ∧ (0 ≤ p ∧ p < mc ∧ p < 8) ∧ ∃ q : Nat, mr p.toNat = some q ∧ ((ffL (gaL G (G.2.2.1 (F b 1)) v9 (vw (cm (F q 0))) 2 ((G.1 b 2).toInt).toNat) ≠ -1 ∧ r = -5 ∧ (v1 = vn ∧ w1 = w0) ∧ mc1 = mc) ∨ (ffL (gaL G (G.2.2.1 (F b 1)) v9 (vw (cm (F q 0))) 2 ((G.1 b 2).toInt).toNat) = -1 ∧ v1 = vw (cm (F q 0)) ∧ mc1 = p + 1 ∧ r = s1 ∧ w1 = gaL G (G.2.2.1 (F b 1)) vb (vw (cm (F q 0))) 1 ((G.1 b 2).toInt).toNat))))
    (y : (op2 = 0 ∧ r1 = -3 ∧ (m1 = mn ∧ mcm1 = mcm)) ∨ (op2 ≠ 0 ∧ ¬ (0 ≤ p ∧ p < mcm) ∧ r1 = -2 ∧ (m1 = mn ∧ mcm1 = mcm)) ∨ (op2 ≠ 0 ∧ (0 ≤ p ∧ p < mcm) ∧ ((PFl f (mw rk (360 * p)) ∧ r1 = -5 ∧ (m1 = mn ∧ mcm1 = mcm)) ∨ (¬ PFl f (mw rk (360 * p)) ∧ m1 = mw rk (360 * p) ∧ mcm1 = p + 1 ∧ r1 = (((fuO f m1 (mw rb 0) 1).length : Nat) : Int))))) : r = r1 ∧ v1 = m1 ∧ A_wait op f vb v1 w1 ∧ A_tr F mr cb cbb cz czb cm rb rk op op2 mc1 mcm1 := by
  obtain ⟨h1, h2, h3, h4, h5, h6, h7, h8⟩ := h
  subst h6 hn h9
  have hV := hB.2.2.2.2.1
  have keep : mc1 = mc → mcm1 = mcm → A_tr F mr cb cbb cz czb cm rb rk op op mc1 mcm1 := fun e e2 => by
    rw [e, e2]; exact ⟨h1, h2, h3, h4, h5, rfl, h7, h8⟩
  rcases x with ⟨a1, ar, ⟨a3, a4⟩, a5⟩ | ⟨a1, a2, ar, ⟨a3, a4⟩, a5⟩ | ⟨a1, a2, q, hq, x⟩
  · rcases y with ⟨-, br, b1, b2⟩ | ⟨b1, -⟩ | ⟨b1, -⟩
    · obtain ⟨z1, z2⟩ := act_same hw a3 a4 b1
      exact ⟨ar.trans br.symm, z1, z2, keep a5 b2⟩
    · exact absurd a1 b1
    · exact absurd a1 b1
  · obtain ⟨c1, c2, c3⟩ := h7 a1
    rcases y with ⟨b1, -⟩ | ⟨-, -, br, b1, b2⟩ | ⟨-, b1, -⟩
    · exact absurd b1 a1
    · obtain ⟨z1, z2⟩ := act_same hw a3 a4 b1
      exact ⟨ar.trans br.symm, z1, z2, keep a5 b2⟩
    · omega
  · obtain ⟨c1, c2, c3⟩ := h7 a1
    have ep : (((p.toNat : Nat)) : Int) = p := by omega
    have eq := c3 p.toNat q (by omega) hq
    rw [ep] at eq
    rw [gaL_fuO hB.2.2.2.2.2 hB.1 (Or.inr (Or.inr rfl)), lw_2, eq] at x
    have lk := back_link (f := f) (r := mw rk (360 * p)) hV
    rcases y with ⟨b1, -⟩ | ⟨-, b1, -⟩ | ⟨-, -, y⟩
    · exact absurd b1 a1
    · omega
    · rcases x with ⟨d1, dr, ⟨d3, d4⟩, d5⟩ | ⟨d1, d2, d3, dr, d4⟩
      · rcases y with ⟨-, er, e1, e2⟩ | ⟨e1, -⟩
        · obtain ⟨z1, z2⟩ := act_same hw d3 d4 e1
          exact ⟨dr.trans er.symm, z1, z2, keep d5 e2⟩
        · exact absurd (lk.mp d1) e1
      · rcases y with ⟨e1, -⟩ | ⟨-, e2, e3, er⟩
        · exact absurd d1 (lk.mpr e1)
        · have wn := wait_new (u := G) hB a1 d4
          refine ⟨by rw [dr, er, ← hs1, wn.2 a1, List.length_map, e2, ← c1, hb, fuO_comm f _ (vw cb) 1], d2.trans e2.symm, ?_, h1, by omega, by omega, h4, fun i i0 i1 => h5 i i0 (by omega), rfl, fun _ => ⟨c1, by omega, fun i q hi hq => c3 i q (by omega) hq⟩, fun o => absurd o a1⟩
          rw [d2]
          exact wn
end TRS
