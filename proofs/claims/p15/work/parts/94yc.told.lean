/-! ===== what acts leave: class and reference alike ===== -/
theorem up_map {f : Nat → Int32} {r1 p : Int → Int} {sel : Qt → Bool} {P : Int × Int → Bool} : ∀ l : List (Int × Int), (∀ y, y ∈ l → sel (tqq f r1 p y) = P y) → upF sel (l.map (tqq f r1 p)) = (upP f p (l.filter P)).map (tqq f r1 p) ∧ fqF (upF sel (l.map (tqq f r1 p))) = (fpF f p (l.filter P)).map (tqq f r1 p)
  | [], _ => ⟨rfl, rfl⟩
  | y :: l, h => by
    obtain ⟨i1, i2⟩ := up_map l (fun z hz => h z (List.mem_cons_of_mem _ hz))
    have e := h y List.mem_cons_self
    rw [List.map_cons]
    by_cases c : P y = true
    · have hs : sel (tqq f r1 p y) = true := e.trans c
      rw [List.filter_cons_of_pos c]
      by_cases d : fzq f p y.1 y.2 ≠ 0
      · rw [upF_f hs d, (upP_y d).1, (upP_y d).2]
        refine ⟨rfl, ?_⟩
        unfold fqF
        rw [if_pos (show (tqq f r1 p y).2.2.2.2.2 ≠ 0 from d)]
        rfl
      · have d0 : fzq f p y.1 y.2 = 0 := Classical.byContradiction d
        rw [upF_y hs d0, (upP_n d0).1, (upP_n d0).2, i1, List.map_cons]
        refine ⟨rfl, ?_⟩
        rw [← i1]
        unfold fqF
        rw [if_neg (show ¬ (tqq f r1 p y).2.2.2.2.2 ≠ 0 from d)]
        exact i2
    · have hs : ¬ (sel (tqq f r1 p y) = true) := fun q => c (e.symm.trans q)
      rw [List.filter_cons_of_neg c, upF_n hs]
      exact ⟨i1, i2⟩
theorem fus_flt {f : Nat → Int32} {r1 r2 : Int → Int} {w q : Int} (hw : w ≠ 2) : (fus f r1 r2 2 q).filter (fun y => decide (aI f (10 * y.1 + 6) = w)) = fus f r1 r2 w q := by
  have h2 : fus f r1 r2 2 q = (subs (aI f (10 * q + 0))).filterMap (fu1 f r1 r2 q) := if_pos (Or.inl rfl)
  have hm : ∀ y, y ∈ (subs (aI f (10 * q + 0))).filterMap (fu1 f r1 r2 q) → y.1 = q := fun y hy => (fu_mem.mp hy).1
  rw [h2]
  by_cases c : aI f (10 * q + 6) = w
  · have h3 : fus f r1 r2 w q = (subs (aI f (10 * q + 0))).filterMap (fu1 f r1 r2 q) := if_pos (Or.inr c)
    rw [h3]
    refine List.filter_eq_self.mpr (fun y hy => ?_)
    rw [hm y hy]
    exact decide_eq_true c
  · have h3 : fus f r1 r2 w q = [] := if_neg (fun z => z.elim hw c)
    rw [h3]
    refine List.filter_eq_nil_iff.mpr (fun y hy => ?_)
    rw [hm y hy]
    exact fun z => c (of_decide_eq_true z)
theorem fuL_flt {f : Nat → Int32} {r1 r2 : Int → Int} {w : Int} {o : Nat → Nat} (hw : w ≠ 2) : ∀ n : Nat, (fuL f r1 r2 2 o n).filter (fun y => decide (aI f (10 * y.1 + 6) = w)) = fuL f r1 r2 w o n
  | 0 => rfl
  | n + 1 => by rw [fuL_s, fuL_s, List.filter_append, fuL_flt hw n, fus_flt hw]
theorem fuO_flt {f : Nat → Int32} {r1 r2 : Int → Int} {w : Int} (hw : w ≠ 2) : (fuO f r1 r2 2).filter (fun y => decide (aI f (10 * y.1 + 6) = w)) = fuO f r1 r2 w := fuL_flt hw _
theorem fu1_sym (f : Nat → Int32) (r1 r2 : Int → Int) (q s : Int) : fu1 f r1 r2 q s = fu1 f r2 r1 q s := by
  unfold fu1
  by_cases g : stt r1 (aI f (10 * q + 0)) (aI f (10 * q + 1)) (aI f (10 * q + 2)) (aI f (10 * q + 3)) s ≠ stt r2 (aI f (10 * q + 0)) (aI f (10 * q + 1)) (aI f (10 * q + 2)) (aI f (10 * q + 3)) s
  · rw [if_pos g, if_pos g.symm]
  · rw [if_neg g, if_neg (fun z => g z.symm)]
section LKT
variable {G : XG} {b : Nat → Option Nat} {f : Nat → Int32} {r1 p : Int → Int}
theorem up_pr : upF prS ((fuO f r1 p 2).map (tqq f r1 p)) = (upP f p (fuO f r1 p 0)).map (tqq f r1 p) ∧ fqF (upF prS ((fuO f r1 p 2).map (tqq f r1 p))) = (fpF f p (fuO f r1 p 0)).map (tqq f r1 p) := by
  have h := up_map (f := f) (r1 := r1) (p := p) (sel := prS) (P := fun y => decide (aI f (10 * y.1 + 6) = 0)) (fuO f r1 p 2) (fun y _ => rfl)
  rw [fuO_flt (by decide)] at h
  exact h
theorem up_lt (hL : LK G b f) : upF ltS ((fuO f r1 p 2).map (tqq f r1 p)) = (upP f p (fuO f r1 p 1)).map (tqq f r1 p) ∧ fqF (upF ltS ((fuO f r1 p 2).map (tqq f r1 p))) = (fpF f p (fuO f r1 p 1)).map (tqq f r1 p) := by
  have h := up_map (f := f) (r1 := r1) (p := p) (sel := ltS) (P := fun y => decide (aI f (10 * y.1 + 6) = 1)) (fuO f r1 p 2) (fun y hy => by
    have h01 := hL.l01 (fuO_mem.mp hy).1
    show decide (aI f (10 * y.1 + 6) ≠ 0) = decide (aI f (10 * y.1 + 6) = 1)
    rcases h01 with e | e <;> rw [e] <;> rfl)
  rw [fuO_flt (by decide)] at h
  exact h
theorem up_l1 (hL : LK G b f) : upF ltS ((fuO f r1 p 1).map (tqq f r1 p)) = (upP f p (fuO f r1 p 1)).map (tqq f r1 p) ∧ fqF (upF ltS ((fuO f r1 p 1).map (tqq f r1 p))) = (fpF f p (fuO f r1 p 1)).map (tqq f r1 p) := by
  have h := up_map (f := f) (r1 := r1) (p := p) (sel := ltS) (P := fun _ => true) (fuO f r1 p 1) (fun y hy => by
    have e := ((fuO_two (by decide)).mp hy).2
    show decide (aI f (10 * y.1 + 6) ≠ 0) = true
    rw [e]
    rfl)
  rw [List.filter_eq_self.mpr (fun _ _ => rfl)] at h
  exact h
theorem ask_up (l : List (Int × Int)) (hl : ((((upP f p l).map (tqq f r1 p)).length : Nat) : Int) ≤ 1080) : ASKd ((upP f p l).map (tqq f r1 p)) (upP f p l) (ffP f p l) := by
  refine ⟨?_, fun j x hx => ?_, hl⟩
  · rw [List.map_map]
    exact List.map_id'' (fun _ => rfl) _
  · rw [List.getElem?_map] at hx
    cases hy : (upP f p l)[j]? with
    | none => rw [hy] at hx; cases hx
    | some y =>
      rw [hy] at hx
      cases hx
      exact up_idx l j y hy
theorem opm (o : Option (Int × Int)) : isN (o.map (tqq f r1 p)) = isNm o ∧ isS (o.map (tqq f r1 p)) = isSm o := by
  cases o <;> exact ⟨rfl, rfl⟩
theorem smP_flt {g : Int × Int → Int} {P : Int × Int → Bool} : ∀ l : List (Int × Int), (∀ y, y ∈ l → P y = false → g y = 0) → smP g l = smP g (l.filter P)
  | [], _ => rfl
  | y :: l, h => by
    have i := smP_flt l (fun z hz => h z (List.mem_cons_of_mem _ hz))
    cases c : P y with
    | true =>
      rw [List.filter_cons_of_pos c]
      show g y + smP g l = g y + smP g (l.filter P)
      rw [i]
    | false =>
      rw [List.filter_cons_of_neg (by rw [c]; exact Bool.false_ne_true)]
      show g y + smP g l = smP g (l.filter P)
      rw [h y List.mem_cons_self c, i, Int.zero_add]
noncomputable def SQ (f : Nat → Int32) (v : Int → Int) (y : Int × Int) : Int := stt v (aI f (10 * y.1 + 0)) (aI f (10 * y.1 + 1)) (aI f (10 * y.1 + 2)) (aI f (10 * y.1 + 3)) y.2
theorem cm_at {vb : Int → Int} (hL : LK G b f) {y : Int × Int} (hy : y ∈ fuO f r1 p 2) : cmQ G b vb (tqq f r1 p y) = (if aI f (10 * y.1 + 6) = 1 ∧ SQ f r1 y = SQ f vb y then 1 else 0) ∧ lfQ G b vb (tqq f r1 p y) = (if aI f (10 * y.1 + 6) = 1 ∧ SQ f r1 y ≠ SQ f vb y ∧ SQ f p y = SQ f vb y then 1 else 0) := by
  obtain ⟨h0, hk, hs, -⟩ := (fuO_mem.mp hy).1
  have h01 := hL.l01 (fuO_mem.mp hy).1
  rcases hL.nat h0 with ⟨-, c⟩ | ⟨q, a, -, c⟩
  · exact absurd c hk
  · obtain ⟨c0, -, c2, c3, c4, -, -, -, -, c9, -⟩ := c
    have st : ∀ v : Int → Int, stt v (G.1 q 0).toInt (G.1 q 2).toInt (G.1 q 3).toInt (G.1 q 4).toInt y.2 = SQ f v y := fun v => by
      rw [c0, c2, c3, c4]
      rfl
    by_cases l1 : aI f (10 * y.1 + 6) = 1
    · have hl : (G.1 q 9).toInt ≠ 0 := by rw [c9, l1]; decide
      have k := cmQ_y (G := G) (b := b) (v := vb) (x := tqq f r1 p y) (z := y.1) (s := y.2) (y := SQ f r1 y) (w := SQ f p y) rfl h0 a hl rfl rfl rfl (st vb).symm
      by_cases e1 : SQ f r1 y = SQ f vb y
      · rw [(k.1 e1).1, (k.1 e1).2, if_pos ⟨l1, e1⟩, if_neg (fun z => z.2.1 e1)]
        exact ⟨rfl, rfl⟩
      · by_cases e2 : SQ f p y = SQ f vb y
        · rw [(k.2.1 e1 e2).1, (k.2.1 e1 e2).2, if_neg (fun z => e1 z.2), if_pos ⟨l1, e1, e2⟩]
          exact ⟨rfl, rfl⟩
        · rw [(k.2.2 e1 e2).1, (k.2.2 e1 e2).2, if_neg (fun z => e1 z.2), if_neg (fun z => e2 z.2.2)]
          exact ⟨rfl, rfl⟩
    · have hl : (G.1 q 9).toInt = 0 := by rw [c9]; exact h01.elim id (fun e => absurd e l1)
      have k := cmQ_l (G := G) (b := b) (v := vb) (x := tqq f r1 p y) (z := y.1) rfl h0 a hl
      rw [k.1, k.2, if_neg (fun z => l1 z.1), if_neg (fun z => l1 z.1)]
      exact ⟨rfl, rfl⟩
theorem cm_sum {vb : Int → Int} (hL : LK G b f) : smQ (cmQ G b vb) ((fuO f r1 p 2).map (tqq f r1 p)) = frA f r1 vb p 1 12 ∧ smQ (lfQ G b vb) ((fuO f r1 p 2).map (tqq f r1 p)) = frA f p vb r1 1 12 := by
  constructor
  · have a1 : smP (fun y => cmQ G b vb (tqq f r1 p y)) (fuO f r1 p 2) = smP (fun y : Int × Int => if aI f (10 * y.1 + 6) = 1 ∧ SQ f r1 y = SQ f vb y then (1 : Int) else 0) (fuO f r1 p 2) := smP_congr _ (fun y hy => (cm_at (vb := vb) hL hy).1)
    have a2 : smP (fun y : Int × Int => if aI f (10 * y.1 + 6) = 1 ∧ SQ f r1 y = SQ f vb y then (1 : Int) else 0) (fuO f r1 p 2) = smP (fun y : Int × Int => if aI f (10 * y.1 + 6) = 1 ∧ SQ f r1 y = SQ f vb y then (1 : Int) else 0) ((fuO f r1 p 2).filter (fun y => decide (aI f (10 * y.1 + 6) = 1))) := smP_flt _ (fun y _ h => if_neg (fun z => absurd z.1 (of_decide_eq_false h)))
    rw [fuO_flt (by decide)] at a2
    rw [smQ_map]
    refine a1.trans (a2.trans ?_)
    refine (smP_congr _ (fun y hy => ?_)).trans (smP_fuO (r1 := r1) (r2 := p) (mn := r1) (mb := vb) (mk := p) (w := 1) (fun y => if SQ f r1 y = SQ f vb y then 1 else 0) (fun q s => ?_))
    · have e := ((fuO_two (by decide)).mp hy).2
      by_cases c : SQ f r1 y = SQ f vb y
      · rw [if_pos ⟨e, c⟩, if_pos c]
      · rw [if_neg (fun z => c z.2), if_neg c]
    · have k := (frI_st f r1 vb p 1 q s).2 (by decide)
      unfold fu1
      by_cases g : stt r1 (aI f (10 * q + 0)) (aI f (10 * q + 1)) (aI f (10 * q + 2)) (aI f (10 * q + 3)) s ≠ stt p (aI f (10 * q + 0)) (aI f (10 * q + 1)) (aI f (10 * q + 2)) (aI f (10 * q + 3)) s
      · rw [if_pos g]
        show (if SQ f r1 (q, s) = SQ f vb (q, s) then (1 : Int) else 0) = _
        by_cases c : SQ f r1 (q, s) = SQ f vb (q, s)
        · rw [if_pos c, k.1 ⟨c, fun z => g ((show SQ f r1 (q, s) = _ from c).trans z.symm)⟩]
        · rw [if_neg c, k.2 (fun z => c z.1)]
      · rw [if_neg g]
        show (0 : Int) = _
        exact (k.2 (fun z => z.2 ((Classical.byContradiction g : _ = _).symm.trans z.1))).symm
  · have a1 : smP (fun y => lfQ G b vb (tqq f r1 p y)) (fuO f r1 p 2) = smP (fun y : Int × Int => if aI f (10 * y.1 + 6) = 1 ∧ SQ f r1 y ≠ SQ f vb y ∧ SQ f p y = SQ f vb y then (1 : Int) else 0) (fuO f r1 p 2) := smP_congr _ (fun y hy => (cm_at (vb := vb) hL hy).2)
    have a2 : smP (fun y : Int × Int => if aI f (10 * y.1 + 6) = 1 ∧ SQ f r1 y ≠ SQ f vb y ∧ SQ f p y = SQ f vb y then (1 : Int) else 0) (fuO f r1 p 2) = smP (fun y : Int × Int => if aI f (10 * y.1 + 6) = 1 ∧ SQ f r1 y ≠ SQ f vb y ∧ SQ f p y = SQ f vb y then (1 : Int) else 0) ((fuO f r1 p 2).filter (fun y => decide (aI f (10 * y.1 + 6) = 1))) := smP_flt _ (fun y _ h => if_neg (fun z => absurd z.1 (of_decide_eq_false h)))
    rw [fuO_flt (by decide)] at a2
    rw [smQ_map]
    refine a1.trans (a2.trans ?_)
    refine (smP_congr _ (fun y hy => ?_)).trans (smP_fuO (r1 := r1) (r2 := p) (mn := p) (mb := vb) (mk := r1) (w := 1) (fun y => if SQ f r1 y ≠ SQ f vb y ∧ SQ f p y = SQ f vb y then 1 else 0) (fun q s => ?_))
    · have e := ((fuO_two (by decide)).mp hy).2
      by_cases c : SQ f r1 y ≠ SQ f vb y ∧ SQ f p y = SQ f vb y
      · rw [if_pos ⟨e, c⟩, if_pos c]
      · rw [if_neg (fun z => c z.2), if_neg c]
    · have k := (frI_st f p vb r1 1 q s).2 (by decide)
      unfold fu1
      by_cases g : stt r1 (aI f (10 * q + 0)) (aI f (10 * q + 1)) (aI f (10 * q + 2)) (aI f (10 * q + 3)) s ≠ stt p (aI f (10 * q + 0)) (aI f (10 * q + 1)) (aI f (10 * q + 2)) (aI f (10 * q + 3)) s
      · rw [if_pos g]
        show (if SQ f r1 (q, s) ≠ SQ f vb (q, s) ∧ SQ f p (q, s) = SQ f vb (q, s) then (1 : Int) else 0) = _
        by_cases c : SQ f r1 (q, s) ≠ SQ f vb (q, s) ∧ SQ f p (q, s) = SQ f vb (q, s)
        · rw [if_pos c, k.1 ⟨c.2, c.1⟩]
        · rw [if_neg c, k.2 (fun z => c ⟨z.2, z.1⟩)]
      · rw [if_neg g]
        show (0 : Int) = _
        exact (k.2 (fun z => z.2 ((Classical.byContradiction g : _ = _).trans z.1))).symm
theorem ac_link (hL : LK G b f) (op : Int) (w0 w1 : List Qt) (l0 l1 : List (Int × Int)) (a0 a1 : Int) : acV op ((fuO f r1 p 2).map (tqq f r1 p)) = (acVM op f r1 p).map (tqq f r1 p) ∧ acK op ((fuO f r1 p 2).map (tqq f r1 p)) = acKM op f r1 p ∧ acC op ((fuO f r1 p 2).map (tqq f r1 p)) = acCM op f r1 p ∧ acB op ((fuO f r1 p 2).map (tqq f r1 p)) = acBM op f r1 p ∧ (∀ z, acI op ((fuO f r1 p 2).map (tqq f r1 p)) z = acIM op f r1 p z) ∧ acJ op ((fuO f r1 p 2).map (tqq f r1 p)) = acJM op f r1 p ∧ (ASKd w0 l0 a0 → acA op ((fuO f r1 p 2).map (tqq f r1 p)) w0 w1 → acAM op f r1 p l0 l1 a0 a1 → ASKd w1 l1 a1) := by
  obtain ⟨p1, p2⟩ := up_pr (f := f) (r1 := r1) (p := p)
  obtain ⟨t1, t2⟩ := up_lt (r1 := r1) (p := p) hL
  cases hf : fpF f p (fuO f r1 p 0) with
  | some y =>
    rw [hf] at p2
    have k := ac_s (x := tqq f r1 p y) p2 op w0 w1
    have m := am_s hf op
    have i := ai_s (x := tqq f r1 p y) p2 op
    refine ⟨by rw [k.1, m.1]; rfl, by rw [k.2.1, m.2.1, p1, List.length_map], by rw [k.2.2.1, m.2.2.1], by rw [k.2.2.2.1, m.2.2.2.1], fun z => by rw [i.1, m.2.2.2.2.1], by rw [i.2, m.2.2.2.2.2.1], fun h ha hm => ?_⟩
    unfold acA at ha
    unfold acAM at hm
    rw [p2] at ha
    rw [hf] at hm
    have ha : w1 = w0 := ha
    have hm : l1 = l0 ∧ a1 = a0 := hm
    rw [ha, hm.1, hm.2]
    exact h
  | none =>
    rw [hf] at p2
    have p2 : fqF (upF prS ((fuO f r1 p 2).map (tqq f r1 p))) = none := p2
    by_cases ho : op = 0
    · have k := ac_o p2 ho w0 w1
      have m := am_o hf ho
      have i := ai_o p2 ho
      have oo := opm (f := f) (r1 := r1) (p := p) (fpF f p (fuO f r1 p 1))
      refine ⟨by rw [k.1, m.1, t2], by rw [k.2.1, m.2.1, p1, t1, List.length_map, List.length_map], by rw [k.2.2.1, m.2.2.1, t2, oo.1], by rw [k.2.2.2.1, m.2.2.2.1, t2, oo.2], fun z => by rw [i.1, m.2.2.2.2.1], by rw [i.2, m.2.2.2.2.2.1], fun h ha hm => ?_⟩
      unfold acA at ha
      unfold acAM at hm
      rw [p2] at ha
      rw [hf] at hm
      dsimp only at ha hm
      rw [if_pos ho] at ha hm
      have hl := upF_len (sel := ltS) ((fuO f r1 p 2).map (tqq f r1 p))
      rw [ha.1, hm.1, hm.2, t1]
      rw [t1] at hl
      exact ask_up _ (by have := ha.2; omega)
    · have k := ac_n p2 ho w0 w1
      have m := am_n hf ho
      have i := ai_n p2 ho
      refine ⟨by rw [k.1, m.1]; rfl, by rw [k.2.1, m.2.1, p1, List.length_map], by rw [k.2.2.1, m.2.2.1], by rw [k.2.2.2.1, m.2.2.2.1], fun z => by rw [i.1, m.2.2.2.2.1], by rw [i.2, m.2.2.2.2.2.1], fun h ha hm => ?_⟩
      unfold acA at ha
      unfold acAM at hm
      rw [p2] at ha
      rw [hf] at hm
      dsimp only at ha hm
      rw [if_neg ho] at ha hm
      rw [ha, hm.1, hm.2]
      exact h
end LKT
theorem act_told {K : Nat → Nat} {F : Nat → Nat → Nat} {G u u2 : XG} {b v a : Nat} {f : Nat → Int32} {go go2 : Prop} {op op2 : Int} {L w0 w1 : List Qt} {l0 l1 : List (Int × Int)} {a0 a1 cm lf : Int} {r1 p p2 vb : Int → Int} {sf sf1 si si1 mf mf1 mi mi1 : Nat → Int32} (h : A_book K F G b f) (ho : op = op2) (hg : go ↔ go2) (hp : p = p2)
    (hL : L = gaL G (G.2.2.1 (F b 1)) r1 p 0 ((G.1 b 2).toInt).toNat) (hc : op ≠ 0 → cm = smQ (cmQ G (G.2.2.1 (F b 0)) vb) L ∧ lf = smQ (lfQ G (G.2.2.1 (F b 0)) vb) L)
    (x : ActT go op L w0 w1 u v sf sf1 si si1 cm lf) (y : ActMT go2 op2 f r1 p2 vb l0 l1 a0 a1 u2 a mf mf1 mi mi1) (hA : ASKd w0 l0 a0) (hf : CNTe 4 sf mf) (hi : CNTe 6 si mi) : ASKd w1 l1 a1 ∧ CNTe 4 sf1 mf1 ∧ CNTe 6 si1 mi1 := by
  subst ho hp
  have hLL : L = (fuO f r1 p 2).map (tqq f r1 p) := by rw [hL, gaL_fuO h.2.2.2.2.2 h.1 (Or.inl rfl), lw_0]
  rcases x with ⟨n, e1, -, e3, e4⟩ | ⟨n, e1, -, e3, e4⟩
  · rcases y with ⟨-, ⟨d1, d2⟩, -, d3, d4⟩ | ⟨m, -⟩
    · rw [e1, d1, d2]
      exact ⟨hA, e3.eq d3 hf, e4.eq d4 hi⟩
    · exact absurd (hg.mpr m) n
  · rcases y with ⟨m, -⟩ | ⟨-, d1, -, d3, d4⟩
    · exact absurd (hg.mp n) m
    · have k := ac_link (r1 := r1) (p := p) h.2.2.2.2.2 op w0 w1 l0 l1 a0 a1
      rw [hLL] at e1 e3 e4
      obtain ⟨-, k1, k2, k3, k4, k5, k6⟩ := k
      rw [k1, k2, k3] at e3
      rw [k4, k4, k4, k5] at e4
      refine ⟨k6 hA e1 d1, e3.eq d3 hf, ?_⟩
      by_cases o : op = 0
      · have z : ∀ x y : Int, acIM op f r1 p x = acIM op f r1 p y := fun x y => by
          unfold acIM
          cases fpF f p (fuO f r1 p 0) with
          | some _ => rfl
          | none => exact (if_pos o).trans (if_pos o).symm
        exact SI.eq (e4.cg (z _ _) (z _ _) rfl rfl rfl rfl) d4 hi
      · obtain ⟨c1, c2⟩ := hc o
        have s := cm_sum (G := G) (b := G.2.2.1 (F b 0)) (f := f) (r1 := r1) (p := p) (vb := vb) h.2.2.2.2.2
        rw [hLL] at c1 c2
        rw [s.1] at c1
        rw [s.2] at c2
        rw [c1, c2] at e4
        exact e4.eq d4 hi
theorem commit_told {K : Nat → Nat} {F : Nat → Nat → Nat} {G : XG} {b v a : Nat} {u u2 : XG} {f : Nat → Int32} {op op2 a0 a1 : Int} {w0 w1 W : List Qt} {l0 l1 : List (Int × Int)} {vn vb mb : Int → Int} {sf sf1 mf mf1 : Nat → Int32} (h : A_book K F G b f) (ho : op = op2) (hb : op ≠ 0 → vb = mb) (hW : A_wait op f vb vn W) (hz : ((W.length : Nat) : Int) ≤ 1080)
    (x : (op = 0 ∧ w1 = w0 ∧ (u.1 v 1).toInt = 0 ∧ SF sf sf1 0 0 0 0) ∨ (op ≠ 0 ∧ w1 = upF ltS W ∧ TV0 u v (fqF (upF ltS W)) ∧ SF sf sf1 ((((upF ltS W).length : Nat)) : Int) (isN (fqF (upF ltS W))) (isS (fqF (upF ltS W))) 0))
    (y : (op2 = 0 ∧ (l1 = l0 ∧ a1 = a0) ∧ TM u2 a none ∧ SF mf mf1 0 0 0 0) ∨ (op2 ≠ 0 ∧ (l1 = upP f vn (fuO f vn mb 1) ∧ a1 = ffP f vn (fuO f vn mb 1)) ∧ TM u2 a (fpF f vn (fuO f vn mb 1)) ∧ SF mf mf1 (((upP f vn (fuO f vn mb 1)).length : Nat) : Int) (isNm (fpF f vn (fuO f vn mb 1))) (isSm (fpF f vn (fuO f vn mb 1))) 0))
    (hA : ASKd w0 l0 a0) (hf : CNTe 4 sf mf) : ASKd w1 l1 a1 ∧ CNTe 4 sf1 mf1 := by
  subst ho
  rcases x with ⟨n, e1, -, e2⟩ | ⟨n, e1, -, e2⟩
  · rcases y with ⟨-, ⟨d1, d2⟩, -, d3⟩ | ⟨m, -⟩
    · rw [e1, d1, d2]
      exact ⟨hA, e2.eq d3 hf⟩
    · exact absurd n m
  · rcases y with ⟨m, -⟩ | ⟨-, ⟨d1, d2⟩, -, d3⟩
    · exact absurd m n
    · have hb := hb n
      subst hb
      have hl := upF_len (sel := ltS) W
      rw [hW.2 n] at e1 e2 hl hz
      obtain ⟨t1, t2⟩ := up_l1 (r1 := vb) (p := vn) h.2.2.2.2.2
      rw [fuO_comm f vn vb 1] at d1 d2 d3
      have oo := opm (f := f) (r1 := vb) (p := vn) (fpF f vn (fuO f vb vn 1))
      rw [t2, oo.1, oo.2, t1, List.length_map] at e2
      rw [t1] at hl
      rw [e1, t1, d1, d2]
      exact ⟨ask_up _ (by omega), e2.eq d3 hf⟩
theorem later_told {K : Nat → Nat} {F : Nat → Nat → Nat} {G : XG} {b v a xq : Nat} {u u2 : XG} {f : Nat → Int32} {op op2 p p1 r r1 : Int} {W : List Qt} {vn vb mb : Int → Int} {sf sf1 mf mf1 si si1 mi mi1 : Nat → Int32} (h : A_book K F G b f) (ho : op = op2) (hr : r = r1) (hb : op ≠ 0 → vb = mb) (hW : A_wait op f vb vn W)
    (x : ((((p < 0 ∨ 12 ≤ p) ∨ G.2.2.1 (F b 0) p.toNat = none) ∨ (((0 ≤ p ∧ p < 12) ∧ G.2.2.1 (F b 0) p.toNat = some xq) ∧ (G.1 xq 9).toInt = p1)) ∧ (u.1 v 1).toInt = 0 ∧ SF sf sf1 0 0 0 0 ∧ SI si si1 0 0 0 0 0 0) ∨ (((0 ≤ p ∧ p < 12) ∧ G.2.2.1 (F b 0) p.toNat = some xq) ∧ (G.1 xq 9).toInt ≠ p1 ∧ p1 ≠ 0 ∧ (u.1 v 1).toInt = 0 ∧ SF sf sf1 0 0 0 0 ∧ SI si si1 r 0 0 0 0 0) ∨ (((0 ≤ p ∧ p < 12) ∧ G.2.2.1 (F b 0) p.toNat = some xq) ∧ (G.1 xq 9).toInt ≠ p1 ∧ p1 = 0 ∧ TV0 u v (fqF (upF (ruS (G.1 xq 1).toInt) W)) ∧ SF sf sf1 ((((upF (ruS (G.1 xq 1).toInt) W).length : Nat)) : Int) 0 0 0 ∧ SI si si1 0 0 0 0 0 0))
    (y : ((¬ (0 ≤ p ∧ p ≤ 11 ∧ aI f (10 * p + 0) ≠ -1) ∨ ((0 ≤ p ∧ p ≤ 11 ∧ aI f (10 * p + 0) ≠ -1) ∧ aI f (10 * p + 6) = p1)) ∧ TM u2 a none ∧ SF mf mf1 0 0 0 0 ∧ SI mi mi1 0 0 0 0 0 0) ∨ ((0 ≤ p ∧ p ≤ 11 ∧ aI f (10 * p + 0) ≠ -1) ∧ aI f (10 * p + 6) ≠ p1 ∧ p1 = 1 ∧ TM u2 a none ∧ SF mf mf1 0 0 0 0 ∧ SI mi mi1 r1 0 0 0 0 0) ∨ ((0 ≤ p ∧ p ≤ 11 ∧ aI f (10 * p + 0) ≠ -1) ∧ aI f (10 * p + 6) ≠ p1 ∧ p1 = 0 ∧ TM u2 a (fpF f vn ((if op2 = 0 then [] else fuO f vn mb 1).filter (fun y => decide (y.1 = p)))) ∧ SF mf mf1 (((upP f vn ((if op2 = 0 then [] else fuO f vn mb 1).filter (fun y => decide (y.1 = p)))).length : Nat) : Int) 0 0 0 ∧ SI mi mi1 0 0 0 0 0 0))
    (hf : CNTe 4 sf mf) (hi : CNTe 6 si mi) : CNTe 4 sf1 mf1 ∧ CNTe 6 si1 mi1 := by
  subst ho hr
  have hL := h.2.2.2.2.2
  have isx : ((0 ≤ p ∧ p < 12) ∧ G.2.2.1 (F b 0) p.toNat = some xq) → (0 ≤ p ∧ p ≤ 11 ∧ aI f (10 * p + 0) ≠ -1) ∧ (G.1 xq 1).toInt = p ∧ (G.1 xq 9).toInt = aI f (10 * p + 6) := by
    rintro ⟨hp, hx⟩
    rcases hL.nat hp with ⟨c, -⟩ | ⟨y, c, d, e⟩
    · rw [hx] at c; cases c
    · rw [hx] at c
      have := Option.some.inj c
      subst this
      exact ⟨⟨by omega, by omega, d⟩, e.2.1, e.2.2.2.2.2.2.2.2.2.1⟩
  have isy : (0 ≤ p ∧ p ≤ 11 ∧ aI f (10 * p + 0) ≠ -1) → ¬ ((p < 0 ∨ 12 ≤ p) ∨ G.2.2.1 (F b 0) p.toNat = none) := by
    rintro ⟨h0, h1, h2⟩ q
    rcases hL.nat (r := p) (by omega) with ⟨-, c⟩ | ⟨y, c, -, -⟩
    · exact h2 c
    · rcases q with q | q
      · omega
      · rw [q] at c; cases c
  rcases x with ⟨c, -, e1, e2⟩ | ⟨c, c1, c2, -, e1, e2⟩ | ⟨c, c1, c2, -, e1, e2⟩
  · rcases y with ⟨-, -, d1, d2⟩ | ⟨d, d1, -⟩ | ⟨d, d1, -⟩
    · exact ⟨e1.eq d1 hf, e2.eq d2 hi⟩
    · exfalso
      rcases c with c | ⟨c, c3⟩
      · exact isy d c
      · exact d1 ((isx c).2.2.symm.trans c3)
    · exfalso
      rcases c with c | ⟨c, c3⟩
      · exact isy d c
      · exact d1 ((isx c).2.2.symm.trans c3)
  · obtain ⟨k1, k2, k3⟩ := isx c
    rcases y with ⟨d, -⟩ | ⟨-, -, -, -, d1, d2⟩ | ⟨-, -, d, -⟩
    · exfalso
      rcases d with d | d
      · exact d k1
      · exact c1 (k3.trans d.2)
    · exact ⟨e1.eq d1 hf, e2.eq d2 hi⟩
    · exact absurd d c2
  · obtain ⟨k1, k2, k3⟩ := isx c
    rcases y with ⟨d, -⟩ | ⟨-, -, d, -⟩ | ⟨-, -, -, -, d1, d2⟩
    · exfalso
      rcases d with d | d
      · exact d k1
      · exact c1 (k3.trans d.2)
    · omega
    · refine ⟨?_, e2.eq d2 hi⟩
      have hw : W = (if op = 0 then [] else fuO f vn mb 1).map (tqq f vb vn) := by
        by_cases o : op = 0
        · rw [hW.1 o, if_pos o]; rfl
        · rw [hW.2 o, if_neg o, fuO_comm f vn mb 1, hb o]
      have m := (up_map (f := f) (r1 := vb) (p := vn) (sel := ruS (G.1 xq 1).toInt) (P := fun y => decide (y.1 = p)) (if op = 0 then [] else fuO f vn mb 1) (fun y _ => by rw [k2]; rfl)).1
      rw [hw, m, List.length_map] at e1
      exact e1.eq d1 hf
theorem fqF_map {f : Nat → Int32} {r1 p : Int → Int} : ∀ l : List (Int × Int), fqF (l.map (tqq f r1 p)) = (fpF f p l).map (tqq f r1 p)
  | [] => rfl
  | y :: l => by
    rw [List.map_cons]
    unfold fqF
    by_cases c : fzq f p y.1 y.2 ≠ 0
    · rw [(upP_y c).2, if_pos (show (tqq f r1 p y).2.2.2.2.2 ≠ 0 from c)]
      rfl
    · rw [(upP_n (Classical.byContradiction c)).2, if_neg (show ¬ (tqq f r1 p y).2.2.2.2.2 ≠ 0 from c)]
      exact fqF_map l
theorem cm_sum1 {G : XG} {b : Nat → Option Nat} {f : Nat → Int32} {r1 p vb : Int → Int} (hL : LK G b f) : smQ (cmQ G b vb) ((fuO f r1 p 1).map (tqq f r1 p)) = frA f r1 vb p 1 12 ∧ smQ (lfQ G b vb) ((fuO f r1 p 1).map (tqq f r1 p)) = frA f p vb r1 1 12 := by
  obtain ⟨s1, s2⟩ := cm_sum (r1 := r1) (p := p) (vb := vb) hL
  have z1 : ∀ y, y ∈ fuO f r1 p 2 → (fun y : Int × Int => decide (aI f (10 * y.1 + 6) = 1)) y = false → cmQ G b vb (tqq f r1 p y) = 0 ∧ lfQ G b vb (tqq f r1 p y) = 0 := fun y hy q => by
    have k := cm_at (vb := vb) hL hy
    rw [k.1, k.2, if_neg (fun z => absurd z.1 (of_decide_eq_false q)), if_neg (fun z => absurd z.1 (of_decide_eq_false q))]
    exact ⟨rfl, rfl⟩
  rw [smQ_map, smP_flt (P := fun y => decide (aI f (10 * y.1 + 6) = 1)) _ (fun y hy q => (z1 y hy q).1), fuO_flt (by decide)] at s1
  rw [smQ_map, smP_flt (P := fun y => decide (aI f (10 * y.1 + 6) = 1)) _ (fun y hy q => (z1 y hy q).2), fuO_flt (by decide)] at s2
  rw [smQ_map, smQ_map]
  exact ⟨s1, s2⟩
theorem ffL_fq {l : List Qt} : fqF l = none ↔ ffL l = -1 := by
  constructor
  · intro h
    apply Classical.byContradiction
    intro q
    obtain ⟨x, hx, h2⟩ := ffL_yes q
    exact h2 (fqF_n h x hx)
  · exact fun h => fqF_no (ffL_no h)
theorem back_told {K : Nat → Nat} {F : Nat → Nat → Nat} {G : XG} {b v : Nat} {u : XG} {f : Nat → Int32} {op op2 p mc mcm : Int} {mr : Nat → Option Nat} {cm : Nat → Nat → Int32} {rk : Nat → Int32} {vn vb mb vz : Int → Int} {si si1 mi mi1 : Nat → Int32} (h : A_book K F G b f) (ho : op = op2) (hb : op ≠ 0 → vb = mb) (hz : vz = v0) (hm : op ≠ 0 → mc = mcm ∧ ∀ i q : Nat, (i : Int) < mc → mr i = some q → vw (cm (F q 0)) = mw rk (360 * (i : Int))) (hmc : 0 ≤ mc ∧ mc ≤ 8)
    (x : ((op = 0 ∨ p < 0 ∨ mc ≤ p ∨ 8 ≤ p) ∧ (u.1 v 1).toInt = 0 ∧ SI si si1 0 0 0 0 0 0) ∨ (op ≠ 0 ∧ (0 ≤ p ∧ p < mc ∧ p < 8) ∧ ∃ q : Nat, mr p.toNat = some q ∧ TV0 u v (fqF (gaL G (G.2.2.1 (F b 1)) vz (vw (cm (F q 0))) 2 ((G.1 b 2).toInt).toNat)) ∧ ((fqF (gaL G (G.2.2.1 (F b 1)) vz (vw (cm (F q 0))) 2 ((G.1 b 2).toInt).toNat) ≠ none ∧ SI si si1 0 0 0 0 0 0) ∨ (fqF (gaL G (G.2.2.1 (F b 1)) vz (vw (cm (F q 0))) 2 ((G.1 b 2).toInt).toNat) = none ∧ SI si si1 0 0 (smQ (lfQ G (G.2.2.1 (F b 0)) vb) (gaL G (G.2.2.1 (F b 1)) vn (vw (cm (F q 0))) 1 ((G.1 b 2).toInt).toNat)) (smQ (cmQ G (G.2.2.1 (F b 0)) vb) (gaL G (G.2.2.1 (F b 1)) vn (vw (cm (F q 0))) 1 ((G.1 b 2).toInt).toNat)) 0 0))))
    (y : (((op2 = 0 ∨ ¬ (0 ≤ p ∧ p < mcm)) ∨ PFl f (mw rk (360 * p))) ∧ SI mi mi1 0 0 0 0 0 0) ∨ (op2 ≠ 0 ∧ (0 ≤ p ∧ p < mcm) ∧ ¬ PFl f (mw rk (360 * p)) ∧ SI mi mi1 0 0 (frA f (mw rk (360 * p)) mb vn 1 12) (frA f vn mb (mw rk (360 * p)) 1 12) 0 0))
    (hi : CNTe 6 si mi) : CNTe 6 si1 mi1 := by
  subst ho hz
  have hL := h.2.2.2.2.2
  rcases x with ⟨c, -, e⟩ | ⟨o, hp, q, hq, -, x⟩
  · rcases y with ⟨-, d⟩ | ⟨o, hp, -, d⟩
    · exact e.eq d hi
    · exfalso
      have := (hm o).1
      omega
  · obtain ⟨m1, m2⟩ := hm o
    have hb := hb o
    subst hb
    have ev : vw (cm (F q 0)) = mw rk (360 * p) := by
      have k := m2 p.toNat q (by omega) hq
      rw [show ((p.toNat : Nat) : Int) = p by omega] at k
      exact k
    rw [ev, gaL_fuO hL h.1 (Or.inr (Or.inr rfl)), gaL_fuO hL h.1 (Or.inr (Or.inl rfl)), lw_2, lw_1] at x
    have bl := back_link (f := f) (r := mw rk (360 * p)) h.2.2.2.2.1
    rcases x with ⟨n, e⟩ | ⟨n, e⟩
    · have pf : PFl f (mw rk (360 * p)) := bl.mp (fun k => n (ffL_fq.mpr k))
      rcases y with ⟨-, d⟩ | ⟨-, -, d, -⟩
      · exact e.eq d hi
      · exact absurd pf d
    · have npf : ¬ PFl f (mw rk (360 * p)) := fun k => bl.mpr k (ffL_fq.mp n)
      rcases y with ⟨(c | c) | c, d⟩ | ⟨-, -, -, d⟩
      · exact absurd c o
      · omega
      · exact absurd c npf
      · have s := cm_sum1 (r1 := vn) (p := mw rk (360 * p)) (vb := vb) hL
        rw [s.1, s.2] at e
        exact e.eq d hi
theorem begin_told {op op2 : Int} {s s1 m m1 : Nat → Int32} (ho : op = op2) (x : (op ≠ 0 ∧ s1 = s) ∨ (op = 0 ∧ ∀ j : Int, 0 ≤ j → j < 6 → aI s1 j = 0)) (y : (op2 ≠ 0 ∧ m1 = m) ∨ (op2 = 0 ∧ ∀ j : Int, 0 ≤ j → j < 6 → aI m1 j = 0)) (h : CNTe 6 s m) : CNTe 6 s1 m1 := by
  subst ho
  rcases x with ⟨n, e⟩ | ⟨n, e⟩
  · rcases y with ⟨-, d⟩ | ⟨k, -⟩
    · rw [e, d]; exact h
    · exact absurd k n
  · rcases y with ⟨k, -⟩ | ⟨-, d⟩
    · exact absurd n k
    · exact fun j h0 h1 => (e j h0 h1).trans (d j h0 h1).symm
theorem whyS_iff {r : Int → Int} {t k c v : Int} : whyS r t k c v = 0 ↔ ((0 ≤ t ∧ t < 3) ∧ (0 ≤ k ∧ k < 30) ∧ (0 ≤ c ∧ c < 3) ∧ (v = -1000 ∨ (-99 ≤ v ∧ v ≤ 99))) ∧ cel r t k 0 ≠ -2000 ∧ cel r t k c ≠ v := by
  constructor
  · intro h
    obtain ⟨a, b, c9⟩ := whyS_0 h
    exact ⟨⟨⟨a.1, a.2.1⟩, ⟨a.2.2.1, a.2.2.2.1⟩, ⟨a.2.2.2.2.1, a.2.2.2.2.2.1⟩, a.2.2.2.2.2.2⟩, b, c9⟩
  · rintro ⟨⟨a1, a2, a3, a4⟩, b, c9⟩
    unfold whyS
    rw [if_pos ⟨a1.1, a1.2, a2.1, a2.2, a3.1, a3.2, a4⟩, if_neg b, if_neg c9]
/-! what is asked of all that -/
theorem asked_all {w : List Qt} {F : Nat → Nat → Nat} {G : XG} {a m : Nat} {i q r r1 : Int} (hA : ASKd (qL G F a) (aL G F m) ((G.1 m 44).toInt)) (h0 : 0 ≤ (G.1 a 6).toInt) (h1 : 0 ≤ (G.1 m 43).toInt)
    (x : (((q < 0 ∨ 2 < q) ∨ (i ≠ -1 ∧ (i < 0 ∨ (G.1 a 6).toInt ≤ i))) ∧ r = -1) ∨ ((0 ≤ q ∧ q ≤ 2) ∧ ((i = -1 ∧ r = (G.1 a 6).toInt) ∨ ((0 ≤ i ∧ i < (G.1 a 6).toInt) ∧ ((q = 0 ∧ r = aI (G.2.1 (F a 0)) i) ∨ (q = 1 ∧ r = aI (G.2.1 (F a 1)) i) ∨ (q = 2 ∧ ((aI (G.2.1 (F a 5)) i ≠ 0 ∧ r = 1) ∨ (aI (G.2.1 (F a 5)) i = 0 ∧ r = 0))))))))
    (y : (((q < 0 ∨ 2 < q) ∨ (i ≠ -1 ∧ (i < 0 ∨ (G.1 m 43).toInt ≤ i))) ∧ r1 = -1) ∨ ((0 ≤ q ∧ q ≤ 2) ∧ ((i = -1 ∧ r1 = (G.1 m 43).toInt) ∨ ((0 ≤ i ∧ i < (G.1 m 43).toInt) ∧ ((q = 0 ∧ r1 = aI (G.2.1 (F m 41)) i) ∨ (q = 1 ∧ r1 = aI (G.2.1 (F m 42)) i) ∨ (q = 2 ∧ ((i = (G.1 m 44).toInt ∧ r1 = 1) ∨ (i ≠ (G.1 m 44).toInt ∧ r1 = 0)))))))) : r = r1 := by
  obtain ⟨e, hf, -⟩ := hA
  have l1 := qL_len G F a
  have l2 := aL_len G F m
  rw [← e, List.length_map] at l2
  have es : (G.1 a 6).toInt = (G.1 m 43).toInt := by omega
  rcases x with ⟨x1, x2⟩ | ⟨x1, ⟨x2, x3⟩ | ⟨x2, x3⟩⟩
  · rcases y with ⟨-, y2⟩ | ⟨y1, ⟨y2, -⟩ | ⟨y2, -⟩⟩
    · exact x2.trans y2.symm
    · exfalso; omega
    · exfalso; omega
  · rcases y with ⟨y1, y2⟩ | ⟨y1, ⟨y2, y3⟩ | ⟨y2, -⟩⟩
    · exfalso; omega
    · rw [x3, y3]; exact es
    · exfalso; omega
  · rcases y with ⟨y1, y2⟩ | ⟨y1, ⟨y2, y3⟩ | ⟨y2, y3⟩⟩
    · exfalso; omega
    · exfalso; omega
    · have g := qL_at (G := G) (F := F) (a := a) (z := i) x2
      have k := congrArg (fun l : List (Int × Int) => l[i.toNat]?) e
      have k2 : (aL G F m)[i.toNat]? = some (aI (G.2.1 (F m 41)) i, aI (G.2.1 (F m 42)) i) := lst_get _ (show i.toNat < (G.1 m 43).toInt.toNat by omega)
      have k : ((qL G F a).map (fun x => (x.1, x.2.1)))[i.toNat]? = (aL G F m)[i.toNat]? := k
      rw [List.getElem?_map, g, k2] at k
      have k3 := Option.some.inj k
      have ka : aI (G.2.1 (F a 0)) i = aI (G.2.1 (F m 41)) i := congrArg Prod.fst k3
      have kb : aI (G.2.1 (F a 1)) i = aI (G.2.1 (F m 42)) i := congrArg Prod.snd k3
      have kf : aI (G.2.1 (F a 5)) i ≠ 0 ↔ ((i.toNat : Nat) : Int) = (G.1 m 44).toInt := hf i.toNat _ g
      have ei : ((i.toNat : Nat) : Int) = i := by omega
      rw [ei] at kf
      rcases x3 with ⟨a1, a2⟩ | ⟨a1, a2⟩ | ⟨a1, a2⟩
      · rcases y3 with ⟨b1, b2⟩ | ⟨b1, b2⟩ | ⟨b1, b2⟩
        · rw [a2, b2]; exact ka
        · exfalso; omega
        · exfalso; omega
      · rcases y3 with ⟨b1, b2⟩ | ⟨b1, b2⟩ | ⟨b1, b2⟩
        · exfalso; omega
        · rw [a2, b2]; exact kb
        · exfalso; omega
      · rcases y3 with ⟨b1, b2⟩ | ⟨b1, b2⟩ | ⟨b1, b2⟩
        · exfalso; omega
        · exfalso; omega
        · rcases a2 with ⟨c1, c2⟩ | ⟨c1, c2⟩
          · rcases b2 with ⟨d1, d2⟩ | ⟨d1, d2⟩
            · rw [c2, d2]
            · exact absurd (kf.mp c1) d1
          · rcases b2 with ⟨d1, d2⟩ | ⟨d1, d2⟩
            · exact absurd c1 (kf.mpr d1)
            · rw [c2, d2]
theorem since_all {op op2 mc mcm i r r1 : Int} {s m : Nat → Int32} (ho : op = op2) (hm : op ≠ 0 → mc = mcm) (h : CNTe 6 s m)
    (x : (op = 0 ∧ r = -1) ∨ (op ≠ 0 ∧ (((0 ≤ i ∧ i < 6) ∧ r = aI s i) ∨ (i = 6 ∧ r = mc) ∨ ((i < 0 ∨ 6 < i) ∧ r = -1))))
    (y : (op2 = 0 ∧ r1 = -1) ∨ (op2 ≠ 0 ∧ (((0 ≤ i ∧ i < 6) ∧ r1 = aI m i) ∨ (i = 6 ∧ r1 = mcm) ∨ ((i < 0 ∨ 6 < i) ∧ r1 = -1)))) : r = r1 := by
  subst ho
  rcases x with ⟨x1, x2⟩ | ⟨x1, x2⟩
  · rcases y with ⟨-, y2⟩ | ⟨y1, -⟩
    · exact x2.trans y2.symm
    · exact absurd x1 y1
  · have hm := hm x1
    rcases y with ⟨y1, -⟩ | ⟨-, y2⟩
    · exact absurd y1 x1
    · rcases x2 with ⟨a1, a2⟩ | ⟨a1, a2⟩ | ⟨a1, a2⟩
      · have k := h i a1.1 a1.2
        rcases y2 with ⟨b1, b2⟩ | ⟨b1, b2⟩ | ⟨b1, b2⟩ <;> omega
      · rcases y2 with ⟨b1, b2⟩ | ⟨b1, b2⟩ | ⟨b1, b2⟩ <;> omega
      · rcases y2 with ⟨b1, b2⟩ | ⟨b1, b2⟩ | ⟨b1, b2⟩ <;> omega
theorem late_sum {G : XG} {b : Nat → Option Nat} {f : Nat → Int32} (hL : LK G b f) : smS (lcI G b) 0 12 = smS (lmI f) 0 12 := by
  unfold smS
  refine smN_congr _ (fun i hi => ?_)
  have hi : i < 12 := hi
  show lcI G b ((i : Int) + 0) = lmI f ((i : Int) + 0)
  rw [Int.add_zero]
  have k := lmI_st f (i : Int)
  rcases hL i hi with ⟨a, c⟩ | ⟨q, a, d, c⟩
  · rw [lcI_n (show b ((i : Int)).toNat = none from a), k.2 c]
  · have l := lcI_y (G := G) (j := (i : Int)) (show b ((i : Int)).toNat = some q from a)
    have h9 := c.2.2.2.2.2.2.2.2.2.1
    have h01 := c.2.2.2.2.2.2.2.2.2.2
    rw [k.1 d, ← h9]
    by_cases e : (G.1 q 9).toInt = 0
    · rw [l.2 e, e]
    · rw [l.1 e]; omega
theorem count_all {K : Nat → Nat} {F : Nat → Nat → Nat} {G : XG} {b : Nat} {f rm c m : Nat → Int32} {vb vn mb bb : Int → Int} {op op2 i r r1 s n nt : Int} {w : List Qt} (h : A_book K F G b f) (ho : op = op2) (hn : vn = mw rm 0) (hb : op ≠ 0 → vb = mb) (hw : A_wait op f vb vn w) (hl : ((w.length : Nat) : Int) = s) (hro : RO vn bb) (hm : RM rm 0) (hc : CNTe 4 c m) (ht : n = nt)
    (x : (i = 0 ∧ r = (G.1 b 2).toInt) ∨ (i = 1 ∧ r = toB bb 3) ∨ (i = 2 ∧ r = s) ∨ (i = 3 ∧ ((op ≠ 0 ∧ r = 1) ∨ (op = 0 ∧ r = 0))) ∨ ((4 ≤ i ∧ i ≤ 7) ∧ r = aI c (i - 4)) ∨ (i = 8 ∧ r = n) ∨ (i = 9 ∧ r = smS (lcI G (G.2.2.1 (F b 0))) 0 12) ∨ ((i < 0 ∨ 9 < i) ∧ r = -1))
    (y : (i = 0 ∧ r1 = nRl f 12) ∨ (i = 1 ∧ r1 = rmT rm 360) ∨ (i = 2 ∧ r1 = (((if op2 = 0 then [] else fuO f (mw rm 0) mb 1).length : Nat) : Int)) ∨ (i = 3 ∧ ((op2 ≠ 0 ∧ r1 = 1) ∨ (op2 = 0 ∧ r1 = 0))) ∨ ((4 ≤ i ∧ i ≤ 7) ∧ r1 = aI m (i - 4)) ∨ (i = 8 ∧ r1 = nt) ∨ (i = 9 ∧ r1 = smS (lmI f) 0 12) ∨ ((i < 0 ∨ 9 < i) ∧ r1 = -1)) : r = r1 := by
  subst ho hn
  have hlen : s = (((if op = 0 then [] else fuO f (mw rm 0) mb 1).length : Nat) : Int) := by
    by_cases o : op = 0
    · rw [if_pos o, ← hl, hw.1 o]; rfl
    · rw [if_neg o, ← hl, hw.2 o, List.length_map, ← hb o, fuO_comm f vb (mw rm 0) 1]
  rcases x with ⟨a, e⟩ | ⟨a, e⟩ | ⟨a, e⟩ | ⟨a, e⟩ | ⟨a, e⟩ | ⟨a, e⟩ | ⟨a, e⟩ | ⟨a, e⟩
  · rcases y with ⟨c, d⟩ | ⟨c, d⟩ | ⟨c, d⟩ | ⟨c, d⟩ | ⟨c, d⟩ | ⟨c, d⟩ | ⟨c, d⟩ | ⟨c, d⟩
    · rw [e, d, nRl_eq]; exact h.1.sz h.2.2.2.2.2
    · exfalso; omega
    · exfalso; omega
    · exfalso; omega
    · exfalso; omega
    · exfalso; omega
    · exfalso; omega
    · exfalso; omega
  · rcases y with ⟨c, d⟩ | ⟨c, d⟩ | ⟨c, d⟩ | ⟨c, d⟩ | ⟨c, d⟩ | ⟨c, d⟩ | ⟨c, d⟩ | ⟨c, d⟩
    · exfalso; omega
    · rw [e, d]; exact rows_eq hro hm rfl
    · exfalso; omega
    · exfalso; omega
    · exfalso; omega
    · exfalso; omega
    · exfalso; omega
    · exfalso; omega
  · rcases y with ⟨c, d⟩ | ⟨c, d⟩ | ⟨c, d⟩ | ⟨c, d⟩ | ⟨c, d⟩ | ⟨c, d⟩ | ⟨c, d⟩ | ⟨c, d⟩
    · exfalso; omega
    · exfalso; omega
    · rw [e, d]; exact hlen
    · exfalso; omega
    · exfalso; omega
    · exfalso; omega
    · exfalso; omega
    · exfalso; omega
  · rcases y with ⟨c, d⟩ | ⟨c, d⟩ | ⟨c, d⟩ | ⟨c, d⟩ | ⟨c, d⟩ | ⟨c, d⟩ | ⟨c, d⟩ | ⟨c, d⟩
    · exfalso; omega
    · exfalso; omega
    · exfalso; omega
    · (rcases e with ⟨e1, e2⟩ | ⟨e1, e2⟩ <;> rcases d with ⟨d1, d2⟩ | ⟨d1, d2⟩ <;> first | exact e2.trans d2.symm | exact absurd d1 e1 | exact absurd e1 d1)
    · exfalso; omega
    · exfalso; omega
    · exfalso; omega
    · exfalso; omega
  · rcases y with ⟨c, d⟩ | ⟨c, d⟩ | ⟨c, d⟩ | ⟨c, d⟩ | ⟨c, d⟩ | ⟨c, d⟩ | ⟨c, d⟩ | ⟨c, d⟩
    · exfalso; omega
    · exfalso; omega
    · exfalso; omega
    · exfalso; omega
    · rw [e, d]; exact hc _ (by omega) (by omega)
    · exfalso; omega
    · exfalso; omega
    · exfalso; omega
  · rcases y with ⟨c, d⟩ | ⟨c, d⟩ | ⟨c, d⟩ | ⟨c, d⟩ | ⟨c, d⟩ | ⟨c, d⟩ | ⟨c, d⟩ | ⟨c, d⟩
    · exfalso; omega
    · exfalso; omega
    · exfalso; omega
    · exfalso; omega
    · exfalso; omega
    · rw [e, d]; exact ht
    · exfalso; omega
    · exfalso; omega
  · rcases y with ⟨c, d⟩ | ⟨c, d⟩ | ⟨c, d⟩ | ⟨c, d⟩ | ⟨c, d⟩ | ⟨c, d⟩ | ⟨c, d⟩ | ⟨c, d⟩
    · exfalso; omega
    · exfalso; omega
    · exfalso; omega
    · exfalso; omega
    · exfalso; omega
    · exfalso; omega
    · rw [e, d]; exact late_sum h.2.2.2.2.2
    · exfalso; omega
  · rcases y with ⟨c, d⟩ | ⟨c, d⟩ | ⟨c, d⟩ | ⟨c, d⟩ | ⟨c, d⟩ | ⟨c, d⟩ | ⟨c, d⟩ | ⟨c, d⟩
    · exfalso; omega
    · exfalso; omega
    · exfalso; omega
    · exfalso; omega
    · exfalso; omega
    · exfalso; omega
    · exfalso; omega
    · exact e.trans d.symm
