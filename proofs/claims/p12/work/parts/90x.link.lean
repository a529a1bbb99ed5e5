/-! ===== class and reference: rules alike, questions alike ===== -/
def RQ (f : Nat → Int32) (i : Int) (q : Nat → Int32) : Prop := (q 0).toInt = aI f (10 * i + 0) ∧ (q 1).toInt = i ∧ (q 2).toInt = aI f (10 * i + 1) ∧ (q 3).toInt = aI f (10 * i + 2) ∧ (q 4).toInt = aI f (10 * i + 3) ∧ (q 5).toInt = aI f (10 * i + 4) ∧ (q 6).toInt = aI f (10 * i + 5) ∧ (q 7).toInt = aI f (10 * i + 8) ∧ (q 8).toInt = aI f (10 * i + 7) ∧ (q 9).toInt = aI f (10 * i + 6) ∧ ((q 9).toInt = 0 ∨ (q 9).toInt = 1)
def LK (G : XG) (b : Nat → Option Nat) (f : Nat → Int32) : Prop := ∀ i : Nat, i < 12 → (b i = none ∧ aI f (10 * (i : Int) + 0) = -1) ∨ (∃ q : Nat, b i = some q ∧ aI f (10 * (i : Int) + 0) ≠ -1 ∧ RQ f (i : Int) (G.1 q))
noncomputable def tqq (f : Nat → Int32) (r1 r2 : Int → Int) (x : Int × Int) : Qt := (x.1, x.2, stt r1 (aI f (10 * x.1 + 0)) (aI f (10 * x.1 + 1)) (aI f (10 * x.1 + 2)) (aI f (10 * x.1 + 3)) x.2, stt r2 (aI f (10 * x.1 + 0)) (aI f (10 * x.1 + 1)) (aI f (10 * x.1 + 2)) (aI f (10 * x.1 + 3)) x.2, aI f (10 * x.1 + 6), fzq f r2 x.1 x.2)
theorem uq1_fu1 {f : Nat → Int32} {r1 r2 : Int → Int} {i : Int} {q : Nat → Int32} (h : RQ f i q) (s : Int) : uq1 r1 r2 q s = (fu1 f r1 r2 i s).map (tqq f r1 r2) := by
  obtain ⟨h0, h1, h2, h3, h4, h5, h6, -, -, h9, -⟩ := h
  unfold uq1 fu1
  rw [h0, h1, h2, h3, h4, h5, h6, h9]
  by_cases g : stt r1 (aI f (10 * i + 0)) (aI f (10 * i + 1)) (aI f (10 * i + 2)) (aI f (10 * i + 3)) s ≠ stt r2 (aI f (10 * i + 0)) (aI f (10 * i + 1)) (aI f (10 * i + 2)) (aI f (10 * i + 3)) s
  · rw [if_pos g, if_pos g]; rfl
  · rw [if_neg g, if_neg g]; rfl
theorem uqs_fu {f : Nat → Int32} {r1 r2 : Int → Int} {i : Int} {q : Nat → Int32} (h : RQ f i q) : uqs r1 r2 q = ((subs (aI f (10 * i + 0))).filterMap (fu1 f r1 r2 i)).map (tqq f r1 r2) := by
  unfold uqs
  rw [h.1, List.map_filterMap]
  exact congrArg (fun g => List.filterMap g (subs (aI f (10 * i + 0)))) (funext (fun s => uq1_fu1 h s))
theorem ordN_cong {pr pr2 : Nat → Bool} {rk rk2 : Nat → Int} : ∀ n : Nat, (∀ i, i < n → pr i = pr2 i) → (∀ i, i < n → pr i = true → rk i = rk2 i) → ordN pr rk n = ordN pr2 rk2 n
  | 0, _, _ => rfl
  | n + 1, h1, h2 => by
    have ih := ordN_cong n (fun i hi => h1 i (by omega)) (fun i hi => h2 i (by omega))
    have hn := h1 n (by omega)
    cases hp : pr n with
    | false => rw [ordN_f hp, ordN_f (by rw [← hn]; exact hp), ih]
    | true =>
      have e : posR (fun i => rk ((ordN pr rk n).2 i)) (rk n) (ordN pr rk n).1 = posR (fun i => rk2 ((ordN pr rk n).2 i)) (rk2 n) (ordN pr rk n).1 := by
        rw [h2 n (by omega) hp]
        exact posR_congr (fun i hi => by
          have := ordN_in pr rk n i hi
          exact h2 _ (by omega) this.2)
      rw [ordN_t hp, ordN_t (by rw [← hn]; exact hp), ← ih, e]
def lw (w : Int) : Int := if w = 0 then 2 else if w = 1 then 1 else 0
theorem lw_0 : lw 0 = 2 := by decide
theorem lw_1 : lw 1 = 1 := by decide
theorem lw_2 : lw 2 = 0 := by decide
theorem gaq_fus {G : XG} {f : Nat → Int32} {r1 r2 : Int → Int} {w i : Int} {q : Nat} (hw : w = 0 ∨ w = 1 ∨ w = 2) (h : RQ f i (G.1 q)) : gaq G r1 r2 w (some q) = (fus f r1 r2 (lw w) i).map (tqq f r1 r2) := by
  have h9 := h.2.2.2.2.2.2.2.2.2.1
  have h01 := h.2.2.2.2.2.2.2.2.2.2
  unfold fus
  by_cases c : w = 0 ∨ ((G.1 q 9).toInt = 1 ∧ w = 1) ∨ ((G.1 q 9).toInt = 0 ∧ w ≠ 1)
  · rw [gaq_t c, uqs_fu h, if_pos]
    rcases hw with e | e | e
    · subst e; exact Or.inl lw_0
    · subst e; rw [lw_1]; omega
    · subst e; rw [lw_2]; omega
  · rw [gaq_f c, if_neg]
    · rfl
    · rcases hw with e | e | e
      · exact absurd (Or.inl e) c
      · subst e; rw [lw_1]; omega
      · subst e; rw [lw_2]; omega
theorem gaL_fuL {G : XG} {b f1 : Nat → Option Nat} {f : Nat → Int32} {r1 r2 : Int → Int} {w : Int} {o : Nat → Nat} (hw : w = 0 ∨ w = 1 ∨ w = 2) (hL : LK G b f) : ∀ n : Nat, (∀ i, i < n → f1 i = b (o i) ∧ o i < 12 ∧ (b (o i)).isSome = true) → gaL G f1 r1 r2 w n = (fuL f r1 r2 (lw w) o n).map (tqq f r1 r2)
  | 0, _ => rfl
  | n + 1, h => by
    rw [gaL_s, fuL_s, List.map_append, gaL_fuL hw hL n (fun i hi => h i (by omega))]
    obtain ⟨e, l, s⟩ := h n (by omega)
    rcases hL (o n) l with ⟨a, -⟩ | ⟨q, a, -, c⟩
    · rw [a] at s; cases s
    · rw [e, a, gaq_fus hw c]
theorem LK.pr {G : XG} {b : Nat → Option Nat} {f : Nat → Int32} (hL : LK G b f) {i : Nat} (hi : i < 12) : (b i).isSome = prM f i := by
  unfold prM
  rcases hL i hi with ⟨a, c⟩ | ⟨q, a, c, -⟩
  · rw [a]; exact (decide_eq_false (fun h => h c)).symm
  · rw [a]; exact (decide_eq_true c).symm
theorem LK.ord {G : XG} {b : Nat → Option Nat} {f : Nat → Int32} (hL : LK G b f) : ordN (fun i => (b i).isSome) (fun i => rkO G (b i)) 12 = ordN (prM f) (rkM f) 12 := ordN_cong 12 (fun i hi => hL.pr hi) (fun i hi hp => by
  have hp : (b i).isSome = true := hp
  rcases hL i hi with ⟨a, -⟩ | ⟨q, a, -, c⟩
  · rw [a] at hp; cases hp
  · show rkO G (b i) = rkM f i
    rw [a]
    exact c.2.2.2.2.2.2.2.2.1)
theorem BO.sz {G : XG} {F : Nat → Nat → Nat} {a : Nat} {f : Nat → Int32} (hL : LK G (G.2.2.1 (F a 0)) f) (hB : BO G F a) : (G.1 a 2).toInt = (((ordN (prM f) (rkM f) 12).1 : Nat) : Int) := by
  obtain ⟨b1, -⟩ := hB
  rw [hL.ord] at b1
  exact b1
theorem gaL_fuO {G : XG} {F : Nat → Nat → Nat} {a : Nat} {f : Nat → Int32} {r1 r2 : Int → Int} {w : Int} (hL : LK G (G.2.2.1 (F a 0)) f) (hB : BO G F a) (hw : w = 0 ∨ w = 1 ∨ w = 2) : gaL G (G.2.2.1 (F a 1)) r1 r2 w (G.1 a 2).toInt.toNat = (fuO f r1 r2 (lw w)).map (tqq f r1 r2) := by
  have b1 := hB.sz hL
  obtain ⟨-, b2⟩ := hB
  rw [hL.ord] at b2
  unfold fuO
  rw [show (G.1 a 2).toInt.toNat = (ordN (prM f) (rkM f) 12).1 from by omega]
  refine gaL_fuL hw hL _ (fun i hi => ?_)
  have h := ordN_in (prM f) (rkM f) 12 i hi
  exact ⟨b2 i hi, h.1, by rw [hL.pr h.1]; exact h.2⟩
/-! which questions are found -/
theorem fu_mem {f : Nat → Int32} {r1 r2 : Int → Int} {q : Int} {y : Int × Int} : y ∈ (subs (aI f (10 * q + 0))).filterMap (fu1 f r1 r2 q) ↔ y.1 = q ∧ sbj (aI f (10 * q + 0)) y.2 ∧ stt r1 (aI f (10 * q + 0)) (aI f (10 * q + 1)) (aI f (10 * q + 2)) (aI f (10 * q + 3)) y.2 ≠ stt r2 (aI f (10 * q + 0)) (aI f (10 * q + 1)) (aI f (10 * q + 2)) (aI f (10 * q + 3)) y.2 := by
  rw [List.mem_filterMap]
  constructor
  · rintro ⟨s, hs, h⟩
    unfold fu1 at h
    split at h
    · rename_i g
      have e := Option.some.inj h
      subst e
      exact ⟨rfl, (subs_mem _ _).mp hs, g⟩
    · cases h
  · rintro ⟨e, hs, g⟩
    refine ⟨y.2, (subs_mem _ _).mpr hs, ?_⟩
    unfold fu1
    rw [if_pos g, ← e]
theorem fuL_mem {f : Nat → Int32} {r1 r2 : Int → Int} {late : Int} {o : Nat → Nat} {y : Int × Int} : ∀ n : Nat, y ∈ fuL f r1 r2 late o n ↔ ∃ i, i < n ∧ y ∈ fus f r1 r2 late ((o i : Nat) : Int)
  | 0 => by
    constructor
    · intro h; exact absurd h List.not_mem_nil
    · rintro ⟨i, h, -⟩; omega
  | n + 1 => by
    rw [fuL_s, List.mem_append, fuL_mem n]
    constructor
    · rintro (⟨i, h1, h2⟩ | h)
      · exact ⟨i, by omega, h2⟩
      · exact ⟨n, by omega, h⟩
    · rintro ⟨i, h1, h2⟩
      by_cases e : i = n
      · subst e; exact Or.inr h2
      · exact Or.inl ⟨i, by omega, h2⟩
def FUm (f : Nat → Int32) (r1 r2 : Int → Int) (y : Int × Int) : Prop := (0 ≤ y.1 ∧ y.1 < 12) ∧ aI f (10 * y.1 + 0) ≠ -1 ∧ sbj (aI f (10 * y.1 + 0)) y.2 ∧ stt r1 (aI f (10 * y.1 + 0)) (aI f (10 * y.1 + 1)) (aI f (10 * y.1 + 2)) (aI f (10 * y.1 + 3)) y.2 ≠ stt r2 (aI f (10 * y.1 + 0)) (aI f (10 * y.1 + 1)) (aI f (10 * y.1 + 2)) (aI f (10 * y.1 + 3)) y.2
theorem fuO_mem {f : Nat → Int32} {r1 r2 : Int → Int} {late : Int} {y : Int × Int} : y ∈ fuO f r1 r2 late ↔ FUm f r1 r2 y ∧ (late = 2 ∨ aI f (10 * y.1 + 6) = late) := by
  unfold fuO
  rw [fuL_mem]
  constructor
  · rintro ⟨i, hi, h⟩
    have hin := ordN_in (prM f) (rkM f) 12 i hi
    generalize (ordN (prM f) (rkM f) 12).2 i = n at *
    unfold fus at h
    split at h
    · rename_i g
      obtain ⟨e, h1, h2⟩ := fu_mem.mp h
      have hk : aI f (10 * ((n : Nat) : Int) + 0) ≠ -1 := of_decide_eq_true hin.2
      rw [← e] at h1 h2 hk g
      exact ⟨⟨by omega, hk, h1, h2⟩, g⟩
    · exact absurd h List.not_mem_nil
  · rintro ⟨⟨h0, hk, h1, h2⟩, g⟩
    have e : (((y.1.toNat : Nat)) : Int) = y.1 := by omega
    obtain ⟨i, hi, e2⟩ := ordN_all (pr := prM f) (rk := rkM f) (n := 12) (q := y.1.toNat) (by omega) (by unfold prM; rw [e]; exact decide_eq_true hk)
    refine ⟨i, hi, ?_⟩
    rw [e2, e]
    unfold fus
    rw [if_pos g]
    exact fu_mem.mpr ⟨rfl, h1, h2⟩
theorem fuO_two {f : Nat → Int32} {r1 r2 : Int → Int} {late : Int} {y : Int × Int} (hl : late ≠ 2) : y ∈ fuO f r1 r2 late ↔ y ∈ fuO f r1 r2 2 ∧ aI f (10 * y.1 + 6) = late := by
  rw [fuO_mem, fuO_mem]
  constructor
  · rintro ⟨h, g⟩
    exact ⟨⟨h, Or.inl rfl⟩, g.elim (fun e => absurd e hl) id⟩
  · rintro ⟨⟨h, -⟩, g⟩
    exact ⟨h, Or.inr g⟩
theorem fuO_sym {f : Nat → Int32} {r1 r2 : Int → Int} {late : Int} {y : Int × Int} : y ∈ fuO f r1 r2 late ↔ y ∈ fuO f r2 r1 late := by
  rw [fuO_mem, fuO_mem]
  unfold FUm
  constructor
  · rintro ⟨⟨a, b, c, d⟩, g⟩; exact ⟨⟨a, b, c, d.symm⟩, g⟩
  · rintro ⟨⟨a, b, c, d⟩, g⟩; exact ⟨⟨a, b, c, d.symm⟩, g⟩
theorem ffP_iff {f : Nat → Int32} {r : Int → Int} {l : List (Int × Int)} : ffP f r l ≠ -1 ↔ ∃ y, y ∈ l ∧ fzq f r y.1 y.2 ≠ 0 := by
  unfold ffP
  constructor
  · intro h
    obtain ⟨x, hx, h2⟩ := ffL_yes h
    obtain ⟨y, hy, e⟩ := List.mem_map.mp hx
    subst e
    exact ⟨y, hy, h2⟩
  · rintro ⟨y, hy, h2⟩ h
    exact h2 (ffL_no h _ (List.mem_map.mpr ⟨y, hy, rfl⟩))
theorem ffT_iff {f : Nat → Int32} {r1 r2 : Int → Int} {l : List (Int × Int)} : ffL (l.map (tqq f r1 r2)) ≠ -1 ↔ ∃ y, y ∈ l ∧ fzq f r2 y.1 y.2 ≠ 0 := by
  constructor
  · intro h
    obtain ⟨x, hx, h2⟩ := ffL_yes h
    obtain ⟨y, hy, e⟩ := List.mem_map.mp hx
    subst e
    exact ⟨y, hy, h2⟩
  · rintro ⟨y, hy, h2⟩ h
    exact h2 (ffL_no h _ (List.mem_map.mpr ⟨y, hy, rfl⟩))
theorem LK.l01 {G : XG} {b : Nat → Option Nat} {f : Nat → Int32} (hL : LK G b f) {r1 r2 : Int → Int} {y : Int × Int} (h : FUm f r1 r2 y) : aI f (10 * y.1 + 6) = 0 ∨ aI f (10 * y.1 + 6) = 1 := by
  obtain ⟨h0, hk, -, -⟩ := h
  have e : (((y.1.toNat : Nat)) : Int) = y.1 := by omega
  have h2 := hL y.1.toNat (by omega)
  rw [e] at h2
  rcases h2 with ⟨-, c⟩ | ⟨q, -, -, c⟩
  · exact absurd c hk
  · have h9 := c.2.2.2.2.2.2.2.2.2.1
    have h01 := c.2.2.2.2.2.2.2.2.2.2
    omega
/-- an act of the class, an act of the reference -/
theorem act_link {G : XG} {b : Nat → Option Nat} {f : Nat → Int32} {n0 n1 p r3 : Int → Int} {w0 w1 wn : List Qt} {op op2 r r2 : Int} (hL : LK G b f) (ho : op = op2) (hA : ActR op r ((fuO f n0 p 2).map (tqq f n0 p)) n0 n1 p w0 w1 wn) (hS : StR op2 r2 f n0 p r3) : r = r2 ∧ n1 = r3 ∧ ((n1 = n0 ∧ w1 = w0) ∨ (n1 = p ∧ (op = 0 → w1 = w0) ∧ (op ≠ 0 → w1 = wn))) := by
  subst ho
  have up : ∀ (late : Int), late ≠ 2 → (∃ x, x ∈ (fuO f n0 p 2).map (tqq f n0 p) ∧ x.2.2.2.2.1 = late ∧ x.2.2.2.2.2 ≠ 0) → ffP f p (fuO f n0 p late) ≠ -1 := by
    rintro late hl ⟨x, hx, h1, h2⟩
    obtain ⟨y, hy, e⟩ := List.mem_map.mp hx
    subst e
    exact ffP_iff.mpr ⟨y, (fuO_two hl).mpr ⟨hy, h1⟩, h2⟩
  have dn : ∀ (late : Int), late ≠ 2 → ffP f p (fuO f n0 p late) ≠ -1 → ∃ x, x ∈ (fuO f n0 p 2).map (tqq f n0 p) ∧ x.2.2.2.2.1 = late ∧ x.2.2.2.2.2 ≠ 0 := by
    intro late hl h
    obtain ⟨y, hy, h2⟩ := ffP_iff.mp h
    obtain ⟨h3, h4⟩ := (fuO_two hl).mp hy
    exact ⟨_, List.mem_map.mpr ⟨y, h3, rfl⟩, h4, h2⟩
  have l1 : ∀ x, x ∈ (fuO f n0 p 2).map (tqq f n0 p) → x.2.2.2.2.1 ≠ 0 → x.2.2.2.2.1 = 1 := by
    intro x hx hn
    obtain ⟨y, hy, e⟩ := List.mem_map.mp hx
    subst e
    rcases hL.l01 (fuO_mem.mp hy).1 with q | q
    · exact absurd q hn
    · exact q
  rcases hA with ⟨h1, e1, e2, e3⟩ | ⟨h1, h2, e1, e2, e3, e4⟩
  · rcases hS with ⟨-, t1, t2⟩ | ⟨s1, s2, -, -⟩
    · exact ⟨e1.trans t1.symm, e2.trans t2.symm, Or.inl ⟨e2, e3⟩⟩
    · exfalso
      rcases h1 with h | ⟨o, x, hx, a, c⟩
      · exact up 0 (by decide) h s1
      · exact up 1 (by decide) ⟨x, hx, l1 x hx a, c⟩ (s2 o)
  · rcases hS with ⟨s1, -, -⟩ | ⟨-, -, t1, t2⟩
    · exfalso
      rcases s1 with h | ⟨o, h⟩
      · obtain ⟨x, hx, a, c⟩ := dn 0 (by decide) h
        exact c (h1 x hx a)
      · obtain ⟨x, hx, a, c⟩ := dn 1 (by decide) h
        exact c (h2 o x hx (by rw [a]; decide))
    · rw [List.length_map] at e1
      exact ⟨e1.trans t1.symm, e2.trans t2.symm, Or.inr ⟨e2, e3, e4⟩⟩
/-! without rows nothing fails -/
theorem hvR_no {r : Int → Int} {b v : Int} : ∀ n : Nat, (∀ k : Nat, k < n → r (b + k) ≠ v) → hvR r b v n = 0
  | 0, _ => rfl
  | n + 1, h => by
    show hvR r b v n + (if r (b + n) = v then 1 else 0) = 0
    rw [hvR_no n (fun k hk => h k (by omega)), if_neg (h n (by omega))]
    rfl
theorem cel_v0 (t k c : Int) : cel v0 t k c = -2000 := by
  by_cases h : 0 ≤ t ∧ t < 3 ∧ 0 ≤ k ∧ k < 30 ∧ 0 ≤ c ∧ c < 3
  · rw [cel_in h]
    unfold v0
    exact if_pos (by omega)
  · exact cel_out h
theorem hv_v0 {t c s : Int} (h : 0 ≤ t ∧ t ≤ 2) (hc : 0 ≤ c ∧ c ≤ 2) (hs : s ≠ -2000) : hv v0 (90 * t + 30 * c) s 30 = 0 := by
  rw [hv_eq]
  refine hvR_no _ (fun k hk => ?_)
  have hk : k < 30 := hk
  unfold v0
  rw [if_pos (by omega)]
  exact fun e => hs e.symm
theorem sbj_ne {kd s : Int} (h : sbj kd s) : s ≠ -2000 := by
  unfold sbj at h
  omega
theorem fl_v0 {r : Int → Int} {kd t c o lo hi s : Int} (ht : 0 ≤ t ∧ t ≤ 2) (hc : 0 ≤ c ∧ c ≤ 2) (hs : sbj kd s) (h : flq r kd t c lo hi s (stt r kd t c o s) ≠ 0) : stt v0 kd t c o s ≠ stt r kd t c o s := by
  have hn := sbj_ne hs
  have hv0 := hv_v0 ht hc hn
  have hl : flv r kd t c lo hi s (stt r kd t c o s) := Classical.byContradiction (fun q => h (flq_0 q))
  have e0 := cel_v0
  obtain ⟨k0, k1, k3, k5⟩ := stt_k (r := v0) (kd := kd) (t := t) (c := c) (o := o) (s := s)
  rcases hl with ⟨a, b⟩ | ⟨a, b, b2⟩ | ⟨a, b, -⟩ | ⟨a, b, -⟩ | ⟨a, b, -⟩ | ⟨a, b⟩
  · rw [k0 a, hv0]; omega
  · rcases k1 (Or.inl a) with ⟨-, q⟩ | ⟨q, -⟩
    · rw [q, hv0]; omega
    · exact absurd (e0 o s 0) q
  · rw [k5 (Or.inl a), e0]; exact fun q => b q.symm
  · rcases k3 a with ⟨-, q⟩ | ⟨q, -⟩
    · rw [q]; exact fun q => b q.symm
    · exact absurd hv0 q
  · rcases k1 (Or.inr a) with ⟨-, q⟩ | ⟨q, -⟩
    · rw [q, hv0]; omega
    · exact absurd (e0 o s 0) q
  · rw [k5 (Or.inr a), e0]
    have e5 := (stt_k (r := r) (kd := kd) (t := t) (c := c) (o := o) (s := s)).2.2.2 (Or.inr a)
    rw [e5]
    intro q
    have f5 := (rgq_f r t c s (cel r t s c) (n := 30) (by decide)).1
    rw [f5 (by rw [← q]; exact cel_out (by omega))] at b
    exact absurd b (by decide)
theorem fz01 {f : Nat → Int32} {r : Int → Int} {q s : Int} (h : fzq f r q s ≠ 0) : fzq f r q s = 1 := by
  unfold fzq at *
  exact (flq01 _ _ _ _ _ _ _ _).elim (fun e => absurd e h) id
theorem fz_v0 {f : Nat → Int32} {r : Int → Int} {q s : Int} (hR : RV f) (hq : 0 ≤ q ∧ q < 12) (hs : sbj (aI f (10 * q + 0)) s) (h : fzq f r q s ≠ 0) : stt v0 (aI f (10 * q + 0)) (aI f (10 * q + 1)) (aI f (10 * q + 2)) (aI f (10 * q + 3)) s ≠ stt r (aI f (10 * q + 0)) (aI f (10 * q + 1)) (aI f (10 * q + 2)) (aI f (10 * q + 3)) s := by
  obtain ⟨-, r1, r2, -, -⟩ := hR q hq.1 (by omega)
  exact fl_v0 r1 r2 hs h
theorem back_link {f : Nat → Int32} {r : Int → Int} (hR : RV f) : ffL ((fuO f v0 r 0).map (tqq f v0 r)) ≠ -1 ↔ PFl f r := by
  rw [ffT_iff]
  constructor
  · rintro ⟨y, hy, h⟩
    obtain ⟨⟨h0, hk, h1, -⟩, g⟩ := fuO_mem.mp hy
    exact ⟨y.1, y.2, by omega, hk, g.elim (fun e => absurd e (by decide)) id, h1, fz01 h⟩
  · rintro ⟨q, s, h0, hk, g, h1, h2⟩
    have h3 : fzq f r q s ≠ 0 := by rw [h2]; decide
    exact ⟨(q, s), fuO_mem.mpr ⟨⟨by show 0 ≤ q ∧ q < 12; omega, hk, h1, fz_v0 hR (by omega) h1 h3⟩, Or.inr g⟩, h3⟩
theorem rule_link {g : Nat → Int32} {r : Int → Int} {k : Int} {q : Nat → Int32} (hR : RV g) (hk : 0 ≤ k ∧ k < 12) (h : RQ g k q) : ffL (uqs v0 r q) ≠ -1 ↔ ∃ s : Int, sbj (aI g (10 * k + 0)) s ∧ fzq g r k s = 1 := by
  rw [uqs_fu h, ffT_iff]
  constructor
  · rintro ⟨y, hy, h2⟩
    obtain ⟨e, h1, -⟩ := fu_mem.mp hy
    rw [e] at h2
    exact ⟨y.2, h1, fz01 h2⟩
  · rintro ⟨s, h1, h2⟩
    have h3 : fzq g r k s ≠ 0 := by rw [h2]; decide
    exact ⟨(k, s), fu_mem.mpr ⟨rfl, h1, fz_v0 hR hk h1 h3⟩, h3⟩
theorem later_link {f : Nat → Int32} {vn vb : Int → Int} {op n : Int} {w : List Qt} (hw : (op = 0 → w = []) ∧ (op ≠ 0 → w = (fuO f vb vn 1).map (tqq f vb vn))) : (∃ x, x ∈ w ∧ x.1 = n ∧ x.2.2.2.2.2 ≠ 0) ↔ QFl f vn (if op = 0 then [] else fuO f vn vb 1) n := by
  by_cases o : op = 0
  · rw [if_pos o, hw.1 o]
    constructor
    · rintro ⟨x, hx, -⟩; exact absurd hx List.not_mem_nil
    · rintro ⟨x, hx, -⟩; exact absurd hx List.not_mem_nil
  · rw [if_neg o, hw.2 o]
    constructor
    · rintro ⟨x, hx, h1, h2⟩
      obtain ⟨y, hy, e⟩ := List.mem_map.mp hx
      subst e
      exact ⟨y, fuO_sym.mp hy, h1, fz01 h2⟩
    · rintro ⟨y, hy, h1, h2⟩
      exact ⟨_, List.mem_map.mpr ⟨y, fuO_sym.mp hy, rfl⟩, h1, (show fzq f vn y.1 y.2 ≠ 0 by rw [h2]; decide)⟩
theorem commit_link {f : Nat → Int32} {vn vb : Int → Int} : (∃ x, x ∈ (fuO f vb vn 1).map (tqq f vb vn) ∧ x.2.2.2.2.1 ≠ 0 ∧ x.2.2.2.2.2 ≠ 0) ↔ ffP f vn (fuO f vn vb 1) ≠ -1 := by
  rw [ffP_iff]
  constructor
  · rintro ⟨x, hx, -, h2⟩
    obtain ⟨y, hy, e⟩ := List.mem_map.mp hx
    subst e
    exact ⟨y, fuO_sym.mp hy, h2⟩
  · rintro ⟨y, hy, h2⟩
    have h1 := (fuO_two (by decide)).mp hy
    exact ⟨_, List.mem_map.mpr ⟨y, fuO_sym.mp hy, rfl⟩, (show aI f (10 * y.1 + 6) ≠ 0 by rw [h1.2]; decide), h2⟩
/-! rules that rows follow -/
theorem LK.nat {G : XG} {b : Nat → Option Nat} {f : Nat → Int32} (hL : LK G b f) {r : Int} (hr : 0 ≤ r ∧ r < 12) : (b r.toNat = none ∧ aI f (10 * r + 0) = -1) ∨ (∃ q : Nat, b r.toNat = some q ∧ aI f (10 * r + 0) ≠ -1 ∧ RQ f r (G.1 q)) := by
  have e : (((r.toNat : Nat)) : Int) = r := by omega
  have h := hL r.toNat (by omega)
  rw [e] at h
  exact h
theorem clsA_ref {G : XG} {b : Nat → Option Nat} {f : Nat → Int32} (hL : LK G b f) : clsA G b = refA f := by
  funext r t
  unfold refA
  by_cases hr : 0 ≤ r ∧ r < 12
  · rcases hL.nat hr with ⟨a, c⟩ | ⟨q, a, -, c⟩
    · rw [clsA_n a, if_neg (by omega)]
    · obtain ⟨c0, -, -, -, c4, -, -, c7, -⟩ := c
      rw [clsA_s a, c0, c4, c7]
  · rw [if_neg (fun h => hr ⟨h.1, h.2.1⟩)]
    cases hb : b r.toNat with
    | none => exact clsA_n hb
    | some q => rw [clsA_s hb, if_neg (fun h => hr ⟨h.1, h.2.1⟩)]
theorem clsTC_ref {G : XG} {b : Nat → Option Nat} {f : Nat → Int32} (hL : LK G b f) : clsT G b = refT f ∧ clsC G b = refC f := by
  refine ⟨funext (fun r => ?_), funext (fun r => ?_)⟩
  · unfold clsT refT
    by_cases hr : 0 ≤ r ∧ r < 12
    · rcases hL.nat hr with ⟨a, c⟩ | ⟨q, a, -, c⟩
      · rw [a]; exact (if_neg (by omega)).symm
      · obtain ⟨c0, -, c2, -⟩ := c
        rw [a]
        show (if 0 ≤ r ∧ r < 12 ∧ (G.1 q 0).toInt = 1 then (G.1 q 2).toInt else 0) = _
        rw [c0, c2]
    · rw [if_neg (fun h => hr ⟨h.1, h.2.1⟩)]
      cases hb : b r.toNat with
      | none => rfl
      | some q => exact if_neg (fun h => hr ⟨h.1, h.2.1⟩)
  · unfold clsC refC
    by_cases hr : 0 ≤ r ∧ r < 12
    · rcases hL.nat hr with ⟨a, c⟩ | ⟨q, a, -, c⟩
      · rw [a]; exact (if_neg (by omega)).symm
      · obtain ⟨c0, -, -, c3, -⟩ := c
        rw [a]
        show (if 0 ≤ r ∧ r < 12 ∧ (G.1 q 0).toInt = 1 then (G.1 q 3).toInt else 0) = _
        rw [c0, c3]
    · rw [if_neg (fun h => hr ⟨h.1, h.2.1⟩)]
      cases hb : b r.toNat with
      | none => rfl
      | some q => exact if_neg (fun h => hr ⟨h.1, h.2.1⟩)
