/-! ===== rows that go with others: the steps, one key at a time ===== -/
/-- where one stands: table, key of the row that went, rule, next key -/
abbrev CFr := Int × Int × Int × Int
abbrev CSt := List CFr × (Int → Int)
def cst (A : Int → Int → Int) (T C : Int → Int) : CSt → CSt
  | ([], v) => ([], v)
  | ((t, k, r, n) :: s, v) =>
    if r = 12 then (s, v)
    else if n = 30 ∨ ¬ (0 < A r t) then ((t, k, r + 1, 0) :: s, v)
    else if cel v (T r) n (C r) = k then
      (if A r t = 2 then ((t, k, r, n + 1) :: s, rset v (90 * T r + 30 * C r + n) (-1000))
       else ((T r, n, 0, 0) :: (t, k, r, n + 1) :: s, rfil v (T r) n (-2000) 3))
    else ((t, k, r, n + 1) :: s, v)
theorem cst_c (A : Int → Int → Int) (T C : Int → Int) (t k r n : Int) (s : List CFr) (v : Int → Int) : cst A T C ((t, k, r, n) :: s, v) = if r = 12 then (s, v)
    else if n = 30 ∨ ¬ (0 < A r t) then ((t, k, r + 1, 0) :: s, v)
    else if cel v (T r) n (C r) = k then
      (if A r t = 2 then ((t, k, r, n + 1) :: s, rset v (90 * T r + 30 * C r + n) (-1000))
       else ((T r, n, 0, 0) :: (t, k, r, n + 1) :: s, rfil v (T r) n (-2000) 3))
    else ((t, k, r, n + 1) :: s, v) := rfl
section CST
variable {A : Int → Int → Int} {T C : Int → Int} {t k r n : Int} {s : List CFr} {v : Int → Int}
theorem cst_pop (h : r = 12) : cst A T C ((t, k, r, n) :: s, v) = (s, v) := by rw [cst_c, if_pos h]
theorem cst_nx (h : r ≠ 12) (h2 : n = 30 ∨ ¬ (0 < A r t)) : cst A T C ((t, k, r, n) :: s, v) = ((t, k, r + 1, 0) :: s, v) := by rw [cst_c, if_neg h, if_pos h2]
theorem cst_cl (h : r ≠ 12) (h2 : n ≠ 30) (h3 : A r t = 2) (h4 : cel v (T r) n (C r) = k) : cst A T C ((t, k, r, n) :: s, v) = ((t, k, r, n + 1) :: s, rset v (90 * T r + 30 * C r + n) (-1000)) := by rw [cst_c, if_neg h, if_neg (by omega), if_pos h4, if_pos h3]
theorem cst_go (h : r ≠ 12) (h2 : n ≠ 30) (h3 : 0 < A r t) (h5 : A r t ≠ 2) (h4 : cel v (T r) n (C r) = k) : cst A T C ((t, k, r, n) :: s, v) = ((T r, n, 0, 0) :: (t, k, r, n + 1) :: s, rfil v (T r) n (-2000) 3) := by rw [cst_c, if_neg h, if_neg (by omega), if_pos h4, if_neg h5]
theorem cst_sk (h : r ≠ 12) (h2 : n ≠ 30) (h3 : 0 < A r t) (h4 : cel v (T r) n (C r) ≠ k) : cst A T C ((t, k, r, n) :: s, v) = ((t, k, r, n + 1) :: s, v) := by rw [cst_c, if_neg h, if_neg (by omega), if_neg h4]
end CST
def pnR (v : Int → Int) : Nat → Int
  | 0 => 0
  | n + 1 => pnR v n + if v (90 * ((n : Int) / 30) + (n : Int) % 30) = -2000 then 0 else 1
/-- how many rows there are -/
def pn (v : Int → Int) : Int := pnR v 90
theorem pnR_b (v : Int → Int) (n : Nat) : 0 ≤ pnR v n ∧ pnR v n ≤ n := by
  induction n with
  | zero => exact ⟨Int.le_refl _, Int.le_refl _⟩
  | succ n ih =>
    unfold pnR
    split <;> omega
theorem pn_b (v : Int → Int) : 0 ≤ pn v ∧ pn v ≤ 90 := pnR_b v 90
theorem pn_same {v w : Int → Int} (h : ∀ t k : Int, 0 ≤ t → t < 3 → 0 ≤ k → k < 30 → (w (90 * t + k) = -2000 ↔ v (90 * t + k) = -2000)) : pn w = pn v := by
  have key : ∀ n : Nat, n ≤ 90 → pnR w n = pnR v n := by
    intro n
    induction n with
    | zero => intro _; rfl
    | succ n ih =>
      intro hn
      have q := h ((n : Int) / 30) ((n : Int) % 30) (by omega) (by omega) (by omega) (by omega)
      unfold pnR
      rw [ih (by omega)]
      by_cases e : v (90 * ((n : Int) / 30) + (n : Int) % 30) = -2000
      · rw [if_pos e, if_pos (q.mpr e)]
      · rw [if_neg e, if_neg (fun x => e (q.mp x))]
  exact key 90 (Nat.le_refl _)
theorem pn_cut {v w : Int → Int} {t0 k0 : Int} (h0 : 0 ≤ t0 ∧ t0 < 3 ∧ 0 ≤ k0 ∧ k0 < 30) (hv : v (90 * t0 + k0) ≠ -2000) (hw : w (90 * t0 + k0) = -2000) (h : ∀ t k : Int, 0 ≤ t → t < 3 → 0 ≤ k → k < 30 → ¬ (t = t0 ∧ k = k0) → (w (90 * t + k) = -2000 ↔ v (90 * t + k) = -2000)) : pn w = pn v - 1 := by
  have key : ∀ n : Nat, n ≤ 90 → pnR w n = pnR v n - if 30 * t0 + k0 < (n : Int) then 1 else 0 := by
    intro n
    induction n with
    | zero => intro _; rw [if_neg (by omega)]; rfl
    | succ n ih =>
      intro hn
      unfold pnR
      rw [ih (by omega)]
      by_cases g : 30 * t0 + k0 = (n : Int)
      · have e1 : (n : Int) / 30 = t0 := by omega
        have e2 : (n : Int) % 30 = k0 := by omega
        rw [e1, e2, if_pos hw, if_neg hv, if_neg (by omega), if_pos (by omega)]
        omega
      · have q := h ((n : Int) / 30) ((n : Int) % 30) (by omega) (by omega) (by omega) (by omega) (by omega)
        have e3 : (if 30 * t0 + k0 < ((n + 1 : Nat) : Int) then (1 : Int) else 0) = if 30 * t0 + k0 < (n : Int) then 1 else 0 := by
          by_cases x : 30 * t0 + k0 < (n : Int)
          · rw [if_pos x, if_pos (by omega)]
          · rw [if_neg x, if_neg (by omega)]
        rw [e3]
        by_cases e : v (90 * ((n : Int) / 30) + (n : Int) % 30) = -2000
        · rw [if_pos e, if_pos (q.mpr e)]; omega
        · rw [if_neg e, if_neg (fun x => e (q.mp x))]; omega
  have := key 90 (Nat.le_refl _)
  rw [if_pos (by omega)] at this
  exact this
/-- a row is there in all its columns, or in none -/
def RC (v : Int → Int) : Prop := ∀ t k c : Int, 0 ≤ t → t < 3 → 0 ≤ k → k < 30 → 0 ≤ c → c < 3 → (v (90 * t + 30 * c + k) = -2000 ↔ v (90 * t + k) = -2000)
theorem RC.set {v : Int → Int} (h : RC v) {t k c x : Int} (hp : v (90 * t + 30 * c + k) ≠ -2000) (hx : x ≠ -2000) : RC (rset v (90 * t + 30 * c + k) x) ∧ pn (rset v (90 * t + 30 * c + k) x) = pn v := by
  have hs : ∀ z : Int, (rset v (90 * t + 30 * c + k) x z = -2000 ↔ v z = -2000) := by
    intro z
    unfold rset
    by_cases e : z = 90 * t + 30 * c + k
    · rw [if_pos e, e]; exact ⟨fun q => absurd q hx, fun q => absurd q hp⟩
    · rw [if_neg e]
  exact ⟨fun t2 k2 c2 a1 a2 a3 a4 a5 a6 => (hs _).trans ((h t2 k2 c2 a1 a2 a3 a4 a5 a6).trans (hs _).symm), pn_same (fun t2 k2 _ _ _ _ => hs _)⟩
theorem RC.cut {v : Int → Int} (h : RC v) {t k : Int} (h0 : 0 ≤ t ∧ t < 3 ∧ 0 ≤ k ∧ k < 30) (hp : v (90 * t + k) ≠ -2000) : RC (rfil v t k (-2000) 3) ∧ pn (rfil v t k (-2000) 3) = pn v - 1 := by
  have hs : ∀ t2 k2 c2 : Int, 0 ≤ t2 → t2 < 3 → 0 ≤ k2 → k2 < 30 → 0 ≤ c2 → c2 < 3 → rfil v t k (-2000) 3 (90 * t2 + 30 * c2 + k2) = if t2 = t ∧ k2 = k then -2000 else v (90 * t2 + 30 * c2 + k2) := by
    intro t2 k2 c2 a1 a2 a3 a4 a5 a6
    unfold rfil
    by_cases e : t2 = t ∧ k2 = k
    · rw [if_pos e, if_pos (by omega)]
    · rw [if_neg e, if_neg (by omega)]
  have hs0 : ∀ t2 k2 : Int, 0 ≤ t2 → t2 < 3 → 0 ≤ k2 → k2 < 30 → rfil v t k (-2000) 3 (90 * t2 + k2) = if t2 = t ∧ k2 = k then -2000 else v (90 * t2 + k2) := by
    intro t2 k2 a1 a2 a3 a4
    have := hs t2 k2 0 a1 a2 a3 a4 (by decide) (by decide)
    rw [Int.mul_zero, Int.add_zero] at this
    exact this
  refine ⟨fun t2 k2 c2 a1 a2 a3 a4 a5 a6 => ?_, pn_cut h0 hp ?_ (fun t2 k2 a1 a2 a3 a4 ne => ?_)⟩
  · rw [hs t2 k2 c2 a1 a2 a3 a4 a5 a6, hs0 t2 k2 a1 a2 a3 a4]
    by_cases e : t2 = t ∧ k2 = k
    · rw [if_pos e, if_pos e]
    · rw [if_neg e, if_neg e]; exact h t2 k2 c2 a1 a2 a3 a4 a5 a6
  · rw [hs0 t k h0.1 h0.2.1 h0.2.2.1 h0.2.2.2, if_pos ⟨rfl, rfl⟩]
  · rw [hs0 t2 k2 a1 a2 a3 a4, if_neg ne]
def CFok (x : CFr) : Prop := (0 ≤ x.1 ∧ x.1 < 3) ∧ (0 ≤ x.2.1 ∧ x.2.1 < 30) ∧ (0 ≤ x.2.2.1 ∧ x.2.2.1 ≤ 12) ∧ (0 ≤ x.2.2.2 ∧ x.2.2.2 ≤ 30)
def CIv (S : CSt) : Prop := (∀ x, x ∈ S.1 → CFok x) ∧ (S.1.length : Int) + pn S.2 ≤ 90 ∧ RC S.2
/-- rules that rows follow are well -/
def CTo (A : Int → Int → Int) (T C : Int → Int) : Prop := ∀ r t : Int, 0 < A r t → (0 ≤ T r ∧ T r < 3) ∧ (0 ≤ C r ∧ C r < 3)
def cwt : List CFr → Int
  | [] => 0
  | x :: s => 31 * (12 - x.2.2.1) + 31 - x.2.2.2 + cwt s
theorem cwt_b {s : List CFr} (h : ∀ x, x ∈ s → CFok x) : 0 ≤ cwt s := by
  induction s with
  | nil => exact Int.le_refl _
  | cons x s ih =>
    have h1 := h x List.mem_cons_self
    have h2 := ih (fun y hy => h y (List.mem_cons_of_mem _ hy))
    unfold CFok at h1
    unfold cwt
    omega
def cmu (S : CSt) : Int := 404 * pn S.2 + cwt S.1
theorem cmu_b {S : CSt} (h : CIv S) : 0 ≤ cmu S := by
  have h1 := cwt_b h.1
  have h2 := pn_b S.2
  unfold cmu
  omega
theorem cst_iv {A : Int → Int → Int} {T C : Int → Int} (hT : CTo A T C) {S : CSt} (h : CIv S) : CIv (cst A T C S) ∧ (S.1 ≠ [] → cmu (cst A T C S) < cmu S) := by
  obtain ⟨s, v⟩ := S
  cases s with
  | nil => exact ⟨h, fun q => absurd rfl q⟩
  | cons x s =>
    obtain ⟨t, k, r, n⟩ := x
    obtain ⟨h1, h2, h3⟩ := h
    have g := h1 (t, k, r, n) List.mem_cons_self
    have hs : ∀ y, y ∈ s → CFok y := fun y hy => h1 y (List.mem_cons_of_mem _ hy)
    obtain ⟨g1, g2, g3, g4⟩ := g
    have h2' : (((s.length + 1 : Nat)) : Int) + pn v ≤ 90 := h2
    have h3 : RC v := h3
    clear h1 h2
    simp only at g1 g2 g3 g4
    have wt : ∀ (a b c d : Int) (l : List CFr), cwt ((a, b, c, d) :: l) = 31 * (12 - c) + 31 - d + cwt l := fun _ _ _ _ _ => rfl
    have mk : ∀ (a b c d : Int) (l : List CFr) (w : Int → Int), (0 ≤ a ∧ a < 3) → (0 ≤ b ∧ b < 30) → (0 ≤ c ∧ c ≤ 12) → (0 ≤ d ∧ d ≤ 30) → (∀ y, y ∈ l → CFok y) → ((l.length + 1 : Nat) : Int) + pn w ≤ 90 → RC w → CIv ((a, b, c, d) :: l, w) := fun a b c d l w q1 q2 q3 q4 q5 q6 q7 => ⟨fun y hy => (List.mem_cons.mp hy).elim (fun e => by rw [e]; exact ⟨q1, q2, q3, q4⟩) (q5 y), q6, q7⟩
    rw [cst_c]
    by_cases c1 : r = 12
    · rw [if_pos c1]
      refine ⟨⟨hs, by show ((s.length : Nat) : Int) + pn v ≤ 90; omega, h3⟩, fun _ => ?_⟩
      show 404 * pn v + cwt s < 404 * pn v + cwt ((t, k, r, n) :: s)
      rw [wt]
      omega
    · rw [if_neg c1]
      by_cases c2 : n = 30 ∨ ¬ (0 < A r t)
      · rw [if_pos c2]
        refine ⟨mk _ _ _ _ _ _ g1 g2 (by omega) (by omega) hs h2' h3, fun _ => ?_⟩
        show 404 * pn v + cwt ((t, k, r + 1, 0) :: s) < 404 * pn v + cwt ((t, k, r, n) :: s)
        rw [wt, wt]
        omega
      · rw [if_neg c2]
        have a0 : 0 < A r t := by
          apply Classical.byContradiction
          intro q
          exact c2 (Or.inr q)
        obtain ⟨hT1, hC1⟩ := hT r t a0
        by_cases c3 : cel v (T r) n (C r) = k
        · rw [if_pos c3]
          have hin : 0 ≤ T r ∧ T r < 3 ∧ 0 ≤ n ∧ n < 30 ∧ 0 ≤ C r ∧ C r < 3 := by omega
          rw [cel_in hin] at c3
          have hp : v (90 * T r + 30 * C r + n) ≠ -2000 := by omega
          by_cases c4 : A r t = 2
          · rw [if_pos c4]
            obtain ⟨e1, e2⟩ := h3.set hp (x := -1000) (by decide)
            refine ⟨mk _ _ _ _ _ _ g1 g2 g3 (by omega) hs (by rw [e2]; exact h2') e1, fun _ => ?_⟩
            show 404 * pn (rset v (90 * T r + 30 * C r + n) (-1000)) + cwt ((t, k, r, n + 1) :: s) < 404 * pn v + cwt ((t, k, r, n) :: s)
            rw [wt, wt, e2]
            omega
          · rw [if_neg c4]
            have hp0 : v (90 * T r + n) ≠ -2000 := fun q => hp ((h3 (T r) n (C r) hin.1 hin.2.1 hin.2.2.1 hin.2.2.2.1 hin.2.2.2.2.1 hin.2.2.2.2.2).mpr q)
            obtain ⟨e1, e2⟩ := h3.cut (t := T r) (k := n) (by omega) hp0
            have hl : ∀ y, y ∈ (t, k, r, n + 1) :: s → CFok y := fun y hy => (List.mem_cons.mp hy).elim (fun e => by rw [e]; exact ⟨g1, g2, g3, ⟨by show 0 ≤ n + 1; omega, by show n + 1 ≤ 30; omega⟩⟩) (hs y)
            refine ⟨mk _ _ _ _ _ _ hT1 (by omega) (by omega) (by omega) hl (by rw [e2]; show ((s.length + 1 + 1 : Nat) : Int) + (pn v - 1) ≤ 90; omega) e1, fun _ => ?_⟩
            show 404 * pn (rfil v (T r) n (-2000) 3) + cwt ((T r, n, 0, 0) :: (t, k, r, n + 1) :: s) < 404 * pn v + cwt ((t, k, r, n) :: s)
            rw [wt, wt, wt, e2]
            omega
        · rw [if_neg c3]
          refine ⟨mk _ _ _ _ _ _ g1 g2 g3 (by omega) hs h2' h3, fun _ => ?_⟩
          show 404 * pn v + cwt ((t, k, r, n + 1) :: s) < 404 * pn v + cwt ((t, k, r, n) :: s)
          rw [wt, wt]
          omega
def cit (A : Int → Int → Int) (T C : Int → Int) : Nat → CSt → CSt
  | 0, S => S
  | n + 1, S => cit A T C n (cst A T C S)
theorem cst_e {A : Int → Int → Int} {T C : Int → Int} {S : CSt} (h : S.1 = []) : cst A T C S = S := by
  obtain ⟨s, v⟩ := S
  have h' : s = [] := h
  subst h'
  rfl
theorem cit_e {A : Int → Int → Int} {T C : Int → Int} (n : Nat) {S : CSt} (h : S.1 = []) : cit A T C n S = S := by
  induction n with
  | zero => rfl
  | succ n ih => show cit A T C n (cst A T C S) = S; rw [cst_e h, ih]
theorem cit_end {A : Int → Int → Int} {T C : Int → Int} (hT : CTo A T C) (n : Nat) {S : CSt} (h : CIv S) (hn : cmu S ≤ n) : (cit A T C n S).1 = [] := by
  induction n generalizing S with
  | zero =>
    apply Classical.byContradiction
    intro q
    have h1 := (cst_iv hT h).2 q
    have h2 := cmu_b (cst_iv hT h).1
    omega
  | succ n ih =>
    by_cases q : S.1 = []
    · rw [cit_e _ q]; exact q
    · have h1 := (cst_iv hT h).2 q
      exact ih (cst_iv hT h).1 (by omega)
theorem cit_add {A : Int → Int → Int} {T C : Int → Int} (m n : Nat) (S : CSt) : cit A T C (m + n) S = cit A T C n (cit A T C m S) := by
  induction m generalizing S with
  | zero => rw [Nat.zero_add]; rfl
  | succ m ih => rw [Nat.succ_add]; exact ih (cst A T C S)
theorem cfin_ex : ∃ g : (Int → Int → Int) → (Int → Int) → (Int → Int) → CSt → (Int → Int), ∀ A T C S, g A T C S = (cit A T C (cmu S).toNat S).2 := ⟨fun A T C S => (cit A T C (cmu S).toNat S).2, fun _ _ _ _ => rfl⟩
/-- the rows at the end -/
noncomputable def cfin (A : Int → Int → Int) (T C : Int → Int) (S : CSt) : Int → Int := Classical.choose cfin_ex A T C S
theorem cfin_eq (A : Int → Int → Int) (T C : Int → Int) (S : CSt) : cfin A T C S = (cit A T C (cmu S).toNat S).2 := Classical.choose_spec cfin_ex A T C S
theorem cit_fin {A : Int → Int → Int} {T C : Int → Int} (hT : CTo A T C) (n : Nat) {S : CSt} (h : CIv S) (hn : cmu S ≤ n) : (cit A T C n S).2 = cfin A T C S := by
  have hb := cmu_b h
  rw [cfin_eq]
  have e : n = (cmu S).toNat + (n - (cmu S).toNat) := by omega
  rw [e, cit_add, cit_e _ (cit_end hT _ h (by omega))]
theorem cfin_s {A : Int → Int → Int} {T C : Int → Int} (hT : CTo A T C) {S : CSt} (h : CIv S) : cfin A T C (cst A T C S) = cfin A T C S := by
  by_cases q : S.1 = []
  · rw [cst_e q]
  · have h1 := (cst_iv hT h).2 q
    have h2 := cmu_b (cst_iv hT h).1
    rw [← cit_fin hT ((cmu S).toNat - 1) (cst_iv hT h).1 (by omega), cfin_eq]
    generalize hm : (cmu S).toNat = m at *
    cases m with
    | zero => omega
    | succ j => rfl
theorem cfin_e (A : Int → Int → Int) (T C : Int → Int) (v : Int → Int) : cfin A T C ([], v) = v := by
  rw [cfin_eq, cit_e _ rfl]
/-- each cell of a column that is w becomes i: those of the first n keys -/
def repl (v : Int → Int) (t c w i n : Int) : Int → Int := fun z => if 0 ≤ z - (90 * t + 30 * c) ∧ z - (90 * t + 30 * c) < n ∧ v z = w then i else v z
theorem repl_0 (v : Int → Int) (t c w i : Int) : repl v t c w i 0 = v := by
  funext z
  unfold repl
  rw [if_neg (by omega)]
theorem repl_at {v : Int → Int} {t c w i n m : Int} (h : n ≤ m) : repl v t c w i n (90 * t + 30 * c + m) = v (90 * t + 30 * c + m) := by
  unfold repl
  rw [if_neg (by omega)]
theorem repl_1 {v : Int → Int} {t c w i n : Int} (h : 0 ≤ n) (e : v (90 * t + 30 * c + n) = w) : rset (repl v t c w i n) (90 * t + 30 * c + n) i = repl v t c w i (n + 1) := by
  funext z
  unfold rset repl
  by_cases q : z = 90 * t + 30 * c + n
  · rw [if_pos q, if_pos ⟨by omega, by omega, by rw [q]; exact e⟩]
  · rw [if_neg q]
    by_cases g : 0 ≤ z - (90 * t + 30 * c) ∧ z - (90 * t + 30 * c) < n ∧ v z = w
    · rw [if_pos g, if_pos ⟨g.1, by omega, g.2.2⟩]
    · rw [if_neg g, if_neg (fun x => g ⟨x.1, by omega, x.2.2⟩)]
theorem repl_2 {v : Int → Int} {t c w i n : Int} (e : v (90 * t + 30 * c + n) ≠ w) : repl v t c w i (n + 1) = repl v t c w i n := by
  funext z
  unfold repl
  by_cases g : 0 ≤ z - (90 * t + 30 * c) ∧ z - (90 * t + 30 * c) < n ∧ v z = w
  · rw [if_pos g, if_pos ⟨g.1, by omega, g.2.2⟩]
  · rw [if_neg g, if_neg (fun x => ?_)]
    have q : z ≠ 90 * t + 30 * c + n := fun y => e (by rw [← y]; exact x.2.2)
    exact g ⟨x.1, by omega, x.2.2⟩
section CMC
variable {A : Int → Int → Int} {T C : Int → Int} {t k r : Int} {s : List CFr} {v : Int → Int}
/-- all that a rule with clear does -/
theorem cm_clr (hT : CTo A T C) (hr : r ≠ 12) (ha : A r t = 2) (h : CIv ((t, k, r, 0) :: s, v)) : CIv ((t, k, r + 1, 0) :: s, repl v (T r) (C r) k (-1000) 30) ∧ cfin A T C ((t, k, r + 1, 0) :: s, repl v (T r) (C r) k (-1000) 30) = cfin A T C ((t, k, r, 0) :: s, v) ∧ pn (repl v (T r) (C r) k (-1000) 30) = pn v := by
  obtain ⟨hT1, hC1⟩ := hT r t (by omega)
  have key : ∀ n : Nat, n ≤ 30 → CIv ((t, k, r, (n : Int)) :: s, repl v (T r) (C r) k (-1000) n) ∧ cfin A T C ((t, k, r, (n : Int)) :: s, repl v (T r) (C r) k (-1000) n) = cfin A T C ((t, k, r, 0) :: s, v) ∧ pn (repl v (T r) (C r) k (-1000) n) = pn v := by
    intro n
    induction n with
    | zero => intro _; rw [show ((0 : Nat) : Int) = 0 from rfl, repl_0]; exact ⟨h, rfl, rfl⟩
    | succ n ih =>
      intro hn
      obtain ⟨i1, i2, i3⟩ := ih (by omega)
      have hin : 0 ≤ T r ∧ T r < 3 ∧ 0 ≤ (n : Int) ∧ (n : Int) < 30 ∧ 0 ≤ C r ∧ C r < 3 := by omega
      have ec : cel (repl v (T r) (C r) k (-1000) n) (T r) n (C r) = v (90 * T r + 30 * C r + n) := by rw [cel_in hin, repl_at (Int.le_refl _)]
      have e1 : ((n + 1 : Nat) : Int) = (n : Int) + 1 := by omega
      have es : cst A T C ((t, k, r, (n : Int)) :: s, repl v (T r) (C r) k (-1000) n) = ((t, k, r, (n : Int) + 1) :: s, repl v (T r) (C r) k (-1000) ((n : Int) + 1)) ∧ pn (repl v (T r) (C r) k (-1000) ((n : Int) + 1)) = pn (repl v (T r) (C r) k (-1000) n) := by
        by_cases q : v (90 * T r + 30 * C r + n) = k
        · have kk := (i1.1 (t, k, r, (n : Int)) List.mem_cons_self).2.1
          have hp : repl v (T r) (C r) k (-1000) n (90 * T r + 30 * C r + n) ≠ -2000 := by
            rw [repl_at (Int.le_refl _), q]
            have : 0 ≤ k := kk.1
            omega
          refine ⟨by rw [cst_cl hr (by omega) ha (ec.trans q), repl_1 (by omega) q], ?_⟩
          rw [← repl_1 (by omega) q]
          exact (i1.2.2.set hp (x := -1000) (by decide)).2
        · exact ⟨by rw [cst_sk hr (by omega) (by omega) (fun x => q (ec.symm.trans x)), repl_2 q], by rw [repl_2 q]⟩
      have j1 := (cst_iv hT i1).1
      have j2 := cfin_s hT i1
      rw [es.1] at j1 j2
      rw [e1]
      exact ⟨j1, j2.trans i2, es.2.trans i3⟩
  obtain ⟨i1, i2, i3⟩ := key 30 (Nat.le_refl _)
  have e30 : ((30 : Nat) : Int) = 30 := rfl
  rw [e30] at i1 i2 i3
  have es : cst A T C ((t, k, r, (30 : Int)) :: s, repl v (T r) (C r) k (-1000) 30) = ((t, k, r + 1, 0) :: s, repl v (T r) (C r) k (-1000) 30) := cst_nx hr (Or.inl rfl)
  have j1 := (cst_iv hT i1).1
  have j2 := cfin_s hT i1
  rw [es] at j1 j2
  exact ⟨j1, j2.trans i2, i3⟩
/-- keys that are passed over -/
theorem cm_sk (hT : CTo A T C) (hr : r ≠ 12) (ha : 0 < A r t) {n m : Int} (h : CIv ((t, k, r, n) :: s, v)) (hm : n ≤ m ∧ m ≤ 30) (hk : ∀ j : Int, n ≤ j → j < m → cel v (T r) j (C r) ≠ k) : CIv ((t, k, r, m) :: s, v) ∧ cfin A T C ((t, k, r, m) :: s, v) = cfin A T C ((t, k, r, n) :: s, v) := by
  have key : ∀ d : Nat, n + d ≤ m → CIv ((t, k, r, n + d) :: s, v) ∧ cfin A T C ((t, k, r, n + d) :: s, v) = cfin A T C ((t, k, r, n) :: s, v) := by
    intro d
    induction d with
    | zero => intro _; rw [show n + ((0 : Nat) : Int) = n from by omega]; exact ⟨h, rfl⟩
    | succ d ih =>
      intro hd
      obtain ⟨i1, i2⟩ := ih (by omega)
      have es : cst A T C ((t, k, r, n + d) :: s, v) = ((t, k, r, n + d + 1) :: s, v) := cst_sk hr (by omega) ha (hk _ (by omega) (by omega))
      have j1 := (cst_iv hT i1).1
      have j2 := cfin_s hT i1
      rw [es] at j1 j2
      rw [show n + ((d + 1 : Nat) : Int) = n + d + 1 from by omega]
      exact ⟨j1, j2.trans i2⟩
  have := key (m - n).toNat (by omega)
  rw [show n + (((m - n).toNat : Nat) : Int) = m from by omega] at this
  exact this
/-- one step, and what is kept by it -/
theorem cm_st (hT : CTo A T C) {S S2 : CSt} (h : CIv S) (e : cst A T C S = S2) : CIv S2 ∧ cfin A T C S2 = cfin A T C S := by
  subst e
  exact ⟨(cst_iv hT h).1, cfin_s hT h⟩
end CMC
/-- steps that the class may still take -/
def cnu : List CFr → Int
  | [] => 0
  | x :: s => 13 - x.2.2.1 + cnu s
theorem cnu_b {s : List CFr} (h : ∀ x, x ∈ s → CFok x) : 0 ≤ cnu s ∧ (s ≠ [] → 1 ≤ cnu s) := by
  induction s with
  | nil => exact ⟨Int.le_refl _, fun q => absurd rfl q⟩
  | cons x s ih =>
    have h1 := h x List.mem_cons_self
    have h2 := ih (fun y hy => h y (List.mem_cons_of_mem _ hy))
    unfold CFok at h1
    unfold cnu
    exact ⟨by omega, fun _ => by omega⟩
/-! the rules that rows follow, and the stack, as the reference has them -/
def refA (f : Nat → Int32) (r t : Int) : Int := if 0 ≤ r ∧ r < 12 ∧ aI f (10 * r + 0) = 1 ∧ aI f (10 * r + 3) = t then aI f (10 * r + 8) else 0
def refT (f : Nat → Int32) (r : Int) : Int := if 0 ≤ r ∧ r < 12 ∧ aI f (10 * r + 0) = 1 then aI f (10 * r + 1) else 0
def refC (f : Nat → Int32) (r : Int) : Int := if 0 ≤ r ∧ r < 12 ∧ aI f (10 * r + 0) = 1 then aI f (10 * r + 2) else 0
theorem refA_f {f : Nat → Int32} {r t : Int} : ((0 ≤ r ∧ r < 12 ∧ aI f (10 * r + 0) = 1 ∧ aI f (10 * r + 3) = t) ∧ refA f r t = aI f (10 * r + 8)) ∨ (¬ (0 ≤ r ∧ r < 12 ∧ aI f (10 * r + 0) = 1 ∧ aI f (10 * r + 3) = t) ∧ refA f r t = 0) := by
  unfold refA
  split
  · exact Or.inl ⟨by assumption, rfl⟩
  · exact Or.inr ⟨by assumption, rfl⟩
theorem refT_f {f : Nat → Int32} {r t : Int} (h : 0 < refA f r t) : (0 ≤ r ∧ r < 12) ∧ refT f r = aI f (10 * r + 1) ∧ refC f r = aI f (10 * r + 2) ∧ refA f r t = aI f (10 * r + 8) := by
  rcases refA_f (f := f) (r := r) (t := t) with ⟨e, q⟩ | ⟨e, q⟩
  · have g : 0 ≤ r ∧ r < 12 ∧ aI f (10 * r + 0) = 1 := ⟨e.1, e.2.1, e.2.2.1⟩
    exact ⟨⟨e.1, e.2.1⟩, if_pos g, if_pos g, q⟩
  · omega
theorem refTo {f : Nat → Int32} (h : RV f) : CTo (refA f) (refT f) (refC f) := by
  intro r t ha
  obtain ⟨h1, h2, h3, -⟩ := refT_f ha
  have h4 := h r h1.1 (by omega)
  unfold RVr at h4
  rw [h2, h3]
  exact ⟨by omega, by omega⟩
def gst (a b c d : Nat → Int32) : Nat → List CFr
  | 0 => []
  | n + 1 => ((a n).toInt, (b n).toInt, (c n).toInt, (d n).toInt) :: gst a b c d n
theorem gst_len (a b c d : Nat → Int32) (n : Nat) : (gst a b c d n).length = n := by
  induction n with
  | zero => rfl
  | succ n ih => show (gst a b c d n).length + 1 = n + 1; rw [ih]
theorem gst_p {a b c d : Nat → Int32} {n : Int} (h : 0 < n) : gst a b c d n.toNat = (aI a (n - 1), aI b (n - 1), aI c (n - 1), aI d (n - 1)) :: gst a b c d (n - 1).toNat := by
  have e : n.toNat = (n - 1).toNat + 1 := by omega
  rw [e]
  rfl
theorem gst_cg {a b c d a2 b2 c2 d2 : Nat → Int32} {n : Nat} (h : ∀ z : Int, 0 ≤ z → z < n → aI a2 z = aI a z ∧ aI b2 z = aI b z ∧ aI c2 z = aI c z ∧ aI d2 z = aI d z) : gst a2 b2 c2 d2 n = gst a b c d n := by
  induction n with
  | zero => rfl
  | succ n ih =>
    obtain ⟨h1, h2, h3, h4⟩ := h (n : Int) (by omega) (by omega)
    show (aI a2 n, aI b2 n, aI c2 n, aI d2 n) :: gst a2 b2 c2 d2 n = (aI a n, aI b n, aI c n, aI d n) :: gst a b c d n
    rw [h1, h2, h3, h4, ih (fun z z0 z1 => h z z0 (by omega))]
/-- the topmost has another rule, or another next key -/
theorem gst_u {a b c d c2 d2 : Nat → Int32} {n X Y : Int} (h : 0 < n) (hc : ∀ z : Int, 0 ≤ z → aI c2 z = if z = n - 1 then X else aI c z) (hd : ∀ z : Int, 0 ≤ z → aI d2 z = if z = n - 1 then Y else aI d z) : gst a b c2 d2 n.toNat = (aI a (n - 1), aI b (n - 1), X, Y) :: gst a b c d (n - 1).toNat := by
  rw [gst_p h, hc _ (by omega), if_pos rfl, hd _ (by omega), if_pos rfl, gst_cg (a := a) (b := b) (c := c) (d := d)]
  intro z z0 z1
  rw [hc z z0, hd z z0, if_neg (by omega), if_neg (by omega)]
  exact ⟨rfl, rfl, rfl, rfl⟩
theorem gst_n {a b c d d2 : Nat → Int32} {n Y : Int} (h : 0 < n) (hd : ∀ z : Int, 0 ≤ z → aI d2 z = if z = n - 1 then Y else aI d z) : gst a b c d2 n.toNat = (aI a (n - 1), aI b (n - 1), aI c (n - 1), Y) :: gst a b c d (n - 1).toNat := by
  rw [gst_p h, hd _ (by omega), if_pos rfl, gst_cg (a := a) (b := b) (c := c) (d := d)]
  intro z z0 z1
  rw [hd z z0, if_neg (by omega)]
  exact ⟨rfl, rfl, rfl, rfl⟩
/-- one more on the stack -/
theorem gst_g {a b c d a2 b2 c2 d2 : Nat → Int32} {n X1 X2 X3 X4 : Int} (h : 0 ≤ n) (h1 : ∀ z : Int, 0 ≤ z → aI a2 z = if z = n then X1 else aI a z) (h2 : ∀ z : Int, 0 ≤ z → aI b2 z = if z = n then X2 else aI b z) (h3 : ∀ z : Int, 0 ≤ z → aI c2 z = if z = n then X3 else aI c z) (h4 : ∀ z : Int, 0 ≤ z → aI d2 z = if z = n then X4 else aI d z) : gst a2 b2 c2 d2 (n + 1).toNat = (X1, X2, X3, X4) :: gst a b c d n.toNat := by
  rw [gst_p (by omega), show n + 1 - 1 = n from by omega, h1 n h, h2 n h, h3 n h, h4 n h, if_pos rfl, if_pos rfl, if_pos rfl, if_pos rfl, gst_cg (a := a) (b := b) (c := c) (d := d)]
  intro z z0 z1
  rw [h1 z z0, h2 z z0, h3 z z0, h4 z z0, if_neg (by omega), if_neg (by omega), if_neg (by omega), if_neg (by omega)]
  exact ⟨rfl, rfl, rfl, rfl⟩
theorem gst_top {a b c d : Nat → Int32} {n : Int} {v : Int → Int} (h : 0 < n) (hi : CIv (gst a b c d n.toNat, v)) : ((0 ≤ aI a (n - 1) ∧ aI a (n - 1) < 3) ∧ (0 ≤ aI b (n - 1) ∧ aI b (n - 1) < 30) ∧ (0 ≤ aI c (n - 1) ∧ aI c (n - 1) ≤ 12) ∧ (0 ≤ aI d (n - 1) ∧ aI d (n - 1) ≤ 30)) ∧ n + pn v ≤ 90 := by
  have h1 := hi.1 (aI a (n - 1), aI b (n - 1), aI c (n - 1), aI d (n - 1)) (by show _ ∈ gst a b c d n.toNat; rw [gst_p h]; exact List.mem_cons_self)
  have h2 : ((gst a b c d n.toNat).length : Int) + pn v ≤ 90 := hi.2.1
  rw [gst_len] at h2
  exact ⟨h1, by omega⟩
theorem RM.rc {f : Nat → Int32} {b : Int} (h : RM f b) : RC (mw f b) := by
  intro t k c a1 a2 a3 a4 a5 a6
  have h1 := h.absent t k c ⟨a5, a6⟩
  rw [cel_in ⟨a1, a2, a3, a4, a5, a6⟩, cel_in ⟨a1, a2, a3, a4, by decide, by decide⟩, Int.mul_zero, Int.add_zero] at h1
  exact h1
/-- there is a row less than there could be -/
theorem civ_0 {v : Int → Int} (h : RC v) {t k : Int} (h0 : 0 ≤ t ∧ t < 3 ∧ 0 ≤ k ∧ k < 30) (hp : cel v t k 0 ≠ -2000) : CIv ([(t, k, 0, 0)], rfil v t k (-2000) 3) ∧ pn (rfil v t k (-2000) 3) ≤ 89 := by
  rw [cel_in (by omega), Int.mul_zero, Int.add_zero] at hp
  obtain ⟨e1, e2⟩ := h.cut h0 hp
  have hb := pn_b v
  refine ⟨⟨fun x hx => ?_, ?_, e1⟩, by omega⟩
  · rw [List.mem_singleton.mp hx]
    exact ⟨⟨h0.1, h0.2.1⟩, ⟨h0.2.2.1, h0.2.2.2⟩, ⟨show (0 : Int) ≤ 0 from by decide, show (0 : Int) ≤ 12 from by decide⟩, ⟨show (0 : Int) ≤ 0 from by decide, show (0 : Int) ≤ 30 from by decide⟩⟩
  · show ((1 : Nat) : Int) + pn (rfil v t k (-2000) 3) ≤ 90
    omega
theorem cst_dn {A : Int → Int → Int} {T C : Int → Int} (hT : CTo A T C) {S S2 : CSt} {x : CFr} {s : List CFr} (h : CIv S) (e : cst A T C S = S2) (hs : S.1 = x :: s) : cmu S2 < cmu S := by
  subst e
  exact (cst_iv hT h).2 (by rw [hs]; exact List.cons_ne_nil _ _)
theorem pn_pos {v : Int → Int} {t k c : Int} (h : RC v) (hc : cel v t k c ≠ -2000) : 1 ≤ pn v := by
  by_cases g : 0 ≤ t ∧ t < 3 ∧ 0 ≤ k ∧ k < 30 ∧ 0 ≤ c ∧ c < 3
  · rw [cel_in g] at hc
    have e := (h.cut (t := t) (k := k) ⟨g.1, g.2.1, g.2.2.1, g.2.2.2.1⟩ (fun q => hc ((h t k c g.1 g.2.1 g.2.2.1 g.2.2.2.1 g.2.2.2.2.1 g.2.2.2.2.2).mpr q))).2
    have b := pn_b (rfil v t k (-2000) 3)
    omega
  · exact absurd (cel_out g) hc
