/-! ===== what is compared: subjects in a row, changed keys, unlike questions ===== -/
def SO (f : Nat → Int32) (n : Int) : Prop := ∀ i j : Nat, i < j → (j : Int) < n → (f i).toInt < (f j).toInt
def MB (f : Nat → Int32) (n y : Int) : Prop := ∃ i : Nat, (i : Int) < n ∧ (f i).toInt = y
theorem SO_0 {f : Nat → Int32} {n : Int} (h : n ≤ 0) : SO f n := fun i j h1 h2 => absurd h2 (by omega)
theorem MB_0 {f : Nat → Int32} {n y : Int} (h : n ≤ 0) : ¬ MB f n y := fun ⟨i, h1, _⟩ => absurd h1 (by omega)
/-- x is put in at p: those ahead are below, those behind above -/
theorem SO_ins {f g : Nat → Int32} {n x : Int} {p : Nat} {xv : Int32} (hx : xv.toInt = x) (hs : SO f n) (h0 : 0 ≤ n) (hp : (p : Int) ≤ n) (h1 : ∀ i : Nat, i < p → (f i).toInt < x) (h2 : ∀ i : Nat, p ≤ i → (i : Int) < n → x < (f i).toInt) (hg : ∀ i : Nat, (i : Int) ≤ n → g i = insF f p xv i) : SO g (n + 1) ∧ ∀ y : Int, MB g (n + 1) y ↔ MB f n y ∨ y = x := by
  subst hx
  refine ⟨fun i j hij hj => ?_, fun y => ⟨fun ⟨i, hi, hy⟩ => ?_, fun h => ?_⟩⟩
  · rw [hg i (by omega), hg j (by omega)]
    unfold insF
    by_cases a1 : i < p
    · rw [if_pos a1]
      by_cases b1 : j < p
      · rw [if_pos b1]; exact hs i j hij (by omega)
      · rw [if_neg b1]
        by_cases b2 : j = p
        · rw [if_pos b2]; exact h1 i a1
        · rw [if_neg b2]
          have := h2 (j - 1) (by omega) (by omega)
          have := h1 i a1
          omega
    · rw [if_neg a1, if_neg (show ¬ (j < p) by omega), if_neg (show ¬ (j = p) by omega)]
      by_cases a2 : i = p
      · rw [if_pos a2]; exact h2 (j - 1) (by omega) (by omega)
      · rw [if_neg a2]; exact hs (i - 1) (j - 1) (by omega) (by omega)
  · rw [hg i (by omega)] at hy
    unfold insF at hy
    by_cases a1 : i < p
    · rw [if_pos a1] at hy; exact Or.inl ⟨i, by omega, hy⟩
    · rw [if_neg a1] at hy
      by_cases a2 : i = p
      · rw [if_pos a2] at hy; exact Or.inr hy.symm
      · rw [if_neg a2] at hy; exact Or.inl ⟨i - 1, by omega, hy⟩
  · rcases h with ⟨i, hi, hy⟩ | e
    · by_cases a1 : i < p
      · refine ⟨i, by omega, ?_⟩
        rw [hg i (by omega)]
        unfold insF
        rw [if_pos a1]
        exact hy
      · refine ⟨i + 1, by omega, ?_⟩
        rw [hg (i + 1) (by omega)]
        unfold insF
        rw [if_neg (by omega), if_neg (by omega)]
        exact hy
    · refine ⟨p, by omega, ?_⟩
      rw [hg p hp]
      unfold insF
      rw [if_neg (by omega), if_pos rfl]
      exact e.symm
def sbj (kd v : Int) : Prop := ((kd = 2 ∨ kd = 4 ∨ kd = 5) ∧ 0 ≤ v ∧ v < 30) ∨ (¬ (kd = 2 ∨ kd = 4 ∨ kd = 5) ∧ -99 ≤ v ∧ v ≤ 99)
/-- offered by the row k -/
def OV (kd w v y : Int) : Prop := ¬ (w = v ∧ kd ≠ 3) ∧ ((y = w ∧ sbj kd w) ∨ (y = v ∧ sbj kd v))
/-- keys that came or went, and that changed -/
def CHt (r1 r2 : Int → Int) (cg ch : Int → Int) (t : Int) : Prop := ∀ k : Int, 0 ≤ k → k < 30 → (bI (cg t) k = 1 ↔ ¬ (cel r1 t k 0 = -2000 ↔ cel r2 t k 0 = -2000)) ∧ (bI (ch t) k = 1 ↔ (cel r1 t k 0 ≠ cel r2 t k 0 ∨ cel r1 t k 1 ≠ cel r2 t k 1 ∨ cel r1 t k 2 ≠ cel r2 t k 2))
def CH (r1 r2 : Int → Int) (cg ch : Int → Int) : Prop := ∀ t : Int, 0 ≤ t → t < 3 → CHt r1 r2 cg ch t
/-- offered for a rule -/
def OFd (r1 r2 : Int → Int) (cg ch : Int → Int) (kd t c o y : Int) : Prop := ((kd = 2 ∨ kd = 5) ∧ 0 ≤ y ∧ y < 30 ∧ bI (ch t) y = 1) ∨ (¬ (kd = 2 ∨ kd = 5) ∧ ∃ k : Int, 0 ≤ k ∧ k < 30 ∧ bI (ch t) k = 1 ∧ OV kd (cel r1 t k c) (cel r2 t k c) y) ∨ ((kd = 1 ∨ kd = 4) ∧ 0 ≤ y ∧ y < 30 ∧ bI (cg o) y = 1)
theorem hv_cg {r1 r2 : Int → Int} {b v : Int} (h : ∀ k : Int, 0 ≤ k → k < 30 → (r1 (b + k) = v ↔ r2 (b + k) = v)) : hv r1 b v 30 = hv r2 b v 30 := by
  rw [hv_eq, hv_eq]
  have key : ∀ n : Nat, n ≤ 30 → hvR r1 b v n = hvR r2 b v n := by
    intro n
    induction n with
    | zero => intro _; rfl
    | succ n ih =>
      intro hn
      show hvR r1 b v n + (if r1 (b + n) = v then 1 else 0) = hvR r2 b v n + (if r2 (b + n) = v then 1 else 0)
      rw [ih (by omega)]
      have := h n (by omega) (by omega)
      by_cases e : r1 (b + n) = v
      · rw [if_pos e, if_pos (this.mp e)]
      · rw [if_neg e, if_neg (fun q => e (this.mpr q))]
  exact key _ (by omega)
theorem smq_cg {r1 r2 : Int → Int} {b b2 v : Int} (h : ∀ k : Int, 0 ≤ k → k < 30 → (r1 (b + k) = v ↔ r2 (b + k) = v) ∧ (r1 (b + k) = v → r1 (b2 + k) = r2 (b2 + k))) : smq r1 b b2 v 30 = smq r2 b b2 v 30 := by
  rw [smq_eq, smq_eq]
  have key : ∀ n : Nat, n ≤ 30 → smR r1 b b2 v n = smR r2 b b2 v n := by
    intro n
    induction n with
    | zero => intro _; rfl
    | succ n ih =>
      intro hn
      show smR r1 b b2 v n + (if r1 (b + n) = v then (if r1 (b2 + n) = -1000 then 0 else r1 (b2 + n)) else 0) = smR r2 b b2 v n + (if r2 (b + n) = v then (if r2 (b2 + n) = -1000 then 0 else r2 (b2 + n)) else 0)
      rw [ih (by omega)]
      obtain ⟨h1, h2⟩ := h n (by omega) (by omega)
      by_cases e : r1 (b + n) = v
      · rw [if_pos e, if_pos (h1.mp e), h2 e]
      · rw [if_neg e, if_neg (fun q => e (h1.mpr q))]
  exact key _ (by omega)
/-- what is unlike was offered -/
theorem OFd.all {r1 r2 cg ch : Int → Int} {kd t c o y : Int} (h : CH r1 r2 cg ch) (hk : 0 ≤ kd ∧ kd ≤ 5) (ht : 0 ≤ t ∧ t ≤ 2) (hc : 0 ≤ c ∧ c ≤ 2) (ho : kd = 1 ∨ kd = 3 ∨ kd = 4 → 0 ≤ o ∧ o ≤ 2) (hy : sbj kd y) (hu : stt r1 kd t c o y ≠ stt r2 kd t c o y) : OFd r1 r2 cg ch kd t c o y := by
  have hC := h t ht.1 (by omega)
  have hcel : ∀ (r : Int → Int) (k : Int), 0 ≤ k → k < 30 → cel r t k c = r (90 * t + 30 * c + k) := fun r k a b => cel_in (by omega)
  -- no key that changed has y here or there
  have main : (∀ k : Int, 0 ≤ k → k < 30 → bI (ch t) k = 1 → ¬ OV kd (cel r1 t k c) (cel r2 t k c) y) → ∀ k : Int, 0 ≤ k → k < 30 → (r1 (90 * t + 30 * c + k) = y ↔ r2 (90 * t + 30 * c + k) = y) := by
    intro hn k k0 k1
    rw [← hcel r1 k k0 k1, ← hcel r2 k k0 k1]
    by_cases hb : bI (ch t) k = 1
    · have := hn k k0 k1 hb
      unfold OV at this
      constructor
      · intro e
        by_cases q : cel r1 t k c = cel r2 t k c
        · rw [← q]; exact e
        · exact absurd ⟨fun z => q z.1, Or.inl ⟨e.symm, by rw [e]; exact hy⟩⟩ this
      · intro e
        by_cases q : cel r1 t k c = cel r2 t k c
        · rw [q]; exact e
        · exact absurd ⟨fun z => q z.1, Or.inr ⟨e.symm, by rw [e]; exact hy⟩⟩ this
    · have hs : cel r1 t k c = cel r2 t k c := by
        have h2 := (hC k k0 k1).2
        have h3 : ¬ (cel r1 t k 0 ≠ cel r2 t k 0 ∨ cel r1 t k 1 ≠ cel r2 t k 1 ∨ cel r1 t k 2 ≠ cel r2 t k 2) := fun z => hb (h2.mpr z)
        have hc3 : c = 0 ∨ c = 1 ∨ c = 2 := by omega
        rcases hc3 with e | e | e <;> subst e <;> omega
      rw [hs]
  by_cases k25 : kd = 2 ∨ kd = 5
  · refine Or.inl ⟨k25, ?_⟩
    have e1 := (stt_k (r := r1) (kd := kd) (t := t) (c := c) (o := o) (s := y)).2.2.2 k25
    have e2 := (stt_k (r := r2) (kd := kd) (t := t) (c := c) (o := o) (s := y)).2.2.2 k25
    rw [e1, e2] at hu
    have hy2 : 0 ≤ y ∧ y < 30 := by unfold sbj at hy; omega
    refine ⟨hy2.1, hy2.2, ((hC y hy2.1 hy2.2).2).mpr ?_⟩
    have hc3 : c = 0 ∨ c = 1 ∨ c = 2 := by omega
    rcases hc3 with e | e | e <;> subst e <;> omega
  · by_cases hA : ∃ k : Int, 0 ≤ k ∧ k < 30 ∧ bI (ch t) k = 1 ∧ OV kd (cel r1 t k c) (cel r2 t k c) y
    · exact Or.inr (Or.inl ⟨k25, hA⟩)
    · have hn : ∀ k : Int, 0 ≤ k → k < 30 → bI (ch t) k = 1 → ¬ OV kd (cel r1 t k c) (cel r2 t k c) y := fun k a b d e => hA ⟨k, a, b, d, e⟩
      have hm := main hn
      have hh : hv r1 (90 * t + 30 * c) y 30 = hv r2 (90 * t + 30 * c) y 30 := hv_cg hm
      have s1 := stt_k (r := r1) (kd := kd) (t := t) (c := c) (o := o) (s := y)
      have s2 := stt_k (r := r2) (kd := kd) (t := t) (c := c) (o := o) (s := y)
      by_cases k0 : kd = 0
      · exact absurd (by rw [s1.1 k0, s2.1 k0, hh]) hu
      · by_cases k3 : kd = 3
        · have hsm : smq r1 (90 * t + 30 * c) (90 * t + 30 * o) y 30 = smq r2 (90 * t + 30 * c) (90 * t + 30 * o) y 30 := by
            refine smq_cg (fun k a b => ⟨hm k a b, fun e => ?_⟩)
            have hoo := ho (Or.inr (Or.inl k3))
            by_cases hb : bI (ch t) k = 1
            · exfalso
              refine hn k a b hb ⟨fun z => z.2 k3, Or.inl ⟨?_, ?_⟩⟩
              · rw [hcel r1 k a b]; exact e.symm
              · rw [hcel r1 k a b, e]; exact hy
            · have h3 : ¬ (cel r1 t k 0 ≠ cel r2 t k 0 ∨ cel r1 t k 1 ≠ cel r2 t k 1 ∨ cel r1 t k 2 ≠ cel r2 t k 2) := fun z => hb (((hC k a b).2).mpr z)
              have q : cel r1 t k o = cel r2 t k o := by
                have hc3 : o = 0 ∨ o = 1 ∨ o = 2 := by omega
                rcases hc3 with e | e | e <;> subst e <;> omega
              rw [cel_in (by omega), cel_in (by omega)] at q
              exact q
          have a1 := s1.2.2.1 k3
          have a2 := s2.2.2.1 k3
          rw [hh, hsm] at a1
          exfalso
          apply hu
          rcases a1 with ⟨x1, x2⟩ | ⟨x1, x2⟩ <;> rcases a2 with ⟨y1, y2⟩ | ⟨y1, y2⟩ <;> omega
        · have k14 : kd = 1 ∨ kd = 4 := by omega
          have hoo := ho (by omega)
          refine Or.inr (Or.inr ⟨k14, ?_⟩)
          have a1 := s1.2.1 k14
          have a2 := s2.2.1 k14
          rw [hh] at a1
          by_cases hy3 : 0 ≤ y ∧ y < 30
          · refine ⟨hy3.1, hy3.2, ((h o hoo.1 (by omega) y hy3.1 hy3.2).1).mpr (fun q => hu ?_)⟩
            rcases a1 with ⟨x1, x2⟩ | ⟨x1, x2⟩ <;> rcases a2 with ⟨y1, y2⟩ | ⟨y1, y2⟩
            · omega
            · exact absurd (q.mp x1) y1
            · exact absurd (q.mpr y1) x1
            · omega
          · exfalso
            apply hu
            have z1 : cel r1 o y 0 = -2000 := cel_out (by omega)
            have z2 : cel r2 o y 0 = -2000 := cel_out (by omega)
            rcases a1 with ⟨x1, x2⟩ | ⟨x1, x2⟩ <;> rcases a2 with ⟨y1, y2⟩ | ⟨y1, y2⟩ <;> omega
/-- lists in order with the same members are the same -/
theorem sorted_ext : ∀ (l1 l2 : List Int), l1.Pairwise (· < ·) → l2.Pairwise (· < ·) → (∀ x, x ∈ l1 ↔ x ∈ l2) → l1 = l2
  | [], [], _, _, _ => rfl
  | [], y :: l2, _, _, h => absurd ((h y).mpr (List.mem_cons_self)) (by simp)
  | x :: l1, [], _, _, h => absurd ((h x).mp (List.mem_cons_self)) (by simp)
  | x :: l1, y :: l2, h1, h2, h => by
    rw [List.pairwise_cons] at h1 h2
    have e : x = y := by
      rcases List.mem_cons.mp ((h x).mp List.mem_cons_self) with q | q
      · exact q
      · rcases List.mem_cons.mp ((h y).mpr List.mem_cons_self) with r | r
        · exact r.symm
        · have := h2.1 x q
          have := h1.1 y r
          omega
    subst e
    congr 1
    refine sorted_ext l1 l2 h1.2 h2.2 (fun z => ⟨fun hz => ?_, fun hz => ?_⟩)
    · rcases List.mem_cons.mp ((h z).mp (List.mem_cons_of_mem _ hz)) with q | q
      · have := h1.1 z hz
        omega
      · exact q
    · rcases List.mem_cons.mp ((h z).mpr (List.mem_cons_of_mem _ hz)) with q | q
      · have := h2.1 z hz
        omega
      · exact q
/-- all subjects of a kind, in order -/
def subs (kd : Int) : List Int := if kd = 2 ∨ kd = 4 ∨ kd = 5 then (List.range 30).map (fun i : Nat => (i : Int)) else (List.range 199).map (fun i : Nat => (i : Int) - 99)
theorem subs_mem (kd x : Int) : x ∈ subs kd ↔ sbj kd x := by
  unfold subs sbj
  split
  · rename_i h
    rw [List.mem_map]
    constructor
    · rintro ⟨i, hi, rfl⟩
      rw [List.mem_range] at hi
      exact Or.inl ⟨h, by omega, by omega⟩
    · intro q
      refine ⟨x.toNat, List.mem_range.mpr (by omega), by omega⟩
  · rename_i h
    rw [List.mem_map]
    constructor
    · rintro ⟨i, hi, rfl⟩
      rw [List.mem_range] at hi
      exact Or.inr ⟨h, by omega, by omega⟩
    · intro q
      refine ⟨(x + 99).toNat, List.mem_range.mpr (by omega), by omega⟩
theorem subs_so (kd : Int) : (subs kd).Pairwise (· < ·) := by
  unfold subs
  split
  · refine List.Pairwise.map _ (fun a b h => ?_) (List.pairwise_lt_range)
    omega
  · refine List.Pairwise.map _ (fun a b h => ?_) (List.pairwise_lt_range)
    omega
theorem lst_so {f : Nat → Int} {n : Nat} (h : ∀ i j, i < j → j < n → f i < f j) : (lst f n).Pairwise (· < ·) := by
  unfold lst
  refine List.Pairwise.map f (R := fun a b => a < b ∧ b < n) (fun a b hab => h a b hab.1 hab.2) ?_
  refine List.Pairwise.imp_of_mem (fun {a b} ha hb hab => ⟨hab, List.mem_range.mp hb⟩) (List.pairwise_lt_range)
theorem lst_mem {α : Type} {f : Nat → α} {n : Nat} {x : α} : x ∈ lst f n ↔ ∃ i, i < n ∧ f i = x := by
  unfold lst
  rw [List.mem_map]
  constructor
  · rintro ⟨i, hi, e⟩
    exact ⟨i, List.mem_range.mp hi, e⟩
  · rintro ⟨i, hi, e⟩
    exact ⟨i, List.mem_range.mpr hi, e⟩
/-- the question of a rule at s, if its states are unlike -/
noncomputable def uq1 (r1 r2 : Int → Int) (q : Nat → Int32) (s : Int) : Option Qt :=
  if stt r1 (q 0).toInt (q 2).toInt (q 3).toInt (q 4).toInt s ≠ stt r2 (q 0).toInt (q 2).toInt (q 3).toInt (q 4).toInt s then some ((q 1).toInt, s, stt r1 (q 0).toInt (q 2).toInt (q 3).toInt (q 4).toInt s, stt r2 (q 0).toInt (q 2).toInt (q 3).toInt (q 4).toInt s, (q 9).toInt, flq r2 (q 0).toInt (q 2).toInt (q 3).toInt (q 5).toInt (q 6).toInt s (stt r2 (q 0).toInt (q 2).toInt (q 3).toInt (q 4).toInt s)) else none
noncomputable def uqs (r1 r2 : Int → Int) (q : Nat → Int32) : List Qt := (subs (q 0).toInt).filterMap (uq1 r1 r2 q)
theorem filterMap_on {α : Type} (g : Int → Option α) : ∀ l : List Int, l.filterMap g = (l.filter (fun x => (g x).isSome)).filterMap g
  | [] => rfl
  | x :: l => by
    cases h : g x with
    | none =>
      rw [List.filterMap_cons_none h, List.filter_cons_of_neg (by rw [h]; exact Bool.false_ne_true)]
      exact filterMap_on g l
    | some y =>
      rw [List.filterMap_cons_some h, List.filter_cons_of_pos (by rw [h]; rfl), List.filterMap_cons_some h, filterMap_on g l]
theorem uqs_of {r1 r2 : Int → Int} {q : Nat → Int32} {f : Nat → Int32} {n : Int} (h0 : 0 ≤ n) (hs : SO f n) (hm : ∀ y, MB f n y → sbj (q 0).toInt y) (hc : ∀ y, sbj (q 0).toInt y → stt r1 (q 0).toInt (q 2).toInt (q 3).toInt (q 4).toInt y ≠ stt r2 (q 0).toInt (q 2).toInt (q 3).toInt (q 4).toInt y → MB f n y) : (lst (fun i => (f i).toInt) n.toNat).filterMap (uq1 r1 r2 q) = uqs r1 r2 q := by
  unfold uqs
  rw [filterMap_on _ (lst _ _), filterMap_on _ (subs _)]
  congr 1
  refine sorted_ext _ _ (List.Pairwise.filter _ (lst_so (fun i j a b => hs i j a (by omega)))) (List.Pairwise.filter _ (subs_so _)) (fun x => ?_)
  rw [List.mem_filter, List.mem_filter, subs_mem, lst_mem]
  constructor
  · rintro ⟨⟨i, hi, e⟩, h2⟩
    exact ⟨hm x ⟨i, by omega, e⟩, h2⟩
  · rintro ⟨h1, h2⟩
    have h3 : stt r1 (q 0).toInt (q 2).toInt (q 3).toInt (q 4).toInt x ≠ stt r2 (q 0).toInt (q 2).toInt (q 3).toInt (q 4).toInt x := by
      intro e
      unfold uq1 at h2
      rw [if_neg (fun z => z e)] at h2
      cases h2
    obtain ⟨i, hi, e⟩ := hc x h1 h3
    exact ⟨⟨i, by omega, e⟩, h2⟩
theorem v_X1_insert_81_1 {K : Nat → Nat} {F : Nat → Nat → Nat} (a : Nat) (G : XG) (l2_5 : Int32) (p0 : Int32) (N5 : Nat) (k_60 : Int32)
    (ha : K a = 3)
    (so : SO (G.2.1 (F a 2)) ((G.1 a 3).toInt))
    (pa : ∀ i : Nat, l2_5.toInt ≤ (i : Int) → (i : Int) < (G.1 a 3).toInt → p0.toInt < (G.2.1 (F a 2) i).toInt)
    (s0 : 0 ≤ ((G.1 a 3).toInt) ∧ ((G.1 a 3).toInt) ≤ 89)
    (I5_0 : 0 ≤ l2_5.toInt ∧ l2_5.toInt ≤ ((G.1 a 3).toInt))
    (hm5 : l2_5.toInt + 1 < (((N5) + 1 : Nat) : Int))
    (I33_1 : l2_5.toInt = 0 ∨ (aI (G.2.1 (F a 2)) (l2_5.toInt - 1)) ≤ p0.toInt)
    (I60_0 : (k_60.toInt = 1 ∧ 1 ≤ l2_5.toInt ∧ (aI (G.2.1 (F a 2)) (l2_5.toInt - 1)) = p0.toInt) ∨ (k_60.toInt = 0 ∧ (l2_5.toInt = 0 ∨ (aI (G.2.1 (F a 2)) (l2_5.toInt - 1)) < p0.toInt)))
    (c62 : k_60.toInt ≠ 0) :
    SO (G.2.1 (F a 2)) ((G.1 a 3).toInt) := by
  first | (exfalso; omega) | skip
  all_goals (
    first
      | exact so
      | (rw [d_G147_a_3, e146, I88_1]
         have e4 : l2_5.toNatClampNeg = l2_5.toInt.toNat := rfl
         have e5 : l4_88.toInt.toNat = l2_5.toInt.toNat := by omega
         rw [e5] at ps
         have hg := shf_ins (g2 := G147.2.1 (F a 2)) (x := p0) ps (by rw [c_G147_F_a_2, cput_j hG139, e4, if_pos rfl]) (fun j hj => by rw [c_G147_F_a_2, cput_j hG139, e4, if_neg hj])
         exact (SO_ins rfl so (by omega) (by omega) (fun i hi => by
           have e3 : aI (G.2.1 (F a 2)) (l2_5.toInt - 1) = (G.2.1 (F a 2) (l2_5.toInt - 1).toNat).toInt := rfl
           by_cases q : i = (l2_5.toInt - 1).toNat
           · rw [q, ← e3]; omega
           · have := so i (l2_5.toInt - 1).toNat (by omega) (by omega)
             rw [← e3] at this
             omega) (fun i h1 h2 => pa i (by omega) h2) (fun i hi => hg i (by omega))).1))
theorem v_X1_insert_81_2 {K : Nat → Nat} {F : Nat → Nat → Nat} (a : Nat) (G : XG) (l2_5 : Int32) (p0 : Int32) (N5 : Nat) (k_60 : Int32)
    (ha : K a = 3)
    (so : SO (G.2.1 (F a 2)) ((G.1 a 3).toInt))
    (pa : ∀ i : Nat, l2_5.toInt ≤ (i : Int) → (i : Int) < (G.1 a 3).toInt → p0.toInt < (G.2.1 (F a 2) i).toInt)
    (s0 : 0 ≤ ((G.1 a 3).toInt) ∧ ((G.1 a 3).toInt) ≤ 89)
    (I5_0 : 0 ≤ l2_5.toInt ∧ l2_5.toInt ≤ ((G.1 a 3).toInt))
    (hm5 : l2_5.toInt + 1 < (((N5) + 1 : Nat) : Int))
    (I33_1 : l2_5.toInt = 0 ∨ (aI (G.2.1 (F a 2)) (l2_5.toInt - 1)) ≤ p0.toInt)
    (I60_0 : (k_60.toInt = 1 ∧ 1 ≤ l2_5.toInt ∧ (aI (G.2.1 (F a 2)) (l2_5.toInt - 1)) = p0.toInt) ∨ (k_60.toInt = 0 ∧ (l2_5.toInt = 0 ∨ (aI (G.2.1 (F a 2)) (l2_5.toInt - 1)) < p0.toInt)))
    (c62 : k_60.toInt ≠ 0) :
    ∀ y : Int, MB (G.2.1 (F a 2)) ((G.1 a 3).toInt) y ↔ MB (G.2.1 (F a 2)) ((G.1 a 3).toInt) y ∨ y = p0.toInt := by
  first | (exfalso; omega) | skip
  all_goals (
    first
      | (intro y
         have e3 : aI (G.2.1 (F a 2)) (l2_5.toInt - 1) = (G.2.1 (F a 2) (l2_5.toInt - 1).toNat).toInt := rfl
         exact ⟨Or.inl, fun h => h.elim id (fun q => ⟨(l2_5.toInt - 1).toNat, by omega, by rw [← e3]; omega⟩)⟩)
      | (rw [d_G147_a_3, e146, I88_1]
         have e4 : l2_5.toNatClampNeg = l2_5.toInt.toNat := rfl
         have e5 : l4_88.toInt.toNat = l2_5.toInt.toNat := by omega
         rw [e5] at ps
         have hg := shf_ins (g2 := G147.2.1 (F a 2)) (x := p0) ps (by rw [c_G147_F_a_2, cput_j hG139, e4, if_pos rfl]) (fun j hj => by rw [c_G147_F_a_2, cput_j hG139, e4, if_neg hj])
         exact (SO_ins rfl so (by omega) (by omega) (fun i hi => by
           have e3 : aI (G.2.1 (F a 2)) (l2_5.toInt - 1) = (G.2.1 (F a 2) (l2_5.toInt - 1).toNat).toInt := rfl
           by_cases q : i = (l2_5.toInt - 1).toNat
           · rw [q, ← e3]; omega
           · have := so i (l2_5.toInt - 1).toNat (by omega) (by omega)
             rw [← e3] at this
             omega) (fun i h1 h2 => pa i (by omega) h2) (fun i hi => hg i (by omega))).2))
theorem v_X1_insert_81_3 {K : Nat → Nat} {F : Nat → Nat → Nat} (a : Nat) (G : XG) (l2_5 : Int32) (p0 : Int32) (N5 : Nat) (k_60 : Int32)
    (ha : K a = 3)
    (so : SO (G.2.1 (F a 2)) ((G.1 a 3).toInt))
    (pa : ∀ i : Nat, l2_5.toInt ≤ (i : Int) → (i : Int) < (G.1 a 3).toInt → p0.toInt < (G.2.1 (F a 2) i).toInt)
    (s0 : 0 ≤ ((G.1 a 3).toInt) ∧ ((G.1 a 3).toInt) ≤ 89)
    (I5_0 : 0 ≤ l2_5.toInt ∧ l2_5.toInt ≤ ((G.1 a 3).toInt))
    (hm5 : l2_5.toInt + 1 < (((N5) + 1 : Nat) : Int))
    (I33_1 : l2_5.toInt = 0 ∨ (aI (G.2.1 (F a 2)) (l2_5.toInt - 1)) ≤ p0.toInt)
    (I60_0 : (k_60.toInt = 1 ∧ 1 ≤ l2_5.toInt ∧ (aI (G.2.1 (F a 2)) (l2_5.toInt - 1)) = p0.toInt) ∨ (k_60.toInt = 0 ∧ (l2_5.toInt = 0 ∨ (aI (G.2.1 (F a 2)) (l2_5.toInt - 1)) < p0.toInt)))
    (c62 : ¬ (k_60.toInt ≠ 0))
    (c69 : ((G.1 a 3).toInt) < 0) :
    SO (G.2.1 (F a 2)) ((G.1 a 3).toInt) := by
  first | (exfalso; omega) | skip
  all_goals (
    first
      | exact so
      | (rw [d_G147_a_3, e146, I88_1]
         have e4 : l2_5.toNatClampNeg = l2_5.toInt.toNat := rfl
         have e5 : l4_88.toInt.toNat = l2_5.toInt.toNat := by omega
         rw [e5] at ps
         have hg := shf_ins (g2 := G147.2.1 (F a 2)) (x := p0) ps (by rw [c_G147_F_a_2, cput_j hG139, e4, if_pos rfl]) (fun j hj => by rw [c_G147_F_a_2, cput_j hG139, e4, if_neg hj])
         exact (SO_ins rfl so (by omega) (by omega) (fun i hi => by
           have e3 : aI (G.2.1 (F a 2)) (l2_5.toInt - 1) = (G.2.1 (F a 2) (l2_5.toInt - 1).toNat).toInt := rfl
           by_cases q : i = (l2_5.toInt - 1).toNat
           · rw [q, ← e3]; omega
           · have := so i (l2_5.toInt - 1).toNat (by omega) (by omega)
             rw [← e3] at this
             omega) (fun i h1 h2 => pa i (by omega) h2) (fun i hi => hg i (by omega))).1))
theorem v_X1_insert_81_4 {K : Nat → Nat} {F : Nat → Nat → Nat} (a : Nat) (G : XG) (l2_5 : Int32) (p0 : Int32) (N5 : Nat) (k_60 : Int32)
    (ha : K a = 3)
    (so : SO (G.2.1 (F a 2)) ((G.1 a 3).toInt))
    (pa : ∀ i : Nat, l2_5.toInt ≤ (i : Int) → (i : Int) < (G.1 a 3).toInt → p0.toInt < (G.2.1 (F a 2) i).toInt)
    (s0 : 0 ≤ ((G.1 a 3).toInt) ∧ ((G.1 a 3).toInt) ≤ 89)
    (I5_0 : 0 ≤ l2_5.toInt ∧ l2_5.toInt ≤ ((G.1 a 3).toInt))
    (hm5 : l2_5.toInt + 1 < (((N5) + 1 : Nat) : Int))
    (I33_1 : l2_5.toInt = 0 ∨ (aI (G.2.1 (F a 2)) (l2_5.toInt - 1)) ≤ p0.toInt)
    (I60_0 : (k_60.toInt = 1 ∧ 1 ≤ l2_5.toInt ∧ (aI (G.2.1 (F a 2)) (l2_5.toInt - 1)) = p0.toInt) ∨ (k_60.toInt = 0 ∧ (l2_5.toInt = 0 ∨ (aI (G.2.1 (F a 2)) (l2_5.toInt - 1)) < p0.toInt)))
    (c62 : ¬ (k_60.toInt ≠ 0))
    (c69 : ((G.1 a 3).toInt) < 0) :
    ∀ y : Int, MB (G.2.1 (F a 2)) ((G.1 a 3).toInt) y ↔ MB (G.2.1 (F a 2)) ((G.1 a 3).toInt) y ∨ y = p0.toInt := by
  first | (exfalso; omega) | skip
  all_goals (
    first
      | (intro y
         have e3 : aI (G.2.1 (F a 2)) (l2_5.toInt - 1) = (G.2.1 (F a 2) (l2_5.toInt - 1).toNat).toInt := rfl
         exact ⟨Or.inl, fun h => h.elim id (fun q => ⟨(l2_5.toInt - 1).toNat, by omega, by rw [← e3]; omega⟩)⟩)
      | (rw [d_G147_a_3, e146, I88_1]
         have e4 : l2_5.toNatClampNeg = l2_5.toInt.toNat := rfl
         have e5 : l4_88.toInt.toNat = l2_5.toInt.toNat := by omega
         rw [e5] at ps
         have hg := shf_ins (g2 := G147.2.1 (F a 2)) (x := p0) ps (by rw [c_G147_F_a_2, cput_j hG139, e4, if_pos rfl]) (fun j hj => by rw [c_G147_F_a_2, cput_j hG139, e4, if_neg hj])
         exact (SO_ins rfl so (by omega) (by omega) (fun i hi => by
           have e3 : aI (G.2.1 (F a 2)) (l2_5.toInt - 1) = (G.2.1 (F a 2) (l2_5.toInt - 1).toNat).toInt := rfl
           by_cases q : i = (l2_5.toInt - 1).toNat
           · rw [q, ← e3]; omega
           · have := so i (l2_5.toInt - 1).toNat (by omega) (by omega)
             rw [← e3] at this
             omega) (fun i h1 h2 => pa i (by omega) h2) (fun i hi => hg i (by omega))).2))
theorem v_X1_insert_150_5 {K : Nat → Nat} {F : Nat → Nat → Nat} (a : Nat) (G : XG) (G_88 : XG) (l2_5 : Int32) (p0 : Int32) (l4_88 : Int32) (N5 : Nat) (k_60 : Int32) (N88 : Nat)
    (ha : K a = 3)
    (so : SO (G.2.1 (F a 2)) ((G.1 a 3).toInt))
    (pa : ∀ i : Nat, l2_5.toInt ≤ (i : Int) → (i : Int) < (G.1 a 3).toInt → p0.toInt < (G.2.1 (F a 2) i).toInt)
    (ps : shf (G.2.1 (F a 2)) (G_88.2.1 (F a 2)) (l4_88.toInt).toNat ((G.1 a 3).toInt).toNat)
    (s0 : 0 ≤ ((G.1 a 3).toInt) ∧ ((G.1 a 3).toInt) ≤ 89)
    (I5_0 : 0 ≤ l2_5.toInt ∧ l2_5.toInt ≤ ((G.1 a 3).toInt))
    (hm5 : l2_5.toInt + 1 < (((N5) + 1 : Nat) : Int))
    (I33_1 : l2_5.toInt = 0 ∨ (aI (G.2.1 (F a 2)) (l2_5.toInt - 1)) ≤ p0.toInt)
    (I60_0 : (k_60.toInt = 1 ∧ 1 ≤ l2_5.toInt ∧ (aI (G.2.1 (F a 2)) (l2_5.toInt - 1)) = p0.toInt) ∨ (k_60.toInt = 0 ∧ (l2_5.toInt = 0 ∨ (aI (G.2.1 (F a 2)) (l2_5.toInt - 1)) < p0.toInt)))
    (c62 : ¬ (k_60.toInt ≠ 0))
    (c69 : ¬ (((G.1 a 3).toInt) < 0))
    (c78 : ((G.1 a 3).toInt) < (90 : Int))
    (I88_0 : l2_5.toInt ≤ l4_88.toInt ∧ l4_88.toInt ≤ ((G.1 a 3).toInt))
    (I88_1 : ((G_88.1 a 3).toInt) = ((G.1 a 3).toInt))
    (hm88 : l4_88.toInt + 1 < (((N88) + 1 : Nat) : Int))
    (c91 : l4_88.toInt ≤ l2_5.toInt)
    (c124 : l2_5.toInt < 0) :
    SO (G_88.2.1 (F a 2)) ((G_88.1 a 3).toInt) := by
  first | (exfalso; omega) | skip
  all_goals (
    first
      | exact so
      | (rw [d_G147_a_3, e146, I88_1]
         have e4 : l2_5.toNatClampNeg = l2_5.toInt.toNat := rfl
         have e5 : l4_88.toInt.toNat = l2_5.toInt.toNat := by omega
         rw [e5] at ps
         have hg := shf_ins (g2 := G147.2.1 (F a 2)) (x := p0) ps (by rw [c_G147_F_a_2, cput_j hG139, e4, if_pos rfl]) (fun j hj => by rw [c_G147_F_a_2, cput_j hG139, e4, if_neg hj])
         exact (SO_ins rfl so (by omega) (by omega) (fun i hi => by
           have e3 : aI (G.2.1 (F a 2)) (l2_5.toInt - 1) = (G.2.1 (F a 2) (l2_5.toInt - 1).toNat).toInt := rfl
           by_cases q : i = (l2_5.toInt - 1).toNat
           · rw [q, ← e3]; omega
           · have := so i (l2_5.toInt - 1).toNat (by omega) (by omega)
             rw [← e3] at this
             omega) (fun i h1 h2 => pa i (by omega) h2) (fun i hi => hg i (by omega))).1))
theorem v_X1_insert_150_6 {K : Nat → Nat} {F : Nat → Nat → Nat} (a : Nat) (G : XG) (G_88 : XG) (l2_5 : Int32) (p0 : Int32) (l4_88 : Int32) (N5 : Nat) (k_60 : Int32) (N88 : Nat)
    (ha : K a = 3)
    (so : SO (G.2.1 (F a 2)) ((G.1 a 3).toInt))
    (pa : ∀ i : Nat, l2_5.toInt ≤ (i : Int) → (i : Int) < (G.1 a 3).toInt → p0.toInt < (G.2.1 (F a 2) i).toInt)
    (ps : shf (G.2.1 (F a 2)) (G_88.2.1 (F a 2)) (l4_88.toInt).toNat ((G.1 a 3).toInt).toNat)
    (s0 : 0 ≤ ((G.1 a 3).toInt) ∧ ((G.1 a 3).toInt) ≤ 89)
    (I5_0 : 0 ≤ l2_5.toInt ∧ l2_5.toInt ≤ ((G.1 a 3).toInt))
    (hm5 : l2_5.toInt + 1 < (((N5) + 1 : Nat) : Int))
    (I33_1 : l2_5.toInt = 0 ∨ (aI (G.2.1 (F a 2)) (l2_5.toInt - 1)) ≤ p0.toInt)
    (I60_0 : (k_60.toInt = 1 ∧ 1 ≤ l2_5.toInt ∧ (aI (G.2.1 (F a 2)) (l2_5.toInt - 1)) = p0.toInt) ∨ (k_60.toInt = 0 ∧ (l2_5.toInt = 0 ∨ (aI (G.2.1 (F a 2)) (l2_5.toInt - 1)) < p0.toInt)))
    (c62 : ¬ (k_60.toInt ≠ 0))
    (c69 : ¬ (((G.1 a 3).toInt) < 0))
    (c78 : ((G.1 a 3).toInt) < (90 : Int))
    (I88_0 : l2_5.toInt ≤ l4_88.toInt ∧ l4_88.toInt ≤ ((G.1 a 3).toInt))
    (I88_1 : ((G_88.1 a 3).toInt) = ((G.1 a 3).toInt))
    (hm88 : l4_88.toInt + 1 < (((N88) + 1 : Nat) : Int))
    (c91 : l4_88.toInt ≤ l2_5.toInt)
    (c124 : l2_5.toInt < 0) :
    ∀ y : Int, MB (G_88.2.1 (F a 2)) ((G_88.1 a 3).toInt) y ↔ MB (G.2.1 (F a 2)) ((G.1 a 3).toInt) y ∨ y = p0.toInt := by
  first | (exfalso; omega) | skip
  all_goals (
    first
      | (intro y
         have e3 : aI (G.2.1 (F a 2)) (l2_5.toInt - 1) = (G.2.1 (F a 2) (l2_5.toInt - 1).toNat).toInt := rfl
         exact ⟨Or.inl, fun h => h.elim id (fun q => ⟨(l2_5.toInt - 1).toNat, by omega, by rw [← e3]; omega⟩)⟩)
      | (rw [d_G147_a_3, e146, I88_1]
         have e4 : l2_5.toNatClampNeg = l2_5.toInt.toNat := rfl
         have e5 : l4_88.toInt.toNat = l2_5.toInt.toNat := by omega
         rw [e5] at ps
         have hg := shf_ins (g2 := G147.2.1 (F a 2)) (x := p0) ps (by rw [c_G147_F_a_2, cput_j hG139, e4, if_pos rfl]) (fun j hj => by rw [c_G147_F_a_2, cput_j hG139, e4, if_neg hj])
         exact (SO_ins rfl so (by omega) (by omega) (fun i hi => by
           have e3 : aI (G.2.1 (F a 2)) (l2_5.toInt - 1) = (G.2.1 (F a 2) (l2_5.toInt - 1).toNat).toInt := rfl
           by_cases q : i = (l2_5.toInt - 1).toNat
           · rw [q, ← e3]; omega
           · have := so i (l2_5.toInt - 1).toNat (by omega) (by omega)
             rw [← e3] at this
             omega) (fun i h1 h2 => pa i (by omega) h2) (fun i hi => hg i (by omega))).2))
theorem v_X1_insert_150_7 {K : Nat → Nat} {F : Nat → Nat → Nat} (a : Nat) (G : XG) (G_88 : XG) (l2_5 : Int32) (p0 : Int32) (l4_88 : Int32) (N5 : Nat) (k_60 : Int32) (N88 : Nat)
    (ha : K a = 3)
    (so : SO (G.2.1 (F a 2)) ((G.1 a 3).toInt))
    (pa : ∀ i : Nat, l2_5.toInt ≤ (i : Int) → (i : Int) < (G.1 a 3).toInt → p0.toInt < (G.2.1 (F a 2) i).toInt)
    (ps : shf (G.2.1 (F a 2)) (G_88.2.1 (F a 2)) (l4_88.toInt).toNat ((G.1 a 3).toInt).toNat)
    (s0 : 0 ≤ ((G.1 a 3).toInt) ∧ ((G.1 a 3).toInt) ≤ 89)
    (I5_0 : 0 ≤ l2_5.toInt ∧ l2_5.toInt ≤ ((G.1 a 3).toInt))
    (hm5 : l2_5.toInt + 1 < (((N5) + 1 : Nat) : Int))
    (I33_1 : l2_5.toInt = 0 ∨ (aI (G.2.1 (F a 2)) (l2_5.toInt - 1)) ≤ p0.toInt)
    (I60_0 : (k_60.toInt = 1 ∧ 1 ≤ l2_5.toInt ∧ (aI (G.2.1 (F a 2)) (l2_5.toInt - 1)) = p0.toInt) ∨ (k_60.toInt = 0 ∧ (l2_5.toInt = 0 ∨ (aI (G.2.1 (F a 2)) (l2_5.toInt - 1)) < p0.toInt)))
    (c62 : ¬ (k_60.toInt ≠ 0))
    (c69 : ¬ (((G.1 a 3).toInt) < 0))
    (c78 : ((G.1 a 3).toInt) < (90 : Int))
    (I88_0 : l2_5.toInt ≤ l4_88.toInt ∧ l4_88.toInt ≤ ((G.1 a 3).toInt))
    (I88_1 : ((G_88.1 a 3).toInt) = ((G.1 a 3).toInt))
    (hm88 : l4_88.toInt + 1 < (((N88) + 1 : Nat) : Int))
    (c91 : l4_88.toInt ≤ l2_5.toInt)
    (c124 : ¬ (l2_5.toInt < 0))
    (c130 : (90 : Int) ≤ l2_5.toInt) :
    SO (G_88.2.1 (F a 2)) ((G_88.1 a 3).toInt) := by
  first | (exfalso; omega) | skip
  all_goals (
    first
      | exact so
      | (rw [d_G147_a_3, e146, I88_1]
         have e4 : l2_5.toNatClampNeg = l2_5.toInt.toNat := rfl
         have e5 : l4_88.toInt.toNat = l2_5.toInt.toNat := by omega
         rw [e5] at ps
         have hg := shf_ins (g2 := G147.2.1 (F a 2)) (x := p0) ps (by rw [c_G147_F_a_2, cput_j hG139, e4, if_pos rfl]) (fun j hj => by rw [c_G147_F_a_2, cput_j hG139, e4, if_neg hj])
         exact (SO_ins rfl so (by omega) (by omega) (fun i hi => by
           have e3 : aI (G.2.1 (F a 2)) (l2_5.toInt - 1) = (G.2.1 (F a 2) (l2_5.toInt - 1).toNat).toInt := rfl
           by_cases q : i = (l2_5.toInt - 1).toNat
           · rw [q, ← e3]; omega
           · have := so i (l2_5.toInt - 1).toNat (by omega) (by omega)
             rw [← e3] at this
             omega) (fun i h1 h2 => pa i (by omega) h2) (fun i hi => hg i (by omega))).1))
theorem v_X1_insert_150_8 {K : Nat → Nat} {F : Nat → Nat → Nat} (a : Nat) (G : XG) (G_88 : XG) (l2_5 : Int32) (p0 : Int32) (l4_88 : Int32) (N5 : Nat) (k_60 : Int32) (N88 : Nat)
    (ha : K a = 3)
    (so : SO (G.2.1 (F a 2)) ((G.1 a 3).toInt))
    (pa : ∀ i : Nat, l2_5.toInt ≤ (i : Int) → (i : Int) < (G.1 a 3).toInt → p0.toInt < (G.2.1 (F a 2) i).toInt)
    (ps : shf (G.2.1 (F a 2)) (G_88.2.1 (F a 2)) (l4_88.toInt).toNat ((G.1 a 3).toInt).toNat)
    (s0 : 0 ≤ ((G.1 a 3).toInt) ∧ ((G.1 a 3).toInt) ≤ 89)
    (I5_0 : 0 ≤ l2_5.toInt ∧ l2_5.toInt ≤ ((G.1 a 3).toInt))
    (hm5 : l2_5.toInt + 1 < (((N5) + 1 : Nat) : Int))
    (I33_1 : l2_5.toInt = 0 ∨ (aI (G.2.1 (F a 2)) (l2_5.toInt - 1)) ≤ p0.toInt)
    (I60_0 : (k_60.toInt = 1 ∧ 1 ≤ l2_5.toInt ∧ (aI (G.2.1 (F a 2)) (l2_5.toInt - 1)) = p0.toInt) ∨ (k_60.toInt = 0 ∧ (l2_5.toInt = 0 ∨ (aI (G.2.1 (F a 2)) (l2_5.toInt - 1)) < p0.toInt)))
    (c62 : ¬ (k_60.toInt ≠ 0))
    (c69 : ¬ (((G.1 a 3).toInt) < 0))
    (c78 : ((G.1 a 3).toInt) < (90 : Int))
    (I88_0 : l2_5.toInt ≤ l4_88.toInt ∧ l4_88.toInt ≤ ((G.1 a 3).toInt))
    (I88_1 : ((G_88.1 a 3).toInt) = ((G.1 a 3).toInt))
    (hm88 : l4_88.toInt + 1 < (((N88) + 1 : Nat) : Int))
    (c91 : l4_88.toInt ≤ l2_5.toInt)
    (c124 : ¬ (l2_5.toInt < 0))
    (c130 : (90 : Int) ≤ l2_5.toInt) :
    ∀ y : Int, MB (G_88.2.1 (F a 2)) ((G_88.1 a 3).toInt) y ↔ MB (G.2.1 (F a 2)) ((G.1 a 3).toInt) y ∨ y = p0.toInt := by
  first | (exfalso; omega) | skip
  all_goals (
    first
      | (intro y
         have e3 : aI (G.2.1 (F a 2)) (l2_5.toInt - 1) = (G.2.1 (F a 2) (l2_5.toInt - 1).toNat).toInt := rfl
         exact ⟨Or.inl, fun h => h.elim id (fun q => ⟨(l2_5.toInt - 1).toNat, by omega, by rw [← e3]; omega⟩)⟩)
      | (rw [d_G147_a_3, e146, I88_1]
         have e4 : l2_5.toNatClampNeg = l2_5.toInt.toNat := rfl
         have e5 : l4_88.toInt.toNat = l2_5.toInt.toNat := by omega
         rw [e5] at ps
         have hg := shf_ins (g2 := G147.2.1 (F a 2)) (x := p0) ps (by rw [c_G147_F_a_2, cput_j hG139, e4, if_pos rfl]) (fun j hj => by rw [c_G147_F_a_2, cput_j hG139, e4, if_neg hj])
         exact (SO_ins rfl so (by omega) (by omega) (fun i hi => by
           have e3 : aI (G.2.1 (F a 2)) (l2_5.toInt - 1) = (G.2.1 (F a 2) (l2_5.toInt - 1).toNat).toInt := rfl
           by_cases q : i = (l2_5.toInt - 1).toNat
           · rw [q, ← e3]; omega
           · have := so i (l2_5.toInt - 1).toNat (by omega) (by omega)
             rw [← e3] at this
             omega) (fun i h1 h2 => pa i (by omega) h2) (fun i hi => hg i (by omega))).2))
theorem v_X1_insert_150_9 {K : Nat → Nat} {F : Nat → Nat → Nat} (a : Nat) (G : XG) (G_88 : XG) (G139 : XG) (l2_5 : Int32) (p0 : Int32) (G147 : XG) (x146 : Int32) (l4_88 : Int32) (N5 : Nat) (k_60 : Int32) (N88 : Nat)
    (ha : K a = 3)
    (hG139 : G139 = cput G_88 (F a 2) l2_5.toNatClampNeg p0)
    (so : SO (G.2.1 (F a 2)) ((G.1 a 3).toInt))
    (pa : ∀ i : Nat, l2_5.toInt ≤ (i : Int) → (i : Int) < (G.1 a 3).toInt → p0.toInt < (G.2.1 (F a 2) i).toInt)
    (ps : shf (G.2.1 (F a 2)) (G_88.2.1 (F a 2)) (l4_88.toInt).toNat ((G.1 a 3).toInt).toNat)
    (e146 : x146.toInt = (((G_88.1 a 3).toInt) + (1 : Int)))
    (s0 : 0 ≤ ((G.1 a 3).toInt) ∧ ((G.1 a 3).toInt) ≤ 89)
    (I5_0 : 0 ≤ l2_5.toInt ∧ l2_5.toInt ≤ ((G.1 a 3).toInt))
    (hm5 : l2_5.toInt + 1 < (((N5) + 1 : Nat) : Int))
    (I33_1 : l2_5.toInt = 0 ∨ (aI (G.2.1 (F a 2)) (l2_5.toInt - 1)) ≤ p0.toInt)
    (I60_0 : (k_60.toInt = 1 ∧ 1 ≤ l2_5.toInt ∧ (aI (G.2.1 (F a 2)) (l2_5.toInt - 1)) = p0.toInt) ∨ (k_60.toInt = 0 ∧ (l2_5.toInt = 0 ∨ (aI (G.2.1 (F a 2)) (l2_5.toInt - 1)) < p0.toInt)))
    (c62 : ¬ (k_60.toInt ≠ 0))
    (c69 : ¬ (((G.1 a 3).toInt) < 0))
    (c78 : ((G.1 a 3).toInt) < (90 : Int))
    (I88_0 : l2_5.toInt ≤ l4_88.toInt ∧ l4_88.toInt ≤ ((G.1 a 3).toInt))
    (I88_1 : ((G_88.1 a 3).toInt) = ((G.1 a 3).toInt))
    (hm88 : l4_88.toInt + 1 < (((N88) + 1 : Nat) : Int))
    (c91 : l4_88.toInt ≤ l2_5.toInt)
    (c124 : ¬ (l2_5.toInt < 0))
    (c130 : ¬ ((90 : Int) ≤ l2_5.toInt))
    (c_G147_F_a_2 : G147.2.1 (F a 2) = G139.2.1 (F a 2))
    (d_G147_a_3 : G147.1 a 3 = x146) :
    SO (G147.2.1 (F a 2)) ((G147.1 a 3).toInt) := by
  first | (exfalso; omega) | skip
  all_goals (
    first
      | exact so
      | (rw [d_G147_a_3, e146, I88_1]
         have e4 : l2_5.toNatClampNeg = l2_5.toInt.toNat := rfl
         have e5 : l4_88.toInt.toNat = l2_5.toInt.toNat := by omega
         rw [e5] at ps
         have hg := shf_ins (g2 := G147.2.1 (F a 2)) (x := p0) ps (by rw [c_G147_F_a_2, cput_j hG139, e4, if_pos rfl]) (fun j hj => by rw [c_G147_F_a_2, cput_j hG139, e4, if_neg hj])
         exact (SO_ins rfl so (by omega) (by omega) (fun i hi => by
           have e3 : aI (G.2.1 (F a 2)) (l2_5.toInt - 1) = (G.2.1 (F a 2) (l2_5.toInt - 1).toNat).toInt := rfl
           by_cases q : i = (l2_5.toInt - 1).toNat
           · rw [q, ← e3]; omega
           · have := so i (l2_5.toInt - 1).toNat (by omega) (by omega)
             rw [← e3] at this
             omega) (fun i h1 h2 => pa i (by omega) h2) (fun i hi => hg i (by omega))).1))
theorem v_X1_insert_150_10 {K : Nat → Nat} {F : Nat → Nat → Nat} (a : Nat) (G : XG) (G_88 : XG) (G139 : XG) (l2_5 : Int32) (p0 : Int32) (G147 : XG) (x146 : Int32) (l4_88 : Int32) (N5 : Nat) (k_60 : Int32) (N88 : Nat)
    (ha : K a = 3)
    (hG139 : G139 = cput G_88 (F a 2) l2_5.toNatClampNeg p0)
    (so : SO (G.2.1 (F a 2)) ((G.1 a 3).toInt))
    (pa : ∀ i : Nat, l2_5.toInt ≤ (i : Int) → (i : Int) < (G.1 a 3).toInt → p0.toInt < (G.2.1 (F a 2) i).toInt)
    (ps : shf (G.2.1 (F a 2)) (G_88.2.1 (F a 2)) (l4_88.toInt).toNat ((G.1 a 3).toInt).toNat)
    (e146 : x146.toInt = (((G_88.1 a 3).toInt) + (1 : Int)))
    (s0 : 0 ≤ ((G.1 a 3).toInt) ∧ ((G.1 a 3).toInt) ≤ 89)
    (I5_0 : 0 ≤ l2_5.toInt ∧ l2_5.toInt ≤ ((G.1 a 3).toInt))
    (hm5 : l2_5.toInt + 1 < (((N5) + 1 : Nat) : Int))
    (I33_1 : l2_5.toInt = 0 ∨ (aI (G.2.1 (F a 2)) (l2_5.toInt - 1)) ≤ p0.toInt)
    (I60_0 : (k_60.toInt = 1 ∧ 1 ≤ l2_5.toInt ∧ (aI (G.2.1 (F a 2)) (l2_5.toInt - 1)) = p0.toInt) ∨ (k_60.toInt = 0 ∧ (l2_5.toInt = 0 ∨ (aI (G.2.1 (F a 2)) (l2_5.toInt - 1)) < p0.toInt)))
    (c62 : ¬ (k_60.toInt ≠ 0))
    (c69 : ¬ (((G.1 a 3).toInt) < 0))
    (c78 : ((G.1 a 3).toInt) < (90 : Int))
    (I88_0 : l2_5.toInt ≤ l4_88.toInt ∧ l4_88.toInt ≤ ((G.1 a 3).toInt))
    (I88_1 : ((G_88.1 a 3).toInt) = ((G.1 a 3).toInt))
    (hm88 : l4_88.toInt + 1 < (((N88) + 1 : Nat) : Int))
    (c91 : l4_88.toInt ≤ l2_5.toInt)
    (c124 : ¬ (l2_5.toInt < 0))
    (c130 : ¬ ((90 : Int) ≤ l2_5.toInt))
    (c_G147_F_a_2 : G147.2.1 (F a 2) = G139.2.1 (F a 2))
    (d_G147_a_3 : G147.1 a 3 = x146) :
    ∀ y : Int, MB (G147.2.1 (F a 2)) ((G147.1 a 3).toInt) y ↔ MB (G.2.1 (F a 2)) ((G.1 a 3).toInt) y ∨ y = p0.toInt := by
  first | (exfalso; omega) | skip
  all_goals (
    first
      | (intro y
         have e3 : aI (G.2.1 (F a 2)) (l2_5.toInt - 1) = (G.2.1 (F a 2) (l2_5.toInt - 1).toNat).toInt := rfl
         exact ⟨Or.inl, fun h => h.elim id (fun q => ⟨(l2_5.toInt - 1).toNat, by omega, by rw [← e3]; omega⟩)⟩)
      | (rw [d_G147_a_3, e146, I88_1]
         have e4 : l2_5.toNatClampNeg = l2_5.toInt.toNat := rfl
         have e5 : l4_88.toInt.toNat = l2_5.toInt.toNat := by omega
         rw [e5] at ps
         have hg := shf_ins (g2 := G147.2.1 (F a 2)) (x := p0) ps (by rw [c_G147_F_a_2, cput_j hG139, e4, if_pos rfl]) (fun j hj => by rw [c_G147_F_a_2, cput_j hG139, e4, if_neg hj])
         exact (SO_ins rfl so (by omega) (by omega) (fun i hi => by
           have e3 : aI (G.2.1 (F a 2)) (l2_5.toInt - 1) = (G.2.1 (F a 2) (l2_5.toInt - 1).toNat).toInt := rfl
           by_cases q : i = (l2_5.toInt - 1).toNat
           · rw [q, ← e3]; omega
           · have := so i (l2_5.toInt - 1).toNat (by omega) (by omega)
             rw [← e3] at this
             omega) (fun i h1 h2 => pa i (by omega) h2) (fun i hi => hg i (by omega))).2))
theorem v_X1_insert_150_11 {K : Nat → Nat} {F : Nat → Nat → Nat} (a : Nat) (G : XG) (G_88 : XG) (l2_5 : Int32) (p0 : Int32) (l4_88 : Int32) (N5 : Nat) (k_60 : Int32) (N88 : Nat)
    (ha : K a = 3)
    (so : SO (G.2.1 (F a 2)) ((G.1 a 3).toInt))
    (pa : ∀ i : Nat, l2_5.toInt ≤ (i : Int) → (i : Int) < (G.1 a 3).toInt → p0.toInt < (G.2.1 (F a 2) i).toInt)
    (ps : shf (G.2.1 (F a 2)) (G_88.2.1 (F a 2)) (l4_88.toInt).toNat ((G.1 a 3).toInt).toNat)
    (s0 : 0 ≤ ((G.1 a 3).toInt) ∧ ((G.1 a 3).toInt) ≤ 89)
    (I5_0 : 0 ≤ l2_5.toInt ∧ l2_5.toInt ≤ ((G.1 a 3).toInt))
    (hm5 : l2_5.toInt + 1 < (((N5) + 1 : Nat) : Int))
    (I33_1 : l2_5.toInt = 0 ∨ (aI (G.2.1 (F a 2)) (l2_5.toInt - 1)) ≤ p0.toInt)
    (I60_0 : (k_60.toInt = 1 ∧ 1 ≤ l2_5.toInt ∧ (aI (G.2.1 (F a 2)) (l2_5.toInt - 1)) = p0.toInt) ∨ (k_60.toInt = 0 ∧ (l2_5.toInt = 0 ∨ (aI (G.2.1 (F a 2)) (l2_5.toInt - 1)) < p0.toInt)))
    (c62 : ¬ (k_60.toInt ≠ 0))
    (c69 : ¬ (((G.1 a 3).toInt) < 0))
    (c78 : ((G.1 a 3).toInt) < (90 : Int))
    (I88_0 : l2_5.toInt ≤ l4_88.toInt ∧ l4_88.toInt ≤ ((G.1 a 3).toInt))
    (I88_1 : ((G_88.1 a 3).toInt) = ((G.1 a 3).toInt))
    (hm88 : l4_88.toInt + 1 < (((N88) + 1 : Nat) : Int))
    (c91 : ¬ (l4_88.toInt ≤ l2_5.toInt))
    (c98 : (90 : Int) ≤ l4_88.toInt)
    (c124 : l2_5.toInt < 0) :
    SO (G_88.2.1 (F a 2)) ((G_88.1 a 3).toInt) := by
  first | (exfalso; omega) | skip
  all_goals (
    first
      | exact so
      | (rw [d_G147_a_3, e146, I88_1]
         have e4 : l2_5.toNatClampNeg = l2_5.toInt.toNat := rfl
         have e5 : l4_88.toInt.toNat = l2_5.toInt.toNat := by omega
         rw [e5] at ps
         have hg := shf_ins (g2 := G147.2.1 (F a 2)) (x := p0) ps (by rw [c_G147_F_a_2, cput_j hG139, e4, if_pos rfl]) (fun j hj => by rw [c_G147_F_a_2, cput_j hG139, e4, if_neg hj])
         exact (SO_ins rfl so (by omega) (by omega) (fun i hi => by
           have e3 : aI (G.2.1 (F a 2)) (l2_5.toInt - 1) = (G.2.1 (F a 2) (l2_5.toInt - 1).toNat).toInt := rfl
           by_cases q : i = (l2_5.toInt - 1).toNat
           · rw [q, ← e3]; omega
           · have := so i (l2_5.toInt - 1).toNat (by omega) (by omega)
             rw [← e3] at this
             omega) (fun i h1 h2 => pa i (by omega) h2) (fun i hi => hg i (by omega))).1))
theorem v_X1_insert_150_12 {K : Nat → Nat} {F : Nat → Nat → Nat} (a : Nat) (G : XG) (G_88 : XG) (l2_5 : Int32) (p0 : Int32) (l4_88 : Int32) (N5 : Nat) (k_60 : Int32) (N88 : Nat)
    (ha : K a = 3)
    (so : SO (G.2.1 (F a 2)) ((G.1 a 3).toInt))
    (pa : ∀ i : Nat, l2_5.toInt ≤ (i : Int) → (i : Int) < (G.1 a 3).toInt → p0.toInt < (G.2.1 (F a 2) i).toInt)
    (ps : shf (G.2.1 (F a 2)) (G_88.2.1 (F a 2)) (l4_88.toInt).toNat ((G.1 a 3).toInt).toNat)
    (s0 : 0 ≤ ((G.1 a 3).toInt) ∧ ((G.1 a 3).toInt) ≤ 89)
    (I5_0 : 0 ≤ l2_5.toInt ∧ l2_5.toInt ≤ ((G.1 a 3).toInt))
    (hm5 : l2_5.toInt + 1 < (((N5) + 1 : Nat) : Int))
    (I33_1 : l2_5.toInt = 0 ∨ (aI (G.2.1 (F a 2)) (l2_5.toInt - 1)) ≤ p0.toInt)
    (I60_0 : (k_60.toInt = 1 ∧ 1 ≤ l2_5.toInt ∧ (aI (G.2.1 (F a 2)) (l2_5.toInt - 1)) = p0.toInt) ∨ (k_60.toInt = 0 ∧ (l2_5.toInt = 0 ∨ (aI (G.2.1 (F a 2)) (l2_5.toInt - 1)) < p0.toInt)))
    (c62 : ¬ (k_60.toInt ≠ 0))
    (c69 : ¬ (((G.1 a 3).toInt) < 0))
    (c78 : ((G.1 a 3).toInt) < (90 : Int))
    (I88_0 : l2_5.toInt ≤ l4_88.toInt ∧ l4_88.toInt ≤ ((G.1 a 3).toInt))
    (I88_1 : ((G_88.1 a 3).toInt) = ((G.1 a 3).toInt))
    (hm88 : l4_88.toInt + 1 < (((N88) + 1 : Nat) : Int))
    (c91 : ¬ (l4_88.toInt ≤ l2_5.toInt))
    (c98 : (90 : Int) ≤ l4_88.toInt)
    (c124 : l2_5.toInt < 0) :
    ∀ y : Int, MB (G_88.2.1 (F a 2)) ((G_88.1 a 3).toInt) y ↔ MB (G.2.1 (F a 2)) ((G.1 a 3).toInt) y ∨ y = p0.toInt := by
  first | (exfalso; omega) | skip
  all_goals (
    first
      | (intro y
         have e3 : aI (G.2.1 (F a 2)) (l2_5.toInt - 1) = (G.2.1 (F a 2) (l2_5.toInt - 1).toNat).toInt := rfl
         exact ⟨Or.inl, fun h => h.elim id (fun q => ⟨(l2_5.toInt - 1).toNat, by omega, by rw [← e3]; omega⟩)⟩)
      | (rw [d_G147_a_3, e146, I88_1]
         have e4 : l2_5.toNatClampNeg = l2_5.toInt.toNat := rfl
         have e5 : l4_88.toInt.toNat = l2_5.toInt.toNat := by omega
         rw [e5] at ps
         have hg := shf_ins (g2 := G147.2.1 (F a 2)) (x := p0) ps (by rw [c_G147_F_a_2, cput_j hG139, e4, if_pos rfl]) (fun j hj => by rw [c_G147_F_a_2, cput_j hG139, e4, if_neg hj])
         exact (SO_ins rfl so (by omega) (by omega) (fun i hi => by
           have e3 : aI (G.2.1 (F a 2)) (l2_5.toInt - 1) = (G.2.1 (F a 2) (l2_5.toInt - 1).toNat).toInt := rfl
           by_cases q : i = (l2_5.toInt - 1).toNat
           · rw [q, ← e3]; omega
           · have := so i (l2_5.toInt - 1).toNat (by omega) (by omega)
             rw [← e3] at this
             omega) (fun i h1 h2 => pa i (by omega) h2) (fun i hi => hg i (by omega))).2))
theorem v_X1_insert_150_13 {K : Nat → Nat} {F : Nat → Nat → Nat} (a : Nat) (G : XG) (G_88 : XG) (l2_5 : Int32) (p0 : Int32) (l4_88 : Int32) (N5 : Nat) (k_60 : Int32) (N88 : Nat)
    (ha : K a = 3)
    (so : SO (G.2.1 (F a 2)) ((G.1 a 3).toInt))
    (pa : ∀ i : Nat, l2_5.toInt ≤ (i : Int) → (i : Int) < (G.1 a 3).toInt → p0.toInt < (G.2.1 (F a 2) i).toInt)
    (ps : shf (G.2.1 (F a 2)) (G_88.2.1 (F a 2)) (l4_88.toInt).toNat ((G.1 a 3).toInt).toNat)
    (s0 : 0 ≤ ((G.1 a 3).toInt) ∧ ((G.1 a 3).toInt) ≤ 89)
    (I5_0 : 0 ≤ l2_5.toInt ∧ l2_5.toInt ≤ ((G.1 a 3).toInt))
    (hm5 : l2_5.toInt + 1 < (((N5) + 1 : Nat) : Int))
    (I33_1 : l2_5.toInt = 0 ∨ (aI (G.2.1 (F a 2)) (l2_5.toInt - 1)) ≤ p0.toInt)
    (I60_0 : (k_60.toInt = 1 ∧ 1 ≤ l2_5.toInt ∧ (aI (G.2.1 (F a 2)) (l2_5.toInt - 1)) = p0.toInt) ∨ (k_60.toInt = 0 ∧ (l2_5.toInt = 0 ∨ (aI (G.2.1 (F a 2)) (l2_5.toInt - 1)) < p0.toInt)))
    (c62 : ¬ (k_60.toInt ≠ 0))
    (c69 : ¬ (((G.1 a 3).toInt) < 0))
    (c78 : ((G.1 a 3).toInt) < (90 : Int))
    (I88_0 : l2_5.toInt ≤ l4_88.toInt ∧ l4_88.toInt ≤ ((G.1 a 3).toInt))
    (I88_1 : ((G_88.1 a 3).toInt) = ((G.1 a 3).toInt))
    (hm88 : l4_88.toInt + 1 < (((N88) + 1 : Nat) : Int))
    (c91 : ¬ (l4_88.toInt ≤ l2_5.toInt))
    (c98 : (90 : Int) ≤ l4_88.toInt)
    (c124 : ¬ (l2_5.toInt < 0))
    (c130 : (90 : Int) ≤ l2_5.toInt) :
    SO (G_88.2.1 (F a 2)) ((G_88.1 a 3).toInt) := by
  first | (exfalso; omega) | skip
  all_goals (
    first
      | exact so
      | (rw [d_G147_a_3, e146, I88_1]
         have e4 : l2_5.toNatClampNeg = l2_5.toInt.toNat := rfl
         have e5 : l4_88.toInt.toNat = l2_5.toInt.toNat := by omega
         rw [e5] at ps
         have hg := shf_ins (g2 := G147.2.1 (F a 2)) (x := p0) ps (by rw [c_G147_F_a_2, cput_j hG139, e4, if_pos rfl]) (fun j hj => by rw [c_G147_F_a_2, cput_j hG139, e4, if_neg hj])
         exact (SO_ins rfl so (by omega) (by omega) (fun i hi => by
           have e3 : aI (G.2.1 (F a 2)) (l2_5.toInt - 1) = (G.2.1 (F a 2) (l2_5.toInt - 1).toNat).toInt := rfl
           by_cases q : i = (l2_5.toInt - 1).toNat
           · rw [q, ← e3]; omega
           · have := so i (l2_5.toInt - 1).toNat (by omega) (by omega)
             rw [← e3] at this
             omega) (fun i h1 h2 => pa i (by omega) h2) (fun i hi => hg i (by omega))).1))
theorem v_X1_insert_150_14 {K : Nat → Nat} {F : Nat → Nat → Nat} (a : Nat) (G : XG) (G_88 : XG) (l2_5 : Int32) (p0 : Int32) (l4_88 : Int32) (N5 : Nat) (k_60 : Int32) (N88 : Nat)
    (ha : K a = 3)
    (so : SO (G.2.1 (F a 2)) ((G.1 a 3).toInt))
    (pa : ∀ i : Nat, l2_5.toInt ≤ (i : Int) → (i : Int) < (G.1 a 3).toInt → p0.toInt < (G.2.1 (F a 2) i).toInt)
    (ps : shf (G.2.1 (F a 2)) (G_88.2.1 (F a 2)) (l4_88.toInt).toNat ((G.1 a 3).toInt).toNat)
    (s0 : 0 ≤ ((G.1 a 3).toInt) ∧ ((G.1 a 3).toInt) ≤ 89)
    (I5_0 : 0 ≤ l2_5.toInt ∧ l2_5.toInt ≤ ((G.1 a 3).toInt))
    (hm5 : l2_5.toInt + 1 < (((N5) + 1 : Nat) : Int))
    (I33_1 : l2_5.toInt = 0 ∨ (aI (G.2.1 (F a 2)) (l2_5.toInt - 1)) ≤ p0.toInt)
    (I60_0 : (k_60.toInt = 1 ∧ 1 ≤ l2_5.toInt ∧ (aI (G.2.1 (F a 2)) (l2_5.toInt - 1)) = p0.toInt) ∨ (k_60.toInt = 0 ∧ (l2_5.toInt = 0 ∨ (aI (G.2.1 (F a 2)) (l2_5.toInt - 1)) < p0.toInt)))
    (c62 : ¬ (k_60.toInt ≠ 0))
    (c69 : ¬ (((G.1 a 3).toInt) < 0))
    (c78 : ((G.1 a 3).toInt) < (90 : Int))
    (I88_0 : l2_5.toInt ≤ l4_88.toInt ∧ l4_88.toInt ≤ ((G.1 a 3).toInt))
    (I88_1 : ((G_88.1 a 3).toInt) = ((G.1 a 3).toInt))
    (hm88 : l4_88.toInt + 1 < (((N88) + 1 : Nat) : Int))
    (c91 : ¬ (l4_88.toInt ≤ l2_5.toInt))
    (c98 : (90 : Int) ≤ l4_88.toInt)
    (c124 : ¬ (l2_5.toInt < 0))
    (c130 : (90 : Int) ≤ l2_5.toInt) :
    ∀ y : Int, MB (G_88.2.1 (F a 2)) ((G_88.1 a 3).toInt) y ↔ MB (G.2.1 (F a 2)) ((G.1 a 3).toInt) y ∨ y = p0.toInt := by
  first | (exfalso; omega) | skip
  all_goals (
    first
      | (intro y
         have e3 : aI (G.2.1 (F a 2)) (l2_5.toInt - 1) = (G.2.1 (F a 2) (l2_5.toInt - 1).toNat).toInt := rfl
         exact ⟨Or.inl, fun h => h.elim id (fun q => ⟨(l2_5.toInt - 1).toNat, by omega, by rw [← e3]; omega⟩)⟩)
      | (rw [d_G147_a_3, e146, I88_1]
         have e4 : l2_5.toNatClampNeg = l2_5.toInt.toNat := rfl
         have e5 : l4_88.toInt.toNat = l2_5.toInt.toNat := by omega
         rw [e5] at ps
         have hg := shf_ins (g2 := G147.2.1 (F a 2)) (x := p0) ps (by rw [c_G147_F_a_2, cput_j hG139, e4, if_pos rfl]) (fun j hj => by rw [c_G147_F_a_2, cput_j hG139, e4, if_neg hj])
         exact (SO_ins rfl so (by omega) (by omega) (fun i hi => by
           have e3 : aI (G.2.1 (F a 2)) (l2_5.toInt - 1) = (G.2.1 (F a 2) (l2_5.toInt - 1).toNat).toInt := rfl
           by_cases q : i = (l2_5.toInt - 1).toNat
           · rw [q, ← e3]; omega
           · have := so i (l2_5.toInt - 1).toNat (by omega) (by omega)
             rw [← e3] at this
             omega) (fun i h1 h2 => pa i (by omega) h2) (fun i hi => hg i (by omega))).2))
theorem v_X1_insert_150_15 {K : Nat → Nat} {F : Nat → Nat → Nat} (a : Nat) (G : XG) (G_88 : XG) (G139 : XG) (l2_5 : Int32) (p0 : Int32) (G147 : XG) (x146 : Int32) (l4_88 : Int32) (N5 : Nat) (k_60 : Int32) (N88 : Nat)
    (ha : K a = 3)
    (hG139 : G139 = cput G_88 (F a 2) l2_5.toNatClampNeg p0)
    (so : SO (G.2.1 (F a 2)) ((G.1 a 3).toInt))
    (pa : ∀ i : Nat, l2_5.toInt ≤ (i : Int) → (i : Int) < (G.1 a 3).toInt → p0.toInt < (G.2.1 (F a 2) i).toInt)
    (ps : shf (G.2.1 (F a 2)) (G_88.2.1 (F a 2)) (l4_88.toInt).toNat ((G.1 a 3).toInt).toNat)
    (e146 : x146.toInt = (((G_88.1 a 3).toInt) + (1 : Int)))
    (s0 : 0 ≤ ((G.1 a 3).toInt) ∧ ((G.1 a 3).toInt) ≤ 89)
    (I5_0 : 0 ≤ l2_5.toInt ∧ l2_5.toInt ≤ ((G.1 a 3).toInt))
    (hm5 : l2_5.toInt + 1 < (((N5) + 1 : Nat) : Int))
    (I33_1 : l2_5.toInt = 0 ∨ (aI (G.2.1 (F a 2)) (l2_5.toInt - 1)) ≤ p0.toInt)
    (I60_0 : (k_60.toInt = 1 ∧ 1 ≤ l2_5.toInt ∧ (aI (G.2.1 (F a 2)) (l2_5.toInt - 1)) = p0.toInt) ∨ (k_60.toInt = 0 ∧ (l2_5.toInt = 0 ∨ (aI (G.2.1 (F a 2)) (l2_5.toInt - 1)) < p0.toInt)))
    (c62 : ¬ (k_60.toInt ≠ 0))
    (c69 : ¬ (((G.1 a 3).toInt) < 0))
    (c78 : ((G.1 a 3).toInt) < (90 : Int))
    (I88_0 : l2_5.toInt ≤ l4_88.toInt ∧ l4_88.toInt ≤ ((G.1 a 3).toInt))
    (I88_1 : ((G_88.1 a 3).toInt) = ((G.1 a 3).toInt))
    (hm88 : l4_88.toInt + 1 < (((N88) + 1 : Nat) : Int))
    (c91 : ¬ (l4_88.toInt ≤ l2_5.toInt))
    (c98 : (90 : Int) ≤ l4_88.toInt)
    (c124 : ¬ (l2_5.toInt < 0))
    (c130 : ¬ ((90 : Int) ≤ l2_5.toInt))
    (c_G147_F_a_2 : G147.2.1 (F a 2) = G139.2.1 (F a 2))
    (d_G147_a_3 : G147.1 a 3 = x146) :
    SO (G147.2.1 (F a 2)) ((G147.1 a 3).toInt) := by
  first | (exfalso; omega) | skip
  all_goals (
    first
      | exact so
      | (rw [d_G147_a_3, e146, I88_1]
         have e4 : l2_5.toNatClampNeg = l2_5.toInt.toNat := rfl
         have e5 : l4_88.toInt.toNat = l2_5.toInt.toNat := by omega
         rw [e5] at ps
         have hg := shf_ins (g2 := G147.2.1 (F a 2)) (x := p0) ps (by rw [c_G147_F_a_2, cput_j hG139, e4, if_pos rfl]) (fun j hj => by rw [c_G147_F_a_2, cput_j hG139, e4, if_neg hj])
         exact (SO_ins rfl so (by omega) (by omega) (fun i hi => by
           have e3 : aI (G.2.1 (F a 2)) (l2_5.toInt - 1) = (G.2.1 (F a 2) (l2_5.toInt - 1).toNat).toInt := rfl
           by_cases q : i = (l2_5.toInt - 1).toNat
           · rw [q, ← e3]; omega
           · have := so i (l2_5.toInt - 1).toNat (by omega) (by omega)
             rw [← e3] at this
             omega) (fun i h1 h2 => pa i (by omega) h2) (fun i hi => hg i (by omega))).1))
theorem v_X1_insert_150_16 {K : Nat → Nat} {F : Nat → Nat → Nat} (a : Nat) (G : XG) (G_88 : XG) (G139 : XG) (l2_5 : Int32) (p0 : Int32) (G147 : XG) (x146 : Int32) (l4_88 : Int32) (N5 : Nat) (k_60 : Int32) (N88 : Nat)
    (ha : K a = 3)
    (hG139 : G139 = cput G_88 (F a 2) l2_5.toNatClampNeg p0)
    (so : SO (G.2.1 (F a 2)) ((G.1 a 3).toInt))
    (pa : ∀ i : Nat, l2_5.toInt ≤ (i : Int) → (i : Int) < (G.1 a 3).toInt → p0.toInt < (G.2.1 (F a 2) i).toInt)
    (ps : shf (G.2.1 (F a 2)) (G_88.2.1 (F a 2)) (l4_88.toInt).toNat ((G.1 a 3).toInt).toNat)
    (e146 : x146.toInt = (((G_88.1 a 3).toInt) + (1 : Int)))
    (s0 : 0 ≤ ((G.1 a 3).toInt) ∧ ((G.1 a 3).toInt) ≤ 89)
    (I5_0 : 0 ≤ l2_5.toInt ∧ l2_5.toInt ≤ ((G.1 a 3).toInt))
    (hm5 : l2_5.toInt + 1 < (((N5) + 1 : Nat) : Int))
    (I33_1 : l2_5.toInt = 0 ∨ (aI (G.2.1 (F a 2)) (l2_5.toInt - 1)) ≤ p0.toInt)
    (I60_0 : (k_60.toInt = 1 ∧ 1 ≤ l2_5.toInt ∧ (aI (G.2.1 (F a 2)) (l2_5.toInt - 1)) = p0.toInt) ∨ (k_60.toInt = 0 ∧ (l2_5.toInt = 0 ∨ (aI (G.2.1 (F a 2)) (l2_5.toInt - 1)) < p0.toInt)))
    (c62 : ¬ (k_60.toInt ≠ 0))
    (c69 : ¬ (((G.1 a 3).toInt) < 0))
    (c78 : ((G.1 a 3).toInt) < (90 : Int))
    (I88_0 : l2_5.toInt ≤ l4_88.toInt ∧ l4_88.toInt ≤ ((G.1 a 3).toInt))
    (I88_1 : ((G_88.1 a 3).toInt) = ((G.1 a 3).toInt))
    (hm88 : l4_88.toInt + 1 < (((N88) + 1 : Nat) : Int))
    (c91 : ¬ (l4_88.toInt ≤ l2_5.toInt))
    (c98 : (90 : Int) ≤ l4_88.toInt)
    (c124 : ¬ (l2_5.toInt < 0))
    (c130 : ¬ ((90 : Int) ≤ l2_5.toInt))
    (c_G147_F_a_2 : G147.2.1 (F a 2) = G139.2.1 (F a 2))
    (d_G147_a_3 : G147.1 a 3 = x146) :
    ∀ y : Int, MB (G147.2.1 (F a 2)) ((G147.1 a 3).toInt) y ↔ MB (G.2.1 (F a 2)) ((G.1 a 3).toInt) y ∨ y = p0.toInt := by
  first | (exfalso; omega) | skip
  all_goals (
    first
      | (intro y
         have e3 : aI (G.2.1 (F a 2)) (l2_5.toInt - 1) = (G.2.1 (F a 2) (l2_5.toInt - 1).toNat).toInt := rfl
         exact ⟨Or.inl, fun h => h.elim id (fun q => ⟨(l2_5.toInt - 1).toNat, by omega, by rw [← e3]; omega⟩)⟩)
      | (rw [d_G147_a_3, e146, I88_1]
         have e4 : l2_5.toNatClampNeg = l2_5.toInt.toNat := rfl
         have e5 : l4_88.toInt.toNat = l2_5.toInt.toNat := by omega
         rw [e5] at ps
         have hg := shf_ins (g2 := G147.2.1 (F a 2)) (x := p0) ps (by rw [c_G147_F_a_2, cput_j hG139, e4, if_pos rfl]) (fun j hj => by rw [c_G147_F_a_2, cput_j hG139, e4, if_neg hj])
         exact (SO_ins rfl so (by omega) (by omega) (fun i hi => by
           have e3 : aI (G.2.1 (F a 2)) (l2_5.toInt - 1) = (G.2.1 (F a 2) (l2_5.toInt - 1).toNat).toInt := rfl
           by_cases q : i = (l2_5.toInt - 1).toNat
           · rw [q, ← e3]; omega
           · have := so i (l2_5.toInt - 1).toNat (by omega) (by omega)
             rw [← e3] at this
             omega) (fun i h1 h2 => pa i (by omega) h2) (fun i hi => hg i (by omega))).2))
theorem v_X1_insert_120_17 {K : Nat → Nat} {F : Nat → Nat → Nat} (a : Nat) (G : XG) (G_88 : XG) (G116 : XG) (l4_88 : Int32) (x115 : Int32) (l2_5 : Int32) (p0 : Int32) (N5 : Nat) (k_60 : Int32) (N88 : Nat)
    (ha : K a = 3)
    (hG116 : G116 = cput G_88 (F a 2) l4_88.toNatClampNeg x115)
    (so : SO (G.2.1 (F a 2)) ((G.1 a 3).toInt))
    (ps : shf (G.2.1 (F a 2)) (G_88.2.1 (F a 2)) (l4_88.toInt).toNat ((G.1 a 3).toInt).toNat)
    (hv115 : x115.toInt = (aI (G_88.2.1 (F a 2)) (l4_88.toInt - 1)))
    (s0 : 0 ≤ ((G.1 a 3).toInt) ∧ ((G.1 a 3).toInt) ≤ 89)
    (I5_0 : 0 ≤ l2_5.toInt ∧ l2_5.toInt ≤ ((G.1 a 3).toInt))
    (hm5 : l2_5.toInt + 1 < (((N5) + 1 : Nat) : Int))
    (I33_1 : l2_5.toInt = 0 ∨ (aI (G.2.1 (F a 2)) (l2_5.toInt - 1)) ≤ p0.toInt)
    (I60_0 : (k_60.toInt = 1 ∧ 1 ≤ l2_5.toInt ∧ (aI (G.2.1 (F a 2)) (l2_5.toInt - 1)) = p0.toInt) ∨ (k_60.toInt = 0 ∧ (l2_5.toInt = 0 ∨ (aI (G.2.1 (F a 2)) (l2_5.toInt - 1)) < p0.toInt)))
    (c62 : ¬ (k_60.toInt ≠ 0))
    (c69 : ¬ (((G.1 a 3).toInt) < 0))
    (c78 : ((G.1 a 3).toInt) < (90 : Int))
    (I88_0 : l2_5.toInt ≤ l4_88.toInt ∧ l4_88.toInt ≤ ((G.1 a 3).toInt))
    (I88_1 : ((G_88.1 a 3).toInt) = ((G.1 a 3).toInt))
    (hm88 : l4_88.toInt + 1 < (((N88) + 1 : Nat) : Int))
    (c91 : ¬ (l4_88.toInt ≤ l2_5.toInt))
    (c98 : ¬ ((90 : Int) ≤ l4_88.toInt)) :
    shf (G.2.1 (F a 2)) (G116.2.1 (F a 2)) (l4_88.toInt + (-1)).toNat ((G.1 a 3).toInt).toNat := by
  have e : l4_88.toInt.toNat = (l4_88.toInt + -1).toNat + 1 := by omega
  have e4 : l4_88.toNatClampNeg = l4_88.toInt.toNat := rfl
  refine shf_s (g := G_88.2.1 (F a 2)) (by rw [← e]; exact ps) ?_ (fun i hi => ?_)
  · rw [cput_j hG116, e4, if_pos e.symm]
    apply Int32.toInt_inj.mp
    rw [hv115]
    show (G_88.2.1 (F a 2) (l4_88.toInt - 1).toNat).toInt = _
    rw [show (l4_88.toInt - 1).toNat = (l4_88.toInt + -1).toNat from by omega]
  · rw [cput_j hG116, e4, if_neg (by omega)]
theorem v_X1_insert_86_18 {F : Nat → Nat → Nat} (a : Nat) (G : XG) :
    shf (G.2.1 (F a 2)) (G.2.1 (F a 2)) (((G.1 a 3).toInt)).toNat ((G.1 a 3).toInt).toNat := by
  exact shf_0 _ _
theorem v_X1_insert_81_19 {K : Nat → Nat} {F : Nat → Nat → Nat} (a : Nat) (G : XG) (l2_5 : Int32) (p0 : Int32) (N5 : Nat) (k_60 : Int32)
    (ha : K a = 3)
    (so : SO (G.2.1 (F a 2)) ((G.1 a 3).toInt))
    (pa : ∀ i : Nat, l2_5.toInt ≤ (i : Int) → (i : Int) < (G.1 a 3).toInt → p0.toInt < (G.2.1 (F a 2) i).toInt)
    (s0 : 0 ≤ ((G.1 a 3).toInt) ∧ ((G.1 a 3).toInt) ≤ 89)
    (I5_0 : 0 ≤ l2_5.toInt ∧ l2_5.toInt ≤ ((G.1 a 3).toInt))
    (hm5 : l2_5.toInt + 1 < (((N5) + 1 : Nat) : Int))
    (I33_1 : l2_5.toInt = 0 ∨ (aI (G.2.1 (F a 2)) (l2_5.toInt - 1)) ≤ p0.toInt)
    (I60_0 : (k_60.toInt = 1 ∧ 1 ≤ l2_5.toInt ∧ (aI (G.2.1 (F a 2)) (l2_5.toInt - 1)) = p0.toInt) ∨ (k_60.toInt = 0 ∧ (l2_5.toInt = 0 ∨ (aI (G.2.1 (F a 2)) (l2_5.toInt - 1)) < p0.toInt)))
    (c62 : ¬ (k_60.toInt ≠ 0))
    (c69 : ¬ (((G.1 a 3).toInt) < 0))
    (c78 : ¬ (((G.1 a 3).toInt) < (90 : Int))) :
    SO (G.2.1 (F a 2)) ((G.1 a 3).toInt) := by
  first | (exfalso; omega) | skip
  all_goals (
    first
      | exact so
      | (rw [d_G147_a_3, e146, I88_1]
         have e4 : l2_5.toNatClampNeg = l2_5.toInt.toNat := rfl
         have e5 : l4_88.toInt.toNat = l2_5.toInt.toNat := by omega
         rw [e5] at ps
         have hg := shf_ins (g2 := G147.2.1 (F a 2)) (x := p0) ps (by rw [c_G147_F_a_2, cput_j hG139, e4, if_pos rfl]) (fun j hj => by rw [c_G147_F_a_2, cput_j hG139, e4, if_neg hj])
         exact (SO_ins rfl so (by omega) (by omega) (fun i hi => by
           have e3 : aI (G.2.1 (F a 2)) (l2_5.toInt - 1) = (G.2.1 (F a 2) (l2_5.toInt - 1).toNat).toInt := rfl
           by_cases q : i = (l2_5.toInt - 1).toNat
           · rw [q, ← e3]; omega
           · have := so i (l2_5.toInt - 1).toNat (by omega) (by omega)
             rw [← e3] at this
             omega) (fun i h1 h2 => pa i (by omega) h2) (fun i hi => hg i (by omega))).1))
theorem v_X1_insert_81_20 {K : Nat → Nat} {F : Nat → Nat → Nat} (a : Nat) (G : XG) (l2_5 : Int32) (p0 : Int32) (N5 : Nat) (k_60 : Int32)
    (ha : K a = 3)
    (so : SO (G.2.1 (F a 2)) ((G.1 a 3).toInt))
    (pa : ∀ i : Nat, l2_5.toInt ≤ (i : Int) → (i : Int) < (G.1 a 3).toInt → p0.toInt < (G.2.1 (F a 2) i).toInt)
    (s0 : 0 ≤ ((G.1 a 3).toInt) ∧ ((G.1 a 3).toInt) ≤ 89)
    (I5_0 : 0 ≤ l2_5.toInt ∧ l2_5.toInt ≤ ((G.1 a 3).toInt))
    (hm5 : l2_5.toInt + 1 < (((N5) + 1 : Nat) : Int))
    (I33_1 : l2_5.toInt = 0 ∨ (aI (G.2.1 (F a 2)) (l2_5.toInt - 1)) ≤ p0.toInt)
    (I60_0 : (k_60.toInt = 1 ∧ 1 ≤ l2_5.toInt ∧ (aI (G.2.1 (F a 2)) (l2_5.toInt - 1)) = p0.toInt) ∨ (k_60.toInt = 0 ∧ (l2_5.toInt = 0 ∨ (aI (G.2.1 (F a 2)) (l2_5.toInt - 1)) < p0.toInt)))
    (c62 : ¬ (k_60.toInt ≠ 0))
    (c69 : ¬ (((G.1 a 3).toInt) < 0))
    (c78 : ¬ (((G.1 a 3).toInt) < (90 : Int))) :
    ∀ y : Int, MB (G.2.1 (F a 2)) ((G.1 a 3).toInt) y ↔ MB (G.2.1 (F a 2)) ((G.1 a 3).toInt) y ∨ y = p0.toInt := by
  first | (exfalso; omega) | skip
  all_goals (
    first
      | (intro y
         have e3 : aI (G.2.1 (F a 2)) (l2_5.toInt - 1) = (G.2.1 (F a 2) (l2_5.toInt - 1).toNat).toInt := rfl
         exact ⟨Or.inl, fun h => h.elim id (fun q => ⟨(l2_5.toInt - 1).toNat, by omega, by rw [← e3]; omega⟩)⟩)
      | (rw [d_G147_a_3, e146, I88_1]
         have e4 : l2_5.toNatClampNeg = l2_5.toInt.toNat := rfl
         have e5 : l4_88.toInt.toNat = l2_5.toInt.toNat := by omega
         rw [e5] at ps
         have hg := shf_ins (g2 := G147.2.1 (F a 2)) (x := p0) ps (by rw [c_G147_F_a_2, cput_j hG139, e4, if_pos rfl]) (fun j hj => by rw [c_G147_F_a_2, cput_j hG139, e4, if_neg hj])
         exact (SO_ins rfl so (by omega) (by omega) (fun i hi => by
           have e3 : aI (G.2.1 (F a 2)) (l2_5.toInt - 1) = (G.2.1 (F a 2) (l2_5.toInt - 1).toNat).toInt := rfl
           by_cases q : i = (l2_5.toInt - 1).toNat
           · rw [q, ← e3]; omega
           · have := so i (l2_5.toInt - 1).toNat (by omega) (by omega)
             rw [← e3] at this
             omega) (fun i h1 h2 => pa i (by omega) h2) (fun i hi => hg i (by omega))).2))
theorem v_X1_insert_6_21 {F : Nat → Nat → Nat} (a : Nat) (G : XG) (l2_5 : Int32) (p0 : Int32)
    (pa : ∀ i : Nat, l2_5.toInt ≤ (i : Int) → (i : Int) < (G.1 a 3).toInt → p0.toInt < (G.2.1 (F a 2) i).toInt) :
    ∀ i : Nat, l2_5.toInt ≤ (i : Int) → (i : Int) < (G.1 a 3).toInt → p0.toInt < (G.2.1 (F a 2) i).toInt := by
  exact pa
theorem v_X1_insert_12_22 {F : Nat → Nat → Nat} (a : Nat) (G : XG) (l2_5 : Int32) (p0 : Int32)
    (pa : ∀ i : Nat, l2_5.toInt ≤ (i : Int) → (i : Int) < (G.1 a 3).toInt → p0.toInt < (G.2.1 (F a 2) i).toInt) :
    ∀ i : Nat, l2_5.toInt ≤ (i : Int) → (i : Int) < (G.1 a 3).toInt → p0.toInt < (G.2.1 (F a 2) i).toInt := by
  exact pa
theorem v_X1_insert_24_23 {F : Nat → Nat → Nat} (a : Nat) (G : XG) (l2_5 : Int32) (p0 : Int32)
    (pa : ∀ i : Nat, l2_5.toInt ≤ (i : Int) → (i : Int) < (G.1 a 3).toInt → p0.toInt < (G.2.1 (F a 2) i).toInt) :
    ∀ i : Nat, l2_5.toInt ≤ (i : Int) → (i : Int) < (G.1 a 3).toInt → p0.toInt < (G.2.1 (F a 2) i).toInt := by
  exact pa
theorem v_X1_insert_30_24 {K : Nat → Nat} {F : Nat → Nat → Nat} (a : Nat) (G : XG) (l2_5 : Int32) (p0 : Int32) (N5 : Nat)
    (ha : K a = 3)
    (so : SO (G.2.1 (F a 2)) ((G.1 a 3).toInt))
    (pa : ∀ i : Nat, l2_5.toInt ≤ (i : Int) → (i : Int) < (G.1 a 3).toInt → p0.toInt < (G.2.1 (F a 2) i).toInt)
    (s0 : 0 ≤ ((G.1 a 3).toInt) ∧ ((G.1 a 3).toInt) ≤ 89)
    (I5_0 : 0 ≤ l2_5.toInt ∧ l2_5.toInt ≤ ((G.1 a 3).toInt))
    (hm5 : l2_5.toInt + 1 < (((N5) + 1 : Nat) : Int))
    (c6 : ¬ (l2_5.toInt ≤ 0))
    (c12 : ¬ ((90 : Int) < l2_5.toInt))
    (c24 : ¬ ((aI (G.2.1 (F a 2)) (l2_5.toInt - 1)) ≤ p0.toInt)) :
    ∀ i : Nat, (l2_5.toInt + (-1)) ≤ (i : Int) → (i : Int) < (G.1 a 3).toInt → p0.toInt < (G.2.1 (F a 2) i).toInt := by
  intro i h1 h2
  by_cases e : l2_5.toInt ≤ (i : Int)
  · exact pa i e h2
  · have e2 : i = (l2_5.toInt - 1).toNat := by omega
    have e3 : aI (G.2.1 (F a 2)) (l2_5.toInt - 1) = (G.2.1 (F a 2) (l2_5.toInt - 1).toNat).toInt := rfl
    rw [e2, ← e3]
    omega
theorem v_X1_insert_4_25 {K : Nat → Nat} {F : Nat → Nat → Nat} (a : Nat) (G : XG) (p0 : Int32)
    (ha : K a = 3)
    (so : SO (G.2.1 (F a 2)) ((G.1 a 3).toInt))
    (s0 : 0 ≤ ((G.1 a 3).toInt) ∧ ((G.1 a 3).toInt) ≤ 89) :
    ∀ i : Nat, ((G.1 a 3).toInt) ≤ (i : Int) → (i : Int) < (G.1 a 3).toInt → p0.toInt < (G.2.1 (F a 2) i).toInt := by
  intro i h1 h2; exact absurd h1 (by omega)
theorem v_X1_offerKeys_33_1 {F : Nat → Nat → Nat} (a : Nat) (G_2 : XG)
    (ps : SO (G_2.2.1 (F a 2)) ((G_2.1 a 3).toInt)) :
    SO (G_2.2.1 (F a 2)) ((G_2.1 a 3).toInt) := by
  exact ps
theorem v_X1_offerKeys_33_2 {K : Nat → Nat} {F : Nat → Nat → Nat} (a : Nat) (G : XG) (G_2 : XG) (l2_2 : Int32) (p0 : Int32) (N2 : Nat)
    (ha : K a = 3)
    (so : SO (G.2.1 (F a 2)) ((G.1 a 3).toInt))
    (ps : SO (G_2.2.1 (F a 2)) ((G_2.1 a 3).toInt))
    (pm : ∀ y : Int, MB (G_2.2.1 (F a 2)) ((G_2.1 a 3).toInt) y ↔ MB (G.2.1 (F a 2)) ((G.1 a 3).toInt) y ∨ (0 ≤ y ∧ y < l2_2.toInt ∧ bI (p0.toInt) y = 1))
    (s0 : 0 ≤ ((G.1 a 3).toInt) ∧ ((G.1 a 3).toInt) ≤ 60)
    (I2_0 : 0 ≤ l2_2.toInt ∧ l2_2.toInt ≤ 30)
    (I2_1 : ((G.1 a 3).toInt) ≤ ((G_2.1 a 3).toInt) ∧ ((G_2.1 a 3).toInt) ≤ ((G.1 a 3).toInt) + l2_2.toInt)
    (I2_2 : (0 : Int) ≤ l2_2.toInt)
    (hm2 : 2147483648 - l2_2.toInt < (((N2) + 1 : Nat) : Int))
    (c5 : (30 : Int) ≤ l2_2.toInt) :
    ∀ y : Int, MB (G_2.2.1 (F a 2)) ((G_2.1 a 3).toInt) y ↔ MB (G.2.1 (F a 2)) ((G.1 a 3).toInt) y ∨ (0 ≤ y ∧ y < 30 ∧ bI p0.toInt y = 1) := by
  intro y
  rw [pm y]
  first
    | (have e : l2_2.toInt = 30 := by omega
       rw [e])
    | (constructor
       · rintro (h | h)
         · exact Or.inl h
         · exact Or.inr ⟨h.1, by omega, h.2.2⟩
       · rintro (h | ⟨h1, h2, h3⟩)
         · exact Or.inl h
         · by_cases e : y < l2_2.toInt
           · exact Or.inr ⟨h1, e, h3⟩
           · exact absurd h3 (by rw [bI_sh0 he10 rfl rfl (by omega) c11 y (by omega) (by omega)]; decide))
theorem v_X1_offerKeys_33_3 {F : Nat → Nat → Nat} (a : Nat) (G_2 : XG)
    (ps : SO (G_2.2.1 (F a 2)) ((G_2.1 a 3).toInt)) :
    SO (G_2.2.1 (F a 2)) ((G_2.1 a 3).toInt) := by
  exact ps
theorem v_X1_offerKeys_33_4 {K : Nat → Nat} {F : Nat → Nat → Nat} (a : Nat) (G : XG) (G_2 : XG) (l2_2 : Int32) (p0 : Int32) (x10 : Int32) (N2 : Nat)
    (ha : K a = 3)
    (so : SO (G.2.1 (F a 2)) ((G.1 a 3).toInt))
    (ps : SO (G_2.2.1 (F a 2)) ((G_2.1 a 3).toInt))
    (pm : ∀ y : Int, MB (G_2.2.1 (F a 2)) ((G_2.1 a 3).toInt) y ↔ MB (G.2.1 (F a 2)) ((G.1 a 3).toInt) y ∨ (0 ≤ y ∧ y < l2_2.toInt ∧ bI (p0.toInt) y = 1))
    (he10 : x10 = (p0 : Int32) >>> (l2_2 &&& 31))
    (s0 : 0 ≤ ((G.1 a 3).toInt) ∧ ((G.1 a 3).toInt) ≤ 60)
    (I2_0 : 0 ≤ l2_2.toInt ∧ l2_2.toInt ≤ 30)
    (I2_1 : ((G.1 a 3).toInt) ≤ ((G_2.1 a 3).toInt) ∧ ((G_2.1 a 3).toInt) ≤ ((G.1 a 3).toInt) + l2_2.toInt)
    (I2_2 : (0 : Int) ≤ l2_2.toInt)
    (hm2 : 2147483648 - l2_2.toInt < (((N2) + 1 : Nat) : Int))
    (c5 : ¬ ((30 : Int) ≤ l2_2.toInt))
    (c11 : x10.toInt = 0) :
    ∀ y : Int, MB (G_2.2.1 (F a 2)) ((G_2.1 a 3).toInt) y ↔ MB (G.2.1 (F a 2)) ((G.1 a 3).toInt) y ∨ (0 ≤ y ∧ y < 30 ∧ bI p0.toInt y = 1) := by
  intro y
  rw [pm y]
  first
    | (have e : l2_2.toInt = 30 := by omega
       rw [e])
    | (constructor
       · rintro (h | h)
         · exact Or.inl h
         · exact Or.inr ⟨h.1, by omega, h.2.2⟩
       · rintro (h | ⟨h1, h2, h3⟩)
         · exact Or.inl h
         · by_cases e : y < l2_2.toInt
           · exact Or.inr ⟨h1, e, h3⟩
           · exact absurd h3 (by rw [bI_sh0 he10 rfl rfl (by omega) c11 y (by omega) (by omega)]; decide))
theorem v_X1_offerKeys_30_5 {F : Nat → Nat → Nat} (a : Nat) (G_2 : XG)
    (ps : SO (G_2.2.1 (F a 2)) ((G_2.1 a 3).toInt)) :
    SO (G_2.2.1 (F a 2)) ((G_2.1 a 3).toInt) := by
  first | exact oq24 | exact ps
theorem v_X1_offerKeys_30_6 {K : Nat → Nat} {F : Nat → Nat → Nat} (a : Nat) (G : XG) (G_2 : XG) (l2_2 : Int32) (p0 : Int32) (x10 : Int32) (x16 : Int32) (x18 : Int32) (N2 : Nat)
    (ha : K a = 3)
    (so : SO (G.2.1 (F a 2)) ((G.1 a 3).toInt))
    (ps : SO (G_2.2.1 (F a 2)) ((G_2.1 a 3).toInt))
    (pm : ∀ y : Int, MB (G_2.2.1 (F a 2)) ((G_2.1 a 3).toInt) y ↔ MB (G.2.1 (F a 2)) ((G.1 a 3).toInt) y ∨ (0 ≤ y ∧ y < l2_2.toInt ∧ bI (p0.toInt) y = 1))
    (he10 : x10 = (p0 : Int32) >>> (l2_2 &&& 31))
    (he16 : x16 = (p0 : Int32) >>> (l2_2 &&& 31))
    (he18 : x18 = x16 &&& 1)
    (s0 : 0 ≤ ((G.1 a 3).toInt) ∧ ((G.1 a 3).toInt) ≤ 60)
    (I2_0 : 0 ≤ l2_2.toInt ∧ l2_2.toInt ≤ 30)
    (I2_1 : ((G.1 a 3).toInt) ≤ ((G_2.1 a 3).toInt) ∧ ((G_2.1 a 3).toInt) ≤ ((G.1 a 3).toInt) + l2_2.toInt)
    (I2_2 : (0 : Int) ≤ l2_2.toInt)
    (hm2 : 2147483648 - l2_2.toInt < (((N2) + 1 : Nat) : Int))
    (c5 : ¬ ((30 : Int) ≤ l2_2.toInt))
    (c11 : ¬ (x10.toInt = 0))
    (hb18 : x18.toInt = (bI (p0.toInt) (l2_2.toInt)))
    (hb18a : x18.toInt = 0 ∨ x18.toInt = 1)
    (c19 : x18.toInt = 0) :
    ∀ y : Int, MB (G_2.2.1 (F a 2)) ((G_2.1 a 3).toInt) y ↔ MB (G.2.1 (F a 2)) ((G.1 a 3).toInt) y ∨ (0 ≤ y ∧ y < (l2_2.toInt + 1) ∧ bI (p0.toInt) y = 1) := by
  intro y
  first
    | (rw [oq24a y, pm y]
       constructor
       · rintro ((h | h) | h)
         · exact Or.inl h
         · exact Or.inr ⟨h.1, by omega, h.2.2⟩
         · exact Or.inr ⟨by omega, by omega, by rw [h]; omega⟩
       · rintro (h | ⟨h1, h2, h3⟩)
         · exact Or.inl (Or.inl h)
         · by_cases e : y = l2_2.toInt
           · exact Or.inr e
           · exact Or.inl (Or.inr ⟨h1, by omega, h3⟩))
    | (rw [pm y]
       constructor
       · rintro (h | h)
         · exact Or.inl h
         · exact Or.inr ⟨h.1, by omega, h.2.2⟩
       · rintro (h | ⟨h1, h2, h3⟩)
         · exact Or.inl h
         · by_cases e : y = l2_2.toInt
           · subst e; exact absurd h3 (by omega)
           · exact Or.inr ⟨h1, by omega, h3⟩)
theorem v_X1_offerKeys_24_7 {F : Nat → Nat → Nat} (a : Nat) (G_2 : XG)
    (ps : SO (G_2.2.1 (F a 2)) ((G_2.1 a 3).toInt)) :
    SO (G_2.2.1 (F a 2)) ((G_2.1 a 3).toInt) := by
  exact ps
theorem v_X1_offerKeys_30_8 {F : Nat → Nat → Nat} (a : Nat) (G_2 : XG) (G24 : XG)
    (ps : SO (G_2.2.1 (F a 2)) ((G_2.1 a 3).toInt))
    (oq24 : SO (G24.2.1 (F a 2)) ((G24.1 a 3).toInt)) :
    SO (G24.2.1 (F a 2)) ((G24.1 a 3).toInt) := by
  first | exact oq24 | exact ps
theorem v_X1_offerKeys_30_9 {K : Nat → Nat} {F : Nat → Nat → Nat} (a : Nat) (G : XG) (G_2 : XG) (G24 : XG) (l2_2 : Int32) (p0 : Int32) (x10 : Int32) (x16 : Int32) (x18 : Int32) (N2 : Nat)
    (ha : K a = 3)
    (so : SO (G.2.1 (F a 2)) ((G.1 a 3).toInt))
    (ps : SO (G_2.2.1 (F a 2)) ((G_2.1 a 3).toInt))
    (pm : ∀ y : Int, MB (G_2.2.1 (F a 2)) ((G_2.1 a 3).toInt) y ↔ MB (G.2.1 (F a 2)) ((G.1 a 3).toInt) y ∨ (0 ≤ y ∧ y < l2_2.toInt ∧ bI (p0.toInt) y = 1))
    (he10 : x10 = (p0 : Int32) >>> (l2_2 &&& 31))
    (he16 : x16 = (p0 : Int32) >>> (l2_2 &&& 31))
    (he18 : x18 = x16 &&& 1)
    (oq24 : SO (G24.2.1 (F a 2)) ((G24.1 a 3).toInt))
    (oq24a : ∀ y : Int, MB (G24.2.1 (F a 2)) ((G24.1 a 3).toInt) y ↔ MB (G_2.2.1 (F a 2)) ((G_2.1 a 3).toInt) y ∨ y = l2_2.toInt)
    (s0 : 0 ≤ ((G.1 a 3).toInt) ∧ ((G.1 a 3).toInt) ≤ 60)
    (I2_0 : 0 ≤ l2_2.toInt ∧ l2_2.toInt ≤ 30)
    (I2_1 : ((G.1 a 3).toInt) ≤ ((G_2.1 a 3).toInt) ∧ ((G_2.1 a 3).toInt) ≤ ((G.1 a 3).toInt) + l2_2.toInt)
    (I2_2 : (0 : Int) ≤ l2_2.toInt)
    (hm2 : 2147483648 - l2_2.toInt < (((N2) + 1 : Nat) : Int))
    (c5 : ¬ ((30 : Int) ≤ l2_2.toInt))
    (c11 : ¬ (x10.toInt = 0))
    (hb18 : x18.toInt = (bI (p0.toInt) (l2_2.toInt)))
    (hb18a : x18.toInt = 0 ∨ x18.toInt = 1)
    (c19 : ¬ (x18.toInt = 0))
    (t24 : ((G_2.1 a 3).toInt) ≤ ((G24.1 a 3).toInt) ∧ ((G24.1 a 3).toInt) ≤ ((G_2.1 a 3).toInt) + 1) :
    ∀ y : Int, MB (G24.2.1 (F a 2)) ((G24.1 a 3).toInt) y ↔ MB (G.2.1 (F a 2)) ((G.1 a 3).toInt) y ∨ (0 ≤ y ∧ y < (l2_2.toInt + 1) ∧ bI (p0.toInt) y = 1) := by
  intro y
  first
    | (rw [oq24a y, pm y]
       constructor
       · rintro ((h | h) | h)
         · exact Or.inl h
         · exact Or.inr ⟨h.1, by omega, h.2.2⟩
         · exact Or.inr ⟨by omega, by omega, by rw [h]; omega⟩
       · rintro (h | ⟨h1, h2, h3⟩)
         · exact Or.inl (Or.inl h)
         · by_cases e : y = l2_2.toInt
           · exact Or.inr e
           · exact Or.inl (Or.inr ⟨h1, by omega, h3⟩))
    | (rw [pm y]
       constructor
       · rintro (h | h)
         · exact Or.inl h
         · exact Or.inr ⟨h.1, by omega, h.2.2⟩
       · rintro (h | ⟨h1, h2, h3⟩)
         · exact Or.inl h
         · by_cases e : y = l2_2.toInt
           · subst e; exact absurd h3 (by omega)
           · exact Or.inr ⟨h1, by omega, h3⟩)
theorem v_X1_offerKeys_1_10 {F : Nat → Nat → Nat} (a : Nat) (G : XG)
    (so : SO (G.2.1 (F a 2)) ((G.1 a 3).toInt)) :
    SO (G.2.1 (F a 2)) ((G.1 a 3).toInt) := by
  exact so
theorem v_X1_offerKeys_1_11 {K : Nat → Nat} {F : Nat → Nat → Nat} (a : Nat) (G : XG) (p0 : Int32)
    (ha : K a = 3)
    (so : SO (G.2.1 (F a 2)) ((G.1 a 3).toInt))
    (s0 : 0 ≤ ((G.1 a 3).toInt) ∧ ((G.1 a 3).toInt) ≤ 60) :
    ∀ y : Int, MB (G.2.1 (F a 2)) ((G.1 a 3).toInt) y ↔ MB (G.2.1 (F a 2)) ((G.1 a 3).toInt) y ∨ (0 ≤ y ∧ y < (0 : Int) ∧ bI (p0.toInt) y = 1) := by
  intro y; exact ⟨Or.inl, fun h => h.elim id (fun q => absurd q.2.1 (by omega))⟩
theorem z_X1_valuesDiffer_1 (a0 : Int) (a1 : Int) (a2 : Int) (a3 : Int) (a4 : Int) (a5 : Int) (h0 : a0 = a3) (h1 : a1 = a4) (h2 : a2 = a5) : ((a0 ≠ a3 ∨ a1 ≠ a4 ∨ a2 ≠ a5) ∧ (0 : Int) = 1) ∨ (¬ (a0 ≠ a3 ∨ a1 ≠ a4 ∨ a2 ≠ a5) ∧ (0 : Int) = 0) := by omega
theorem z_X1_valuesDiffer_2 (a0 : Int) (a1 : Int) (a2 : Int) (a3 : Int) (a4 : Int) (a5 : Int) (h0 : ¬ (a2 = a5)) : ((a0 ≠ a3 ∨ a1 ≠ a4 ∨ a2 ≠ a5) ∧ (1 : Int) = 1) ∨ (¬ (a0 ≠ a3 ∨ a1 ≠ a4 ∨ a2 ≠ a5) ∧ (1 : Int) = 0) := by omega
theorem z_X1_valuesDiffer_3 (a0 : Int) (a1 : Int) (a2 : Int) (a3 : Int) (a4 : Int) (a5 : Int) (h0 : ¬ (a1 = a4)) : ((a0 ≠ a3 ∨ a1 ≠ a4 ∨ a2 ≠ a5) ∧ (1 : Int) = 1) ∨ (¬ (a0 ≠ a3 ∨ a1 ≠ a4 ∨ a2 ≠ a5) ∧ (1 : Int) = 0) := by omega
theorem z_X1_valuesDiffer_4 (a0 : Int) (a1 : Int) (a2 : Int) (a3 : Int) (a4 : Int) (a5 : Int) (h0 : ¬ (a0 = a3)) : ((a0 ≠ a3 ∨ a1 ≠ a4 ∨ a2 ≠ a5) ∧ (1 : Int) = 1) ∨ (¬ (a0 ≠ a3 ∨ a1 ≠ a4 ∨ a2 ≠ a5) ∧ (1 : Int) = 0) := by omega
abbrev rm_X1_valuesDiffer : Room := { frames := 2, cells := 0, slots := 0, locals := 44 }
set_option maxHeartbeats 4000000 in
set_option maxRecDepth 100000 in
theorem c_X1_valuesDiffer (l : Launch) (E : XE) (K : Nat → Nat) (F : Nat → Nat → Nat) (G : XG) (h0 : Heap) (p0 : Nat) (p1 : Nat) (p2 : Int32) (p3 : Int32) (hp0 : K p0 = 8) (hp1 : K p1 = 8) : Met l yX1_valuesDiffer (xw yX1_valuesDiffer cX1_valuesDiffer 5 (some .boolean)) rm_X1_valuesDiffer (va_Pc [.ref p0, .ref p1, .int p2, .int p3] (XPh E K F G h0)) (XQ E (fun v (u : Unit) => ∃ r : Int32, v = .int r ∧ (r = 0 ∨ r = 1) ∧ ((((cel (vw (G.2.1 (F p0 0))) (p2.toInt) (p3.toInt) 0) ≠ (cel (vw (G.2.1 (F p1 0))) (p2.toInt) (p3.toInt) 0) ∨ (cel (vw (G.2.1 (F p0 0))) (p2.toInt) (p3.toInt) 1) ≠ (cel (vw (G.2.1 (F p1 0))) (p2.toInt) (p3.toInt) 1) ∨ (cel (vw (G.2.1 (F p0 0))) (p2.toInt) (p3.toInt) 2) ≠ (cel (vw (G.2.1 (F p1 0))) (p2.toInt) (p3.toInt) 2)) ∧ r.toInt = 1) ∨ (¬ ((cel (vw (G.2.1 (F p0 0))) (p2.toInt) (p3.toInt) 0) ≠ (cel (vw (G.2.1 (F p1 0))) (p2.toInt) (p3.toInt) 0) ∨ (cel (vw (G.2.1 (F p0 0))) (p2.toInt) (p3.toInt) 1) ≠ (cel (vw (G.2.1 (F p1 0))) (p2.toInt) (p3.toInt) 1) ∨ (cel (vw (G.2.1 (F p0 0))) (p2.toInt) (p3.toInt) 2) ≠ (cel (vw (G.2.1 (F p1 0))) (p2.toInt) (p3.toInt) 2)) ∧ r.toInt = 0))) (fun _ H => H = h0)) 0 0 (xA E) := by
  refine x_enter (by decide) (Nat.le_of_ble_eq_true rfl) ?_
  intro p e s m args below meth c Q S hr hlk hnm hQ hP ls hl
  obtain ⟨⟨hz, hK, hT⟩, hh⟩ := hP
  obtain ⟨hx, hb, -, -, -⟩ := id S
  have hS : va_S (xA E) s.heap s.heap [] := va_S.rf
  have hl : lv_has ls 5 [(0, .ref p0), (1, .ref p1), (2, .int p2), (3, .int p3)] := hl
  obtain ⟨hk1n, hj2n⟩ := fkX6_0 hT hp0
  obtain ⟨hk3n, hj4n⟩ := fkX6_0 hT hp1
  refine lv_iconst (v := 0) hx hb dX1_valuesDiffer_0 (by decide) ?_
  refine lv_istore (lv' := [(4, .int 0), (0, .ref p0), (1, .ref p1), (2, .int p2), (3, .int p3)]) hx hb dX1_valuesDiffer_1 hl (by decide) rfl (fun ls hl => ?_)
  refine lv_iload hx hb dX1_valuesDiffer_3 (lv_at hl 0 rfl) ?_
  refine lv_iconst (v := 3) hx hb dX1_valuesDiffer_5 (by decide) ?_
  refine xi_cge (tgt := 36) hx hb ((by decide) : Int32.toInt 0 = (0 : Int)) ((by decide) : Int32.toInt 3 = (3 : Int)) dX1_valuesDiffer_6 (by decide) (fun c => absurd c (show ¬ ((3 : Int) ≤ (0 : Int)) by decide)) (fun _ => ?_)
  refine lv_aload_n hx hb dX1_valuesDiffer_9 rfl (lv_at hl 1 rfl) ?_
  refine lv_iload_n hx hb dX1_valuesDiffer_10 rfl (lv_at hl 3 rfl) ?_
  refine lv_iload_n hx hb dX1_valuesDiffer_11 rfl (lv_at hl 4 rfl) ?_
  refine lv_iload hx hb dX1_valuesDiffer_12 (lv_at hl 0 rfl) ?_
  refine x_clp (x_runV (b := p0) (As := [.int p2, .int p3, .int 0]) (rest := []) S (c_X6_cell l E K F G s.heap p0 p2 p3 0 hp0) mv_X6_cell km_X1_86 rfl rfl ⟨Nat.le_of_ble_eq_true rfl, Nat.le_of_ble_eq_true rfl⟩ (rc_8 hK hT hp0) hK (fun _ => XPh.blind) (fun U hU hW => XPh.at hK hz hS hT hU hW) rfl hl.1 (Nat.le_of_ble_eq_true rfl) dX1_valuesDiffer_14 ⟨Nat.le_of_ble_eq_true rfl, Nat.le_of_ble_eq_true rfl⟩) hS ?_
  rintro _ _ locs ⟨x5n, rfl, t6n⟩ hS
  have t6n : x5n.toInt = (cel (vw (G.2.1 (F p0 0))) (p2.toInt) (p3.toInt) 0) := t6n
  refine lv_aload_n hx hb dX1_valuesDiffer_17 rfl (lv_at hl 2 rfl) ?_
  refine lv_iload_n hx hb dX1_valuesDiffer_18 rfl (lv_at hl 3 rfl) ?_
  refine lv_iload_n hx hb dX1_valuesDiffer_19 rfl (lv_at hl 4 rfl) ?_
  refine lv_iload hx hb dX1_valuesDiffer_20 (lv_at hl 0 rfl) ?_
  refine x_clp (x_runV (b := p1) (As := [.int p2, .int p3, .int 0]) (rest := [.int x5n]) S (c_X6_cell l E K F G s.heap p1 p2 p3 0 hp1) mv_X6_cell km_X1_86 rfl rfl ⟨Nat.le_of_ble_eq_true rfl, Nat.le_of_ble_eq_true rfl⟩ (rc_8 hK hT hp1) hK (fun _ => XPh.blind) (fun U hU hW => XPh.at hK hz hS hT hU hW) rfl hl.1 (Nat.le_of_ble_eq_true rfl) dX1_valuesDiffer_22 ⟨Nat.le_of_ble_eq_true rfl, Nat.le_of_ble_eq_true rfl⟩) hS ?_
  rintro _ _ locs ⟨x7n, rfl, t8n⟩ hS
  have t8n : x7n.toInt = (cel (vw (G.2.1 (F p1 0))) (p2.toInt) (p3.toInt) 0) := t8n
  refine xi_ceq (tgt := 30) hx hb (t6n : Int32.toInt x5n = (cel (vw (G.2.1 (F p0 0))) (p2.toInt) (p3.toInt) 0)) (t8n : Int32.toInt x7n = (cel (vw (G.2.1 (F p1 0))) (p2.toInt) (p3.toInt) 0)) dX1_valuesDiffer_25 (by decide) (fun c9n => ?_) (fun c9n => ?_)
  · refine xi_iinc (n := 1) (lv' := fun z9 => [(4, .int z9), (0, .ref p0), (1, .ref p1), (2, .int p2), (3, .int p3)]) (k := 0) hx hb ((by decide) : Int32.toInt 0 = (0 : Int)) (by decide) dX1_valuesDiffer_30 hl rfl (by decide) (fun _ => rfl) (fun x10n ls t11n hl => ?_)
    have hl : lv_has ls 5 [(4, .int x10n), (0, .ref p0), (1, .ref p1), (2, .int p2), (3, .int p3)] := hl
    have e9 : (1 : Int32).toInt = 1 := by decide
    have h9 : x10n = 1 := Int32.toInt_inj.mp (by rw [e9]; omega)
    subst h9
    have hl : lv_has ls 5 [(4, .int 1), (0, .ref p0), (1, .ref p1), (2, .int p2), (3, .int p3)] := hl
    refine lv_goto (tgt := 3) hx hb dX1_valuesDiffer_33 (by decide) ?_
    refine lv_iload hx hb dX1_valuesDiffer_3 (lv_at hl 0 rfl) ?_
    refine lv_iconst (v := 3) hx hb dX1_valuesDiffer_5 (by decide) ?_
    refine xi_cge (tgt := 36) hx hb ((by decide) : Int32.toInt 1 = (1 : Int)) ((by decide) : Int32.toInt 3 = (3 : Int)) dX1_valuesDiffer_6 (by decide) (fun c => absurd c (show ¬ ((3 : Int) ≤ (1 : Int)) by decide)) (fun _ => ?_)
    refine lv_aload_n hx hb dX1_valuesDiffer_9 rfl (lv_at hl 1 rfl) ?_
    refine lv_iload_n hx hb dX1_valuesDiffer_10 rfl (lv_at hl 3 rfl) ?_
    refine lv_iload_n hx hb dX1_valuesDiffer_11 rfl (lv_at hl 4 rfl) ?_
    refine lv_iload hx hb dX1_valuesDiffer_12 (lv_at hl 0 rfl) ?_
    refine x_clp (x_runV (b := p0) (As := [.int p2, .int p3, .int 1]) (rest := []) S (c_X6_cell l E K F G s.heap p0 p2 p3 1 hp0) mv_X6_cell km_X1_86 rfl rfl ⟨Nat.le_of_ble_eq_true rfl, Nat.le_of_ble_eq_true rfl⟩ (rc_8 hK hT hp0) hK (fun _ => XPh.blind) (fun U hU hW => XPh.at hK hz hS hT hU hW) rfl hl.1 (Nat.le_of_ble_eq_true rfl) dX1_valuesDiffer_14 ⟨Nat.le_of_ble_eq_true rfl, Nat.le_of_ble_eq_true rfl⟩) hS ?_
    rintro _ _ locs ⟨x12n, rfl, t13n⟩ hS
    have t13n : x12n.toInt = (cel (vw (G.2.1 (F p0 0))) (p2.toInt) (p3.toInt) 1) := t13n
    refine lv_aload_n hx hb dX1_valuesDiffer_17 rfl (lv_at hl 2 rfl) ?_
    refine lv_iload_n hx hb dX1_valuesDiffer_18 rfl (lv_at hl 3 rfl) ?_
    refine lv_iload_n hx hb dX1_valuesDiffer_19 rfl (lv_at hl 4 rfl) ?_
    refine lv_iload hx hb dX1_valuesDiffer_20 (lv_at hl 0 rfl) ?_
    refine x_clp (x_runV (b := p1) (As := [.int p2, .int p3, .int 1]) (rest := [.int x12n]) S (c_X6_cell l E K F G s.heap p1 p2 p3 1 hp1) mv_X6_cell km_X1_86 rfl rfl ⟨Nat.le_of_ble_eq_true rfl, Nat.le_of_ble_eq_true rfl⟩ (rc_8 hK hT hp1) hK (fun _ => XPh.blind) (fun U hU hW => XPh.at hK hz hS hT hU hW) rfl hl.1 (Nat.le_of_ble_eq_true rfl) dX1_valuesDiffer_22 ⟨Nat.le_of_ble_eq_true rfl, Nat.le_of_ble_eq_true rfl⟩) hS ?_
    rintro _ _ locs ⟨x14n, rfl, t15n⟩ hS
    have t15n : x14n.toInt = (cel (vw (G.2.1 (F p1 0))) (p2.toInt) (p3.toInt) 1) := t15n
    refine xi_ceq (tgt := 30) hx hb (t13n : Int32.toInt x12n = (cel (vw (G.2.1 (F p0 0))) (p2.toInt) (p3.toInt) 1)) (t15n : Int32.toInt x14n = (cel (vw (G.2.1 (F p1 0))) (p2.toInt) (p3.toInt) 1)) dX1_valuesDiffer_25 (by decide) (fun c16n => ?_) (fun c16n => ?_)
    · refine xi_iinc (n := 1) (lv' := fun z9 => [(4, .int z9), (0, .ref p0), (1, .ref p1), (2, .int p2), (3, .int p3)]) (k := 0) hx hb ((by decide) : Int32.toInt 1 = (1 : Int)) (by decide) dX1_valuesDiffer_30 hl rfl (by decide) (fun _ => rfl) (fun x17n ls t18n hl => ?_)
      have hl : lv_has ls 5 [(4, .int x17n), (0, .ref p0), (1, .ref p1), (2, .int p2), (3, .int p3)] := hl
      have e9 : (2 : Int32).toInt = 2 := by decide
      have h9 : x17n = 2 := Int32.toInt_inj.mp (by rw [e9]; omega)
      subst h9
      have hl : lv_has ls 5 [(4, .int 2), (0, .ref p0), (1, .ref p1), (2, .int p2), (3, .int p3)] := hl
      refine lv_goto (tgt := 3) hx hb dX1_valuesDiffer_33 (by decide) ?_
      refine lv_iload hx hb dX1_valuesDiffer_3 (lv_at hl 0 rfl) ?_
      refine lv_iconst (v := 3) hx hb dX1_valuesDiffer_5 (by decide) ?_
      refine xi_cge (tgt := 36) hx hb ((by decide) : Int32.toInt 2 = (2 : Int)) ((by decide) : Int32.toInt 3 = (3 : Int)) dX1_valuesDiffer_6 (by decide) (fun c => absurd c (show ¬ ((3 : Int) ≤ (2 : Int)) by decide)) (fun _ => ?_)
      refine lv_aload_n hx hb dX1_valuesDiffer_9 rfl (lv_at hl 1 rfl) ?_
      refine lv_iload_n hx hb dX1_valuesDiffer_10 rfl (lv_at hl 3 rfl) ?_
      refine lv_iload_n hx hb dX1_valuesDiffer_11 rfl (lv_at hl 4 rfl) ?_
      refine lv_iload hx hb dX1_valuesDiffer_12 (lv_at hl 0 rfl) ?_
      refine x_clp (x_runV (b := p0) (As := [.int p2, .int p3, .int 2]) (rest := []) S (c_X6_cell l E K F G s.heap p0 p2 p3 2 hp0) mv_X6_cell km_X1_86 rfl rfl ⟨Nat.le_of_ble_eq_true rfl, Nat.le_of_ble_eq_true rfl⟩ (rc_8 hK hT hp0) hK (fun _ => XPh.blind) (fun U hU hW => XPh.at hK hz hS hT hU hW) rfl hl.1 (Nat.le_of_ble_eq_true rfl) dX1_valuesDiffer_14 ⟨Nat.le_of_ble_eq_true rfl, Nat.le_of_ble_eq_true rfl⟩) hS ?_
      rintro _ _ locs ⟨x19n, rfl, t20n⟩ hS
      have t20n : x19n.toInt = (cel (vw (G.2.1 (F p0 0))) (p2.toInt) (p3.toInt) 2) := t20n
      refine lv_aload_n hx hb dX1_valuesDiffer_17 rfl (lv_at hl 2 rfl) ?_
      refine lv_iload_n hx hb dX1_valuesDiffer_18 rfl (lv_at hl 3 rfl) ?_
      refine lv_iload_n hx hb dX1_valuesDiffer_19 rfl (lv_at hl 4 rfl) ?_
      refine lv_iload hx hb dX1_valuesDiffer_20 (lv_at hl 0 rfl) ?_
      refine x_clp (x_runV (b := p1) (As := [.int p2, .int p3, .int 2]) (rest := [.int x19n]) S (c_X6_cell l E K F G s.heap p1 p2 p3 2 hp1) mv_X6_cell km_X1_86 rfl rfl ⟨Nat.le_of_ble_eq_true rfl, Nat.le_of_ble_eq_true rfl⟩ (rc_8 hK hT hp1) hK (fun _ => XPh.blind) (fun U hU hW => XPh.at hK hz hS hT hU hW) rfl hl.1 (Nat.le_of_ble_eq_true rfl) dX1_valuesDiffer_22 ⟨Nat.le_of_ble_eq_true rfl, Nat.le_of_ble_eq_true rfl⟩) hS ?_
      rintro _ _ locs ⟨x21n, rfl, t22n⟩ hS
      have t22n : x21n.toInt = (cel (vw (G.2.1 (F p1 0))) (p2.toInt) (p3.toInt) 2) := t22n
      refine xi_ceq (tgt := 30) hx hb (t20n : Int32.toInt x19n = (cel (vw (G.2.1 (F p0 0))) (p2.toInt) (p3.toInt) 2)) (t22n : Int32.toInt x21n = (cel (vw (G.2.1 (F p1 0))) (p2.toInt) (p3.toInt) 2)) dX1_valuesDiffer_25 (by decide) (fun c23n => ?_) (fun c23n => ?_)
      · refine xi_iinc (n := 1) (lv' := fun z9 => [(4, .int z9), (0, .ref p0), (1, .ref p1), (2, .int p2), (3, .int p3)]) (k := 0) hx hb ((by decide) : Int32.toInt 2 = (2 : Int)) (by decide) dX1_valuesDiffer_30 hl rfl (by decide) (fun _ => rfl) (fun x24n ls t25n hl => ?_)
        have hl : lv_has ls 5 [(4, .int x24n), (0, .ref p0), (1, .ref p1), (2, .int p2), (3, .int p3)] := hl
        have e9 : (3 : Int32).toInt = 3 := by decide
        have h9 : x24n = 3 := Int32.toInt_inj.mp (by rw [e9]; omega)
        subst h9
        have hl : lv_has ls 5 [(4, .int 3), (0, .ref p0), (1, .ref p1), (2, .int p2), (3, .int p3)] := hl
        refine lv_goto (tgt := 3) hx hb dX1_valuesDiffer_33 (by decide) ?_
        refine lv_iload hx hb dX1_valuesDiffer_3 (lv_at hl 0 rfl) ?_
        refine lv_iconst (v := 3) hx hb dX1_valuesDiffer_5 (by decide) ?_
        refine xi_cge (tgt := 36) hx hb ((by decide) : Int32.toInt 3 = (3 : Int)) ((by decide) : Int32.toInt 3 = (3 : Int)) dX1_valuesDiffer_6 (by decide) (fun _ => ?_) (fun c => absurd (show (3 : Int) ≤ (3 : Int) by decide) c)
        refine lv_iconst (v := 0) hx hb dX1_valuesDiffer_36 (by decide) ?_
        exact x_rz hx hb hr (xnz (Or.inl rfl)) hlk hQ (Nat.le_of_ble_eq_true rfl) (Nat.le_of_ble_eq_true rfl) hS dX1_valuesDiffer_37 () ⟨_, rfl, (Or.inl rfl), (z_X1_valuesDiffer_1 (cel (vw (G.2.1 (F p0 0))) (p2.toInt) (p3.toInt) 0) (cel (vw (G.2.1 (F p0 0))) (p2.toInt) (p3.toInt) 1) (cel (vw (G.2.1 (F p0 0))) (p2.toInt) (p3.toInt) 2) (cel (vw (G.2.1 (F p1 0))) (p2.toInt) (p3.toInt) 0) (cel (vw (G.2.1 (F p1 0))) (p2.toInt) (p3.toInt) 1) (cel (vw (G.2.1 (F p1 0))) (p2.toInt) (p3.toInt) 2) c9n c16n c23n)⟩ hh
      · refine lv_iconst (v := 1) hx hb dX1_valuesDiffer_28 (by decide) ?_
        exact x_rz hx hb hr (xnz (Or.inr rfl)) hlk hQ (Nat.le_of_ble_eq_true rfl) (Nat.le_of_ble_eq_true rfl) hS dX1_valuesDiffer_29 () ⟨_, rfl, (Or.inr rfl), (z_X1_valuesDiffer_2 (cel (vw (G.2.1 (F p0 0))) (p2.toInt) (p3.toInt) 0) (cel (vw (G.2.1 (F p0 0))) (p2.toInt) (p3.toInt) 1) (cel (vw (G.2.1 (F p0 0))) (p2.toInt) (p3.toInt) 2) (cel (vw (G.2.1 (F p1 0))) (p2.toInt) (p3.toInt) 0) (cel (vw (G.2.1 (F p1 0))) (p2.toInt) (p3.toInt) 1) (cel (vw (G.2.1 (F p1 0))) (p2.toInt) (p3.toInt) 2) c23n)⟩ hh
    · refine lv_iconst (v := 1) hx hb dX1_valuesDiffer_28 (by decide) ?_
      exact x_rz hx hb hr (xnz (Or.inr rfl)) hlk hQ (Nat.le_of_ble_eq_true rfl) (Nat.le_of_ble_eq_true rfl) hS dX1_valuesDiffer_29 () ⟨_, rfl, (Or.inr rfl), (z_X1_valuesDiffer_3 (cel (vw (G.2.1 (F p0 0))) (p2.toInt) (p3.toInt) 0) (cel (vw (G.2.1 (F p0 0))) (p2.toInt) (p3.toInt) 1) (cel (vw (G.2.1 (F p0 0))) (p2.toInt) (p3.toInt) 2) (cel (vw (G.2.1 (F p1 0))) (p2.toInt) (p3.toInt) 0) (cel (vw (G.2.1 (F p1 0))) (p2.toInt) (p3.toInt) 1) (cel (vw (G.2.1 (F p1 0))) (p2.toInt) (p3.toInt) 2) c16n)⟩ hh
  · refine lv_iconst (v := 1) hx hb dX1_valuesDiffer_28 (by decide) ?_
    exact x_rz hx hb hr (xnz (Or.inr rfl)) hlk hQ (Nat.le_of_ble_eq_true rfl) (Nat.le_of_ble_eq_true rfl) hS dX1_valuesDiffer_29 () ⟨_, rfl, (Or.inr rfl), (z_X1_valuesDiffer_4 (cel (vw (G.2.1 (F p0 0))) (p2.toInt) (p3.toInt) 0) (cel (vw (G.2.1 (F p0 0))) (p2.toInt) (p3.toInt) 1) (cel (vw (G.2.1 (F p0 0))) (p2.toInt) (p3.toInt) 2) (cel (vw (G.2.1 (F p1 0))) (p2.toInt) (p3.toInt) 0) (cel (vw (G.2.1 (F p1 0))) (p2.toInt) (p3.toInt) 1) (cel (vw (G.2.1 (F p1 0))) (p2.toInt) (p3.toInt) 2) c9n)⟩ hh

theorem z_X1_insert_1 (a0 : Int) (a1 : Int) (h0 : 0 ≤ a0 ∧ a0 ≤ a1) : ¬ (a0 + 1 < ((0 : Nat) : Int)) := by omega
theorem z_X1_insert_2 (a0 : Int) : a0 ≤ a0 ∧ a0 ≤ a0 + 1 := by omega
theorem z_X1_insert_4 (a0 : Int) (a1 : Int) (a2 : Int) (h0 : a0 ≤ a1 ∧ a1 ≤ a2) (h1 : 0 ≤ a0 ∧ a0 ≤ a2) : ¬ (a1 + 1 < ((0 : Nat) : Int)) := by omega
theorem z_X1_insert_5 (a0 : Int) (a1 : Int) (a2 : Int) (h0 : 0 ≤ a0 ∧ a0 ≤ a1) (h1 : a0 < 0) : a1 ≤ a2 ∧ a2 ≤ a1 + 1 := by omega
theorem z_X1_insert_6 (a0 : Int) (a1 : Int) (a2 : Int) (h0 : 0 ≤ a1 ∧ a1 ≤ 89) (h1 : 0 ≤ a0 ∧ a0 ≤ a1) (h2 : (90 : Int) ≤ a0) : a1 ≤ a2 ∧ a2 ≤ a1 + 1 := by omega
theorem z_X1_insert_7 (a0 : Int) (a1 : Int) (h0 : 0 ≤ a0 ∧ a0 ≤ a1) (h1 : ¬ ((90 : Int) ≤ a0)) : 0 ≤ a0 ∧ a0 < ((90 : Nat) : Int) := by omega
theorem z_X1_insert_8 (a0 : Int) (a1 : Int) (a2 : Int) (h0 : 0 ≤ a1 ∧ a1 ≤ 89) (h1 : a2 = a1) (h2 : a0 = (a2 + (1 : Int)) ∨ (a2 + (1 : Int)) < -2147483648 ∨ 2147483648 ≤ (a2 + (1 : Int))) : a0 = (a2 + (1 : Int)) := by omega
theorem z_X1_insert_9 (a0 : Int) (a1 : Int) (h0 : a1 = a0) : a0 ≤ (a1 + (1 : Int)) ∧ (a1 + (1 : Int)) ≤ a0 + 1 := by omega
theorem z_X1_insert_11 (a0 : Int) (a1 : Int) (a2 : Int) (a3 : Int) (h0 : 0 ≤ a2 ∧ a2 ≤ 89) (h1 : a0 ≤ a1 ∧ a1 ≤ a2) (h2 : (90 : Int) ≤ a0) : a2 ≤ a3 ∧ a3 ≤ a2 + 1 := by omega
theorem z_X1_insert_12 (a0 : Int) (a1 : Int) (a2 : Int) (h0 : 0 ≤ a2 ∧ a2 ≤ 89) (h1 : a0 ≤ a1 ∧ a1 ≤ a2) (h2 : (90 : Int) ≤ a1) : 0 ≤ a0 ∧ a0 < ((90 : Nat) : Int) := by omega
theorem z_X1_insert_13 (a0 : Int) (a1 : Int) (a2 : Int) (a3 : Int) (a4 : Int) (h0 : 0 ≤ a3 ∧ a3 ≤ 89) (h1 : a0 ≤ a1 ∧ a1 ≤ a3) (h2 : (90 : Int) ≤ a1) : a2 = (a4 + (1 : Int)) := by omega
theorem z_X1_insert_14 (a0 : Int) (a1 : Int) (a2 : Int) (a3 : Int) (h0 : 0 ≤ a2 ∧ a2 ≤ 89) (h1 : a0 ≤ a1 ∧ a1 ≤ a2) (h2 : (90 : Int) ≤ a1) : a2 ≤ (a3 + (1 : Int)) ∧ (a3 + (1 : Int)) ≤ a2 + 1 := by omega
theorem z_X1_insert_15 (a0 : Int) (a1 : Int) (a2 : Int) (a3 : Int) (h0 : 0 ≤ a0 ∧ a0 ≤ a3) (h1 : ¬ (a1 ≤ a0)) (h2 : ¬ ((90 : Int) ≤ a1)) (h3 : a2 = (a1 - (1 : Int)) ∨ (a1 - (1 : Int)) < -2147483648 ∨ 2147483648 ≤ (a1 - (1 : Int))) : a2 = (a1 - (1 : Int)) := by omega
theorem z_X1_insert_16 (a0 : Int) (a1 : Int) (a2 : Int) (h0 : 0 ≤ a0 ∧ a0 ≤ a2) (h1 : ¬ (a1 ≤ a0)) (h2 : ¬ ((90 : Int) ≤ a1)) : 0 ≤ (a1 - (1 : Int)) ∧ (a1 - (1 : Int)) < ((90 : Nat) : Int) := by omega
theorem z_X1_insert_17 (a0 : Int) (a1 : Int) (a2 : Int) (h0 : 0 ≤ a0 ∧ a0 ≤ a2) (h1 : ¬ (a1 ≤ a0)) (h2 : ¬ ((90 : Int) ≤ a1)) : 0 ≤ a1 ∧ a1 < ((90 : Nat) : Int) := by omega
theorem z_X1_insert_18 (a0 : Int) (a1 : Int) (a2 : Int) (a3 : Int) (h0 : 0 ≤ a0 ∧ a0 ≤ a3) (h1 : ¬ (a1 ≤ a0)) (h2 : ¬ ((90 : Int) ≤ a1)) (h3 : a2 = (a1 + (-1)) ∨ (a1 + (-1)) < -2147483648 ∨ 2147483648 ≤ (a1 + (-1))) : a2 = (a1 + (-1)) := by omega
theorem z_X1_insert_19 (a0 : Int) (a1 : Int) (a2 : Int) (h0 : a0 ≤ a1 ∧ a1 ≤ a2) (h1 : ¬ (a1 ≤ a0)) : a0 ≤ (a1 + (-1)) ∧ (a1 + (-1)) ≤ a2 := by omega
theorem z_X1_insert_21 (a0 : Int) (a1 : Nat) (h0 : a0 + 1 < ((a1 + 1 : Nat) : Int)) : (a0 + (-1)) + 1 < ((a1 : Nat) : Int) := by omega
theorem z_X1_insert_22 (a0 : Int) (a1 : Int) (h0 : 0 ≤ a0 ∧ a0 ≤ a1) : a0 ≤ a1 ∧ a1 ≤ a1 := by omega
theorem z_X1_insert_23 (a0 : Int) : a0 = a0 := by omega
theorem z_X1_insert_24 (a0 : Int) (h0 : 0 ≤ a0 ∧ a0 ≤ 89) : a0 + 1 < ((4294967297 : Nat) : Int) := by omega
theorem z_X1_insert_26 (a0 : Int) (a1 : Int) (a2 : Int) (a3 : Int) (h0 : 0 ≤ a0 ∧ a0 ≤ a2) (h1 : a0 ≤ 0) : ((0 : Int) = 1 ∧ 1 ≤ a0 ∧ a3 = a1) ∨ ((0 : Int) = 0 ∧ (a0 = 0 ∨ a3 < a1)) := by omega
theorem z_X1_insert_27 (a0 : Int) (a1 : Int) (a2 : Int) (a3 : Int) (h0 : 0 ≤ a2 ∧ a2 ≤ 89) (h1 : 0 ≤ a0 ∧ a0 ≤ a2) (h2 : (90 : Int) < a0) : ((0 : Int) = 1 ∧ 1 ≤ a0 ∧ a3 = a1) ∨ ((0 : Int) = 0 ∧ (a0 = 0 ∨ a3 < a1)) := by omega
theorem z_X1_insert_28 (a0 : Int) (a1 : Int) (h0 : ¬ (a0 ≤ 0)) (h1 : ¬ ((90 : Int) < a0)) (h2 : a1 = (a0 - (1 : Int)) ∨ (a0 - (1 : Int)) < -2147483648 ∨ 2147483648 ≤ (a0 - (1 : Int))) : a1 = (a0 - (1 : Int)) := by omega
theorem z_X1_insert_29 (a0 : Int) (h0 : ¬ (a0 ≤ 0)) (h1 : ¬ ((90 : Int) < a0)) : 0 ≤ (a0 - (1 : Int)) ∧ (a0 - (1 : Int)) < ((90 : Nat) : Int) := by omega
theorem z_X1_insert_30 (a0 : Int) (a1 : Int) (a2 : Int) (h0 : a0 = 0 ∨ a2 ≤ a1) (h1 : a2 ≠ a1) : ((0 : Int) = 1 ∧ 1 ≤ a0 ∧ a2 = a1) ∨ ((0 : Int) = 0 ∧ (a0 = 0 ∨ a2 < a1)) := by omega
theorem z_X1_insert_31 (a0 : Int) (a1 : Int) (a2 : Int) (h0 : ¬ (a0 ≤ 0)) (h1 : ¬ (a2 ≠ a1)) : ((1 : Int) = 1 ∧ 1 ≤ a0 ∧ a2 = a1) ∨ ((1 : Int) = 0 ∧ (a0 = 0 ∨ a2 < a1)) := by omega
theorem z_X1_insert_33 (a0 : Int) (a1 : Int) (a2 : Int) (a3 : Int) (h0 : 0 ≤ a0 ∧ a0 ≤ a2) (h1 : a0 ≤ 0) : a0 = 0 ∨ a3 ≤ a1 := by omega
theorem z_X1_insert_35 (a0 : Int) (a1 : Int) (a2 : Int) (a3 : Int) (h0 : 0 ≤ a2 ∧ a2 ≤ 89) (h1 : 0 ≤ a0 ∧ a0 ≤ a2) (h2 : (90 : Int) < a0) : a0 = 0 ∨ a3 ≤ a1 := by omega
theorem z_X1_insert_39 (a0 : Int) (a1 : Int) (a2 : Int) (h0 : a2 ≤ a1) : a0 = 0 ∨ a2 ≤ a1 := by omega
theorem z_X1_insert_40 (a0 : Int) (a1 : Int) (h0 : ¬ (a0 ≤ 0)) (h1 : ¬ ((90 : Int) < a0)) (h2 : a1 = (a0 + (-1)) ∨ (a0 + (-1)) < -2147483648 ∨ 2147483648 ≤ (a0 + (-1))) : a1 = (a0 + (-1)) := by omega
theorem z_X1_insert_41 (a0 : Int) (a1 : Int) (h0 : 0 ≤ a0 ∧ a0 ≤ a1) (h1 : ¬ (a0 ≤ 0)) : 0 ≤ (a0 + (-1)) ∧ (a0 + (-1)) ≤ a1 := by omega
theorem z_X1_insert_43 (a0 : Int) (h0 : 0 ≤ a0 ∧ a0 ≤ 89) : 0 ≤ a0 ∧ a0 ≤ a0 := by omega
abbrev rm_X1_insert : Room := { frames := 0, cells := 0, slots := 0, locals := 0 }
set_option maxHeartbeats 4000000 in
set_option maxRecDepth 100000 in
theorem c_X1_insert (l : Launch) (E : XE) (K : Nat → Nat) (F : Nat → Nat → Nat) (G : XG) (a : Nat) (p0 : Int32) (ha : K a = 3) (s0 : 0 ≤ ((G.1 a 3).toInt) ∧ ((G.1 a 3).toInt) ≤ 89) (so : SO (G.2.1 (F a 2)) ((G.1 a 3).toInt)) : Met l yX1_insert (xw yX1_insert cX1_insert 5 none) rm_X1_insert (va_Pc [.ref a, .int p0] (XP E K F G)) (XQv E (fun (u : XG) => XFr [(a, 3)] [F a 2] [] G u ∧ (((G.1 a 3).toInt) ≤ ((u.1 a 3).toInt) ∧ ((u.1 a 3).toInt) ≤ ((G.1 a 3).toInt) + 1) ∧ (SO (u.2.1 (F a 2)) ((u.1 a 3).toInt)) ∧ (∀ y : Int, MB (u.2.1 (F a 2)) ((u.1 a 3).toInt) y ↔ MB (G.2.1 (F a 2)) ((G.1 a 3).toInt) y ∨ y = p0.toInt)) (fun u H => TW E K F u H)) 0 0 (xA E) := by
  refine x_enter (by decide) (Nat.le_of_ble_eq_true rfl) ?_
  intro p e s m args below meth c Q S hr hlk hnm hQ hP ls hl
  obtain ⟨hz, hK, hT⟩ := hP
  obtain ⟨hx, hb, -, -, -⟩ := id S
  obtain ⟨H, hT, hS, hgo⟩ : ∃ H : Heap, TW E K F G H ∧ va_S (xA E) s.heap H [] ∧ H = s.heap := ⟨_, hT, va_S.rf, rfl⟩
  rw [← hgo]
  have hl : lv_has ls 5 [(0, .ref a), (1, .int p0)] := hl
  obtain ⟨hk9999, hj9999⟩ := fkX1_2 hT ha
  refine lv_aload_n hx hb dX1_insert_0 rfl (lv_at hl 0 rfl) ?_
  refine gX1_3 S hK hT ha kf_X1_38 dX1_insert_1 (v := (G.1 a 3)) rfl (?_)
  refine lv_istore_n (lv' := [(2, .int (G.1 a 3)), (0, .ref a), (1, .int p0)]) hx hb dX1_insert_4 rfl hl (by decide) rfl (fun ls hl => ?_)
  have L5 : ∀ (N5 : Nat) (l2_5 : Int32) (H : Heap) (locs : List Loc) (ls : Array Slot), (∀ i : Nat, l2_5.toInt ≤ (i : Int) → (i : Int) < (G.1 a 3).toInt → p0.toInt < (G.2.1 (F a 2) i).toInt) → 0 ≤ l2_5.toInt ∧ l2_5.toInt ≤ ((G.1 a 3).toInt) → l2_5.toInt + 1 < ((N5 : Nat) : Int) → TW E K F G H → va_S (xA E) s.heap H locs → lv_has ls 5 [(0, .ref a), (1, .int p0), (2, .int l2_5)] → W p l e rm_X1_insert s m args below meth c H locs 0 0 Q (F0 m 5 ls []) := by
    intro N5
    induction N5 with
    | zero =>
      intro l2_5 H locs ls pa I5_0 hm5
      exact absurd hm5 (z_X1_insert_1 l2_5.toInt ((G.1 a 3).toInt) I5_0)
    | succ N5 ih5 =>
      intro l2_5 H locs ls pa I5_0 hm5 hT hS hl
      refine lv_iload_n hx hb dX1_insert_5 rfl (lv_at hl 2 rfl) ?_
      have J33 : ∀ (H : Heap) (locs : List Loc) (ls : Array Slot), (∀ i : Nat, l2_5.toInt ≤ (i : Int) → (i : Int) < (G.1 a 3).toInt → p0.toInt < (G.2.1 (F a 2) i).toInt) → 0 ≤ l2_5.toInt ∧ l2_5.toInt ≤ ((G.1 a 3).toInt) → l2_5.toInt = 0 ∨ (aI (G.2.1 (F a 2)) (l2_5.toInt - 1)) ≤ p0.toInt → TW E K F G H → va_S (xA E) s.heap H locs → lv_has ls 5 [(0, .ref a), (1, .int p0), (2, .int l2_5)] → W p l e rm_X1_insert s m args below meth c H locs 0 0 Q (F0 m 33 ls []) := by
        intro H locs ls pa I33_0 I33_1 hT hS hl
        refine lv_iload_n hx hb dX1_insert_33 rfl (lv_at hl 2 rfl) ?_
        have J60 : ∀ (k_60 : Int32) (H : Heap) (locs : List Loc) (ls : Array Slot), (k_60.toInt = 1 ∧ 1 ≤ l2_5.toInt ∧ (aI (G.2.1 (F a 2)) (l2_5.toInt - 1)) = p0.toInt) ∨ (k_60.toInt = 0 ∧ (l2_5.toInt = 0 ∨ (aI (G.2.1 (F a 2)) (l2_5.toInt - 1)) < p0.toInt)) → TW E K F G H → va_S (xA E) s.heap H locs → lv_has ls 5 [(0, .ref a), (1, .int p0), (2, .int l2_5)] → W p l e rm_X1_insert s m args below meth c H locs 0 0 Q (F0 m 60 ls [.int k_60]) := by
          intro k_60 H locs ls I60_0 hT hS hl
          refine lv_istore_n (lv' := [(3, .int k_60), (0, .ref a), (1, .int p0), (2, .int l2_5)]) hx hb dX1_insert_60 rfl hl (by decide) rfl (fun ls hl => ?_)
          refine lv_iload_n hx hb dX1_insert_61 rfl (lv_at hl 0 rfl) ?_
          refine xi_zne (tgt := 81) hx hb (rfl : Int32.toInt k_60 = k_60.toInt) dX1_insert_62 (by decide) (fun c62 => ?_) (fun c62 => ?_)
          · exact x_rv hx hb hr hlk hQ (Nat.le_of_ble_eq_true rfl) (Nat.le_of_ble_eq_true rfl) hS dX1_insert_81 G ⟨XFr.rf, (z_X1_insert_2 ((G.1 a 3).toInt)), (v_X1_insert_81_1 a G l2_5 p0 N5 k_60 ha so pa s0 I5_0 hm5 I33_1 I60_0 c62), (v_X1_insert_81_2 a G l2_5 p0 N5 k_60 ha so pa s0 I5_0 hm5 I33_1 I60_0 c62)⟩ hT
          · refine lv_aload_n hx hb dX1_insert_65 rfl (lv_at hl 1 rfl) ?_
            refine gX1_3 S hK hT ha kf_X1_38 dX1_insert_66 (v := (G.1 a 3)) rfl (?_)
            refine xi_zlt (tgt := 81) hx hb (rfl : Int32.toInt (G.1 a 3) = ((G.1 a 3).toInt)) dX1_insert_69 (by decide) (fun c69 => ?_) (fun c69 => ?_)
            · exact x_rv hx hb hr hlk hQ (Nat.le_of_ble_eq_true rfl) (Nat.le_of_ble_eq_true rfl) hS dX1_insert_81 G ⟨XFr.rf, (z_X1_insert_2 ((G.1 a 3).toInt)), (v_X1_insert_81_3 a G l2_5 p0 N5 k_60 ha so pa s0 I5_0 hm5 I33_1 I60_0 c62 c69), (v_X1_insert_81_4 a G l2_5 p0 N5 k_60 ha so pa s0 I5_0 hm5 I33_1 I60_0 c62 c69)⟩ hT
            · refine lv_aload_n hx hb dX1_insert_72 rfl (lv_at hl 1 rfl) ?_
              refine gX1_3 S hK hT ha kf_X1_38 dX1_insert_73 (v := (G.1 a 3)) rfl (?_)
              refine lv_bipush (v := 90) hx hb dX1_insert_76 (by decide) ?_
              refine xi_clt (tgt := 82) hx hb (rfl : Int32.toInt (G.1 a 3) = ((G.1 a 3).toInt)) ((by decide) : Int32.toInt 90 = (90 : Int)) dX1_insert_78 (by decide) (fun c78 => ?_) (fun c78 => ?_)
              · refine lv_aload_n hx hb dX1_insert_82 rfl (lv_at hl 1 rfl) ?_
                refine gX1_3 S hK hT ha kf_X1_38 dX1_insert_83 (v := (G.1 a 3)) rfl (?_)
                refine lv_istore (lv' := [(4, .int (G.1 a 3)), (3, .int k_60), (0, .ref a), (1, .int p0), (2, .int l2_5)]) hx hb dX1_insert_86 hl (by decide) rfl (fun ls hl => ?_)
                have L88 : ∀ (N88 : Nat) (l4_88 : Int32) (G_88 : XG) (H : Heap) (locs : List Loc) (ls : Array Slot), XFr [(a, 3)] [F a 2] [] G G_88 → shf (G.2.1 (F a 2)) (G_88.2.1 (F a 2)) (l4_88.toInt).toNat ((G.1 a 3).toInt).toNat → l2_5.toInt ≤ l4_88.toInt ∧ l4_88.toInt ≤ ((G.1 a 3).toInt) → ((G_88.1 a 3).toInt) = ((G.1 a 3).toInt) → l4_88.toInt + 1 < ((N88 : Nat) : Int) → TW E K F G_88 H → va_S (xA E) s.heap H locs → lv_has ls 5 [(0, .ref a), (1, .int p0), (2, .int l2_5), (4, .int l4_88)] → W p l e rm_X1_insert s m args below meth c H locs 0 0 Q (F0 m 88 ls []) := by
                  intro N88
                  induction N88 with
                  | zero =>
                    intro l4_88 G_88 H locs ls hF_88 ps I88_0 I88_1 hm88
                    exact absurd hm88 (z_X1_insert_4 l2_5.toInt l4_88.toInt ((G.1 a 3).toInt) I88_0 I5_0)
                  | succ N88 ih88 =>
                    intro l4_88 G_88 H locs ls hF_88 ps I88_0 I88_1 hm88 hT hS hl
                    refine lv_iload hx hb dX1_insert_88 (lv_at hl 3 rfl) ?_
                    refine lv_iload_n hx hb dX1_insert_90 rfl (lv_at hl 2 rfl) ?_
                    refine xi_cle (tgt := 123) hx hb (rfl : Int32.toInt l4_88 = l4_88.toInt) (rfl : Int32.toInt l2_5 = l2_5.toInt) dX1_insert_91 (by decide) (fun c91 => ?_) (fun c91 => ?_)
                    · refine lv_iload_n hx hb dX1_insert_123 rfl (lv_at hl 2 rfl) ?_
                      refine xi_zlt (tgt := 150) hx hb (rfl : Int32.toInt l2_5 = l2_5.toInt) dX1_insert_124 (by decide) (fun c124 => ?_) (fun c124 => ?_)
                      · exact x_rv hx hb hr hlk hQ (Nat.le_of_ble_eq_true rfl) (Nat.le_of_ble_eq_true rfl) hS dX1_insert_150 G_88 ⟨(XFr.call XFr.rf hF_88 (xm1 0 rfl xm0) (xm1 0 rfl xm0) xm0), (z_X1_insert_5 l2_5.toInt ((G.1 a 3).toInt) ((G_88.1 a 3).toInt) I5_0 c124), (v_X1_insert_150_5 a G G_88 l2_5 p0 l4_88 N5 k_60 N88 ha so pa ps s0 I5_0 hm5 I33_1 I60_0 c62 c69 c78 I88_0 I88_1 hm88 c91 c124), (v_X1_insert_150_6 a G G_88 l2_5 p0 l4_88 N5 k_60 N88 ha so pa ps s0 I5_0 hm5 I33_1 I60_0 c62 c69 c78 I88_0 I88_1 hm88 c91 c124)⟩ hT
                      · refine lv_iload_n hx hb dX1_insert_127 rfl (lv_at hl 2 rfl) ?_
                        refine lv_bipush (v := 90) hx hb dX1_insert_128 (by decide) ?_
                        refine xi_cge (tgt := 150) hx hb (rfl : Int32.toInt l2_5 = l2_5.toInt) ((by decide) : Int32.toInt 90 = (90 : Int)) dX1_insert_130 (by decide) (fun c130 => ?_) (fun c130 => ?_)
                        · exact x_rv hx hb hr hlk hQ (Nat.le_of_ble_eq_true rfl) (Nat.le_of_ble_eq_true rfl) hS dX1_insert_150 G_88 ⟨(XFr.call XFr.rf hF_88 (xm1 0 rfl xm0) (xm1 0 rfl xm0) xm0), (z_X1_insert_6 l2_5.toInt ((G.1 a 3).toInt) ((G_88.1 a 3).toInt) s0 I5_0 c130), (v_X1_insert_150_7 a G G_88 l2_5 p0 l4_88 N5 k_60 N88 ha so pa ps s0 I5_0 hm5 I33_1 I60_0 c62 c69 c78 I88_0 I88_1 hm88 c91 c124 c130), (v_X1_insert_150_8 a G G_88 l2_5 p0 l4_88 N5 k_60 N88 ha so pa ps s0 I5_0 hm5 I33_1 I60_0 c62 c69 c78 I88_0 I88_1 hm88 c91 c124 c130)⟩ hT
                        · refine lv_aload_n hx hb dX1_insert_133 rfl (lv_at hl 0 rfl) ?_
                          refine gX1_2 S hK hT ha kf_X1_18 dX1_insert_134 (fun _ _ => ?_)
                          refine lv_iload_n hx hb dX1_insert_137 rfl (lv_at hl 2 rfl) ?_
                          refine lv_iload_n hx hb dX1_insert_138 rfl (lv_at hl 1 rfl) ?_
                          refine as_0 (x := p0) S hK hT hS hk9999 ar_24 aw_24 (by decide) (z_X1_insert_7 l2_5.toInt ((G.1 a 3).toInt) I5_0 c130) dX1_insert_139 (fun H locs hT hS => ?_)
                          obtain ⟨G139, hG139⟩ : ∃ G9 : XG, G9 = cput G_88 (F a 2) l2_5.toNatClampNeg p0 := ⟨_, rfl⟩
                          rw [← hG139] at hT
                          refine lv_aload_n hx hb dX1_insert_140 rfl (lv_at hl 0 rfl) ?_
                          refine lv_dup hx hb dX1_insert_141 rfl ?_
                          refine gX1_3 S hK hT ha kf_X1_38 dX1_insert_142 (v := (G_88.1 a 3)) (lc_d hG139) (?_)
                          refine lv_iconst (v := 1) hx hb dX1_insert_145 (by decide) ?_
                          refine xi_iadd hx hb (rfl : Int32.toInt (G_88.1 a 3) = ((G_88.1 a 3).toInt)) ((by decide) : Int32.toInt 1 = (1 : Int)) dX1_insert_146 (fun x146 t146 => ?_)
                          have e146 : x146.toInt = (((G_88.1 a 3).toInt) + (1 : Int)) := (z_X1_insert_8 x146.toInt ((G.1 a 3).toInt) ((G_88.1 a 3).toInt) s0 I88_1 t146)
                          refine pX1_3 (v := x146) S hK hT hS ha kf_X1_38 dX1_insert_147 (fun H locs hT hS => ?_)
                          obtain ⟨G147, hG147⟩ : ∃ G9 : XG, G9 = dput G139 a 3 x146 := ⟨_, rfl⟩
                          rw [← hG147] at hT
                          exact x_rv hx hb hr hlk hQ (Nat.le_of_ble_eq_true rfl) (Nat.le_of_ble_eq_true rfl) hS dX1_insert_150 G147 ⟨(by rw [hG147]; exact XFr.dput (by rw [hG139]; exact XFr.cput (XFr.call XFr.rf hF_88 (xm1 0 rfl xm0) (xm1 0 rfl xm0) xm0) (List.mem_of_getElem? (i := 0) rfl)) (List.mem_of_getElem? (i := 0) rfl)), (by rw [(show (G147.1 a 3).toInt = (((G_88.1 a 3).toInt) + (1 : Int)) from (congrArg Int32.toInt (ld_at hG147)).trans (e146 : Int32.toInt x146 = (((G_88.1 a 3).toInt) + (1 : Int))))] <;> exact (z_X1_insert_9 ((G.1 a 3).toInt) ((G_88.1 a 3).toInt) I88_1)), (v_X1_insert_150_9 a G G_88 G139 l2_5 p0 G147 x146 l4_88 N5 k_60 N88 ha hG139 so pa ps e146 s0 I5_0 hm5 I33_1 I60_0 c62 c69 c78 I88_0 I88_1 hm88 c91 c124 c130 (ld_c hG147) (ld_at hG147)), (v_X1_insert_150_10 a G G_88 G139 l2_5 p0 G147 x146 l4_88 N5 k_60 N88 ha hG139 so pa ps e146 s0 I5_0 hm5 I33_1 I60_0 c62 c69 c78 I88_0 I88_1 hm88 c91 c124 c130 (ld_c hG147) (ld_at hG147))⟩ hT
                    · refine lv_iload hx hb dX1_insert_94 (lv_at hl 3 rfl) ?_
                      refine lv_bipush (v := 90) hx hb dX1_insert_96 (by decide) ?_
                      refine xi_cge (tgt := 123) hx hb (rfl : Int32.toInt l4_88 = l4_88.toInt) ((by decide) : Int32.toInt 90 = (90 : Int)) dX1_insert_98 (by decide) (fun c98 => ?_) (fun c98 => ?_)
                      · refine lv_iload_n hx hb dX1_insert_123 rfl (lv_at hl 2 rfl) ?_
                        refine xi_zlt (tgt := 150) hx hb (rfl : Int32.toInt l2_5 = l2_5.toInt) dX1_insert_124 (by decide) (fun c124 => ?_) (fun c124 => ?_)
                        · exact x_rv hx hb hr hlk hQ (Nat.le_of_ble_eq_true rfl) (Nat.le_of_ble_eq_true rfl) hS dX1_insert_150 G_88 ⟨(XFr.call XFr.rf hF_88 (xm1 0 rfl xm0) (xm1 0 rfl xm0) xm0), (z_X1_insert_5 l2_5.toInt ((G.1 a 3).toInt) ((G_88.1 a 3).toInt) I5_0 c124), (v_X1_insert_150_11 a G G_88 l2_5 p0 l4_88 N5 k_60 N88 ha so pa ps s0 I5_0 hm5 I33_1 I60_0 c62 c69 c78 I88_0 I88_1 hm88 c91 c98 c124), (v_X1_insert_150_12 a G G_88 l2_5 p0 l4_88 N5 k_60 N88 ha so pa ps s0 I5_0 hm5 I33_1 I60_0 c62 c69 c78 I88_0 I88_1 hm88 c91 c98 c124)⟩ hT
                        · refine lv_iload_n hx hb dX1_insert_127 rfl (lv_at hl 2 rfl) ?_
                          refine lv_bipush (v := 90) hx hb dX1_insert_128 (by decide) ?_
                          refine xi_cge (tgt := 150) hx hb (rfl : Int32.toInt l2_5 = l2_5.toInt) ((by decide) : Int32.toInt 90 = (90 : Int)) dX1_insert_130 (by decide) (fun c130 => ?_) (fun c130 => ?_)
                          · exact x_rv hx hb hr hlk hQ (Nat.le_of_ble_eq_true rfl) (Nat.le_of_ble_eq_true rfl) hS dX1_insert_150 G_88 ⟨(XFr.call XFr.rf hF_88 (xm1 0 rfl xm0) (xm1 0 rfl xm0) xm0), (z_X1_insert_11 l2_5.toInt l4_88.toInt ((G.1 a 3).toInt) ((G_88.1 a 3).toInt) s0 I88_0 c130), (v_X1_insert_150_13 a G G_88 l2_5 p0 l4_88 N5 k_60 N88 ha so pa ps s0 I5_0 hm5 I33_1 I60_0 c62 c69 c78 I88_0 I88_1 hm88 c91 c98 c124 c130), (v_X1_insert_150_14 a G G_88 l2_5 p0 l4_88 N5 k_60 N88 ha so pa ps s0 I5_0 hm5 I33_1 I60_0 c62 c69 c78 I88_0 I88_1 hm88 c91 c98 c124 c130)⟩ hT
                          · refine lv_aload_n hx hb dX1_insert_133 rfl (lv_at hl 0 rfl) ?_
                            refine gX1_2 S hK hT ha kf_X1_18 dX1_insert_134 (fun _ _ => ?_)
                            refine lv_iload_n hx hb dX1_insert_137 rfl (lv_at hl 2 rfl) ?_
                            refine lv_iload_n hx hb dX1_insert_138 rfl (lv_at hl 1 rfl) ?_
                            refine as_0 (x := p0) S hK hT hS hk9999 ar_24 aw_24 (by decide) (z_X1_insert_12 l2_5.toInt l4_88.toInt ((G.1 a 3).toInt) s0 I88_0 c98) dX1_insert_139 (fun H locs hT hS => ?_)
                            obtain ⟨G139, hG139⟩ : ∃ G9 : XG, G9 = cput G_88 (F a 2) l2_5.toNatClampNeg p0 := ⟨_, rfl⟩
                            rw [← hG139] at hT
                            refine lv_aload_n hx hb dX1_insert_140 rfl (lv_at hl 0 rfl) ?_
                            refine lv_dup hx hb dX1_insert_141 rfl ?_
                            refine gX1_3 S hK hT ha kf_X1_38 dX1_insert_142 (v := (G_88.1 a 3)) (lc_d hG139) (?_)
                            refine lv_iconst (v := 1) hx hb dX1_insert_145 (by decide) ?_
                            refine xi_iadd hx hb (rfl : Int32.toInt (G_88.1 a 3) = ((G_88.1 a 3).toInt)) ((by decide) : Int32.toInt 1 = (1 : Int)) dX1_insert_146 (fun x146 t146 => ?_)
                            have e146 : x146.toInt = (((G_88.1 a 3).toInt) + (1 : Int)) := (z_X1_insert_13 l2_5.toInt l4_88.toInt x146.toInt ((G.1 a 3).toInt) ((G_88.1 a 3).toInt) s0 I88_0 c98)
                            refine pX1_3 (v := x146) S hK hT hS ha kf_X1_38 dX1_insert_147 (fun H locs hT hS => ?_)
                            obtain ⟨G147, hG147⟩ : ∃ G9 : XG, G9 = dput G139 a 3 x146 := ⟨_, rfl⟩
                            rw [← hG147] at hT
                            exact x_rv hx hb hr hlk hQ (Nat.le_of_ble_eq_true rfl) (Nat.le_of_ble_eq_true rfl) hS dX1_insert_150 G147 ⟨(by rw [hG147]; exact XFr.dput (by rw [hG139]; exact XFr.cput (XFr.call XFr.rf hF_88 (xm1 0 rfl xm0) (xm1 0 rfl xm0) xm0) (List.mem_of_getElem? (i := 0) rfl)) (List.mem_of_getElem? (i := 0) rfl)), (by rw [(show (G147.1 a 3).toInt = (((G_88.1 a 3).toInt) + (1 : Int)) from (congrArg Int32.toInt (ld_at hG147)).trans (e146 : Int32.toInt x146 = (((G_88.1 a 3).toInt) + (1 : Int))))] <;> exact (z_X1_insert_14 l2_5.toInt l4_88.toInt ((G.1 a 3).toInt) ((G_88.1 a 3).toInt) s0 I88_0 c98)), (v_X1_insert_150_15 a G G_88 G139 l2_5 p0 G147 x146 l4_88 N5 k_60 N88 ha hG139 so pa ps e146 s0 I5_0 hm5 I33_1 I60_0 c62 c69 c78 I88_0 I88_1 hm88 c91 c98 c124 c130 (ld_c hG147) (ld_at hG147)), (v_X1_insert_150_16 a G G_88 G139 l2_5 p0 G147 x146 l4_88 N5 k_60 N88 ha hG139 so pa ps e146 s0 I5_0 hm5 I33_1 I60_0 c62 c69 c78 I88_0 I88_1 hm88 c91 c98 c124 c130 (ld_c hG147) (ld_at hG147))⟩ hT
                      · refine lv_aload_n hx hb dX1_insert_101 rfl (lv_at hl 0 rfl) ?_
                        refine gX1_2 S hK hT ha kf_X1_18 dX1_insert_102 (fun _ _ => ?_)
                        refine lv_iload hx hb dX1_insert_105 (lv_at hl 3 rfl) ?_
                        refine lv_aload_n hx hb dX1_insert_107 rfl (lv_at hl 0 rfl) ?_
                        refine gX1_2 S hK hT ha kf_X1_18 dX1_insert_108 (fun _ _ => ?_)
                        refine lv_iload hx hb dX1_insert_111 (lv_at hl 3 rfl) ?_
                        refine lv_iconst (v := 1) hx hb dX1_insert_113 (by decide) ?_
                        refine xi_isub hx hb (rfl : Int32.toInt l4_88 = l4_88.toInt) ((by decide) : Int32.toInt 1 = (1 : Int)) dX1_insert_114 (fun x114 t114 => ?_)
                        have e114 : x114.toInt = (l4_88.toInt - (1 : Int)) := (z_X1_insert_15 l2_5.toInt l4_88.toInt x114.toInt ((G.1 a 3).toInt) I5_0 c91 c98 t114)
                        refine al_0 S hK hT hk9999 ar_24 (by decide) (by rw [(e114 : Int32.toInt x114 = (l4_88.toInt - (1 : Int)))]; exact (z_X1_insert_16 l2_5.toInt l4_88.toInt ((G.1 a 3).toInt) I5_0 c91 c98)) dX1_insert_115 (fun x115 hv115 o115 => ?_)
                        have hv115 : x115.toInt = (aI (G_88.2.1 (F a 2)) (l4_88.toInt - 1)) := hv115.trans (by rw [(e114 : Int32.toInt x114 = (l4_88.toInt - (1 : Int)))])
                        refine as_0 (x := x115) S hK hT hS hk9999 ar_24 aw_24 (by decide) (z_X1_insert_17 l2_5.toInt l4_88.toInt ((G.1 a 3).toInt) I5_0 c91 c98) dX1_insert_116 (fun H locs hT hS => ?_)
                        obtain ⟨G116, hG116⟩ : ∃ G9 : XG, G9 = cput G_88 (F a 2) l4_88.toNatClampNeg x115 := ⟨_, rfl⟩
                        rw [← hG116] at hT
                        refine xi_iinc (n := (-1)) (lv' := fun z9 => [(4, .int z9), (0, .ref a), (1, .int p0), (2, .int l2_5)]) (k := 3) hx hb (rfl : Int32.toInt l4_88 = l4_88.toInt) (by decide) dX1_insert_117 hl rfl (by decide) (fun _ => rfl) (fun x117 ls t117 hl => ?_)
                        have e117 : x117.toInt = (l4_88.toInt + (-1)) := (z_X1_insert_18 l2_5.toInt l4_88.toInt x117.toInt ((G.1 a 3).toInt) I5_0 c91 c98 t117)
                        have hl : lv_has ls 5 [(4, .int x117), (0, .ref a), (1, .int p0), (2, .int l2_5)] := hl
                        refine lv_goto (tgt := 88) hx hb dX1_insert_120 (by decide) ?_
                        exact ih88 x117 G116 _ _ _ (by rw [hG116]; exact XFr.cput (XFr.call XFr.rf hF_88 (xm1 0 rfl xm0) (xm1 0 rfl xm0) xm0) (List.mem_of_getElem? (i := 0) rfl)) (by rw [(e117 : Int32.toInt x117 = (l4_88.toInt + (-1)))] <;> exact (v_X1_insert_120_17 a G G_88 G116 l4_88 x115 l2_5 p0 N5 k_60 N88 ha hG116 so ps hv115 s0 I5_0 hm5 I33_1 I60_0 c62 c69 c78 I88_0 I88_1 hm88 c91 c98)) (by rw [(e117 : Int32.toInt x117 = (l4_88.toInt + (-1)))] <;> exact (z_X1_insert_19 l2_5.toInt l4_88.toInt ((G.1 a 3).toInt) I88_0 c91)) (by rw [(show (G116.1 a 3).toInt = ((G_88.1 a 3).toInt) from (congrArg Int32.toInt (lc_d hG116)).trans (rfl : Int32.toInt (G_88.1 a 3) = ((G_88.1 a 3).toInt)))] <;> exact (I88_1)) (by rw [(e117 : Int32.toInt x117 = (l4_88.toInt + (-1)))] <;> exact (z_X1_insert_21 l4_88.toInt N88 hm88)) hT hS (lv_sub hl [1, 2, 3, 0] rfl)
                exact L88 4294967297 (G.1 a 3) G _ _ _ XFr.rf (v_X1_insert_86_18 a G) (z_X1_insert_22 l2_5.toInt ((G.1 a 3).toInt) I5_0) (z_X1_insert_23 ((G.1 a 3).toInt)) (z_X1_insert_24 ((G.1 a 3).toInt) s0) hT hS (lv_sub hl [2, 3, 4, 0] rfl)
              · exact x_rv hx hb hr hlk hQ (Nat.le_of_ble_eq_true rfl) (Nat.le_of_ble_eq_true rfl) hS dX1_insert_81 G ⟨XFr.rf, (z_X1_insert_2 ((G.1 a 3).toInt)), (v_X1_insert_81_19 a G l2_5 p0 N5 k_60 ha so pa s0 I5_0 hm5 I33_1 I60_0 c62 c69 c78), (v_X1_insert_81_20 a G l2_5 p0 N5 k_60 ha so pa s0 I5_0 hm5 I33_1 I60_0 c62 c69 c78)⟩ hT
        refine xi_zle (tgt := 59) hx hb (rfl : Int32.toInt l2_5 = l2_5.toInt) dX1_insert_34 (by decide) (fun c34 => ?_) (fun c34 => ?_)
        · refine lv_iconst (v := 0) hx hb dX1_insert_59 (by decide) ?_
          exact J60 0 _ _ _ (z_X1_insert_26 l2_5.toInt p0.toInt ((G.1 a 3).toInt) (aI (G.2.1 (F a 2)) (l2_5.toInt - 1)) I5_0 c34) hT hS (lv_sub hl [0, 1, 2] rfl)
        · refine lv_iload_n hx hb dX1_insert_37 rfl (lv_at hl 2 rfl) ?_
          refine lv_bipush (v := 90) hx hb dX1_insert_38 (by decide) ?_
          refine xi_cgt (tgt := 59) hx hb (rfl : Int32.toInt l2_5 = l2_5.toInt) ((by decide) : Int32.toInt 90 = (90 : Int)) dX1_insert_40 (by decide) (fun c40 => ?_) (fun c40 => ?_)
          · refine lv_iconst (v := 0) hx hb dX1_insert_59 (by decide) ?_
            exact J60 0 _ _ _ (z_X1_insert_27 l2_5.toInt p0.toInt ((G.1 a 3).toInt) (aI (G.2.1 (F a 2)) (l2_5.toInt - 1)) s0 I5_0 c40) hT hS (lv_sub hl [0, 1, 2] rfl)
          · refine lv_aload_n hx hb dX1_insert_43 rfl (lv_at hl 0 rfl) ?_
            refine gX1_2 S hK hT ha kf_X1_18 dX1_insert_44 (fun _ _ => ?_)
            refine lv_iload_n hx hb dX1_insert_47 rfl (lv_at hl 2 rfl) ?_
            refine lv_iconst (v := 1) hx hb dX1_insert_48 (by decide) ?_
            refine xi_isub hx hb (rfl : Int32.toInt l2_5 = l2_5.toInt) ((by decide) : Int32.toInt 1 = (1 : Int)) dX1_insert_49 (fun x49 t49 => ?_)
            have e49 : x49.toInt = (l2_5.toInt - (1 : Int)) := (z_X1_insert_28 l2_5.toInt x49.toInt c34 c40 t49)
            refine al_0 S hK hT hk9999 ar_24 (by decide) (by rw [(e49 : Int32.toInt x49 = (l2_5.toInt - (1 : Int)))]; exact (z_X1_insert_29 l2_5.toInt c34 c40)) dX1_insert_50 (fun x50 hv50 o50 => ?_)
            have hv50 : x50.toInt = (aI (G.2.1 (F a 2)) (l2_5.toInt - 1)) := hv50.trans (by rw [(e49 : Int32.toInt x49 = (l2_5.toInt - (1 : Int)))])
            refine lv_iload_n hx hb dX1_insert_51 rfl (lv_at hl 1 rfl) ?_
            refine xi_cne (tgt := 59) hx hb (hv50 : Int32.toInt x50 = (aI (G.2.1 (F a 2)) (l2_5.toInt - 1))) (rfl : Int32.toInt p0 = p0.toInt) dX1_insert_52 (by decide) (fun c52 => ?_) (fun c52 => ?_)
            · refine lv_iconst (v := 0) hx hb dX1_insert_59 (by decide) ?_
              exact J60 0 _ _ _ (z_X1_insert_30 l2_5.toInt p0.toInt (aI (G.2.1 (F a 2)) (l2_5.toInt - 1)) I33_1 c52) hT hS (lv_sub hl [0, 1, 2] rfl)
            · refine lv_iconst (v := 1) hx hb dX1_insert_55 (by decide) ?_
              refine lv_goto (tgt := 60) hx hb dX1_insert_56 (by decide) ?_
              exact J60 1 _ _ _ (z_X1_insert_31 l2_5.toInt p0.toInt (aI (G.2.1 (F a 2)) (l2_5.toInt - 1)) c34 c52) hT hS (lv_sub hl [0, 1, 2] rfl)
      refine xi_zle (tgt := 33) hx hb (rfl : Int32.toInt l2_5 = l2_5.toInt) dX1_insert_6 (by decide) (fun c6 => ?_) (fun c6 => ?_)
      · exact J33 _ _ _ (v_X1_insert_6_21 a G l2_5 p0 pa) (I5_0) (z_X1_insert_33 l2_5.toInt p0.toInt ((G.1 a 3).toInt) (aI (G.2.1 (F a 2)) (l2_5.toInt - 1)) I5_0 c6) hT hS (lv_sub hl [0, 1, 2] rfl)
      · refine lv_iload_n hx hb dX1_insert_9 rfl (lv_at hl 2 rfl) ?_
        refine lv_bipush (v := 90) hx hb dX1_insert_10 (by decide) ?_
        refine xi_cgt (tgt := 33) hx hb (rfl : Int32.toInt l2_5 = l2_5.toInt) ((by decide) : Int32.toInt 90 = (90 : Int)) dX1_insert_12 (by decide) (fun c12 => ?_) (fun c12 => ?_)
        · exact J33 _ _ _ (v_X1_insert_12_22 a G l2_5 p0 pa) (I5_0) (z_X1_insert_35 l2_5.toInt p0.toInt ((G.1 a 3).toInt) (aI (G.2.1 (F a 2)) (l2_5.toInt - 1)) s0 I5_0 c12) hT hS (lv_sub hl [0, 1, 2] rfl)
        · refine lv_aload_n hx hb dX1_insert_15 rfl (lv_at hl 0 rfl) ?_
          refine gX1_2 S hK hT ha kf_X1_18 dX1_insert_16 (fun _ _ => ?_)
          refine lv_iload_n hx hb dX1_insert_19 rfl (lv_at hl 2 rfl) ?_
          refine lv_iconst (v := 1) hx hb dX1_insert_20 (by decide) ?_
          refine xi_isub hx hb (rfl : Int32.toInt l2_5 = l2_5.toInt) ((by decide) : Int32.toInt 1 = (1 : Int)) dX1_insert_21 (fun x21 t21 => ?_)
          have e21 : x21.toInt = (l2_5.toInt - (1 : Int)) := (z_X1_insert_28 l2_5.toInt x21.toInt c6 c12 t21)
          refine al_0 S hK hT hk9999 ar_24 (by decide) (by rw [(e21 : Int32.toInt x21 = (l2_5.toInt - (1 : Int)))]; exact (z_X1_insert_29 l2_5.toInt c6 c12)) dX1_insert_22 (fun x22 hv22 o22 => ?_)
          have hv22 : x22.toInt = (aI (G.2.1 (F a 2)) (l2_5.toInt - 1)) := hv22.trans (by rw [(e21 : Int32.toInt x21 = (l2_5.toInt - (1 : Int)))])
          refine lv_iload_n hx hb dX1_insert_23 rfl (lv_at hl 1 rfl) ?_
          refine xi_cle (tgt := 33) hx hb (hv22 : Int32.toInt x22 = (aI (G.2.1 (F a 2)) (l2_5.toInt - 1))) (rfl : Int32.toInt p0 = p0.toInt) dX1_insert_24 (by decide) (fun c24 => ?_) (fun c24 => ?_)
          · exact J33 _ _ _ (v_X1_insert_24_23 a G l2_5 p0 pa) (I5_0) (z_X1_insert_39 l2_5.toInt p0.toInt (aI (G.2.1 (F a 2)) (l2_5.toInt - 1)) c24) hT hS (lv_sub hl [0, 1, 2] rfl)
          · refine xi_iinc (n := (-1)) (lv' := fun z9 => [(2, .int z9), (0, .ref a), (1, .int p0)]) (k := 2) hx hb (rfl : Int32.toInt l2_5 = l2_5.toInt) (by decide) dX1_insert_27 hl rfl (by decide) (fun _ => rfl) (fun x27 ls t27 hl => ?_)
            have e27 : x27.toInt = (l2_5.toInt + (-1)) := (z_X1_insert_40 l2_5.toInt x27.toInt c6 c12 t27)
            have hl : lv_has ls 5 [(2, .int x27), (0, .ref a), (1, .int p0)] := hl
            refine lv_goto (tgt := 5) hx hb dX1_insert_30 (by decide) ?_
            exact ih5 x27 _ _ _ (by rw [(e27 : Int32.toInt x27 = (l2_5.toInt + (-1)))] <;> exact (v_X1_insert_30_24 a G l2_5 p0 N5 ha so pa s0 I5_0 hm5 c6 c12 c24)) (by rw [(e27 : Int32.toInt x27 = (l2_5.toInt + (-1)))] <;> exact (z_X1_insert_41 l2_5.toInt ((G.1 a 3).toInt) I5_0 c6)) (by rw [(e27 : Int32.toInt x27 = (l2_5.toInt + (-1)))] <;> exact (z_X1_insert_21 l2_5.toInt N5 hm5)) hT hS (lv_sub hl [1, 2, 0] rfl)
  exact L5 4294967297 (G.1 a 3) _ _ _ (v_X1_insert_4_25 a G p0 ha so s0) (z_X1_insert_43 ((G.1 a 3).toInt) s0) (z_X1_insert_24 ((G.1 a 3).toInt) s0) hT hS (lv_sub hl [1, 2, 0] rfl)

theorem z_X1_offerKeys_1 (a0 : Int) (h0 : 0 ≤ a0 ∧ a0 ≤ 30) : ¬ (2147483648 - a0 < ((0 : Nat) : Int)) := by omega
theorem z_X1_offerKeys_2 (a0 : Int) (a1 : Int) (a2 : Int) (h0 : 0 ≤ a0 ∧ a0 ≤ 30) (h1 : a1 ≤ a2 ∧ a2 ≤ a1 + a0) : a1 ≤ a2 ∧ a2 ≤ a1 + 30 := by omega
theorem z_X1_offerKeys_3 (a0 : Int) (a1 : Int) (a2 : Int) (h0 : a1 ≤ a2 ∧ a2 ≤ a1 + a0) (h1 : ¬ ((30 : Int) ≤ a0)) : a1 ≤ a2 ∧ a2 ≤ a1 + 30 := by omega
theorem z_X1_offerKeys_4 (a0 : Int) (h0 : 0 ≤ a0 ∧ a0 ≤ 30) : 0 ≤ a0 ∧ a0 < 32 := by omega
theorem z_X1_offerKeys_5 (a0 : Int) (a1 : Int) (h0 : 0 ≤ a0 ∧ a0 ≤ 30) (h1 : a1 = (a0 + 1) ∨ (a0 + 1) < -2147483648 ∨ 2147483648 ≤ (a0 + 1)) : a1 = (a0 + 1) := by omega
theorem z_X1_offerKeys_6 (a0 : Int) (h0 : 0 ≤ a0 ∧ a0 ≤ 30) (h1 : ¬ ((30 : Int) ≤ a0)) : 0 ≤ (a0 + 1) ∧ (a0 + 1) ≤ 30 := by omega
theorem z_X1_offerKeys_7 (a0 : Int) (a1 : Int) (a2 : Int) (h0 : a1 ≤ a2 ∧ a2 ≤ a1 + a0) : a1 ≤ a2 ∧ a2 ≤ a1 + (a0 + 1) := by omega
theorem z_X1_offerKeys_8 (a0 : Int) (h0 : 0 ≤ a0 ∧ a0 ≤ 30) : (0 : Int) ≤ (a0 + 1) := by omega
theorem z_X1_offerKeys_9 (a0 : Int) (a1 : Nat) (h0 : 2147483648 - a0 < ((a1 + 1 : Nat) : Int)) : 2147483648 - (a0 + 1) < ((a1 : Nat) : Int) := by omega
theorem z_X1_offerKeys_10 (a0 : Int) (a1 : Int) (a2 : Int) (h0 : 0 ≤ a1 ∧ a1 ≤ 60) (h1 : a1 ≤ a2 ∧ a2 ≤ a1 + a0) (h2 : ¬ ((30 : Int) ≤ a0)) : 0 ≤ a2 ∧ a2 ≤ 89 := by omega
theorem z_X1_offerKeys_13 (a0 : Int) (a1 : Int) (a2 : Int) (a3 : Int) (h0 : a1 ≤ a3 ∧ a3 ≤ a1 + a0) (h1 : a3 ≤ a2 ∧ a2 ≤ a3 + 1) : a1 ≤ a2 ∧ a2 ≤ a1 + (a0 + 1) := by omega
theorem z_X1_offerKeys_16 (a0 : Int) : a0 ≤ a0 ∧ a0 ≤ a0 + (0 : Int) := by omega
abbrev rm_X1_offerKeys : Room := { frames := 1, cells := 0, slots := 0, locals := 24 }
set_option maxHeartbeats 4000000 in
set_option maxRecDepth 100000 in
theorem c_X1_offerKeys (l : Launch) (E : XE) (K : Nat → Nat) (F : Nat → Nat → Nat) (G : XG) (a : Nat) (p0 : Int32) (ha : K a = 3) (s0 : 0 ≤ ((G.1 a 3).toInt) ∧ ((G.1 a 3).toInt) ≤ 60) (so : SO (G.2.1 (F a 2)) ((G.1 a 3).toInt)) : Met l yX1_offerKeys (xw yX1_offerKeys cX1_offerKeys 3 none) rm_X1_offerKeys (va_Pc [.ref a, .int p0] (XP E K F G)) (XQv E (fun (u : XG) => XFr [(a, 3)] [F a 2] [] G u ∧ (((G.1 a 3).toInt) ≤ ((u.1 a 3).toInt) ∧ ((u.1 a 3).toInt) ≤ ((G.1 a 3).toInt) + 30) ∧ (SO (u.2.1 (F a 2)) ((u.1 a 3).toInt)) ∧ (∀ y : Int, MB (u.2.1 (F a 2)) ((u.1 a 3).toInt) y ↔ MB (G.2.1 (F a 2)) ((G.1 a 3).toInt) y ∨ (0 ≤ y ∧ y < 30 ∧ bI p0.toInt y = 1))) (fun u H => TW E K F u H)) 0 0 (xA E) := by
  refine x_enter (by decide) (Nat.le_of_ble_eq_true rfl) ?_
  intro p e s m args below meth c Q S hr hlk hnm hQ hP ls hl
  obtain ⟨hz, hK, hT⟩ := hP
  obtain ⟨hx, hb, -, -, -⟩ := id S
  obtain ⟨H, hT, hS, hgo⟩ : ∃ H : Heap, TW E K F G H ∧ va_S (xA E) s.heap H [] ∧ H = s.heap := ⟨_, hT, va_S.rf, rfl⟩
  rw [← hgo]
  have hl : lv_has ls 3 [(0, .ref a), (1, .int p0)] := hl
  obtain ⟨hk9999, hj9999⟩ := fkX1_2 hT ha
  refine lv_iconst (v := 0) hx hb dX1_offerKeys_0 (by decide) ?_
  refine lv_istore_n (lv' := [(2, .int 0), (0, .ref a), (1, .int p0)]) hx hb dX1_offerKeys_1 rfl hl (by decide) rfl (fun ls hl => ?_)
  have L2 : ∀ (N2 : Nat) (l2_2 : Int32) (G_2 : XG) (H : Heap) (locs : List Loc) (ls : Array Slot), XFr [(a, 3)] [F a 2] [] G G_2 → SO (G_2.2.1 (F a 2)) ((G_2.1 a 3).toInt) → (∀ y : Int, MB (G_2.2.1 (F a 2)) ((G_2.1 a 3).toInt) y ↔ MB (G.2.1 (F a 2)) ((G.1 a 3).toInt) y ∨ (0 ≤ y ∧ y < l2_2.toInt ∧ bI (p0.toInt) y = 1)) → 0 ≤ l2_2.toInt ∧ l2_2.toInt ≤ 30 → ((G.1 a 3).toInt) ≤ ((G_2.1 a 3).toInt) ∧ ((G_2.1 a 3).toInt) ≤ ((G.1 a 3).toInt) + l2_2.toInt → (0 : Int) ≤ l2_2.toInt → 2147483648 - l2_2.toInt < ((N2 : Nat) : Int) → TW E K F G_2 H → va_S (xA E) s.heap H locs → lv_has ls 3 [(0, .ref a), (1, .int p0), (2, .int l2_2)] → W p l e rm_X1_offerKeys s m args below meth c H locs 0 0 Q (F0 m 2 ls []) := by
    intro N2
    induction N2 with
    | zero =>
      intro l2_2 G_2 H locs ls hF_2 ps pm I2_0 I2_1 I2_2 hm2
      exact absurd hm2 (z_X1_offerKeys_1 l2_2.toInt I2_0)
    | succ N2 ih2 =>
      intro l2_2 G_2 H locs ls hF_2 ps pm I2_0 I2_1 I2_2 hm2 hT hS hl
      refine lv_iload_n hx hb dX1_offerKeys_2 rfl (lv_at hl 2 rfl) ?_
      refine lv_bipush (v := 30) hx hb dX1_offerKeys_3 (by decide) ?_
      refine xi_cge (tgt := 33) hx hb (rfl : Int32.toInt l2_2 = l2_2.toInt) ((by decide) : Int32.toInt 30 = (30 : Int)) dX1_offerKeys_5 (by decide) (fun c5 => ?_) (fun c5 => ?_)
      · exact x_rv hx hb hr hlk hQ (Nat.le_of_ble_eq_true rfl) (Nat.le_of_ble_eq_true rfl) hS dX1_offerKeys_33 G_2 ⟨(XFr.call XFr.rf hF_2 (xm1 0 rfl xm0) (xm1 0 rfl xm0) xm0), (z_X1_offerKeys_2 l2_2.toInt ((G.1 a 3).toInt) ((G_2.1 a 3).toInt) I2_0 I2_1), (v_X1_offerKeys_33_1 a G_2 ps), (v_X1_offerKeys_33_2 a G G_2 l2_2 p0 N2 ha so ps pm s0 I2_0 I2_1 I2_2 hm2 c5)⟩ hT
      · refine lv_iload_n hx hb dX1_offerKeys_8 rfl (lv_at hl 1 rfl) ?_
        refine lv_iload_n hx hb dX1_offerKeys_9 rfl (lv_at hl 2 rfl) ?_
        refine lv_ishr hx hb dX1_offerKeys_10 (lv_topi (fun x10 he10 => ?_))
        refine xi_zeq (tgt := 33) hx hb (rfl : Int32.toInt x10 = x10.toInt) dX1_offerKeys_11 (by decide) (fun c11 => ?_) (fun c11 => ?_)
        · exact x_rv hx hb hr hlk hQ (Nat.le_of_ble_eq_true rfl) (Nat.le_of_ble_eq_true rfl) hS dX1_offerKeys_33 G_2 ⟨(XFr.call XFr.rf hF_2 (xm1 0 rfl xm0) (xm1 0 rfl xm0) xm0), (z_X1_offerKeys_3 l2_2.toInt ((G.1 a 3).toInt) ((G_2.1 a 3).toInt) I2_1 c5), (v_X1_offerKeys_33_3 a G_2 ps), (v_X1_offerKeys_33_4 a G G_2 l2_2 p0 x10 N2 ha so ps pm he10 s0 I2_0 I2_1 I2_2 hm2 c5 c11)⟩ hT
        · refine lv_iload_n hx hb dX1_offerKeys_14 rfl (lv_at hl 1 rfl) ?_
          refine lv_iload_n hx hb dX1_offerKeys_15 rfl (lv_at hl 2 rfl) ?_
          refine lv_ishr hx hb dX1_offerKeys_16 (lv_topi (fun x16 he16 => ?_))
          refine lv_iconst (v := 1) hx hb dX1_offerKeys_17 (by decide) ?_
          refine lv_iand hx hb dX1_offerKeys_18 (lv_topi (fun x18 he18 => ?_))
          have hb18 : x18.toInt = (bI (p0.toInt) (l2_2.toInt)) := bI_and he16 he18 (rfl : Int32.toInt p0 = p0.toInt) (rfl : Int32.toInt l2_2 = l2_2.toInt) (z_X1_offerKeys_4 l2_2.toInt I2_0)
          have hb18a : x18.toInt = 0 ∨ x18.toInt = 1 := by rw [hb18]; exact bI01 _ _
          refine xi_zeq (tgt := 27) hx hb (rfl : Int32.toInt x18 = x18.toInt) dX1_offerKeys_19 (by decide) (fun c19 => ?_) (fun c19 => ?_)
          · refine xi_iinc (n := 1) (lv' := fun z9 => [(2, .int z9), (0, .ref a), (1, .int p0)]) (k := 2) hx hb (rfl : Int32.toInt l2_2 = l2_2.toInt) (by decide) dX1_offerKeys_27 hl rfl (by decide) (fun _ => rfl) (fun x27 ls t27 hl => ?_)
            have e27 : x27.toInt = (l2_2.toInt + 1) := (z_X1_offerKeys_5 l2_2.toInt x27.toInt I2_0 t27)
            have hl : lv_has ls 3 [(2, .int x27), (0, .ref a), (1, .int p0)] := hl
            refine lv_goto (tgt := 2) hx hb dX1_offerKeys_30 (by decide) ?_
            exact ih2 x27 G_2 _ _ _ (XFr.call XFr.rf hF_2 (xm1 0 rfl xm0) (xm1 0 rfl xm0) xm0) (v_X1_offerKeys_30_5 a G_2 ps) (by rw [(e27 : Int32.toInt x27 = (l2_2.toInt + 1))] <;> exact (v_X1_offerKeys_30_6 a G G_2 l2_2 p0 x10 x16 x18 N2 ha so ps pm he10 he16 he18 s0 I2_0 I2_1 I2_2 hm2 c5 c11 hb18 hb18a c19)) (by rw [(e27 : Int32.toInt x27 = (l2_2.toInt + 1))] <;> exact (z_X1_offerKeys_6 l2_2.toInt I2_0 c5)) (by rw [(e27 : Int32.toInt x27 = (l2_2.toInt + 1))] <;> exact (z_X1_offerKeys_7 l2_2.toInt ((G.1 a 3).toInt) ((G_2.1 a 3).toInt) I2_1)) (by rw [(e27 : Int32.toInt x27 = (l2_2.toInt + 1))] <;> exact (z_X1_offerKeys_8 l2_2.toInt I2_0)) (by rw [(e27 : Int32.toInt x27 = (l2_2.toInt + 1))] <;> exact (z_X1_offerKeys_9 l2_2.toInt N2 hm2)) hT hS (lv_sub hl [1, 2, 0] rfl)
          · refine lv_aload_n hx hb dX1_offerKeys_22 rfl (lv_at hl 0 rfl) ?_
            refine lv_iload_n hx hb dX1_offerKeys_23 rfl (lv_at hl 2 rfl) ?_
            refine x_cv0 (x_runV (b := a) (As := [.int l2_2]) (rest := []) S (c_X1_insert l E K F G_2 a l2_2 ha (z_X1_offerKeys_10 l2_2.toInt ((G.1 a 3).toInt) ((G_2.1 a 3).toInt) s0 I2_1 c5) (v_X1_offerKeys_24_7 a G_2 ps)) mv_X1_insert km_X1_93 rfl rfl ⟨Nat.le_of_ble_eq_true rfl, Nat.le_of_ble_eq_true rfl⟩ (rc_3 hK hT ha) hK (fun _ => XP.blind) (fun U hU hW => XP.at hK hz hS hT hU hW) rfl hl.1 (Nat.le_of_ble_eq_true rfl) dX1_offerKeys_24 ⟨Nat.le_of_ble_eq_true rfl, Nat.le_of_ble_eq_true rfl⟩) hS ?_
            rintro G24 H locs ⟨hF24, t24, oq24, oq24a⟩ hT hS
            have t24 : ((G_2.1 a 3).toInt) ≤ ((G24.1 a 3).toInt) ∧ ((G24.1 a 3).toInt) ≤ ((G_2.1 a 3).toInt) + 1 := t24
            refine xi_iinc (n := 1) (lv' := fun z9 => [(2, .int z9), (0, .ref a), (1, .int p0)]) (k := 2) hx hb (rfl : Int32.toInt l2_2 = l2_2.toInt) (by decide) dX1_offerKeys_27 hl rfl (by decide) (fun _ => rfl) (fun x27 ls t27 hl => ?_)
            have e27 : x27.toInt = (l2_2.toInt + 1) := (z_X1_offerKeys_5 l2_2.toInt x27.toInt I2_0 t27)
            have hl : lv_has ls 3 [(2, .int x27), (0, .ref a), (1, .int p0)] := hl
            refine lv_goto (tgt := 2) hx hb dX1_offerKeys_30 (by decide) ?_
            exact ih2 x27 G24 _ _ _ (XFr.call (XFr.call XFr.rf hF_2 (xm1 0 rfl xm0) (xm1 0 rfl xm0) xm0) hF24 (xm1 0 rfl xm0) (xm1 0 rfl xm0) xm0) (v_X1_offerKeys_30_8 a G_2 G24 ps oq24) (by rw [(e27 : Int32.toInt x27 = (l2_2.toInt + 1))] <;> exact (v_X1_offerKeys_30_9 a G G_2 G24 l2_2 p0 x10 x16 x18 N2 ha so ps pm he10 he16 he18 oq24 oq24a s0 I2_0 I2_1 I2_2 hm2 c5 c11 hb18 hb18a c19 t24)) (by rw [(e27 : Int32.toInt x27 = (l2_2.toInt + 1))] <;> exact (z_X1_offerKeys_6 l2_2.toInt I2_0 c5)) (by rw [(e27 : Int32.toInt x27 = (l2_2.toInt + 1))] <;> exact (z_X1_offerKeys_13 l2_2.toInt ((G.1 a 3).toInt) ((G24.1 a 3).toInt) ((G_2.1 a 3).toInt) I2_1 t24)) (by rw [(e27 : Int32.toInt x27 = (l2_2.toInt + 1))] <;> exact (z_X1_offerKeys_8 l2_2.toInt I2_0)) (by rw [(e27 : Int32.toInt x27 = (l2_2.toInt + 1))] <;> exact (z_X1_offerKeys_9 l2_2.toInt N2 hm2)) hT hS (lv_sub hl [1, 2, 0] rfl)
  exact L2 4294967297 0 G _ _ _ XFr.rf (v_X1_offerKeys_1_10 a G so) (v_X1_offerKeys_1_11 a G p0 ha so s0) (by decide) (z_X1_offerKeys_16 ((G.1 a 3).toInt)) (by decide) (by decide) hT hS (lv_sub hl [1, 2, 0] rfl)
section
theorem RO.bit {r b : Int → Int} (h : RO r b) {t k : Int} (h0 : 0 ≤ t ∧ t < 3 ∧ 0 ≤ k ∧ k < 30) : bI (b t) k = 1 ↔ cel r t k 0 ≠ -2000 := by
  rw [cel_in (by omega), Int.mul_zero, Int.add_zero]
  exact (h.1 t k h0.1 h0.2.1 h0.2.2.1 h0.2.2.2).1
def DFF (r1 r2 : Int → Int) (t k : Int) : Prop := cel r1 t k 0 ≠ cel r2 t k 0 ∨ cel r1 t k 1 ≠ cel r2 t k 1 ∨ cel r1 t k 2 ≠ cel r2 t k 2
def XRR (r1 r2 : Int → Int) (t k : Int) : Prop := ¬ (cel r1 t k 0 = -2000 ↔ cel r2 t k 0 = -2000)
theorem dff_x {r1 r2 b1 b2 : Int → Int} (h1 : RO r1 b1) (h2 : RO r2 b2) {t k : Int} (h : ¬ (cel r1 t k 0 ≠ -2000 ∧ cel r2 t k 0 ≠ -2000)) : DFF r1 r2 t k ↔ XRR r1 r2 t k := by
  have a1 := h1.absent t k 1 (by omega)
  have a2 := h1.absent t k 2 (by omega)
  have c1 := h2.absent t k 1 (by omega)
  have c2 := h2.absent t k 2 (by omega)
  unfold DFF XRR
  generalize cel r1 t k 0 = x0 at *
  generalize cel r1 t k 1 = x1 at *
  generalize cel r1 t k 2 = x2 at *
  generalize cel r2 t k 0 = y0 at *
  generalize cel r2 t k 1 = y1 at *
  generalize cel r2 t k 2 = y2 at *
  by_cases e0 : x0 = -2000 <;> by_cases e1 : y0 = -2000 <;> constructor <;> intro hh <;> omega
/-- how far the changed keys of the table t are told -/
def CHk (r1 r2 : Int → Int) (v t n : Int) : Prop := ∀ k : Int, 0 ≤ k → k < 30 → (bI v k = 1 ↔ (k < n ∧ DFF r1 r2 t k) ∨ (n ≤ k ∧ XRR r1 r2 t k))
theorem CHk.nxt {r1 r2 b1 b2 : Int → Int} (h1 : RO r1 b1) (h2 : RO r2 b2) {v v2 t n : Int} (h : CHk r1 r2 v t n) (h0 : 0 ≤ t ∧ t < 3 ∧ 0 ≤ n ∧ n < 30) (hv : (v2 = v ∧ (¬ (bI (b1 t) n = 1 ∧ bI (b2 t) n = 1) ∨ ¬ DFF r1 r2 t n)) ∨ ((∀ j : Int, 0 ≤ j → j < 32 → bI v2 j = if j = n then 1 else bI v j) ∧ DFF r1 r2 t n)) : CHk r1 r2 v2 t (n + 1) := by
  intro k k0 k1
  have q1 := h1.bit (t := t) (k := n) (by omega)
  have q2 := h2.bit (t := t) (k := n) (by omega)
  have hk := h k k0 k1
  rcases hv with ⟨e, hd⟩ | ⟨hb, hd⟩
  · subst e
    rw [hk]
    by_cases e : k = n
    · subst e
      have key : DFF r1 r2 t k ↔ XRR r1 r2 t k := by
        by_cases g : cel r1 t k 0 ≠ -2000 ∧ cel r2 t k 0 ≠ -2000
        · rcases hd with hd | hd
          · exact absurd ⟨q1.mpr g.1, q2.mpr g.2⟩ hd
          · refine ⟨fun z => absurd z hd, fun z => absurd ?_ z⟩
            exact ⟨fun w => absurd w g.1, fun w => absurd w g.2⟩
        · exact dff_x h1 h2 g
      constructor
      · rintro (⟨a, _⟩ | ⟨_, a⟩)
        · omega
        · exact Or.inl ⟨by omega, key.mpr a⟩
      · rintro (⟨_, a⟩ | ⟨a, _⟩)
        · exact Or.inr ⟨by omega, key.mp a⟩
        · omega
    · constructor
      · rintro (⟨a, b⟩ | ⟨a, b⟩)
        · exact Or.inl ⟨by omega, b⟩
        · exact Or.inr ⟨by omega, b⟩
      · rintro (⟨a, b⟩ | ⟨a, b⟩)
        · exact Or.inl ⟨by omega, b⟩
        · exact Or.inr ⟨by omega, b⟩
  · rw [hb k k0 (by omega)]
    by_cases e : k = n
    · subst e
      rw [if_pos rfl]
      exact ⟨fun _ => Or.inl ⟨by omega, hd⟩, fun _ => rfl⟩
    · rw [if_neg e, hk]
      constructor
      · rintro (⟨a, b⟩ | ⟨a, b⟩)
        · exact Or.inl ⟨by omega, b⟩
        · exact Or.inr ⟨by omega, b⟩
      · rintro (⟨a, b⟩ | ⟨a, b⟩)
        · exact Or.inl ⟨by omega, b⟩
        · exact Or.inr ⟨by omega, b⟩
theorem CHk_0 {r1 r2 b1 b2 : Int → Int} (h1 : RO r1 b1) (h2 : RO r2 b2) {v t : Int} (h0 : 0 ≤ t ∧ t < 3) (hx : ∀ j : Int, bI v j = 1 ↔ bI (b1 t) j ≠ bI (b2 t) j) : (∀ k : Int, 0 ≤ k → k < 30 → (bI v k = 1 ↔ XRR r1 r2 t k)) ∧ CHk r1 r2 v t 0 := by
  have key : ∀ k : Int, 0 ≤ k → k < 30 → (bI v k = 1 ↔ XRR r1 r2 t k) := by
    intro k k0 k1
    have q1 := h1.bit (t := t) (k := k) (by omega)
    have q2 := h2.bit (t := t) (k := k) (by omega)
    rw [hx k]
    unfold XRR
    have z1 := bI01 (b1 t) k
    have z2 := bI01 (b2 t) k
    constructor
    · intro hne hi
      apply hne
      rcases z1 with e | e <;> rcases z2 with e2 | e2
      · omega
      · exact absurd (hi.mp (Classical.byContradiction (fun w => by have := q1.mpr w; omega))) (q2.mp e2)
      · exact absurd (hi.mpr (Classical.byContradiction (fun w => by have := q2.mpr w; omega))) (q1.mp e)
      · omega
    · intro hn he
      apply hn
      constructor
      · intro w
        apply Classical.byContradiction
        intro w2
        exact absurd w (q1.mp (by rw [he]; exact q2.mpr w2))
      · intro w
        apply Classical.byContradiction
        intro w2
        exact absurd w (q2.mp (by rw [← he]; exact q1.mpr w2))
  exact ⟨key, fun k k0 k1 => (key k k0 k1).trans ⟨fun z => Or.inr ⟨k0, z⟩, fun z => z.elim (fun w => absurd w.1 (by omega)) (fun w => w.2)⟩⟩
theorem qL_cg {G u : XG} {F : Nat → Nat → Nat} {a : Nat} (hn : u.1 a 6 = G.1 a 6) (h0 : u.2.1 (F a 0) = G.2.1 (F a 0)) (h1 : u.2.1 (F a 1) = G.2.1 (F a 1)) (h2 : u.2.1 (F a 2) = G.2.1 (F a 2)) (h3 : u.2.1 (F a 3) = G.2.1 (F a 3)) (h4 : u.2.1 (F a 4) = G.2.1 (F a 4)) (h5 : u.2.1 (F a 5) = G.2.1 (F a 5)) : qL u F a = qL G F a := by
  unfold qL
  rw [hn, h0, h1, h2, h3, h4, h5]
section LA
variable {G G1 : XG} {a i b : Nat} {v : Int32} {o : Option Nat} {f : Nat → Int32}
theorem ld_A (h : G1 = dput G a i v) (hn : b ≠ a) : G1.1 b = G.1 b := by subst h; exact up2_ne hn
theorem lc_A (h : G1 = cput G a i v) : G1.1 b = G.1 b := by subst h; rfl
theorem lcc_A (h : G1 = ccopy G a f) : G1.1 b = G.1 b := by subst h; rfl
theorem lr_A (h : G1 = rput G a i o) : G1.1 b = G.1 b := by subst h; rfl
theorem fr_A {d : List (Nat × Nat)} {c r : List Nat} (h : XFr d c r G G1) (hn : ∀ j, (b, j) ∉ d) : G1.1 b = G.1 b := funext (fun j => h.1 b j (hn j))
end LA
theorem OFd.sb {r1 r2 cg ch : Int → Int} {kd t c o y : Int} (h : OFd r1 r2 cg ch kd t c o y) : sbj kd y := by
  rcases h with ⟨h1, h2, h3, _⟩ | ⟨_, k, _, _, _, _, h5⟩ | ⟨h1, h2, h3, _⟩
  · unfold sbj; omega
  · rcases h5 with ⟨e, h⟩ | ⟨e, h⟩
    · rw [e]; exact h
    · rw [e]; exact h
  · unfold sbj; omega
theorem filterMap_1n {α : Type} {g : Int → Option α} {x : Int} (h : g x = none) : [x].filterMap g = [] := by rw [List.filterMap_cons_none h]; rfl
theorem filterMap_1s {α : Type} {g : Int → Option α} {x : Int} {y : α} (h : g x = some y) : [x].filterMap g = [y] := by rw [List.filterMap_cons_some h]; rfl
end
theorem v_X1_offerValues_78_1 {F : Nat → Nat → Nat} (a : Nat) (G : XG)
    (so : SO (G.2.1 (F a 2)) ((G.1 a 3).toInt)) :
    SO (G.2.1 (F a 2)) ((G.1 a 3).toInt) := by
  first | exact oq75 | exact oq60 | exact so
theorem v_X1_offerValues_78_2 {K : Nat → Nat} {F : Nat → Nat → Nat} (a : Nat) (p0 : Nat) (p1 : Nat) (p2 : Nat) (G : XG) (p3 : Int32) (x51 : Int32) (x66 : Int32)
    (ha : K a = 3)
    (hp0 : K p0 = 9)
    (hp1 : K p1 = 8)
    (hp2 : K p2 = 8)
    (so : SO (G.2.1 (F a 2)) ((G.1 a 3).toInt))
    (s0 : 0 ≤ ((G.1 a 3).toInt) ∧ ((G.1 a 3).toInt) ≤ 88)
    (c36 : (cel (vw (G.2.1 (F p1 0))) ((G.1 p0 2).toInt) (p3.toInt) ((G.1 p0 3).toInt)) ≠ (cel (vw (G.2.1 (F p2 0))) ((G.1 p0 2).toInt) (p3.toInt) ((G.1 p0 3).toInt)))
    (t51 : ((((((G.1 p0 0).toInt) = 2 ∨ ((G.1 p0 0).toInt) = 4 ∨ ((G.1 p0 0).toInt) = 5) ∧ 0 ≤ (cel (vw (G.2.1 (F p1 0))) ((G.1 p0 2).toInt) (p3.toInt) ((G.1 p0 3).toInt)) ∧ (cel (vw (G.2.1 (F p1 0))) ((G.1 p0 2).toInt) (p3.toInt) ((G.1 p0 3).toInt)) < 30) ∨ (¬ (((G.1 p0 0).toInt) = 2 ∨ ((G.1 p0 0).toInt) = 4 ∨ ((G.1 p0 0).toInt) = 5) ∧ -99 ≤ (cel (vw (G.2.1 (F p1 0))) ((G.1 p0 2).toInt) (p3.toInt) ((G.1 p0 3).toInt)) ∧ (cel (vw (G.2.1 (F p1 0))) ((G.1 p0 2).toInt) (p3.toInt) ((G.1 p0 3).toInt)) ≤ 99)) ∧ x51.toInt = 1) ∨ (¬ (((((G.1 p0 0).toInt) = 2 ∨ ((G.1 p0 0).toInt) = 4 ∨ ((G.1 p0 0).toInt) = 5) ∧ 0 ≤ (cel (vw (G.2.1 (F p1 0))) ((G.1 p0 2).toInt) (p3.toInt) ((G.1 p0 3).toInt)) ∧ (cel (vw (G.2.1 (F p1 0))) ((G.1 p0 2).toInt) (p3.toInt) ((G.1 p0 3).toInt)) < 30) ∨ (¬ (((G.1 p0 0).toInt) = 2 ∨ ((G.1 p0 0).toInt) = 4 ∨ ((G.1 p0 0).toInt) = 5) ∧ -99 ≤ (cel (vw (G.2.1 (F p1 0))) ((G.1 p0 2).toInt) (p3.toInt) ((G.1 p0 3).toInt)) ∧ (cel (vw (G.2.1 (F p1 0))) ((G.1 p0 2).toInt) (p3.toInt) ((G.1 p0 3).toInt)) ≤ 99)) ∧ x51.toInt = 0))
    (c54 : x51.toInt = 0)
    (t66 : ((((((G.1 p0 0).toInt) = 2 ∨ ((G.1 p0 0).toInt) = 4 ∨ ((G.1 p0 0).toInt) = 5) ∧ 0 ≤ (cel (vw (G.2.1 (F p2 0))) ((G.1 p0 2).toInt) (p3.toInt) ((G.1 p0 3).toInt)) ∧ (cel (vw (G.2.1 (F p2 0))) ((G.1 p0 2).toInt) (p3.toInt) ((G.1 p0 3).toInt)) < 30) ∨ (¬ (((G.1 p0 0).toInt) = 2 ∨ ((G.1 p0 0).toInt) = 4 ∨ ((G.1 p0 0).toInt) = 5) ∧ -99 ≤ (cel (vw (G.2.1 (F p2 0))) ((G.1 p0 2).toInt) (p3.toInt) ((G.1 p0 3).toInt)) ∧ (cel (vw (G.2.1 (F p2 0))) ((G.1 p0 2).toInt) (p3.toInt) ((G.1 p0 3).toInt)) ≤ 99)) ∧ x66.toInt = 1) ∨ (¬ (((((G.1 p0 0).toInt) = 2 ∨ ((G.1 p0 0).toInt) = 4 ∨ ((G.1 p0 0).toInt) = 5) ∧ 0 ≤ (cel (vw (G.2.1 (F p2 0))) ((G.1 p0 2).toInt) (p3.toInt) ((G.1 p0 3).toInt)) ∧ (cel (vw (G.2.1 (F p2 0))) ((G.1 p0 2).toInt) (p3.toInt) ((G.1 p0 3).toInt)) < 30) ∨ (¬ (((G.1 p0 0).toInt) = 2 ∨ ((G.1 p0 0).toInt) = 4 ∨ ((G.1 p0 0).toInt) = 5) ∧ -99 ≤ (cel (vw (G.2.1 (F p2 0))) ((G.1 p0 2).toInt) (p3.toInt) ((G.1 p0 3).toInt)) ∧ (cel (vw (G.2.1 (F p2 0))) ((G.1 p0 2).toInt) (p3.toInt) ((G.1 p0 3).toInt)) ≤ 99)) ∧ x66.toInt = 0))
    (c69 : x66.toInt = 0) :
    ∀ y : Int, MB (G.2.1 (F a 2)) ((G.1 a 3).toInt) y ↔ MB (G.2.1 (F a 2)) ((G.1 a 3).toInt) y ∨ OV ((G.1 p0 0).toInt) (cel (vw (G.2.1 (F p1 0))) ((G.1 p0 2).toInt) (p3.toInt) ((G.1 p0 3).toInt)) (cel (vw (G.2.1 (F p2 0))) ((G.1 p0 2).toInt) (p3.toInt) ((G.1 p0 3).toInt)) y := by
  intro y
  first | rw [oq75a y, oq60a y] | rw [oq75a y] | rw [oq60a y] | skip
  unfold OV sbj
  by_cases M : MB (G.2.1 (F a 2)) ((G.1 a 3).toInt) y
  · simp only [M, true_or]
  · simp only [M, false_or]
    constructor <;> intro hh <;> first | exact hh.elim | omega
theorem v_X1_offerValues_75_3 {F : Nat → Nat → Nat} (a : Nat) (G : XG)
    (so : SO (G.2.1 (F a 2)) ((G.1 a 3).toInt)) :
    SO (G.2.1 (F a 2)) ((G.1 a 3).toInt) := by
  first | exact oq60 | exact so
theorem v_X1_offerValues_78_4 {F : Nat → Nat → Nat} (a : Nat) (G : XG) (G75 : XG)
    (so : SO (G.2.1 (F a 2)) ((G.1 a 3).toInt))
    (oq75 : SO (G75.2.1 (F a 2)) ((G75.1 a 3).toInt)) :
    SO (G75.2.1 (F a 2)) ((G75.1 a 3).toInt) := by
  first | exact oq75 | exact oq60 | exact so
theorem v_X1_offerValues_78_5 {K : Nat → Nat} {F : Nat → Nat → Nat} (a : Nat) (p0 : Nat) (p1 : Nat) (p2 : Nat) (G : XG) (G75 : XG) (p3 : Int32) (x51 : Int32) (x66 : Int32)
    (ha : K a = 3)
    (hp0 : K p0 = 9)
    (hp1 : K p1 = 8)
    (hp2 : K p2 = 8)
    (so : SO (G.2.1 (F a 2)) ((G.1 a 3).toInt))
    (oq75 : SO (G75.2.1 (F a 2)) ((G75.1 a 3).toInt))
    (oq75a : ∀ y : Int, MB (G75.2.1 (F a 2)) ((G75.1 a 3).toInt) y ↔ MB (G.2.1 (F a 2)) ((G.1 a 3).toInt) y ∨ y = (cel (vw (G.2.1 (F p2 0))) ((G.1 p0 2).toInt) (p3.toInt) ((G.1 p0 3).toInt)))
    (s0 : 0 ≤ ((G.1 a 3).toInt) ∧ ((G.1 a 3).toInt) ≤ 88)
    (c36 : (cel (vw (G.2.1 (F p1 0))) ((G.1 p0 2).toInt) (p3.toInt) ((G.1 p0 3).toInt)) ≠ (cel (vw (G.2.1 (F p2 0))) ((G.1 p0 2).toInt) (p3.toInt) ((G.1 p0 3).toInt)))
    (t51 : ((((((G.1 p0 0).toInt) = 2 ∨ ((G.1 p0 0).toInt) = 4 ∨ ((G.1 p0 0).toInt) = 5) ∧ 0 ≤ (cel (vw (G.2.1 (F p1 0))) ((G.1 p0 2).toInt) (p3.toInt) ((G.1 p0 3).toInt)) ∧ (cel (vw (G.2.1 (F p1 0))) ((G.1 p0 2).toInt) (p3.toInt) ((G.1 p0 3).toInt)) < 30) ∨ (¬ (((G.1 p0 0).toInt) = 2 ∨ ((G.1 p0 0).toInt) = 4 ∨ ((G.1 p0 0).toInt) = 5) ∧ -99 ≤ (cel (vw (G.2.1 (F p1 0))) ((G.1 p0 2).toInt) (p3.toInt) ((G.1 p0 3).toInt)) ∧ (cel (vw (G.2.1 (F p1 0))) ((G.1 p0 2).toInt) (p3.toInt) ((G.1 p0 3).toInt)) ≤ 99)) ∧ x51.toInt = 1) ∨ (¬ (((((G.1 p0 0).toInt) = 2 ∨ ((G.1 p0 0).toInt) = 4 ∨ ((G.1 p0 0).toInt) = 5) ∧ 0 ≤ (cel (vw (G.2.1 (F p1 0))) ((G.1 p0 2).toInt) (p3.toInt) ((G.1 p0 3).toInt)) ∧ (cel (vw (G.2.1 (F p1 0))) ((G.1 p0 2).toInt) (p3.toInt) ((G.1 p0 3).toInt)) < 30) ∨ (¬ (((G.1 p0 0).toInt) = 2 ∨ ((G.1 p0 0).toInt) = 4 ∨ ((G.1 p0 0).toInt) = 5) ∧ -99 ≤ (cel (vw (G.2.1 (F p1 0))) ((G.1 p0 2).toInt) (p3.toInt) ((G.1 p0 3).toInt)) ∧ (cel (vw (G.2.1 (F p1 0))) ((G.1 p0 2).toInt) (p3.toInt) ((G.1 p0 3).toInt)) ≤ 99)) ∧ x51.toInt = 0))
    (c54 : x51.toInt = 0)
    (t66 : ((((((G.1 p0 0).toInt) = 2 ∨ ((G.1 p0 0).toInt) = 4 ∨ ((G.1 p0 0).toInt) = 5) ∧ 0 ≤ (cel (vw (G.2.1 (F p2 0))) ((G.1 p0 2).toInt) (p3.toInt) ((G.1 p0 3).toInt)) ∧ (cel (vw (G.2.1 (F p2 0))) ((G.1 p0 2).toInt) (p3.toInt) ((G.1 p0 3).toInt)) < 30) ∨ (¬ (((G.1 p0 0).toInt) = 2 ∨ ((G.1 p0 0).toInt) = 4 ∨ ((G.1 p0 0).toInt) = 5) ∧ -99 ≤ (cel (vw (G.2.1 (F p2 0))) ((G.1 p0 2).toInt) (p3.toInt) ((G.1 p0 3).toInt)) ∧ (cel (vw (G.2.1 (F p2 0))) ((G.1 p0 2).toInt) (p3.toInt) ((G.1 p0 3).toInt)) ≤ 99)) ∧ x66.toInt = 1) ∨ (¬ (((((G.1 p0 0).toInt) = 2 ∨ ((G.1 p0 0).toInt) = 4 ∨ ((G.1 p0 0).toInt) = 5) ∧ 0 ≤ (cel (vw (G.2.1 (F p2 0))) ((G.1 p0 2).toInt) (p3.toInt) ((G.1 p0 3).toInt)) ∧ (cel (vw (G.2.1 (F p2 0))) ((G.1 p0 2).toInt) (p3.toInt) ((G.1 p0 3).toInt)) < 30) ∨ (¬ (((G.1 p0 0).toInt) = 2 ∨ ((G.1 p0 0).toInt) = 4 ∨ ((G.1 p0 0).toInt) = 5) ∧ -99 ≤ (cel (vw (G.2.1 (F p2 0))) ((G.1 p0 2).toInt) (p3.toInt) ((G.1 p0 3).toInt)) ∧ (cel (vw (G.2.1 (F p2 0))) ((G.1 p0 2).toInt) (p3.toInt) ((G.1 p0 3).toInt)) ≤ 99)) ∧ x66.toInt = 0))
    (c69 : ¬ (x66.toInt = 0))
    (t75 : ((G.1 a 3).toInt) ≤ ((G75.1 a 3).toInt) ∧ ((G75.1 a 3).toInt) ≤ ((G.1 a 3).toInt) + 1) :
    ∀ y : Int, MB (G75.2.1 (F a 2)) ((G75.1 a 3).toInt) y ↔ MB (G.2.1 (F a 2)) ((G.1 a 3).toInt) y ∨ OV ((G.1 p0 0).toInt) (cel (vw (G.2.1 (F p1 0))) ((G.1 p0 2).toInt) (p3.toInt) ((G.1 p0 3).toInt)) (cel (vw (G.2.1 (F p2 0))) ((G.1 p0 2).toInt) (p3.toInt) ((G.1 p0 3).toInt)) y := by
  intro y
  first | rw [oq75a y, oq60a y] | rw [oq75a y] | rw [oq60a y] | skip
  unfold OV sbj
  by_cases M : MB (G.2.1 (F a 2)) ((G.1 a 3).toInt) y
  · simp only [M, true_or]
  · simp only [M, false_or]
    constructor <;> intro hh <;> first | exact hh.elim | omega
theorem v_X1_offerValues_60_6 {F : Nat → Nat → Nat} (a : Nat) (G : XG)
    (so : SO (G.2.1 (F a 2)) ((G.1 a 3).toInt)) :
    SO (G.2.1 (F a 2)) ((G.1 a 3).toInt) := by
  exact so
theorem v_X1_offerValues_78_7 {F : Nat → Nat → Nat} (a : Nat) (G : XG) (G60 : XG)
    (so : SO (G.2.1 (F a 2)) ((G.1 a 3).toInt))
    (oq60 : SO (G60.2.1 (F a 2)) ((G60.1 a 3).toInt)) :
    SO (G60.2.1 (F a 2)) ((G60.1 a 3).toInt) := by
  first | exact oq75 | exact oq60 | exact so
theorem v_X1_offerValues_78_8 {K : Nat → Nat} {F : Nat → Nat → Nat} (a : Nat) (p0 : Nat) (p1 : Nat) (p2 : Nat) (G : XG) (G60 : XG) (p3 : Int32) (x51 : Int32) (x66 : Int32)
    (ha : K a = 3)
    (hp0 : K p0 = 9)
    (hp1 : K p1 = 8)
    (hp2 : K p2 = 8)
    (so : SO (G.2.1 (F a 2)) ((G.1 a 3).toInt))
    (oq60 : SO (G60.2.1 (F a 2)) ((G60.1 a 3).toInt))
    (oq60a : ∀ y : Int, MB (G60.2.1 (F a 2)) ((G60.1 a 3).toInt) y ↔ MB (G.2.1 (F a 2)) ((G.1 a 3).toInt) y ∨ y = (cel (vw (G.2.1 (F p1 0))) ((G.1 p0 2).toInt) (p3.toInt) ((G.1 p0 3).toInt)))
    (s0 : 0 ≤ ((G.1 a 3).toInt) ∧ ((G.1 a 3).toInt) ≤ 88)
    (c36 : (cel (vw (G.2.1 (F p1 0))) ((G.1 p0 2).toInt) (p3.toInt) ((G.1 p0 3).toInt)) ≠ (cel (vw (G.2.1 (F p2 0))) ((G.1 p0 2).toInt) (p3.toInt) ((G.1 p0 3).toInt)))
    (t51 : ((((((G.1 p0 0).toInt) = 2 ∨ ((G.1 p0 0).toInt) = 4 ∨ ((G.1 p0 0).toInt) = 5) ∧ 0 ≤ (cel (vw (G.2.1 (F p1 0))) ((G.1 p0 2).toInt) (p3.toInt) ((G.1 p0 3).toInt)) ∧ (cel (vw (G.2.1 (F p1 0))) ((G.1 p0 2).toInt) (p3.toInt) ((G.1 p0 3).toInt)) < 30) ∨ (¬ (((G.1 p0 0).toInt) = 2 ∨ ((G.1 p0 0).toInt) = 4 ∨ ((G.1 p0 0).toInt) = 5) ∧ -99 ≤ (cel (vw (G.2.1 (F p1 0))) ((G.1 p0 2).toInt) (p3.toInt) ((G.1 p0 3).toInt)) ∧ (cel (vw (G.2.1 (F p1 0))) ((G.1 p0 2).toInt) (p3.toInt) ((G.1 p0 3).toInt)) ≤ 99)) ∧ x51.toInt = 1) ∨ (¬ (((((G.1 p0 0).toInt) = 2 ∨ ((G.1 p0 0).toInt) = 4 ∨ ((G.1 p0 0).toInt) = 5) ∧ 0 ≤ (cel (vw (G.2.1 (F p1 0))) ((G.1 p0 2).toInt) (p3.toInt) ((G.1 p0 3).toInt)) ∧ (cel (vw (G.2.1 (F p1 0))) ((G.1 p0 2).toInt) (p3.toInt) ((G.1 p0 3).toInt)) < 30) ∨ (¬ (((G.1 p0 0).toInt) = 2 ∨ ((G.1 p0 0).toInt) = 4 ∨ ((G.1 p0 0).toInt) = 5) ∧ -99 ≤ (cel (vw (G.2.1 (F p1 0))) ((G.1 p0 2).toInt) (p3.toInt) ((G.1 p0 3).toInt)) ∧ (cel (vw (G.2.1 (F p1 0))) ((G.1 p0 2).toInt) (p3.toInt) ((G.1 p0 3).toInt)) ≤ 99)) ∧ x51.toInt = 0))
    (c54 : ¬ (x51.toInt = 0))
    (t60 : ((G.1 a 3).toInt) ≤ ((G60.1 a 3).toInt) ∧ ((G60.1 a 3).toInt) ≤ ((G.1 a 3).toInt) + 1)
    (t66 : ((((((G.1 p0 0).toInt) = 2 ∨ ((G.1 p0 0).toInt) = 4 ∨ ((G.1 p0 0).toInt) = 5) ∧ 0 ≤ (cel (vw (G.2.1 (F p2 0))) ((G.1 p0 2).toInt) (p3.toInt) ((G.1 p0 3).toInt)) ∧ (cel (vw (G.2.1 (F p2 0))) ((G.1 p0 2).toInt) (p3.toInt) ((G.1 p0 3).toInt)) < 30) ∨ (¬ (((G.1 p0 0).toInt) = 2 ∨ ((G.1 p0 0).toInt) = 4 ∨ ((G.1 p0 0).toInt) = 5) ∧ -99 ≤ (cel (vw (G.2.1 (F p2 0))) ((G.1 p0 2).toInt) (p3.toInt) ((G.1 p0 3).toInt)) ∧ (cel (vw (G.2.1 (F p2 0))) ((G.1 p0 2).toInt) (p3.toInt) ((G.1 p0 3).toInt)) ≤ 99)) ∧ x66.toInt = 1) ∨ (¬ (((((G.1 p0 0).toInt) = 2 ∨ ((G.1 p0 0).toInt) = 4 ∨ ((G.1 p0 0).toInt) = 5) ∧ 0 ≤ (cel (vw (G.2.1 (F p2 0))) ((G.1 p0 2).toInt) (p3.toInt) ((G.1 p0 3).toInt)) ∧ (cel (vw (G.2.1 (F p2 0))) ((G.1 p0 2).toInt) (p3.toInt) ((G.1 p0 3).toInt)) < 30) ∨ (¬ (((G.1 p0 0).toInt) = 2 ∨ ((G.1 p0 0).toInt) = 4 ∨ ((G.1 p0 0).toInt) = 5) ∧ -99 ≤ (cel (vw (G.2.1 (F p2 0))) ((G.1 p0 2).toInt) (p3.toInt) ((G.1 p0 3).toInt)) ∧ (cel (vw (G.2.1 (F p2 0))) ((G.1 p0 2).toInt) (p3.toInt) ((G.1 p0 3).toInt)) ≤ 99)) ∧ x66.toInt = 0))
    (c69 : x66.toInt = 0) :
    ∀ y : Int, MB (G60.2.1 (F a 2)) ((G60.1 a 3).toInt) y ↔ MB (G.2.1 (F a 2)) ((G.1 a 3).toInt) y ∨ OV ((G.1 p0 0).toInt) (cel (vw (G.2.1 (F p1 0))) ((G.1 p0 2).toInt) (p3.toInt) ((G.1 p0 3).toInt)) (cel (vw (G.2.1 (F p2 0))) ((G.1 p0 2).toInt) (p3.toInt) ((G.1 p0 3).toInt)) y := by
  intro y
  first | rw [oq75a y, oq60a y] | rw [oq75a y] | rw [oq60a y] | skip
  unfold OV sbj
  by_cases M : MB (G.2.1 (F a 2)) ((G.1 a 3).toInt) y
  · simp only [M, true_or]
  · simp only [M, false_or]
    constructor <;> intro hh <;> first | exact hh.elim | omega
theorem v_X1_offerValues_75_9 {F : Nat → Nat → Nat} (a : Nat) (G : XG) (G60 : XG)
    (so : SO (G.2.1 (F a 2)) ((G.1 a 3).toInt))
    (oq60 : SO (G60.2.1 (F a 2)) ((G60.1 a 3).toInt)) :
    SO (G60.2.1 (F a 2)) ((G60.1 a 3).toInt) := by
  first | exact oq60 | exact so
theorem v_X1_offerValues_78_10 {F : Nat → Nat → Nat} (a : Nat) (G : XG) (G60 : XG) (G75 : XG)
    (so : SO (G.2.1 (F a 2)) ((G.1 a 3).toInt))
    (oq60 : SO (G60.2.1 (F a 2)) ((G60.1 a 3).toInt))
    (oq75 : SO (G75.2.1 (F a 2)) ((G75.1 a 3).toInt)) :
    SO (G75.2.1 (F a 2)) ((G75.1 a 3).toInt) := by
  first | exact oq75 | exact oq60 | exact so
theorem v_X1_offerValues_78_11 {K : Nat → Nat} {F : Nat → Nat → Nat} (a : Nat) (p0 : Nat) (p1 : Nat) (p2 : Nat) (G : XG) (G60 : XG) (G75 : XG) (p3 : Int32) (x51 : Int32) (x66 : Int32)
    (ha : K a = 3)
    (hp0 : K p0 = 9)
    (hp1 : K p1 = 8)
    (hp2 : K p2 = 8)
    (so : SO (G.2.1 (F a 2)) ((G.1 a 3).toInt))
    (oq60 : SO (G60.2.1 (F a 2)) ((G60.1 a 3).toInt))
    (oq60a : ∀ y : Int, MB (G60.2.1 (F a 2)) ((G60.1 a 3).toInt) y ↔ MB (G.2.1 (F a 2)) ((G.1 a 3).toInt) y ∨ y = (cel (vw (G.2.1 (F p1 0))) ((G.1 p0 2).toInt) (p3.toInt) ((G.1 p0 3).toInt)))
    (oq75 : SO (G75.2.1 (F a 2)) ((G75.1 a 3).toInt))
    (oq75a : ∀ y : Int, MB (G75.2.1 (F a 2)) ((G75.1 a 3).toInt) y ↔ MB (G60.2.1 (F a 2)) ((G60.1 a 3).toInt) y ∨ y = (cel (vw (G.2.1 (F p2 0))) ((G.1 p0 2).toInt) (p3.toInt) ((G.1 p0 3).toInt)))
    (s0 : 0 ≤ ((G.1 a 3).toInt) ∧ ((G.1 a 3).toInt) ≤ 88)
    (c36 : (cel (vw (G.2.1 (F p1 0))) ((G.1 p0 2).toInt) (p3.toInt) ((G.1 p0 3).toInt)) ≠ (cel (vw (G.2.1 (F p2 0))) ((G.1 p0 2).toInt) (p3.toInt) ((G.1 p0 3).toInt)))
    (t51 : ((((((G.1 p0 0).toInt) = 2 ∨ ((G.1 p0 0).toInt) = 4 ∨ ((G.1 p0 0).toInt) = 5) ∧ 0 ≤ (cel (vw (G.2.1 (F p1 0))) ((G.1 p0 2).toInt) (p3.toInt) ((G.1 p0 3).toInt)) ∧ (cel (vw (G.2.1 (F p1 0))) ((G.1 p0 2).toInt) (p3.toInt) ((G.1 p0 3).toInt)) < 30) ∨ (¬ (((G.1 p0 0).toInt) = 2 ∨ ((G.1 p0 0).toInt) = 4 ∨ ((G.1 p0 0).toInt) = 5) ∧ -99 ≤ (cel (vw (G.2.1 (F p1 0))) ((G.1 p0 2).toInt) (p3.toInt) ((G.1 p0 3).toInt)) ∧ (cel (vw (G.2.1 (F p1 0))) ((G.1 p0 2).toInt) (p3.toInt) ((G.1 p0 3).toInt)) ≤ 99)) ∧ x51.toInt = 1) ∨ (¬ (((((G.1 p0 0).toInt) = 2 ∨ ((G.1 p0 0).toInt) = 4 ∨ ((G.1 p0 0).toInt) = 5) ∧ 0 ≤ (cel (vw (G.2.1 (F p1 0))) ((G.1 p0 2).toInt) (p3.toInt) ((G.1 p0 3).toInt)) ∧ (cel (vw (G.2.1 (F p1 0))) ((G.1 p0 2).toInt) (p3.toInt) ((G.1 p0 3).toInt)) < 30) ∨ (¬ (((G.1 p0 0).toInt) = 2 ∨ ((G.1 p0 0).toInt) = 4 ∨ ((G.1 p0 0).toInt) = 5) ∧ -99 ≤ (cel (vw (G.2.1 (F p1 0))) ((G.1 p0 2).toInt) (p3.toInt) ((G.1 p0 3).toInt)) ∧ (cel (vw (G.2.1 (F p1 0))) ((G.1 p0 2).toInt) (p3.toInt) ((G.1 p0 3).toInt)) ≤ 99)) ∧ x51.toInt = 0))
    (c54 : ¬ (x51.toInt = 0))
    (t60 : ((G.1 a 3).toInt) ≤ ((G60.1 a 3).toInt) ∧ ((G60.1 a 3).toInt) ≤ ((G.1 a 3).toInt) + 1)
    (t66 : ((((((G.1 p0 0).toInt) = 2 ∨ ((G.1 p0 0).toInt) = 4 ∨ ((G.1 p0 0).toInt) = 5) ∧ 0 ≤ (cel (vw (G.2.1 (F p2 0))) ((G.1 p0 2).toInt) (p3.toInt) ((G.1 p0 3).toInt)) ∧ (cel (vw (G.2.1 (F p2 0))) ((G.1 p0 2).toInt) (p3.toInt) ((G.1 p0 3).toInt)) < 30) ∨ (¬ (((G.1 p0 0).toInt) = 2 ∨ ((G.1 p0 0).toInt) = 4 ∨ ((G.1 p0 0).toInt) = 5) ∧ -99 ≤ (cel (vw (G.2.1 (F p2 0))) ((G.1 p0 2).toInt) (p3.toInt) ((G.1 p0 3).toInt)) ∧ (cel (vw (G.2.1 (F p2 0))) ((G.1 p0 2).toInt) (p3.toInt) ((G.1 p0 3).toInt)) ≤ 99)) ∧ x66.toInt = 1) ∨ (¬ (((((G.1 p0 0).toInt) = 2 ∨ ((G.1 p0 0).toInt) = 4 ∨ ((G.1 p0 0).toInt) = 5) ∧ 0 ≤ (cel (vw (G.2.1 (F p2 0))) ((G.1 p0 2).toInt) (p3.toInt) ((G.1 p0 3).toInt)) ∧ (cel (vw (G.2.1 (F p2 0))) ((G.1 p0 2).toInt) (p3.toInt) ((G.1 p0 3).toInt)) < 30) ∨ (¬ (((G.1 p0 0).toInt) = 2 ∨ ((G.1 p0 0).toInt) = 4 ∨ ((G.1 p0 0).toInt) = 5) ∧ -99 ≤ (cel (vw (G.2.1 (F p2 0))) ((G.1 p0 2).toInt) (p3.toInt) ((G.1 p0 3).toInt)) ∧ (cel (vw (G.2.1 (F p2 0))) ((G.1 p0 2).toInt) (p3.toInt) ((G.1 p0 3).toInt)) ≤ 99)) ∧ x66.toInt = 0))
    (c69 : ¬ (x66.toInt = 0))
    (t75 : ((G60.1 a 3).toInt) ≤ ((G75.1 a 3).toInt) ∧ ((G75.1 a 3).toInt) ≤ ((G60.1 a 3).toInt) + 1) :
    ∀ y : Int, MB (G75.2.1 (F a 2)) ((G75.1 a 3).toInt) y ↔ MB (G.2.1 (F a 2)) ((G.1 a 3).toInt) y ∨ OV ((G.1 p0 0).toInt) (cel (vw (G.2.1 (F p1 0))) ((G.1 p0 2).toInt) (p3.toInt) ((G.1 p0 3).toInt)) (cel (vw (G.2.1 (F p2 0))) ((G.1 p0 2).toInt) (p3.toInt) ((G.1 p0 3).toInt)) y := by
  intro y
  first | rw [oq75a y, oq60a y] | rw [oq75a y] | rw [oq60a y] | skip
  unfold OV sbj
  by_cases M : MB (G.2.1 (F a 2)) ((G.1 a 3).toInt) y
  · simp only [M, true_or]
  · simp only [M, false_or]
    constructor <;> intro hh <;> first | exact hh.elim | omega
theorem v_X1_offerValues_78_12 {F : Nat → Nat → Nat} (a : Nat) (G : XG)
    (so : SO (G.2.1 (F a 2)) ((G.1 a 3).toInt)) :
    SO (G.2.1 (F a 2)) ((G.1 a 3).toInt) := by
  first | exact oq75 | exact oq60 | exact so
theorem v_X1_offerValues_78_13 {K : Nat → Nat} {F : Nat → Nat → Nat} (a : Nat) (p0 : Nat) (p1 : Nat) (p2 : Nat) (G : XG) (p3 : Int32) (x51 : Int32) (x66 : Int32)
    (ha : K a = 3)
    (hp0 : K p0 = 9)
    (hp1 : K p1 = 8)
    (hp2 : K p2 = 8)
    (so : SO (G.2.1 (F a 2)) ((G.1 a 3).toInt))
    (s0 : 0 ≤ ((G.1 a 3).toInt) ∧ ((G.1 a 3).toInt) ≤ 88)
    (c36 : ¬ ((cel (vw (G.2.1 (F p1 0))) ((G.1 p0 2).toInt) (p3.toInt) ((G.1 p0 3).toInt)) ≠ (cel (vw (G.2.1 (F p2 0))) ((G.1 p0 2).toInt) (p3.toInt) ((G.1 p0 3).toInt))))
    (c44 : ((G.1 p0 0).toInt) = (3 : Int))
    (t51 : ((((((G.1 p0 0).toInt) = 2 ∨ ((G.1 p0 0).toInt) = 4 ∨ ((G.1 p0 0).toInt) = 5) ∧ 0 ≤ (cel (vw (G.2.1 (F p1 0))) ((G.1 p0 2).toInt) (p3.toInt) ((G.1 p0 3).toInt)) ∧ (cel (vw (G.2.1 (F p1 0))) ((G.1 p0 2).toInt) (p3.toInt) ((G.1 p0 3).toInt)) < 30) ∨ (¬ (((G.1 p0 0).toInt) = 2 ∨ ((G.1 p0 0).toInt) = 4 ∨ ((G.1 p0 0).toInt) = 5) ∧ -99 ≤ (cel (vw (G.2.1 (F p1 0))) ((G.1 p0 2).toInt) (p3.toInt) ((G.1 p0 3).toInt)) ∧ (cel (vw (G.2.1 (F p1 0))) ((G.1 p0 2).toInt) (p3.toInt) ((G.1 p0 3).toInt)) ≤ 99)) ∧ x51.toInt = 1) ∨ (¬ (((((G.1 p0 0).toInt) = 2 ∨ ((G.1 p0 0).toInt) = 4 ∨ ((G.1 p0 0).toInt) = 5) ∧ 0 ≤ (cel (vw (G.2.1 (F p1 0))) ((G.1 p0 2).toInt) (p3.toInt) ((G.1 p0 3).toInt)) ∧ (cel (vw (G.2.1 (F p1 0))) ((G.1 p0 2).toInt) (p3.toInt) ((G.1 p0 3).toInt)) < 30) ∨ (¬ (((G.1 p0 0).toInt) = 2 ∨ ((G.1 p0 0).toInt) = 4 ∨ ((G.1 p0 0).toInt) = 5) ∧ -99 ≤ (cel (vw (G.2.1 (F p1 0))) ((G.1 p0 2).toInt) (p3.toInt) ((G.1 p0 3).toInt)) ∧ (cel (vw (G.2.1 (F p1 0))) ((G.1 p0 2).toInt) (p3.toInt) ((G.1 p0 3).toInt)) ≤ 99)) ∧ x51.toInt = 0))
    (c54 : x51.toInt = 0)
    (t66 : ((((((G.1 p0 0).toInt) = 2 ∨ ((G.1 p0 0).toInt) = 4 ∨ ((G.1 p0 0).toInt) = 5) ∧ 0 ≤ (cel (vw (G.2.1 (F p2 0))) ((G.1 p0 2).toInt) (p3.toInt) ((G.1 p0 3).toInt)) ∧ (cel (vw (G.2.1 (F p2 0))) ((G.1 p0 2).toInt) (p3.toInt) ((G.1 p0 3).toInt)) < 30) ∨ (¬ (((G.1 p0 0).toInt) = 2 ∨ ((G.1 p0 0).toInt) = 4 ∨ ((G.1 p0 0).toInt) = 5) ∧ -99 ≤ (cel (vw (G.2.1 (F p2 0))) ((G.1 p0 2).toInt) (p3.toInt) ((G.1 p0 3).toInt)) ∧ (cel (vw (G.2.1 (F p2 0))) ((G.1 p0 2).toInt) (p3.toInt) ((G.1 p0 3).toInt)) ≤ 99)) ∧ x66.toInt = 1) ∨ (¬ (((((G.1 p0 0).toInt) = 2 ∨ ((G.1 p0 0).toInt) = 4 ∨ ((G.1 p0 0).toInt) = 5) ∧ 0 ≤ (cel (vw (G.2.1 (F p2 0))) ((G.1 p0 2).toInt) (p3.toInt) ((G.1 p0 3).toInt)) ∧ (cel (vw (G.2.1 (F p2 0))) ((G.1 p0 2).toInt) (p3.toInt) ((G.1 p0 3).toInt)) < 30) ∨ (¬ (((G.1 p0 0).toInt) = 2 ∨ ((G.1 p0 0).toInt) = 4 ∨ ((G.1 p0 0).toInt) = 5) ∧ -99 ≤ (cel (vw (G.2.1 (F p2 0))) ((G.1 p0 2).toInt) (p3.toInt) ((G.1 p0 3).toInt)) ∧ (cel (vw (G.2.1 (F p2 0))) ((G.1 p0 2).toInt) (p3.toInt) ((G.1 p0 3).toInt)) ≤ 99)) ∧ x66.toInt = 0))
    (c69 : x66.toInt = 0) :
    ∀ y : Int, MB (G.2.1 (F a 2)) ((G.1 a 3).toInt) y ↔ MB (G.2.1 (F a 2)) ((G.1 a 3).toInt) y ∨ OV ((G.1 p0 0).toInt) (cel (vw (G.2.1 (F p1 0))) ((G.1 p0 2).toInt) (p3.toInt) ((G.1 p0 3).toInt)) (cel (vw (G.2.1 (F p2 0))) ((G.1 p0 2).toInt) (p3.toInt) ((G.1 p0 3).toInt)) y := by
  intro y
  first | rw [oq75a y, oq60a y] | rw [oq75a y] | rw [oq60a y] | skip
  unfold OV sbj
  by_cases M : MB (G.2.1 (F a 2)) ((G.1 a 3).toInt) y
  · simp only [M, true_or]
  · simp only [M, false_or]
    constructor <;> intro hh <;> first | exact hh.elim | omega
theorem v_X1_offerValues_75_14 {F : Nat → Nat → Nat} (a : Nat) (G : XG)
    (so : SO (G.2.1 (F a 2)) ((G.1 a 3).toInt)) :
    SO (G.2.1 (F a 2)) ((G.1 a 3).toInt) := by
  first | exact oq60 | exact so
theorem v_X1_offerValues_78_15 {F : Nat → Nat → Nat} (a : Nat) (G : XG) (G75 : XG)
    (so : SO (G.2.1 (F a 2)) ((G.1 a 3).toInt))
    (oq75 : SO (G75.2.1 (F a 2)) ((G75.1 a 3).toInt)) :
    SO (G75.2.1 (F a 2)) ((G75.1 a 3).toInt) := by
  first | exact oq75 | exact oq60 | exact so
theorem v_X1_offerValues_78_16 {K : Nat → Nat} {F : Nat → Nat → Nat} (a : Nat) (p0 : Nat) (p1 : Nat) (p2 : Nat) (G : XG) (G75 : XG) (p3 : Int32) (x51 : Int32) (x66 : Int32)
    (ha : K a = 3)
    (hp0 : K p0 = 9)
    (hp1 : K p1 = 8)
    (hp2 : K p2 = 8)
    (so : SO (G.2.1 (F a 2)) ((G.1 a 3).toInt))
    (oq75 : SO (G75.2.1 (F a 2)) ((G75.1 a 3).toInt))
    (oq75a : ∀ y : Int, MB (G75.2.1 (F a 2)) ((G75.1 a 3).toInt) y ↔ MB (G.2.1 (F a 2)) ((G.1 a 3).toInt) y ∨ y = (cel (vw (G.2.1 (F p2 0))) ((G.1 p0 2).toInt) (p3.toInt) ((G.1 p0 3).toInt)))
    (s0 : 0 ≤ ((G.1 a 3).toInt) ∧ ((G.1 a 3).toInt) ≤ 88)
    (c36 : ¬ ((cel (vw (G.2.1 (F p1 0))) ((G.1 p0 2).toInt) (p3.toInt) ((G.1 p0 3).toInt)) ≠ (cel (vw (G.2.1 (F p2 0))) ((G.1 p0 2).toInt) (p3.toInt) ((G.1 p0 3).toInt))))
    (c44 : ((G.1 p0 0).toInt) = (3 : Int))
    (t51 : ((((((G.1 p0 0).toInt) = 2 ∨ ((G.1 p0 0).toInt) = 4 ∨ ((G.1 p0 0).toInt) = 5) ∧ 0 ≤ (cel (vw (G.2.1 (F p1 0))) ((G.1 p0 2).toInt) (p3.toInt) ((G.1 p0 3).toInt)) ∧ (cel (vw (G.2.1 (F p1 0))) ((G.1 p0 2).toInt) (p3.toInt) ((G.1 p0 3).toInt)) < 30) ∨ (¬ (((G.1 p0 0).toInt) = 2 ∨ ((G.1 p0 0).toInt) = 4 ∨ ((G.1 p0 0).toInt) = 5) ∧ -99 ≤ (cel (vw (G.2.1 (F p1 0))) ((G.1 p0 2).toInt) (p3.toInt) ((G.1 p0 3).toInt)) ∧ (cel (vw (G.2.1 (F p1 0))) ((G.1 p0 2).toInt) (p3.toInt) ((G.1 p0 3).toInt)) ≤ 99)) ∧ x51.toInt = 1) ∨ (¬ (((((G.1 p0 0).toInt) = 2 ∨ ((G.1 p0 0).toInt) = 4 ∨ ((G.1 p0 0).toInt) = 5) ∧ 0 ≤ (cel (vw (G.2.1 (F p1 0))) ((G.1 p0 2).toInt) (p3.toInt) ((G.1 p0 3).toInt)) ∧ (cel (vw (G.2.1 (F p1 0))) ((G.1 p0 2).toInt) (p3.toInt) ((G.1 p0 3).toInt)) < 30) ∨ (¬ (((G.1 p0 0).toInt) = 2 ∨ ((G.1 p0 0).toInt) = 4 ∨ ((G.1 p0 0).toInt) = 5) ∧ -99 ≤ (cel (vw (G.2.1 (F p1 0))) ((G.1 p0 2).toInt) (p3.toInt) ((G.1 p0 3).toInt)) ∧ (cel (vw (G.2.1 (F p1 0))) ((G.1 p0 2).toInt) (p3.toInt) ((G.1 p0 3).toInt)) ≤ 99)) ∧ x51.toInt = 0))
    (c54 : x51.toInt = 0)
    (t66 : ((((((G.1 p0 0).toInt) = 2 ∨ ((G.1 p0 0).toInt) = 4 ∨ ((G.1 p0 0).toInt) = 5) ∧ 0 ≤ (cel (vw (G.2.1 (F p2 0))) ((G.1 p0 2).toInt) (p3.toInt) ((G.1 p0 3).toInt)) ∧ (cel (vw (G.2.1 (F p2 0))) ((G.1 p0 2).toInt) (p3.toInt) ((G.1 p0 3).toInt)) < 30) ∨ (¬ (((G.1 p0 0).toInt) = 2 ∨ ((G.1 p0 0).toInt) = 4 ∨ ((G.1 p0 0).toInt) = 5) ∧ -99 ≤ (cel (vw (G.2.1 (F p2 0))) ((G.1 p0 2).toInt) (p3.toInt) ((G.1 p0 3).toInt)) ∧ (cel (vw (G.2.1 (F p2 0))) ((G.1 p0 2).toInt) (p3.toInt) ((G.1 p0 3).toInt)) ≤ 99)) ∧ x66.toInt = 1) ∨ (¬ (((((G.1 p0 0).toInt) = 2 ∨ ((G.1 p0 0).toInt) = 4 ∨ ((G.1 p0 0).toInt) = 5) ∧ 0 ≤ (cel (vw (G.2.1 (F p2 0))) ((G.1 p0 2).toInt) (p3.toInt) ((G.1 p0 3).toInt)) ∧ (cel (vw (G.2.1 (F p2 0))) ((G.1 p0 2).toInt) (p3.toInt) ((G.1 p0 3).toInt)) < 30) ∨ (¬ (((G.1 p0 0).toInt) = 2 ∨ ((G.1 p0 0).toInt) = 4 ∨ ((G.1 p0 0).toInt) = 5) ∧ -99 ≤ (cel (vw (G.2.1 (F p2 0))) ((G.1 p0 2).toInt) (p3.toInt) ((G.1 p0 3).toInt)) ∧ (cel (vw (G.2.1 (F p2 0))) ((G.1 p0 2).toInt) (p3.toInt) ((G.1 p0 3).toInt)) ≤ 99)) ∧ x66.toInt = 0))
    (c69 : ¬ (x66.toInt = 0))
    (t75 : ((G.1 a 3).toInt) ≤ ((G75.1 a 3).toInt) ∧ ((G75.1 a 3).toInt) ≤ ((G.1 a 3).toInt) + 1) :
    ∀ y : Int, MB (G75.2.1 (F a 2)) ((G75.1 a 3).toInt) y ↔ MB (G.2.1 (F a 2)) ((G.1 a 3).toInt) y ∨ OV ((G.1 p0 0).toInt) (cel (vw (G.2.1 (F p1 0))) ((G.1 p0 2).toInt) (p3.toInt) ((G.1 p0 3).toInt)) (cel (vw (G.2.1 (F p2 0))) ((G.1 p0 2).toInt) (p3.toInt) ((G.1 p0 3).toInt)) y := by
  intro y
  first | rw [oq75a y, oq60a y] | rw [oq75a y] | rw [oq60a y] | skip
  unfold OV sbj
  by_cases M : MB (G.2.1 (F a 2)) ((G.1 a 3).toInt) y
  · simp only [M, true_or]
  · simp only [M, false_or]
    constructor <;> intro hh <;> first | exact hh.elim | omega
theorem v_X1_offerValues_60_17 {F : Nat → Nat → Nat} (a : Nat) (G : XG)
    (so : SO (G.2.1 (F a 2)) ((G.1 a 3).toInt)) :
    SO (G.2.1 (F a 2)) ((G.1 a 3).toInt) := by
  exact so
theorem v_X1_offerValues_78_18 {F : Nat → Nat → Nat} (a : Nat) (G : XG) (G60 : XG)
    (so : SO (G.2.1 (F a 2)) ((G.1 a 3).toInt))
    (oq60 : SO (G60.2.1 (F a 2)) ((G60.1 a 3).toInt)) :
    SO (G60.2.1 (F a 2)) ((G60.1 a 3).toInt) := by
  first | exact oq75 | exact oq60 | exact so
theorem v_X1_offerValues_78_19 {K : Nat → Nat} {F : Nat → Nat → Nat} (a : Nat) (p0 : Nat) (p1 : Nat) (p2 : Nat) (G : XG) (G60 : XG) (p3 : Int32) (x51 : Int32) (x66 : Int32)
    (ha : K a = 3)
    (hp0 : K p0 = 9)
    (hp1 : K p1 = 8)
    (hp2 : K p2 = 8)
    (so : SO (G.2.1 (F a 2)) ((G.1 a 3).toInt))
    (oq60 : SO (G60.2.1 (F a 2)) ((G60.1 a 3).toInt))
    (oq60a : ∀ y : Int, MB (G60.2.1 (F a 2)) ((G60.1 a 3).toInt) y ↔ MB (G.2.1 (F a 2)) ((G.1 a 3).toInt) y ∨ y = (cel (vw (G.2.1 (F p1 0))) ((G.1 p0 2).toInt) (p3.toInt) ((G.1 p0 3).toInt)))
    (s0 : 0 ≤ ((G.1 a 3).toInt) ∧ ((G.1 a 3).toInt) ≤ 88)
    (c36 : ¬ ((cel (vw (G.2.1 (F p1 0))) ((G.1 p0 2).toInt) (p3.toInt) ((G.1 p0 3).toInt)) ≠ (cel (vw (G.2.1 (F p2 0))) ((G.1 p0 2).toInt) (p3.toInt) ((G.1 p0 3).toInt))))
    (c44 : ((G.1 p0 0).toInt) = (3 : Int))
    (t51 : ((((((G.1 p0 0).toInt) = 2 ∨ ((G.1 p0 0).toInt) = 4 ∨ ((G.1 p0 0).toInt) = 5) ∧ 0 ≤ (cel (vw (G.2.1 (F p1 0))) ((G.1 p0 2).toInt) (p3.toInt) ((G.1 p0 3).toInt)) ∧ (cel (vw (G.2.1 (F p1 0))) ((G.1 p0 2).toInt) (p3.toInt) ((G.1 p0 3).toInt)) < 30) ∨ (¬ (((G.1 p0 0).toInt) = 2 ∨ ((G.1 p0 0).toInt) = 4 ∨ ((G.1 p0 0).toInt) = 5) ∧ -99 ≤ (cel (vw (G.2.1 (F p1 0))) ((G.1 p0 2).toInt) (p3.toInt) ((G.1 p0 3).toInt)) ∧ (cel (vw (G.2.1 (F p1 0))) ((G.1 p0 2).toInt) (p3.toInt) ((G.1 p0 3).toInt)) ≤ 99)) ∧ x51.toInt = 1) ∨ (¬ (((((G.1 p0 0).toInt) = 2 ∨ ((G.1 p0 0).toInt) = 4 ∨ ((G.1 p0 0).toInt) = 5) ∧ 0 ≤ (cel (vw (G.2.1 (F p1 0))) ((G.1 p0 2).toInt) (p3.toInt) ((G.1 p0 3).toInt)) ∧ (cel (vw (G.2.1 (F p1 0))) ((G.1 p0 2).toInt) (p3.toInt) ((G.1 p0 3).toInt)) < 30) ∨ (¬ (((G.1 p0 0).toInt) = 2 ∨ ((G.1 p0 0).toInt) = 4 ∨ ((G.1 p0 0).toInt) = 5) ∧ -99 ≤ (cel (vw (G.2.1 (F p1 0))) ((G.1 p0 2).toInt) (p3.toInt) ((G.1 p0 3).toInt)) ∧ (cel (vw (G.2.1 (F p1 0))) ((G.1 p0 2).toInt) (p3.toInt) ((G.1 p0 3).toInt)) ≤ 99)) ∧ x51.toInt = 0))
    (c54 : ¬ (x51.toInt = 0))
    (t60 : ((G.1 a 3).toInt) ≤ ((G60.1 a 3).toInt) ∧ ((G60.1 a 3).toInt) ≤ ((G.1 a 3).toInt) + 1)
    (t66 : ((((((G.1 p0 0).toInt) = 2 ∨ ((G.1 p0 0).toInt) = 4 ∨ ((G.1 p0 0).toInt) = 5) ∧ 0 ≤ (cel (vw (G.2.1 (F p2 0))) ((G.1 p0 2).toInt) (p3.toInt) ((G.1 p0 3).toInt)) ∧ (cel (vw (G.2.1 (F p2 0))) ((G.1 p0 2).toInt) (p3.toInt) ((G.1 p0 3).toInt)) < 30) ∨ (¬ (((G.1 p0 0).toInt) = 2 ∨ ((G.1 p0 0).toInt) = 4 ∨ ((G.1 p0 0).toInt) = 5) ∧ -99 ≤ (cel (vw (G.2.1 (F p2 0))) ((G.1 p0 2).toInt) (p3.toInt) ((G.1 p0 3).toInt)) ∧ (cel (vw (G.2.1 (F p2 0))) ((G.1 p0 2).toInt) (p3.toInt) ((G.1 p0 3).toInt)) ≤ 99)) ∧ x66.toInt = 1) ∨ (¬ (((((G.1 p0 0).toInt) = 2 ∨ ((G.1 p0 0).toInt) = 4 ∨ ((G.1 p0 0).toInt) = 5) ∧ 0 ≤ (cel (vw (G.2.1 (F p2 0))) ((G.1 p0 2).toInt) (p3.toInt) ((G.1 p0 3).toInt)) ∧ (cel (vw (G.2.1 (F p2 0))) ((G.1 p0 2).toInt) (p3.toInt) ((G.1 p0 3).toInt)) < 30) ∨ (¬ (((G.1 p0 0).toInt) = 2 ∨ ((G.1 p0 0).toInt) = 4 ∨ ((G.1 p0 0).toInt) = 5) ∧ -99 ≤ (cel (vw (G.2.1 (F p2 0))) ((G.1 p0 2).toInt) (p3.toInt) ((G.1 p0 3).toInt)) ∧ (cel (vw (G.2.1 (F p2 0))) ((G.1 p0 2).toInt) (p3.toInt) ((G.1 p0 3).toInt)) ≤ 99)) ∧ x66.toInt = 0))
    (c69 : x66.toInt = 0) :
    ∀ y : Int, MB (G60.2.1 (F a 2)) ((G60.1 a 3).toInt) y ↔ MB (G.2.1 (F a 2)) ((G.1 a 3).toInt) y ∨ OV ((G.1 p0 0).toInt) (cel (vw (G.2.1 (F p1 0))) ((G.1 p0 2).toInt) (p3.toInt) ((G.1 p0 3).toInt)) (cel (vw (G.2.1 (F p2 0))) ((G.1 p0 2).toInt) (p3.toInt) ((G.1 p0 3).toInt)) y := by
  intro y
  first | rw [oq75a y, oq60a y] | rw [oq75a y] | rw [oq60a y] | skip
  unfold OV sbj
  by_cases M : MB (G.2.1 (F a 2)) ((G.1 a 3).toInt) y
  · simp only [M, true_or]
  · simp only [M, false_or]
    constructor <;> intro hh <;> first | exact hh.elim | omega
theorem v_X1_offerValues_75_20 {F : Nat → Nat → Nat} (a : Nat) (G : XG) (G60 : XG)
    (so : SO (G.2.1 (F a 2)) ((G.1 a 3).toInt))
    (oq60 : SO (G60.2.1 (F a 2)) ((G60.1 a 3).toInt)) :
    SO (G60.2.1 (F a 2)) ((G60.1 a 3).toInt) := by
  first | exact oq60 | exact so
theorem v_X1_offerValues_78_21 {F : Nat → Nat → Nat} (a : Nat) (G : XG) (G60 : XG) (G75 : XG)
    (so : SO (G.2.1 (F a 2)) ((G.1 a 3).toInt))
    (oq60 : SO (G60.2.1 (F a 2)) ((G60.1 a 3).toInt))
    (oq75 : SO (G75.2.1 (F a 2)) ((G75.1 a 3).toInt)) :
    SO (G75.2.1 (F a 2)) ((G75.1 a 3).toInt) := by
  first | exact oq75 | exact oq60 | exact so
theorem v_X1_offerValues_78_22 {K : Nat → Nat} {F : Nat → Nat → Nat} (a : Nat) (p0 : Nat) (p1 : Nat) (p2 : Nat) (G : XG) (G60 : XG) (G75 : XG) (p3 : Int32) (x51 : Int32) (x66 : Int32)
    (ha : K a = 3)
    (hp0 : K p0 = 9)
    (hp1 : K p1 = 8)
    (hp2 : K p2 = 8)
    (so : SO (G.2.1 (F a 2)) ((G.1 a 3).toInt))
    (oq60 : SO (G60.2.1 (F a 2)) ((G60.1 a 3).toInt))
    (oq60a : ∀ y : Int, MB (G60.2.1 (F a 2)) ((G60.1 a 3).toInt) y ↔ MB (G.2.1 (F a 2)) ((G.1 a 3).toInt) y ∨ y = (cel (vw (G.2.1 (F p1 0))) ((G.1 p0 2).toInt) (p3.toInt) ((G.1 p0 3).toInt)))
    (oq75 : SO (G75.2.1 (F a 2)) ((G75.1 a 3).toInt))
    (oq75a : ∀ y : Int, MB (G75.2.1 (F a 2)) ((G75.1 a 3).toInt) y ↔ MB (G60.2.1 (F a 2)) ((G60.1 a 3).toInt) y ∨ y = (cel (vw (G.2.1 (F p2 0))) ((G.1 p0 2).toInt) (p3.toInt) ((G.1 p0 3).toInt)))
    (s0 : 0 ≤ ((G.1 a 3).toInt) ∧ ((G.1 a 3).toInt) ≤ 88)
    (c36 : ¬ ((cel (vw (G.2.1 (F p1 0))) ((G.1 p0 2).toInt) (p3.toInt) ((G.1 p0 3).toInt)) ≠ (cel (vw (G.2.1 (F p2 0))) ((G.1 p0 2).toInt) (p3.toInt) ((G.1 p0 3).toInt))))
    (c44 : ((G.1 p0 0).toInt) = (3 : Int))
    (t51 : ((((((G.1 p0 0).toInt) = 2 ∨ ((G.1 p0 0).toInt) = 4 ∨ ((G.1 p0 0).toInt) = 5) ∧ 0 ≤ (cel (vw (G.2.1 (F p1 0))) ((G.1 p0 2).toInt) (p3.toInt) ((G.1 p0 3).toInt)) ∧ (cel (vw (G.2.1 (F p1 0))) ((G.1 p0 2).toInt) (p3.toInt) ((G.1 p0 3).toInt)) < 30) ∨ (¬ (((G.1 p0 0).toInt) = 2 ∨ ((G.1 p0 0).toInt) = 4 ∨ ((G.1 p0 0).toInt) = 5) ∧ -99 ≤ (cel (vw (G.2.1 (F p1 0))) ((G.1 p0 2).toInt) (p3.toInt) ((G.1 p0 3).toInt)) ∧ (cel (vw (G.2.1 (F p1 0))) ((G.1 p0 2).toInt) (p3.toInt) ((G.1 p0 3).toInt)) ≤ 99)) ∧ x51.toInt = 1) ∨ (¬ (((((G.1 p0 0).toInt) = 2 ∨ ((G.1 p0 0).toInt) = 4 ∨ ((G.1 p0 0).toInt) = 5) ∧ 0 ≤ (cel (vw (G.2.1 (F p1 0))) ((G.1 p0 2).toInt) (p3.toInt) ((G.1 p0 3).toInt)) ∧ (cel (vw (G.2.1 (F p1 0))) ((G.1 p0 2).toInt) (p3.toInt) ((G.1 p0 3).toInt)) < 30) ∨ (¬ (((G.1 p0 0).toInt) = 2 ∨ ((G.1 p0 0).toInt) = 4 ∨ ((G.1 p0 0).toInt) = 5) ∧ -99 ≤ (cel (vw (G.2.1 (F p1 0))) ((G.1 p0 2).toInt) (p3.toInt) ((G.1 p0 3).toInt)) ∧ (cel (vw (G.2.1 (F p1 0))) ((G.1 p0 2).toInt) (p3.toInt) ((G.1 p0 3).toInt)) ≤ 99)) ∧ x51.toInt = 0))
    (c54 : ¬ (x51.toInt = 0))
    (t60 : ((G.1 a 3).toInt) ≤ ((G60.1 a 3).toInt) ∧ ((G60.1 a 3).toInt) ≤ ((G.1 a 3).toInt) + 1)
    (t66 : ((((((G.1 p0 0).toInt) = 2 ∨ ((G.1 p0 0).toInt) = 4 ∨ ((G.1 p0 0).toInt) = 5) ∧ 0 ≤ (cel (vw (G.2.1 (F p2 0))) ((G.1 p0 2).toInt) (p3.toInt) ((G.1 p0 3).toInt)) ∧ (cel (vw (G.2.1 (F p2 0))) ((G.1 p0 2).toInt) (p3.toInt) ((G.1 p0 3).toInt)) < 30) ∨ (¬ (((G.1 p0 0).toInt) = 2 ∨ ((G.1 p0 0).toInt) = 4 ∨ ((G.1 p0 0).toInt) = 5) ∧ -99 ≤ (cel (vw (G.2.1 (F p2 0))) ((G.1 p0 2).toInt) (p3.toInt) ((G.1 p0 3).toInt)) ∧ (cel (vw (G.2.1 (F p2 0))) ((G.1 p0 2).toInt) (p3.toInt) ((G.1 p0 3).toInt)) ≤ 99)) ∧ x66.toInt = 1) ∨ (¬ (((((G.1 p0 0).toInt) = 2 ∨ ((G.1 p0 0).toInt) = 4 ∨ ((G.1 p0 0).toInt) = 5) ∧ 0 ≤ (cel (vw (G.2.1 (F p2 0))) ((G.1 p0 2).toInt) (p3.toInt) ((G.1 p0 3).toInt)) ∧ (cel (vw (G.2.1 (F p2 0))) ((G.1 p0 2).toInt) (p3.toInt) ((G.1 p0 3).toInt)) < 30) ∨ (¬ (((G.1 p0 0).toInt) = 2 ∨ ((G.1 p0 0).toInt) = 4 ∨ ((G.1 p0 0).toInt) = 5) ∧ -99 ≤ (cel (vw (G.2.1 (F p2 0))) ((G.1 p0 2).toInt) (p3.toInt) ((G.1 p0 3).toInt)) ∧ (cel (vw (G.2.1 (F p2 0))) ((G.1 p0 2).toInt) (p3.toInt) ((G.1 p0 3).toInt)) ≤ 99)) ∧ x66.toInt = 0))
    (c69 : ¬ (x66.toInt = 0))
    (t75 : ((G60.1 a 3).toInt) ≤ ((G75.1 a 3).toInt) ∧ ((G75.1 a 3).toInt) ≤ ((G60.1 a 3).toInt) + 1) :
    ∀ y : Int, MB (G75.2.1 (F a 2)) ((G75.1 a 3).toInt) y ↔ MB (G.2.1 (F a 2)) ((G.1 a 3).toInt) y ∨ OV ((G.1 p0 0).toInt) (cel (vw (G.2.1 (F p1 0))) ((G.1 p0 2).toInt) (p3.toInt) ((G.1 p0 3).toInt)) (cel (vw (G.2.1 (F p2 0))) ((G.1 p0 2).toInt) (p3.toInt) ((G.1 p0 3).toInt)) y := by
  intro y
  first | rw [oq75a y, oq60a y] | rw [oq75a y] | rw [oq60a y] | skip
  unfold OV sbj
  by_cases M : MB (G.2.1 (F a 2)) ((G.1 a 3).toInt) y
  · simp only [M, true_or]
  · simp only [M, false_or]
    constructor <;> intro hh <;> first | exact hh.elim | omega
theorem v_X1_offerValues_47_23 {F : Nat → Nat → Nat} (a : Nat) (G : XG)
    (so : SO (G.2.1 (F a 2)) ((G.1 a 3).toInt)) :
    SO (G.2.1 (F a 2)) ((G.1 a 3).toInt) := by
  first | exact oq75 | exact oq60 | exact so
theorem v_X1_offerValues_47_24 {K : Nat → Nat} {F : Nat → Nat → Nat} (a : Nat) (p0 : Nat) (p1 : Nat) (p2 : Nat) (G : XG) (p3 : Int32)
    (ha : K a = 3)
    (hp0 : K p0 = 9)
    (hp1 : K p1 = 8)
    (hp2 : K p2 = 8)
    (so : SO (G.2.1 (F a 2)) ((G.1 a 3).toInt))
    (s0 : 0 ≤ ((G.1 a 3).toInt) ∧ ((G.1 a 3).toInt) ≤ 88)
    (c36 : ¬ ((cel (vw (G.2.1 (F p1 0))) ((G.1 p0 2).toInt) (p3.toInt) ((G.1 p0 3).toInt)) ≠ (cel (vw (G.2.1 (F p2 0))) ((G.1 p0 2).toInt) (p3.toInt) ((G.1 p0 3).toInt))))
    (c44 : ¬ (((G.1 p0 0).toInt) = (3 : Int))) :
    ∀ y : Int, MB (G.2.1 (F a 2)) ((G.1 a 3).toInt) y ↔ MB (G.2.1 (F a 2)) ((G.1 a 3).toInt) y ∨ OV ((G.1 p0 0).toInt) (cel (vw (G.2.1 (F p1 0))) ((G.1 p0 2).toInt) (p3.toInt) ((G.1 p0 3).toInt)) (cel (vw (G.2.1 (F p2 0))) ((G.1 p0 2).toInt) (p3.toInt) ((G.1 p0 3).toInt)) y := by
  intro y
  first | rw [oq75a y, oq60a y] | rw [oq75a y] | rw [oq60a y] | skip
  unfold OV sbj
  by_cases M : MB (G.2.1 (F a 2)) ((G.1 a 3).toInt) y
  · simp only [M, true_or]
  · simp only [M, false_or]
    constructor <;> intro hh <;> first | exact hh.elim | omega
theorem v_X1_offerByRows_44_1 {K : Nat → Nat} {F : Nat → Nat → Nat} (a : Nat) (p0 : Nat) (p1 : Nat) (p2 : Nat) (G : XG) (x4 : Int32)
    (ha : K a = 3)
    (hp0 : K p0 = 9)
    (hp1 : K p1 = 8)
    (hp2 : K p2 = 8)
    (s0 : ((G.1 a 3).toInt) = 0)
    (z0 : (0 ≤ ((G.1 p0 0).toInt) ∧ ((G.1 p0 0).toInt) ≤ 5) ∧ (0 ≤ ((G.1 p0 2).toInt) ∧ ((G.1 p0 2).toInt) ≤ 2) ∧ (0 ≤ ((G.1 p0 3).toInt) ∧ ((G.1 p0 3).toInt) ≤ 2) ∧ (-1 ≤ ((G.1 p0 4).toInt) ∧ ((G.1 p0 4).toInt) ≤ 2) ∧ (((G.1 p0 0).toInt) = 1 ∨ ((G.1 p0 0).toInt) = 3 ∨ ((G.1 p0 0).toInt) = 4 → 0 ≤ ((G.1 p0 4).toInt)))
    (t4 : (x4.toInt = 1 ∧ 0 ≤ ((G.1 p0 2).toInt) ∧ ((G.1 p0 2).toInt) < 3) ∨ (x4.toInt = 0 ∧ (((G.1 p0 2).toInt) < 0 ∨ 3 ≤ ((G.1 p0 2).toInt))))
    (c7 : ¬ (x4.toInt = 0))
    (c30 : ((G.1 p0 0).toInt) = (2 : Int)) :
    SO (G.2.1 (F a 2)) ((G.1 a 3).toInt) := by
  exact SO_0 (by omega)
theorem v_X1_offerByRows_47_2 {F : Nat → Nat → Nat} (a : Nat) (G44 : XG)
    (oq44 : SO (G44.2.1 (F a 2)) ((G44.1 a 3).toInt)) :
    SO (G44.2.1 (F a 2)) ((G44.1 a 3).toInt) := by
  first | exact oq44 | exact ps
theorem v_X1_offerByRows_47_3 {K : Nat → Nat} {F : Nat → Nat → Nat} (a : Nat) (p0 : Nat) (p1 : Nat) (p2 : Nat) (G : XG) (G44 : XG) (x18 : Int32) (x4 : Int32)
    (ha : K a = 3)
    (hp0 : K p0 = 9)
    (hp1 : K p1 = 8)
    (hp2 : K p2 = 8)
    (hv18 : x18.toInt = (aI (G.2.1 (F a 0)) ((G.1 p0 2).toInt)))
    (oq44 : SO (G44.2.1 (F a 2)) ((G44.1 a 3).toInt))
    (oq44a : ∀ y : Int, MB (G44.2.1 (F a 2)) ((G44.1 a 3).toInt) y ↔ MB (G.2.1 (F a 2)) ((G.1 a 3).toInt) y ∨ (0 ≤ y ∧ y < 30 ∧ bI (aI (G.2.1 (F a 0)) ((G.1 p0 2).toInt)) y = 1))
    (s0 : ((G.1 a 3).toInt) = 0)
    (z0 : (0 ≤ ((G.1 p0 0).toInt) ∧ ((G.1 p0 0).toInt) ≤ 5) ∧ (0 ≤ ((G.1 p0 2).toInt) ∧ ((G.1 p0 2).toInt) ≤ 2) ∧ (0 ≤ ((G.1 p0 3).toInt) ∧ ((G.1 p0 3).toInt) ≤ 2) ∧ (-1 ≤ ((G.1 p0 4).toInt) ∧ ((G.1 p0 4).toInt) ≤ 2) ∧ (((G.1 p0 0).toInt) = 1 ∨ ((G.1 p0 0).toInt) = 3 ∨ ((G.1 p0 0).toInt) = 4 → 0 ≤ ((G.1 p0 4).toInt)))
    (t4 : (x4.toInt = 1 ∧ 0 ≤ ((G.1 p0 2).toInt) ∧ ((G.1 p0 2).toInt) < 3) ∨ (x4.toInt = 0 ∧ (((G.1 p0 2).toInt) < 0 ∨ 3 ≤ ((G.1 p0 2).toInt))))
    (c7 : ¬ (x4.toInt = 0))
    (c30 : ((G.1 p0 0).toInt) = (2 : Int))
    (t44 : ((G.1 a 3).toInt) ≤ ((G44.1 a 3).toInt) ∧ ((G44.1 a 3).toInt) ≤ ((G.1 a 3).toInt) + 30) :
    ∀ y : Int, MB (G44.2.1 (F a 2)) ((G44.1 a 3).toInt) y ↔ ((((G.1 p0 0).toInt) = 2 ∨ ((G.1 p0 0).toInt) = 5) ∧ 0 ≤ y ∧ y < 30 ∧ bI (aI (G.2.1 (F a 0)) ((G.1 p0 2).toInt)) y = 1) ∨ (¬ (((G.1 p0 0).toInt) = 2 ∨ ((G.1 p0 0).toInt) = 5) ∧ ∃ k : Int, 0 ≤ k ∧ k < 30 ∧ bI (aI (G.2.1 (F a 0)) ((G.1 p0 2).toInt)) k = 1 ∧ OV ((G.1 p0 0).toInt) (cel (vw (G.2.1 (F p1 0))) ((G.1 p0 2).toInt) k ((G.1 p0 3).toInt)) (cel (vw (G.2.1 (F p2 0))) ((G.1 p0 2).toInt) k ((G.1 p0 3).toInt)) y) := by
  intro y
  first
    | (rw [oq44a y]
       constructor
       · rintro (h | h)
         · exact absurd h (MB_0 (by omega))
         · exact Or.inl ⟨by omega, h⟩
       · rintro (h | h)
         · exact Or.inr h.2
         · exact absurd h.1 (by omega))
    | (rw [pm y]
       constructor
       · rintro ⟨k, h1, h2, h3⟩
         exact Or.inr ⟨by omega, k, h1, by omega, h3⟩
       · rintro (h | ⟨_, k, h1, h2, h3, h4⟩)
         · exact absurd h.1 (by omega)
         · by_cases e : k < l5_51.toInt
           · exact ⟨k, h1, e, h3, h4⟩
           · first | (exfalso; omega) | exact absurd h3 (by rw [bI_sh0 he62 hv18 rfl (by omega) c63 k (by omega) (by omega)]; decide))
theorem v_X1_offerByRows_91_4 {F : Nat → Nat → Nat} (a : Nat) (G_51 : XG)
    (ps : SO (G_51.2.1 (F a 2)) ((G_51.1 a 3).toInt)) :
    SO (G_51.2.1 (F a 2)) ((G_51.1 a 3).toInt) := by
  first | exact oq44 | exact ps
theorem v_X1_offerByRows_91_5 {K : Nat → Nat} {F : Nat → Nat → Nat} (a : Nat) (p0 : Nat) (p1 : Nat) (p2 : Nat) (G : XG) (G_51 : XG) (x18 : Int32) (l5_51 : Int32) (x4 : Int32) (N51 : Nat)
    (ha : K a = 3)
    (hp0 : K p0 = 9)
    (hp1 : K p1 = 8)
    (hp2 : K p2 = 8)
    (hv18 : x18.toInt = (aI (G.2.1 (F a 0)) ((G.1 p0 2).toInt)))
    (ps : SO (G_51.2.1 (F a 2)) ((G_51.1 a 3).toInt))
    (pm : ∀ y : Int, MB (G_51.2.1 (F a 2)) ((G_51.1 a 3).toInt) y ↔ ∃ k : Int, 0 ≤ k ∧ k < l5_51.toInt ∧ bI (aI (G.2.1 (F a 0)) ((G.1 p0 2).toInt)) k = 1 ∧ OV ((G.1 p0 0).toInt) (cel (vw (G.2.1 (F p1 0))) ((G.1 p0 2).toInt) k ((G.1 p0 3).toInt)) (cel (vw (G.2.1 (F p2 0))) ((G.1 p0 2).toInt) k ((G.1 p0 3).toInt)) y)
    (s0 : ((G.1 a 3).toInt) = 0)
    (z0 : (0 ≤ ((G.1 p0 0).toInt) ∧ ((G.1 p0 0).toInt) ≤ 5) ∧ (0 ≤ ((G.1 p0 2).toInt) ∧ ((G.1 p0 2).toInt) ≤ 2) ∧ (0 ≤ ((G.1 p0 3).toInt) ∧ ((G.1 p0 3).toInt) ≤ 2) ∧ (-1 ≤ ((G.1 p0 4).toInt) ∧ ((G.1 p0 4).toInt) ≤ 2) ∧ (((G.1 p0 0).toInt) = 1 ∨ ((G.1 p0 0).toInt) = 3 ∨ ((G.1 p0 0).toInt) = 4 → 0 ≤ ((G.1 p0 4).toInt)))
    (t4 : (x4.toInt = 1 ∧ 0 ≤ ((G.1 p0 2).toInt) ∧ ((G.1 p0 2).toInt) < 3) ∨ (x4.toInt = 0 ∧ (((G.1 p0 2).toInt) < 0 ∨ 3 ≤ ((G.1 p0 2).toInt))))
    (c7 : ¬ (x4.toInt = 0))
    (c30 : ¬ (((G.1 p0 0).toInt) = (2 : Int)))
    (c38 : ((G.1 p0 0).toInt) ≠ (5 : Int))
    (I51_0 : 0 ≤ l5_51.toInt ∧ l5_51.toInt ≤ 30)
    (I51_1 : 0 ≤ ((G_51.1 a 3).toInt) ∧ ((G_51.1 a 3).toInt) ≤ 2 * l5_51.toInt)
    (I51_2 : (0 : Int) ≤ l5_51.toInt)
    (hm51 : 2147483648 - l5_51.toInt < (((N51) + 1 : Nat) : Int))
    (c55 : (30 : Int) ≤ l5_51.toInt) :
    ∀ y : Int, MB (G_51.2.1 (F a 2)) ((G_51.1 a 3).toInt) y ↔ ((((G.1 p0 0).toInt) = 2 ∨ ((G.1 p0 0).toInt) = 5) ∧ 0 ≤ y ∧ y < 30 ∧ bI (aI (G.2.1 (F a 0)) ((G.1 p0 2).toInt)) y = 1) ∨ (¬ (((G.1 p0 0).toInt) = 2 ∨ ((G.1 p0 0).toInt) = 5) ∧ ∃ k : Int, 0 ≤ k ∧ k < 30 ∧ bI (aI (G.2.1 (F a 0)) ((G.1 p0 2).toInt)) k = 1 ∧ OV ((G.1 p0 0).toInt) (cel (vw (G.2.1 (F p1 0))) ((G.1 p0 2).toInt) k ((G.1 p0 3).toInt)) (cel (vw (G.2.1 (F p2 0))) ((G.1 p0 2).toInt) k ((G.1 p0 3).toInt)) y) := by
  intro y
  first
    | (rw [oq44a y]
       constructor
       · rintro (h | h)
         · exact absurd h (MB_0 (by omega))
         · exact Or.inl ⟨by omega, h⟩
       · rintro (h | h)
         · exact Or.inr h.2
         · exact absurd h.1 (by omega))
    | (rw [pm y]
       constructor
       · rintro ⟨k, h1, h2, h3⟩
         exact Or.inr ⟨by omega, k, h1, by omega, h3⟩
       · rintro (h | ⟨_, k, h1, h2, h3, h4⟩)
         · exact absurd h.1 (by omega)
         · by_cases e : k < l5_51.toInt
           · exact ⟨k, h1, e, h3, h4⟩
           · first | (exfalso; omega) | exact absurd h3 (by rw [bI_sh0 he62 hv18 rfl (by omega) c63 k (by omega) (by omega)]; decide))
theorem v_X1_offerByRows_91_6 {F : Nat → Nat → Nat} (a : Nat) (G_51 : XG)
    (ps : SO (G_51.2.1 (F a 2)) ((G_51.1 a 3).toInt)) :
    SO (G_51.2.1 (F a 2)) ((G_51.1 a 3).toInt) := by
  first | exact oq44 | exact ps
theorem v_X1_offerByRows_91_7 {K : Nat → Nat} {F : Nat → Nat → Nat} (a : Nat) (p0 : Nat) (p1 : Nat) (p2 : Nat) (G : XG) (G_51 : XG) (x18 : Int32) (l5_51 : Int32) (x62 : Int32) (x4 : Int32) (N51 : Nat)
    (ha : K a = 3)
    (hp0 : K p0 = 9)
    (hp1 : K p1 = 8)
    (hp2 : K p2 = 8)
    (hv18 : x18.toInt = (aI (G.2.1 (F a 0)) ((G.1 p0 2).toInt)))
    (ps : SO (G_51.2.1 (F a 2)) ((G_51.1 a 3).toInt))
    (pm : ∀ y : Int, MB (G_51.2.1 (F a 2)) ((G_51.1 a 3).toInt) y ↔ ∃ k : Int, 0 ≤ k ∧ k < l5_51.toInt ∧ bI (aI (G.2.1 (F a 0)) ((G.1 p0 2).toInt)) k = 1 ∧ OV ((G.1 p0 0).toInt) (cel (vw (G.2.1 (F p1 0))) ((G.1 p0 2).toInt) k ((G.1 p0 3).toInt)) (cel (vw (G.2.1 (F p2 0))) ((G.1 p0 2).toInt) k ((G.1 p0 3).toInt)) y)
    (he62 : x62 = (x18 : Int32) >>> (l5_51 &&& 31))
    (s0 : ((G.1 a 3).toInt) = 0)
    (z0 : (0 ≤ ((G.1 p0 0).toInt) ∧ ((G.1 p0 0).toInt) ≤ 5) ∧ (0 ≤ ((G.1 p0 2).toInt) ∧ ((G.1 p0 2).toInt) ≤ 2) ∧ (0 ≤ ((G.1 p0 3).toInt) ∧ ((G.1 p0 3).toInt) ≤ 2) ∧ (-1 ≤ ((G.1 p0 4).toInt) ∧ ((G.1 p0 4).toInt) ≤ 2) ∧ (((G.1 p0 0).toInt) = 1 ∨ ((G.1 p0 0).toInt) = 3 ∨ ((G.1 p0 0).toInt) = 4 → 0 ≤ ((G.1 p0 4).toInt)))
    (t4 : (x4.toInt = 1 ∧ 0 ≤ ((G.1 p0 2).toInt) ∧ ((G.1 p0 2).toInt) < 3) ∨ (x4.toInt = 0 ∧ (((G.1 p0 2).toInt) < 0 ∨ 3 ≤ ((G.1 p0 2).toInt))))
    (c7 : ¬ (x4.toInt = 0))
    (c30 : ¬ (((G.1 p0 0).toInt) = (2 : Int)))
    (c38 : ((G.1 p0 0).toInt) ≠ (5 : Int))
    (I51_0 : 0 ≤ l5_51.toInt ∧ l5_51.toInt ≤ 30)
    (I51_1 : 0 ≤ ((G_51.1 a 3).toInt) ∧ ((G_51.1 a 3).toInt) ≤ 2 * l5_51.toInt)
    (I51_2 : (0 : Int) ≤ l5_51.toInt)
    (hm51 : 2147483648 - l5_51.toInt < (((N51) + 1 : Nat) : Int))
    (c55 : ¬ ((30 : Int) ≤ l5_51.toInt))
    (c63 : x62.toInt = 0) :
    ∀ y : Int, MB (G_51.2.1 (F a 2)) ((G_51.1 a 3).toInt) y ↔ ((((G.1 p0 0).toInt) = 2 ∨ ((G.1 p0 0).toInt) = 5) ∧ 0 ≤ y ∧ y < 30 ∧ bI (aI (G.2.1 (F a 0)) ((G.1 p0 2).toInt)) y = 1) ∨ (¬ (((G.1 p0 0).toInt) = 2 ∨ ((G.1 p0 0).toInt) = 5) ∧ ∃ k : Int, 0 ≤ k ∧ k < 30 ∧ bI (aI (G.2.1 (F a 0)) ((G.1 p0 2).toInt)) k = 1 ∧ OV ((G.1 p0 0).toInt) (cel (vw (G.2.1 (F p1 0))) ((G.1 p0 2).toInt) k ((G.1 p0 3).toInt)) (cel (vw (G.2.1 (F p2 0))) ((G.1 p0 2).toInt) k ((G.1 p0 3).toInt)) y) := by
  intro y
  first
    | (rw [oq44a y]
       constructor
       · rintro (h | h)
         · exact absurd h (MB_0 (by omega))
         · exact Or.inl ⟨by omega, h⟩
       · rintro (h | h)
         · exact Or.inr h.2
         · exact absurd h.1 (by omega))
    | (rw [pm y]
       constructor
       · rintro ⟨k, h1, h2, h3⟩
         exact Or.inr ⟨by omega, k, h1, by omega, h3⟩
       · rintro (h | ⟨_, k, h1, h2, h3, h4⟩)
         · exact absurd h.1 (by omega)
         · by_cases e : k < l5_51.toInt
           · exact ⟨k, h1, e, h3, h4⟩
           · first | (exfalso; omega) | exact absurd h3 (by rw [bI_sh0 he62 hv18 rfl (by omega) c63 k (by omega) (by omega)]; decide))
theorem v_X1_offerByRows_88_8 {F : Nat → Nat → Nat} (a : Nat) (G_51 : XG)
    (ps : SO (G_51.2.1 (F a 2)) ((G_51.1 a 3).toInt)) :
    SO (G_51.2.1 (F a 2)) ((G_51.1 a 3).toInt) := by
  first | exact oq82 | exact ps
theorem v_X1_offerByRows_88_9 {K : Nat → Nat} {F : Nat → Nat → Nat} (a : Nat) (p0 : Nat) (p1 : Nat) (p2 : Nat) (G : XG) (G_51 : XG) (x18 : Int32) (l5_51 : Int32) (x62 : Int32) (x70 : Int32) (x72 : Int32) (x4 : Int32) (N51 : Nat)
    (ha : K a = 3)
    (hp0 : K p0 = 9)
    (hp1 : K p1 = 8)
    (hp2 : K p2 = 8)
    (hv18 : x18.toInt = (aI (G.2.1 (F a 0)) ((G.1 p0 2).toInt)))
    (ps : SO (G_51.2.1 (F a 2)) ((G_51.1 a 3).toInt))
    (pm : ∀ y : Int, MB (G_51.2.1 (F a 2)) ((G_51.1 a 3).toInt) y ↔ ∃ k : Int, 0 ≤ k ∧ k < l5_51.toInt ∧ bI (aI (G.2.1 (F a 0)) ((G.1 p0 2).toInt)) k = 1 ∧ OV ((G.1 p0 0).toInt) (cel (vw (G.2.1 (F p1 0))) ((G.1 p0 2).toInt) k ((G.1 p0 3).toInt)) (cel (vw (G.2.1 (F p2 0))) ((G.1 p0 2).toInt) k ((G.1 p0 3).toInt)) y)
    (he62 : x62 = (x18 : Int32) >>> (l5_51 &&& 31))
    (he70 : x70 = (x18 : Int32) >>> (l5_51 &&& 31))
    (he72 : x72 = x70 &&& 1)
    (s0 : ((G.1 a 3).toInt) = 0)
    (z0 : (0 ≤ ((G.1 p0 0).toInt) ∧ ((G.1 p0 0).toInt) ≤ 5) ∧ (0 ≤ ((G.1 p0 2).toInt) ∧ ((G.1 p0 2).toInt) ≤ 2) ∧ (0 ≤ ((G.1 p0 3).toInt) ∧ ((G.1 p0 3).toInt) ≤ 2) ∧ (-1 ≤ ((G.1 p0 4).toInt) ∧ ((G.1 p0 4).toInt) ≤ 2) ∧ (((G.1 p0 0).toInt) = 1 ∨ ((G.1 p0 0).toInt) = 3 ∨ ((G.1 p0 0).toInt) = 4 → 0 ≤ ((G.1 p0 4).toInt)))
    (t4 : (x4.toInt = 1 ∧ 0 ≤ ((G.1 p0 2).toInt) ∧ ((G.1 p0 2).toInt) < 3) ∨ (x4.toInt = 0 ∧ (((G.1 p0 2).toInt) < 0 ∨ 3 ≤ ((G.1 p0 2).toInt))))
    (c7 : ¬ (x4.toInt = 0))
    (c30 : ¬ (((G.1 p0 0).toInt) = (2 : Int)))
    (c38 : ((G.1 p0 0).toInt) ≠ (5 : Int))
    (I51_0 : 0 ≤ l5_51.toInt ∧ l5_51.toInt ≤ 30)
    (I51_1 : 0 ≤ ((G_51.1 a 3).toInt) ∧ ((G_51.1 a 3).toInt) ≤ 2 * l5_51.toInt)
    (I51_2 : (0 : Int) ≤ l5_51.toInt)
    (hm51 : 2147483648 - l5_51.toInt < (((N51) + 1 : Nat) : Int))
    (c55 : ¬ ((30 : Int) ≤ l5_51.toInt))
    (c63 : ¬ (x62.toInt = 0))
    (hb72 : x72.toInt = (bI (aI (G.2.1 (F a 0)) ((G.1 p0 2).toInt)) (l5_51.toInt)))
    (hb72a : x72.toInt = 0 ∨ x72.toInt = 1)
    (c73 : x72.toInt = 0) :
    ∀ y : Int, MB (G_51.2.1 (F a 2)) ((G_51.1 a 3).toInt) y ↔ ∃ k : Int, 0 ≤ k ∧ k < (l5_51.toInt + 1) ∧ bI (aI (G.2.1 (F a 0)) ((G.1 p0 2).toInt)) k = 1 ∧ OV ((G.1 p0 0).toInt) (cel (vw (G.2.1 (F p1 0))) ((G.1 p0 2).toInt) k ((G.1 p0 3).toInt)) (cel (vw (G.2.1 (F p2 0))) ((G.1 p0 2).toInt) k ((G.1 p0 3).toInt)) y := by
  intro y
  first
    | (rw [oq82a y, pm y]
       constructor
       · rintro (⟨k, h1, h2, h3⟩ | h)
         · exact ⟨k, h1, by omega, h3⟩
         · exact ⟨l5_51.toInt, by omega, by omega, by omega, h⟩
       · rintro ⟨k, h1, h2, h3, h4⟩
         by_cases e : k = l5_51.toInt
         · subst e; exact Or.inr h4
         · exact Or.inl ⟨k, h1, by omega, h3, h4⟩)
    | (rw [pm y]
       constructor
       · rintro ⟨k, h1, h2, h3⟩
         exact ⟨k, h1, by omega, h3⟩
       · rintro ⟨k, h1, h2, h3, h4⟩
         by_cases e : k = l5_51.toInt
         · subst e; exact absurd h3 (by omega)
         · exact ⟨k, h1, by omega, h3, h4⟩)
theorem v_X1_offerByRows_82_10 {F : Nat → Nat → Nat} (a : Nat) (G_51 : XG)
    (ps : SO (G_51.2.1 (F a 2)) ((G_51.1 a 3).toInt)) :
    SO (G_51.2.1 (F a 2)) ((G_51.1 a 3).toInt) := by
  exact ps
theorem v_X1_offerByRows_88_11 {F : Nat → Nat → Nat} (a : Nat) (G_51 : XG) (G82 : XG)
    (ps : SO (G_51.2.1 (F a 2)) ((G_51.1 a 3).toInt))
    (oq82 : SO (G82.2.1 (F a 2)) ((G82.1 a 3).toInt)) :
    SO (G82.2.1 (F a 2)) ((G82.1 a 3).toInt) := by
  first | exact oq82 | exact ps
theorem v_X1_offerByRows_88_12 {K : Nat → Nat} {F : Nat → Nat → Nat} (a : Nat) (p0 : Nat) (p1 : Nat) (p2 : Nat) (G : XG) (G_51 : XG) (G82 : XG) (x18 : Int32) (l5_51 : Int32) (x62 : Int32) (x70 : Int32) (x72 : Int32) (x4 : Int32) (N51 : Nat)
    (ha : K a = 3)
    (hp0 : K p0 = 9)
    (hp1 : K p1 = 8)
    (hp2 : K p2 = 8)
    (hv18 : x18.toInt = (aI (G.2.1 (F a 0)) ((G.1 p0 2).toInt)))
    (ps : SO (G_51.2.1 (F a 2)) ((G_51.1 a 3).toInt))
    (pm : ∀ y : Int, MB (G_51.2.1 (F a 2)) ((G_51.1 a 3).toInt) y ↔ ∃ k : Int, 0 ≤ k ∧ k < l5_51.toInt ∧ bI (aI (G.2.1 (F a 0)) ((G.1 p0 2).toInt)) k = 1 ∧ OV ((G.1 p0 0).toInt) (cel (vw (G.2.1 (F p1 0))) ((G.1 p0 2).toInt) k ((G.1 p0 3).toInt)) (cel (vw (G.2.1 (F p2 0))) ((G.1 p0 2).toInt) k ((G.1 p0 3).toInt)) y)
    (he62 : x62 = (x18 : Int32) >>> (l5_51 &&& 31))
    (he70 : x70 = (x18 : Int32) >>> (l5_51 &&& 31))
    (he72 : x72 = x70 &&& 1)
    (oq82 : SO (G82.2.1 (F a 2)) ((G82.1 a 3).toInt))
    (oq82a : ∀ y : Int, MB (G82.2.1 (F a 2)) ((G82.1 a 3).toInt) y ↔ MB (G_51.2.1 (F a 2)) ((G_51.1 a 3).toInt) y ∨ OV ((G.1 p0 0).toInt) (cel (vw (G.2.1 (F p1 0))) ((G.1 p0 2).toInt) (l5_51.toInt) ((G.1 p0 3).toInt)) (cel (vw (G.2.1 (F p2 0))) ((G.1 p0 2).toInt) (l5_51.toInt) ((G.1 p0 3).toInt)) y)
    (s0 : ((G.1 a 3).toInt) = 0)
    (z0 : (0 ≤ ((G.1 p0 0).toInt) ∧ ((G.1 p0 0).toInt) ≤ 5) ∧ (0 ≤ ((G.1 p0 2).toInt) ∧ ((G.1 p0 2).toInt) ≤ 2) ∧ (0 ≤ ((G.1 p0 3).toInt) ∧ ((G.1 p0 3).toInt) ≤ 2) ∧ (-1 ≤ ((G.1 p0 4).toInt) ∧ ((G.1 p0 4).toInt) ≤ 2) ∧ (((G.1 p0 0).toInt) = 1 ∨ ((G.1 p0 0).toInt) = 3 ∨ ((G.1 p0 0).toInt) = 4 → 0 ≤ ((G.1 p0 4).toInt)))
    (t4 : (x4.toInt = 1 ∧ 0 ≤ ((G.1 p0 2).toInt) ∧ ((G.1 p0 2).toInt) < 3) ∨ (x4.toInt = 0 ∧ (((G.1 p0 2).toInt) < 0 ∨ 3 ≤ ((G.1 p0 2).toInt))))
    (c7 : ¬ (x4.toInt = 0))
    (c30 : ¬ (((G.1 p0 0).toInt) = (2 : Int)))
    (c38 : ((G.1 p0 0).toInt) ≠ (5 : Int))
    (I51_0 : 0 ≤ l5_51.toInt ∧ l5_51.toInt ≤ 30)
    (I51_1 : 0 ≤ ((G_51.1 a 3).toInt) ∧ ((G_51.1 a 3).toInt) ≤ 2 * l5_51.toInt)
    (I51_2 : (0 : Int) ≤ l5_51.toInt)
    (hm51 : 2147483648 - l5_51.toInt < (((N51) + 1 : Nat) : Int))
    (c55 : ¬ ((30 : Int) ≤ l5_51.toInt))
    (c63 : ¬ (x62.toInt = 0))
    (hb72 : x72.toInt = (bI (aI (G.2.1 (F a 0)) ((G.1 p0 2).toInt)) (l5_51.toInt)))
    (hb72a : x72.toInt = 0 ∨ x72.toInt = 1)
    (c73 : ¬ (x72.toInt = 0))
    (t82 : ((G_51.1 a 3).toInt) ≤ ((G82.1 a 3).toInt) ∧ ((G82.1 a 3).toInt) ≤ ((G_51.1 a 3).toInt) + 2) :
    ∀ y : Int, MB (G82.2.1 (F a 2)) ((G82.1 a 3).toInt) y ↔ ∃ k : Int, 0 ≤ k ∧ k < (l5_51.toInt + 1) ∧ bI (aI (G.2.1 (F a 0)) ((G.1 p0 2).toInt)) k = 1 ∧ OV ((G.1 p0 0).toInt) (cel (vw (G.2.1 (F p1 0))) ((G.1 p0 2).toInt) k ((G.1 p0 3).toInt)) (cel (vw (G.2.1 (F p2 0))) ((G.1 p0 2).toInt) k ((G.1 p0 3).toInt)) y := by
  intro y
  first
    | (rw [oq82a y, pm y]
       constructor
       · rintro (⟨k, h1, h2, h3⟩ | h)
         · exact ⟨k, h1, by omega, h3⟩
         · exact ⟨l5_51.toInt, by omega, by omega, by omega, h⟩
       · rintro ⟨k, h1, h2, h3, h4⟩
         by_cases e : k = l5_51.toInt
         · subst e; exact Or.inr h4
         · exact Or.inl ⟨k, h1, by omega, h3, h4⟩)
    | (rw [pm y]
       constructor
       · rintro ⟨k, h1, h2, h3⟩
         exact ⟨k, h1, by omega, h3⟩
       · rintro ⟨k, h1, h2, h3, h4⟩
         by_cases e : k = l5_51.toInt
         · subst e; exact absurd h3 (by omega)
         · exact ⟨k, h1, by omega, h3, h4⟩)
theorem v_X1_offerByRows_49_13 {K : Nat → Nat} {F : Nat → Nat → Nat} (a : Nat) (p0 : Nat) (p1 : Nat) (p2 : Nat) (G : XG) (x4 : Int32)
    (ha : K a = 3)
    (hp0 : K p0 = 9)
    (hp1 : K p1 = 8)
    (hp2 : K p2 = 8)
    (s0 : ((G.1 a 3).toInt) = 0)
    (z0 : (0 ≤ ((G.1 p0 0).toInt) ∧ ((G.1 p0 0).toInt) ≤ 5) ∧ (0 ≤ ((G.1 p0 2).toInt) ∧ ((G.1 p0 2).toInt) ≤ 2) ∧ (0 ≤ ((G.1 p0 3).toInt) ∧ ((G.1 p0 3).toInt) ≤ 2) ∧ (-1 ≤ ((G.1 p0 4).toInt) ∧ ((G.1 p0 4).toInt) ≤ 2) ∧ (((G.1 p0 0).toInt) = 1 ∨ ((G.1 p0 0).toInt) = 3 ∨ ((G.1 p0 0).toInt) = 4 → 0 ≤ ((G.1 p0 4).toInt)))
    (t4 : (x4.toInt = 1 ∧ 0 ≤ ((G.1 p0 2).toInt) ∧ ((G.1 p0 2).toInt) < 3) ∨ (x4.toInt = 0 ∧ (((G.1 p0 2).toInt) < 0 ∨ 3 ≤ ((G.1 p0 2).toInt))))
    (c7 : ¬ (x4.toInt = 0))
    (c30 : ¬ (((G.1 p0 0).toInt) = (2 : Int)))
    (c38 : ((G.1 p0 0).toInt) ≠ (5 : Int)) :
    SO (G.2.1 (F a 2)) ((G.1 a 3).toInt) := by
  exact SO_0 (by omega)
theorem v_X1_offerByRows_49_14 {K : Nat → Nat} {F : Nat → Nat → Nat} (a : Nat) (p0 : Nat) (p1 : Nat) (p2 : Nat) (G : XG) (x4 : Int32)
    (ha : K a = 3)
    (hp0 : K p0 = 9)
    (hp1 : K p1 = 8)
    (hp2 : K p2 = 8)
    (s0 : ((G.1 a 3).toInt) = 0)
    (z0 : (0 ≤ ((G.1 p0 0).toInt) ∧ ((G.1 p0 0).toInt) ≤ 5) ∧ (0 ≤ ((G.1 p0 2).toInt) ∧ ((G.1 p0 2).toInt) ≤ 2) ∧ (0 ≤ ((G.1 p0 3).toInt) ∧ ((G.1 p0 3).toInt) ≤ 2) ∧ (-1 ≤ ((G.1 p0 4).toInt) ∧ ((G.1 p0 4).toInt) ≤ 2) ∧ (((G.1 p0 0).toInt) = 1 ∨ ((G.1 p0 0).toInt) = 3 ∨ ((G.1 p0 0).toInt) = 4 → 0 ≤ ((G.1 p0 4).toInt)))
    (t4 : (x4.toInt = 1 ∧ 0 ≤ ((G.1 p0 2).toInt) ∧ ((G.1 p0 2).toInt) < 3) ∨ (x4.toInt = 0 ∧ (((G.1 p0 2).toInt) < 0 ∨ 3 ≤ ((G.1 p0 2).toInt))))
    (c7 : ¬ (x4.toInt = 0))
    (c30 : ¬ (((G.1 p0 0).toInt) = (2 : Int)))
    (c38 : ((G.1 p0 0).toInt) ≠ (5 : Int)) :
    ∀ y : Int, MB (G.2.1 (F a 2)) ((G.1 a 3).toInt) y ↔ ∃ k : Int, 0 ≤ k ∧ k < (0 : Int) ∧ bI (aI (G.2.1 (F a 0)) ((G.1 p0 2).toInt)) k = 1 ∧ OV ((G.1 p0 0).toInt) (cel (vw (G.2.1 (F p1 0))) ((G.1 p0 2).toInt) k ((G.1 p0 3).toInt)) (cel (vw (G.2.1 (F p2 0))) ((G.1 p0 2).toInt) k ((G.1 p0 3).toInt)) y := by
  intro y; exact ⟨fun h => absurd h (MB_0 (by omega)), fun ⟨k, h1, h2, _⟩ => absurd h2 (by omega)⟩
theorem v_X1_offerByRows_44_15 {K : Nat → Nat} {F : Nat → Nat → Nat} (a : Nat) (p0 : Nat) (p1 : Nat) (p2 : Nat) (G : XG) (x4 : Int32)
    (ha : K a = 3)
    (hp0 : K p0 = 9)
    (hp1 : K p1 = 8)
    (hp2 : K p2 = 8)
    (s0 : ((G.1 a 3).toInt) = 0)
    (z0 : (0 ≤ ((G.1 p0 0).toInt) ∧ ((G.1 p0 0).toInt) ≤ 5) ∧ (0 ≤ ((G.1 p0 2).toInt) ∧ ((G.1 p0 2).toInt) ≤ 2) ∧ (0 ≤ ((G.1 p0 3).toInt) ∧ ((G.1 p0 3).toInt) ≤ 2) ∧ (-1 ≤ ((G.1 p0 4).toInt) ∧ ((G.1 p0 4).toInt) ≤ 2) ∧ (((G.1 p0 0).toInt) = 1 ∨ ((G.1 p0 0).toInt) = 3 ∨ ((G.1 p0 0).toInt) = 4 → 0 ≤ ((G.1 p0 4).toInt)))
    (t4 : (x4.toInt = 1 ∧ 0 ≤ ((G.1 p0 2).toInt) ∧ ((G.1 p0 2).toInt) < 3) ∨ (x4.toInt = 0 ∧ (((G.1 p0 2).toInt) < 0 ∨ 3 ≤ ((G.1 p0 2).toInt))))
    (c7 : ¬ (x4.toInt = 0))
    (c30 : ¬ (((G.1 p0 0).toInt) = (2 : Int)))
    (c38 : ¬ (((G.1 p0 0).toInt) ≠ (5 : Int))) :
    SO (G.2.1 (F a 2)) ((G.1 a 3).toInt) := by
  exact SO_0 (by omega)
theorem v_X1_offerByRows_47_16 {F : Nat → Nat → Nat} (a : Nat) (G44 : XG)
    (oq44 : SO (G44.2.1 (F a 2)) ((G44.1 a 3).toInt)) :
    SO (G44.2.1 (F a 2)) ((G44.1 a 3).toInt) := by
  first | exact oq44 | exact ps
theorem v_X1_offerByRows_47_17 {K : Nat → Nat} {F : Nat → Nat → Nat} (a : Nat) (p0 : Nat) (p1 : Nat) (p2 : Nat) (G : XG) (G44 : XG) (x18 : Int32) (x4 : Int32)
    (ha : K a = 3)
    (hp0 : K p0 = 9)
    (hp1 : K p1 = 8)
    (hp2 : K p2 = 8)
    (hv18 : x18.toInt = (aI (G.2.1 (F a 0)) ((G.1 p0 2).toInt)))
    (oq44 : SO (G44.2.1 (F a 2)) ((G44.1 a 3).toInt))
    (oq44a : ∀ y : Int, MB (G44.2.1 (F a 2)) ((G44.1 a 3).toInt) y ↔ MB (G.2.1 (F a 2)) ((G.1 a 3).toInt) y ∨ (0 ≤ y ∧ y < 30 ∧ bI (aI (G.2.1 (F a 0)) ((G.1 p0 2).toInt)) y = 1))
    (s0 : ((G.1 a 3).toInt) = 0)
    (z0 : (0 ≤ ((G.1 p0 0).toInt) ∧ ((G.1 p0 0).toInt) ≤ 5) ∧ (0 ≤ ((G.1 p0 2).toInt) ∧ ((G.1 p0 2).toInt) ≤ 2) ∧ (0 ≤ ((G.1 p0 3).toInt) ∧ ((G.1 p0 3).toInt) ≤ 2) ∧ (-1 ≤ ((G.1 p0 4).toInt) ∧ ((G.1 p0 4).toInt) ≤ 2) ∧ (((G.1 p0 0).toInt) = 1 ∨ ((G.1 p0 0).toInt) = 3 ∨ ((G.1 p0 0).toInt) = 4 → 0 ≤ ((G.1 p0 4).toInt)))
    (t4 : (x4.toInt = 1 ∧ 0 ≤ ((G.1 p0 2).toInt) ∧ ((G.1 p0 2).toInt) < 3) ∨ (x4.toInt = 0 ∧ (((G.1 p0 2).toInt) < 0 ∨ 3 ≤ ((G.1 p0 2).toInt))))
    (c7 : ¬ (x4.toInt = 0))
    (c30 : ¬ (((G.1 p0 0).toInt) = (2 : Int)))
    (c38 : ¬ (((G.1 p0 0).toInt) ≠ (5 : Int)))
    (t44 : ((G.1 a 3).toInt) ≤ ((G44.1 a 3).toInt) ∧ ((G44.1 a 3).toInt) ≤ ((G.1 a 3).toInt) + 30) :
    ∀ y : Int, MB (G44.2.1 (F a 2)) ((G44.1 a 3).toInt) y ↔ ((((G.1 p0 0).toInt) = 2 ∨ ((G.1 p0 0).toInt) = 5) ∧ 0 ≤ y ∧ y < 30 ∧ bI (aI (G.2.1 (F a 0)) ((G.1 p0 2).toInt)) y = 1) ∨ (¬ (((G.1 p0 0).toInt) = 2 ∨ ((G.1 p0 0).toInt) = 5) ∧ ∃ k : Int, 0 ≤ k ∧ k < 30 ∧ bI (aI (G.2.1 (F a 0)) ((G.1 p0 2).toInt)) k = 1 ∧ OV ((G.1 p0 0).toInt) (cel (vw (G.2.1 (F p1 0))) ((G.1 p0 2).toInt) k ((G.1 p0 3).toInt)) (cel (vw (G.2.1 (F p2 0))) ((G.1 p0 2).toInt) k ((G.1 p0 3).toInt)) y) := by
  intro y
  first
    | (rw [oq44a y]
       constructor
       · rintro (h | h)
         · exact absurd h (MB_0 (by omega))
         · exact Or.inl ⟨by omega, h⟩
       · rintro (h | h)
         · exact Or.inr h.2
         · exact absurd h.1 (by omega))
    | (rw [pm y]
       constructor
       · rintro ⟨k, h1, h2, h3⟩
         exact Or.inr ⟨by omega, k, h1, by omega, h3⟩
       · rintro (h | ⟨_, k, h1, h2, h3, h4⟩)
         · exact absurd h.1 (by omega)
         · by_cases e : k < l5_51.toInt
           · exact ⟨k, h1, e, h3, h4⟩
           · first | (exfalso; omega) | exact absurd h3 (by rw [bI_sh0 he62 hv18 rfl (by omega) c63 k (by omega) (by omega)]; decide))
theorem v_X1_ofAllRows_105_1 {K : Nat → Nat} {F : Nat → Nat → Nat} (a : Nat) (p0 : Nat) (p1 : Nat) (G : XG) (G_2 : XG) (l3_2 : Int32) (N2 : Nat)
    (ha : K a = 3)
    (hp0 : K p0 = 8)
    (hp1 : K p1 = 8)
    (j0 : F p0 99 < 12)
    (j1 : F p1 99 < 12)
    (pc : ∀ t : Int, 0 ≤ t → t < l3_2.toInt → CHt (vw (G.2.1 (F p0 0))) (vw (G.2.1 (F p1 0))) (aI (G_2.2.1 (F a 1))) (aI (G_2.2.1 (F a 0))) t)
    (I2_0 : 0 ≤ l3_2.toInt ∧ l3_2.toInt ≤ 3)
    (I2_1 : (0 : Int) ≤ l3_2.toInt)
    (hm2 : 2147483648 - l3_2.toInt < (((N2) + 1 : Nat) : Int))
    (c4 : (3 : Int) ≤ l3_2.toInt) :
    CH (vw (G.2.1 (F p0 0))) (vw (G.2.1 (F p1 0))) (aI (G_2.2.1 (F a 1))) (aI (G_2.2.1 (F a 0))) := by
  intro t h1 h2; exact pc t h1 (by omega)
theorem v_X1_ofAllRows_102_2 {K : Nat → Nat} {F : Nat → Nat → Nat} (a : Nat) (p0 : Nat) (p1 : Nat) (G : XG) (G_2 : XG) (G23 : XG) (l3_2 : Int32) (x22 : Int32) (G35 : XG) (x34 : Int32) (G_52 : XG) (x14 : Int32) (x19 : Int32) (x46 : Int32) (x38 : Int32) (x43 : Int32) (l5_52 : Int32) (N2 : Nat) (N52 : Nat)
    (ha : K a = 3)
    (hp0 : K p0 = 8)
    (hp1 : K p1 = 8)
    (hG23 : G23 = cput G_2 (F a 1) l3_2.toNatClampNeg x22)
    (hG35 : G35 = cput G23 (F a 0) l3_2.toNatClampNeg x34)
    (ro1 : RO (vw (G.2.1 (F p0 0))) (aI (G.2.1 (F p0 1))))
    (ro2 : RO (vw (G.2.1 (F p1 0))) (aI (G.2.1 (F p1 1))))
    (j0 : F p0 99 < 12)
    (j1 : F p1 99 < 12)
    (pc : ∀ t : Int, 0 ≤ t → t < l3_2.toInt → CHt (vw (G.2.1 (F p0 0))) (vw (G.2.1 (F p1 0))) (aI (G_2.2.1 (F a 1))) (aI (G_2.2.1 (F a 0))) t)
    (he22 : x22 = x14 ^^^ x19)
    (hv34 : x34.toInt = (aI (G23.2.1 (F a 1)) (l3_2.toInt)))
    (he46 : x46 = x38 &&& x43)
    (pd : CHk (vw (G.2.1 (F p0 0))) (vw (G.2.1 (F p1 0))) (aI (G_52.2.1 (F a 0)) l3_2.toInt) l3_2.toInt l5_52.toInt)
    (po : ∀ t : Int, 0 ≤ t → t ≠ l3_2.toInt → aI (G_52.2.1 (F a 0)) t = aI (G35.2.1 (F a 0)) t)
    (I2_0 : 0 ≤ l3_2.toInt ∧ l3_2.toInt ≤ 3)
    (I2_1 : (0 : Int) ≤ l3_2.toInt)
    (hm2 : 2147483648 - l3_2.toInt < (((N2) + 1 : Nat) : Int))
    (c4 : ¬ ((3 : Int) ≤ l3_2.toInt))
    (t14 : (0 ≤ l3_2.toInt ∧ l3_2.toInt < 3 ∧ x14.toInt = (aI (G.2.1 (F p0 1)) (l3_2.toInt))) ∨ ((l3_2.toInt < 0 ∨ 3 ≤ l3_2.toInt) ∧ x14.toInt = 0))
    (t19 : (0 ≤ l3_2.toInt ∧ l3_2.toInt < 3 ∧ x19.toInt = (aI (G.2.1 (F p1 1)) (l3_2.toInt))) ∨ ((l3_2.toInt < 0 ∨ 3 ≤ l3_2.toInt) ∧ x19.toInt = 0))
    (hc34 : (l3_2.toInt = l3_2.toInt → (aI (G23.2.1 (F a 1)) (l3_2.toInt)) = x22.toInt) ∧ (l3_2.toInt ≠ l3_2.toInt → (aI (G23.2.1 (F a 1)) (l3_2.toInt)) = (aI (G_2.2.1 (F a 1)) (l3_2.toInt))))
    (t38 : (0 ≤ l3_2.toInt ∧ l3_2.toInt < 3 ∧ x38.toInt = (aI (G.2.1 (F p0 1)) (l3_2.toInt))) ∨ ((l3_2.toInt < 0 ∨ 3 ≤ l3_2.toInt) ∧ x38.toInt = 0))
    (t43 : (0 ≤ l3_2.toInt ∧ l3_2.toInt < 3 ∧ x43.toInt = (aI (G.2.1 (F p1 1)) (l3_2.toInt))) ∨ ((l3_2.toInt < 0 ∨ 3 ≤ l3_2.toInt) ∧ x43.toInt = 0))
    (I52_0 : 0 ≤ l5_52.toInt ∧ l5_52.toInt ≤ 30)
    (I52_1 : (0 : Int) ≤ l5_52.toInt)
    (hm52 : 2147483648 - l5_52.toInt < (((N52) + 1 : Nat) : Int))
    (c56 : (30 : Int) ≤ l5_52.toInt)
    (c_G23_F_a_0 : G23.2.1 (F a 0) = G_2.2.1 (F a 0))
    (c_G_52_F_a_1 : G_52.2.1 (F a 1) = G23.2.1 (F a 1)) :
    ∀ t : Int, 0 ≤ t → t < (l3_2.toInt + 1) → CHt (vw (G.2.1 (F p0 0))) (vw (G.2.1 (F p1 0))) (aI (G_52.2.1 (F a 1))) (aI (G_52.2.1 (F a 0))) t := by
  intro t h1 h2
  by_cases e : t = l3_2.toInt
  · subst e
    have hx := bI_xor he22 (X := aI (G.2.1 (F p0 1)) l3_2.toInt) (Y := aI (G.2.1 (F p1 1)) l3_2.toInt) (by omega) (by omega)
    have e1 : aI (G23.2.1 (F a 1)) l3_2.toInt = x22.toInt := by rw [hG23, aI_put (by omega) _ (by omega), if_pos rfl]
    intro k k0 k1
    rw [c_G_52_F_a_1, e1]
    refine ⟨(CHk_0 ro1 ro2 (by omega) hx).1 k k0 k1, (pd k k0 k1).trans ⟨fun h => h.elim (fun w => w.2) (fun w => absurd w.1 (by omega)), fun h => Or.inl ⟨by omega, h⟩⟩⟩
  · intro k k0 k1
    have q := pc t h1 (by omega) k k0 k1
    rw [c_G_52_F_a_1, hG23, aI_put (by omega) _ h1, if_neg e, po t h1 e, hG35, aI_put (by omega) _ h1, if_neg e]
    rw [c_G23_F_a_0]
    exact q
theorem v_X1_ofAllRows_96_3 {K : Nat → Nat} {F : Nat → Nat → Nat} (a : Nat) (p0 : Nat) (p1 : Nat) (G : XG) (G_2 : XG) (G23 : XG) (l3_2 : Int32) (x22 : Int32) (G_52 : XG) (x14 : Int32) (x19 : Int32) (x46 : Int32) (x38 : Int32) (x43 : Int32) (l5_52 : Int32) (x63 : Int32) (x65 : Int32) (N2 : Nat) (N52 : Nat)
    (ha : K a = 3)
    (hp0 : K p0 = 8)
    (hp1 : K p1 = 8)
    (ro1 : RO (vw (G.2.1 (F p0 0))) (aI (G.2.1 (F p0 1))))
    (ro2 : RO (vw (G.2.1 (F p1 0))) (aI (G.2.1 (F p1 1))))
    (j0 : F p0 99 < 12)
    (j1 : F p1 99 < 12)
    (he22 : x22 = x14 ^^^ x19)
    (he46 : x46 = x38 &&& x43)
    (pd : CHk (vw (G.2.1 (F p0 0))) (vw (G.2.1 (F p1 0))) (aI (G_52.2.1 (F a 0)) l3_2.toInt) l3_2.toInt l5_52.toInt)
    (he63 : x63 = (x46 : Int32) >>> (l5_52 &&& 31))
    (he65 : x65 = x63 &&& 1)
    (I2_0 : 0 ≤ l3_2.toInt ∧ l3_2.toInt ≤ 3)
    (I2_1 : (0 : Int) ≤ l3_2.toInt)
    (hm2 : 2147483648 - l3_2.toInt < (((N2) + 1 : Nat) : Int))
    (c4 : ¬ ((3 : Int) ≤ l3_2.toInt))
    (t14 : (0 ≤ l3_2.toInt ∧ l3_2.toInt < 3 ∧ x14.toInt = (aI (G.2.1 (F p0 1)) (l3_2.toInt))) ∨ ((l3_2.toInt < 0 ∨ 3 ≤ l3_2.toInt) ∧ x14.toInt = 0))
    (t19 : (0 ≤ l3_2.toInt ∧ l3_2.toInt < 3 ∧ x19.toInt = (aI (G.2.1 (F p1 1)) (l3_2.toInt))) ∨ ((l3_2.toInt < 0 ∨ 3 ≤ l3_2.toInt) ∧ x19.toInt = 0))
    (hc34 : (l3_2.toInt = l3_2.toInt → (aI (G23.2.1 (F a 1)) (l3_2.toInt)) = x22.toInt) ∧ (l3_2.toInt ≠ l3_2.toInt → (aI (G23.2.1 (F a 1)) (l3_2.toInt)) = (aI (G_2.2.1 (F a 1)) (l3_2.toInt))))
    (t38 : (0 ≤ l3_2.toInt ∧ l3_2.toInt < 3 ∧ x38.toInt = (aI (G.2.1 (F p0 1)) (l3_2.toInt))) ∨ ((l3_2.toInt < 0 ∨ 3 ≤ l3_2.toInt) ∧ x38.toInt = 0))
    (t43 : (0 ≤ l3_2.toInt ∧ l3_2.toInt < 3 ∧ x43.toInt = (aI (G.2.1 (F p1 1)) (l3_2.toInt))) ∨ ((l3_2.toInt < 0 ∨ 3 ≤ l3_2.toInt) ∧ x43.toInt = 0))
    (I52_0 : 0 ≤ l5_52.toInt ∧ l5_52.toInt ≤ 30)
    (I52_1 : (0 : Int) ≤ l5_52.toInt)
    (hm52 : 2147483648 - l5_52.toInt < (((N52) + 1 : Nat) : Int))
    (c56 : ¬ ((30 : Int) ≤ l5_52.toInt))
    (hb65 : x65.toInt = (bI (x46.toInt) (l5_52.toInt)))
    (hb65a : x65.toInt = 0 ∨ x65.toInt = 1)
    (c66 : x65.toInt = 0) :
    CHk (vw (G.2.1 (F p0 0))) (vw (G.2.1 (F p1 0))) (aI (G_52.2.1 (F a 0)) l3_2.toInt) l3_2.toInt (l5_52.toInt + 1) := by
  have hb := bI_band he46 (X := aI (G.2.1 (F p0 1)) l3_2.toInt) (Y := aI (G.2.1 (F p1 1)) l3_2.toInt) (by omega) (by omega) l5_52.toInt
  refine pd.nxt ro1 ro2 (by omega) ?_
  first
    | (refine Or.inl ⟨rfl, ?_⟩
       first
         | (left; intro h; have := hb.mpr h; omega)
         | (right; unfold DFF; omega))
    | (refine Or.inr ⟨?_, by unfold DFF; omega⟩
       rw [hG92, aI_put (by omega) _ (by omega), if_pos rfl]
       exact bI_set he90 he91 hv86 rfl (by omega))
theorem v_X1_ofAllRows_96_4 {K : Nat → Nat} {F : Nat → Nat → Nat} (a : Nat) (p0 : Nat) (p1 : Nat) (G : XG) (G_2 : XG) (G23 : XG) (l3_2 : Int32) (x22 : Int32) (G35 : XG) (G_52 : XG) (x14 : Int32) (x19 : Int32) (x46 : Int32) (x38 : Int32) (x43 : Int32) (l5_52 : Int32) (x63 : Int32) (x65 : Int32) (N2 : Nat) (N52 : Nat)
    (ha : K a = 3)
    (hp0 : K p0 = 8)
    (hp1 : K p1 = 8)
    (j0 : F p0 99 < 12)
    (j1 : F p1 99 < 12)
    (he22 : x22 = x14 ^^^ x19)
    (he46 : x46 = x38 &&& x43)
    (pd : CHk (vw (G.2.1 (F p0 0))) (vw (G.2.1 (F p1 0))) (aI (G_52.2.1 (F a 0)) l3_2.toInt) l3_2.toInt l5_52.toInt)
    (po : ∀ t : Int, 0 ≤ t → t ≠ l3_2.toInt → aI (G_52.2.1 (F a 0)) t = aI (G35.2.1 (F a 0)) t)
    (he63 : x63 = (x46 : Int32) >>> (l5_52 &&& 31))
    (he65 : x65 = x63 &&& 1)
    (I2_0 : 0 ≤ l3_2.toInt ∧ l3_2.toInt ≤ 3)
    (I2_1 : (0 : Int) ≤ l3_2.toInt)
    (hm2 : 2147483648 - l3_2.toInt < (((N2) + 1 : Nat) : Int))
    (c4 : ¬ ((3 : Int) ≤ l3_2.toInt))
    (t14 : (0 ≤ l3_2.toInt ∧ l3_2.toInt < 3 ∧ x14.toInt = (aI (G.2.1 (F p0 1)) (l3_2.toInt))) ∨ ((l3_2.toInt < 0 ∨ 3 ≤ l3_2.toInt) ∧ x14.toInt = 0))
    (t19 : (0 ≤ l3_2.toInt ∧ l3_2.toInt < 3 ∧ x19.toInt = (aI (G.2.1 (F p1 1)) (l3_2.toInt))) ∨ ((l3_2.toInt < 0 ∨ 3 ≤ l3_2.toInt) ∧ x19.toInt = 0))
    (hc34 : (l3_2.toInt = l3_2.toInt → (aI (G23.2.1 (F a 1)) (l3_2.toInt)) = x22.toInt) ∧ (l3_2.toInt ≠ l3_2.toInt → (aI (G23.2.1 (F a 1)) (l3_2.toInt)) = (aI (G_2.2.1 (F a 1)) (l3_2.toInt))))
    (t38 : (0 ≤ l3_2.toInt ∧ l3_2.toInt < 3 ∧ x38.toInt = (aI (G.2.1 (F p0 1)) (l3_2.toInt))) ∨ ((l3_2.toInt < 0 ∨ 3 ≤ l3_2.toInt) ∧ x38.toInt = 0))
    (t43 : (0 ≤ l3_2.toInt ∧ l3_2.toInt < 3 ∧ x43.toInt = (aI (G.2.1 (F p1 1)) (l3_2.toInt))) ∨ ((l3_2.toInt < 0 ∨ 3 ≤ l3_2.toInt) ∧ x43.toInt = 0))
    (I52_0 : 0 ≤ l5_52.toInt ∧ l5_52.toInt ≤ 30)
    (I52_1 : (0 : Int) ≤ l5_52.toInt)
    (hm52 : 2147483648 - l5_52.toInt < (((N52) + 1 : Nat) : Int))
    (c56 : ¬ ((30 : Int) ≤ l5_52.toInt))
    (hb65 : x65.toInt = (bI (x46.toInt) (l5_52.toInt)))
    (hb65a : x65.toInt = 0 ∨ x65.toInt = 1)
    (c66 : x65.toInt = 0) :
    ∀ t : Int, 0 ≤ t → t ≠ l3_2.toInt → aI (G_52.2.1 (F a 0)) t = aI (G35.2.1 (F a 0)) t := by
  intro t h1 h2
  first
    | exact po t h1 h2
    | (rw [hG92, aI_put (by omega) _ h1, if_neg h2]; exact po t h1 h2)
theorem v_X1_ofAllRows_96_5 {K : Nat → Nat} {F : Nat → Nat → Nat} (a : Nat) (p0 : Nat) (p1 : Nat) (G : XG) (G_2 : XG) (G23 : XG) (l3_2 : Int32) (x22 : Int32) (G_52 : XG) (x14 : Int32) (x19 : Int32) (x46 : Int32) (x38 : Int32) (x43 : Int32) (l5_52 : Int32) (x63 : Int32) (x65 : Int32) (N2 : Nat) (N52 : Nat) (x74 : Int32)
    (ha : K a = 3)
    (hp0 : K p0 = 8)
    (hp1 : K p1 = 8)
    (ro1 : RO (vw (G.2.1 (F p0 0))) (aI (G.2.1 (F p0 1))))
    (ro2 : RO (vw (G.2.1 (F p1 0))) (aI (G.2.1 (F p1 1))))
    (j0 : F p0 99 < 12)
    (j1 : F p1 99 < 12)
    (he22 : x22 = x14 ^^^ x19)
    (he46 : x46 = x38 &&& x43)
    (pd : CHk (vw (G.2.1 (F p0 0))) (vw (G.2.1 (F p1 0))) (aI (G_52.2.1 (F a 0)) l3_2.toInt) l3_2.toInt l5_52.toInt)
    (he63 : x63 = (x46 : Int32) >>> (l5_52 &&& 31))
    (he65 : x65 = x63 &&& 1)
    (I2_0 : 0 ≤ l3_2.toInt ∧ l3_2.toInt ≤ 3)
    (I2_1 : (0 : Int) ≤ l3_2.toInt)
    (hm2 : 2147483648 - l3_2.toInt < (((N2) + 1 : Nat) : Int))
    (c4 : ¬ ((3 : Int) ≤ l3_2.toInt))
    (t14 : (0 ≤ l3_2.toInt ∧ l3_2.toInt < 3 ∧ x14.toInt = (aI (G.2.1 (F p0 1)) (l3_2.toInt))) ∨ ((l3_2.toInt < 0 ∨ 3 ≤ l3_2.toInt) ∧ x14.toInt = 0))
    (t19 : (0 ≤ l3_2.toInt ∧ l3_2.toInt < 3 ∧ x19.toInt = (aI (G.2.1 (F p1 1)) (l3_2.toInt))) ∨ ((l3_2.toInt < 0 ∨ 3 ≤ l3_2.toInt) ∧ x19.toInt = 0))
    (hc34 : (l3_2.toInt = l3_2.toInt → (aI (G23.2.1 (F a 1)) (l3_2.toInt)) = x22.toInt) ∧ (l3_2.toInt ≠ l3_2.toInt → (aI (G23.2.1 (F a 1)) (l3_2.toInt)) = (aI (G_2.2.1 (F a 1)) (l3_2.toInt))))
    (t38 : (0 ≤ l3_2.toInt ∧ l3_2.toInt < 3 ∧ x38.toInt = (aI (G.2.1 (F p0 1)) (l3_2.toInt))) ∨ ((l3_2.toInt < 0 ∨ 3 ≤ l3_2.toInt) ∧ x38.toInt = 0))
    (t43 : (0 ≤ l3_2.toInt ∧ l3_2.toInt < 3 ∧ x43.toInt = (aI (G.2.1 (F p1 1)) (l3_2.toInt))) ∨ ((l3_2.toInt < 0 ∨ 3 ≤ l3_2.toInt) ∧ x43.toInt = 0))
    (I52_0 : 0 ≤ l5_52.toInt ∧ l5_52.toInt ≤ 30)
    (I52_1 : (0 : Int) ≤ l5_52.toInt)
    (hm52 : 2147483648 - l5_52.toInt < (((N52) + 1 : Nat) : Int))
    (c56 : ¬ ((30 : Int) ≤ l5_52.toInt))
    (hb65 : x65.toInt = (bI (x46.toInt) (l5_52.toInt)))
    (hb65a : x65.toInt = 0 ∨ x65.toInt = 1)
    (c66 : ¬ (x65.toInt = 0))
    (t74 : (((cel (vw (G.2.1 (F p0 0))) (l3_2.toInt) (l5_52.toInt) 0) ≠ (cel (vw (G.2.1 (F p1 0))) (l3_2.toInt) (l5_52.toInt) 0) ∨ (cel (vw (G.2.1 (F p0 0))) (l3_2.toInt) (l5_52.toInt) 1) ≠ (cel (vw (G.2.1 (F p1 0))) (l3_2.toInt) (l5_52.toInt) 1) ∨ (cel (vw (G.2.1 (F p0 0))) (l3_2.toInt) (l5_52.toInt) 2) ≠ (cel (vw (G.2.1 (F p1 0))) (l3_2.toInt) (l5_52.toInt) 2)) ∧ x74.toInt = 1) ∨ (¬ ((cel (vw (G.2.1 (F p0 0))) (l3_2.toInt) (l5_52.toInt) 0) ≠ (cel (vw (G.2.1 (F p1 0))) (l3_2.toInt) (l5_52.toInt) 0) ∨ (cel (vw (G.2.1 (F p0 0))) (l3_2.toInt) (l5_52.toInt) 1) ≠ (cel (vw (G.2.1 (F p1 0))) (l3_2.toInt) (l5_52.toInt) 1) ∨ (cel (vw (G.2.1 (F p0 0))) (l3_2.toInt) (l5_52.toInt) 2) ≠ (cel (vw (G.2.1 (F p1 0))) (l3_2.toInt) (l5_52.toInt) 2)) ∧ x74.toInt = 0))
    (c77 : x74.toInt = 0) :
    CHk (vw (G.2.1 (F p0 0))) (vw (G.2.1 (F p1 0))) (aI (G_52.2.1 (F a 0)) l3_2.toInt) l3_2.toInt (l5_52.toInt + 1) := by
  have hb := bI_band he46 (X := aI (G.2.1 (F p0 1)) l3_2.toInt) (Y := aI (G.2.1 (F p1 1)) l3_2.toInt) (by omega) (by omega) l5_52.toInt
  refine pd.nxt ro1 ro2 (by omega) ?_
  first
    | (refine Or.inl ⟨rfl, ?_⟩
       first
         | (left; intro h; have := hb.mpr h; omega)
         | (right; unfold DFF; omega))
    | (refine Or.inr ⟨?_, by unfold DFF; omega⟩
       rw [hG92, aI_put (by omega) _ (by omega), if_pos rfl]
       exact bI_set he90 he91 hv86 rfl (by omega))
theorem v_X1_ofAllRows_96_6 {K : Nat → Nat} {F : Nat → Nat → Nat} (a : Nat) (p0 : Nat) (p1 : Nat) (G : XG) (G_2 : XG) (G23 : XG) (l3_2 : Int32) (x22 : Int32) (G35 : XG) (G_52 : XG) (x14 : Int32) (x19 : Int32) (x46 : Int32) (x38 : Int32) (x43 : Int32) (l5_52 : Int32) (x63 : Int32) (x65 : Int32) (N2 : Nat) (N52 : Nat) (x74 : Int32)
    (ha : K a = 3)
    (hp0 : K p0 = 8)
    (hp1 : K p1 = 8)
    (j0 : F p0 99 < 12)
    (j1 : F p1 99 < 12)
    (he22 : x22 = x14 ^^^ x19)
    (he46 : x46 = x38 &&& x43)
    (pd : CHk (vw (G.2.1 (F p0 0))) (vw (G.2.1 (F p1 0))) (aI (G_52.2.1 (F a 0)) l3_2.toInt) l3_2.toInt l5_52.toInt)
    (po : ∀ t : Int, 0 ≤ t → t ≠ l3_2.toInt → aI (G_52.2.1 (F a 0)) t = aI (G35.2.1 (F a 0)) t)
    (he63 : x63 = (x46 : Int32) >>> (l5_52 &&& 31))
    (he65 : x65 = x63 &&& 1)
    (I2_0 : 0 ≤ l3_2.toInt ∧ l3_2.toInt ≤ 3)
    (I2_1 : (0 : Int) ≤ l3_2.toInt)
    (hm2 : 2147483648 - l3_2.toInt < (((N2) + 1 : Nat) : Int))
    (c4 : ¬ ((3 : Int) ≤ l3_2.toInt))
    (t14 : (0 ≤ l3_2.toInt ∧ l3_2.toInt < 3 ∧ x14.toInt = (aI (G.2.1 (F p0 1)) (l3_2.toInt))) ∨ ((l3_2.toInt < 0 ∨ 3 ≤ l3_2.toInt) ∧ x14.toInt = 0))
    (t19 : (0 ≤ l3_2.toInt ∧ l3_2.toInt < 3 ∧ x19.toInt = (aI (G.2.1 (F p1 1)) (l3_2.toInt))) ∨ ((l3_2.toInt < 0 ∨ 3 ≤ l3_2.toInt) ∧ x19.toInt = 0))
    (hc34 : (l3_2.toInt = l3_2.toInt → (aI (G23.2.1 (F a 1)) (l3_2.toInt)) = x22.toInt) ∧ (l3_2.toInt ≠ l3_2.toInt → (aI (G23.2.1 (F a 1)) (l3_2.toInt)) = (aI (G_2.2.1 (F a 1)) (l3_2.toInt))))
    (t38 : (0 ≤ l3_2.toInt ∧ l3_2.toInt < 3 ∧ x38.toInt = (aI (G.2.1 (F p0 1)) (l3_2.toInt))) ∨ ((l3_2.toInt < 0 ∨ 3 ≤ l3_2.toInt) ∧ x38.toInt = 0))
    (t43 : (0 ≤ l3_2.toInt ∧ l3_2.toInt < 3 ∧ x43.toInt = (aI (G.2.1 (F p1 1)) (l3_2.toInt))) ∨ ((l3_2.toInt < 0 ∨ 3 ≤ l3_2.toInt) ∧ x43.toInt = 0))
    (I52_0 : 0 ≤ l5_52.toInt ∧ l5_52.toInt ≤ 30)
    (I52_1 : (0 : Int) ≤ l5_52.toInt)
    (hm52 : 2147483648 - l5_52.toInt < (((N52) + 1 : Nat) : Int))
    (c56 : ¬ ((30 : Int) ≤ l5_52.toInt))
    (hb65 : x65.toInt = (bI (x46.toInt) (l5_52.toInt)))
    (hb65a : x65.toInt = 0 ∨ x65.toInt = 1)
    (c66 : ¬ (x65.toInt = 0))
    (t74 : (((cel (vw (G.2.1 (F p0 0))) (l3_2.toInt) (l5_52.toInt) 0) ≠ (cel (vw (G.2.1 (F p1 0))) (l3_2.toInt) (l5_52.toInt) 0) ∨ (cel (vw (G.2.1 (F p0 0))) (l3_2.toInt) (l5_52.toInt) 1) ≠ (cel (vw (G.2.1 (F p1 0))) (l3_2.toInt) (l5_52.toInt) 1) ∨ (cel (vw (G.2.1 (F p0 0))) (l3_2.toInt) (l5_52.toInt) 2) ≠ (cel (vw (G.2.1 (F p1 0))) (l3_2.toInt) (l5_52.toInt) 2)) ∧ x74.toInt = 1) ∨ (¬ ((cel (vw (G.2.1 (F p0 0))) (l3_2.toInt) (l5_52.toInt) 0) ≠ (cel (vw (G.2.1 (F p1 0))) (l3_2.toInt) (l5_52.toInt) 0) ∨ (cel (vw (G.2.1 (F p0 0))) (l3_2.toInt) (l5_52.toInt) 1) ≠ (cel (vw (G.2.1 (F p1 0))) (l3_2.toInt) (l5_52.toInt) 1) ∨ (cel (vw (G.2.1 (F p0 0))) (l3_2.toInt) (l5_52.toInt) 2) ≠ (cel (vw (G.2.1 (F p1 0))) (l3_2.toInt) (l5_52.toInt) 2)) ∧ x74.toInt = 0))
    (c77 : x74.toInt = 0) :
    ∀ t : Int, 0 ≤ t → t ≠ l3_2.toInt → aI (G_52.2.1 (F a 0)) t = aI (G35.2.1 (F a 0)) t := by
  intro t h1 h2
  first
    | exact po t h1 h2
    | (rw [hG92, aI_put (by omega) _ h1, if_neg h2]; exact po t h1 h2)
theorem v_X1_ofAllRows_96_7 {K : Nat → Nat} {F : Nat → Nat → Nat} (a : Nat) (p0 : Nat) (p1 : Nat) (G : XG) (G_2 : XG) (G23 : XG) (l3_2 : Int32) (x22 : Int32) (G_52 : XG) (G92 : XG) (x91 : Int32) (x14 : Int32) (x19 : Int32) (x46 : Int32) (x38 : Int32) (x43 : Int32) (l5_52 : Int32) (x63 : Int32) (x65 : Int32) (x86 : Int32) (x90 : Int32) (N2 : Nat) (N52 : Nat) (x74 : Int32)
    (ha : K a = 3)
    (hp0 : K p0 = 8)
    (hp1 : K p1 = 8)
    (hG92 : G92 = cput G_52 (F a 0) l3_2.toNatClampNeg x91)
    (ro1 : RO (vw (G.2.1 (F p0 0))) (aI (G.2.1 (F p0 1))))
    (ro2 : RO (vw (G.2.1 (F p1 0))) (aI (G.2.1 (F p1 1))))
    (j0 : F p0 99 < 12)
    (j1 : F p1 99 < 12)
    (he22 : x22 = x14 ^^^ x19)
    (he46 : x46 = x38 &&& x43)
    (pd : CHk (vw (G.2.1 (F p0 0))) (vw (G.2.1 (F p1 0))) (aI (G_52.2.1 (F a 0)) l3_2.toInt) l3_2.toInt l5_52.toInt)
    (he63 : x63 = (x46 : Int32) >>> (l5_52 &&& 31))
    (he65 : x65 = x63 &&& 1)
    (hv86 : x86.toInt = (aI (G_52.2.1 (F a 0)) (l3_2.toInt)))
    (he90 : x90 = (1 : Int32) <<< (l5_52 &&& 31))
    (he91 : x91 = x86 ||| x90)
    (I2_0 : 0 ≤ l3_2.toInt ∧ l3_2.toInt ≤ 3)
    (I2_1 : (0 : Int) ≤ l3_2.toInt)
    (hm2 : 2147483648 - l3_2.toInt < (((N2) + 1 : Nat) : Int))
    (c4 : ¬ ((3 : Int) ≤ l3_2.toInt))
    (t14 : (0 ≤ l3_2.toInt ∧ l3_2.toInt < 3 ∧ x14.toInt = (aI (G.2.1 (F p0 1)) (l3_2.toInt))) ∨ ((l3_2.toInt < 0 ∨ 3 ≤ l3_2.toInt) ∧ x14.toInt = 0))
    (t19 : (0 ≤ l3_2.toInt ∧ l3_2.toInt < 3 ∧ x19.toInt = (aI (G.2.1 (F p1 1)) (l3_2.toInt))) ∨ ((l3_2.toInt < 0 ∨ 3 ≤ l3_2.toInt) ∧ x19.toInt = 0))
    (hc34 : (l3_2.toInt = l3_2.toInt → (aI (G23.2.1 (F a 1)) (l3_2.toInt)) = x22.toInt) ∧ (l3_2.toInt ≠ l3_2.toInt → (aI (G23.2.1 (F a 1)) (l3_2.toInt)) = (aI (G_2.2.1 (F a 1)) (l3_2.toInt))))
    (t38 : (0 ≤ l3_2.toInt ∧ l3_2.toInt < 3 ∧ x38.toInt = (aI (G.2.1 (F p0 1)) (l3_2.toInt))) ∨ ((l3_2.toInt < 0 ∨ 3 ≤ l3_2.toInt) ∧ x38.toInt = 0))
    (t43 : (0 ≤ l3_2.toInt ∧ l3_2.toInt < 3 ∧ x43.toInt = (aI (G.2.1 (F p1 1)) (l3_2.toInt))) ∨ ((l3_2.toInt < 0 ∨ 3 ≤ l3_2.toInt) ∧ x43.toInt = 0))
    (I52_0 : 0 ≤ l5_52.toInt ∧ l5_52.toInt ≤ 30)
    (I52_1 : (0 : Int) ≤ l5_52.toInt)
    (hm52 : 2147483648 - l5_52.toInt < (((N52) + 1 : Nat) : Int))
    (c56 : ¬ ((30 : Int) ≤ l5_52.toInt))
    (hb65 : x65.toInt = (bI (x46.toInt) (l5_52.toInt)))
    (hb65a : x65.toInt = 0 ∨ x65.toInt = 1)
    (c66 : ¬ (x65.toInt = 0))
    (t74 : (((cel (vw (G.2.1 (F p0 0))) (l3_2.toInt) (l5_52.toInt) 0) ≠ (cel (vw (G.2.1 (F p1 0))) (l3_2.toInt) (l5_52.toInt) 0) ∨ (cel (vw (G.2.1 (F p0 0))) (l3_2.toInt) (l5_52.toInt) 1) ≠ (cel (vw (G.2.1 (F p1 0))) (l3_2.toInt) (l5_52.toInt) 1) ∨ (cel (vw (G.2.1 (F p0 0))) (l3_2.toInt) (l5_52.toInt) 2) ≠ (cel (vw (G.2.1 (F p1 0))) (l3_2.toInt) (l5_52.toInt) 2)) ∧ x74.toInt = 1) ∨ (¬ ((cel (vw (G.2.1 (F p0 0))) (l3_2.toInt) (l5_52.toInt) 0) ≠ (cel (vw (G.2.1 (F p1 0))) (l3_2.toInt) (l5_52.toInt) 0) ∨ (cel (vw (G.2.1 (F p0 0))) (l3_2.toInt) (l5_52.toInt) 1) ≠ (cel (vw (G.2.1 (F p1 0))) (l3_2.toInt) (l5_52.toInt) 1) ∨ (cel (vw (G.2.1 (F p0 0))) (l3_2.toInt) (l5_52.toInt) 2) ≠ (cel (vw (G.2.1 (F p1 0))) (l3_2.toInt) (l5_52.toInt) 2)) ∧ x74.toInt = 0))
    (c77 : ¬ (x74.toInt = 0)) :
    CHk (vw (G.2.1 (F p0 0))) (vw (G.2.1 (F p1 0))) (aI (G92.2.1 (F a 0)) l3_2.toInt) l3_2.toInt (l5_52.toInt + 1) := by
  have hb := bI_band he46 (X := aI (G.2.1 (F p0 1)) l3_2.toInt) (Y := aI (G.2.1 (F p1 1)) l3_2.toInt) (by omega) (by omega) l5_52.toInt
  refine pd.nxt ro1 ro2 (by omega) ?_
  first
    | (refine Or.inl ⟨rfl, ?_⟩
       first
         | (left; intro h; have := hb.mpr h; omega)
         | (right; unfold DFF; omega))
    | (refine Or.inr ⟨?_, by unfold DFF; omega⟩
       rw [hG92, aI_put (by omega) _ (by omega), if_pos rfl]
       exact bI_set he90 he91 hv86 rfl (by omega))
theorem v_X1_ofAllRows_96_8 {K : Nat → Nat} {F : Nat → Nat → Nat} (a : Nat) (p0 : Nat) (p1 : Nat) (G : XG) (G_2 : XG) (G23 : XG) (l3_2 : Int32) (x22 : Int32) (G35 : XG) (G_52 : XG) (G92 : XG) (x91 : Int32) (x14 : Int32) (x19 : Int32) (x46 : Int32) (x38 : Int32) (x43 : Int32) (l5_52 : Int32) (x63 : Int32) (x65 : Int32) (x86 : Int32) (x90 : Int32) (N2 : Nat) (N52 : Nat) (x74 : Int32)
    (ha : K a = 3)
    (hp0 : K p0 = 8)
    (hp1 : K p1 = 8)
    (hG92 : G92 = cput G_52 (F a 0) l3_2.toNatClampNeg x91)
    (j0 : F p0 99 < 12)
    (j1 : F p1 99 < 12)
    (he22 : x22 = x14 ^^^ x19)
    (he46 : x46 = x38 &&& x43)
    (pd : CHk (vw (G.2.1 (F p0 0))) (vw (G.2.1 (F p1 0))) (aI (G_52.2.1 (F a 0)) l3_2.toInt) l3_2.toInt l5_52.toInt)
    (po : ∀ t : Int, 0 ≤ t → t ≠ l3_2.toInt → aI (G_52.2.1 (F a 0)) t = aI (G35.2.1 (F a 0)) t)
    (he63 : x63 = (x46 : Int32) >>> (l5_52 &&& 31))
    (he65 : x65 = x63 &&& 1)
    (hv86 : x86.toInt = (aI (G_52.2.1 (F a 0)) (l3_2.toInt)))
    (he90 : x90 = (1 : Int32) <<< (l5_52 &&& 31))
    (he91 : x91 = x86 ||| x90)
    (I2_0 : 0 ≤ l3_2.toInt ∧ l3_2.toInt ≤ 3)
    (I2_1 : (0 : Int) ≤ l3_2.toInt)
    (hm2 : 2147483648 - l3_2.toInt < (((N2) + 1 : Nat) : Int))
    (c4 : ¬ ((3 : Int) ≤ l3_2.toInt))
    (t14 : (0 ≤ l3_2.toInt ∧ l3_2.toInt < 3 ∧ x14.toInt = (aI (G.2.1 (F p0 1)) (l3_2.toInt))) ∨ ((l3_2.toInt < 0 ∨ 3 ≤ l3_2.toInt) ∧ x14.toInt = 0))
    (t19 : (0 ≤ l3_2.toInt ∧ l3_2.toInt < 3 ∧ x19.toInt = (aI (G.2.1 (F p1 1)) (l3_2.toInt))) ∨ ((l3_2.toInt < 0 ∨ 3 ≤ l3_2.toInt) ∧ x19.toInt = 0))
    (hc34 : (l3_2.toInt = l3_2.toInt → (aI (G23.2.1 (F a 1)) (l3_2.toInt)) = x22.toInt) ∧ (l3_2.toInt ≠ l3_2.toInt → (aI (G23.2.1 (F a 1)) (l3_2.toInt)) = (aI (G_2.2.1 (F a 1)) (l3_2.toInt))))
    (t38 : (0 ≤ l3_2.toInt ∧ l3_2.toInt < 3 ∧ x38.toInt = (aI (G.2.1 (F p0 1)) (l3_2.toInt))) ∨ ((l3_2.toInt < 0 ∨ 3 ≤ l3_2.toInt) ∧ x38.toInt = 0))
    (t43 : (0 ≤ l3_2.toInt ∧ l3_2.toInt < 3 ∧ x43.toInt = (aI (G.2.1 (F p1 1)) (l3_2.toInt))) ∨ ((l3_2.toInt < 0 ∨ 3 ≤ l3_2.toInt) ∧ x43.toInt = 0))
    (I52_0 : 0 ≤ l5_52.toInt ∧ l5_52.toInt ≤ 30)
    (I52_1 : (0 : Int) ≤ l5_52.toInt)
    (hm52 : 2147483648 - l5_52.toInt < (((N52) + 1 : Nat) : Int))
    (c56 : ¬ ((30 : Int) ≤ l5_52.toInt))
    (hb65 : x65.toInt = (bI (x46.toInt) (l5_52.toInt)))
    (hb65a : x65.toInt = 0 ∨ x65.toInt = 1)
    (c66 : ¬ (x65.toInt = 0))
    (t74 : (((cel (vw (G.2.1 (F p0 0))) (l3_2.toInt) (l5_52.toInt) 0) ≠ (cel (vw (G.2.1 (F p1 0))) (l3_2.toInt) (l5_52.toInt) 0) ∨ (cel (vw (G.2.1 (F p0 0))) (l3_2.toInt) (l5_52.toInt) 1) ≠ (cel (vw (G.2.1 (F p1 0))) (l3_2.toInt) (l5_52.toInt) 1) ∨ (cel (vw (G.2.1 (F p0 0))) (l3_2.toInt) (l5_52.toInt) 2) ≠ (cel (vw (G.2.1 (F p1 0))) (l3_2.toInt) (l5_52.toInt) 2)) ∧ x74.toInt = 1) ∨ (¬ ((cel (vw (G.2.1 (F p0 0))) (l3_2.toInt) (l5_52.toInt) 0) ≠ (cel (vw (G.2.1 (F p1 0))) (l3_2.toInt) (l5_52.toInt) 0) ∨ (cel (vw (G.2.1 (F p0 0))) (l3_2.toInt) (l5_52.toInt) 1) ≠ (cel (vw (G.2.1 (F p1 0))) (l3_2.toInt) (l5_52.toInt) 1) ∨ (cel (vw (G.2.1 (F p0 0))) (l3_2.toInt) (l5_52.toInt) 2) ≠ (cel (vw (G.2.1 (F p1 0))) (l3_2.toInt) (l5_52.toInt) 2)) ∧ x74.toInt = 0))
    (c77 : ¬ (x74.toInt = 0)) :
    ∀ t : Int, 0 ≤ t → t ≠ l3_2.toInt → aI (G92.2.1 (F a 0)) t = aI (G35.2.1 (F a 0)) t := by
  intro t h1 h2
  first
    | exact po t h1 h2
    | (rw [hG92, aI_put (by omega) _ h1, if_neg h2]; exact po t h1 h2)
theorem v_X1_ofAllRows_50_9 {K : Nat → Nat} {F : Nat → Nat → Nat} (a : Nat) (p0 : Nat) (p1 : Nat) (G : XG) (G_2 : XG) (G23 : XG) (l3_2 : Int32) (x22 : Int32) (G35 : XG) (x34 : Int32) (x14 : Int32) (x19 : Int32) (x46 : Int32) (x38 : Int32) (x43 : Int32) (N2 : Nat)
    (ha : K a = 3)
    (hp0 : K p0 = 8)
    (hp1 : K p1 = 8)
    (hG35 : G35 = cput G23 (F a 0) l3_2.toNatClampNeg x34)
    (ro1 : RO (vw (G.2.1 (F p0 0))) (aI (G.2.1 (F p0 1))))
    (ro2 : RO (vw (G.2.1 (F p1 0))) (aI (G.2.1 (F p1 1))))
    (j0 : F p0 99 < 12)
    (j1 : F p1 99 < 12)
    (he22 : x22 = x14 ^^^ x19)
    (hv34 : x34.toInt = (aI (G23.2.1 (F a 1)) (l3_2.toInt)))
    (he46 : x46 = x38 &&& x43)
    (I2_0 : 0 ≤ l3_2.toInt ∧ l3_2.toInt ≤ 3)
    (I2_1 : (0 : Int) ≤ l3_2.toInt)
    (hm2 : 2147483648 - l3_2.toInt < (((N2) + 1 : Nat) : Int))
    (c4 : ¬ ((3 : Int) ≤ l3_2.toInt))
    (t14 : (0 ≤ l3_2.toInt ∧ l3_2.toInt < 3 ∧ x14.toInt = (aI (G.2.1 (F p0 1)) (l3_2.toInt))) ∨ ((l3_2.toInt < 0 ∨ 3 ≤ l3_2.toInt) ∧ x14.toInt = 0))
    (t19 : (0 ≤ l3_2.toInt ∧ l3_2.toInt < 3 ∧ x19.toInt = (aI (G.2.1 (F p1 1)) (l3_2.toInt))) ∨ ((l3_2.toInt < 0 ∨ 3 ≤ l3_2.toInt) ∧ x19.toInt = 0))
    (hc34 : (l3_2.toInt = l3_2.toInt → (aI (G23.2.1 (F a 1)) (l3_2.toInt)) = x22.toInt) ∧ (l3_2.toInt ≠ l3_2.toInt → (aI (G23.2.1 (F a 1)) (l3_2.toInt)) = (aI (G_2.2.1 (F a 1)) (l3_2.toInt))))
    (t38 : (0 ≤ l3_2.toInt ∧ l3_2.toInt < 3 ∧ x38.toInt = (aI (G.2.1 (F p0 1)) (l3_2.toInt))) ∨ ((l3_2.toInt < 0 ∨ 3 ≤ l3_2.toInt) ∧ x38.toInt = 0))
    (t43 : (0 ≤ l3_2.toInt ∧ l3_2.toInt < 3 ∧ x43.toInt = (aI (G.2.1 (F p1 1)) (l3_2.toInt))) ∨ ((l3_2.toInt < 0 ∨ 3 ≤ l3_2.toInt) ∧ x43.toInt = 0)) :
    CHk (vw (G.2.1 (F p0 0))) (vw (G.2.1 (F p1 0))) (aI (G35.2.1 (F a 0)) l3_2.toInt) l3_2.toInt (0 : Int) := by
  have hx := bI_xor he22 (X := aI (G.2.1 (F p0 1)) l3_2.toInt) (Y := aI (G.2.1 (F p1 1)) l3_2.toInt) (by omega) (by omega)
  have e1 : aI (G35.2.1 (F a 0)) l3_2.toInt = x22.toInt := by rw [hG35, aI_put (by omega) _ (by omega), if_pos rfl]; omega
  rw [e1]
  exact (CHk_0 ro1 ro2 (by omega) hx).2
theorem v_X1_ofAllRows_50_10 {F : Nat → Nat → Nat} (a : Nat) (l3_2 : Int32) (G35 : XG) :
    ∀ t : Int, 0 ≤ t → t ≠ l3_2.toInt → aI (G35.2.1 (F a 0)) t = aI (G35.2.1 (F a 0)) t := by
  intro t h1 h2; rfl
theorem v_X1_ofAllRows_1_11 {K : Nat → Nat} {F : Nat → Nat → Nat} (a : Nat) (p0 : Nat) (p1 : Nat) (G : XG)
    (ha : K a = 3)
    (hp0 : K p0 = 8)
    (hp1 : K p1 = 8)
    (j0 : F p0 99 < 12)
    (j1 : F p1 99 < 12) :
    ∀ t : Int, 0 ≤ t → t < (0 : Int) → CHt (vw (G.2.1 (F p0 0))) (vw (G.2.1 (F p1 0))) (aI (G.2.1 (F a 1))) (aI (G.2.1 (F a 0))) t := by
  intro t h1 h2; exact absurd h1 (by omega)
theorem z_X1_offerValues_1 (a0 : Int) : a0 ≤ a0 ∧ a0 ≤ a0 + 2 := by omega
theorem z_X1_offerValues_2 (a0 : Int) (h0 : 0 ≤ a0 ∧ a0 ≤ 88) : 0 ≤ a0 ∧ a0 ≤ 89 := by omega
theorem z_X1_offerValues_3 (a0 : Int) (a1 : Int) (h0 : a0 ≤ a1 ∧ a1 ≤ a0 + 1) : a0 ≤ a1 ∧ a1 ≤ a0 + 2 := by omega
theorem z_X1_offerValues_6 (a0 : Int) (a1 : Int) (h0 : 0 ≤ a0 ∧ a0 ≤ 88) (h1 : a0 ≤ a1 ∧ a1 ≤ a0 + 1) : 0 ≤ a1 ∧ a1 ≤ 89 := by omega
theorem z_X1_offerValues_7 (a0 : Int) (a1 : Int) (a2 : Int) (h0 : a0 ≤ a1 ∧ a1 ≤ a0 + 1) (h1 : a1 ≤ a2 ∧ a2 ≤ a1 + 1) : a0 ≤ a2 ∧ a2 ≤ a0 + 2 := by omega
abbrev rm_X1_offerValues : Room := { frames := 2, cells := 0, slots := 0, locals := 44 }
set_option maxHeartbeats 4000000 in
set_option maxRecDepth 100000 in
theorem c_X1_offerValues (l : Launch) (E : XE) (K : Nat → Nat) (F : Nat → Nat → Nat) (G : XG) (a : Nat) (p0 : Nat) (p1 : Nat) (p2 : Nat) (p3 : Int32) (ha : K a = 3) (hp0 : K p0 = 9) (hp1 : K p1 = 8) (hp2 : K p2 = 8) (s0 : 0 ≤ ((G.1 a 3).toInt) ∧ ((G.1 a 3).toInt) ≤ 88) (so : SO (G.2.1 (F a 2)) ((G.1 a 3).toInt)) : Met l yX1_offerValues (xw yX1_offerValues cX1_offerValues 7 none) rm_X1_offerValues (va_Pc [.ref a, .ref p0, .ref p1, .ref p2, .int p3] (XP E K F G)) (XQv E (fun (u : XG) => XFr [(a, 3)] [F a 2] [] G u ∧ (((G.1 a 3).toInt) ≤ ((u.1 a 3).toInt) ∧ ((u.1 a 3).toInt) ≤ ((G.1 a 3).toInt) + 2) ∧ (SO (u.2.1 (F a 2)) ((u.1 a 3).toInt)) ∧ (∀ y : Int, MB (u.2.1 (F a 2)) ((u.1 a 3).toInt) y ↔ MB (G.2.1 (F a 2)) ((G.1 a 3).toInt) y ∨ OV ((G.1 p0 0).toInt) (cel (vw (G.2.1 (F p1 0))) ((G.1 p0 2).toInt) (p3.toInt) ((G.1 p0 3).toInt)) (cel (vw (G.2.1 (F p2 0))) ((G.1 p0 2).toInt) (p3.toInt) ((G.1 p0 3).toInt)) y)) (fun u H => TW E K F u H)) 0 0 (xA E) := by
  refine x_enter (by decide) (Nat.le_of_ble_eq_true rfl) ?_
  intro p e s m args below meth c Q S hr hlk hnm hQ hP ls hl
  obtain ⟨hz, hK, hT⟩ := hP
  obtain ⟨hx, hb, -, -, -⟩ := id S
  obtain ⟨H, hT, hS, hgo⟩ : ∃ H : Heap, TW E K F G H ∧ va_S (xA E) s.heap H [] ∧ H = s.heap := ⟨_, hT, va_S.rf, rfl⟩
  rw [← hgo]
  have hl : lv_has ls 7 [(0, .ref a), (1, .ref p0), (2, .ref p1), (3, .ref p2), (4, .int p3)] := hl
  obtain ⟨hk9999, hj9999⟩ := fkX1_2 hT ha
  obtain ⟨hk9999a, hj9999a⟩ := fkX6_0 hT hp1
  obtain ⟨hk9999b, hj9999b⟩ := fkX6_0 hT hp2
  refine lv_aload_n hx hb dX1_offerValues_0 rfl (lv_at hl 2 rfl) ?_
  refine lv_aload_n hx hb dX1_offerValues_1 rfl (lv_at hl 1 rfl) ?_
  refine gX7_2 S hK hT hp0 kf_X1_73 dX1_offerValues_2 (v := (G.1 p0 2)) rfl (?_)
  refine lv_iload hx hb dX1_offerValues_5 (lv_at hl 4 rfl) ?_
  refine lv_aload_n hx hb dX1_offerValues_7 rfl (lv_at hl 1 rfl) ?_
  refine gX7_3 S hK hT hp0 kf_X1_83 dX1_offerValues_8 (v := (G.1 p0 3)) rfl (?_)
  refine x_clp (x_runV (b := p1) (As := [.int (G.1 p0 2), .int p3, .int (G.1 p0 3)]) (rest := []) S (c_X6_cell l E K F G H p1 (G.1 p0 2) p3 (G.1 p0 3) hp1) mv_X6_cell km_X1_86 rfl rfl ⟨Nat.le_of_ble_eq_true rfl, Nat.le_of_ble_eq_true rfl⟩ (rc_8 hK hT hp1) hK (fun _ => XPh.blind) (fun U hU hW => XPh.at hK hz hS hT hU hW) rfl hl.1 (Nat.le_of_ble_eq_true rfl) dX1_offerValues_11 ⟨Nat.le_of_ble_eq_true rfl, Nat.le_of_ble_eq_true rfl⟩) hS ?_
  rintro _ _ locs ⟨x11, rfl, t11⟩ hS
  have t11 : x11.toInt = (cel (vw (G.2.1 (F p1 0))) ((G.1 p0 2).toInt) (p3.toInt) ((G.1 p0 3).toInt)) := t11
  refine lv_istore (lv' := [(5, .int x11), (0, .ref a), (1, .ref p0), (2, .ref p1), (3, .ref p2), (4, .int p3)]) hx hb dX1_offerValues_14 hl (by decide) rfl (fun ls hl => ?_)
  refine lv_aload_n hx hb dX1_offerValues_16 rfl (lv_at hl 4 rfl) ?_
  refine lv_aload_n hx hb dX1_offerValues_17 rfl (lv_at hl 2 rfl) ?_
  refine gX7_2 S hK hT hp0 kf_X1_73 dX1_offerValues_18 (v := (G.1 p0 2)) rfl (?_)
  refine lv_iload hx hb dX1_offerValues_21 (lv_at hl 5 rfl) ?_
  refine lv_aload_n hx hb dX1_offerValues_23 rfl (lv_at hl 2 rfl) ?_
  refine gX7_3 S hK hT hp0 kf_X1_83 dX1_offerValues_24 (v := (G.1 p0 3)) rfl (?_)
  refine x_clp (x_runV (b := p2) (As := [.int (G.1 p0 2), .int p3, .int (G.1 p0 3)]) (rest := []) S (c_X6_cell l E K F G H p2 (G.1 p0 2) p3 (G.1 p0 3) hp2) mv_X6_cell km_X1_86 rfl rfl ⟨Nat.le_of_ble_eq_true rfl, Nat.le_of_ble_eq_true rfl⟩ (rc_8 hK hT hp2) hK (fun _ => XPh.blind) (fun U hU hW => XPh.at hK hz hS hT hU hW) rfl hl.1 (Nat.le_of_ble_eq_true rfl) dX1_offerValues_27 ⟨Nat.le_of_ble_eq_true rfl, Nat.le_of_ble_eq_true rfl⟩) hS ?_
  rintro _ _ locs ⟨x27, rfl, t27⟩ hS
  have t27 : x27.toInt = (cel (vw (G.2.1 (F p2 0))) ((G.1 p0 2).toInt) (p3.toInt) ((G.1 p0 3).toInt)) := t27
  refine lv_istore (lv' := [(6, .int x27), (5, .int x11), (0, .ref a), (1, .ref p0), (2, .ref p1), (3, .ref p2), (4, .int p3)]) hx hb dX1_offerValues_30 hl (by decide) rfl (fun ls hl => ?_)
  refine lv_iload hx hb dX1_offerValues_32 (lv_at hl 1 rfl) ?_
  refine lv_iload hx hb dX1_offerValues_34 (lv_at hl 0 rfl) ?_
  refine xi_cne (tgt := 48) hx hb (t11 : Int32.toInt x11 = (cel (vw (G.2.1 (F p1 0))) ((G.1 p0 2).toInt) (p3.toInt) ((G.1 p0 3).toInt))) (t27 : Int32.toInt x27 = (cel (vw (G.2.1 (F p2 0))) ((G.1 p0 2).toInt) (p3.toInt) ((G.1 p0 3).toInt))) dX1_offerValues_36 (by decide) (fun c36 => ?_) (fun c36 => ?_)
  · refine lv_aload_n hx hb dX1_offerValues_48 rfl (lv_at hl 3 rfl) ?_
    refine lv_iload hx hb dX1_offerValues_49 (lv_at hl 1 rfl) ?_
    refine x_clp (x_runV (b := p0) (As := [.int x11]) (rest := []) S (c_X7_isSubject l E K F G H p0 x11 hp0) mv_X7_isSubject km_X1_90 rfl rfl ⟨Nat.le_of_ble_eq_true rfl, Nat.le_of_ble_eq_true rfl⟩ (rc_9 hK hT hp0) hK (fun _ => XPh.blind) (fun U hU hW => XPh.at hK hz hS hT hU hW) rfl hl.1 (Nat.le_of_ble_eq_true rfl) dX1_offerValues_51 ⟨Nat.le_of_ble_eq_true rfl, Nat.le_of_ble_eq_true rfl⟩) hS ?_
    rintro _ _ locs ⟨x51, rfl, b51, t51⟩ hS
    have t51 : ((((((G.1 p0 0).toInt) = 2 ∨ ((G.1 p0 0).toInt) = 4 ∨ ((G.1 p0 0).toInt) = 5) ∧ 0 ≤ (cel (vw (G.2.1 (F p1 0))) ((G.1 p0 2).toInt) (p3.toInt) ((G.1 p0 3).toInt)) ∧ (cel (vw (G.2.1 (F p1 0))) ((G.1 p0 2).toInt) (p3.toInt) ((G.1 p0 3).toInt)) < 30) ∨ (¬ (((G.1 p0 0).toInt) = 2 ∨ ((G.1 p0 0).toInt) = 4 ∨ ((G.1 p0 0).toInt) = 5) ∧ -99 ≤ (cel (vw (G.2.1 (F p1 0))) ((G.1 p0 2).toInt) (p3.toInt) ((G.1 p0 3).toInt)) ∧ (cel (vw (G.2.1 (F p1 0))) ((G.1 p0 2).toInt) (p3.toInt) ((G.1 p0 3).toInt)) ≤ 99)) ∧ x51.toInt = 1) ∨ (¬ (((((G.1 p0 0).toInt) = 2 ∨ ((G.1 p0 0).toInt) = 4 ∨ ((G.1 p0 0).toInt) = 5) ∧ 0 ≤ (cel (vw (G.2.1 (F p1 0))) ((G.1 p0 2).toInt) (p3.toInt) ((G.1 p0 3).toInt)) ∧ (cel (vw (G.2.1 (F p1 0))) ((G.1 p0 2).toInt) (p3.toInt) ((G.1 p0 3).toInt)) < 30) ∨ (¬ (((G.1 p0 0).toInt) = 2 ∨ ((G.1 p0 0).toInt) = 4 ∨ ((G.1 p0 0).toInt) = 5) ∧ -99 ≤ (cel (vw (G.2.1 (F p1 0))) ((G.1 p0 2).toInt) (p3.toInt) ((G.1 p0 3).toInt)) ∧ (cel (vw (G.2.1 (F p1 0))) ((G.1 p0 2).toInt) (p3.toInt) ((G.1 p0 3).toInt)) ≤ 99)) ∧ x51.toInt = 0) := by rw [(t11 : Int32.toInt x11 = (cel (vw (G.2.1 (F p1 0))) ((G.1 p0 2).toInt) (p3.toInt) ((G.1 p0 3).toInt)))] at t51; exact t51
    refine xi_zeq (tgt := 63) hx hb (rfl : Int32.toInt x51 = x51.toInt) dX1_offerValues_54 (by decide) (fun c54 => ?_) (fun c54 => ?_)
    · refine lv_aload_n hx hb dX1_offerValues_63 rfl (lv_at hl 3 rfl) ?_
      refine lv_iload hx hb dX1_offerValues_64 (lv_at hl 0 rfl) ?_
      refine x_clp (x_runV (b := p0) (As := [.int x27]) (rest := []) S (c_X7_isSubject l E K F G H p0 x27 hp0) mv_X7_isSubject km_X1_90 rfl rfl ⟨Nat.le_of_ble_eq_true rfl, Nat.le_of_ble_eq_true rfl⟩ (rc_9 hK hT hp0) hK (fun _ => XPh.blind) (fun U hU hW => XPh.at hK hz hS hT hU hW) rfl hl.1 (Nat.le_of_ble_eq_true rfl) dX1_offerValues_66 ⟨Nat.le_of_ble_eq_true rfl, Nat.le_of_ble_eq_true rfl⟩) hS ?_
      rintro _ _ locs ⟨x66, rfl, b66, t66⟩ hS
      have t66 : ((((((G.1 p0 0).toInt) = 2 ∨ ((G.1 p0 0).toInt) = 4 ∨ ((G.1 p0 0).toInt) = 5) ∧ 0 ≤ (cel (vw (G.2.1 (F p2 0))) ((G.1 p0 2).toInt) (p3.toInt) ((G.1 p0 3).toInt)) ∧ (cel (vw (G.2.1 (F p2 0))) ((G.1 p0 2).toInt) (p3.toInt) ((G.1 p0 3).toInt)) < 30) ∨ (¬ (((G.1 p0 0).toInt) = 2 ∨ ((G.1 p0 0).toInt) = 4 ∨ ((G.1 p0 0).toInt) = 5) ∧ -99 ≤ (cel (vw (G.2.1 (F p2 0))) ((G.1 p0 2).toInt) (p3.toInt) ((G.1 p0 3).toInt)) ∧ (cel (vw (G.2.1 (F p2 0))) ((G.1 p0 2).toInt) (p3.toInt) ((G.1 p0 3).toInt)) ≤ 99)) ∧ x66.toInt = 1) ∨ (¬ (((((G.1 p0 0).toInt) = 2 ∨ ((G.1 p0 0).toInt) = 4 ∨ ((G.1 p0 0).toInt) = 5) ∧ 0 ≤ (cel (vw (G.2.1 (F p2 0))) ((G.1 p0 2).toInt) (p3.toInt) ((G.1 p0 3).toInt)) ∧ (cel (vw (G.2.1 (F p2 0))) ((G.1 p0 2).toInt) (p3.toInt) ((G.1 p0 3).toInt)) < 30) ∨ (¬ (((G.1 p0 0).toInt) = 2 ∨ ((G.1 p0 0).toInt) = 4 ∨ ((G.1 p0 0).toInt) = 5) ∧ -99 ≤ (cel (vw (G.2.1 (F p2 0))) ((G.1 p0 2).toInt) (p3.toInt) ((G.1 p0 3).toInt)) ∧ (cel (vw (G.2.1 (F p2 0))) ((G.1 p0 2).toInt) (p3.toInt) ((G.1 p0 3).toInt)) ≤ 99)) ∧ x66.toInt = 0) := by rw [(t27 : Int32.toInt x27 = (cel (vw (G.2.1 (F p2 0))) ((G.1 p0 2).toInt) (p3.toInt) ((G.1 p0 3).toInt)))] at t66; exact t66
      refine xi_zeq (tgt := 78) hx hb (rfl : Int32.toInt x66 = x66.toInt) dX1_offerValues_69 (by decide) (fun c69 => ?_) (fun c69 => ?_)
      · exact x_rv hx hb hr hlk hQ (Nat.le_of_ble_eq_true rfl) (Nat.le_of_ble_eq_true rfl) hS dX1_offerValues_78 G ⟨XFr.rf, (z_X1_offerValues_1 ((G.1 a 3).toInt)), (v_X1_offerValues_78_1 a G so), (v_X1_offerValues_78_2 a p0 p1 p2 G p3 x51 x66 ha hp0 hp1 hp2 so s0 c36 t51 c54 t66 c69)⟩ hT
      · refine lv_aload_n hx hb dX1_offerValues_72 rfl (lv_at hl 2 rfl) ?_
        refine lv_iload hx hb dX1_offerValues_73 (lv_at hl 0 rfl) ?_
        refine x_cv0 (x_runV (b := a) (As := [.int x27]) (rest := []) S (c_X1_insert l E K F G a x27 ha (z_X1_offerValues_2 ((G.1 a 3).toInt) s0) (v_X1_offerValues_75_3 a G so)) mv_X1_insert km_X1_93 rfl rfl ⟨Nat.le_of_ble_eq_true rfl, Nat.le_of_ble_eq_true rfl⟩ (rc_3 hK hT ha) hK (fun _ => XP.blind) (fun U hU hW => XP.at hK hz hS hT hU hW) rfl hl.1 (Nat.le_of_ble_eq_true rfl) dX1_offerValues_75 ⟨Nat.le_of_ble_eq_true rfl, Nat.le_of_ble_eq_true rfl⟩) hS ?_
        rintro G75 H locs ⟨hF75, t75, oq75, oq75a⟩ hT hS
        have t75 : ((G.1 a 3).toInt) ≤ ((G75.1 a 3).toInt) ∧ ((G75.1 a 3).toInt) ≤ ((G.1 a 3).toInt) + 1 := t75
        have oq75a : ∀ y : Int, MB (G75.2.1 (F a 2)) ((G75.1 a 3).toInt) y ↔ MB (G.2.1 (F a 2)) ((G.1 a 3).toInt) y ∨ y = (cel (vw (G.2.1 (F p2 0))) ((G.1 p0 2).toInt) (p3.toInt) ((G.1 p0 3).toInt)) := by simp only [(t27 : Int32.toInt x27 = (cel (vw (G.2.1 (F p2 0))) ((G.1 p0 2).toInt) (p3.toInt) ((G.1 p0 3).toInt)))] at oq75a; exact oq75a
        exact x_rv hx hb hr hlk hQ (Nat.le_of_ble_eq_true rfl) (Nat.le_of_ble_eq_true rfl) hS dX1_offerValues_78 G75 ⟨(XFr.call XFr.rf hF75 (xm1 0 rfl xm0) (xm1 0 rfl xm0) xm0), (z_X1_offerValues_3 ((G.1 a 3).toInt) ((G75.1 a 3).toInt) t75), (v_X1_offerValues_78_4 a G G75 so oq75), (v_X1_offerValues_78_5 a p0 p1 p2 G G75 p3 x51 x66 ha hp0 hp1 hp2 so oq75 oq75a s0 c36 t51 c54 t66 c69 t75)⟩ hT
    · refine lv_aload_n hx hb dX1_offerValues_57 rfl (lv_at hl 2 rfl) ?_
      refine lv_iload hx hb dX1_offerValues_58 (lv_at hl 1 rfl) ?_
      refine x_cv0 (x_runV (b := a) (As := [.int x11]) (rest := []) S (c_X1_insert l E K F G a x11 ha (z_X1_offerValues_2 ((G.1 a 3).toInt) s0) (v_X1_offerValues_60_6 a G so)) mv_X1_insert km_X1_93 rfl rfl ⟨Nat.le_of_ble_eq_true rfl, Nat.le_of_ble_eq_true rfl⟩ (rc_3 hK hT ha) hK (fun _ => XP.blind) (fun U hU hW => XP.at hK hz hS hT hU hW) rfl hl.1 (Nat.le_of_ble_eq_true rfl) dX1_offerValues_60 ⟨Nat.le_of_ble_eq_true rfl, Nat.le_of_ble_eq_true rfl⟩) hS ?_
      rintro G60 H locs ⟨hF60, t60, oq60, oq60a⟩ hT hS
      have t60 : ((G.1 a 3).toInt) ≤ ((G60.1 a 3).toInt) ∧ ((G60.1 a 3).toInt) ≤ ((G.1 a 3).toInt) + 1 := t60
      have oq60a : ∀ y : Int, MB (G60.2.1 (F a 2)) ((G60.1 a 3).toInt) y ↔ MB (G.2.1 (F a 2)) ((G.1 a 3).toInt) y ∨ y = (cel (vw (G.2.1 (F p1 0))) ((G.1 p0 2).toInt) (p3.toInt) ((G.1 p0 3).toInt)) := by simp only [(t11 : Int32.toInt x11 = (cel (vw (G.2.1 (F p1 0))) ((G.1 p0 2).toInt) (p3.toInt) ((G.1 p0 3).toInt)))] at oq60a; exact oq60a
      refine lv_aload_n hx hb dX1_offerValues_63 rfl (lv_at hl 3 rfl) ?_
      refine lv_iload hx hb dX1_offerValues_64 (lv_at hl 0 rfl) ?_
      refine x_clp (x_runV (b := p0) (As := [.int x27]) (rest := []) S (c_X7_isSubject l E K F G60 H p0 x27 hp0) mv_X7_isSubject km_X1_90 rfl rfl ⟨Nat.le_of_ble_eq_true rfl, Nat.le_of_ble_eq_true rfl⟩ (rc_9 hK hT hp0) hK (fun _ => XPh.blind) (fun U hU hW => XPh.at hK hz hS hT hU hW) rfl hl.1 (Nat.le_of_ble_eq_true rfl) dX1_offerValues_66 ⟨Nat.le_of_ble_eq_true rfl, Nat.le_of_ble_eq_true rfl⟩) hS ?_
      rintro _ _ locs ⟨x66, rfl, b66, t66⟩ hS
      have t66 : ((((((G.1 p0 0).toInt) = 2 ∨ ((G.1 p0 0).toInt) = 4 ∨ ((G.1 p0 0).toInt) = 5) ∧ 0 ≤ (cel (vw (G.2.1 (F p2 0))) ((G.1 p0 2).toInt) (p3.toInt) ((G.1 p0 3).toInt)) ∧ (cel (vw (G.2.1 (F p2 0))) ((G.1 p0 2).toInt) (p3.toInt) ((G.1 p0 3).toInt)) < 30) ∨ (¬ (((G.1 p0 0).toInt) = 2 ∨ ((G.1 p0 0).toInt) = 4 ∨ ((G.1 p0 0).toInt) = 5) ∧ -99 ≤ (cel (vw (G.2.1 (F p2 0))) ((G.1 p0 2).toInt) (p3.toInt) ((G.1 p0 3).toInt)) ∧ (cel (vw (G.2.1 (F p2 0))) ((G.1 p0 2).toInt) (p3.toInt) ((G.1 p0 3).toInt)) ≤ 99)) ∧ x66.toInt = 1) ∨ (¬ (((((G.1 p0 0).toInt) = 2 ∨ ((G.1 p0 0).toInt) = 4 ∨ ((G.1 p0 0).toInt) = 5) ∧ 0 ≤ (cel (vw (G.2.1 (F p2 0))) ((G.1 p0 2).toInt) (p3.toInt) ((G.1 p0 3).toInt)) ∧ (cel (vw (G.2.1 (F p2 0))) ((G.1 p0 2).toInt) (p3.toInt) ((G.1 p0 3).toInt)) < 30) ∨ (¬ (((G.1 p0 0).toInt) = 2 ∨ ((G.1 p0 0).toInt) = 4 ∨ ((G.1 p0 0).toInt) = 5) ∧ -99 ≤ (cel (vw (G.2.1 (F p2 0))) ((G.1 p0 2).toInt) (p3.toInt) ((G.1 p0 3).toInt)) ∧ (cel (vw (G.2.1 (F p2 0))) ((G.1 p0 2).toInt) (p3.toInt) ((G.1 p0 3).toInt)) ≤ 99)) ∧ x66.toInt = 0) := by rw [(t27 : Int32.toInt x27 = (cel (vw (G.2.1 (F p2 0))) ((G.1 p0 2).toInt) (p3.toInt) ((G.1 p0 3).toInt)))] at t66; rw [(show (G60.1 p0 0).toInt = ((G.1 p0 0).toInt) from (congrArg Int32.toInt (hF60.1 _ _ (xnj (by decide) xn0))).trans (rfl : Int32.toInt (G.1 p0 0) = ((G.1 p0 0).toInt)))] at t66; exact t66
      refine xi_zeq (tgt := 78) hx hb (rfl : Int32.toInt x66 = x66.toInt) dX1_offerValues_69 (by decide) (fun c69 => ?_) (fun c69 => ?_)
      · exact x_rv hx hb hr hlk hQ (Nat.le_of_ble_eq_true rfl) (Nat.le_of_ble_eq_true rfl) hS dX1_offerValues_78 G60 ⟨(XFr.call XFr.rf hF60 (xm1 0 rfl xm0) (xm1 0 rfl xm0) xm0), (z_X1_offerValues_3 ((G.1 a 3).toInt) ((G60.1 a 3).toInt) t60), (v_X1_offerValues_78_7 a G G60 so oq60), (v_X1_offerValues_78_8 a p0 p1 p2 G G60 p3 x51 x66 ha hp0 hp1 hp2 so oq60 oq60a s0 c36 t51 c54 t60 t66 c69)⟩ hT
      · refine lv_aload_n hx hb dX1_offerValues_72 rfl (lv_at hl 2 rfl) ?_
        refine lv_iload hx hb dX1_offerValues_73 (lv_at hl 0 rfl) ?_
        refine x_cv0 (x_runV (b := a) (As := [.int x27]) (rest := []) S (c_X1_insert l E K F G60 a x27 ha (z_X1_offerValues_6 ((G.1 a 3).toInt) ((G60.1 a 3).toInt) s0 t60) (v_X1_offerValues_75_9 a G G60 so oq60)) mv_X1_insert km_X1_93 rfl rfl ⟨Nat.le_of_ble_eq_true rfl, Nat.le_of_ble_eq_true rfl⟩ (rc_3 hK hT ha) hK (fun _ => XP.blind) (fun U hU hW => XP.at hK hz hS hT hU hW) rfl hl.1 (Nat.le_of_ble_eq_true rfl) dX1_offerValues_75 ⟨Nat.le_of_ble_eq_true rfl, Nat.le_of_ble_eq_true rfl⟩) hS ?_
        rintro G75 H locs ⟨hF75, t75, oq75, oq75a⟩ hT hS
        have t75 : ((G60.1 a 3).toInt) ≤ ((G75.1 a 3).toInt) ∧ ((G75.1 a 3).toInt) ≤ ((G60.1 a 3).toInt) + 1 := t75
        have oq75a : ∀ y : Int, MB (G75.2.1 (F a 2)) ((G75.1 a 3).toInt) y ↔ MB (G60.2.1 (F a 2)) ((G60.1 a 3).toInt) y ∨ y = (cel (vw (G.2.1 (F p2 0))) ((G.1 p0 2).toInt) (p3.toInt) ((G.1 p0 3).toInt)) := by simp only [(t27 : Int32.toInt x27 = (cel (vw (G.2.1 (F p2 0))) ((G.1 p0 2).toInt) (p3.toInt) ((G.1 p0 3).toInt)))] at oq75a; exact oq75a
        exact x_rv hx hb hr hlk hQ (Nat.le_of_ble_eq_true rfl) (Nat.le_of_ble_eq_true rfl) hS dX1_offerValues_78 G75 ⟨(XFr.call (XFr.call XFr.rf hF60 (xm1 0 rfl xm0) (xm1 0 rfl xm0) xm0) hF75 (xm1 0 rfl xm0) (xm1 0 rfl xm0) xm0), (z_X1_offerValues_7 ((G.1 a 3).toInt) ((G60.1 a 3).toInt) ((G75.1 a 3).toInt) t60 t75), (v_X1_offerValues_78_10 a G G60 G75 so oq60 oq75), (v_X1_offerValues_78_11 a p0 p1 p2 G G60 G75 p3 x51 x66 ha hp0 hp1 hp2 so oq60 oq60a oq75 oq75a s0 c36 t51 c54 t60 t66 c69 t75)⟩ hT
  · refine lv_aload_n hx hb dX1_offerValues_39 rfl (lv_at hl 3 rfl) ?_
    refine gX7_0 S hK hT hp0 kf_X1_76 dX1_offerValues_40 (v := (G.1 p0 0)) rfl (?_)
    refine lv_iconst (v := 3) hx hb dX1_offerValues_43 (by decide) ?_
    refine xi_ceq (tgt := 48) hx hb (rfl : Int32.toInt (G.1 p0 0) = ((G.1 p0 0).toInt)) ((by decide) : Int32.toInt 3 = (3 : Int)) dX1_offerValues_44 (by decide) (fun c44 => ?_) (fun c44 => ?_)
    · refine lv_aload_n hx hb dX1_offerValues_48 rfl (lv_at hl 3 rfl) ?_
      refine lv_iload hx hb dX1_offerValues_49 (lv_at hl 1 rfl) ?_
      refine x_clp (x_runV (b := p0) (As := [.int x11]) (rest := []) S (c_X7_isSubject l E K F G H p0 x11 hp0) mv_X7_isSubject km_X1_90 rfl rfl ⟨Nat.le_of_ble_eq_true rfl, Nat.le_of_ble_eq_true rfl⟩ (rc_9 hK hT hp0) hK (fun _ => XPh.blind) (fun U hU hW => XPh.at hK hz hS hT hU hW) rfl hl.1 (Nat.le_of_ble_eq_true rfl) dX1_offerValues_51 ⟨Nat.le_of_ble_eq_true rfl, Nat.le_of_ble_eq_true rfl⟩) hS ?_
      rintro _ _ locs ⟨x51, rfl, b51, t51⟩ hS
      have t51 : ((((((G.1 p0 0).toInt) = 2 ∨ ((G.1 p0 0).toInt) = 4 ∨ ((G.1 p0 0).toInt) = 5) ∧ 0 ≤ (cel (vw (G.2.1 (F p1 0))) ((G.1 p0 2).toInt) (p3.toInt) ((G.1 p0 3).toInt)) ∧ (cel (vw (G.2.1 (F p1 0))) ((G.1 p0 2).toInt) (p3.toInt) ((G.1 p0 3).toInt)) < 30) ∨ (¬ (((G.1 p0 0).toInt) = 2 ∨ ((G.1 p0 0).toInt) = 4 ∨ ((G.1 p0 0).toInt) = 5) ∧ -99 ≤ (cel (vw (G.2.1 (F p1 0))) ((G.1 p0 2).toInt) (p3.toInt) ((G.1 p0 3).toInt)) ∧ (cel (vw (G.2.1 (F p1 0))) ((G.1 p0 2).toInt) (p3.toInt) ((G.1 p0 3).toInt)) ≤ 99)) ∧ x51.toInt = 1) ∨ (¬ (((((G.1 p0 0).toInt) = 2 ∨ ((G.1 p0 0).toInt) = 4 ∨ ((G.1 p0 0).toInt) = 5) ∧ 0 ≤ (cel (vw (G.2.1 (F p1 0))) ((G.1 p0 2).toInt) (p3.toInt) ((G.1 p0 3).toInt)) ∧ (cel (vw (G.2.1 (F p1 0))) ((G.1 p0 2).toInt) (p3.toInt) ((G.1 p0 3).toInt)) < 30) ∨ (¬ (((G.1 p0 0).toInt) = 2 ∨ ((G.1 p0 0).toInt) = 4 ∨ ((G.1 p0 0).toInt) = 5) ∧ -99 ≤ (cel (vw (G.2.1 (F p1 0))) ((G.1 p0 2).toInt) (p3.toInt) ((G.1 p0 3).toInt)) ∧ (cel (vw (G.2.1 (F p1 0))) ((G.1 p0 2).toInt) (p3.toInt) ((G.1 p0 3).toInt)) ≤ 99)) ∧ x51.toInt = 0) := by rw [(t11 : Int32.toInt x11 = (cel (vw (G.2.1 (F p1 0))) ((G.1 p0 2).toInt) (p3.toInt) ((G.1 p0 3).toInt)))] at t51; exact t51
      refine xi_zeq (tgt := 63) hx hb (rfl : Int32.toInt x51 = x51.toInt) dX1_offerValues_54 (by decide) (fun c54 => ?_) (fun c54 => ?_)
      · refine lv_aload_n hx hb dX1_offerValues_63 rfl (lv_at hl 3 rfl) ?_
        refine lv_iload hx hb dX1_offerValues_64 (lv_at hl 0 rfl) ?_
        refine x_clp (x_runV (b := p0) (As := [.int x27]) (rest := []) S (c_X7_isSubject l E K F G H p0 x27 hp0) mv_X7_isSubject km_X1_90 rfl rfl ⟨Nat.le_of_ble_eq_true rfl, Nat.le_of_ble_eq_true rfl⟩ (rc_9 hK hT hp0) hK (fun _ => XPh.blind) (fun U hU hW => XPh.at hK hz hS hT hU hW) rfl hl.1 (Nat.le_of_ble_eq_true rfl) dX1_offerValues_66 ⟨Nat.le_of_ble_eq_true rfl, Nat.le_of_ble_eq_true rfl⟩) hS ?_
        rintro _ _ locs ⟨x66, rfl, b66, t66⟩ hS
        have t66 : ((((((G.1 p0 0).toInt) = 2 ∨ ((G.1 p0 0).toInt) = 4 ∨ ((G.1 p0 0).toInt) = 5) ∧ 0 ≤ (cel (vw (G.2.1 (F p2 0))) ((G.1 p0 2).toInt) (p3.toInt) ((G.1 p0 3).toInt)) ∧ (cel (vw (G.2.1 (F p2 0))) ((G.1 p0 2).toInt) (p3.toInt) ((G.1 p0 3).toInt)) < 30) ∨ (¬ (((G.1 p0 0).toInt) = 2 ∨ ((G.1 p0 0).toInt) = 4 ∨ ((G.1 p0 0).toInt) = 5) ∧ -99 ≤ (cel (vw (G.2.1 (F p2 0))) ((G.1 p0 2).toInt) (p3.toInt) ((G.1 p0 3).toInt)) ∧ (cel (vw (G.2.1 (F p2 0))) ((G.1 p0 2).toInt) (p3.toInt) ((G.1 p0 3).toInt)) ≤ 99)) ∧ x66.toInt = 1) ∨ (¬ (((((G.1 p0 0).toInt) = 2 ∨ ((G.1 p0 0).toInt) = 4 ∨ ((G.1 p0 0).toInt) = 5) ∧ 0 ≤ (cel (vw (G.2.1 (F p2 0))) ((G.1 p0 2).toInt) (p3.toInt) ((G.1 p0 3).toInt)) ∧ (cel (vw (G.2.1 (F p2 0))) ((G.1 p0 2).toInt) (p3.toInt) ((G.1 p0 3).toInt)) < 30) ∨ (¬ (((G.1 p0 0).toInt) = 2 ∨ ((G.1 p0 0).toInt) = 4 ∨ ((G.1 p0 0).toInt) = 5) ∧ -99 ≤ (cel (vw (G.2.1 (F p2 0))) ((G.1 p0 2).toInt) (p3.toInt) ((G.1 p0 3).toInt)) ∧ (cel (vw (G.2.1 (F p2 0))) ((G.1 p0 2).toInt) (p3.toInt) ((G.1 p0 3).toInt)) ≤ 99)) ∧ x66.toInt = 0) := by rw [(t27 : Int32.toInt x27 = (cel (vw (G.2.1 (F p2 0))) ((G.1 p0 2).toInt) (p3.toInt) ((G.1 p0 3).toInt)))] at t66; exact t66
        refine xi_zeq (tgt := 78) hx hb (rfl : Int32.toInt x66 = x66.toInt) dX1_offerValues_69 (by decide) (fun c69 => ?_) (fun c69 => ?_)
        · exact x_rv hx hb hr hlk hQ (Nat.le_of_ble_eq_true rfl) (Nat.le_of_ble_eq_true rfl) hS dX1_offerValues_78 G ⟨XFr.rf, (z_X1_offerValues_1 ((G.1 a 3).toInt)), (v_X1_offerValues_78_12 a G so), (v_X1_offerValues_78_13 a p0 p1 p2 G p3 x51 x66 ha hp0 hp1 hp2 so s0 c36 c44 t51 c54 t66 c69)⟩ hT
        · refine lv_aload_n hx hb dX1_offerValues_72 rfl (lv_at hl 2 rfl) ?_
          refine lv_iload hx hb dX1_offerValues_73 (lv_at hl 0 rfl) ?_
          refine x_cv0 (x_runV (b := a) (As := [.int x27]) (rest := []) S (c_X1_insert l E K F G a x27 ha (z_X1_offerValues_2 ((G.1 a 3).toInt) s0) (v_X1_offerValues_75_14 a G so)) mv_X1_insert km_X1_93 rfl rfl ⟨Nat.le_of_ble_eq_true rfl, Nat.le_of_ble_eq_true rfl⟩ (rc_3 hK hT ha) hK (fun _ => XP.blind) (fun U hU hW => XP.at hK hz hS hT hU hW) rfl hl.1 (Nat.le_of_ble_eq_true rfl) dX1_offerValues_75 ⟨Nat.le_of_ble_eq_true rfl, Nat.le_of_ble_eq_true rfl⟩) hS ?_
          rintro G75 H locs ⟨hF75, t75, oq75, oq75a⟩ hT hS
          have t75 : ((G.1 a 3).toInt) ≤ ((G75.1 a 3).toInt) ∧ ((G75.1 a 3).toInt) ≤ ((G.1 a 3).toInt) + 1 := t75
          have oq75a : ∀ y : Int, MB (G75.2.1 (F a 2)) ((G75.1 a 3).toInt) y ↔ MB (G.2.1 (F a 2)) ((G.1 a 3).toInt) y ∨ y = (cel (vw (G.2.1 (F p2 0))) ((G.1 p0 2).toInt) (p3.toInt) ((G.1 p0 3).toInt)) := by simp only [(t27 : Int32.toInt x27 = (cel (vw (G.2.1 (F p2 0))) ((G.1 p0 2).toInt) (p3.toInt) ((G.1 p0 3).toInt)))] at oq75a; exact oq75a
          exact x_rv hx hb hr hlk hQ (Nat.le_of_ble_eq_true rfl) (Nat.le_of_ble_eq_true rfl) hS dX1_offerValues_78 G75 ⟨(XFr.call XFr.rf hF75 (xm1 0 rfl xm0) (xm1 0 rfl xm0) xm0), (z_X1_offerValues_3 ((G.1 a 3).toInt) ((G75.1 a 3).toInt) t75), (v_X1_offerValues_78_15 a G G75 so oq75), (v_X1_offerValues_78_16 a p0 p1 p2 G G75 p3 x51 x66 ha hp0 hp1 hp2 so oq75 oq75a s0 c36 c44 t51 c54 t66 c69 t75)⟩ hT
      · refine lv_aload_n hx hb dX1_offerValues_57 rfl (lv_at hl 2 rfl) ?_
        refine lv_iload hx hb dX1_offerValues_58 (lv_at hl 1 rfl) ?_
        refine x_cv0 (x_runV (b := a) (As := [.int x11]) (rest := []) S (c_X1_insert l E K F G a x11 ha (z_X1_offerValues_2 ((G.1 a 3).toInt) s0) (v_X1_offerValues_60_17 a G so)) mv_X1_insert km_X1_93 rfl rfl ⟨Nat.le_of_ble_eq_true rfl, Nat.le_of_ble_eq_true rfl⟩ (rc_3 hK hT ha) hK (fun _ => XP.blind) (fun U hU hW => XP.at hK hz hS hT hU hW) rfl hl.1 (Nat.le_of_ble_eq_true rfl) dX1_offerValues_60 ⟨Nat.le_of_ble_eq_true rfl, Nat.le_of_ble_eq_true rfl⟩) hS ?_
        rintro G60 H locs ⟨hF60, t60, oq60, oq60a⟩ hT hS
        have t60 : ((G.1 a 3).toInt) ≤ ((G60.1 a 3).toInt) ∧ ((G60.1 a 3).toInt) ≤ ((G.1 a 3).toInt) + 1 := t60
        have oq60a : ∀ y : Int, MB (G60.2.1 (F a 2)) ((G60.1 a 3).toInt) y ↔ MB (G.2.1 (F a 2)) ((G.1 a 3).toInt) y ∨ y = (cel (vw (G.2.1 (F p1 0))) ((G.1 p0 2).toInt) (p3.toInt) ((G.1 p0 3).toInt)) := by simp only [(t11 : Int32.toInt x11 = (cel (vw (G.2.1 (F p1 0))) ((G.1 p0 2).toInt) (p3.toInt) ((G.1 p0 3).toInt)))] at oq60a; exact oq60a
        refine lv_aload_n hx hb dX1_offerValues_63 rfl (lv_at hl 3 rfl) ?_
        refine lv_iload hx hb dX1_offerValues_64 (lv_at hl 0 rfl) ?_
        refine x_clp (x_runV (b := p0) (As := [.int x27]) (rest := []) S (c_X7_isSubject l E K F G60 H p0 x27 hp0) mv_X7_isSubject km_X1_90 rfl rfl ⟨Nat.le_of_ble_eq_true rfl, Nat.le_of_ble_eq_true rfl⟩ (rc_9 hK hT hp0) hK (fun _ => XPh.blind) (fun U hU hW => XPh.at hK hz hS hT hU hW) rfl hl.1 (Nat.le_of_ble_eq_true rfl) dX1_offerValues_66 ⟨Nat.le_of_ble_eq_true rfl, Nat.le_of_ble_eq_true rfl⟩) hS ?_
        rintro _ _ locs ⟨x66, rfl, b66, t66⟩ hS
        have t66 : ((((((G.1 p0 0).toInt) = 2 ∨ ((G.1 p0 0).toInt) = 4 ∨ ((G.1 p0 0).toInt) = 5) ∧ 0 ≤ (cel (vw (G.2.1 (F p2 0))) ((G.1 p0 2).toInt) (p3.toInt) ((G.1 p0 3).toInt)) ∧ (cel (vw (G.2.1 (F p2 0))) ((G.1 p0 2).toInt) (p3.toInt) ((G.1 p0 3).toInt)) < 30) ∨ (¬ (((G.1 p0 0).toInt) = 2 ∨ ((G.1 p0 0).toInt) = 4 ∨ ((G.1 p0 0).toInt) = 5) ∧ -99 ≤ (cel (vw (G.2.1 (F p2 0))) ((G.1 p0 2).toInt) (p3.toInt) ((G.1 p0 3).toInt)) ∧ (cel (vw (G.2.1 (F p2 0))) ((G.1 p0 2).toInt) (p3.toInt) ((G.1 p0 3).toInt)) ≤ 99)) ∧ x66.toInt = 1) ∨ (¬ (((((G.1 p0 0).toInt) = 2 ∨ ((G.1 p0 0).toInt) = 4 ∨ ((G.1 p0 0).toInt) = 5) ∧ 0 ≤ (cel (vw (G.2.1 (F p2 0))) ((G.1 p0 2).toInt) (p3.toInt) ((G.1 p0 3).toInt)) ∧ (cel (vw (G.2.1 (F p2 0))) ((G.1 p0 2).toInt) (p3.toInt) ((G.1 p0 3).toInt)) < 30) ∨ (¬ (((G.1 p0 0).toInt) = 2 ∨ ((G.1 p0 0).toInt) = 4 ∨ ((G.1 p0 0).toInt) = 5) ∧ -99 ≤ (cel (vw (G.2.1 (F p2 0))) ((G.1 p0 2).toInt) (p3.toInt) ((G.1 p0 3).toInt)) ∧ (cel (vw (G.2.1 (F p2 0))) ((G.1 p0 2).toInt) (p3.toInt) ((G.1 p0 3).toInt)) ≤ 99)) ∧ x66.toInt = 0) := by rw [(t27 : Int32.toInt x27 = (cel (vw (G.2.1 (F p2 0))) ((G.1 p0 2).toInt) (p3.toInt) ((G.1 p0 3).toInt)))] at t66; rw [(show (G60.1 p0 0).toInt = ((G.1 p0 0).toInt) from (congrArg Int32.toInt (hF60.1 _ _ (xnj (by decide) xn0))).trans (rfl : Int32.toInt (G.1 p0 0) = ((G.1 p0 0).toInt)))] at t66; exact t66
        refine xi_zeq (tgt := 78) hx hb (rfl : Int32.toInt x66 = x66.toInt) dX1_offerValues_69 (by decide) (fun c69 => ?_) (fun c69 => ?_)
        · exact x_rv hx hb hr hlk hQ (Nat.le_of_ble_eq_true rfl) (Nat.le_of_ble_eq_true rfl) hS dX1_offerValues_78 G60 ⟨(XFr.call XFr.rf hF60 (xm1 0 rfl xm0) (xm1 0 rfl xm0) xm0), (z_X1_offerValues_3 ((G.1 a 3).toInt) ((G60.1 a 3).toInt) t60), (v_X1_offerValues_78_18 a G G60 so oq60), (v_X1_offerValues_78_19 a p0 p1 p2 G G60 p3 x51 x66 ha hp0 hp1 hp2 so oq60 oq60a s0 c36 c44 t51 c54 t60 t66 c69)⟩ hT
        · refine lv_aload_n hx hb dX1_offerValues_72 rfl (lv_at hl 2 rfl) ?_
          refine lv_iload hx hb dX1_offerValues_73 (lv_at hl 0 rfl) ?_
          refine x_cv0 (x_runV (b := a) (As := [.int x27]) (rest := []) S (c_X1_insert l E K F G60 a x27 ha (z_X1_offerValues_6 ((G.1 a 3).toInt) ((G60.1 a 3).toInt) s0 t60) (v_X1_offerValues_75_20 a G G60 so oq60)) mv_X1_insert km_X1_93 rfl rfl ⟨Nat.le_of_ble_eq_true rfl, Nat.le_of_ble_eq_true rfl⟩ (rc_3 hK hT ha) hK (fun _ => XP.blind) (fun U hU hW => XP.at hK hz hS hT hU hW) rfl hl.1 (Nat.le_of_ble_eq_true rfl) dX1_offerValues_75 ⟨Nat.le_of_ble_eq_true rfl, Nat.le_of_ble_eq_true rfl⟩) hS ?_
          rintro G75 H locs ⟨hF75, t75, oq75, oq75a⟩ hT hS
          have t75 : ((G60.1 a 3).toInt) ≤ ((G75.1 a 3).toInt) ∧ ((G75.1 a 3).toInt) ≤ ((G60.1 a 3).toInt) + 1 := t75
          have oq75a : ∀ y : Int, MB (G75.2.1 (F a 2)) ((G75.1 a 3).toInt) y ↔ MB (G60.2.1 (F a 2)) ((G60.1 a 3).toInt) y ∨ y = (cel (vw (G.2.1 (F p2 0))) ((G.1 p0 2).toInt) (p3.toInt) ((G.1 p0 3).toInt)) := by simp only [(t27 : Int32.toInt x27 = (cel (vw (G.2.1 (F p2 0))) ((G.1 p0 2).toInt) (p3.toInt) ((G.1 p0 3).toInt)))] at oq75a; exact oq75a
          exact x_rv hx hb hr hlk hQ (Nat.le_of_ble_eq_true rfl) (Nat.le_of_ble_eq_true rfl) hS dX1_offerValues_78 G75 ⟨(XFr.call (XFr.call XFr.rf hF60 (xm1 0 rfl xm0) (xm1 0 rfl xm0) xm0) hF75 (xm1 0 rfl xm0) (xm1 0 rfl xm0) xm0), (z_X1_offerValues_7 ((G.1 a 3).toInt) ((G60.1 a 3).toInt) ((G75.1 a 3).toInt) t60 t75), (v_X1_offerValues_78_21 a G G60 G75 so oq60 oq75), (v_X1_offerValues_78_22 a p0 p1 p2 G G60 G75 p3 x51 x66 ha hp0 hp1 hp2 so oq60 oq60a oq75 oq75a s0 c36 c44 t51 c54 t60 t66 c69 t75)⟩ hT
    · exact x_rv hx hb hr hlk hQ (Nat.le_of_ble_eq_true rfl) (Nat.le_of_ble_eq_true rfl) hS dX1_offerValues_47 G ⟨XFr.rf, (z_X1_offerValues_1 ((G.1 a 3).toInt)), (v_X1_offerValues_47_23 a G so), (v_X1_offerValues_47_24 a p0 p1 p2 G p3 ha hp0 hp1 hp2 so s0 c36 c44)⟩ hT

theorem z_X1_offerByRows_1 (a0 : Int) (a1 : Int) (h0 : 0 ≤ a1 ∧ a1 ≤ 2) (h1 : (a0 = 1 ∧ 0 ≤ a1 ∧ a1 < 3) ∨ (a0 = 0 ∧ (a1 < 0 ∨ 3 ≤ a1))) (h2 : a0 = 0) : (0 : Int) = 1 ∧ a0 = a0 := by omega
theorem z_X1_offerByRows_2 (a0 : Int) (h0 : 0 ≤ a0 ∧ a0 ≤ 2) : 0 ≤ a0 ∧ a0 < ((3 : Nat) : Int) := by omega
theorem z_X1_offerByRows_3 (a0 : Int) (h0 : a0 = 0) : 0 ≤ a0 ∧ a0 ≤ 60 := by omega
theorem z_X1_offerByRows_4 (a0 : Int) (a1 : Int) (h0 : a0 = 0) (h1 : a0 ≤ a1 ∧ a1 ≤ a0 + 30) : 0 ≤ a1 ∧ a1 ≤ 60 := by omega
theorem z_X1_offerByRows_5 (a0 : Int) (h0 : 0 ≤ a0 ∧ a0 ≤ 30) : ¬ (2147483648 - a0 < ((0 : Nat) : Int)) := by omega
theorem z_X1_offerByRows_6 (a0 : Int) (a1 : Int) (h0 : 0 ≤ a0 ∧ a0 ≤ 30) (h1 : 0 ≤ a1 ∧ a1 ≤ 2 * a0) : 0 ≤ a1 ∧ a1 ≤ 60 := by omega
theorem z_X1_offerByRows_7 (a0 : Int) (a1 : Int) (h0 : 0 ≤ a1 ∧ a1 ≤ 2 * a0) (h1 : ¬ ((30 : Int) ≤ a0)) : 0 ≤ a1 ∧ a1 ≤ 60 := by omega
theorem z_X1_offerByRows_8 (a0 : Int) (h0 : 0 ≤ a0 ∧ a0 ≤ 30) : 0 ≤ a0 ∧ a0 < 32 := by omega
theorem z_X1_offerByRows_9 (a0 : Int) (a1 : Int) (h0 : 0 ≤ a0 ∧ a0 ≤ 30) (h1 : a1 = (a0 + 1) ∨ (a0 + 1) < -2147483648 ∨ 2147483648 ≤ (a0 + 1)) : a1 = (a0 + 1) := by omega
theorem z_X1_offerByRows_10 (a0 : Int) (h0 : 0 ≤ a0 ∧ a0 ≤ 30) (h1 : ¬ ((30 : Int) ≤ a0)) : 0 ≤ (a0 + 1) ∧ (a0 + 1) ≤ 30 := by omega
theorem z_X1_offerByRows_11 (a0 : Int) (a1 : Int) (h0 : 0 ≤ a1 ∧ a1 ≤ 2 * a0) : 0 ≤ a1 ∧ a1 ≤ 2 * (a0 + 1) := by omega
theorem z_X1_offerByRows_12 (a0 : Int) (h0 : 0 ≤ a0 ∧ a0 ≤ 30) : (0 : Int) ≤ (a0 + 1) := by omega
theorem z_X1_offerByRows_13 (a0 : Int) (a1 : Nat) (h0 : 2147483648 - a0 < ((a1 + 1 : Nat) : Int)) : 2147483648 - (a0 + 1) < ((a1 : Nat) : Int) := by omega
theorem z_X1_offerByRows_14 (a0 : Int) (a1 : Int) (h0 : 0 ≤ a1 ∧ a1 ≤ 2 * a0) (h1 : ¬ ((30 : Int) ≤ a0)) : 0 ≤ a1 ∧ a1 ≤ 88 := by omega
theorem z_X1_offerByRows_17 (a0 : Int) (a1 : Int) (a2 : Int) (h0 : 0 ≤ a2 ∧ a2 ≤ 2 * a0) (h1 : a2 ≤ a1 ∧ a1 ≤ a2 + 2) : 0 ≤ a1 ∧ a1 ≤ 2 * (a0 + 1) := by omega
theorem z_X1_offerByRows_20 (a0 : Int) (h0 : a0 = 0) : 0 ≤ a0 ∧ a0 ≤ 2 * (0 : Int) := by omega
abbrev rm_X1_offerByRows : Room := { frames := 3, cells := 0, slots := 0, locals := 70 }
set_option maxHeartbeats 4000000 in
set_option maxRecDepth 100000 in
theorem c_X1_offerByRows (l : Launch) (E : XE) (K : Nat → Nat) (F : Nat → Nat → Nat) (G : XG) (a : Nat) (p0 : Nat) (p1 : Nat) (p2 : Nat) (ha : K a = 3) (hp0 : K p0 = 9) (hp1 : K p1 = 8) (hp2 : K p2 = 8) (s0 : ((G.1 a 3).toInt) = 0) (hrw : RW (G.1 p0)) : Met l yX1_offerByRows (xw yX1_offerByRows cX1_offerByRows 6 none) rm_X1_offerByRows (va_Pc [.ref a, .ref p0, .ref p1, .ref p2] (XP E K F G)) (XQv E (fun (u : XG) => XFr [(a, 3)] [F a 2] [] G u ∧ (0 ≤ ((u.1 a 3).toInt) ∧ ((u.1 a 3).toInt) ≤ 60) ∧ (SO (u.2.1 (F a 2)) ((u.1 a 3).toInt)) ∧ (∀ y : Int, MB (u.2.1 (F a 2)) ((u.1 a 3).toInt) y ↔ ((((G.1 p0 0).toInt) = 2 ∨ ((G.1 p0 0).toInt) = 5) ∧ 0 ≤ y ∧ y < 30 ∧ bI (aI (G.2.1 (F a 0)) ((G.1 p0 2).toInt)) y = 1) ∨ (¬ (((G.1 p0 0).toInt) = 2 ∨ ((G.1 p0 0).toInt) = 5) ∧ ∃ k : Int, 0 ≤ k ∧ k < 30 ∧ bI (aI (G.2.1 (F a 0)) ((G.1 p0 2).toInt)) k = 1 ∧ OV ((G.1 p0 0).toInt) (cel (vw (G.2.1 (F p1 0))) ((G.1 p0 2).toInt) k ((G.1 p0 3).toInt)) (cel (vw (G.2.1 (F p2 0))) ((G.1 p0 2).toInt) k ((G.1 p0 3).toInt)) y))) (fun u H => TW E K F u H)) 0 0 (xA E) := by
  refine x_enter (by decide) (Nat.le_of_ble_eq_true rfl) ?_
  intro p e s m args below meth c Q S hr hlk hnm hQ hP ls hl
  obtain ⟨hz, hK, hT⟩ := hP
  obtain ⟨hx, hb, -, -, -⟩ := id S
  obtain ⟨H, hT, hS, hgo⟩ : ∃ H : Heap, TW E K F G H ∧ va_S (xA E) s.heap H [] ∧ H = s.heap := ⟨_, hT, va_S.rf, rfl⟩
  rw [← hgo]
  have hl : lv_has ls 6 [(0, .ref a), (1, .ref p0), (2, .ref p1), (3, .ref p2)] := hl
  obtain ⟨hk9999, hj9999⟩ := fkX1_2 hT ha
  obtain ⟨hk9999a, hj9999a⟩ := fkX6_0 hT hp1
  obtain ⟨hk9999b, hj9999b⟩ := fkX6_0 hT hp2
  obtain ⟨hk9999c, hj9999c⟩ := fkX1_0 hT ha
  have z0 : (0 ≤ ((G.1 p0 0).toInt) ∧ ((G.1 p0 0).toInt) ≤ 5) ∧ (0 ≤ ((G.1 p0 2).toInt) ∧ ((G.1 p0 2).toInt) ≤ 2) ∧ (0 ≤ ((G.1 p0 3).toInt) ∧ ((G.1 p0 3).toInt) ≤ 2) ∧ (-1 ≤ ((G.1 p0 4).toInt) ∧ ((G.1 p0 4).toInt) ≤ 2) ∧ (((G.1 p0 0).toInt) = 1 ∨ ((G.1 p0 0).toInt) = 3 ∨ ((G.1 p0 0).toInt) = 4 → 0 ≤ ((G.1 p0 4).toInt)) := RW.f hrw
  refine lv_aload_n hx hb dX1_offerByRows_0 rfl (lv_at hl 1 rfl) ?_
  refine gX7_2 S hK hT hp0 kf_X1_73 dX1_offerByRows_1 (v := (G.1 p0 2)) rfl (?_)
  refine x_clp (x_runSN (As := [.int (G.1 p0 2)]) (rest := []) S (c_X10_isTable l E K F G H (G.1 p0 2)) ms_X10_isTable (by decide +kernel) rfl rfl ⟨Nat.le_of_ble_eq_true rfl, Nat.le_of_ble_eq_true rfl⟩ hK (fun _ => XPh.blind) (fun U hU hW => XPh.at hK hz hS hT hU hW) rfl hl.1 (Nat.le_of_ble_eq_true rfl) dX1_offerByRows_4 ⟨Nat.le_of_ble_eq_true rfl, Nat.le_of_ble_eq_true rfl⟩) hS ?_
  rintro _ _ locs ⟨x4, rfl, b4, t4⟩ hS
  have t4 : (x4.toInt = 1 ∧ 0 ≤ ((G.1 p0 2).toInt) ∧ ((G.1 p0 2).toInt) < 3) ∨ (x4.toInt = 0 ∧ (((G.1 p0 2).toInt) < 0 ∨ 3 ≤ ((G.1 p0 2).toInt))) := t4
  refine xi_zeq (tgt := 22) hx hb (rfl : Int32.toInt x4 = x4.toInt) dX1_offerByRows_7 (by decide) (fun c7 => ?_) (fun c7 => ?_)
  · exact absurd ((z_X1_offerByRows_1 x4.toInt ((G.1 p0 2).toInt) (z0).2.1 t4 c7)).1 (by decide)
  · refine lv_aload_n hx hb dX1_offerByRows_10 rfl (lv_at hl 0 rfl) ?_
    refine gX1_0 S hK hT ha kf_X1_9 dX1_offerByRows_11 (fun _ _ => ?_)
    refine lv_aload_n hx hb dX1_offerByRows_14 rfl (lv_at hl 1 rfl) ?_
    refine gX7_2 S hK hT hp0 kf_X1_73 dX1_offerByRows_15 (v := (G.1 p0 2)) rfl (?_)
    refine al_0 S hK hT hk9999c ar_21 (by decide) (z_X1_offerByRows_2 ((G.1 p0 2).toInt) (z0).2.1) dX1_offerByRows_18 (fun x18 hv18 o18 => ?_)
    have hv18 : x18.toInt = (aI (G.2.1 (F a 0)) ((G.1 p0 2).toInt)) := hv18.trans (by rw [(rfl : Int32.toInt (G.1 p0 2) = ((G.1 p0 2).toInt))])
    refine lv_goto (tgt := 23) hx hb dX1_offerByRows_19 (by decide) ?_
    refine lv_istore (lv' := [(4, .int x18), (0, .ref a), (1, .ref p0), (2, .ref p1), (3, .ref p2)]) hx hb dX1_offerByRows_23 hl (by decide) rfl (fun ls hl => ?_)
    refine lv_aload_n hx hb dX1_offerByRows_25 rfl (lv_at hl 2 rfl) ?_
    refine gX7_0 S hK hT hp0 kf_X1_76 dX1_offerByRows_26 (v := (G.1 p0 0)) rfl (?_)
    refine lv_iconst (v := 2) hx hb dX1_offerByRows_29 (by decide) ?_
    refine xi_ceq (tgt := 41) hx hb (rfl : Int32.toInt (G.1 p0 0) = ((G.1 p0 0).toInt)) ((by decide) : Int32.toInt 2 = (2 : Int)) dX1_offerByRows_30 (by decide) (fun c30 => ?_) (fun c30 => ?_)
    · refine lv_aload_n hx hb dX1_offerByRows_41 rfl (lv_at hl 1 rfl) ?_
      refine lv_iload hx hb dX1_offerByRows_42 (lv_at hl 0 rfl) ?_
      refine x_cv0 (x_runV (b := a) (As := [.int x18]) (rest := []) S (c_X1_offerKeys l E K F G a x18 ha (z_X1_offerByRows_3 ((G.1 a 3).toInt) s0) (v_X1_offerByRows_44_1 a p0 p1 p2 G x4 ha hp0 hp1 hp2 s0 z0 t4 c7 c30)) mv_X1_offerKeys km_X1_55 rfl rfl ⟨Nat.le_of_ble_eq_true rfl, Nat.le_of_ble_eq_true rfl⟩ (rc_3 hK hT ha) hK (fun _ => XP.blind) (fun U hU hW => XP.at hK hz hS hT hU hW) rfl hl.1 (Nat.le_of_ble_eq_true rfl) dX1_offerByRows_44 ⟨Nat.le_of_ble_eq_true rfl, Nat.le_of_ble_eq_true rfl⟩) hS ?_
      rintro G44 H locs ⟨hF44, t44, oq44, oq44a⟩ hT hS
      have t44 : ((G.1 a 3).toInt) ≤ ((G44.1 a 3).toInt) ∧ ((G44.1 a 3).toInt) ≤ ((G.1 a 3).toInt) + 30 := t44
      have oq44a : ∀ y : Int, MB (G44.2.1 (F a 2)) ((G44.1 a 3).toInt) y ↔ MB (G.2.1 (F a 2)) ((G.1 a 3).toInt) y ∨ (0 ≤ y ∧ y < 30 ∧ bI (aI (G.2.1 (F a 0)) ((G.1 p0 2).toInt)) y = 1) := by simp only [(hv18 : Int32.toInt x18 = (aI (G.2.1 (F a 0)) ((G.1 p0 2).toInt)))] at oq44a; exact oq44a
      exact x_rv hx hb hr hlk hQ (Nat.le_of_ble_eq_true rfl) (Nat.le_of_ble_eq_true rfl) hS dX1_offerByRows_47 G44 ⟨(XFr.call XFr.rf hF44 (xm1 0 rfl xm0) (xm1 0 rfl xm0) xm0), (z_X1_offerByRows_4 ((G.1 a 3).toInt) ((G44.1 a 3).toInt) s0 t44), (v_X1_offerByRows_47_2 a G44 oq44), (v_X1_offerByRows_47_3 a p0 p1 p2 G G44 x18 x4 ha hp0 hp1 hp2 hv18 oq44 oq44a s0 z0 t4 c7 c30 t44)⟩ hT
    · refine lv_aload_n hx hb dX1_offerByRows_33 rfl (lv_at hl 2 rfl) ?_
      refine gX7_0 S hK hT hp0 kf_X1_76 dX1_offerByRows_34 (v := (G.1 p0 0)) rfl (?_)
      refine lv_iconst (v := 5) hx hb dX1_offerByRows_37 (by decide) ?_
      refine xi_cne (tgt := 48) hx hb (rfl : Int32.toInt (G.1 p0 0) = ((G.1 p0 0).toInt)) ((by decide) : Int32.toInt 5 = (5 : Int)) dX1_offerByRows_38 (by decide) (fun c38 => ?_) (fun c38 => ?_)
      · refine lv_iconst (v := 0) hx hb dX1_offerByRows_48 (by decide) ?_
        refine lv_istore (lv' := [(5, .int 0), (4, .int x18), (0, .ref a), (1, .ref p0), (2, .ref p1), (3, .ref p2)]) hx hb dX1_offerByRows_49 hl (by decide) rfl (fun ls hl => ?_)
        have L51 : ∀ (N51 : Nat) (l5_51 : Int32) (G_51 : XG) (H : Heap) (locs : List Loc) (ls : Array Slot), XFr [(a, 3)] [F a 2] [] G G_51 → SO (G_51.2.1 (F a 2)) ((G_51.1 a 3).toInt) → (∀ y : Int, MB (G_51.2.1 (F a 2)) ((G_51.1 a 3).toInt) y ↔ ∃ k : Int, 0 ≤ k ∧ k < l5_51.toInt ∧ bI (aI (G.2.1 (F a 0)) ((G.1 p0 2).toInt)) k = 1 ∧ OV ((G.1 p0 0).toInt) (cel (vw (G.2.1 (F p1 0))) ((G.1 p0 2).toInt) k ((G.1 p0 3).toInt)) (cel (vw (G.2.1 (F p2 0))) ((G.1 p0 2).toInt) k ((G.1 p0 3).toInt)) y) → 0 ≤ l5_51.toInt ∧ l5_51.toInt ≤ 30 → 0 ≤ ((G_51.1 a 3).toInt) ∧ ((G_51.1 a 3).toInt) ≤ 2 * l5_51.toInt → (0 : Int) ≤ l5_51.toInt → 2147483648 - l5_51.toInt < ((N51 : Nat) : Int) → TW E K F G_51 H → va_S (xA E) s.heap H locs → lv_has ls 6 [(0, .ref a), (1, .ref p0), (2, .ref p1), (3, .ref p2), (4, .int x18), (5, .int l5_51)] → W p l e rm_X1_offerByRows s m args below meth c H locs 0 0 Q (F0 m 51 ls []) := by
          intro N51
          induction N51 with
          | zero =>
            intro l5_51 G_51 H locs ls hF_51 ps pm I51_0 I51_1 I51_2 hm51
            exact absurd hm51 (z_X1_offerByRows_5 l5_51.toInt I51_0)
          | succ N51 ih51 =>
            intro l5_51 G_51 H locs ls hF_51 ps pm I51_0 I51_1 I51_2 hm51 hT hS hl
            refine lv_iload hx hb dX1_offerByRows_51 (lv_at hl 5 rfl) ?_
            refine lv_bipush (v := 30) hx hb dX1_offerByRows_53 (by decide) ?_
            refine xi_cge (tgt := 91) hx hb (rfl : Int32.toInt l5_51 = l5_51.toInt) ((by decide) : Int32.toInt 30 = (30 : Int)) dX1_offerByRows_55 (by decide) (fun c55 => ?_) (fun c55 => ?_)
            · exact x_rv hx hb hr hlk hQ (Nat.le_of_ble_eq_true rfl) (Nat.le_of_ble_eq_true rfl) hS dX1_offerByRows_91 G_51 ⟨(XFr.call XFr.rf hF_51 (xm1 0 rfl xm0) (xm1 0 rfl xm0) xm0), (z_X1_offerByRows_6 l5_51.toInt ((G_51.1 a 3).toInt) I51_0 I51_1), (v_X1_offerByRows_91_4 a G_51 ps), (v_X1_offerByRows_91_5 a p0 p1 p2 G G_51 x18 l5_51 x4 N51 ha hp0 hp1 hp2 hv18 ps pm s0 z0 t4 c7 c30 c38 I51_0 I51_1 I51_2 hm51 c55)⟩ hT
            · refine lv_iload hx hb dX1_offerByRows_58 (lv_at hl 4 rfl) ?_
              refine lv_iload hx hb dX1_offerByRows_60 (lv_at hl 5 rfl) ?_
              refine lv_ishr hx hb dX1_offerByRows_62 (lv_topi (fun x62 he62 => ?_))
              refine xi_zeq (tgt := 91) hx hb (rfl : Int32.toInt x62 = x62.toInt) dX1_offerByRows_63 (by decide) (fun c63 => ?_) (fun c63 => ?_)
              · exact x_rv hx hb hr hlk hQ (Nat.le_of_ble_eq_true rfl) (Nat.le_of_ble_eq_true rfl) hS dX1_offerByRows_91 G_51 ⟨(XFr.call XFr.rf hF_51 (xm1 0 rfl xm0) (xm1 0 rfl xm0) xm0), (z_X1_offerByRows_7 l5_51.toInt ((G_51.1 a 3).toInt) I51_1 c55), (v_X1_offerByRows_91_6 a G_51 ps), (v_X1_offerByRows_91_7 a p0 p1 p2 G G_51 x18 l5_51 x62 x4 N51 ha hp0 hp1 hp2 hv18 ps pm he62 s0 z0 t4 c7 c30 c38 I51_0 I51_1 I51_2 hm51 c55 c63)⟩ hT
              · refine lv_iload hx hb dX1_offerByRows_66 (lv_at hl 4 rfl) ?_
                refine lv_iload hx hb dX1_offerByRows_68 (lv_at hl 5 rfl) ?_
                refine lv_ishr hx hb dX1_offerByRows_70 (lv_topi (fun x70 he70 => ?_))
                refine lv_iconst (v := 1) hx hb dX1_offerByRows_71 (by decide) ?_
                refine lv_iand hx hb dX1_offerByRows_72 (lv_topi (fun x72 he72 => ?_))
                have hb72 : x72.toInt = (bI (aI (G.2.1 (F a 0)) ((G.1 p0 2).toInt)) (l5_51.toInt)) := bI_and he70 he72 (hv18 : Int32.toInt x18 = (aI (G.2.1 (F a 0)) ((G.1 p0 2).toInt))) (rfl : Int32.toInt l5_51 = l5_51.toInt) (z_X1_offerByRows_8 l5_51.toInt I51_0)
                have hb72a : x72.toInt = 0 ∨ x72.toInt = 1 := by rw [hb72]; exact bI01 _ _
                refine xi_zeq (tgt := 85) hx hb (rfl : Int32.toInt x72 = x72.toInt) dX1_offerByRows_73 (by decide) (fun c73 => ?_) (fun c73 => ?_)
                · refine xi_iinc (n := 1) (lv' := fun z9 => [(5, .int z9), (0, .ref a), (1, .ref p0), (2, .ref p1), (3, .ref p2), (4, .int x18)]) (k := 5) hx hb (rfl : Int32.toInt l5_51 = l5_51.toInt) (by decide) dX1_offerByRows_85 hl rfl (by decide) (fun _ => rfl) (fun x85 ls t85 hl => ?_)
                  have e85 : x85.toInt = (l5_51.toInt + 1) := (z_X1_offerByRows_9 l5_51.toInt x85.toInt I51_0 t85)
                  have hl : lv_has ls 6 [(5, .int x85), (0, .ref a), (1, .ref p0), (2, .ref p1), (3, .ref p2), (4, .int x18)] := hl
                  refine lv_goto (tgt := 51) hx hb dX1_offerByRows_88 (by decide) ?_
                  exact ih51 x85 G_51 _ _ _ (XFr.call XFr.rf hF_51 (xm1 0 rfl xm0) (xm1 0 rfl xm0) xm0) (v_X1_offerByRows_88_8 a G_51 ps) (by rw [(e85 : Int32.toInt x85 = (l5_51.toInt + 1))] <;> exact (v_X1_offerByRows_88_9 a p0 p1 p2 G G_51 x18 l5_51 x62 x70 x72 x4 N51 ha hp0 hp1 hp2 hv18 ps pm he62 he70 he72 s0 z0 t4 c7 c30 c38 I51_0 I51_1 I51_2 hm51 c55 c63 hb72 hb72a c73)) (by rw [(e85 : Int32.toInt x85 = (l5_51.toInt + 1))] <;> exact (z_X1_offerByRows_10 l5_51.toInt I51_0 c55)) (by rw [(e85 : Int32.toInt x85 = (l5_51.toInt + 1))] <;> exact (z_X1_offerByRows_11 l5_51.toInt ((G_51.1 a 3).toInt) I51_1)) (by rw [(e85 : Int32.toInt x85 = (l5_51.toInt + 1))] <;> exact (z_X1_offerByRows_12 l5_51.toInt I51_0)) (by rw [(e85 : Int32.toInt x85 = (l5_51.toInt + 1))] <;> exact (z_X1_offerByRows_13 l5_51.toInt N51 hm51)) hT hS (lv_sub hl [1, 2, 3, 4, 5, 0] rfl)
                · refine lv_aload_n hx hb dX1_offerByRows_76 rfl (lv_at hl 0 rfl) ?_
                  refine lv_aload_n hx hb dX1_offerByRows_77 rfl (lv_at hl 1 rfl) ?_
                  refine lv_aload_n hx hb dX1_offerByRows_78 rfl (lv_at hl 2 rfl) ?_
                  refine lv_aload_n hx hb dX1_offerByRows_79 rfl (lv_at hl 3 rfl) ?_
                  refine lv_iload hx hb dX1_offerByRows_80 (lv_at hl 5 rfl) ?_
                  refine x_cv0 (x_runV (b := a) (As := [.ref p0, .ref p1, .ref p2, .int l5_51]) (rest := []) S (c_X1_offerValues l E K F G_51 a p0 p1 p2 l5_51 ha hp0 hp1 hp2 (z_X1_offerByRows_14 l5_51.toInt ((G_51.1 a 3).toInt) I51_1 c55) (v_X1_offerByRows_82_10 a G_51 ps)) mv_X1_offerValues km_X1_79 rfl rfl ⟨Nat.le_of_ble_eq_true rfl, Nat.le_of_ble_eq_true rfl⟩ (rc_3 hK hT ha) hK (fun _ => XP.blind) (fun U hU hW => XP.at hK hz hS hT hU hW) rfl hl.1 (Nat.le_of_ble_eq_true rfl) dX1_offerByRows_82 ⟨Nat.le_of_ble_eq_true rfl, Nat.le_of_ble_eq_true rfl⟩) hS ?_
                  rintro G82 H locs ⟨hF82, t82, oq82, oq82a⟩ hT hS
                  have t82 : ((G_51.1 a 3).toInt) ≤ ((G82.1 a 3).toInt) ∧ ((G82.1 a 3).toInt) ≤ ((G_51.1 a 3).toInt) + 2 := t82
                  have oq82a : ∀ y : Int, MB (G82.2.1 (F a 2)) ((G82.1 a 3).toInt) y ↔ MB (G_51.2.1 (F a 2)) ((G_51.1 a 3).toInt) y ∨ OV ((G.1 p0 0).toInt) (cel (vw (G.2.1 (F p1 0))) ((G.1 p0 2).toInt) (l5_51.toInt) ((G.1 p0 3).toInt)) (cel (vw (G.2.1 (F p2 0))) ((G.1 p0 2).toInt) (l5_51.toInt) ((G.1 p0 3).toInt)) y := by simp only [(show G_51.1 p0 0 = G.1 p0 0 from (hF_51.1 _ _ (xnj (by decide) xn0))), (show G_51.2.1 (F p1 0) = G.2.1 (F p1 0) from (hF_51.2.1 _ (xn1 (xne_k hk9999a hk9999 (by decide)) xn0))), (show G_51.1 p0 2 = G.1 p0 2 from (hF_51.1 _ _ (xnj (by decide) xn0))), (show G_51.1 p0 3 = G.1 p0 3 from (hF_51.1 _ _ (xna (xne_k hp0 ha (by decide)) xn0))), (show G_51.2.1 (F p2 0) = G.2.1 (F p2 0) from (hF_51.2.1 _ (xn1 (xne_k hk9999b hk9999 (by decide)) xn0)))] at oq82a; exact oq82a
                  refine xi_iinc (n := 1) (lv' := fun z9 => [(5, .int z9), (0, .ref a), (1, .ref p0), (2, .ref p1), (3, .ref p2), (4, .int x18)]) (k := 5) hx hb (rfl : Int32.toInt l5_51 = l5_51.toInt) (by decide) dX1_offerByRows_85 hl rfl (by decide) (fun _ => rfl) (fun x85 ls t85 hl => ?_)
                  have e85 : x85.toInt = (l5_51.toInt + 1) := (z_X1_offerByRows_9 l5_51.toInt x85.toInt I51_0 t85)
                  have hl : lv_has ls 6 [(5, .int x85), (0, .ref a), (1, .ref p0), (2, .ref p1), (3, .ref p2), (4, .int x18)] := hl
                  refine lv_goto (tgt := 51) hx hb dX1_offerByRows_88 (by decide) ?_
                  exact ih51 x85 G82 _ _ _ (XFr.call (XFr.call XFr.rf hF_51 (xm1 0 rfl xm0) (xm1 0 rfl xm0) xm0) hF82 (xm1 0 rfl xm0) (xm1 0 rfl xm0) xm0) (v_X1_offerByRows_88_11 a G_51 G82 ps oq82) (by rw [(e85 : Int32.toInt x85 = (l5_51.toInt + 1))] <;> exact (v_X1_offerByRows_88_12 a p0 p1 p2 G G_51 G82 x18 l5_51 x62 x70 x72 x4 N51 ha hp0 hp1 hp2 hv18 ps pm he62 he70 he72 oq82 oq82a s0 z0 t4 c7 c30 c38 I51_0 I51_1 I51_2 hm51 c55 c63 hb72 hb72a c73 t82)) (by rw [(e85 : Int32.toInt x85 = (l5_51.toInt + 1))] <;> exact (z_X1_offerByRows_10 l5_51.toInt I51_0 c55)) (by rw [(e85 : Int32.toInt x85 = (l5_51.toInt + 1))] <;> exact (z_X1_offerByRows_17 l5_51.toInt ((G82.1 a 3).toInt) ((G_51.1 a 3).toInt) I51_1 t82)) (by rw [(e85 : Int32.toInt x85 = (l5_51.toInt + 1))] <;> exact (z_X1_offerByRows_12 l5_51.toInt I51_0)) (by rw [(e85 : Int32.toInt x85 = (l5_51.toInt + 1))] <;> exact (z_X1_offerByRows_13 l5_51.toInt N51 hm51)) hT hS (lv_sub hl [1, 2, 3, 4, 5, 0] rfl)
        exact L51 4294967297 0 G _ _ _ XFr.rf (v_X1_offerByRows_49_13 a p0 p1 p2 G x4 ha hp0 hp1 hp2 s0 z0 t4 c7 c30 c38) (v_X1_offerByRows_49_14 a p0 p1 p2 G x4 ha hp0 hp1 hp2 s0 z0 t4 c7 c30 c38) (by decide) (z_X1_offerByRows_20 ((G.1 a 3).toInt) s0) (by decide) (by decide) hT hS (lv_sub hl [2, 3, 4, 5, 1, 0] rfl)
      · refine lv_aload_n hx hb dX1_offerByRows_41 rfl (lv_at hl 1 rfl) ?_
        refine lv_iload hx hb dX1_offerByRows_42 (lv_at hl 0 rfl) ?_
        refine x_cv0 (x_runV (b := a) (As := [.int x18]) (rest := []) S (c_X1_offerKeys l E K F G a x18 ha (z_X1_offerByRows_3 ((G.1 a 3).toInt) s0) (v_X1_offerByRows_44_15 a p0 p1 p2 G x4 ha hp0 hp1 hp2 s0 z0 t4 c7 c30 c38)) mv_X1_offerKeys km_X1_55 rfl rfl ⟨Nat.le_of_ble_eq_true rfl, Nat.le_of_ble_eq_true rfl⟩ (rc_3 hK hT ha) hK (fun _ => XP.blind) (fun U hU hW => XP.at hK hz hS hT hU hW) rfl hl.1 (Nat.le_of_ble_eq_true rfl) dX1_offerByRows_44 ⟨Nat.le_of_ble_eq_true rfl, Nat.le_of_ble_eq_true rfl⟩) hS ?_
        rintro G44 H locs ⟨hF44, t44, oq44, oq44a⟩ hT hS
        have t44 : ((G.1 a 3).toInt) ≤ ((G44.1 a 3).toInt) ∧ ((G44.1 a 3).toInt) ≤ ((G.1 a 3).toInt) + 30 := t44
        have oq44a : ∀ y : Int, MB (G44.2.1 (F a 2)) ((G44.1 a 3).toInt) y ↔ MB (G.2.1 (F a 2)) ((G.1 a 3).toInt) y ∨ (0 ≤ y ∧ y < 30 ∧ bI (aI (G.2.1 (F a 0)) ((G.1 p0 2).toInt)) y = 1) := by simp only [(hv18 : Int32.toInt x18 = (aI (G.2.1 (F a 0)) ((G.1 p0 2).toInt)))] at oq44a; exact oq44a
        exact x_rv hx hb hr hlk hQ (Nat.le_of_ble_eq_true rfl) (Nat.le_of_ble_eq_true rfl) hS dX1_offerByRows_47 G44 ⟨(XFr.call XFr.rf hF44 (xm1 0 rfl xm0) (xm1 0 rfl xm0) xm0), (z_X1_offerByRows_4 ((G.1 a 3).toInt) ((G44.1 a 3).toInt) s0 t44), (v_X1_offerByRows_47_16 a G44 oq44), (v_X1_offerByRows_47_17 a p0 p1 p2 G G44 x18 x4 ha hp0 hp1 hp2 hv18 oq44 oq44a s0 z0 t4 c7 c30 c38 t44)⟩ hT

theorem z_X1_ofAllRows_1 (a0 : Int) (h0 : 0 ≤ a0 ∧ a0 ≤ 3) : ¬ (2147483648 - a0 < ((0 : Nat) : Int)) := by omega
theorem z_X1_ofAllRows_2 (a0 : Int) (h0 : 0 ≤ a0 ∧ a0 ≤ 3) (h1 : ¬ ((3 : Int) ≤ a0)) : 0 ≤ a0 ∧ a0 < ((3 : Nat) : Int) := by omega
theorem z_X1_ofAllRows_4 (a0 : Int) (h0 : 0 ≤ a0 ∧ a0 ≤ 3) : 0 ≤ a0 := by omega
theorem z_X1_ofAllRows_8 (a0 : Int) (a1 : Int) (h0 : 0 ≤ a0 ∧ a0 ≤ 3) (h1 : a1 = (a0 + 1) ∨ (a0 + 1) < -2147483648 ∨ 2147483648 ≤ (a0 + 1)) : a1 = (a0 + 1) := by omega
theorem z_X1_ofAllRows_9 (a0 : Int) (h0 : 0 ≤ a0 ∧ a0 ≤ 3) (h1 : ¬ ((3 : Int) ≤ a0)) : 0 ≤ (a0 + 1) ∧ (a0 + 1) ≤ 3 := by omega
theorem z_X1_ofAllRows_10 (a0 : Int) (h0 : 0 ≤ a0 ∧ a0 ≤ 3) : (0 : Int) ≤ (a0 + 1) := by omega
abbrev rm_X1_ofAllRows : Room := { frames := 3, cells := 0, slots := 0, locals := 68 }
set_option maxHeartbeats 4000000 in
set_option maxRecDepth 100000 in
theorem c_X1_ofAllRows (l : Launch) (E : XE) (K : Nat → Nat) (F : Nat → Nat → Nat) (G : XG) (a : Nat) (p0 : Nat) (p1 : Nat) (ha : K a = 3) (hp0 : K p0 = 8) (hp1 : K p1 = 8) (ro1 : RO (vw (G.2.1 (F p0 0))) (aI (G.2.1 (F p0 1)))) (ro2 : RO (vw (G.2.1 (F p1 0))) (aI (G.2.1 (F p1 1)))) (j0 : F p0 99 < 12) (j1 : F p1 99 < 12) : Met l yX1_ofAllRows (xw yX1_ofAllRows cX1_ofAllRows 6 none) rm_X1_ofAllRows (va_Pc [.ref a, .ref p0, .ref p1] (XP E K F G)) (XQv E (fun (u : XG) => XFr [] [F a 0, F a 1] [] G u ∧ (CH (vw (G.2.1 (F p0 0))) (vw (G.2.1 (F p1 0))) (aI (u.2.1 (F a 1))) (aI (u.2.1 (F a 0))))) (fun u H => TW E K F u H)) 0 0 (xA E) := by
  refine x_enter (by decide) (Nat.le_of_ble_eq_true rfl) ?_
  intro p e s m args below meth c Q S hr hlk hnm hQ hP ls hl
  obtain ⟨hz, hK, hT⟩ := hP
  obtain ⟨hx, hb, -, -, -⟩ := id S
  obtain ⟨H, hT, hS, hgo⟩ : ∃ H : Heap, TW E K F G H ∧ va_S (xA E) s.heap H [] ∧ H = s.heap := ⟨_, hT, va_S.rf, rfl⟩
  rw [← hgo]
  have hl : lv_has ls 6 [(0, .ref a), (1, .ref p0), (2, .ref p1)] := hl
  obtain ⟨hk9999, hj9999⟩ := fkX1_0 hT ha
  obtain ⟨hk9999a, hj9999a⟩ := fkX1_1 hT ha
  obtain ⟨hk9999b, hj9999b⟩ := fkX6_0 hT hp0
  obtain ⟨hk9999c, hj9999c⟩ := fkX6_1 hT hp0
  obtain ⟨hk9999d, hj9999d⟩ := fkX6_0 hT hp1
  obtain ⟨hk9999e, hj9999e⟩ := fkX6_1 hT hp1
  refine lv_iconst (v := 0) hx hb dX1_ofAllRows_0 (by decide) ?_
  refine lv_istore_n (lv' := [(3, .int 0), (0, .ref a), (1, .ref p0), (2, .ref p1)]) hx hb dX1_ofAllRows_1 rfl hl (by decide) rfl (fun ls hl => ?_)
  have L2 : ∀ (N2 : Nat) (l3_2 : Int32) (G_2 : XG) (H : Heap) (locs : List Loc) (ls : Array Slot), XFr [] [F a 0, F a 1] [] G G_2 → (∀ t : Int, 0 ≤ t → t < l3_2.toInt → CHt (vw (G.2.1 (F p0 0))) (vw (G.2.1 (F p1 0))) (aI (G_2.2.1 (F a 1))) (aI (G_2.2.1 (F a 0))) t) → 0 ≤ l3_2.toInt ∧ l3_2.toInt ≤ 3 → (0 : Int) ≤ l3_2.toInt → 2147483648 - l3_2.toInt < ((N2 : Nat) : Int) → TW E K F G_2 H → va_S (xA E) s.heap H locs → lv_has ls 6 [(0, .ref a), (1, .ref p0), (2, .ref p1), (3, .int l3_2)] → W p l e rm_X1_ofAllRows s m args below meth c H locs 0 0 Q (F0 m 2 ls []) := by
    intro N2
    induction N2 with
    | zero =>
      intro l3_2 G_2 H locs ls hF_2 pc I2_0 I2_1 hm2
      exact absurd hm2 (z_X1_ofAllRows_1 l3_2.toInt I2_0)
    | succ N2 ih2 =>
      intro l3_2 G_2 H locs ls hF_2 pc I2_0 I2_1 hm2 hT hS hl
      refine lv_iload_n hx hb dX1_ofAllRows_2 rfl (lv_at hl 3 rfl) ?_
      refine lv_iconst (v := 3) hx hb dX1_ofAllRows_3 (by decide) ?_
      refine xi_cge (tgt := 105) hx hb (rfl : Int32.toInt l3_2 = l3_2.toInt) ((by decide) : Int32.toInt 3 = (3 : Int)) dX1_ofAllRows_4 (by decide) (fun c4 => ?_) (fun c4 => ?_)
      · exact x_rv hx hb hr hlk hQ (Nat.le_of_ble_eq_true rfl) (Nat.le_of_ble_eq_true rfl) hS dX1_ofAllRows_105 G_2 ⟨(XFr.call XFr.rf hF_2 xm0 (xm1 0 rfl (xm1 1 rfl xm0)) xm0), (v_X1_ofAllRows_105_1 a p0 p1 G G_2 l3_2 N2 ha hp0 hp1 j0 j1 pc I2_0 I2_1 hm2 c4)⟩ hT
      · refine lv_aload_n hx hb dX1_ofAllRows_7 rfl (lv_at hl 0 rfl) ?_
        refine gX1_1 S hK hT ha kf_X1_15 dX1_ofAllRows_8 (fun _ _ => ?_)
        refine lv_iload_n hx hb dX1_ofAllRows_11 rfl (lv_at hl 3 rfl) ?_
        refine lv_aload_n hx hb dX1_ofAllRows_12 rfl (lv_at hl 1 rfl) ?_
        refine lv_iload_n hx hb dX1_ofAllRows_13 rfl (lv_at hl 3 rfl) ?_
        refine x_clp (x_runV (b := p0) (As := [.int l3_2]) (rest := [.int l3_2, .ref (F a 1)]) S (c_X6_keyBits l E K F G_2 H p0 l3_2 hp0) mv_X6_keyBits km_X1_21 rfl rfl ⟨Nat.le_of_ble_eq_true rfl, Nat.le_of_ble_eq_true rfl⟩ (rc_8 hK hT hp0) hK (fun _ => XPh.blind) (fun U hU hW => XPh.at hK hz hS hT hU hW) rfl hl.1 (Nat.le_of_ble_eq_true rfl) dX1_ofAllRows_14 ⟨Nat.le_of_ble_eq_true rfl, Nat.le_of_ble_eq_true rfl⟩) hS ?_
        rintro _ _ locs ⟨x14, rfl, t14⟩ hS
        have t14 : (0 ≤ l3_2.toInt ∧ l3_2.toInt < 3 ∧ x14.toInt = (aI (G.2.1 (F p0 1)) (l3_2.toInt))) ∨ ((l3_2.toInt < 0 ∨ 3 ≤ l3_2.toInt) ∧ x14.toInt = 0) := by rw [(show G_2.2.1 (F p0 1) = G.2.1 (F p0 1) from (hF_2.2.1 _ (xn1 (xne_j hj9999c hj9999 (by first | decide | omega)) (xn1 (xne_j hj9999c hj9999a (by first | decide | omega)) xn0))))] at t14; exact t14
        refine lv_aload_n hx hb dX1_ofAllRows_17 rfl (lv_at hl 2 rfl) ?_
        refine lv_iload_n hx hb dX1_ofAllRows_18 rfl (lv_at hl 3 rfl) ?_
        refine x_clp (x_runV (b := p1) (As := [.int l3_2]) (rest := [.int x14, .int l3_2, .ref (F a 1)]) S (c_X6_keyBits l E K F G_2 H p1 l3_2 hp1) mv_X6_keyBits km_X1_21 rfl rfl ⟨Nat.le_of_ble_eq_true rfl, Nat.le_of_ble_eq_true rfl⟩ (rc_8 hK hT hp1) hK (fun _ => XPh.blind) (fun U hU hW => XPh.at hK hz hS hT hU hW) rfl hl.1 (Nat.le_of_ble_eq_true rfl) dX1_ofAllRows_19 ⟨Nat.le_of_ble_eq_true rfl, Nat.le_of_ble_eq_true rfl⟩) hS ?_
        rintro _ _ locs ⟨x19, rfl, t19⟩ hS
        have t19 : (0 ≤ l3_2.toInt ∧ l3_2.toInt < 3 ∧ x19.toInt = (aI (G.2.1 (F p1 1)) (l3_2.toInt))) ∨ ((l3_2.toInt < 0 ∨ 3 ≤ l3_2.toInt) ∧ x19.toInt = 0) := by rw [(show G_2.2.1 (F p1 1) = G.2.1 (F p1 1) from (hF_2.2.1 _ (xn1 (xne_j hj9999e hj9999 (by first | decide | omega)) (xn1 (xne_j hj9999e hj9999a (by first | decide | omega)) xn0))))] at t19; exact t19
        refine lv_ixor hx hb dX1_ofAllRows_22 (lv_topi (fun x22 he22 => ?_))
        refine as_0 (x := x22) S hK hT hS hk9999a ar_21 aw_21 (by decide) (z_X1_ofAllRows_2 l3_2.toInt I2_0 c4) dX1_ofAllRows_23 (fun H locs hT hS => ?_)
        obtain ⟨G23, hG23⟩ : ∃ G9 : XG, G9 = cput G_2 (F a 1) l3_2.toNatClampNeg x22 := ⟨_, rfl⟩
        rw [← hG23] at hT
        refine lv_aload_n hx hb dX1_ofAllRows_24 rfl (lv_at hl 0 rfl) ?_
        refine gX1_0 S hK hT ha kf_X1_9 dX1_ofAllRows_25 (fun _ _ => ?_)
        refine lv_iload_n hx hb dX1_ofAllRows_28 rfl (lv_at hl 3 rfl) ?_
        refine lv_aload_n hx hb dX1_ofAllRows_29 rfl (lv_at hl 0 rfl) ?_
        refine gX1_1 S hK hT ha kf_X1_15 dX1_ofAllRows_30 (fun _ _ => ?_)
        refine lv_iload_n hx hb dX1_ofAllRows_33 rfl (lv_at hl 3 rfl) ?_
        refine al_0 S hK hT hk9999a ar_21 (by decide) (z_X1_ofAllRows_2 l3_2.toInt I2_0 c4) dX1_ofAllRows_34 (fun x34 hv34 o34 => ?_)
        have hv34 : x34.toInt = (aI (G23.2.1 (F a 1)) (l3_2.toInt)) := hv34.trans (by rw [(rfl : Int32.toInt l3_2 = l3_2.toInt)])
        have hc34 : (l3_2.toInt = l3_2.toInt → (aI (G23.2.1 (F a 1)) (l3_2.toInt)) = x22.toInt) ∧ (l3_2.toInt ≠ l3_2.toInt → (aI (G23.2.1 (F a 1)) (l3_2.toInt)) = (aI (G_2.2.1 (F a 1)) (l3_2.toInt))) := xlk hG23 rfl (rfl : Int32.toInt l3_2 = l3_2.toInt) (rfl : Int32.toInt x22 = x22.toInt) (z_X1_ofAllRows_4 l3_2.toInt I2_0) (z_X1_ofAllRows_4 l3_2.toInt I2_0)
        refine as_0 (x := x34) S hK hT hS hk9999 ar_21 aw_21 (by decide) (z_X1_ofAllRows_2 l3_2.toInt I2_0 c4) dX1_ofAllRows_35 (fun H locs hT hS => ?_)
        obtain ⟨G35, hG35⟩ : ∃ G9 : XG, G9 = cput G23 (F a 0) l3_2.toNatClampNeg x34 := ⟨_, rfl⟩
        rw [← hG35] at hT
        refine lv_aload_n hx hb dX1_ofAllRows_36 rfl (lv_at hl 1 rfl) ?_
        refine lv_iload_n hx hb dX1_ofAllRows_37 rfl (lv_at hl 3 rfl) ?_
        refine x_clp (x_runV (b := p0) (As := [.int l3_2]) (rest := []) S (c_X6_keyBits l E K F G35 H p0 l3_2 hp0) mv_X6_keyBits km_X1_21 rfl rfl ⟨Nat.le_of_ble_eq_true rfl, Nat.le_of_ble_eq_true rfl⟩ (rc_8 hK hT hp0) hK (fun _ => XPh.blind) (fun U hU hW => XPh.at hK hz hS hT hU hW) rfl hl.1 (Nat.le_of_ble_eq_true rfl) dX1_ofAllRows_38 ⟨Nat.le_of_ble_eq_true rfl, Nat.le_of_ble_eq_true rfl⟩) hS ?_
        rintro _ _ locs ⟨x38, rfl, t38⟩ hS
        have t38 : (0 ≤ l3_2.toInt ∧ l3_2.toInt < 3 ∧ x38.toInt = (aI (G.2.1 (F p0 1)) (l3_2.toInt))) ∨ ((l3_2.toInt < 0 ∨ 3 ≤ l3_2.toInt) ∧ x38.toInt = 0) := by rw [(show G35.2.1 (F p0 1) = G.2.1 (F p0 1) from ((lc_c hG35 (xne_j hj9999c hj9999 (by first | decide | omega))).trans ((lc_c hG23 (xne_j hj9999c hj9999a (by first | decide | omega))).trans (hF_2.2.1 _ (xn1 (xne_j hj9999c hj9999 (by first | decide | omega)) (xn1 (xne_j hj9999c hj9999a (by first | decide | omega)) xn0))))))] at t38; exact t38
        refine lv_aload_n hx hb dX1_ofAllRows_41 rfl (lv_at hl 2 rfl) ?_
        refine lv_iload_n hx hb dX1_ofAllRows_42 rfl (lv_at hl 3 rfl) ?_
        refine x_clp (x_runV (b := p1) (As := [.int l3_2]) (rest := [.int x38]) S (c_X6_keyBits l E K F G35 H p1 l3_2 hp1) mv_X6_keyBits km_X1_21 rfl rfl ⟨Nat.le_of_ble_eq_true rfl, Nat.le_of_ble_eq_true rfl⟩ (rc_8 hK hT hp1) hK (fun _ => XPh.blind) (fun U hU hW => XPh.at hK hz hS hT hU hW) rfl hl.1 (Nat.le_of_ble_eq_true rfl) dX1_ofAllRows_43 ⟨Nat.le_of_ble_eq_true rfl, Nat.le_of_ble_eq_true rfl⟩) hS ?_
        rintro _ _ locs ⟨x43, rfl, t43⟩ hS
        have t43 : (0 ≤ l3_2.toInt ∧ l3_2.toInt < 3 ∧ x43.toInt = (aI (G.2.1 (F p1 1)) (l3_2.toInt))) ∨ ((l3_2.toInt < 0 ∨ 3 ≤ l3_2.toInt) ∧ x43.toInt = 0) := by rw [(show G35.2.1 (F p1 1) = G.2.1 (F p1 1) from ((lc_c hG35 (xne_j hj9999e hj9999 (by first | decide | omega))).trans ((lc_c hG23 (xne_j hj9999e hj9999a (by first | decide | omega))).trans (hF_2.2.1 _ (xn1 (xne_j hj9999e hj9999 (by first | decide | omega)) (xn1 (xne_j hj9999e hj9999a (by first | decide | omega)) xn0))))))] at t43; exact t43
        refine lv_iand hx hb dX1_ofAllRows_46 (lv_topi (fun x46 he46 => ?_))
        refine lv_istore (lv' := [(4, .int x46), (0, .ref a), (1, .ref p0), (2, .ref p1), (3, .int l3_2)]) hx hb dX1_ofAllRows_47 hl (by decide) rfl (fun ls hl => ?_)
        refine lv_iconst (v := 0) hx hb dX1_ofAllRows_49 (by decide) ?_
        refine lv_istore (lv' := [(5, .int 0), (4, .int x46), (0, .ref a), (1, .ref p0), (2, .ref p1), (3, .int l3_2)]) hx hb dX1_ofAllRows_50 hl (by decide) rfl (fun ls hl => ?_)
        have L52 : ∀ (N52 : Nat) (l5_52 : Int32) (G_52 : XG) (H : Heap) (locs : List Loc) (ls : Array Slot), XFr [] [F a 0] [] G35 G_52 → CHk (vw (G.2.1 (F p0 0))) (vw (G.2.1 (F p1 0))) (aI (G_52.2.1 (F a 0)) l3_2.toInt) l3_2.toInt l5_52.toInt → (∀ t : Int, 0 ≤ t → t ≠ l3_2.toInt → aI (G_52.2.1 (F a 0)) t = aI (G35.2.1 (F a 0)) t) → 0 ≤ l5_52.toInt ∧ l5_52.toInt ≤ 30 → (0 : Int) ≤ l5_52.toInt → 2147483648 - l5_52.toInt < ((N52 : Nat) : Int) → TW E K F G_52 H → va_S (xA E) s.heap H locs → lv_has ls 6 [(0, .ref a), (1, .ref p0), (2, .ref p1), (3, .int l3_2), (4, .int x46), (5, .int l5_52)] → W p l e rm_X1_ofAllRows s m args below meth c H locs 0 0 Q (F0 m 52 ls []) := by
          intro N52
          induction N52 with
          | zero =>
            intro l5_52 G_52 H locs ls hF_52 pd po I52_0 I52_1 hm52
            exact absurd hm52 (z_X1_offerByRows_5 l5_52.toInt I52_0)
          | succ N52 ih52 =>
            intro l5_52 G_52 H locs ls hF_52 pd po I52_0 I52_1 hm52 hT hS hl
            refine lv_iload hx hb dX1_ofAllRows_52 (lv_at hl 5 rfl) ?_
            refine lv_bipush (v := 30) hx hb dX1_ofAllRows_54 (by decide) ?_
            refine xi_cge (tgt := 99) hx hb (rfl : Int32.toInt l5_52 = l5_52.toInt) ((by decide) : Int32.toInt 30 = (30 : Int)) dX1_ofAllRows_56 (by decide) (fun c56 => ?_) (fun c56 => ?_)
            · refine xi_iinc (n := 1) (lv' := fun z9 => [(3, .int z9), (0, .ref a), (1, .ref p0), (2, .ref p1), (4, .int x46), (5, .int l5_52)]) (k := 3) hx hb (rfl : Int32.toInt l3_2 = l3_2.toInt) (by decide) dX1_ofAllRows_99 hl rfl (by decide) (fun _ => rfl) (fun x99 ls t99 hl => ?_)
              have e99 : x99.toInt = (l3_2.toInt + 1) := (z_X1_ofAllRows_8 l3_2.toInt x99.toInt I2_0 t99)
              have hl : lv_has ls 6 [(3, .int x99), (0, .ref a), (1, .ref p0), (2, .ref p1), (4, .int x46), (5, .int l5_52)] := hl
              refine lv_goto (tgt := 2) hx hb dX1_ofAllRows_102 (by decide) ?_
              exact ih2 x99 G_52 _ _ _ (XFr.call (by rw [hG35]; exact XFr.cput (by rw [hG23]; exact XFr.cput (XFr.call XFr.rf hF_2 xm0 (xm1 0 rfl (xm1 1 rfl xm0)) xm0) (List.mem_of_getElem? (i := 1) rfl)) (List.mem_of_getElem? (i := 0) rfl)) hF_52 xm0 (xm1 0 rfl xm0) xm0) (by rw [(e99 : Int32.toInt x99 = (l3_2.toInt + 1))] <;> exact (v_X1_ofAllRows_102_2 a p0 p1 G G_2 G23 l3_2 x22 G35 x34 G_52 x14 x19 x46 x38 x43 l5_52 N2 N52 ha hp0 hp1 hG23 hG35 ro1 ro2 j0 j1 pc he22 hv34 he46 pd po I2_0 I2_1 hm2 c4 t14 t19 hc34 t38 t43 I52_0 I52_1 hm52 c56 (lc_c hG23 (xne_j hj9999 hj9999a (by first | decide | omega))) ((hF_52.2.1 _ (xn1 (xne_j hj9999a hj9999 (by first | decide | omega)) xn0)).trans (lc_c hG35 (xne_j hj9999a hj9999 (by first | decide | omega)))))) (by rw [(e99 : Int32.toInt x99 = (l3_2.toInt + 1))] <;> exact (z_X1_ofAllRows_9 l3_2.toInt I2_0 c4)) (by rw [(e99 : Int32.toInt x99 = (l3_2.toInt + 1))] <;> exact (z_X1_ofAllRows_10 l3_2.toInt I2_0)) (by rw [(e99 : Int32.toInt x99 = (l3_2.toInt + 1))] <;> exact (z_X1_offerByRows_13 l3_2.toInt N2 hm2)) hT hS (lv_sub hl [1, 2, 3, 0] rfl)
            · refine lv_iload hx hb dX1_ofAllRows_59 (lv_at hl 4 rfl) ?_
              refine lv_iload hx hb dX1_ofAllRows_61 (lv_at hl 5 rfl) ?_
              refine lv_ishr hx hb dX1_ofAllRows_63 (lv_topi (fun x63 he63 => ?_))
              refine lv_iconst (v := 1) hx hb dX1_ofAllRows_64 (by decide) ?_
              refine lv_iand hx hb dX1_ofAllRows_65 (lv_topi (fun x65 he65 => ?_))
              have hb65 : x65.toInt = (bI (x46.toInt) (l5_52.toInt)) := bI_and he63 he65 (rfl : Int32.toInt x46 = x46.toInt) (rfl : Int32.toInt l5_52 = l5_52.toInt) (z_X1_offerByRows_8 l5_52.toInt I52_0)
              have hb65a : x65.toInt = 0 ∨ x65.toInt = 1 := by rw [hb65]; exact bI01 _ _
              refine xi_zeq (tgt := 93) hx hb (rfl : Int32.toInt x65 = x65.toInt) dX1_ofAllRows_66 (by decide) (fun c66 => ?_) (fun c66 => ?_)
              · refine xi_iinc (n := 1) (lv' := fun z9 => [(5, .int z9), (0, .ref a), (1, .ref p0), (2, .ref p1), (3, .int l3_2), (4, .int x46)]) (k := 5) hx hb (rfl : Int32.toInt l5_52 = l5_52.toInt) (by decide) dX1_ofAllRows_93 hl rfl (by decide) (fun _ => rfl) (fun x93 ls t93 hl => ?_)
                have e93 : x93.toInt = (l5_52.toInt + 1) := (z_X1_offerByRows_9 l5_52.toInt x93.toInt I52_0 t93)
                have hl : lv_has ls 6 [(5, .int x93), (0, .ref a), (1, .ref p0), (2, .ref p1), (3, .int l3_2), (4, .int x46)] := hl
                refine lv_goto (tgt := 52) hx hb dX1_ofAllRows_96 (by decide) ?_
                exact ih52 x93 G_52 _ _ _ (XFr.call XFr.rf hF_52 xm0 (xm1 0 rfl xm0) xm0) (by rw [(e93 : Int32.toInt x93 = (l5_52.toInt + 1))] <;> exact (v_X1_ofAllRows_96_3 a p0 p1 G G_2 G23 l3_2 x22 G_52 x14 x19 x46 x38 x43 l5_52 x63 x65 N2 N52 ha hp0 hp1 ro1 ro2 j0 j1 he22 he46 pd he63 he65 I2_0 I2_1 hm2 c4 t14 t19 hc34 t38 t43 I52_0 I52_1 hm52 c56 hb65 hb65a c66)) (v_X1_ofAllRows_96_4 a p0 p1 G G_2 G23 l3_2 x22 G35 G_52 x14 x19 x46 x38 x43 l5_52 x63 x65 N2 N52 ha hp0 hp1 j0 j1 he22 he46 pd po he63 he65 I2_0 I2_1 hm2 c4 t14 t19 hc34 t38 t43 I52_0 I52_1 hm52 c56 hb65 hb65a c66) (by rw [(e93 : Int32.toInt x93 = (l5_52.toInt + 1))] <;> exact (z_X1_offerByRows_10 l5_52.toInt I52_0 c56)) (by rw [(e93 : Int32.toInt x93 = (l5_52.toInt + 1))] <;> exact (z_X1_offerByRows_12 l5_52.toInt I52_0)) (by rw [(e93 : Int32.toInt x93 = (l5_52.toInt + 1))] <;> exact (z_X1_offerByRows_13 l5_52.toInt N52 hm52)) hT hS (lv_sub hl [1, 2, 3, 4, 5, 0] rfl)
              · refine lv_aload_n hx hb dX1_ofAllRows_69 rfl (lv_at hl 1 rfl) ?_
                refine lv_aload_n hx hb dX1_ofAllRows_70 rfl (lv_at hl 2 rfl) ?_
                refine lv_iload_n hx hb dX1_ofAllRows_71 rfl (lv_at hl 3 rfl) ?_
                refine lv_iload hx hb dX1_ofAllRows_72 (lv_at hl 5 rfl) ?_
                refine x_clp (x_runS (As := [.ref p0, .ref p1, .int l3_2, .int l5_52]) (rest := []) S (c_X1_valuesDiffer l E K F G_52 H p0 p1 l3_2 l5_52 hp0 hp1) ms_X1_valuesDiffer km_X1_27 rfl rfl ⟨Nat.le_of_ble_eq_true rfl, Nat.le_of_ble_eq_true rfl⟩ hK (fun _ => XPh.blind) (fun U hU hW => XPh.at hK hz hS hT hU hW) rfl hl.1 (Nat.le_of_ble_eq_true rfl) dX1_ofAllRows_74 ⟨Nat.le_of_ble_eq_true rfl, Nat.le_of_ble_eq_true rfl⟩) hS ?_
                rintro _ _ locs ⟨x74, rfl, b74, t74⟩ hS
                have t74 : (((cel (vw (G.2.1 (F p0 0))) (l3_2.toInt) (l5_52.toInt) 0) ≠ (cel (vw (G.2.1 (F p1 0))) (l3_2.toInt) (l5_52.toInt) 0) ∨ (cel (vw (G.2.1 (F p0 0))) (l3_2.toInt) (l5_52.toInt) 1) ≠ (cel (vw (G.2.1 (F p1 0))) (l3_2.toInt) (l5_52.toInt) 1) ∨ (cel (vw (G.2.1 (F p0 0))) (l3_2.toInt) (l5_52.toInt) 2) ≠ (cel (vw (G.2.1 (F p1 0))) (l3_2.toInt) (l5_52.toInt) 2)) ∧ x74.toInt = 1) ∨ (¬ ((cel (vw (G.2.1 (F p0 0))) (l3_2.toInt) (l5_52.toInt) 0) ≠ (cel (vw (G.2.1 (F p1 0))) (l3_2.toInt) (l5_52.toInt) 0) ∨ (cel (vw (G.2.1 (F p0 0))) (l3_2.toInt) (l5_52.toInt) 1) ≠ (cel (vw (G.2.1 (F p1 0))) (l3_2.toInt) (l5_52.toInt) 1) ∨ (cel (vw (G.2.1 (F p0 0))) (l3_2.toInt) (l5_52.toInt) 2) ≠ (cel (vw (G.2.1 (F p1 0))) (l3_2.toInt) (l5_52.toInt) 2)) ∧ x74.toInt = 0) := by rw [(show G_52.2.1 (F p0 0) = G.2.1 (F p0 0) from ((hF_52.2.1 _ (xn1 (xne_k hk9999b hk9999 (by decide)) xn0)).trans ((lc_c hG35 (xne_k hk9999b hk9999 (by decide))).trans ((lc_c hG23 (xne_k hk9999b hk9999a (by decide))).trans (hF_2.2.1 _ (xn1 (xne_k hk9999b hk9999 (by decide)) (xn1 (xne_k hk9999b hk9999a (by decide)) xn0)))))))] at t74; rw [(show G_52.2.1 (F p1 0) = G.2.1 (F p1 0) from ((hF_52.2.1 _ (xn1 (xne_k hk9999d hk9999 (by decide)) xn0)).trans ((lc_c hG35 (xne_k hk9999d hk9999 (by decide))).trans ((lc_c hG23 (xne_k hk9999d hk9999a (by decide))).trans (hF_2.2.1 _ (xn1 (xne_k hk9999d hk9999 (by decide)) (xn1 (xne_k hk9999d hk9999a (by decide)) xn0)))))))] at t74; exact t74
                refine xi_zeq (tgt := 93) hx hb (rfl : Int32.toInt x74 = x74.toInt) dX1_ofAllRows_77 (by decide) (fun c77 => ?_) (fun c77 => ?_)
                · refine xi_iinc (n := 1) (lv' := fun z9 => [(5, .int z9), (0, .ref a), (1, .ref p0), (2, .ref p1), (3, .int l3_2), (4, .int x46)]) (k := 5) hx hb (rfl : Int32.toInt l5_52 = l5_52.toInt) (by decide) dX1_ofAllRows_93 hl rfl (by decide) (fun _ => rfl) (fun x93 ls t93 hl => ?_)
                  have e93 : x93.toInt = (l5_52.toInt + 1) := (z_X1_offerByRows_9 l5_52.toInt x93.toInt I52_0 t93)
                  have hl : lv_has ls 6 [(5, .int x93), (0, .ref a), (1, .ref p0), (2, .ref p1), (3, .int l3_2), (4, .int x46)] := hl
                  refine lv_goto (tgt := 52) hx hb dX1_ofAllRows_96 (by decide) ?_
                  exact ih52 x93 G_52 _ _ _ (XFr.call XFr.rf hF_52 xm0 (xm1 0 rfl xm0) xm0) (by rw [(e93 : Int32.toInt x93 = (l5_52.toInt + 1))] <;> exact (v_X1_ofAllRows_96_5 a p0 p1 G G_2 G23 l3_2 x22 G_52 x14 x19 x46 x38 x43 l5_52 x63 x65 N2 N52 x74 ha hp0 hp1 ro1 ro2 j0 j1 he22 he46 pd he63 he65 I2_0 I2_1 hm2 c4 t14 t19 hc34 t38 t43 I52_0 I52_1 hm52 c56 hb65 hb65a c66 t74 c77)) (v_X1_ofAllRows_96_6 a p0 p1 G G_2 G23 l3_2 x22 G35 G_52 x14 x19 x46 x38 x43 l5_52 x63 x65 N2 N52 x74 ha hp0 hp1 j0 j1 he22 he46 pd po he63 he65 I2_0 I2_1 hm2 c4 t14 t19 hc34 t38 t43 I52_0 I52_1 hm52 c56 hb65 hb65a c66 t74 c77) (by rw [(e93 : Int32.toInt x93 = (l5_52.toInt + 1))] <;> exact (z_X1_offerByRows_10 l5_52.toInt I52_0 c56)) (by rw [(e93 : Int32.toInt x93 = (l5_52.toInt + 1))] <;> exact (z_X1_offerByRows_12 l5_52.toInt I52_0)) (by rw [(e93 : Int32.toInt x93 = (l5_52.toInt + 1))] <;> exact (z_X1_offerByRows_13 l5_52.toInt N52 hm52)) hT hS (lv_sub hl [1, 2, 3, 4, 5, 0] rfl)
                · refine lv_aload_n hx hb dX1_ofAllRows_80 rfl (lv_at hl 0 rfl) ?_
                  refine gX1_0 S hK hT ha kf_X1_9 dX1_ofAllRows_81 (fun _ _ => ?_)
                  refine lv_iload_n hx hb dX1_ofAllRows_84 rfl (lv_at hl 3 rfl) ?_
                  refine lv_dup2_11 hx hb dX1_ofAllRows_85 rfl rfl ?_
                  refine al_0 S hK hT hk9999 ar_21 (by decide) (z_X1_ofAllRows_2 l3_2.toInt I2_0 c4) dX1_ofAllRows_86 (fun x86 hv86 o86 => ?_)
                  have hv86 : x86.toInt = (aI (G_52.2.1 (F a 0)) (l3_2.toInt)) := hv86.trans (by rw [(rfl : Int32.toInt l3_2 = l3_2.toInt)])
                  refine lv_iconst (v := 1) hx hb dX1_ofAllRows_87 (by decide) ?_
                  refine lv_iload hx hb dX1_ofAllRows_88 (lv_at hl 5 rfl) ?_
                  refine lv_ishl hx hb dX1_ofAllRows_90 (lv_topi (fun x90 he90 => ?_))
                  refine lv_ior hx hb dX1_ofAllRows_91 (lv_topi (fun x91 he91 => ?_))
                  refine as_0 (x := x91) S hK hT hS hk9999 ar_21 aw_21 (by decide) (z_X1_ofAllRows_2 l3_2.toInt I2_0 c4) dX1_ofAllRows_92 (fun H locs hT hS => ?_)
                  obtain ⟨G92, hG92⟩ : ∃ G9 : XG, G9 = cput G_52 (F a 0) l3_2.toNatClampNeg x91 := ⟨_, rfl⟩
                  rw [← hG92] at hT
                  refine xi_iinc (n := 1) (lv' := fun z9 => [(5, .int z9), (0, .ref a), (1, .ref p0), (2, .ref p1), (3, .int l3_2), (4, .int x46)]) (k := 5) hx hb (rfl : Int32.toInt l5_52 = l5_52.toInt) (by decide) dX1_ofAllRows_93 hl rfl (by decide) (fun _ => rfl) (fun x93 ls t93 hl => ?_)
                  have e93 : x93.toInt = (l5_52.toInt + 1) := (z_X1_offerByRows_9 l5_52.toInt x93.toInt I52_0 t93)
                  have hl : lv_has ls 6 [(5, .int x93), (0, .ref a), (1, .ref p0), (2, .ref p1), (3, .int l3_2), (4, .int x46)] := hl
                  refine lv_goto (tgt := 52) hx hb dX1_ofAllRows_96 (by decide) ?_
                  exact ih52 x93 G92 _ _ _ (by rw [hG92]; exact XFr.cput (XFr.call XFr.rf hF_52 xm0 (xm1 0 rfl xm0) xm0) (List.mem_of_getElem? (i := 0) rfl)) (by rw [(e93 : Int32.toInt x93 = (l5_52.toInt + 1))] <;> exact (v_X1_ofAllRows_96_7 a p0 p1 G G_2 G23 l3_2 x22 G_52 G92 x91 x14 x19 x46 x38 x43 l5_52 x63 x65 x86 x90 N2 N52 x74 ha hp0 hp1 hG92 ro1 ro2 j0 j1 he22 he46 pd he63 he65 hv86 he90 he91 I2_0 I2_1 hm2 c4 t14 t19 hc34 t38 t43 I52_0 I52_1 hm52 c56 hb65 hb65a c66 t74 c77)) (v_X1_ofAllRows_96_8 a p0 p1 G G_2 G23 l3_2 x22 G35 G_52 G92 x91 x14 x19 x46 x38 x43 l5_52 x63 x65 x86 x90 N2 N52 x74 ha hp0 hp1 hG92 j0 j1 he22 he46 pd po he63 he65 hv86 he90 he91 I2_0 I2_1 hm2 c4 t14 t19 hc34 t38 t43 I52_0 I52_1 hm52 c56 hb65 hb65a c66 t74 c77) (by rw [(e93 : Int32.toInt x93 = (l5_52.toInt + 1))] <;> exact (z_X1_offerByRows_10 l5_52.toInt I52_0 c56)) (by rw [(e93 : Int32.toInt x93 = (l5_52.toInt + 1))] <;> exact (z_X1_offerByRows_12 l5_52.toInt I52_0)) (by rw [(e93 : Int32.toInt x93 = (l5_52.toInt + 1))] <;> exact (z_X1_offerByRows_13 l5_52.toInt N52 hm52)) hT hS (lv_sub hl [1, 2, 3, 4, 5, 0] rfl)
        exact L52 4294967297 0 G35 _ _ _ XFr.rf (v_X1_ofAllRows_50_9 a p0 p1 G G_2 G23 l3_2 x22 G35 x34 x14 x19 x46 x38 x43 N2 ha hp0 hp1 hG35 ro1 ro2 j0 j1 he22 hv34 he46 I2_0 I2_1 hm2 c4 t14 t19 hc34 t38 t43) (v_X1_ofAllRows_50_10 a l3_2 G35) (by decide) (by decide) (by decide) hT hS (lv_sub hl [2, 3, 4, 5, 1, 0] rfl)
  exact L2 4294967297 0 G _ _ _ XFr.rf (v_X1_ofAllRows_1_11 a p0 p1 G ha hp0 hp1 j0 j1) (by decide) (by decide) (by decide) hT hS (lv_sub hl [1, 2, 3, 0] rfl)
theorem v_X1_addQuestions_9_1 {K : Nat → Nat} {F : Nat → Nat → Nat} (a : Nat) (p0 : Nat) (p1 : Nat) (p2 : Nat) (p3 : Nat) (G2 : XG) (G : XG)
    (ha : K a = 3)
    (hp0 : K p0 = 9)
    (hp1 : K p1 = 8)
    (hp2 : K p2 = 8)
    (hp3 : K p3 = 6)
    (hk9999 : K (F a 2) = 24)
    (hj9999 : F (F a 2) 99 = 4)
    (hk9999a : K (F p3 0) = 22)
    (hj9999a : F (F p3 0) 99 = 10 * F p3 99 + 0)
    (hk9999b : K (F p3 1) = 22)
    (hj9999b : F (F p3 1) 99 = 10 * F p3 99 + 1)
    (hk9999c : K (F p3 2) = 22)
    (hj9999c : F (F p3 2) 99 = 10 * F p3 99 + 2)
    (hk9999d : K (F p3 3) = 22)
    (hj9999d : F (F p3 3) 99 = 10 * F p3 99 + 3)
    (hk9999e : K (F p3 4) = 23)
    (hj9999e : F (F p3 4) 99 = 10 * F p3 99 + 4)
    (hk9999f : K (F p3 5) = 23)
    (hj9999f : F (F p3 5) 99 = 10 * F p3 99 + 5)
    (hk9999g : K (F p1 0) = 20)
    (hj9999g : F (F p1 0) 99 = F p1 99)
    (hk9999h : K (F p1 1) = 21)
    (hj9999h : F (F p1 1) 99 = F p1 99)
    (hk9999i : K (F p2 0) = 20)
    (hj9999i : F (F p2 0) 99 = F p2 99)
    (hk9999j : K (F p2 1) = 21)
    (hj9999j : F (F p2 1) 99 = F p2 99)
    (hk9999k : K (F a 1) = 21)
    (hj9999k : F (F a 1) 99 = 101)
    (hk9999l : K (F a 0) = 21)
    (hj9999l : F (F a 0) 99 = 100)
    (hG2 : G2 = dput G a 3 0)
    (ro1 : RO (vw (G.2.1 (F p1 0))) (aI (G.2.1 (F p1 1))))
    (ro2 : RO (vw (G.2.1 (F p2 0))) (aI (G.2.1 (F p2 1))))
    (hrw : RW (G.1 p0))
    (hch : CH (vw (G.2.1 (F p1 0))) (vw (G.2.1 (F p2 0))) (aI (G.2.1 (F a 1))) (aI (G.2.1 (F a 0))))
    (s0 : 0 ≤ ((G.1 p3 6).toInt) ∧ ((G.1 p3 6).toInt) ≤ 990)
    (z0 : (0 ≤ ((G.1 p0 0).toInt) ∧ ((G.1 p0 0).toInt) ≤ 5) ∧ (0 ≤ ((G.1 p0 2).toInt) ∧ ((G.1 p0 2).toInt) ≤ 2) ∧ (0 ≤ ((G.1 p0 3).toInt) ∧ ((G.1 p0 3).toInt) ≤ 2) ∧ (-1 ≤ ((G.1 p0 4).toInt) ∧ ((G.1 p0 4).toInt) ≤ 2) ∧ (((G.1 p0 0).toInt) = 1 ∨ ((G.1 p0 0).toInt) = 3 ∨ ((G.1 p0 0).toInt) = 4 → 0 ≤ ((G.1 p0 4).toInt)))
    (c_G2_F_a_2 : G2.2.1 (F a 2) = G.2.1 (F a 2))
    (c_G2_F_p3_0 : G2.2.1 (F p3 0) = G.2.1 (F p3 0))
    (c_G2_F_p3_1 : G2.2.1 (F p3 1) = G.2.1 (F p3 1))
    (c_G2_F_p3_2 : G2.2.1 (F p3 2) = G.2.1 (F p3 2))
    (c_G2_F_p3_3 : G2.2.1 (F p3 3) = G.2.1 (F p3 3))
    (c_G2_F_p3_4 : G2.2.1 (F p3 4) = G.2.1 (F p3 4))
    (c_G2_F_p3_5 : G2.2.1 (F p3 5) = G.2.1 (F p3 5))
    (D_G2_p0 : G2.1 p0 = G.1 p0)
    (d_G2_a_3 : G2.1 a 3 = 0)
    (d_G2_p3_6 : G2.1 p3 6 = G.1 p3 6) :
    RW (G2.1 p0) := by
  first | assumption | omega | (simp only [D_G2_p0]; assumption)
theorem v_X1_addQuestions_122_2 {K : Nat → Nat} {F : Nat → Nat → Nat} (a : Nat) (p0 : Nat) (p1 : Nat) (p2 : Nat) (p3 : Nat) (G : XG) (G9 : XG) (G_42 : XG) (G_45 : XG) (l5_45 : Int32) (x13 : Int32) (N45 : Nat)
    (ha : K a = 3)
    (hp0 : K p0 = 9)
    (hp1 : K p1 = 8)
    (hp2 : K p2 = 8)
    (hp3 : K p3 = 6)
    (hch : CH (vw (G.2.1 (F p1 0))) (vw (G.2.1 (F p2 0))) (aI (G.2.1 (F a 1))) (aI (G.2.1 (F a 0))))
    (oq9 : SO (G9.2.1 (F a 2)) ((G9.1 a 3).toInt))
    (ps : SO (G_42.2.1 (F a 2)) ((G_42.1 a 3).toInt))
    (pm : ∀ y : Int, MB (G_42.2.1 (F a 2)) ((G_42.1 a 3).toInt) y ↔ OFd (vw (G.2.1 (F p1 0))) (vw (G.2.1 (F p2 0))) (aI (G.2.1 (F a 1))) (aI (G.2.1 (F a 0))) ((G.1 p0 0).toInt) ((G.1 p0 2).toInt) ((G.1 p0 3).toInt) ((G.1 p0 4).toInt) y)
    (pq : qL G_45 F p3 = qL G F p3 ++ (lst (fun i => (G_42.2.1 (F a 2) i).toInt) (l5_45.toInt).toNat).filterMap (uq1 (vw (G.2.1 (F p1 0))) (vw (G.2.1 (F p2 0))) (G.1 p0)))
    (s0 : 0 ≤ ((G.1 p3 6).toInt) ∧ ((G.1 p3 6).toInt) ≤ 990)
    (z0 : (0 ≤ ((G.1 p0 0).toInt) ∧ ((G.1 p0 0).toInt) ≤ 5) ∧ (0 ≤ ((G.1 p0 2).toInt) ∧ ((G.1 p0 2).toInt) ≤ 2) ∧ (0 ≤ ((G.1 p0 3).toInt) ∧ ((G.1 p0 3).toInt) ≤ 2) ∧ (-1 ≤ ((G.1 p0 4).toInt) ∧ ((G.1 p0 4).toInt) ≤ 2) ∧ (((G.1 p0 0).toInt) = 1 ∨ ((G.1 p0 0).toInt) = 3 ∨ ((G.1 p0 0).toInt) = 4 → 0 ≤ ((G.1 p0 4).toInt)))
    (t9 : 0 ≤ ((G9.1 a 3).toInt) ∧ ((G9.1 a 3).toInt) ≤ 60)
    (t13 : ((((G.1 p0 0).toInt) = 1 ∨ ((G.1 p0 0).toInt) = 4) ∧ x13.toInt = 1) ∨ (¬ (((G.1 p0 0).toInt) = 1 ∨ ((G.1 p0 0).toInt) = 4) ∧ x13.toInt = 0))
    (I42_0 : 0 ≤ ((G_42.1 a 3).toInt) ∧ ((G_42.1 a 3).toInt) ≤ 90)
    (I45_0 : 0 ≤ l5_45.toInt ∧ l5_45.toInt ≤ ((G_42.1 a 3).toInt))
    (I45_1 : ((G_45.1 p3 6).toInt) ≤ ((G.1 p3 6).toInt) + l5_45.toInt ∧ ((G.1 p3 6).toInt) ≤ ((G_45.1 p3 6).toInt))
    (I45_2 : (0 : Int) ≤ l5_45.toInt)
    (hm45 : 2147483648 - l5_45.toInt < (((N45) + 1 : Nat) : Int))
    (c51 : ((G_42.1 a 3).toInt) ≤ l5_45.toInt) :
    qL G_45 F p3 = qL G F p3 ++ uqs (vw (G.2.1 (F p1 0))) (vw (G.2.1 (F p2 0))) (G.1 p0) := by
  rw [pq, show (l5_45.toInt).toNat = ((G_42.1 a 3).toInt).toNat from by omega, uqs_of (by omega) ps (fun y h => OFd.sb ((pm y).mp h)) (fun y h1 h2 => (pm y).mpr (OFd.all hch (by omega) (by omega) (by omega) (by omega) h1 h2))]
theorem v_X1_addQuestions_122_3 {K : Nat → Nat} {F : Nat → Nat → Nat} (a : Nat) (p0 : Nat) (p1 : Nat) (p2 : Nat) (p3 : Nat) (G : XG) (G9 : XG) (G_42 : XG) (G_45 : XG) (l5_45 : Int32) (x13 : Int32) (N45 : Nat)
    (ha : K a = 3)
    (hp0 : K p0 = 9)
    (hp1 : K p1 = 8)
    (hp2 : K p2 = 8)
    (hp3 : K p3 = 6)
    (hch : CH (vw (G.2.1 (F p1 0))) (vw (G.2.1 (F p2 0))) (aI (G.2.1 (F a 1))) (aI (G.2.1 (F a 0))))
    (oq9 : SO (G9.2.1 (F a 2)) ((G9.1 a 3).toInt))
    (ps : SO (G_42.2.1 (F a 2)) ((G_42.1 a 3).toInt))
    (pm : ∀ y : Int, MB (G_42.2.1 (F a 2)) ((G_42.1 a 3).toInt) y ↔ OFd (vw (G.2.1 (F p1 0))) (vw (G.2.1 (F p2 0))) (aI (G.2.1 (F a 1))) (aI (G.2.1 (F a 0))) ((G.1 p0 0).toInt) ((G.1 p0 2).toInt) ((G.1 p0 3).toInt) ((G.1 p0 4).toInt) y)
    (pq : qL G_45 F p3 = qL G F p3 ++ (lst (fun i => (G_42.2.1 (F a 2) i).toInt) (l5_45.toInt).toNat).filterMap (uq1 (vw (G.2.1 (F p1 0))) (vw (G.2.1 (F p2 0))) (G.1 p0)))
    (s0 : 0 ≤ ((G.1 p3 6).toInt) ∧ ((G.1 p3 6).toInt) ≤ 990)
    (z0 : (0 ≤ ((G.1 p0 0).toInt) ∧ ((G.1 p0 0).toInt) ≤ 5) ∧ (0 ≤ ((G.1 p0 2).toInt) ∧ ((G.1 p0 2).toInt) ≤ 2) ∧ (0 ≤ ((G.1 p0 3).toInt) ∧ ((G.1 p0 3).toInt) ≤ 2) ∧ (-1 ≤ ((G.1 p0 4).toInt) ∧ ((G.1 p0 4).toInt) ≤ 2) ∧ (((G.1 p0 0).toInt) = 1 ∨ ((G.1 p0 0).toInt) = 3 ∨ ((G.1 p0 0).toInt) = 4 → 0 ≤ ((G.1 p0 4).toInt)))
    (t9 : 0 ≤ ((G9.1 a 3).toInt) ∧ ((G9.1 a 3).toInt) ≤ 60)
    (t13 : ((((G.1 p0 0).toInt) = 1 ∨ ((G.1 p0 0).toInt) = 4) ∧ x13.toInt = 1) ∨ (¬ (((G.1 p0 0).toInt) = 1 ∨ ((G.1 p0 0).toInt) = 4) ∧ x13.toInt = 0))
    (I42_0 : 0 ≤ ((G_42.1 a 3).toInt) ∧ ((G_42.1 a 3).toInt) ≤ 90)
    (I45_0 : 0 ≤ l5_45.toInt ∧ l5_45.toInt ≤ ((G_42.1 a 3).toInt))
    (I45_1 : ((G_45.1 p3 6).toInt) ≤ ((G.1 p3 6).toInt) + l5_45.toInt ∧ ((G.1 p3 6).toInt) ≤ ((G_45.1 p3 6).toInt))
    (I45_2 : (0 : Int) ≤ l5_45.toInt)
    (hm45 : 2147483648 - l5_45.toInt < (((N45) + 1 : Nat) : Int))
    (c51 : ¬ (((G_42.1 a 3).toInt) ≤ l5_45.toInt))
    (c58 : (90 : Int) ≤ l5_45.toInt) :
    qL G_45 F p3 = qL G F p3 ++ uqs (vw (G.2.1 (F p1 0))) (vw (G.2.1 (F p2 0))) (G.1 p0) := by
  rw [pq, show (l5_45.toInt).toNat = ((G_42.1 a 3).toInt).toNat from by omega, uqs_of (by omega) ps (fun y h => OFd.sb ((pm y).mp h)) (fun y h1 h2 => (pm y).mpr (OFd.all hch (by omega) (by omega) (by omega) (by omega) h1 h2))]
theorem v_X1_addQuestions_74_4 {F : Nat → Nat → Nat} (p1 : Nat) (p2 : Nat) (G : XG) (G_45 : XG)
    (ro1 : RO (vw (G.2.1 (F p1 0))) (aI (G.2.1 (F p1 1))))
    (ro2 : RO (vw (G.2.1 (F p2 0))) (aI (G.2.1 (F p2 1))))
    (c_G_45_F_p1_0 : G_45.2.1 (F p1 0) = G.2.1 (F p1 0))
    (c_G_45_F_p1_1 : G_45.2.1 (F p1 1) = G.2.1 (F p1 1)) :
    RO (vw (G_45.2.1 (F p1 0))) (aI (G_45.2.1 (F p1 1))) := by simp only [c_G_45_F_p1_0, c_G_45_F_p1_1]; assumption
theorem v_X1_addQuestions_74_5 {K : Nat → Nat} {F : Nat → Nat → Nat} (a : Nat) (p0 : Nat) (p1 : Nat) (p2 : Nat) (p3 : Nat) (G2 : XG) (G : XG) (G9 : XG) (G_42 : XG) (G_45 : XG) (l5_45 : Int32) (x67 : Int32) (x13 : Int32) (N45 : Nat)
    (ha : K a = 3)
    (hp0 : K p0 = 9)
    (hp1 : K p1 = 8)
    (hp2 : K p2 = 8)
    (hp3 : K p3 = 6)
    (hk9999 : K (F a 2) = 24)
    (hj9999 : F (F a 2) 99 = 4)
    (hk9999a : K (F p3 0) = 22)
    (hj9999a : F (F p3 0) 99 = 10 * F p3 99 + 0)
    (hk9999b : K (F p3 1) = 22)
    (hj9999b : F (F p3 1) 99 = 10 * F p3 99 + 1)
    (hk9999c : K (F p3 2) = 22)
    (hj9999c : F (F p3 2) 99 = 10 * F p3 99 + 2)
    (hk9999d : K (F p3 3) = 22)
    (hj9999d : F (F p3 3) 99 = 10 * F p3 99 + 3)
    (hk9999e : K (F p3 4) = 23)
    (hj9999e : F (F p3 4) 99 = 10 * F p3 99 + 4)
    (hk9999f : K (F p3 5) = 23)
    (hj9999f : F (F p3 5) 99 = 10 * F p3 99 + 5)
    (hk9999g : K (F p1 0) = 20)
    (hj9999g : F (F p1 0) 99 = F p1 99)
    (hk9999h : K (F p1 1) = 21)
    (hj9999h : F (F p1 1) 99 = F p1 99)
    (hk9999i : K (F p2 0) = 20)
    (hj9999i : F (F p2 0) 99 = F p2 99)
    (hk9999j : K (F p2 1) = 21)
    (hj9999j : F (F p2 1) 99 = F p2 99)
    (hk9999k : K (F a 1) = 21)
    (hj9999k : F (F a 1) 99 = 101)
    (hk9999l : K (F a 0) = 21)
    (hj9999l : F (F a 0) 99 = 100)
    (hG2 : G2 = dput G a 3 0)
    (hF9 : XFr [(a, 3)] [F a 2] [] G2 G9)
    (hF_42 : XFr [(a, 3)] [F a 2] [] G9 G_42)
    (hF_45 : XFr [(p3, 6)] [F p3 0, F p3 1, F p3 2, F p3 3, F p3 4, F p3 5] [] G_42 G_45)
    (ro1 : RO (vw (G.2.1 (F p1 0))) (aI (G.2.1 (F p1 1))))
    (ro2 : RO (vw (G.2.1 (F p2 0))) (aI (G.2.1 (F p2 1))))
    (hrw : RW (G.1 p0))
    (hch : CH (vw (G.2.1 (F p1 0))) (vw (G.2.1 (F p2 0))) (aI (G.2.1 (F a 1))) (aI (G.2.1 (F a 0))))
    (oq9 : SO (G9.2.1 (F a 2)) ((G9.1 a 3).toInt))
    (oq9a : ∀ y : Int, MB (G9.2.1 (F a 2)) ((G9.1 a 3).toInt) y ↔ ((((G.1 p0 0).toInt) = 2 ∨ ((G.1 p0 0).toInt) = 5) ∧ 0 ≤ y ∧ y < 30 ∧ bI (aI (G2.2.1 (F a 0)) ((G.1 p0 2).toInt)) y = 1) ∨ (¬ (((G.1 p0 0).toInt) = 2 ∨ ((G.1 p0 0).toInt) = 5) ∧ ∃ k : Int, 0 ≤ k ∧ k < 30 ∧ bI (aI (G2.2.1 (F a 0)) ((G.1 p0 2).toInt)) k = 1 ∧ OV ((G.1 p0 0).toInt) (cel (vw (G.2.1 (F p1 0))) ((G.1 p0 2).toInt) k ((G.1 p0 3).toInt)) (cel (vw (G.2.1 (F p2 0))) ((G.1 p0 2).toInt) k ((G.1 p0 3).toInt)) y))
    (ps : SO (G_42.2.1 (F a 2)) ((G_42.1 a 3).toInt))
    (pm : ∀ y : Int, MB (G_42.2.1 (F a 2)) ((G_42.1 a 3).toInt) y ↔ OFd (vw (G.2.1 (F p1 0))) (vw (G.2.1 (F p2 0))) (aI (G.2.1 (F a 1))) (aI (G.2.1 (F a 0))) ((G.1 p0 0).toInt) ((G.1 p0 2).toInt) ((G.1 p0 3).toInt) ((G.1 p0 4).toInt) y)
    (pq : qL G_45 F p3 = qL G F p3 ++ (lst (fun i => (G_42.2.1 (F a 2) i).toInt) (l5_45.toInt).toNat).filterMap (uq1 (vw (G.2.1 (F p1 0))) (vw (G.2.1 (F p2 0))) (G.1 p0)))
    (hv67 : x67.toInt = (aI (G_42.2.1 (F a 2)) (l5_45.toInt)))
    (s0 : 0 ≤ ((G.1 p3 6).toInt) ∧ ((G.1 p3 6).toInt) ≤ 990)
    (z0 : (0 ≤ ((G.1 p0 0).toInt) ∧ ((G.1 p0 0).toInt) ≤ 5) ∧ (0 ≤ ((G.1 p0 2).toInt) ∧ ((G.1 p0 2).toInt) ≤ 2) ∧ (0 ≤ ((G.1 p0 3).toInt) ∧ ((G.1 p0 3).toInt) ≤ 2) ∧ (-1 ≤ ((G.1 p0 4).toInt) ∧ ((G.1 p0 4).toInt) ≤ 2) ∧ (((G.1 p0 0).toInt) = 1 ∨ ((G.1 p0 0).toInt) = 3 ∨ ((G.1 p0 0).toInt) = 4 → 0 ≤ ((G.1 p0 4).toInt)))
    (t9 : 0 ≤ ((G9.1 a 3).toInt) ∧ ((G9.1 a 3).toInt) ≤ 60)
    (t13 : ((((G.1 p0 0).toInt) = 1 ∨ ((G.1 p0 0).toInt) = 4) ∧ x13.toInt = 1) ∨ (¬ (((G.1 p0 0).toInt) = 1 ∨ ((G.1 p0 0).toInt) = 4) ∧ x13.toInt = 0))
    (I42_0 : 0 ≤ ((G_42.1 a 3).toInt) ∧ ((G_42.1 a 3).toInt) ≤ 90)
    (I45_0 : 0 ≤ l5_45.toInt ∧ l5_45.toInt ≤ ((G_42.1 a 3).toInt))
    (I45_1 : ((G_45.1 p3 6).toInt) ≤ ((G.1 p3 6).toInt) + l5_45.toInt ∧ ((G.1 p3 6).toInt) ≤ ((G_45.1 p3 6).toInt))
    (I45_2 : (0 : Int) ≤ l5_45.toInt)
    (hm45 : 2147483648 - l5_45.toInt < (((N45) + 1 : Nat) : Int))
    (c51 : ¬ (((G_42.1 a 3).toInt) ≤ l5_45.toInt))
    (c58 : ¬ ((90 : Int) ≤ l5_45.toInt))
    (c_G2_F_a_0 : G2.2.1 (F a 0) = G.2.1 (F a 0))
    (c_G_45_F_a_2 : G_45.2.1 (F a 2) = G_42.2.1 (F a 2))
    (D_G_45_p0 : G_45.1 p0 = G.1 p0)
    (d_G_45_a_3 : G_45.1 a 3 = G_42.1 a 3) :
    RW (G_45.1 p0) := by
  first | assumption | omega | (simp only [D_G_45_p0]; assumption)
theorem v_X1_addQuestions_83_6 {F : Nat → Nat → Nat} (p1 : Nat) (p2 : Nat) (G : XG) (G_45 : XG)
    (ro1 : RO (vw (G.2.1 (F p1 0))) (aI (G.2.1 (F p1 1))))
    (ro2 : RO (vw (G.2.1 (F p2 0))) (aI (G.2.1 (F p2 1))))
    (c_G_45_F_p2_0 : G_45.2.1 (F p2 0) = G.2.1 (F p2 0))
    (c_G_45_F_p2_1 : G_45.2.1 (F p2 1) = G.2.1 (F p2 1)) :
    RO (vw (G_45.2.1 (F p2 0))) (aI (G_45.2.1 (F p2 1))) := by simp only [c_G_45_F_p2_0, c_G_45_F_p2_1]; assumption
theorem v_X1_addQuestions_83_7 {K : Nat → Nat} {F : Nat → Nat → Nat} (a : Nat) (p0 : Nat) (p1 : Nat) (p2 : Nat) (p3 : Nat) (G2 : XG) (G : XG) (G9 : XG) (G_42 : XG) (G_45 : XG) (l5_45 : Int32) (x67 : Int32) (x13 : Int32) (N45 : Nat)
    (ha : K a = 3)
    (hp0 : K p0 = 9)
    (hp1 : K p1 = 8)
    (hp2 : K p2 = 8)
    (hp3 : K p3 = 6)
    (hk9999 : K (F a 2) = 24)
    (hj9999 : F (F a 2) 99 = 4)
    (hk9999a : K (F p3 0) = 22)
    (hj9999a : F (F p3 0) 99 = 10 * F p3 99 + 0)
    (hk9999b : K (F p3 1) = 22)
    (hj9999b : F (F p3 1) 99 = 10 * F p3 99 + 1)
    (hk9999c : K (F p3 2) = 22)
    (hj9999c : F (F p3 2) 99 = 10 * F p3 99 + 2)
    (hk9999d : K (F p3 3) = 22)
    (hj9999d : F (F p3 3) 99 = 10 * F p3 99 + 3)
    (hk9999e : K (F p3 4) = 23)
    (hj9999e : F (F p3 4) 99 = 10 * F p3 99 + 4)
    (hk9999f : K (F p3 5) = 23)
    (hj9999f : F (F p3 5) 99 = 10 * F p3 99 + 5)
    (hk9999g : K (F p1 0) = 20)
    (hj9999g : F (F p1 0) 99 = F p1 99)
    (hk9999h : K (F p1 1) = 21)
    (hj9999h : F (F p1 1) 99 = F p1 99)
    (hk9999i : K (F p2 0) = 20)
    (hj9999i : F (F p2 0) 99 = F p2 99)
    (hk9999j : K (F p2 1) = 21)
    (hj9999j : F (F p2 1) 99 = F p2 99)
    (hk9999k : K (F a 1) = 21)
    (hj9999k : F (F a 1) 99 = 101)
    (hk9999l : K (F a 0) = 21)
    (hj9999l : F (F a 0) 99 = 100)
    (hG2 : G2 = dput G a 3 0)
    (hF9 : XFr [(a, 3)] [F a 2] [] G2 G9)
    (hF_42 : XFr [(a, 3)] [F a 2] [] G9 G_42)
    (hF_45 : XFr [(p3, 6)] [F p3 0, F p3 1, F p3 2, F p3 3, F p3 4, F p3 5] [] G_42 G_45)
    (ro1 : RO (vw (G.2.1 (F p1 0))) (aI (G.2.1 (F p1 1))))
    (ro2 : RO (vw (G.2.1 (F p2 0))) (aI (G.2.1 (F p2 1))))
    (hrw : RW (G.1 p0))
    (hch : CH (vw (G.2.1 (F p1 0))) (vw (G.2.1 (F p2 0))) (aI (G.2.1 (F a 1))) (aI (G.2.1 (F a 0))))
    (oq9 : SO (G9.2.1 (F a 2)) ((G9.1 a 3).toInt))
    (oq9a : ∀ y : Int, MB (G9.2.1 (F a 2)) ((G9.1 a 3).toInt) y ↔ ((((G.1 p0 0).toInt) = 2 ∨ ((G.1 p0 0).toInt) = 5) ∧ 0 ≤ y ∧ y < 30 ∧ bI (aI (G2.2.1 (F a 0)) ((G.1 p0 2).toInt)) y = 1) ∨ (¬ (((G.1 p0 0).toInt) = 2 ∨ ((G.1 p0 0).toInt) = 5) ∧ ∃ k : Int, 0 ≤ k ∧ k < 30 ∧ bI (aI (G2.2.1 (F a 0)) ((G.1 p0 2).toInt)) k = 1 ∧ OV ((G.1 p0 0).toInt) (cel (vw (G.2.1 (F p1 0))) ((G.1 p0 2).toInt) k ((G.1 p0 3).toInt)) (cel (vw (G.2.1 (F p2 0))) ((G.1 p0 2).toInt) k ((G.1 p0 3).toInt)) y))
    (ps : SO (G_42.2.1 (F a 2)) ((G_42.1 a 3).toInt))
    (pm : ∀ y : Int, MB (G_42.2.1 (F a 2)) ((G_42.1 a 3).toInt) y ↔ OFd (vw (G.2.1 (F p1 0))) (vw (G.2.1 (F p2 0))) (aI (G.2.1 (F a 1))) (aI (G.2.1 (F a 0))) ((G.1 p0 0).toInt) ((G.1 p0 2).toInt) ((G.1 p0 3).toInt) ((G.1 p0 4).toInt) y)
    (pq : qL G_45 F p3 = qL G F p3 ++ (lst (fun i => (G_42.2.1 (F a 2) i).toInt) (l5_45.toInt).toNat).filterMap (uq1 (vw (G.2.1 (F p1 0))) (vw (G.2.1 (F p2 0))) (G.1 p0)))
    (hv67 : x67.toInt = (aI (G_42.2.1 (F a 2)) (l5_45.toInt)))
    (s0 : 0 ≤ ((G.1 p3 6).toInt) ∧ ((G.1 p3 6).toInt) ≤ 990)
    (z0 : (0 ≤ ((G.1 p0 0).toInt) ∧ ((G.1 p0 0).toInt) ≤ 5) ∧ (0 ≤ ((G.1 p0 2).toInt) ∧ ((G.1 p0 2).toInt) ≤ 2) ∧ (0 ≤ ((G.1 p0 3).toInt) ∧ ((G.1 p0 3).toInt) ≤ 2) ∧ (-1 ≤ ((G.1 p0 4).toInt) ∧ ((G.1 p0 4).toInt) ≤ 2) ∧ (((G.1 p0 0).toInt) = 1 ∨ ((G.1 p0 0).toInt) = 3 ∨ ((G.1 p0 0).toInt) = 4 → 0 ≤ ((G.1 p0 4).toInt)))
    (t9 : 0 ≤ ((G9.1 a 3).toInt) ∧ ((G9.1 a 3).toInt) ≤ 60)
    (t13 : ((((G.1 p0 0).toInt) = 1 ∨ ((G.1 p0 0).toInt) = 4) ∧ x13.toInt = 1) ∨ (¬ (((G.1 p0 0).toInt) = 1 ∨ ((G.1 p0 0).toInt) = 4) ∧ x13.toInt = 0))
    (I42_0 : 0 ≤ ((G_42.1 a 3).toInt) ∧ ((G_42.1 a 3).toInt) ≤ 90)
    (I45_0 : 0 ≤ l5_45.toInt ∧ l5_45.toInt ≤ ((G_42.1 a 3).toInt))
    (I45_1 : ((G_45.1 p3 6).toInt) ≤ ((G.1 p3 6).toInt) + l5_45.toInt ∧ ((G.1 p3 6).toInt) ≤ ((G_45.1 p3 6).toInt))
    (I45_2 : (0 : Int) ≤ l5_45.toInt)
    (hm45 : 2147483648 - l5_45.toInt < (((N45) + 1 : Nat) : Int))
    (c51 : ¬ (((G_42.1 a 3).toInt) ≤ l5_45.toInt))
    (c58 : ¬ ((90 : Int) ≤ l5_45.toInt))
    (c_G2_F_a_0 : G2.2.1 (F a 0) = G.2.1 (F a 0))
    (c_G_45_F_a_2 : G_45.2.1 (F a 2) = G_42.2.1 (F a 2))
    (D_G_45_p0 : G_45.1 p0 = G.1 p0)
    (d_G_45_a_3 : G_45.1 a 3 = G_42.1 a 3) :
    RW (G_45.1 p0) := by
  first | assumption | omega | (simp only [D_G_45_p0]; assumption)
theorem v_X1_addQuestions_119_8 {K : Nat → Nat} {F : Nat → Nat → Nat} (a : Nat) (p0 : Nat) (p1 : Nat) (p2 : Nat) (p3 : Nat) (G : XG) (G9 : XG) (G_42 : XG) (G_45 : XG) (l5_45 : Int32) (x13 : Int32) (N45 : Nat)
    (ha : K a = 3)
    (hp0 : K p0 = 9)
    (hp1 : K p1 = 8)
    (hp2 : K p2 = 8)
    (hp3 : K p3 = 6)
    (hch : CH (vw (G.2.1 (F p1 0))) (vw (G.2.1 (F p2 0))) (aI (G.2.1 (F a 1))) (aI (G.2.1 (F a 0))))
    (oq9 : SO (G9.2.1 (F a 2)) ((G9.1 a 3).toInt))
    (ps : SO (G_42.2.1 (F a 2)) ((G_42.1 a 3).toInt))
    (pq : qL G_45 F p3 = qL G F p3 ++ (lst (fun i => (G_42.2.1 (F a 2) i).toInt) (l5_45.toInt).toNat).filterMap (uq1 (vw (G.2.1 (F p1 0))) (vw (G.2.1 (F p2 0))) (G.1 p0)))
    (s0 : 0 ≤ ((G.1 p3 6).toInt) ∧ ((G.1 p3 6).toInt) ≤ 990)
    (z0 : (0 ≤ ((G.1 p0 0).toInt) ∧ ((G.1 p0 0).toInt) ≤ 5) ∧ (0 ≤ ((G.1 p0 2).toInt) ∧ ((G.1 p0 2).toInt) ≤ 2) ∧ (0 ≤ ((G.1 p0 3).toInt) ∧ ((G.1 p0 3).toInt) ≤ 2) ∧ (-1 ≤ ((G.1 p0 4).toInt) ∧ ((G.1 p0 4).toInt) ≤ 2) ∧ (((G.1 p0 0).toInt) = 1 ∨ ((G.1 p0 0).toInt) = 3 ∨ ((G.1 p0 0).toInt) = 4 → 0 ≤ ((G.1 p0 4).toInt)))
    (t9 : 0 ≤ ((G9.1 a 3).toInt) ∧ ((G9.1 a 3).toInt) ≤ 60)
    (t13 : ((((G.1 p0 0).toInt) = 1 ∨ ((G.1 p0 0).toInt) = 4) ∧ x13.toInt = 1) ∨ (¬ (((G.1 p0 0).toInt) = 1 ∨ ((G.1 p0 0).toInt) = 4) ∧ x13.toInt = 0))
    (I42_0 : 0 ≤ ((G_42.1 a 3).toInt) ∧ ((G_42.1 a 3).toInt) ≤ 90)
    (I45_0 : 0 ≤ l5_45.toInt ∧ l5_45.toInt ≤ ((G_42.1 a 3).toInt))
    (I45_1 : ((G_45.1 p3 6).toInt) ≤ ((G.1 p3 6).toInt) + l5_45.toInt ∧ ((G.1 p3 6).toInt) ≤ ((G_45.1 p3 6).toInt))
    (I45_2 : (0 : Int) ≤ l5_45.toInt)
    (hm45 : 2147483648 - l5_45.toInt < (((N45) + 1 : Nat) : Int))
    (c51 : ¬ (((G_42.1 a 3).toInt) ≤ l5_45.toInt))
    (c58 : ¬ ((90 : Int) ≤ l5_45.toInt))
    (c92 : (stt (vw (G.2.1 (F p1 0))) ((G.1 p0 0).toInt) ((G.1 p0 2).toInt) ((G.1 p0 3).toInt) ((G.1 p0 4).toInt) (aI (G_42.2.1 (F a 2)) (l5_45.toInt))) = (stt (vw (G.2.1 (F p2 0))) ((G.1 p0 0).toInt) ((G.1 p0 2).toInt) ((G.1 p0 3).toInt) ((G.1 p0 4).toInt) (aI (G_42.2.1 (F a 2)) (l5_45.toInt)))) :
    qL G_45 F p3 = qL G F p3 ++ (lst (fun i => (G_42.2.1 (F a 2) i).toInt) (l5_45.toInt + 1).toNat).filterMap (uq1 (vw (G.2.1 (F p1 0))) (vw (G.2.1 (F p2 0))) (G.1 p0)) := by
  have e : (l5_45.toInt + 1).toNat = l5_45.toInt.toNat + 1 := by omega
  rw [e, lst_s, List.filterMap_append, ← List.append_assoc, ← pq]
  by_cases hq : stt (vw (G.2.1 (F p1 0))) ((G.1 p0 0).toInt) ((G.1 p0 2).toInt) ((G.1 p0 3).toInt) ((G.1 p0 4).toInt) (aI (G_42.2.1 (F a 2)) (l5_45.toInt)) = stt (vw (G.2.1 (F p2 0))) ((G.1 p0 0).toInt) ((G.1 p0 2).toInt) ((G.1 p0 3).toInt) ((G.1 p0 4).toInt) (aI (G_42.2.1 (F a 2)) (l5_45.toInt))
  · first
      | exact absurd hq c92
      | (have hn : uq1 (vw (G.2.1 (F p1 0))) (vw (G.2.1 (F p2 0))) (G.1 p0) ((G_42.2.1 (F a 2) l5_45.toInt.toNat).toInt) = none := if_neg (fun z => z hq)
         rw [filterMap_1n hn, List.append_nil])
  · first
      | exact absurd c92 hq
      | (have hs : uq1 (vw (G.2.1 (F p1 0))) (vw (G.2.1 (F p2 0))) (G.1 p0) ((G_42.2.1 (F a 2) l5_45.toInt.toNat).toInt) = some _ := if_pos hq
         rw [filterMap_1s hs, oq113, t110]
         rfl)
theorem v_X1_addQuestions_110_9 {F : Nat → Nat → Nat} (p1 : Nat) (p2 : Nat) (G : XG) (G_45 : XG)
    (ro1 : RO (vw (G.2.1 (F p1 0))) (aI (G.2.1 (F p1 1))))
    (ro2 : RO (vw (G.2.1 (F p2 0))) (aI (G.2.1 (F p2 1))))
    (c_G_45_F_p2_0 : G_45.2.1 (F p2 0) = G.2.1 (F p2 0))
    (c_G_45_F_p2_1 : G_45.2.1 (F p2 1) = G.2.1 (F p2 1)) :
    RO (vw (G_45.2.1 (F p2 0))) (aI (G_45.2.1 (F p2 1))) := by simp only [c_G_45_F_p2_0, c_G_45_F_p2_1]; assumption
theorem v_X1_addQuestions_110_10 {K : Nat → Nat} {F : Nat → Nat → Nat} (a : Nat) (p0 : Nat) (p1 : Nat) (p2 : Nat) (p3 : Nat) (G2 : XG) (G : XG) (G9 : XG) (G_42 : XG) (G_45 : XG) (l5_45 : Int32) (x67 : Int32) (x13 : Int32) (N45 : Nat)
    (ha : K a = 3)
    (hp0 : K p0 = 9)
    (hp1 : K p1 = 8)
    (hp2 : K p2 = 8)
    (hp3 : K p3 = 6)
    (hk9999 : K (F a 2) = 24)
    (hj9999 : F (F a 2) 99 = 4)
    (hk9999a : K (F p3 0) = 22)
    (hj9999a : F (F p3 0) 99 = 10 * F p3 99 + 0)
    (hk9999b : K (F p3 1) = 22)
    (hj9999b : F (F p3 1) 99 = 10 * F p3 99 + 1)
    (hk9999c : K (F p3 2) = 22)
    (hj9999c : F (F p3 2) 99 = 10 * F p3 99 + 2)
    (hk9999d : K (F p3 3) = 22)
    (hj9999d : F (F p3 3) 99 = 10 * F p3 99 + 3)
    (hk9999e : K (F p3 4) = 23)
    (hj9999e : F (F p3 4) 99 = 10 * F p3 99 + 4)
    (hk9999f : K (F p3 5) = 23)
    (hj9999f : F (F p3 5) 99 = 10 * F p3 99 + 5)
    (hk9999g : K (F p1 0) = 20)
    (hj9999g : F (F p1 0) 99 = F p1 99)
    (hk9999h : K (F p1 1) = 21)
    (hj9999h : F (F p1 1) 99 = F p1 99)
    (hk9999i : K (F p2 0) = 20)
    (hj9999i : F (F p2 0) 99 = F p2 99)
    (hk9999j : K (F p2 1) = 21)
    (hj9999j : F (F p2 1) 99 = F p2 99)
    (hk9999k : K (F a 1) = 21)
    (hj9999k : F (F a 1) 99 = 101)
    (hk9999l : K (F a 0) = 21)
    (hj9999l : F (F a 0) 99 = 100)
    (hG2 : G2 = dput G a 3 0)
    (hF9 : XFr [(a, 3)] [F a 2] [] G2 G9)
    (hF_42 : XFr [(a, 3)] [F a 2] [] G9 G_42)
    (hF_45 : XFr [(p3, 6)] [F p3 0, F p3 1, F p3 2, F p3 3, F p3 4, F p3 5] [] G_42 G_45)
    (ro1 : RO (vw (G.2.1 (F p1 0))) (aI (G.2.1 (F p1 1))))
    (ro2 : RO (vw (G.2.1 (F p2 0))) (aI (G.2.1 (F p2 1))))
    (hrw : RW (G.1 p0))
    (hch : CH (vw (G.2.1 (F p1 0))) (vw (G.2.1 (F p2 0))) (aI (G.2.1 (F a 1))) (aI (G.2.1 (F a 0))))
    (oq9 : SO (G9.2.1 (F a 2)) ((G9.1 a 3).toInt))
    (oq9a : ∀ y : Int, MB (G9.2.1 (F a 2)) ((G9.1 a 3).toInt) y ↔ ((((G.1 p0 0).toInt) = 2 ∨ ((G.1 p0 0).toInt) = 5) ∧ 0 ≤ y ∧ y < 30 ∧ bI (aI (G2.2.1 (F a 0)) ((G.1 p0 2).toInt)) y = 1) ∨ (¬ (((G.1 p0 0).toInt) = 2 ∨ ((G.1 p0 0).toInt) = 5) ∧ ∃ k : Int, 0 ≤ k ∧ k < 30 ∧ bI (aI (G2.2.1 (F a 0)) ((G.1 p0 2).toInt)) k = 1 ∧ OV ((G.1 p0 0).toInt) (cel (vw (G.2.1 (F p1 0))) ((G.1 p0 2).toInt) k ((G.1 p0 3).toInt)) (cel (vw (G.2.1 (F p2 0))) ((G.1 p0 2).toInt) k ((G.1 p0 3).toInt)) y))
    (ps : SO (G_42.2.1 (F a 2)) ((G_42.1 a 3).toInt))
    (pm : ∀ y : Int, MB (G_42.2.1 (F a 2)) ((G_42.1 a 3).toInt) y ↔ OFd (vw (G.2.1 (F p1 0))) (vw (G.2.1 (F p2 0))) (aI (G.2.1 (F a 1))) (aI (G.2.1 (F a 0))) ((G.1 p0 0).toInt) ((G.1 p0 2).toInt) ((G.1 p0 3).toInt) ((G.1 p0 4).toInt) y)
    (pq : qL G_45 F p3 = qL G F p3 ++ (lst (fun i => (G_42.2.1 (F a 2) i).toInt) (l5_45.toInt).toNat).filterMap (uq1 (vw (G.2.1 (F p1 0))) (vw (G.2.1 (F p2 0))) (G.1 p0)))
    (hv67 : x67.toInt = (aI (G_42.2.1 (F a 2)) (l5_45.toInt)))
    (s0 : 0 ≤ ((G.1 p3 6).toInt) ∧ ((G.1 p3 6).toInt) ≤ 990)
    (z0 : (0 ≤ ((G.1 p0 0).toInt) ∧ ((G.1 p0 0).toInt) ≤ 5) ∧ (0 ≤ ((G.1 p0 2).toInt) ∧ ((G.1 p0 2).toInt) ≤ 2) ∧ (0 ≤ ((G.1 p0 3).toInt) ∧ ((G.1 p0 3).toInt) ≤ 2) ∧ (-1 ≤ ((G.1 p0 4).toInt) ∧ ((G.1 p0 4).toInt) ≤ 2) ∧ (((G.1 p0 0).toInt) = 1 ∨ ((G.1 p0 0).toInt) = 3 ∨ ((G.1 p0 0).toInt) = 4 → 0 ≤ ((G.1 p0 4).toInt)))
    (t9 : 0 ≤ ((G9.1 a 3).toInt) ∧ ((G9.1 a 3).toInt) ≤ 60)
    (t13 : ((((G.1 p0 0).toInt) = 1 ∨ ((G.1 p0 0).toInt) = 4) ∧ x13.toInt = 1) ∨ (¬ (((G.1 p0 0).toInt) = 1 ∨ ((G.1 p0 0).toInt) = 4) ∧ x13.toInt = 0))
    (I42_0 : 0 ≤ ((G_42.1 a 3).toInt) ∧ ((G_42.1 a 3).toInt) ≤ 90)
    (I45_0 : 0 ≤ l5_45.toInt ∧ l5_45.toInt ≤ ((G_42.1 a 3).toInt))
    (I45_1 : ((G_45.1 p3 6).toInt) ≤ ((G.1 p3 6).toInt) + l5_45.toInt ∧ ((G.1 p3 6).toInt) ≤ ((G_45.1 p3 6).toInt))
    (I45_2 : (0 : Int) ≤ l5_45.toInt)
    (hm45 : 2147483648 - l5_45.toInt < (((N45) + 1 : Nat) : Int))
    (c51 : ¬ (((G_42.1 a 3).toInt) ≤ l5_45.toInt))
    (c58 : ¬ ((90 : Int) ≤ l5_45.toInt))
    (c92 : ¬ ((stt (vw (G.2.1 (F p1 0))) ((G.1 p0 0).toInt) ((G.1 p0 2).toInt) ((G.1 p0 3).toInt) ((G.1 p0 4).toInt) (aI (G_42.2.1 (F a 2)) (l5_45.toInt))) = (stt (vw (G.2.1 (F p2 0))) ((G.1 p0 0).toInt) ((G.1 p0 2).toInt) ((G.1 p0 3).toInt) ((G.1 p0 4).toInt) (aI (G_42.2.1 (F a 2)) (l5_45.toInt)))))
    (c_G2_F_a_0 : G2.2.1 (F a 0) = G.2.1 (F a 0))
    (c_G_45_F_a_2 : G_45.2.1 (F a 2) = G_42.2.1 (F a 2))
    (D_G_45_p0 : G_45.1 p0 = G.1 p0)
    (d_G_45_a_3 : G_45.1 a 3 = G_42.1 a 3) :
    RW (G_45.1 p0) := by
  first | assumption | omega | (simp only [D_G_45_p0]; assumption)
theorem v_X1_addQuestions_119_11 {K : Nat → Nat} {F : Nat → Nat → Nat} (a : Nat) (p0 : Nat) (p1 : Nat) (p2 : Nat) (p3 : Nat) (G : XG) (G9 : XG) (G_42 : XG) (G_45 : XG) (G113 : XG) (l5_45 : Int32) (x110 : Int32) (x13 : Int32) (N45 : Nat)
    (ha : K a = 3)
    (hp0 : K p0 = 9)
    (hp1 : K p1 = 8)
    (hp2 : K p2 = 8)
    (hp3 : K p3 = 6)
    (hch : CH (vw (G.2.1 (F p1 0))) (vw (G.2.1 (F p2 0))) (aI (G.2.1 (F a 1))) (aI (G.2.1 (F a 0))))
    (oq9 : SO (G9.2.1 (F a 2)) ((G9.1 a 3).toInt))
    (ps : SO (G_42.2.1 (F a 2)) ((G_42.1 a 3).toInt))
    (pq : qL G_45 F p3 = qL G F p3 ++ (lst (fun i => (G_42.2.1 (F a 2) i).toInt) (l5_45.toInt).toNat).filterMap (uq1 (vw (G.2.1 (F p1 0))) (vw (G.2.1 (F p2 0))) (G.1 p0)))
    (oq113 : qL G113 F p3 = qL G_45 F p3 ++ [(((G.1 p0 1).toInt), (aI (G_42.2.1 (F a 2)) (l5_45.toInt)), (stt (vw (G.2.1 (F p1 0))) ((G.1 p0 0).toInt) ((G.1 p0 2).toInt) ((G.1 p0 3).toInt) ((G.1 p0 4).toInt) (aI (G_42.2.1 (F a 2)) (l5_45.toInt))), (stt (vw (G.2.1 (F p2 0))) ((G.1 p0 0).toInt) ((G.1 p0 2).toInt) ((G.1 p0 3).toInt) ((G.1 p0 4).toInt) (aI (G_42.2.1 (F a 2)) (l5_45.toInt))), ((G.1 p0 9).toInt), x110.toInt)])
    (s0 : 0 ≤ ((G.1 p3 6).toInt) ∧ ((G.1 p3 6).toInt) ≤ 990)
    (z0 : (0 ≤ ((G.1 p0 0).toInt) ∧ ((G.1 p0 0).toInt) ≤ 5) ∧ (0 ≤ ((G.1 p0 2).toInt) ∧ ((G.1 p0 2).toInt) ≤ 2) ∧ (0 ≤ ((G.1 p0 3).toInt) ∧ ((G.1 p0 3).toInt) ≤ 2) ∧ (-1 ≤ ((G.1 p0 4).toInt) ∧ ((G.1 p0 4).toInt) ≤ 2) ∧ (((G.1 p0 0).toInt) = 1 ∨ ((G.1 p0 0).toInt) = 3 ∨ ((G.1 p0 0).toInt) = 4 → 0 ≤ ((G.1 p0 4).toInt)))
    (t9 : 0 ≤ ((G9.1 a 3).toInt) ∧ ((G9.1 a 3).toInt) ≤ 60)
    (t13 : ((((G.1 p0 0).toInt) = 1 ∨ ((G.1 p0 0).toInt) = 4) ∧ x13.toInt = 1) ∨ (¬ (((G.1 p0 0).toInt) = 1 ∨ ((G.1 p0 0).toInt) = 4) ∧ x13.toInt = 0))
    (I42_0 : 0 ≤ ((G_42.1 a 3).toInt) ∧ ((G_42.1 a 3).toInt) ≤ 90)
    (I45_0 : 0 ≤ l5_45.toInt ∧ l5_45.toInt ≤ ((G_42.1 a 3).toInt))
    (I45_1 : ((G_45.1 p3 6).toInt) ≤ ((G.1 p3 6).toInt) + l5_45.toInt ∧ ((G.1 p3 6).toInt) ≤ ((G_45.1 p3 6).toInt))
    (I45_2 : (0 : Int) ≤ l5_45.toInt)
    (hm45 : 2147483648 - l5_45.toInt < (((N45) + 1 : Nat) : Int))
    (c51 : ¬ (((G_42.1 a 3).toInt) ≤ l5_45.toInt))
    (c58 : ¬ ((90 : Int) ≤ l5_45.toInt))
    (c92 : ¬ ((stt (vw (G.2.1 (F p1 0))) ((G.1 p0 0).toInt) ((G.1 p0 2).toInt) ((G.1 p0 3).toInt) ((G.1 p0 4).toInt) (aI (G_42.2.1 (F a 2)) (l5_45.toInt))) = (stt (vw (G.2.1 (F p2 0))) ((G.1 p0 0).toInt) ((G.1 p0 2).toInt) ((G.1 p0 3).toInt) ((G.1 p0 4).toInt) (aI (G_42.2.1 (F a 2)) (l5_45.toInt)))))
    (t110 : x110.toInt = (flq (vw (G.2.1 (F p2 0))) ((G.1 p0 0).toInt) ((G.1 p0 2).toInt) ((G.1 p0 3).toInt) ((G.1 p0 5).toInt) ((G.1 p0 6).toInt) (aI (G_42.2.1 (F a 2)) (l5_45.toInt)) (stt (vw (G.2.1 (F p2 0))) ((G.1 p0 0).toInt) ((G.1 p0 2).toInt) ((G.1 p0 3).toInt) ((G.1 p0 4).toInt) (aI (G_42.2.1 (F a 2)) (l5_45.toInt)))))
    (f61 : x110.toInt = 0 ∨ x110.toInt = 1)
    (t113 : ((G113.1 p3 6).toInt) = ((G_45.1 p3 6).toInt) + 1) :
    qL G113 F p3 = qL G F p3 ++ (lst (fun i => (G_42.2.1 (F a 2) i).toInt) (l5_45.toInt + 1).toNat).filterMap (uq1 (vw (G.2.1 (F p1 0))) (vw (G.2.1 (F p2 0))) (G.1 p0)) := by
  have e : (l5_45.toInt + 1).toNat = l5_45.toInt.toNat + 1 := by omega
  rw [e, lst_s, List.filterMap_append, ← List.append_assoc, ← pq]
  by_cases hq : stt (vw (G.2.1 (F p1 0))) ((G.1 p0 0).toInt) ((G.1 p0 2).toInt) ((G.1 p0 3).toInt) ((G.1 p0 4).toInt) (aI (G_42.2.1 (F a 2)) (l5_45.toInt)) = stt (vw (G.2.1 (F p2 0))) ((G.1 p0 0).toInt) ((G.1 p0 2).toInt) ((G.1 p0 3).toInt) ((G.1 p0 4).toInt) (aI (G_42.2.1 (F a 2)) (l5_45.toInt))
  · first
      | exact absurd hq c92
      | (have hn : uq1 (vw (G.2.1 (F p1 0))) (vw (G.2.1 (F p2 0))) (G.1 p0) ((G_42.2.1 (F a 2) l5_45.toInt.toNat).toInt) = none := if_neg (fun z => z hq)
         rw [filterMap_1n hn, List.append_nil])
  · first
      | exact absurd c92 hq
      | (have hs : uq1 (vw (G.2.1 (F p1 0))) (vw (G.2.1 (F p2 0))) (G.1 p0) ((G_42.2.1 (F a 2) l5_45.toInt.toNat).toInt) = some _ := if_pos hq
         rw [filterMap_1s hs, oq113, t110]
         rfl)
theorem v_X1_addQuestions_43_12 {F : Nat → Nat → Nat} (a : Nat) (p0 : Nat) (p1 : Nat) (p2 : Nat) (p3 : Nat) (G : XG) (G_42 : XG)
    (c_G_42_F_p3_0 : G_42.2.1 (F p3 0) = G.2.1 (F p3 0))
    (c_G_42_F_p3_1 : G_42.2.1 (F p3 1) = G.2.1 (F p3 1))
    (c_G_42_F_p3_2 : G_42.2.1 (F p3 2) = G.2.1 (F p3 2))
    (c_G_42_F_p3_3 : G_42.2.1 (F p3 3) = G.2.1 (F p3 3))
    (c_G_42_F_p3_4 : G_42.2.1 (F p3 4) = G.2.1 (F p3 4))
    (c_G_42_F_p3_5 : G_42.2.1 (F p3 5) = G.2.1 (F p3 5))
    (d_G_42_p3_6 : G_42.1 p3 6 = G.1 p3 6) :
    qL G_42 F p3 = qL G F p3 ++ (lst (fun i => (G_42.2.1 (F a 2) i).toInt) (0 : Int).toNat).filterMap (uq1 (vw (G.2.1 (F p1 0))) (vw (G.2.1 (F p2 0))) (G.1 p0)) := by
  show qL G_42 F p3 = qL G F p3 ++ []
  rw [List.append_nil]
  exact qL_cg d_G_42_p3_6 c_G_42_F_p3_0 c_G_42_F_p3_1 c_G_42_F_p3_2 c_G_42_F_p3_3 c_G_42_F_p3_4 c_G_42_F_p3_5
theorem v_X1_addQuestions_16_13 {F : Nat → Nat → Nat} (a : Nat) (G9 : XG)
    (oq9 : SO (G9.2.1 (F a 2)) ((G9.1 a 3).toInt)) :
    SO (G9.2.1 (F a 2)) ((G9.1 a 3).toInt) := by
  exact oq9
theorem v_X1_addQuestions_16_14 {K : Nat → Nat} {F : Nat → Nat → Nat} (a : Nat) (p0 : Nat) (p1 : Nat) (p2 : Nat) (p3 : Nat) (G2 : XG) (G : XG) (G9 : XG) (x13 : Int32)
    (ha : K a = 3)
    (hp0 : K p0 = 9)
    (hp1 : K p1 = 8)
    (hp2 : K p2 = 8)
    (hp3 : K p3 = 6)
    (hch : CH (vw (G.2.1 (F p1 0))) (vw (G.2.1 (F p2 0))) (aI (G.2.1 (F a 1))) (aI (G.2.1 (F a 0))))
    (oq9 : SO (G9.2.1 (F a 2)) ((G9.1 a 3).toInt))
    (oq9a : ∀ y : Int, MB (G9.2.1 (F a 2)) ((G9.1 a 3).toInt) y ↔ ((((G.1 p0 0).toInt) = 2 ∨ ((G.1 p0 0).toInt) = 5) ∧ 0 ≤ y ∧ y < 30 ∧ bI (aI (G2.2.1 (F a 0)) ((G.1 p0 2).toInt)) y = 1) ∨ (¬ (((G.1 p0 0).toInt) = 2 ∨ ((G.1 p0 0).toInt) = 5) ∧ ∃ k : Int, 0 ≤ k ∧ k < 30 ∧ bI (aI (G2.2.1 (F a 0)) ((G.1 p0 2).toInt)) k = 1 ∧ OV ((G.1 p0 0).toInt) (cel (vw (G.2.1 (F p1 0))) ((G.1 p0 2).toInt) k ((G.1 p0 3).toInt)) (cel (vw (G.2.1 (F p2 0))) ((G.1 p0 2).toInt) k ((G.1 p0 3).toInt)) y))
    (s0 : 0 ≤ ((G.1 p3 6).toInt) ∧ ((G.1 p3 6).toInt) ≤ 990)
    (z0 : (0 ≤ ((G.1 p0 0).toInt) ∧ ((G.1 p0 0).toInt) ≤ 5) ∧ (0 ≤ ((G.1 p0 2).toInt) ∧ ((G.1 p0 2).toInt) ≤ 2) ∧ (0 ≤ ((G.1 p0 3).toInt) ∧ ((G.1 p0 3).toInt) ≤ 2) ∧ (-1 ≤ ((G.1 p0 4).toInt) ∧ ((G.1 p0 4).toInt) ≤ 2) ∧ (((G.1 p0 0).toInt) = 1 ∨ ((G.1 p0 0).toInt) = 3 ∨ ((G.1 p0 0).toInt) = 4 → 0 ≤ ((G.1 p0 4).toInt)))
    (t9 : 0 ≤ ((G9.1 a 3).toInt) ∧ ((G9.1 a 3).toInt) ≤ 60)
    (t13 : ((((G.1 p0 0).toInt) = 1 ∨ ((G.1 p0 0).toInt) = 4) ∧ x13.toInt = 1) ∨ (¬ (((G.1 p0 0).toInt) = 1 ∨ ((G.1 p0 0).toInt) = 4) ∧ x13.toInt = 0))
    (c16 : x13.toInt = 0)
    (c_G2_F_a_0 : G2.2.1 (F a 0) = G.2.1 (F a 0)) :
    ∀ y : Int, MB (G9.2.1 (F a 2)) ((G9.1 a 3).toInt) y ↔ OFd (vw (G.2.1 (F p1 0))) (vw (G.2.1 (F p2 0))) (aI (G.2.1 (F a 1))) (aI (G.2.1 (F a 0))) ((G.1 p0 0).toInt) ((G.1 p0 2).toInt) ((G.1 p0 3).toInt) ((G.1 p0 4).toInt) y := by
  intro y
  rw [oq9a y, c_G2_F_a_0]
  unfold OFd
  constructor
  · rintro (h | h)
    · exact Or.inl h
    · exact Or.inr (Or.inl h)
  · rintro (h | h | h)
    · exact Or.inl h
    · exact Or.inr h
    · exact absurd h.1 (by omega)
theorem v_X1_addQuestions_26_15 {F : Nat → Nat → Nat} (a : Nat) (G9 : XG)
    (oq9 : SO (G9.2.1 (F a 2)) ((G9.1 a 3).toInt)) :
    SO (G9.2.1 (F a 2)) ((G9.1 a 3).toInt) := by
  exact oq9
theorem v_X1_addQuestions_26_16 {K : Nat → Nat} {F : Nat → Nat → Nat} (a : Nat) (p0 : Nat) (p1 : Nat) (p2 : Nat) (p3 : Nat) (G : XG) (G9 : XG) (x13 : Int32) (x23 : Int32)
    (ha : K a = 3)
    (hp0 : K p0 = 9)
    (hp1 : K p1 = 8)
    (hp2 : K p2 = 8)
    (hp3 : K p3 = 6)
    (hch : CH (vw (G.2.1 (F p1 0))) (vw (G.2.1 (F p2 0))) (aI (G.2.1 (F a 1))) (aI (G.2.1 (F a 0))))
    (oq9 : SO (G9.2.1 (F a 2)) ((G9.1 a 3).toInt))
    (s0 : 0 ≤ ((G.1 p3 6).toInt) ∧ ((G.1 p3 6).toInt) ≤ 990)
    (z0 : (0 ≤ ((G.1 p0 0).toInt) ∧ ((G.1 p0 0).toInt) ≤ 5) ∧ (0 ≤ ((G.1 p0 2).toInt) ∧ ((G.1 p0 2).toInt) ≤ 2) ∧ (0 ≤ ((G.1 p0 3).toInt) ∧ ((G.1 p0 3).toInt) ≤ 2) ∧ (-1 ≤ ((G.1 p0 4).toInt) ∧ ((G.1 p0 4).toInt) ≤ 2) ∧ (((G.1 p0 0).toInt) = 1 ∨ ((G.1 p0 0).toInt) = 3 ∨ ((G.1 p0 0).toInt) = 4 → 0 ≤ ((G.1 p0 4).toInt)))
    (t9 : 0 ≤ ((G9.1 a 3).toInt) ∧ ((G9.1 a 3).toInt) ≤ 60)
    (t13 : ((((G.1 p0 0).toInt) = 1 ∨ ((G.1 p0 0).toInt) = 4) ∧ x13.toInt = 1) ∨ (¬ (((G.1 p0 0).toInt) = 1 ∨ ((G.1 p0 0).toInt) = 4) ∧ x13.toInt = 0))
    (c16 : ¬ (x13.toInt = 0))
    (t23 : (x23.toInt = 1 ∧ 0 ≤ ((G.1 p0 4).toInt) ∧ ((G.1 p0 4).toInt) < 3) ∨ (x23.toInt = 0 ∧ (((G.1 p0 4).toInt) < 0 ∨ 3 ≤ ((G.1 p0 4).toInt))))
    (c26 : x23.toInt = 0) :
    ∀ y : Int, MB (G9.2.1 (F a 2)) ((G9.1 a 3).toInt) y ↔ OFd (vw (G.2.1 (F p1 0))) (vw (G.2.1 (F p2 0))) (aI (G.2.1 (F a 1))) (aI (G.2.1 (F a 0))) ((G.1 p0 0).toInt) ((G.1 p0 2).toInt) ((G.1 p0 3).toInt) ((G.1 p0 4).toInt) y := by
  exfalso; omega
theorem v_X1_addQuestions_39_17 {F : Nat → Nat → Nat} (a : Nat) (G9 : XG)
    (oq9 : SO (G9.2.1 (F a 2)) ((G9.1 a 3).toInt)) :
    SO (G9.2.1 (F a 2)) ((G9.1 a 3).toInt) := by
  exact oq9
theorem v_X1_addQuestions_39_18 {F : Nat → Nat → Nat} (a : Nat) (G39 : XG)
    (oq39 : SO (G39.2.1 (F a 2)) ((G39.1 a 3).toInt)) :
    SO (G39.2.1 (F a 2)) ((G39.1 a 3).toInt) := by
  exact oq39
theorem v_X1_addQuestions_39_19 {K : Nat → Nat} {F : Nat → Nat → Nat} (a : Nat) (p0 : Nat) (p1 : Nat) (p2 : Nat) (p3 : Nat) (G2 : XG) (G : XG) (G9 : XG) (G39 : XG) (x13 : Int32) (x23 : Int32)
    (ha : K a = 3)
    (hp0 : K p0 = 9)
    (hp1 : K p1 = 8)
    (hp2 : K p2 = 8)
    (hp3 : K p3 = 6)
    (hch : CH (vw (G.2.1 (F p1 0))) (vw (G.2.1 (F p2 0))) (aI (G.2.1 (F a 1))) (aI (G.2.1 (F a 0))))
    (oq9 : SO (G9.2.1 (F a 2)) ((G9.1 a 3).toInt))
    (oq9a : ∀ y : Int, MB (G9.2.1 (F a 2)) ((G9.1 a 3).toInt) y ↔ ((((G.1 p0 0).toInt) = 2 ∨ ((G.1 p0 0).toInt) = 5) ∧ 0 ≤ y ∧ y < 30 ∧ bI (aI (G2.2.1 (F a 0)) ((G.1 p0 2).toInt)) y = 1) ∨ (¬ (((G.1 p0 0).toInt) = 2 ∨ ((G.1 p0 0).toInt) = 5) ∧ ∃ k : Int, 0 ≤ k ∧ k < 30 ∧ bI (aI (G2.2.1 (F a 0)) ((G.1 p0 2).toInt)) k = 1 ∧ OV ((G.1 p0 0).toInt) (cel (vw (G.2.1 (F p1 0))) ((G.1 p0 2).toInt) k ((G.1 p0 3).toInt)) (cel (vw (G.2.1 (F p2 0))) ((G.1 p0 2).toInt) k ((G.1 p0 3).toInt)) y))
    (oq39 : SO (G39.2.1 (F a 2)) ((G39.1 a 3).toInt))
    (oq39a : ∀ y : Int, MB (G39.2.1 (F a 2)) ((G39.1 a 3).toInt) y ↔ MB (G9.2.1 (F a 2)) ((G9.1 a 3).toInt) y ∨ (0 ≤ y ∧ y < 30 ∧ bI (aI (G.2.1 (F a 1)) ((G.1 p0 4).toInt)) y = 1))
    (s0 : 0 ≤ ((G.1 p3 6).toInt) ∧ ((G.1 p3 6).toInt) ≤ 990)
    (z0 : (0 ≤ ((G.1 p0 0).toInt) ∧ ((G.1 p0 0).toInt) ≤ 5) ∧ (0 ≤ ((G.1 p0 2).toInt) ∧ ((G.1 p0 2).toInt) ≤ 2) ∧ (0 ≤ ((G.1 p0 3).toInt) ∧ ((G.1 p0 3).toInt) ≤ 2) ∧ (-1 ≤ ((G.1 p0 4).toInt) ∧ ((G.1 p0 4).toInt) ≤ 2) ∧ (((G.1 p0 0).toInt) = 1 ∨ ((G.1 p0 0).toInt) = 3 ∨ ((G.1 p0 0).toInt) = 4 → 0 ≤ ((G.1 p0 4).toInt)))
    (t9 : 0 ≤ ((G9.1 a 3).toInt) ∧ ((G9.1 a 3).toInt) ≤ 60)
    (t13 : ((((G.1 p0 0).toInt) = 1 ∨ ((G.1 p0 0).toInt) = 4) ∧ x13.toInt = 1) ∨ (¬ (((G.1 p0 0).toInt) = 1 ∨ ((G.1 p0 0).toInt) = 4) ∧ x13.toInt = 0))
    (c16 : ¬ (x13.toInt = 0))
    (t23 : (x23.toInt = 1 ∧ 0 ≤ ((G.1 p0 4).toInt) ∧ ((G.1 p0 4).toInt) < 3) ∨ (x23.toInt = 0 ∧ (((G.1 p0 4).toInt) < 0 ∨ 3 ≤ ((G.1 p0 4).toInt))))
    (c26 : ¬ (x23.toInt = 0))
    (t39 : ((G9.1 a 3).toInt) ≤ ((G39.1 a 3).toInt) ∧ ((G39.1 a 3).toInt) ≤ ((G9.1 a 3).toInt) + 30)
    (c_G2_F_a_0 : G2.2.1 (F a 0) = G.2.1 (F a 0)) :
    ∀ y : Int, MB (G39.2.1 (F a 2)) ((G39.1 a 3).toInt) y ↔ OFd (vw (G.2.1 (F p1 0))) (vw (G.2.1 (F p2 0))) (aI (G.2.1 (F a 1))) (aI (G.2.1 (F a 0))) ((G.1 p0 0).toInt) ((G.1 p0 2).toInt) ((G.1 p0 3).toInt) ((G.1 p0 4).toInt) y := by
  intro y
  rw [oq39a y, oq9a y, c_G2_F_a_0]
  unfold OFd
  constructor
  · rintro ((h | h) | h)
    · exact Or.inl h
    · exact Or.inr (Or.inl h)
    · exact Or.inr (Or.inr ⟨by omega, h⟩)
  · rintro (h | h | h)
    · exact Or.inl (Or.inl h)
    · exact Or.inl (Or.inr h)
    · exact Or.inr h.2
