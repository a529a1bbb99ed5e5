/-! ===== what is compared: subjects in a row, changed keys, unlike questions ===== -/
def SO (f : Nat → Int32) (n : Int) : Prop := ∀ i j : Nat, i < j → (j : Int) < n → (f i).toInt < (f j).toInt
def MB (f : Nat → Int32) (n y : Int) : Prop := ∃ i : Nat, (i : Int) < n ∧ (f i).toInt = y
theorem SO_0 {f : Nat → Int32} {n : Int} (h : n ≤ 0) : SO f n := fun i j h1 h2 => absurd h2 (by omega)
theorem MB_0 {f : Nat → Int32} {n y : Int} (h : n ≤ 0) : ¬ MB f n y := fun ⟨i, h1, _⟩ => absurd h1 (by omega)
/-- x is put in at p: those ahead are below, those behind above -/
theorem SO_ins {f g : Nat → Int32} {n x : Int} {p : Nat} {xv : Int32} (hx : xv.toInt = x) (hs : SO f n) (h0 : 0 ≤ n) (hp : (p : Int) ≤ n) (h1 : ∀ i : Nat, i < p → (f i).toInt < x) (h2 : ∀ i : Nat, p ≤ i → (i : Int) < n → x < (f i).toInt) (hg : ∀ i : Nat, (i : Int) ≤ n → g i = insF f p xv i) : SO g (n + 1) ∧ ∀ y : Int, MB g (n + 1) y ↔ MB f n y ∨ y = x := by
  subst hx
  refine ⟨fun i j hij hj => ?_, fun y => ⟨fun ⟨i, hi, hy⟩ => ?_, fun h => ?_⟩⟩
  · rw [hg i (by omega), hg j (by omega)]
    unfold insF
    by_cases a1 : i < p
    · rw [if_pos a1]
      by_cases b1 : j < p
      · rw [if_pos b1]; exact hs i j hij (by omega)
      · rw [if_neg b1]
        by_cases b2 : j = p
        · rw [if_pos b2]; exact h1 i a1
        · rw [if_neg b2]
          have := h2 (j - 1) (by omega) (by omega)
          have := h1 i a1
          omega
    · rw [if_neg a1, if_neg (show ¬ (j < p) by omega), if_neg (show ¬ (j = p) by omega)]
      by_cases a2 : i = p
      · rw [if_pos a2]; exact h2 (j - 1) (by omega) (by omega)
      · rw [if_neg a2]; exact hs (i - 1) (j - 1) (by omega) (by omega)
  · rw [hg i (by omega)] at hy
    unfold insF at hy
    by_cases a1 : i < p
    · rw [if_pos a1] at hy; exact Or.inl ⟨i, by omega, hy⟩
    · rw [if_neg a1] at hy
      by_cases a2 : i = p
      · rw [if_pos a2] at hy; exact Or.inr hy.symm
      · rw [if_neg a2] at hy; exact Or.inl ⟨i - 1, by omega, hy⟩
  · rcases h with ⟨i, hi, hy⟩ | e
    · by_cases a1 : i < p
      · refine ⟨i, by omega, ?_⟩
        rw [hg i (by omega)]
        unfold insF
        rw [if_pos a1]
        exact hy
      · refine ⟨i + 1, by omega, ?_⟩
        rw [hg (i + 1) (by omega)]
        unfold insF
        rw [if_neg (by omega), if_neg (by omega)]
        exact hy
    · refine ⟨p, by omega, ?_⟩
      rw [hg p hp]
      unfold insF
      rw [if_neg (by omega), if_pos rfl]
      exact e.symm
def sbj (kd v : Int) : Prop := ((kd = 2 ∨ kd = 4 ∨ kd = 5) ∧ 0 ≤ v ∧ v < 30) ∨ (¬ (kd = 2 ∨ kd = 4 ∨ kd = 5) ∧ -99 ≤ v ∧ v ≤ 99)
/-- offered by the row k -/
def OV (kd w v y : Int) : Prop := ¬ (w = v ∧ kd ≠ 3) ∧ ((y = w ∧ sbj kd w) ∨ (y = v ∧ sbj kd v))
/-- keys that came or went, and that changed -/
def CHt (r1 r2 : Int → Int) (cg ch : Int → Int) (t : Int) : Prop := ∀ k : Int, 0 ≤ k → k < 30 → (bI (cg t) k = 1 ↔ ¬ (cel r1 t k 0 = -2000 ↔ cel r2 t k 0 = -2000)) ∧ (bI (ch t) k = 1 ↔ (cel r1 t k 0 ≠ cel r2 t k 0 ∨ cel r1 t k 1 ≠ cel r2 t k 1 ∨ cel r1 t k 2 ≠ cel r2 t k 2))
def CH (r1 r2 : Int → Int) (cg ch : Int → Int) : Prop := ∀ t : Int, 0 ≤ t → t < 3 → CHt r1 r2 cg ch t
/-- offered for a rule -/
def OFd (r1 r2 : Int → Int) (cg ch : Int → Int) (kd t c o y : Int) : Prop := ((kd = 2 ∨ kd = 5) ∧ 0 ≤ y ∧ y < 30 ∧ bI (ch t) y = 1) ∨ (¬ (kd = 2 ∨ kd = 5) ∧ ∃ k : Int, 0 ≤ k ∧ k < 30 ∧ bI (ch t) k = 1 ∧ OV kd (cel r1 t k c) (cel r2 t k c) y) ∨ ((kd = 1 ∨ kd = 4) ∧ 0 ≤ y ∧ y < 30 ∧ bI (cg o) y = 1)
theorem hv_cg {r1 r2 : Int → Int} {b v : Int} (h : ∀ k : Int, 0 ≤ k → k < 30 → (r1 (b + k) = v ↔ r2 (b + k) = v)) : hv r1 b v 30 = hv r2 b v 30 := by
  rw [hv_eq, hv_eq]
  have key : ∀ n : Nat, n ≤ 30 → hvR r1 b v n = hvR r2 b v n := by
    intro n
    induction n with
    | zero => intro _; rfl
    | succ n ih =>
      intro hn
      show hvR r1 b v n + (if r1 (b + n) = v then 1 else 0) = hvR r2 b v n + (if r2 (b + n) = v then 1 else 0)
      rw [ih (by omega)]
      have := h n (by omega) (by omega)
      by_cases e : r1 (b + n) = v
      · rw [if_pos e, if_pos (this.mp e)]
      · rw [if_neg e, if_neg (fun q => e (this.mpr q))]
  exact key _ (by omega)
theorem smq_cg {r1 r2 : Int → Int} {b b2 v : Int} (h : ∀ k : Int, 0 ≤ k → k < 30 → (r1 (b + k) = v ↔ r2 (b + k) = v) ∧ (r1 (b + k) = v → r1 (b2 + k) = r2 (b2 + k))) : smq r1 b b2 v 30 = smq r2 b b2 v 30 := by
  rw [smq_eq, smq_eq]
  have key : ∀ n : Nat, n ≤ 30 → smR r1 b b2 v n = smR r2 b b2 v n := by
    intro n
    induction n with
    | zero => intro _; rfl
    | succ n ih =>
      intro hn
      show smR r1 b b2 v n + (if r1 (b + n) = v then (if r1 (b2 + n) = -1000 then 0 else r1 (b2 + n)) else 0) = smR r2 b b2 v n + (if r2 (b + n) = v then (if r2 (b2 + n) = -1000 then 0 else r2 (b2 + n)) else 0)
      rw [ih (by omega)]
      obtain ⟨h1, h2⟩ := h n (by omega) (by omega)
      by_cases e : r1 (b + n) = v
      · rw [if_pos e, if_pos (h1.mp e), h2 e]
      · rw [if_neg e, if_neg (fun q => e (h1.mpr q))]
  exact key _ (by omega)
/-- what is unlike was offered -/
theorem OFd.all {r1 r2 cg ch : Int → Int} {kd t c o y : Int} (h : CH r1 r2 cg ch) (hk : 0 ≤ kd ∧ kd ≤ 5) (ht : 0 ≤ t ∧ t ≤ 2) (hc : 0 ≤ c ∧ c ≤ 2) (ho : kd = 1 ∨ kd = 3 ∨ kd = 4 → 0 ≤ o ∧ o ≤ 2) (hy : sbj kd y) (hu : stt r1 kd t c o y ≠ stt r2 kd t c o y) : OFd r1 r2 cg ch kd t c o y := by
  have hC := h t ht.1 (by omega)
  have hcel : ∀ (r : Int → Int) (k : Int), 0 ≤ k → k < 30 → cel r t k c = r (90 * t + 30 * c + k) := fun r k a b => cel_in (by omega)
  -- no key that changed has y here or there
  have main : (∀ k : Int, 0 ≤ k → k < 30 → bI (ch t) k = 1 → ¬ OV kd (cel r1 t k c) (cel r2 t k c) y) → ∀ k : Int, 0 ≤ k → k < 30 → (r1 (90 * t + 30 * c + k) = y ↔ r2 (90 * t + 30 * c + k) = y) := by
    intro hn k k0 k1
    rw [← hcel r1 k k0 k1, ← hcel r2 k k0 k1]
    by_cases hb : bI (ch t) k = 1
    · have := hn k k0 k1 hb
      unfold OV at this
      constructor
      · intro e
        by_cases q : cel r1 t k c = cel r2 t k c
        · rw [← q]; exact e
        · exact absurd ⟨fun z => q z.1, Or.inl ⟨e.symm, by rw [e]; exact hy⟩⟩ this
      · intro e
        by_cases q : cel r1 t k c = cel r2 t k c
        · rw [q]; exact e
        · exact absurd ⟨fun z => q z.1, Or.inr ⟨e.symm, by rw [e]; exact hy⟩⟩ this
    · have hs : cel r1 t k c = cel r2 t k c := by
        have h2 := (hC k k0 k1).2
        have h3 : ¬ (cel r1 t k 0 ≠ cel r2 t k 0 ∨ cel r1 t k 1 ≠ cel r2 t k 1 ∨ cel r1 t k 2 ≠ cel r2 t k 2) := fun z => hb (h2.mpr z)
        have hc3 : c = 0 ∨ c = 1 ∨ c = 2 := by omega
        rcases hc3 with e | e | e <;> subst e <;> omega
      rw [hs]
  by_cases k25 : kd = 2 ∨ kd = 5
  · refine Or.inl ⟨k25, ?_⟩
    have e1 := (stt_k (r := r1) (kd := kd) (t := t) (c := c) (o := o) (s := y)).2.2.2 k25
    have e2 := (stt_k (r := r2) (kd := kd) (t := t) (c := c) (o := o) (s := y)).2.2.2 k25
    rw [e1, e2] at hu
    have hy2 : 0 ≤ y ∧ y < 30 := by unfold sbj at hy; omega
    refine ⟨hy2.1, hy2.2, ((hC y hy2.1 hy2.2).2).mpr ?_⟩
    have hc3 : c = 0 ∨ c = 1 ∨ c = 2 := by omega
    rcases hc3 with e | e | e <;> subst e <;> omega
  · by_cases hA : ∃ k : Int, 0 ≤ k ∧ k < 30 ∧ bI (ch t) k = 1 ∧ OV kd (cel r1 t k c) (cel r2 t k c) y
    · exact Or.inr (Or.inl ⟨k25, hA⟩)
    · have hn : ∀ k : Int, 0 ≤ k → k < 30 → bI (ch t) k = 1 → ¬ OV kd (cel r1 t k c) (cel r2 t k c) y := fun k a b d e => hA ⟨k, a, b, d, e⟩
      have hm := main hn
      have hh : hv r1 (90 * t + 30 * c) y 30 = hv r2 (90 * t + 30 * c) y 30 := hv_cg hm
      have s1 := stt_k (r := r1) (kd := kd) (t := t) (c := c) (o := o) (s := y)
      have s2 := stt_k (r := r2) (kd := kd) (t := t) (c := c) (o := o) (s := y)
      by_cases k0 : kd = 0
      · exact absurd (by rw [s1.1 k0, s2.1 k0, hh]) hu
      · by_cases k3 : kd = 3
        · have hsm : smq r1 (90 * t + 30 * c) (90 * t + 30 * o) y 30 = smq r2 (90 * t + 30 * c) (90 * t + 30 * o) y 30 := by
            refine smq_cg (fun k a b => ⟨hm k a b, fun e => ?_⟩)
            have hoo := ho (Or.inr (Or.inl k3))
            by_cases hb : bI (ch t) k = 1
            · exfalso
              refine hn k a b hb ⟨fun z => z.2 k3, Or.inl ⟨?_, ?_⟩⟩
              · rw [hcel r1 k a b]; exact e.symm
              · rw [hcel r1 k a b, e]; exact hy
            · have h3 : ¬ (cel r1 t k 0 ≠ cel r2 t k 0 ∨ cel r1 t k 1 ≠ cel r2 t k 1 ∨ cel r1 t k 2 ≠ cel r2 t k 2) := fun z => hb (((hC k a b).2).mpr z)
              have q : cel r1 t k o = cel r2 t k o := by
                have hc3 : o = 0 ∨ o = 1 ∨ o = 2 := by omega
                rcases hc3 with e | e | e <;> subst e <;> omega
              rw [cel_in (by omega), cel_in (by omega)] at q
              exact q
          have a1 := s1.2.2.1 k3
          have a2 := s2.2.2.1 k3
          rw [hh, hsm] at a1
          exfalso
          apply hu
          rcases a1 with ⟨x1, x2⟩ | ⟨x1, x2⟩ <;> rcases a2 with ⟨y1, y2⟩ | ⟨y1, y2⟩ <;> omega
        · have k14 : kd = 1 ∨ kd = 4 := by omega
          have hoo := ho (by omega)
          refine Or.inr (Or.inr ⟨k14, ?_⟩)
          have a1 := s1.2.1 k14
          have a2 := s2.2.1 k14
          rw [hh] at a1
          by_cases hy3 : 0 ≤ y ∧ y < 30
          · refine ⟨hy3.1, hy3.2, ((h o hoo.1 (by omega) y hy3.1 hy3.2).1).mpr (fun q => hu ?_)⟩
            rcases a1 with ⟨x1, x2⟩ | ⟨x1, x2⟩ <;> rcases a2 with ⟨y1, y2⟩ | ⟨y1, y2⟩
            · omega
            · exact absurd (q.mp x1) y1
            · exact absurd (q.mpr y1) x1
            · omega
          · exfalso
            apply hu
            have z1 : cel r1 o y 0 = -2000 := cel_out (by omega)
            have z2 : cel r2 o y 0 = -2000 := cel_out (by omega)
            rcases a1 with ⟨x1, x2⟩ | ⟨x1, x2⟩ <;> rcases a2 with ⟨y1, y2⟩ | ⟨y1, y2⟩ <;> omega
/-- lists in order with the same members are the same -/
theorem sorted_ext : ∀ (l1 l2 : List Int), l1.Pairwise (· < ·) → l2.Pairwise (· < ·) → (∀ x, x ∈ l1 ↔ x ∈ l2) → l1 = l2
  | [], [], _, _, _ => rfl
  | [], y :: l2, _, _, h => absurd ((h y).mpr (List.mem_cons_self)) (by simp)
  | x :: l1, [], _, _, h => absurd ((h x).mp (List.mem_cons_self)) (by simp)
  | x :: l1, y :: l2, h1, h2, h => by
    rw [List.pairwise_cons] at h1 h2
    have e : x = y := by
      rcases List.mem_cons.mp ((h x).mp List.mem_cons_self) with q | q
      · exact q
      · rcases List.mem_cons.mp ((h y).mpr List.mem_cons_self) with r | r
        · exact r.symm
        · have := h2.1 x q
          have := h1.1 y r
          omega
    subst e
    congr 1
    refine sorted_ext l1 l2 h1.2 h2.2 (fun z => ⟨fun hz => ?_, fun hz => ?_⟩)
    · rcases List.mem_cons.mp ((h z).mp (List.mem_cons_of_mem _ hz)) with q | q
      · have := h1.1 z hz
        omega
      · exact q
    · rcases List.mem_cons.mp ((h z).mpr (List.mem_cons_of_mem _ hz)) with q | q
      · have := h2.1 z hz
        omega
      · exact q
/-- all subjects of a kind, in order -/
def subs (kd : Int) : List Int := if kd = 2 ∨ kd = 4 ∨ kd = 5 then (List.range 30).map (fun i : Nat => (i : Int)) else (List.range 199).map (fun i : Nat => (i : Int) - 99)
theorem subs_mem (kd x : Int) : x ∈ subs kd ↔ sbj kd x := by
  unfold subs sbj
  split
  · rename_i h
    rw [List.mem_map]
    constructor
    · rintro ⟨i, hi, rfl⟩
      rw [List.mem_range] at hi
      exact Or.inl ⟨h, by omega, by omega⟩
    · intro q
      refine ⟨x.toNat, List.mem_range.mpr (by omega), by omega⟩
  · rename_i h
    rw [List.mem_map]
    constructor
    · rintro ⟨i, hi, rfl⟩
      rw [List.mem_range] at hi
      exact Or.inr ⟨h, by omega, by omega⟩
    · intro q
      refine ⟨(x + 99).toNat, List.mem_range.mpr (by omega), by omega⟩
theorem subs_so (kd : Int) : (subs kd).Pairwise (· < ·) := by
  unfold subs
  split
  · refine List.Pairwise.map _ (fun a b h => ?_) (List.pairwise_lt_range)
    omega
  · refine List.Pairwise.map _ (fun a b h => ?_) (List.pairwise_lt_range)
    omega
theorem lst_so {f : Nat → Int} {n : Nat} (h : ∀ i j, i < j → j < n → f i < f j) : (lst f n).Pairwise (· < ·) := by
  unfold lst
  refine List.Pairwise.map f (R := fun a b => a < b ∧ b < n) (fun a b hab => h a b hab.1 hab.2) ?_
  refine List.Pairwise.imp_of_mem (fun {a b} ha hb hab => ⟨hab, List.mem_range.mp hb⟩) (List.pairwise_lt_range)
theorem lst_mem {α : Type} {f : Nat → α} {n : Nat} {x : α} : x ∈ lst f n ↔ ∃ i, i < n ∧ f i = x := by
  unfold lst
  rw [List.mem_map]
  constructor
  · rintro ⟨i, hi, e⟩
    exact ⟨i, List.mem_range.mp hi, e⟩
  · rintro ⟨i, hi, e⟩
    exact ⟨i, List.mem_range.mpr hi, e⟩
/-- the question of a rule at s, if its states are unlike -/
noncomputable def uq1 (r1 r2 : Int → Int) (q : Nat → Int32) (s : Int) : Option Qt :=
  if stt r1 (q 0).toInt (q 2).toInt (q 3).toInt (q 4).toInt s ≠ stt r2 (q 0).toInt (q 2).toInt (q 3).toInt (q 4).toInt s then some ((q 1).toInt, s, stt r1 (q 0).toInt (q 2).toInt (q 3).toInt (q 4).toInt s, stt r2 (q 0).toInt (q 2).toInt (q 3).toInt (q 4).toInt s, (q 9).toInt, flq r2 (q 0).toInt (q 2).toInt (q 3).toInt (q 5).toInt (q 6).toInt s (stt r2 (q 0).toInt (q 2).toInt (q 3).toInt (q 4).toInt s)) else none
noncomputable def uqs (r1 r2 : Int → Int) (q : Nat → Int32) : List Qt := (subs (q 0).toInt).filterMap (uq1 r1 r2 q)
theorem filterMap_on {α : Type} (g : Int → Option α) : ∀ l : List Int, l.filterMap g = (l.filter (fun x => (g x).isSome)).filterMap g
  | [] => rfl
  | x :: l => by
    cases h : g x with
    | none =>
      rw [List.filterMap_cons_none h, List.filter_cons_of_neg (by rw [h]; exact Bool.false_ne_true)]
      exact filterMap_on g l
    | some y =>
      rw [List.filterMap_cons_some h, List.filter_cons_of_pos (by rw [h]; rfl), List.filterMap_cons_some h, filterMap_on g l]
theorem uqs_of {r1 r2 : Int → Int} {q : Nat → Int32} {f : Nat → Int32} {n : Int} (h0 : 0 ≤ n) (hs : SO f n) (hm : ∀ y, MB f n y → sbj (q 0).toInt y) (hc : ∀ y, sbj (q 0).toInt y → stt r1 (q 0).toInt (q 2).toInt (q 3).toInt (q 4).toInt y ≠ stt r2 (q 0).toInt (q 2).toInt (q 3).toInt (q 4).toInt y → MB f n y) : (lst (fun i => (f i).toInt) n.toNat).filterMap (uq1 r1 r2 q) = uqs r1 r2 q := by
  unfold uqs
  rw [filterMap_on _ (lst _ _), filterMap_on _ (subs _)]
  congr 1
  refine sorted_ext _ _ (List.Pairwise.filter _ (lst_so (fun i j a b => hs i j a (by omega)))) (List.Pairwise.filter _ (subs_so _)) (fun x => ?_)
  rw [List.mem_filter, List.mem_filter, subs_mem, lst_mem]
  constructor
  · rintro ⟨⟨i, hi, e⟩, h2⟩
    exact ⟨hm x ⟨i, by omega, e⟩, h2⟩
  · rintro ⟨h1, h2⟩
    have h3 : stt r1 (q 0).toInt (q 2).toInt (q 3).toInt (q 4).toInt x ≠ stt r2 (q 0).toInt (q 2).toInt (q 3).toInt (q 4).toInt x := by
      intro e
      unfold uq1 at h2
      rw [if_neg (fun z => z e)] at h2
      cases h2
    obtain ⟨i, hi, e⟩ := hc x h1 h3
    exact ⟨⟨i, by omega, e⟩, h2⟩
