/-! ===== the making of objects: a world with loose cells ===== -/
def LD (L : va_W) : Prop := ∀ (i j : Nat) (x y : Nat × va_E), L[i]? = some x → L[j]? = some y → x.1 = y.1 → i = j
def TLk (E : XE) (K : Nat → Nat) (F : Nat → Nat → Nat) (G : XG) (ws : va_W) : Prop := ∀ a : Nat, K a ≠ 0 → ∃ (i : Nat) (e : va_E), ws[i]? = some (a, e) ∧ SHQ E K F G a (K a) e
def TX (E : XE) (K : Nat → Nat) (F : Nat → Nat → Nat) (G : XG) (L : va_W) (H : Heap) : Prop := ∃ ws, TLk E K F G ws ∧ (∀ q ∈ L, K q.1 = 0 ∧ ∃ i : Nat, ws[i]? = some q) ∧ LD L ∧ va_P E.1 vwCl ws H ∧ va_D (xA E) ws
def N11 (K : Nat → Nat) : Prop := ∀ b, K b ≠ 11
/-- more is made, what was there is as it was -/
def GR (K : Nat → Nat) (F : Nat → Nat → Nat) (G : XG) (K1 : Nat → Nat) (F1 : Nat → Nat → Nat) (G1 : XG) : Prop := KM K K1 ∧ (∀ b, K b ≠ 0 → F1 b = F b ∧ G1.1 b = G.1 b ∧ G1.2.1 b = G.2.1 b ∧ G1.2.2.1 b = G.2.2.1 b) ∧ G1.2.2.2 = G.2.2.2
theorem GR.rf {K : Nat → Nat} {F : Nat → Nat → Nat} {G : XG} : GR K F G K F G := ⟨KM.rf, fun _ _ => ⟨rfl, rfl, rfl, rfl⟩, rfl⟩
theorem GR.tr {K K1 K2 : Nat → Nat} {F F1 F2 : Nat → Nat → Nat} {G G1 G2 : XG} (h : GR K F G K1 F1 G1) (g : GR K1 F1 G1 K2 F2 G2) : GR K F G K2 F2 G2 := by
  refine ⟨h.1.tr g.1, fun b hb => ?_, g.2.2.trans h.2.2⟩
  obtain ⟨a1, a2, a3, a4⟩ := h.2.1 b hb
  obtain ⟨b1, b2, b3, b4⟩ := g.2.1 b (by rw [h.1 b _ rfl hb]; exact hb)
  exact ⟨b1.trans a1, b2.trans a2, b3.trans a3, b4.trans a4⟩
theorem GR.k {K K1 : Nat → Nat} {F F1 : Nat → Nat → Nat} {G G1 : XG} (h : GR K F G K1 F1 G1) {q k : Nat} (hk : K q = k) (h0 : k ≠ 0) : K1 q = k := h.1 q k hk h0
theorem GR.at {K K1 : Nat → Nat} {F F1 : Nat → Nat → Nat} {G G1 : XG} (h : GR K F G K1 F1 G1) {q k : Nat} (hk : K q = k) (h0 : k ≠ 0) : F1 q = F q ∧ G1.1 q = G.1 q ∧ G1.2.1 q = G.2.1 q ∧ G1.2.2.1 q = G.2.2.1 q := h.2.1 q (by rw [hk]; exact h0)
theorem LD.tl {x : Nat × va_E} {L : va_W} (h : LD (x :: L)) : LD L := fun i j y z h1 h2 e => by
  have := h (i + 1) (j + 1) y z h1 h2 e
  omega
theorem LD.nx {x : Nat × va_E} {L : va_W} (h : LD (x :: L)) : ∀ q ∈ L, q.1 ≠ x.1 := fun q hq e => by
  obtain ⟨i, hi⟩ := List.mem_iff_getElem?.mp hq
  have := h (i + 1) 0 q x hi rfl e
  omega
theorem LD.cons {x : Nat × va_E} {L : va_W} (h : LD L) (hx : ∀ q ∈ L, q.1 ≠ x.1) : LD (x :: L) := fun i j y z h1 h2 e => by
  match i, j with
  | 0, 0 => rfl
  | 0, j + 1 =>
    have h1 : some x = some y := h1
    cases h1
    exact absurd e.symm (hx z (List.mem_of_getElem? h2))
  | i + 1, 0 =>
    have h2 : some x = some z := h2
    cases h2
    exact absurd e (hx y (List.mem_of_getElem? h1))
  | i + 1, j + 1 =>
    have := h i j y z h1 h2 e
    omega
theorem LD.set {L : va_W} {i a : Nat} {e e' : va_E} (h : LD L) (hi : L[i]? = some (a, e)) : LD (L.set i (a, e')) := by
  have key : ∀ (j : Nat) (y : Nat × va_E), (L.set i (a, e'))[j]? = some y → ∃ z : Nat × va_E, L[j]? = some z ∧ z.1 = y.1 := by
    intro j y hy
    by_cases hj : i = j
    · subst hj
      rw [List.getElem?_set_self (List.getElem?_eq_some_iff.mp hi).1] at hy
      cases hy
      exact ⟨_, hi, rfl⟩
    · rw [List.getElem?_set_ne hj] at hy
      exact ⟨y, hy, rfl⟩
  intro j k y z h1 h2 e
  obtain ⟨y', a1, a2⟩ := key j y h1
  obtain ⟨z', b1, b2⟩ := key k z h2
  exact h j k y' z' a1 b1 (by rw [a2, b2]; exact e)
theorem SHP.far {E : XE} {K : Nat → Nat} {F F1 : Nat → Nat → Nat} {d c : Nat → Int32} {r : Nat → Option Nat} {l : Nat → Int64} {a k : Nat} {e : va_E} (hF : F1 a = F a) (h9 : ∀ b, K b ≠ 0 → F1 b = F b) (h : SHP E K F d c r l a k e) : SHP E K F1 d c r l a k e := by
  unfold SHP at h ⊢
  split at h
  · obtain ⟨q0, q1, q2, q3, q4⟩ := h
    exact ⟨by (try rw [hF]); exact q0, by rw [hF]; exact q1, by rw [hF, h9 _ (by rw [q1]; decide)]; exact q2, by rw [hF]; exact q3, by rw [hF, h9 _ (by rw [q3]; decide)]; exact q4⟩
  · obtain ⟨q0, q1, q2, q3, q4, q5, q6⟩ := h
    exact ⟨by (try rw [hF]); exact q0, by rw [hF]; exact q1, by rw [hF, h9 _ (by rw [q1]; decide)]; exact q2, by rw [hF]; exact q3, by rw [hF, h9 _ (by rw [q3]; decide)]; exact q4, by rw [hF]; exact q5, by rw [hF, h9 _ (by rw [q5]; decide)]; exact q6⟩
  · obtain ⟨q0, q1, q2, q3, q4, q5, q6, q7, q8⟩ := h
    exact ⟨by (try rw [hF]); exact q0, by rw [hF]; exact q1, by rw [hF, h9 _ (by rw [q1]; decide)]; exact q2, by rw [hF]; exact q3, by rw [hF, h9 _ (by rw [q3]; decide)]; exact q4, by rw [hF]; exact q5, by rw [hF, h9 _ (by rw [q5]; decide)]; exact q6, by rw [hF]; exact q7, by rw [hF, h9 _ (by rw [q7]; decide)]; exact q8⟩
  · obtain ⟨q0, q1, q2, q3, q4, q5, q6⟩ := h
    exact ⟨by (try rw [hF]); exact q0, by rw [hF]; exact q1, by rw [hF, h9 _ (by rw [q1]; decide)]; exact q2, by rw [hF]; exact q3, by rw [hF, h9 _ (by rw [q3]; decide)]; exact q4, by rw [hF]; exact q5, by rw [hF, h9 _ (by rw [q5]; decide)]; exact q6⟩
  · obtain ⟨q0, q1, q2, q3, q4, q5, q6, q7, q8, q9, q10, q11, q12⟩ := h
    exact ⟨by (try rw [hF]); exact q0, by rw [hF]; exact q1, by rw [hF, h9 _ (by rw [q1]; decide)]; exact q2, by rw [hF]; exact q3, by rw [hF, h9 _ (by rw [q3]; decide)]; exact q4, by rw [hF]; exact q5, by rw [hF, h9 _ (by rw [q5]; decide)]; exact q6, by rw [hF]; exact q7, by rw [hF, h9 _ (by rw [q7]; decide)]; exact q8, by rw [hF]; exact q9, by rw [hF, h9 _ (by rw [q9]; decide)]; exact q10, by rw [hF]; exact q11, by rw [hF, h9 _ (by rw [q11]; decide)]; exact q12⟩
  · obtain ⟨q0, q1, q2, q3⟩ := h
    exact ⟨by (try rw [hF]); exact q0, by rw [hF]; exact q1, by rw [hF, h9 _ (by rw [q1]; decide)]; exact q2, q3⟩
  · obtain ⟨q0, q1, q2, q3, q4⟩ := h
    exact ⟨by (try rw [hF]); exact q0, by rw [hF]; exact q1, by rw [hF, h9 _ (by rw [q1]; decide)]; exact q2, by rw [hF]; exact q3, by rw [hF, h9 _ (by rw [q3]; decide)]; exact q4⟩
  · obtain ⟨q0, q1⟩ := h
    exact ⟨by (try rw [hF]); exact q0, q1⟩
  · obtain ⟨q0, q1, q2⟩ := h
    exact ⟨by (try rw [hF]); exact q0, by rw [hF]; exact q1, by rw [hF, h9 _ (by rw [q1]; decide)]; exact q2⟩
  · obtain ⟨q0, q1⟩ := h
    exact ⟨by (try rw [hF]); exact q0, q1⟩
  · obtain ⟨q0, q1, q2, q3, q4, q5, q6, q7, q8, q9, q10, q11, q12, q13, q14, q15, q16, q17, q18, q19, q20, q21, q22, q23, q24, q25, q26, q27, q28, q29, q30, q31, q32, q33, q34, q35⟩ := h
    exact ⟨by (try rw [hF]); exact q0, by rw [hF]; exact q1, by rw [hF, h9 _ (by rw [q1]; decide)]; exact q2, by rw [hF]; exact q3, by rw [hF, h9 _ (by rw [q3]; decide)]; exact q4, by rw [hF]; exact q5, by rw [hF, h9 _ (by rw [q5]; decide)]; exact q6, by rw [hF]; exact q7, by rw [hF, h9 _ (by rw [q7]; decide)]; exact q8, by rw [hF]; exact q9, by rw [hF, h9 _ (by rw [q9]; decide)]; exact q10, by rw [hF]; exact q11, by rw [hF, h9 _ (by rw [q11]; decide)]; exact q12, by rw [hF]; exact q13, by rw [hF, h9 _ (by rw [q13]; decide)]; exact q14, by rw [hF]; exact q15, by rw [hF, h9 _ (by rw [q15]; decide)]; exact q16, by rw [hF]; exact q17, by rw [hF, h9 _ (by rw [q17]; decide)]; exact q18, by rw [hF]; exact q19, by rw [hF, h9 _ (by rw [q19]; decide)]; exact q20, by rw [hF]; exact q21, by rw [hF, h9 _ (by rw [q21]; decide)]; exact q22, by rw [hF]; exact q23, by rw [hF, h9 _ (by rw [q23]; decide)]; exact q24, by rw [hF]; exact q25, by rw [hF, h9 _ (by rw [q25]; decide)]; exact q26, by rw [hF]; exact q27, by rw [hF, h9 _ (by rw [q27]; decide)]; exact q28, by rw [hF]; exact q29, by rw [hF, h9 _ (by rw [q29]; decide)]; exact q30, by rw [hF]; exact q31, by rw [hF, h9 _ (by rw [q31]; decide)]; exact q32, by rw [hF]; exact q33, by rw [hF, h9 _ (by rw [q33]; decide)]; exact q34, q35⟩
  · obtain ⟨q0, q1, q2, q3, q4, q5, q6, q7, q8, q9, q10, q11, q12, q13, q14, q15, q16, q17, q18, q19, q20, q21, q22, q23, q24, q25, q26, q27, q28, q29, q30, q31, q32, q33, q34, q35, q36, q37, q38, q39, q40, q41, q42, q43, q44, q45, q46, q47, q48, q49, q50, q51, q52, q53, q54, q55, q56, q57, q58, q59, q60, q61, q62, q63, q64, q65, q66, q67, q68, q69, q70, q71, q72, q73, q74⟩ := h
    exact ⟨by (try rw [hF]); exact q0, by rw [hF]; exact q1, by rw [hF, h9 _ (by rw [q1]; decide)]; exact q2, by rw [hF]; exact q3, by rw [hF, h9 _ (by rw [q3]; decide)]; exact q4, by rw [hF]; exact q5, by rw [hF, h9 _ (by rw [q5]; decide)]; exact q6, by rw [hF]; exact q7, by rw [hF, h9 _ (by rw [q7]; decide)]; exact q8, by rw [hF]; exact q9, by rw [hF, h9 _ (by rw [q9]; decide)]; exact q10, q11, by rw [hF]; exact q12, by rw [hF, h9 _ (by rw [q12]; decide)]; exact q13, by rw [hF]; exact q14, by rw [hF, h9 _ (by rw [q14]; decide)]; exact q15, by rw [hF]; exact q16, by rw [hF, h9 _ (by rw [q16]; decide)]; exact q17, by rw [hF]; exact q18, by rw [hF, h9 _ (by rw [q18]; decide)]; exact q19, by rw [hF]; exact q20, by rw [hF, h9 _ (by rw [q20]; decide)]; exact q21, by rw [hF]; exact q22, by rw [hF, h9 _ (by rw [q22]; decide)]; exact q23, by rw [hF]; exact q24, by rw [hF, h9 _ (by rw [q24]; decide)]; exact q25, by rw [hF]; exact q26, by rw [hF, h9 _ (by rw [q26]; decide)]; exact q27, by rw [hF]; exact q28, by rw [hF, h9 _ (by rw [q28]; decide)]; exact q29, by rw [hF]; exact q30, by rw [hF, h9 _ (by rw [q30]; decide)]; exact q31, by rw [hF]; exact q32, by rw [hF, h9 _ (by rw [q32]; decide)]; exact q33, by rw [hF]; exact q34, by rw [hF, h9 _ (by rw [q34]; decide)]; exact q35, by rw [hF]; exact q36, by rw [hF, h9 _ (by rw [q36]; decide)]; exact q37, by rw [hF]; exact q38, by rw [hF, h9 _ (by rw [q38]; decide)]; exact q39, by rw [hF]; exact q40, by rw [hF, h9 _ (by rw [q40]; decide)]; exact q41, by rw [hF]; exact q42, by rw [hF, h9 _ (by rw [q42]; decide)]; exact q43, by rw [hF]; exact q44, by rw [hF, h9 _ (by rw [q44]; decide)]; exact q45, by rw [hF]; exact q46, by rw [hF, h9 _ (by rw [q46]; decide)]; exact q47, by rw [hF]; exact q48, by rw [hF, h9 _ (by rw [q48]; decide)]; exact q49, by rw [hF]; exact q50, by rw [hF, h9 _ (by rw [q50]; decide)]; exact q51, by rw [hF]; exact q52, by rw [hF, h9 _ (by rw [q52]; decide)]; exact q53, by rw [hF]; exact q54, by rw [hF, h9 _ (by rw [q54]; decide)]; exact q55, by rw [hF]; exact q56, by rw [hF, h9 _ (by rw [q56]; decide)]; exact q57, q58, by rw [hF]; exact q59, by rw [hF, h9 _ (by rw [q59]; decide)]; exact q60, by rw [hF]; exact q61, by rw [hF, h9 _ (by rw [q61]; decide)]; exact q62, by rw [hF]; exact q63, by rw [hF, h9 _ (by rw [q63]; decide)]; exact q64, by rw [hF]; exact q65, by rw [hF, h9 _ (by rw [q65]; decide)]; exact q66, by rw [hF]; exact q67, by rw [hF, h9 _ (by rw [q67]; decide)]; exact q68, by rw [hF]; exact q69, by rw [hF, h9 _ (by rw [q69]; decide)]; exact q70, by rw [hF]; exact q71, by rw [hF, h9 _ (by rw [q71]; decide)]; exact q72, by rw [hF]; exact q73, by rw [hF, h9 _ (by rw [q73]; decide)]; exact q74⟩
  · exact h
  · exact h
  · refine ⟨h.1, fun i hi => ?_⟩
    obtain ⟨q, h3, h4, h5⟩ := h.2 i hi
    exact ⟨q, h3, h4, by rw [h9 q (by rw [h4]; decide)]; exact h5⟩
  · first | exact h | (split <;> first | exact h | (exfalso; simp_all; done))
theorem SHP.vd {E : XE} {K : Nat → Nat} {F : Nat → Nat → Nat} {d c : Nat → Int32} {r : Nat → Option Nat} {l : Nat → Int64} {a k sb : Nat} {e : va_E} (hk : k ≠ 11) (h : SHP E K F d c r l a k e) : SHP (E.1, E.2.1, E.2.2.1, sb, E.2.2.2.2) K F d c r l a k e := by
  unfold SHP at h ⊢
  split at h
  all_goals first | exact h | exact absurd rfl hk | (split <;> first | exact h | (exfalso; simp_all; done))
theorem TLk.push {E : XE} {K : Nat → Nat} {F : Nat → Nat → Nat} {G : XG} {ws : va_W} {x : Nat × va_E} (h : TLk E K F G ws) : TLk E K F G (ws ++ [x]) := fun a ha => by
  obtain ⟨i, e, h1, h2⟩ := h a ha
  exact ⟨i, e, by rw [List.getElem?_append_left (List.getElem?_eq_some_iff.mp h1).1]; exact h1, h2⟩
theorem TLk.set {E : XE} {K : Nat → Nat} {F : Nat → Nat → Nat} {G : XG} {ws : va_W} {j a : Nat} {e e' : va_E} (h : TLk E K F G ws) (hj : ws[j]? = some (a, e)) (ha : K a = 0) : TLk E K F G (ws.set j (a, e')) := fun b hb => by
  obtain ⟨i, x, h1, h2⟩ := h b hb
  exact ⟨i, x, set_at hj h1 (fun q => hb (by rw [q]; exact ha)), h2⟩
theorem TX.push {E : XE} {K : Nat → Nat} {F : Nat → Nat → Nat} {G : XG} {L ws : va_W} {H1 : Heap} {q : Nat} {e : va_E} (hw : TLk E K F G ws) (hL : ∀ q ∈ L, K q.1 = 0 ∧ ∃ i : Nat, ws[i]? = some q) (hl : LD L) (hP : va_P E.1 vwCl (ws ++ [(q, e)]) H1) (hD : va_D (xA E) (ws ++ [(q, e)])) : TX E K F G ((q, e) :: L) H1 := by
  have up : ∀ (i : Nat) (x : Nat × va_E), ws[i]? = some x → (ws ++ [(q, e)])[i]? = some x := fun i x h => by rw [List.getElem?_append_left (List.getElem?_eq_some_iff.mp h).1]; exact h
  have here : (ws ++ [(q, e)])[ws.length]? = some (q, e) := by simp
  have ap : ∀ (i : Nat) (x : Nat × va_E), ws[i]? = some x → x.1 ≠ q := fun i x h z => by
    have hl := (List.getElem?_eq_some_iff.mp h).1
    have := hD.1 _ _ _ _ (up _ _ h) here z
    omega
  have hq : K q = 0 := by
    by_cases z : K q = 0
    · exact z
    · obtain ⟨i, x, h1, -⟩ := hw q z
      exact absurd rfl (ap _ _ h1)
  refine ⟨_, hw.push, ?_, hl.cons (fun x hx => ?_), hP, hD⟩
  · intro x hx
    rcases List.mem_cons.mp hx with h | h
    · subst h
      exact ⟨hq, _, here⟩
    · obtain ⟨h1, i, h2⟩ := hL x h
      exact ⟨h1, i, up _ _ h2⟩
  · obtain ⟨h1, i, h2⟩ := hL x hx
    exact ap _ _ h2
theorem TX.up {E : XE} {K : Nat → Nat} {F : Nat → Nat → Nat} {G : XG} {L ws : va_W} {H1 : Heap} {i j a : Nat} {e e' : va_E} (hw : TLk E K F G ws) (hL : ∀ q ∈ L, K q.1 = 0 ∧ ∃ i : Nat, ws[i]? = some q) (hl : LD L) (hi : L[i]? = some (a, e)) (hj : ws[j]? = some (a, e)) (hP : va_P E.1 vwCl (ws.set j (a, e')) H1) (hD : va_D (xA E) (ws.set j (a, e'))) : TX E K F G (L.set i (a, e')) H1 := by
  have ha := (hL _ (List.mem_of_getElem? hi)).1
  refine ⟨_, hw.set hj ha, ?_, hl.set hi, hP, hD⟩
  intro x hx
  obtain ⟨k, hk⟩ := List.mem_iff_getElem?.mp hx
  by_cases e9 : i = k
  · subst e9
    rw [List.getElem?_set_self (List.getElem?_eq_some_iff.mp hi).1] at hk
    cases hk
    exact ⟨ha, j, set_here hj⟩
  · rw [List.getElem?_set_ne e9] at hk
    obtain ⟨h1, z, h2⟩ := hL x (List.mem_of_getElem? hk)
    refine ⟨h1, z, set_at hj h2 ?_⟩
    intro q
    exact e9 (hl i k _ _ hi hk q.symm)
/-- a cell that is as its kind wants it -/
theorem TX.cl {E : XE} {K : Nat → Nat} {F : Nat → Nat → Nat} {G : XG} {L : va_W} {H : Heap} {a : Nat} {e : va_E} (h : TX E K F G ((a, e) :: L) H) (k : Nat) (fv : Nat → Nat) (d c : Nat → Int32) (r : Nat → Option Nat) (hk0 : k ≠ 0) (hs : ∀ (K1 : Nat → Nat) (F1 : Nat → Nat → Nat), KM K K1 → (∀ b, K b ≠ 0 → F1 b = F b) → F1 a = fv → SHP E K1 F1 d c r G.2.2.2 a k e) : ∃ (K1 : Nat → Nat) (F1 : Nat → Nat → Nat) (G1 : XG), GR K F G K1 F1 G1 ∧ K1 a = k ∧ F1 a = fv ∧ G1.1 a = d ∧ G1.2.1 a = c ∧ G1.2.2.1 a = r ∧ (k ≠ 11 → N11 K → N11 K1) ∧ TX E K1 F1 G1 L H := by
  obtain ⟨ws, hw, hL, hl, hP, hD⟩ := h
  obtain ⟨ha, i, hi⟩ := hL (a, e) List.mem_cons_self
  have ha : K a = 0 := ha
  have hM : KM K (va_up K a k) := KM.up ha
  have hx : ∀ b, b ≠ a → va_up K a k b = K b := fun b hb => va_up_ne _ _ hb
  have hf : ∀ b, K b ≠ 0 → upr F a fv b = F b := fun b hb => upr_ne (fun q => hb (by rw [q]; exact ha))
  refine ⟨va_up K a k, upr F a fv, (upr G.1 a d, upr G.2.1 a c, upr G.2.2.1 a r, G.2.2.2), ⟨hM, fun b hb => ?_, rfl⟩, va_up_self _ _ _, upr_at, upr_at, upr_at, upr_at, ?_, ws, ?_, ?_, hl.tl, hP, hD⟩
  · have hn : b ≠ a := fun q => hb (by rw [q]; exact ha)
    exact ⟨upr_ne hn, upr_ne hn, upr_ne hn, upr_ne hn⟩
  · intro h11 hN b hb
    by_cases e9 : b = a
    · subst e9
      rw [va_up_self] at hb
      exact h11 hb
    · rw [hx b e9] at hb
      exact hN b hb
  · intro b hb
    by_cases e9 : b = a
    · subst e9
      refine ⟨i, e, hi, ?_⟩
      show SHP E _ _ (upr G.1 b d b) (upr G.2.1 b c b) (upr G.2.2.1 b r b) G.2.2.2 b (va_up K b k b) e
      rw [va_up_self, upr_at, upr_at, upr_at]
      exact hs _ _ hM hf upr_at
    · rw [hx b e9] at hb ⊢
      obtain ⟨i2, e2, h1, h2⟩ := hw b hb
      refine ⟨i2, e2, h1, ?_⟩
      show SHP E _ _ (upr G.1 a d b) (upr G.2.1 a c b) (upr G.2.2.1 a r b) G.2.2.2 b (K b) e2
      rw [upr_ne e9, upr_ne e9, upr_ne e9]
      exact (h2.far (F1 := upr F a fv) (hf b hb) hf).mono hM
  · intro x hx9
    obtain ⟨h1, h2⟩ := hL x (List.mem_cons_of_mem _ hx9)
    refine ⟨?_, h2⟩
    rw [hx x.1 (hl.nx x hx9)]
    exact h1
/-- address, kind, number, class of its rows, length, what it holds -/
abbrev RSp : Type := Nat × Nat × Nat × Nat × Nat × (Nat → Int32)
def rcl (E : XE) (x : RSp) : Nat × va_E := (x.1, .inl (E.2.1 x.2.2.2.1, x.2.2.2.2.1, .inl x.2.2.2.2.2))
/-- rows, all at once -/
theorem TX.cls {E : XE} {L : va_W} {H : Heap} : ∀ (l : List RSp) {K : Nat → Nat} {F : Nat → Nat → Nat} {G : XG}, TX E K F G (l.map (rcl E) ++ L) H → (∀ x ∈ l, x.2.1 ≠ 0 ∧ x.2.1 ≠ 11 ∧ ∀ K1 F1 d r g, SHP E K1 F1 d x.2.2.2.2.2 r g x.1 x.2.1 (rcl E x).2) → ∃ (K1 : Nat → Nat) (F1 : Nat → Nat → Nat) (G1 : XG), GR K F G K1 F1 G1 ∧ (∀ x ∈ l, K1 x.1 = x.2.1 ∧ F1 x.1 99 = x.2.2.1 ∧ G1.2.1 x.1 = x.2.2.2.2.2) ∧ (N11 K → N11 K1) ∧ TX E K1 F1 G1 L H
  | [], K, F, G, h, _ => ⟨K, F, G, GR.rf, fun x hx => absurd hx List.not_mem_nil, id, h⟩
  | x :: l, K, F, G, h, hs => by
    obtain ⟨h0, h1, h2⟩ := hs x List.mem_cons_self
    obtain ⟨K1, F1, G1, g1, k1, f1, -, c1, -, n1, h3⟩ := TX.cl (a := x.1) (e := (rcl E x).2) (L := l.map (rcl E) ++ L) h x.2.1 (fun j => if j = 99 then x.2.2.1 else 0) (fun _ => 0) x.2.2.2.2.2 (fun _ => none) h0 (fun K1 F1 _ _ _ => h2 K1 F1 _ _ _)
    obtain ⟨K2, F2, G2, g2, a2, n2, h4⟩ := TX.cls l h3 (fun y hy => hs y (List.mem_cons_of_mem _ hy))
    refine ⟨K2, F2, G2, g1.tr g2, fun y hy => ?_, fun hN => n2 (n1 h1 hN), h4⟩
    rcases List.mem_cons.mp hy with e | hy
    · subst e
      obtain ⟨b1, -, b3, -⟩ := g2.at k1 h0
      exact ⟨g2.k k1 h0, by rw [b1, f1]; exact if_pos rfl, b3.trans c1⟩
    · exact a2 y hy
theorem TX.sw {E : XE} {K : Nat → Nat} {F : Nat → Nat → Nat} {G : XG} {L : va_W} {H : Heap} {x y : Nat × va_E} (h : TX E K F G (x :: y :: L) H) : TX E K F G (y :: x :: L) H := by
  obtain ⟨ws, hw, hL, hl, hP, hD⟩ := h
  refine ⟨ws, hw, ?_, ?_, hP, hD⟩
  · intro q hq
    rcases List.mem_cons.mp hq with e | hq
    · exact hL q (by rw [e]; exact List.mem_cons_of_mem _ List.mem_cons_self)
    · rcases List.mem_cons.mp hq with e | hq
      · exact hL q (by rw [e]; exact List.mem_cons_self)
      · exact hL q (List.mem_cons_of_mem _ (List.mem_cons_of_mem _ hq))
  · refine (hl.tl.tl.cons (fun q hq => hl.nx q (List.mem_cons_of_mem _ hq))).cons (fun q hq => ?_)
    rcases List.mem_cons.mp hq with e | hq
    · subst e
      exact fun z => hl.nx y List.mem_cons_self z.symm
    · exact hl.tl.nx q hq
theorem TX.rot {E : XE} {K : Nat → Nat} {F : Nat → Nat → Nat} {G : XG} {L : va_W} {H : Heap} {x y z : Nat × va_E} (h : TX E K F G (x :: y :: z :: L) H) : TX E K F G (z :: x :: y :: L) H := by
  obtain ⟨ws, hw, hL, hl, hP, hD⟩ := h
  refine ⟨ws, hw, ?_, ?_, hP, hD⟩
  · intro q hq
    refine hL q ?_
    rcases List.mem_cons.mp hq with e | hq
    · rw [e]; exact List.mem_cons_of_mem _ (List.mem_cons_of_mem _ List.mem_cons_self)
    · rcases List.mem_cons.mp hq with e | hq
      · rw [e]; exact List.mem_cons_self
      · rcases List.mem_cons.mp hq with e | hq
        · rw [e]; exact List.mem_cons_of_mem _ List.mem_cons_self
        · exact List.mem_cons_of_mem _ (List.mem_cons_of_mem _ (List.mem_cons_of_mem _ hq))
  · have h1 := hl.tl.tl.tl.cons (x := y) (fun q hq => hl.tl.nx q (List.mem_cons_of_mem _ hq))
    have h2 := h1.cons (x := x) (fun q hq => by
      rcases List.mem_cons.mp hq with e | hq
      · rw [e]; exact hl.nx y List.mem_cons_self
      · exact hl.nx q (List.mem_cons_of_mem _ (List.mem_cons_of_mem _ hq)))
    refine h2.cons (fun q hq => ?_)
    rcases List.mem_cons.mp hq with e | hq
    · rw [e]; exact fun t => hl.nx z (List.mem_cons_of_mem _ List.mem_cons_self) t.symm
    · rcases List.mem_cons.mp hq with e | hq
      · rw [e]; exact fun t => hl.tl.nx z List.mem_cons_self t.symm
      · exact hl.tl.tl.nx q hq
theorem TX.vd {E : XE} {K : Nat → Nat} {F : Nat → Nat → Nat} {G : XG} {L : va_W} {H : Heap} (sb : Nat) (hk : N11 K) (h : TX E K F G L H) : TX (E.1, E.2.1, E.2.2.1, sb, E.2.2.2.2) K F G L H := by
  obtain ⟨ws, hw, hL, hl, hP, hD⟩ := h
  refine ⟨ws, fun b hb => ?_, hL, hl, hP, hD⟩
  obtain ⟨i, e, h1, h2⟩ := hw b hb
  exact ⟨i, e, h1, h2.vd (hk b)⟩
theorem TX.TW {E : XE} {K : Nat → Nat} {F : Nat → Nat → Nat} {G : XG} {L : va_W} {H : Heap} {v : Nat} (h : TX E K F G ((E.2.2.2.1, .inr (0, [.ref v, .int 0, .int 0, .int 0])) :: (v, .inl (E.2.1 2, 16, .inl (fun _ => 0))) :: L) H) : TW E K F G H := by
  obtain ⟨ws, hw, hL, hl, hP, hD⟩ := h
  obtain ⟨a1, i, a2⟩ := hL _ List.mem_cons_self
  obtain ⟨b1, j, b2⟩ := hL _ (List.mem_cons_of_mem _ List.mem_cons_self)
  exact ⟨ws, ⟨hw, i, j, v, 16, _, 0, 0, a2, b2, a1, b1, fun _ => rfl, by decide, by decide, by decide⟩, hP, hD⟩
def XPx (E : XE) (K : Nat → Nat) (F : Nat → Nat → Nat) (G : XG) (L : va_W) (U : State) : Prop := E.2.2.1 ≤ U.heap.size ∧ (XK E U ∧ va_AO "LateRules$Rule" U ∧ va_AO "LateRules$Rows" U) ∧ TX E K F G L U.heap
theorem XPx.at {E : XE} {K : Nat → Nat} {F : Nat → Nat → Nat} {G : XG} {L : va_W} {s U : State} {locs : List Loc} {H : Heap} (hK : XK E s) (hA : va_AO "LateRules$Rule" s ∧ va_AO "LateRules$Rows" s) (hz : E.2.2.1 ≤ s.heap.size) (hS : va_S (xA E) s.heap H locs) (hT : TX E K F G L H) (hU : U.heap = H) (hW : s.WarmedH U.vm) : XPx E K F G L U :=
  ⟨by rw [hU]; exact Nat.le_trans hz hS.1, ⟨hK.at hS hU hW, va_AO.moved hW.alike hA.1, va_AO.moved hW.alike hA.2⟩, by rw [hU]; exact hT⟩
theorem XPx.blind {E : XE} {K : Nat → Nat} {F : Nat → Nat → Nat} {G : XG} {L : va_W} {av : List Value} : FrameBlind (va_Pc av (XPx E K F G L)) := fun a U g mk h => ⟨h.1, h.2.1, ⟨h.2.2.1.1.same (u := U) rfl rfl, va_AO.moved (u := U) (Vm.Alike.refl U.vm) h.2.2.1.2.1, va_AO.moved (u := U) (Vm.Alike.refl U.vm) h.2.2.1.2.2⟩, h.2.2.2⟩
section XT
variable {p : Program} {l : Launch} {e : Env} {R : Room} {s : State} {m : MethodId} {args : Array Value} {below : List Frame} {meth : Method} {c : Code} {H : Heap} {locs : List Loc} {cells slots : Nat} {Q : State → Prop}
variable {pc : Nat} {ls : Array Slot} {rest : List Value} {H0 : Heap} {E : XE} {cc : ByteArray} {nL : Nat} {own : String} {w0 : Cond} {K : Nat → Nat} {F : Nat → Nat → Nat} {G : XG} {L : va_W} {a idx : Nat} {C : String} {T : u_T} {N ci : Nat} {fs : List Value}
theorem tx_new (S : CallFix p m c cc nL s args (w0 :: GT) own) (hK : XK E s) (hz : E.2.2.1 ≤ s.heap.size) (hT : TX E K F G L H) (hS : va_S (xA E) s.heap H locs) (hin : ∀ w ∈ u_ws C T N, w ∈ GT) (ty : Nat → FieldType) (hty : ∀ k, k < N → parseFieldDescriptor (T k).2.2.1 = some (ty k)) (hl : Cond.classLink own idx C ∈ GT) (hin1 : Cond.instantiable C N ∈ GT) (hin2 : Cond.initialized C ∈ GT) (hc9 : vwCl[ci]? = some (C, T, N)) (hfs : ∀ j, j < N → defaultValue (ty j) = vp_V fs j) (hc : cells + 1 ≤ R.cells) (hs : slots + N ≤ R.slots) (hdg : decode cc pc = .ok (.new idx, 3)) (kk : ∀ (q : Nat) (H1 : Heap), TX E K F G ((q, .inr (ci, fs)) :: L) H1 → va_S (xA E) s.heap H1 locs → W p l e R s m args below meth c H1 locs (cells + 1) (slots + N) Q (F0 m (pc + 3) ls (.ref q :: rest))) : W p l e R s m args below meth c H locs cells slots Q (F0 m pc ls rest) := by
  obtain ⟨ws, hw, hL, hl9, hP, hD⟩ := hT
  exact va_new (D := E.1) (ci := ci) (fs := fs) S.1 S.2.1 S.2.2.2.2 (fun w h => List.mem_cons_of_mem _ (hin w h)) ty hty S.2.2.2.1 (S.2.2.2.2 _ (List.mem_cons_of_mem _ hl)) (S.2.2.2.2 _ (List.mem_cons_of_mem _ hin1)) (S.2.2.2.2 _ (List.mem_cons_of_mem _ hin2)) hK.1 hP hD hS (fun q h => Nat.le_trans hz h) hc9 hfs hc hs hdg (fun q H1 hP1 hD1 hS1 => kk q H1 (TX.push hw hL hl9 hP1 hD1) hS1)
theorem tx_get (S : CallFix p m c cc nL s args (w0 :: GT) own) (hK : XK E s) (hT : TX E K F G L H) (hin : ∀ w ∈ u_ws C T N, w ∈ GT) (i : Nat) (hi : L[i]? = some (a, .inr (ci, fs))) (hc9 : vwCl[ci]? = some (C, T, N)) (k : Nat) (hk : k < N) (hl : Cond.fieldLink own idx (T k).1 (T k).2.1 (T k).2.2.1 ∈ GT) {v : Value} (hv : fs[k]? = some v) (hdg : decode cc pc = .ok (.getfield idx, 3)) (kk : W p l e R s m args below meth c H locs cells slots Q (F0 m (pc + 3) ls (v :: rest))) : W p l e R s m args below meth c H locs cells slots Q (F0 m pc ls (.ref a :: rest)) := by
  obtain ⟨ws, hw, hL, hl9, hP, hD⟩ := hT
  obtain ⟨-, j, hj⟩ := hL _ (List.mem_of_getElem? hi)
  exact va_get (D := E.1) S.1 S.2.1 S.2.2.2.2 (fun w h => List.mem_cons_of_mem _ (hin w h)) S.2.2.2.1 hK.1 hP j hj hc9 k hk (S.2.2.2.2 _ (List.mem_cons_of_mem _ hl)) (fun _ h => h) hv hdg kk
theorem tx_put (S : CallFix p m c cc nL s args (w0 :: GT) own) (hK : XK E s) (hT : TX E K F G L H) (hS : va_S (xA E) H0 H locs) (hin : ∀ w ∈ u_ws C T N, w ∈ GT) (ty0 : Nat → FieldType) (hty : ∀ k, k < N → parseFieldDescriptor (T k).2.2.1 = some (ty0 k)) (hnm : ∀ a, a < N → ∀ b, b < N → a ≠ b → (T a).2.1 ≠ (T b).2.1) (i : Nat) (hi : L[i]? = some (a, .inr (ci, fs))) (hc9 : vwCl[ci]? = some (C, T, N)) (k : Nat) (hk : k < N) (hl : Cond.fieldLink own idx (T k).1 (T k).2.1 (T k).2.2.1 ∈ GT) (hfin : (T k).2.2.2 = false) {ty : FieldType} {v : Value} (hd : parseFieldDescriptor (T k).2.2.1 = some ty) (hn : narrow ty v = v) (hfit : fits ty v = true) (hlen : k < fs.length) (hdg : decode cc pc = .ok (.putfield idx, 3)) (kk : ∀ (H1 : Heap) (locs1 : List Loc), TX E K F G (L.set i (a, .inr (ci, fs.set k v))) H1 → va_S (xA E) H0 H1 locs1 → W p l e R s m args below meth c H1 locs1 cells slots Q (F0 m (pc + 3) ls rest)) : W p l e R s m args below meth c H locs cells slots Q (F0 m pc ls (v :: .ref a :: rest)) := by
  obtain ⟨ws, hw, hL, hl9, hP, hD⟩ := hT
  obtain ⟨-, j, hj⟩ := hL _ (List.mem_of_getElem? hi)
  exact va_put (D := E.1) S.1 S.2.1 S.2.2.2.2 (fun w h => List.mem_cons_of_mem _ (hin w h)) ty0 hty hnm S.2.2.2.1 hK.1 hP hD hS j hj hc9 k hk (S.2.2.2.2 _ (List.mem_cons_of_mem _ hl)) (fun _ h => h) hfin hd hn hfit hlen hdg (fun H1 locs1 hP1 hD1 hS1 => kk H1 locs1 (TX.up hw hL hl9 hi hj hP1 hD1) hS1)
theorem tx_putF (S : CallFix p m c cc nL s args (w0 :: GT) own) (hK : XK E s) (hT : TX E K F G L H) (hS : va_S (xA E) H0 H locs) (hin : ∀ w ∈ u_ws C T N, w ∈ GT) (ty0 : Nat → FieldType) (hty : ∀ k, k < N → parseFieldDescriptor (T k).2.2.1 = some (ty0 k)) (hnm : ∀ a, a < N → ∀ b, b < N → a ≠ b → (T a).2.1 ≠ (T b).2.1) (i : Nat) (hi : L[i]? = some (a, .inr (ci, fs))) (hc9 : vwCl[ci]? = some (C, T, N)) (k : Nat) (hk : k < N) (hl : Cond.fieldLink own idx (T k).1 (T k).2.1 (T k).2.2.1 ∈ GT) (hfin : (T k).2.2.2 = true) (hn1 : meth.name = "<init>") (hn2 : (T k).1 = own) {ty : FieldType} {v : Value} (hd : parseFieldDescriptor (T k).2.2.1 = some ty) (hn : narrow ty v = v) (hfit : fits ty v = true) (hlen : k < fs.length) (hdg : decode cc pc = .ok (.putfield idx, 3)) (kk : ∀ (H1 : Heap) (locs1 : List Loc), TX E K F G (L.set i (a, .inr (ci, fs.set k v))) H1 → va_S (xA E) H0 H1 locs1 → W p l e R s m args below meth c H1 locs1 cells slots Q (F0 m (pc + 3) ls rest)) : W p l e R s m args below meth c H locs cells slots Q (F0 m pc ls (v :: .ref a :: rest)) := by
  obtain ⟨ws, hw, hL, hl9, hP, hD⟩ := hT
  obtain ⟨-, j, hj⟩ := hL _ (List.mem_of_getElem? hi)
  exact va_putF (D := E.1) S.1 S.2.1 S.2.2.2.2 (fun w h => List.mem_cons_of_mem _ (hin w h)) ty0 hty hnm S.2.2.2.1 hK.1 hP hD hS j hj hc9 k hk (S.2.2.2.2 _ (List.mem_cons_of_mem _ hl)) (fun _ h => h) hfin hn1 hn2 hd hn hfit hlen hdg (fun H1 locs1 hP1 hD1 hS1 => kk H1 locs1 (TX.up hw hL hl9 hi hj hP1 hD1) hS1)
theorem tx_na0 (S : CallFix p m c cc nL s args (w0 :: GT) own) (hK : XK E s) (hz : E.2.2.1 ≤ s.heap.size) (hT : TX E K F G L H) (hS : va_S (xA E) s.heap H locs) {x : Int32} {N : Nat} (hx : ¬ x < 0) (hN : x.toNatClampNeg = N) (hb9 : N ≤ 3000) (hc : cells + 1 ≤ R.cells) (hs : slots + N ≤ R.slots) (hdg : decode cc pc = .ok (.newarray .int, 2)) (kk : ∀ (q : Nat) (H1 : Heap), TX E K F G ((q, .inl (E.2.1 0, N, .inl (fun _ => 0))) :: L) H1 → va_S (xA E) s.heap H1 locs → W p l e R s m args below meth c H1 locs (cells + 1) (slots + N) Q (F0 m (pc + 2) ls (.ref q :: rest))) : W p l e R s m args below meth c H locs cells slots Q (F0 m pc ls (.int x :: rest)) := by
  obtain ⟨ws, hw, hL, hl9, hP, hD⟩ := hT
  refine va_newa (atype := .int) (ty := .int) (N' := N) (a0 := (N, .inl (fun _ => 0))) S.1 S.2.1 (S.2.2.2.2 _ (List.mem_cons_of_mem _ ka_int)) rfl hK.1 hP hD hS (fun q h => Nat.le_trans hz h) (fun cA => ?_) hx hN (by show N * 4 ≤ _; omega) hc hs hdg (fun q cA H1 hK1 hP1 hD1 hS1 => ?_)
  · first | rfl | (rw [vp_cell_i]; rfl) | (rw [vp_cell_l]; rfl)
  · have hq : cA = E.2.1 0 := by
      have h1 := (hK1.2 7 (cA, .int) rfl).2
      have h2 := (hK.1.2 0 (E.2.1 0, .int) rfl).2
      exact Option.some.inj (h1.symm.trans h2)
    subst hq
    exact kk q H1 (TX.push hw hL hl9 hP1 hD1) hS1
theorem tx_na1 (S : CallFix p m c cc nL s args (w0 :: GT) own) (hK : XK E s) (hz : E.2.2.1 ≤ s.heap.size) (hT : TX E K F G L H) (hS : va_S (xA E) s.heap H locs) {x : Int32} {N : Nat} (hx : ¬ x < 0) (hN : x.toNatClampNeg = N) (hb9 : N ≤ 3000) (hc : cells + 1 ≤ R.cells) (hs : slots + N ≤ R.slots) (hdg : decode cc pc = .ok (.newarray .char, 2)) (kk : ∀ (q : Nat) (H1 : Heap), TX E K F G ((q, .inl (E.2.1 1, N, .inl (fun _ => 0))) :: L) H1 → va_S (xA E) s.heap H1 locs → W p l e R s m args below meth c H1 locs (cells + 1) (slots + N) Q (F0 m (pc + 2) ls (.ref q :: rest))) : W p l e R s m args below meth c H locs cells slots Q (F0 m pc ls (.int x :: rest)) := by
  obtain ⟨ws, hw, hL, hl9, hP, hD⟩ := hT
  refine va_newa (atype := .char) (ty := .char) (N' := N) (a0 := (N, .inl (fun _ => 0))) S.1 S.2.1 (S.2.2.2.2 _ (List.mem_cons_of_mem _ ka_char)) rfl hK.1 hP hD hS (fun q h => Nat.le_trans hz h) (fun cA => ?_) hx hN (by show N * 2 ≤ _; omega) hc hs hdg (fun q cA H1 hK1 hP1 hD1 hS1 => ?_)
  · first | rfl | (rw [vp_cell_i]; rfl) | (rw [vp_cell_l]; rfl)
  · have hq : cA = E.2.1 1 := by
      have h1 := (hK1.2 7 (cA, .char) rfl).2
      have h2 := (hK.1.2 1 (E.2.1 1, .char) rfl).2
      exact Option.some.inj (h1.symm.trans h2)
    subst hq
    exact kk q H1 (TX.push hw hL hl9 hP1 hD1) hS1
theorem tx_na2 (S : CallFix p m c cc nL s args (w0 :: GT) own) (hK : XK E s) (hz : E.2.2.1 ≤ s.heap.size) (hT : TX E K F G L H) (hS : va_S (xA E) s.heap H locs) {x : Int32} {N : Nat} (hx : ¬ x < 0) (hN : x.toNatClampNeg = N) (hb9 : N ≤ 3000) (hc : cells + 1 ≤ R.cells) (hs : slots + N ≤ R.slots) (hdg : decode cc pc = .ok (.newarray .byte, 2)) (kk : ∀ (q : Nat) (H1 : Heap), TX E K F G ((q, .inl (E.2.1 2, N, .inl (fun _ => 0))) :: L) H1 → va_S (xA E) s.heap H1 locs → W p l e R s m args below meth c H1 locs (cells + 1) (slots + N) Q (F0 m (pc + 2) ls (.ref q :: rest))) : W p l e R s m args below meth c H locs cells slots Q (F0 m pc ls (.int x :: rest)) := by
  obtain ⟨ws, hw, hL, hl9, hP, hD⟩ := hT
  refine va_newa (atype := .byte) (ty := .byte) (N' := N) (a0 := (N, .inl (fun _ => 0))) S.1 S.2.1 (S.2.2.2.2 _ (List.mem_cons_of_mem _ ka_byte)) rfl hK.1 hP hD hS (fun q h => Nat.le_trans hz h) (fun cA => ?_) hx hN (by show N * 1 ≤ _; omega) hc hs hdg (fun q cA H1 hK1 hP1 hD1 hS1 => ?_)
  · first | rfl | (rw [vp_cell_i]; rfl) | (rw [vp_cell_l]; rfl)
  · have hq : cA = E.2.1 2 := by
      have h1 := (hK1.2 7 (cA, .byte) rfl).2
      have h2 := (hK.1.2 2 (E.2.1 2, .byte) rfl).2
      exact Option.some.inj (h1.symm.trans h2)
    subst hq
    exact kk q H1 (TX.push hw hL hl9 hP1 hD1) hS1
theorem tx_na3 (S : CallFix p m c cc nL s args (w0 :: GT) own) (hK : XK E s) (hz : E.2.2.1 ≤ s.heap.size) (hT : TX E K F G L H) (hS : va_S (xA E) s.heap H locs) {x : Int32} {N : Nat} (hx : ¬ x < 0) (hN : x.toNatClampNeg = N) (hb9 : N ≤ 3000) (hc : cells + 1 ≤ R.cells) (hs : slots + N ≤ R.slots) (hdg : decode cc pc = .ok (.newarray .boolean, 2)) (kk : ∀ (q : Nat) (H1 : Heap), TX E K F G ((q, .inl (E.2.1 3, N, .inl (fun _ => 0))) :: L) H1 → va_S (xA E) s.heap H1 locs → W p l e R s m args below meth c H1 locs (cells + 1) (slots + N) Q (F0 m (pc + 2) ls (.ref q :: rest))) : W p l e R s m args below meth c H locs cells slots Q (F0 m pc ls (.int x :: rest)) := by
  obtain ⟨ws, hw, hL, hl9, hP, hD⟩ := hT
  refine va_newa (atype := .boolean) (ty := .boolean) (N' := N) (a0 := (N, .inl (fun _ => 0))) S.1 S.2.1 (S.2.2.2.2 _ (List.mem_cons_of_mem _ ka_boolean)) rfl hK.1 hP hD hS (fun q h => Nat.le_trans hz h) (fun cA => ?_) hx hN (by show N * 1 ≤ _; omega) hc hs hdg (fun q cA H1 hK1 hP1 hD1 hS1 => ?_)
  · first | rfl | (rw [vp_cell_i]; rfl) | (rw [vp_cell_l]; rfl)
  · have hq : cA = E.2.1 3 := by
      have h1 := (hK1.2 7 (cA, .boolean) rfl).2
      have h2 := (hK.1.2 3 (E.2.1 3, .boolean) rfl).2
      exact Option.some.inj (h1.symm.trans h2)
    subst hq
    exact kk q H1 (TX.push hw hL hl9 hP1 hD1) hS1
theorem tx_na6 (S : CallFix p m c cc nL s args (w0 :: GT) own) (hK : XK E s) (hz : E.2.2.1 ≤ s.heap.size) (hT : TX E K F G L H) (hS : va_S (xA E) s.heap H locs) {x : Int32} {N : Nat} (hx : ¬ x < 0) (hN : x.toNatClampNeg = N) (hb9 : N ≤ 3000) (hc : cells + 1 ≤ R.cells) (hs : slots + N ≤ R.slots) (hdg : decode cc pc = .ok (.newarray .long, 2)) (kk : ∀ (q : Nat) (H1 : Heap), TX E K F G ((q, .inl (E.2.1 6, N, .inr (.inl (fun _ => 0)))) :: L) H1 → va_S (xA E) s.heap H1 locs → W p l e R s m args below meth c H1 locs (cells + 1) (slots + N) Q (F0 m (pc + 2) ls (.ref q :: rest))) : W p l e R s m args below meth c H locs cells slots Q (F0 m pc ls (.int x :: rest)) := by
  obtain ⟨ws, hw, hL, hl9, hP, hD⟩ := hT
  refine va_newa (atype := .long) (ty := .long) (N' := N) (a0 := (N, .inr (.inl (fun _ => 0)))) S.1 S.2.1 (S.2.2.2.2 _ (List.mem_cons_of_mem _ ka_long)) rfl hK.1 hP hD hS (fun q h => Nat.le_trans hz h) (fun cA => ?_) hx hN (by show N * 8 ≤ _; omega) hc hs hdg (fun q cA H1 hK1 hP1 hD1 hS1 => ?_)
  · first | rfl | (rw [vp_cell_i]; rfl) | (rw [vp_cell_l]; rfl)
  · have hq : cA = E.2.1 6 := by
      have h1 := (hK1.2 7 (cA, .long) rfl).2
      have h2 := (hK.1.2 6 (E.2.1 6, .long) rfl).2
      exact Option.some.inj (h1.symm.trans h2)
    subst hq
    exact kk q H1 (TX.push hw hL hl9 hP1 hD1) hS1
theorem tx_nq4 (S : CallFix p m c cc nL s args (w0 :: GT) own) (hK : XK E s) (hA : va_AO "LateRules$Rule" s) (hz : E.2.2.1 ≤ s.heap.size) (hT : TX E K F G L H) (hS : va_S (xA E) s.heap H locs) (hl : Cond.classLink own idx "LateRules$Rule" ∈ GT) {x : Int32} {N : Nat} (hx : ¬ x < 0) (hN : x.toNatClampNeg = N) (hb9 : N ≤ 3000) (hc : cells + 1 ≤ R.cells) (hs : slots + N ≤ R.slots) (hdg : decode cc pc = .ok (.anewarray idx, 3)) (kk : ∀ (q : Nat) (H1 : Heap), TX E K F G ((q, .inl (E.2.1 4, N, .inr (.inr (.inr (.inr (fun _ => none)))))) :: L) H1 → va_S (xA E) s.heap H1 locs → W p l e R s m args below meth c H1 locs (cells + 1) (slots + N) Q (F0 m (pc + 3) ls (.ref q :: rest))) : W p l e R s m args below meth c H locs cells slots Q (F0 m pc ls (.int x :: rest)) := by
  obtain ⟨ws, hw, hL, hl9, hP, hD⟩ := hT
  refine va_newq (C := "LateRules$Rule") (N' := N) S.1 S.2.1 S.2.2.2.1 (S.2.2.2.2 _ (List.mem_cons_of_mem _ hl)) hA hK.1 hP hD hS (fun q h => Nat.le_trans hz h) hx hN (by omega) hc hs hdg (fun q cA H1 hK1 hP1 hD1 hS1 => ?_)
  have hq : cA = E.2.1 4 := by
    obtain ⟨_, _, _, _, _, h1⟩ := (hK1.2 7 (cA, .object "LateRules$Rule") rfl).2
    obtain ⟨_, _, _, _, _, h2⟩ := (hK.1.2 4 (E.2.1 4, .object "LateRules$Rule") rfl).2
    exact Option.some.inj (h1.symm.trans h2)
  subst hq
  exact kk q H1 (TX.push hw hL hl9 hP1 hD1) hS1
theorem tx_nq5 (S : CallFix p m c cc nL s args (w0 :: GT) own) (hK : XK E s) (hA : va_AO "LateRules$Rows" s) (hz : E.2.2.1 ≤ s.heap.size) (hT : TX E K F G L H) (hS : va_S (xA E) s.heap H locs) (hl : Cond.classLink own idx "LateRules$Rows" ∈ GT) {x : Int32} {N : Nat} (hx : ¬ x < 0) (hN : x.toNatClampNeg = N) (hb9 : N ≤ 3000) (hc : cells + 1 ≤ R.cells) (hs : slots + N ≤ R.slots) (hdg : decode cc pc = .ok (.anewarray idx, 3)) (kk : ∀ (q : Nat) (H1 : Heap), TX E K F G ((q, .inl (E.2.1 5, N, .inr (.inr (.inr (.inr (fun _ => none)))))) :: L) H1 → va_S (xA E) s.heap H1 locs → W p l e R s m args below meth c H1 locs (cells + 1) (slots + N) Q (F0 m (pc + 3) ls (.ref q :: rest))) : W p l e R s m args below meth c H locs cells slots Q (F0 m pc ls (.int x :: rest)) := by
  obtain ⟨ws, hw, hL, hl9, hP, hD⟩ := hT
  refine va_newq (C := "LateRules$Rows") (N' := N) S.1 S.2.1 S.2.2.2.1 (S.2.2.2.2 _ (List.mem_cons_of_mem _ hl)) hA hK.1 hP hD hS (fun q h => Nat.le_trans hz h) hx hN (by omega) hc hs hdg (fun q cA H1 hK1 hP1 hD1 hS1 => ?_)
  have hq : cA = E.2.1 5 := by
    obtain ⟨_, _, _, _, _, h1⟩ := (hK1.2 7 (cA, .object "LateRules$Rows") rfl).2
    obtain ⟨_, _, _, _, _, h2⟩ := (hK.1.2 5 (E.2.1 5, .object "LateRules$Rows") rfl).2
    exact Option.some.inj (h1.symm.trans h2)
  subst hq
  exact kk q H1 (TX.push hw hL hl9 hP1 hD1) hS1
theorem tx_ls0 (S : CallFix p m c cc nL s args (w0 :: GT) own) (hK : XK E s) (hT : TX E K F G L H) (hS : va_S (xA E) H0 H locs) (i : Nat) {n : Nat} {f : Nat → Int32} (hi : L[i]? = some (a, .inl (E.2.1 0, n, .inl f))) {z x : Int32} (hin : 0 ≤ z.toInt ∧ z.toInt < n) (hdg : decode cc pc = .ok (.iastore, 1)) (kk : ∀ (H1 : Heap) (locs1 : List Loc), TX E K F G (L.set i (a, .inl (E.2.1 0, n, .inl (upd f z.toNatClampNeg x)))) H1 → va_S (xA E) H0 H1 locs1 → W p l e R s m args below meth c H1 locs1 cells slots Q (F0 m (pc + 1) ls rest)) : W p l e R s m args below meth c H locs cells slots Q (F0 m pc ls (.int x :: .int z :: .ref a :: rest)) := by
  obtain ⟨ws, hw, hL, hl9, hP, hD⟩ := hT
  obtain ⟨-, j, hj⟩ := hL _ (List.mem_of_getElem? hi)
  exact va_iast S.1 S.2.1 hK.1 hP hD hS j 0 hj rfl (vp_in_iff.mpr hin) hdg (fun H1 locs1 hP1 hD1 hS1 => kk H1 locs1 (TX.up hw hL hl9 hi hj hP1 hD1) hS1)
theorem tx_ls1 (S : CallFix p m c cc nL s args (w0 :: GT) own) (hK : XK E s) (hT : TX E K F G L H) (hS : va_S (xA E) H0 H locs) (i : Nat) {n : Nat} {f : Nat → Int32} (hi : L[i]? = some (a, .inl (E.2.1 1, n, .inl f))) {z x : Int32} (hin : 0 ≤ z.toInt ∧ z.toInt < n) (hdg : decode cc pc = .ok (.castore, 1)) (kk : ∀ (H1 : Heap) (locs1 : List Loc), TX E K F G (L.set i (a, .inl (E.2.1 1, n, .inl (upd f z.toNatClampNeg (vp_nar .char x))))) H1 → va_S (xA E) H0 H1 locs1 → W p l e R s m args below meth c H1 locs1 cells slots Q (F0 m (pc + 1) ls rest)) : W p l e R s m args below meth c H locs cells slots Q (F0 m pc ls (.int x :: .int z :: .ref a :: rest)) := by
  obtain ⟨ws, hw, hL, hl9, hP, hD⟩ := hT
  obtain ⟨-, j, hj⟩ := hL _ (List.mem_of_getElem? hi)
  exact va_cast S.1 S.2.1 hK.1 hP hD hS j 1 hj rfl (vp_in_iff.mpr hin) hdg (fun H1 locs1 hP1 hD1 hS1 => kk H1 locs1 (TX.up hw hL hl9 hi hj hP1 hD1) hS1)
theorem tx_ll0 (S : CallFix p m c cc nL s args (w0 :: GT) own) (hK : XK E s) (hT : TX E K F G L H) (i : Nat) {n : Nat} {f : Nat → Int32} (hi : L[i]? = some (a, .inl (E.2.1 0, n, .inl f))) (hdg : decode cc pc = .ok (.arraylength, 1)) (kk : W p l e R s m args below meth c H locs cells slots Q (F0 m (pc + 1) ls (.int (Int32.ofNat n) :: rest))) : W p l e R s m args below meth c H locs cells slots Q (F0 m pc ls (.ref a :: rest)) := by
  obtain ⟨ws, hw, hL, hl9, hP, hD⟩ := hT
  obtain ⟨-, j, hj⟩ := hL _ (List.mem_of_getElem? hi)
  exact va_alen S.1 S.2.1 hK.1 hP j 0 hj rfl rfl hdg kk
theorem tx_asq (S : CallFix p m c cc nL s args (w0 :: GT) own) (hK : XK E s) (hT : TX E K F G L H) (hS : va_S (xA E) H0 H locs) (i : Nat) {f : Nat → Option Nat} (hi : L[i]? = some (a, .inl (E.2.1 5, 8, .inr (.inr (.inr (.inr f)))))) {r : Nat} (hr : K r = 8) {x : Int32} (hin : 0 ≤ x.toInt ∧ x.toInt < 8) (hdg : decode cc pc = .ok (.aastore, 1)) (kk : ∀ (H1 : Heap) (locs1 : List Loc), TX E K F G (L.set i (a, .inl (E.2.1 5, 8, .inr (.inr (.inr (.inr (va_up f x.toNatClampNeg (some r)))))))) H1 → va_S (xA E) H0 H1 locs1 → W p l e R s m args below meth c H1 locs1 cells slots Q (F0 m (pc + 1) ls rest)) : W p l e R s m args below meth c H locs cells slots Q (F0 m pc ls (.ref r :: .int x :: .ref a :: rest)) := by
  obtain ⟨ws, hw, hL, hl9, hP, hD⟩ := hT
  obtain ⟨-, j, hj⟩ := hL _ (List.mem_of_getElem? hi)
  obtain ⟨i8, e8, he8, hs8⟩ := hw r (by rw [hr]; decide)
  rw [hr] at hs8
  obtain ⟨rfl, -⟩ := hs8
  exact va_astq (r := (RX6, TX6, 2)) S.1 S.2.1 hK.1 hP hD hS j 5 i8 7 hj rfl he8 rfl (vp_in_iff.mpr hin) hdg (fun H1 locs1 hP1 hD1 hS1 => kk H1 locs1 (TX.up hw hL hl9 hi hj hP1 hD1) hS1)
end XT
/-- no rows -/
def v0 : Int → Int := fun z => if 0 ≤ z ∧ z < 270 then -2000 else 0
def fvx (J : Nat) (l : List Nat) : Nat → Nat := fun j => if j = 99 then J else l.getD j 0
def KNo (k J : Nat) (K : Nat → Nat) (F : Nat → Nat → Nat) (q : Nat) : Prop := K q = k ∧ F q 99 = J
def OBz (k J : Nat) (K : Nat → Nat) (F : Nat → Nat → Nat) (G : XG) (q : Nat) : Prop := K q = k ∧ F q 99 = J ∧ G.1 q = fun _ => 0
def RDz (K : Nat → Nat) (F : Nat → Nat → Nat) (q t : Nat) : Prop := K q = 7 ∧ F q 99 = 0 ∧ F q 0 = t
def BKz (K : Nat → Nat) (F : Nat → Nat → Nat) (G : XG) (q : Nat) : Prop := K q = 2 ∧ F q 99 = 0 ∧ (G.1 q = fun _ => 0) ∧ K (F q 0) = 15 ∧ (G.2.2.1 (F q 0) = fun _ => none) ∧ K (F q 1) = 15 ∧ (G.2.2.1 (F q 1) = fun _ => none)
def RWz (J : Nat) (K : Nat → Nat) (F : Nat → Nat → Nat) (G : XG) (q : Nat) : Prop := K q = 8 ∧ F q 99 = J ∧ K (F q 0) = 20 ∧ vw (G.2.1 (F q 0)) = v0 ∧ K (F q 1) = 21 ∧ (G.2.1 (F q 1) = fun _ => 0)
section GRz
variable {K K1 : Nat → Nat} {F F1 : Nat → Nat → Nat} {G G1 : XG} {k J q t : Nat}
theorem KNo.gr (g : GR K F G K1 F1 G1) (h0 : k ≠ 0) (h : KNo k J K F q) : KNo k J K1 F1 q := ⟨g.k h.1 h0, by rw [(g.at h.1 h0).1]; exact h.2⟩
theorem OBz.gr (g : GR K F G K1 F1 G1) (h0 : k ≠ 0) (h : OBz k J K F G q) : OBz k J K1 F1 G1 q := ⟨g.k h.1 h0, by rw [(g.at h.1 h0).1]; exact h.2.1, (g.at h.1 h0).2.1.trans h.2.2⟩
theorem RDz.gr (g : GR K F G K1 F1 G1) (h : RDz K F q t) : RDz K1 F1 q t := ⟨g.k h.1 (by decide), by rw [(g.at h.1 (by decide)).1]; exact h.2.1, by rw [(g.at h.1 (by decide)).1]; exact h.2.2⟩
theorem BKz.gr (g : GR K F G K1 F1 G1) (h : BKz K F G q) : BKz K1 F1 G1 q := by
  obtain ⟨a1, a2, a3, a4, a5, a6, a7⟩ := h
  obtain ⟨f, d, -, -⟩ := g.at a1 (by decide)
  unfold BKz
  rw [f]
  exact ⟨g.k a1 (by decide), a2, d.trans a3, g.k a4 (by decide), (g.at a4 (by decide)).2.2.2.trans a5, g.k a6 (by decide), (g.at a6 (by decide)).2.2.2.trans a7⟩
theorem RWz.gr (g : GR K F G K1 F1 G1) (h : RWz J K F G q) : RWz J K1 F1 G1 q := by
  obtain ⟨a1, a2, a3, a4, a5, a6⟩ := h
  obtain ⟨f, -, -, -⟩ := g.at a1 (by decide)
  unfold RWz
  rw [f]
  exact ⟨g.k a1 (by decide), a2, g.k a3 (by decide), by rw [(g.at a3 (by decide)).2.2.1]; exact a4, g.k a5 (by decide), (g.at a5 (by decide)).2.2.1.trans a6⟩
end GRz
theorem vw_v0 {f : Nat → Int32} (h : ∀ z : Int, 0 ≤ z → z < 270 → aI f z = -2000) : vw f = v0 := by
  funext z
  unfold vw v0
  split
  · rename_i q; exact h z q.1 q.2
  · rfl
