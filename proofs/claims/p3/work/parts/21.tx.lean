/-! ===== the making of objects: a world with loose cells ===== -/
def LD (L : va_W) : Prop := ∀ (i j : Nat) (x y : Nat × va_E), L[i]? = some x → L[j]? = some y → x.1 = y.1 → i = j
def TX (E : XE) (K : Nat → Nat) (F : Nat → Nat → Nat) (G : XG) (L : va_W) (H : Heap) : Prop := ∃ ws, TWk E K F G ws ∧ (∀ q ∈ L, K q.1 = 0 ∧ ∃ i : Nat, ws[i]? = some q) ∧ LD L ∧ va_P E.1 vwCl ws H ∧ va_D (xA E) ws
/-- kinds that came: of the list s alone -/
def NU (s : List Nat) (K K1 : Nat → Nat) : Prop := ∀ b k : Nat, K1 b = k → k ≠ 0 → k ∈ s ∨ K b = k
theorem NU.rf {K : Nat → Nat} : NU [] K K := fun _ _ h _ => Or.inr h
theorem NU.tr {s1 s2 : List Nat} {K K1 K2 : Nat → Nat} (h1 : NU s1 K K1) (h2 : NU s2 K1 K2) : NU (s1 ++ s2) K K2 := fun b k h h0 => by
  rcases h2 b k h h0 with q | q
  · exact Or.inl (List.mem_append_right _ q)
  · rcases h1 b k q h0 with r | r
    · exact Or.inl (List.mem_append_left _ r)
    · exact Or.inr r
theorem NU.sub {s1 s2 : List Nat} {K K1 : Nat → Nat} (h : NU s1 K K1) (hs : ∀ x ∈ s1, x ∈ s2) : NU s2 K K1 := fun b k h1 h0 => (h b k h1 h0).elim (fun q => Or.inl (hs k q)) Or.inr
theorem NU.no {s1 : List Nat} {K K1 : Nat → Nat} {k : Nat} (h : NU s1 K K1) (hk : ∀ b, K b ≠ k) (h0 : k ≠ 0) (hs : k ∉ s1) : ∀ b, K1 b ≠ k := fun b q => (h b k q h0).elim hs (hk b)
theorem SHP.far {E : XE} {K : Nat → Nat} {F F1 : Nat → Nat → Nat} {G : XG} {a k : Nat} {e : va_E} (hF : ∀ j, F1 a j = F a j) (h : SHP E K F G a k e) : SHP E K F1 G a k e := by
  unfold SHP at h ⊢
  simp only [hF]
  exact h
theorem SHP.vd {E : XE} {K : Nat → Nat} {F : Nat → Nat → Nat} {G : XG} {a k sb : Nat} {e : va_E} (hk : k ≠ 11) (h : SHP E K F G a k e) : SHP (E.1, E.2.1, E.2.2.1, sb, E.2.2.2.2) K F G a k e := by
  unfold SHP at h ⊢
  split at h
  all_goals first | exact h | exact absurd rfl hk | (split <;> first | exact h | (exfalso; simp_all; done))
theorem LD.tl {x : Nat × va_E} {L : va_W} (h : LD (x :: L)) : LD L := fun i j y z h1 h2 e => by
  have := h (i + 1) (j + 1) y z h1 h2 e
  omega
theorem LD.nx {x : Nat × va_E} {L : va_W} (h : LD (x :: L)) : ∀ q ∈ L, q.1 ≠ x.1 := fun q hq e => by
  obtain ⟨i, hi⟩ := List.mem_iff_getElem?.mp hq
  have := h (i + 1) 0 q x hi rfl e
  omega
theorem LD.cons {x : Nat × va_E} {L : va_W} (h : LD L) (hx : ∀ q ∈ L, q.1 ≠ x.1) : LD (x :: L) := fun i j y z h1 h2 e => by
  match i, j with
  | 0, 0 => rfl
  | 0, j + 1 =>
    have h1 : some x = some y := h1
    cases h1
    exact absurd e.symm (hx z (List.mem_of_getElem? h2))
  | i + 1, 0 =>
    have h2 : some x = some z := h2
    cases h2
    exact absurd e (hx y (List.mem_of_getElem? h1))
  | i + 1, j + 1 =>
    have := h i j y z h1 h2 e
    omega
theorem LD.set {L : va_W} {i a : Nat} {e e' : va_E} (h : LD L) (hi : L[i]? = some (a, e)) : LD (L.set i (a, e')) := by
  have key : ∀ (j : Nat) (y : Nat × va_E), (L.set i (a, e'))[j]? = some y → ∃ z : Nat × va_E, L[j]? = some z ∧ z.1 = y.1 := by
    intro j y hy
    by_cases hj : i = j
    · subst hj
      rw [List.getElem?_set_self (List.getElem?_eq_some_iff.mp hi).1] at hy
      cases hy
      exact ⟨_, hi, rfl⟩
    · rw [List.getElem?_set_ne hj] at hy
      exact ⟨y, hy, rfl⟩
  intro j k y z h1 h2 e
  obtain ⟨y', a1, a2⟩ := key j y h1
  obtain ⟨z', b1, b2⟩ := key k z h2
  exact h j k y' z' a1 b1 (by rw [a2, b2]; exact e)
theorem TX.push {E : XE} {K : Nat → Nat} {F : Nat → Nat → Nat} {G : XG} {L ws : va_W} {H1 : Heap} {q : Nat} {e : va_E} (hw : TWk E K F G ws) (hL : ∀ q ∈ L, K q.1 = 0 ∧ ∃ i : Nat, ws[i]? = some q) (hl : LD L) (hP : va_P E.1 vwCl (ws ++ [(q, e)]) H1) (hD : va_D (xA E) (ws ++ [(q, e)])) : TX E K F G ((q, e) :: L) H1 := by
  have up : ∀ (i : Nat) (x : Nat × va_E), ws[i]? = some x → (ws ++ [(q, e)])[i]? = some x := fun i x h => by rw [List.getElem?_append_left (List.getElem?_eq_some_iff.mp h).1]; exact h
  have here : (ws ++ [(q, e)])[ws.length]? = some (q, e) := by simp
  have ap : ∀ (i : Nat) (x : Nat × va_E), ws[i]? = some x → x.1 ≠ q := fun i x h z => by
    have hl := (List.getElem?_eq_some_iff.mp h).1
    have := hD.1 _ _ _ _ (up _ _ h) here z
    omega
  have hq : K q = 0 := by
    by_cases z : K q = 0
    · exact z
    · obtain ⟨i, x, h1, -⟩ := hw.1 q z
      exact absurd rfl (ap _ _ h1)
  refine ⟨_, hw.push, ?_, hl.cons (fun x hx => ?_), hP, hD⟩
  · intro x hx
    rcases List.mem_cons.mp hx with h | h
    · subst h
      exact ⟨hq, _, here⟩
    · obtain ⟨h1, i, h2⟩ := hL x h
      exact ⟨h1, i, up _ _ h2⟩
  · obtain ⟨h1, i, h2⟩ := hL x hx
    exact ap _ _ h2
theorem TX.up {E : XE} {K : Nat → Nat} {F : Nat → Nat → Nat} {G : XG} {L ws : va_W} {H1 : Heap} {i j a : Nat} {e e' : va_E} (hw : TWk E K F G ws) (hL : ∀ q ∈ L, K q.1 = 0 ∧ ∃ i : Nat, ws[i]? = some q) (hl : LD L) (hi : L[i]? = some (a, e)) (hj : ws[j]? = some (a, e)) (hP : va_P E.1 vwCl (ws.set j (a, e')) H1) (hD : va_D (xA E) (ws.set j (a, e'))) : TX E K F G (L.set i (a, e')) H1 := by
  have ha := (hL _ (List.mem_of_getElem? hi)).1
  refine ⟨_, hw.set hj ha, ?_, hl.set hi, hP, hD⟩
  intro x hx
  obtain ⟨k, hk⟩ := List.mem_iff_getElem?.mp hx
  by_cases e9 : i = k
  · subst e9
    rw [List.getElem?_set_self (List.getElem?_eq_some_iff.mp hi).1] at hk
    cases hk
    exact ⟨ha, j, set_here hj⟩
  · rw [List.getElem?_set_ne e9] at hk
    obtain ⟨h1, z, h2⟩ := hL x (List.mem_of_getElem? hk)
    refine ⟨h1, z, set_at hj h2 ?_⟩
    intro q
    exact e9 (hl i k _ _ hi hk q.symm)
/-- a cell that is as its kind wants it -/
theorem TX.cl {E : XE} {K : Nat → Nat} {F : Nat → Nat → Nat} {G : XG} {L : va_W} {H : Heap} {a : Nat} {e : va_E} (h : TX E K F G ((a, e) :: L) H) (k : Nat) (fv : Nat → Nat) (hk0 : k ≠ 0) (hu : k ∈ xuq → ∀ b, K b ≠ k) (hs : ∀ (K1 : Nat → Nat) (F1 : Nat → Nat → Nat), KM K K1 → (∀ j, F1 a j = fv j) → SHP E K1 F1 G a k e) : ∃ (K1 : Nat → Nat) (F1 : Nat → Nat → Nat), KM K K1 ∧ K1 a = k ∧ NU [k] K K1 ∧ TX E K1 F1 G L H := by
  obtain ⟨ws, hw, hL, hl, hP, hD⟩ := h
  obtain ⟨ha, i, hi⟩ := hL (a, e) List.mem_cons_self
  have hM : KM K (va_up K a k) := KM.up ha
  have hx : ∀ b, b ≠ a → va_up K a k b = K b := fun b hb => va_up_ne _ _ hb
  refine ⟨va_up K a k, fun x j => if x = a then fv j else F x j, hM, va_up_self _ _ _, ?_, ws, ⟨?_, ?_⟩, ?_, hl.tl, hP, hD⟩
  · intro b k' h1 h0
    by_cases e9 : b = a
    · subst e9
      rw [va_up_self] at h1
      exact Or.inl (by rw [← h1]; exact List.mem_singleton.mpr rfl)
    · rw [hx b e9] at h1
      exact Or.inr h1
  · intro b hb
    by_cases e9 : b = a
    · subst e9
      refine ⟨i, e, hi, ?_⟩
      rw [va_up_self]
      exact hs _ _ hM (fun j => if_pos rfl)
    · rw [hx b e9] at hb ⊢
      obtain ⟨i2, e2, h1, h2⟩ := hw.1 b hb
      exact ⟨i2, e2, h1, (h2.mono hM).far (fun j => if_neg e9)⟩
  · intro k' hk' b c hb hc
    by_cases eb : b = a
    · subst eb
      rw [va_up_self] at hb
      by_cases ec : c = b
      · exact ec.symm
      · rw [hx c ec] at hc
        subst hb
        exact absurd hc (hu hk' c)
    · by_cases ec : c = a
      · subst ec
        rw [va_up_self] at hc
        rw [hx b eb] at hb
        subst hc
        exact absurd hb (hu hk' b)
      · rw [hx b eb] at hb
        rw [hx c ec] at hc
        exact hw.2 k' hk' b c hb hc
  · intro x hx9
    obtain ⟨h1, h2⟩ := hL x (List.mem_cons_of_mem _ hx9)
    refine ⟨?_, h2⟩
    rw [hx x.1 (hl.nx x hx9)]
    exact h1
theorem TX.sw {E : XE} {K : Nat → Nat} {F : Nat → Nat → Nat} {G : XG} {L : va_W} {H : Heap} {x y : Nat × va_E} (h : TX E K F G (x :: y :: L) H) : TX E K F G (y :: x :: L) H := by
  obtain ⟨ws, hw, hL, hl, hP, hD⟩ := h
  refine ⟨ws, hw, ?_, ?_, hP, hD⟩
  · intro q hq
    rcases List.mem_cons.mp hq with e | hq
    · exact hL q (by rw [e]; exact List.mem_cons_of_mem _ List.mem_cons_self)
    · rcases List.mem_cons.mp hq with e | hq
      · exact hL q (by rw [e]; exact List.mem_cons_self)
      · exact hL q (List.mem_cons_of_mem _ (List.mem_cons_of_mem _ hq))
  · refine (hl.tl.tl.cons (fun q hq => hl.nx q (List.mem_cons_of_mem _ hq))).cons (fun q hq => ?_)
    rcases List.mem_cons.mp hq with e | hq
    · subst e
      exact fun z => hl.nx y List.mem_cons_self z.symm
    · exact hl.tl.nx q hq
theorem TX.vd {E : XE} {K : Nat → Nat} {F : Nat → Nat → Nat} {G : XG} {L : va_W} {H : Heap} (sb : Nat) (hk : ∀ b, K b ≠ 11) (h : TX E K F G L H) : TX (E.1, E.2.1, E.2.2.1, sb, E.2.2.2.2) K F G L H := by
  obtain ⟨ws, hw, hL, hl, hP, hD⟩ := h
  refine ⟨ws, ⟨fun b hb => ?_, hw.2⟩, hL, hl, hP, hD⟩
  obtain ⟨i, e, h1, h2⟩ := hw.1 b hb
  exact ⟨i, e, h1, h2.vd (hk b)⟩
theorem TX.TW {E : XE} {K : Nat → Nat} {F : Nat → Nat → Nat} {G : XG} {L : va_W} {H : Heap} {v : Nat} (h : TX E K F G ((E.2.2.2.1, .inr (0, [.ref v, .int 0, .int 0, .int 0])) :: (v, .inl (E.2.1 2, 16, .inl (fun _ => 0))) :: L) H) : TW E K F G [] H := by
  obtain ⟨ws, hw, hL, hl, hP, hD⟩ := h
  obtain ⟨a1, i, a2⟩ := hL _ List.mem_cons_self
  obtain ⟨b1, j, b2⟩ := hL _ (List.mem_cons_of_mem _ List.mem_cons_self)
  exact ⟨ws, ⟨hw.1, hw.2, i, j, v, 16, _, 0, 0, a2, b2, a1, b1, fun _ => rfl, by decide, by decide, by decide⟩, hP, hD, KN.nil⟩
def XPx (E : XE) (K : Nat → Nat) (F : Nat → Nat → Nat) (G : XG) (L : va_W) (U : State) : Prop := E.2.2.1 ≤ U.heap.size ∧ (XK E U ∧ va_AO "LateRules$Rule" U ∧ va_AO "LateRules$Rows" U) ∧ TX E K F G L U.heap
theorem XPx.at {E : XE} {K : Nat → Nat} {F : Nat → Nat → Nat} {G : XG} {L : va_W} {s U : State} {locs : List Loc} {H : Heap} (hK : XK E s) (hA : va_AO "LateRules$Rule" s ∧ va_AO "LateRules$Rows" s) (hz : E.2.2.1 ≤ s.heap.size) (hS : va_S (xA E) s.heap H locs) (hT : TX E K F G L H) (hU : U.heap = H) (hW : s.WarmedH U.vm) : XPx E K F G L U :=
  ⟨by rw [hU]; exact Nat.le_trans hz hS.1, ⟨hK.at hS hU hW, va_AO.moved hW.alike hA.1, va_AO.moved hW.alike hA.2⟩, by rw [hU]; exact hT⟩
theorem XPx.blind {E : XE} {K : Nat → Nat} {F : Nat → Nat → Nat} {G : XG} {L : va_W} {av : List Value} : FrameBlind (va_Pc av (XPx E K F G L)) := fun a U g mk h => ⟨h.1, h.2.1, ⟨h.2.2.1.1.same (u := U) rfl rfl, va_AO.moved (u := U) (Vm.Alike.refl U.vm) h.2.2.1.2.1, va_AO.moved (u := U) (Vm.Alike.refl U.vm) h.2.2.1.2.2⟩, h.2.2.2⟩
/-- two of one kind: one and the same, or the ghost is as it was -/
def XGq (E : XE) (K : Nat → Nat) (F : Nat → Nat → Nat) (G G' : XG) (a b : Nat) : Prop := b = a ∨ G = G'
theorem TWk.set2 {E : XE} {K : Nat → Nat} {F : Nat → Nat → Nat} {G G' : XG} {ws : va_W} {i a : Nat} {e e' : va_E} (h : TWk E K F G ws) (he : ws[i]? = some (a, e)) (hk : K a ≠ 0) (hg : XGs E K F G G' (K a)) (hu : ∀ b, K b = K a → XGq E K F G G' a b) (hs : SHP E K F G' a (K a) e') : TWk E K F G' (ws.set i (a, e')) := by
  refine ⟨fun b hb => ?_, h.2⟩
  by_cases hab : b = a
  · subst hab
    exact ⟨i, e', set_here he, hs⟩
  · obtain ⟨i2, e2, h1, h2⟩ := h.1 b hb
    refine ⟨i2, e2, set_at he h1 hab, ?_⟩
    by_cases hk2 : K b = K a
    · exact (hu b hk2).elim (fun q => absurd q hab) (fun q => by rw [← q]; exact h2)
    · exact hg b (K b) e2 hk2 h2
theorem tx_keep {K : Nat → Nat} {L ws : va_W} {i a : Nat} {e e' : va_E} (hL : ∀ q ∈ L, K q.1 = 0 ∧ ∃ i : Nat, ws[i]? = some q) (he : ws[i]? = some (a, e)) (hk : K a ≠ 0) : ∀ q ∈ L, K q.1 = 0 ∧ ∃ j : Nat, (ws.set i (a, e'))[j]? = some q := by
  intro q hq
  obtain ⟨h1, j, h2⟩ := hL q hq
  refine ⟨h1, j, set_at he h2 ?_⟩
  intro z
  rw [z] at h1
  exact hk h1
section XT
variable {p : Program} {l : Launch} {e : Env} {R : Room} {s : State} {m : MethodId} {args : Array Value} {below : List Frame} {meth : Method} {c : Code} {H : Heap} {locs : List Loc} {cells slots : Nat} {Q : State → Prop}
variable {pc : Nat} {ls : Array Slot} {rest : List Value} {H0 : Heap} {E : XE} {cc : ByteArray} {nL : Nat} {own : String} {w0 : Cond} {K : Nat → Nat} {F : Nat → Nat → Nat} {G : XG} {L : va_W} {a idx : Nat} {C : String} {T : u_T} {N ci : Nat} {fs : List Value}
theorem tx_new (S : CallFix p m c cc nL s args (w0 :: GT) own) (hK : XK E s) (hz : E.2.2.1 ≤ s.heap.size) (hT : TX E K F G L H) (hS : va_S (xA E) s.heap H locs) (hin : ∀ w ∈ u_ws C T N, w ∈ GT) (ty : Nat → FieldType) (hty : ∀ k, k < N → parseFieldDescriptor (T k).2.2.1 = some (ty k)) (hl : Cond.classLink own idx C ∈ GT) (hin1 : Cond.instantiable C N ∈ GT) (hin2 : Cond.initialized C ∈ GT) (hc9 : vwCl[ci]? = some (C, T, N)) (hfs : ∀ j, j < N → defaultValue (ty j) = vp_V fs j) (hc : cells + 1 ≤ R.cells) (hs : slots + N ≤ R.slots) (hdg : decode cc pc = .ok (.new idx, 3)) (kk : ∀ (q : Nat) (H1 : Heap), TX E K F G ((q, .inr (ci, fs)) :: L) H1 → va_S (xA E) s.heap H1 locs → W p l e R s m args below meth c H1 locs (cells + 1) (slots + N) Q (F0 m (pc + 3) ls (.ref q :: rest))) : W p l e R s m args below meth c H locs cells slots Q (F0 m pc ls rest) := by
  obtain ⟨ws, hw, hL, hl9, hP, hD⟩ := hT
  exact va_new (D := E.1) (ci := ci) (fs := fs) S.1 S.2.1 S.2.2.2.2 (fun w h => List.mem_cons_of_mem _ (hin w h)) ty hty S.2.2.2.1 (S.2.2.2.2 _ (List.mem_cons_of_mem _ hl)) (S.2.2.2.2 _ (List.mem_cons_of_mem _ hin1)) (S.2.2.2.2 _ (List.mem_cons_of_mem _ hin2)) hK.1 hP hD hS (fun q h => Nat.le_trans hz h) hc9 hfs hc hs hdg (fun q H1 hP1 hD1 hS1 => kk q H1 (TX.push hw hL hl9 hP1 hD1) hS1)
theorem tx_get (S : CallFix p m c cc nL s args (w0 :: GT) own) (hK : XK E s) (hT : TX E K F G L H) (hin : ∀ w ∈ u_ws C T N, w ∈ GT) (i : Nat) (hi : L[i]? = some (a, .inr (ci, fs))) (hc9 : vwCl[ci]? = some (C, T, N)) (k : Nat) (hk : k < N) (hl : Cond.fieldLink own idx (T k).1 (T k).2.1 (T k).2.2.1 ∈ GT) {v : Value} (hv : fs[k]? = some v) (hdg : decode cc pc = .ok (.getfield idx, 3)) (kk : W p l e R s m args below meth c H locs cells slots Q (F0 m (pc + 3) ls (v :: rest))) : W p l e R s m args below meth c H locs cells slots Q (F0 m pc ls (.ref a :: rest)) := by
  obtain ⟨ws, hw, hL, hl9, hP, hD⟩ := hT
  obtain ⟨-, j, hj⟩ := hL _ (List.mem_of_getElem? hi)
  exact va_get (D := E.1) S.1 S.2.1 S.2.2.2.2 (fun w h => List.mem_cons_of_mem _ (hin w h)) S.2.2.2.1 hK.1 hP j hj hc9 k hk (S.2.2.2.2 _ (List.mem_cons_of_mem _ hl)) (fun _ h => h) hv hdg kk
theorem tx_put (S : CallFix p m c cc nL s args (w0 :: GT) own) (hK : XK E s) (hT : TX E K F G L H) (hS : va_S (xA E) H0 H locs) (hin : ∀ w ∈ u_ws C T N, w ∈ GT) (ty0 : Nat → FieldType) (hty : ∀ k, k < N → parseFieldDescriptor (T k).2.2.1 = some (ty0 k)) (hnm : ∀ a, a < N → ∀ b, b < N → a ≠ b → (T a).2.1 ≠ (T b).2.1) (i : Nat) (hi : L[i]? = some (a, .inr (ci, fs))) (hc9 : vwCl[ci]? = some (C, T, N)) (k : Nat) (hk : k < N) (hl : Cond.fieldLink own idx (T k).1 (T k).2.1 (T k).2.2.1 ∈ GT) (hfin : (T k).2.2.2 = false) {ty : FieldType} {v : Value} (hd : parseFieldDescriptor (T k).2.2.1 = some ty) (hn : narrow ty v = v) (hfit : fits ty v = true) (hlen : k < fs.length) (hdg : decode cc pc = .ok (.putfield idx, 3)) (kk : ∀ (H1 : Heap) (locs1 : List Loc), TX E K F G (L.set i (a, .inr (ci, fs.set k v))) H1 → va_S (xA E) H0 H1 locs1 → W p l e R s m args below meth c H1 locs1 cells slots Q (F0 m (pc + 3) ls rest)) : W p l e R s m args below meth c H locs cells slots Q (F0 m pc ls (v :: .ref a :: rest)) := by
  obtain ⟨ws, hw, hL, hl9, hP, hD⟩ := hT
  obtain ⟨-, j, hj⟩ := hL _ (List.mem_of_getElem? hi)
  exact va_put (D := E.1) S.1 S.2.1 S.2.2.2.2 (fun w h => List.mem_cons_of_mem _ (hin w h)) ty0 hty hnm S.2.2.2.1 hK.1 hP hD hS j hj hc9 k hk (S.2.2.2.2 _ (List.mem_cons_of_mem _ hl)) (fun _ h => h) hfin hd hn hfit hlen hdg (fun H1 locs1 hP1 hD1 hS1 => kk H1 locs1 (TX.up hw hL hl9 hi hj hP1 hD1) hS1)
theorem tx_putF (S : CallFix p m c cc nL s args (w0 :: GT) own) (hK : XK E s) (hT : TX E K F G L H) (hS : va_S (xA E) H0 H locs) (hin : ∀ w ∈ u_ws C T N, w ∈ GT) (ty0 : Nat → FieldType) (hty : ∀ k, k < N → parseFieldDescriptor (T k).2.2.1 = some (ty0 k)) (hnm : ∀ a, a < N → ∀ b, b < N → a ≠ b → (T a).2.1 ≠ (T b).2.1) (i : Nat) (hi : L[i]? = some (a, .inr (ci, fs))) (hc9 : vwCl[ci]? = some (C, T, N)) (k : Nat) (hk : k < N) (hl : Cond.fieldLink own idx (T k).1 (T k).2.1 (T k).2.2.1 ∈ GT) (hfin : (T k).2.2.2 = true) (hn1 : meth.name = "<init>") (hn2 : (T k).1 = own) {ty : FieldType} {v : Value} (hd : parseFieldDescriptor (T k).2.2.1 = some ty) (hn : narrow ty v = v) (hfit : fits ty v = true) (hlen : k < fs.length) (hdg : decode cc pc = .ok (.putfield idx, 3)) (kk : ∀ (H1 : Heap) (locs1 : List Loc), TX E K F G (L.set i (a, .inr (ci, fs.set k v))) H1 → va_S (xA E) H0 H1 locs1 → W p l e R s m args below meth c H1 locs1 cells slots Q (F0 m (pc + 3) ls rest)) : W p l e R s m args below meth c H locs cells slots Q (F0 m pc ls (v :: .ref a :: rest)) := by
  obtain ⟨ws, hw, hL, hl9, hP, hD⟩ := hT
  obtain ⟨-, j, hj⟩ := hL _ (List.mem_of_getElem? hi)
  exact va_putF (D := E.1) S.1 S.2.1 S.2.2.2.2 (fun w h => List.mem_cons_of_mem _ (hin w h)) ty0 hty hnm S.2.2.2.1 hK.1 hP hD hS j hj hc9 k hk (S.2.2.2.2 _ (List.mem_cons_of_mem _ hl)) (fun _ h => h) hfin hn1 hn2 hd hn hfit hlen hdg (fun H1 locs1 hP1 hD1 hS1 => kk H1 locs1 (TX.up hw hL hl9 hi hj hP1 hD1) hS1)
theorem tx_na0 (S : CallFix p m c cc nL s args (w0 :: GT) own) (hK : XK E s) (hz : E.2.2.1 ≤ s.heap.size) (hT : TX E K F G L H) (hS : va_S (xA E) s.heap H locs) {x : Int32} {N : Nat} (hx : ¬ x < 0) (hN : x.toNatClampNeg = N) (hb9 : N ≤ 3000) (hc : cells + 1 ≤ R.cells) (hs : slots + N ≤ R.slots) (hdg : decode cc pc = .ok (.newarray .int, 2)) (kk : ∀ (q : Nat) (H1 : Heap), TX E K F G ((q, .inl (E.2.1 0, N, .inl (fun _ => 0))) :: L) H1 → va_S (xA E) s.heap H1 locs → W p l e R s m args below meth c H1 locs (cells + 1) (slots + N) Q (F0 m (pc + 2) ls (.ref q :: rest))) : W p l e R s m args below meth c H locs cells slots Q (F0 m pc ls (.int x :: rest)) := by
  obtain ⟨ws, hw, hL, hl9, hP, hD⟩ := hT
  refine va_newa (atype := .int) (ty := .int) (N' := N) (a0 := (N, .inl (fun _ => 0))) S.1 S.2.1 (S.2.2.2.2 _ (List.mem_cons_of_mem _ ka_int)) rfl hK.1 hP hD hS (fun q h => Nat.le_trans hz h) (fun cA => ?_) hx hN (by show N * 4 ≤ _; omega) hc hs hdg (fun q cA H1 hK1 hP1 hD1 hS1 => ?_)
  · first | rfl | (rw [vp_cell_i]; rfl) | (rw [vp_cell_l]; rfl)
  · have hq : cA = E.2.1 0 := by
      have h1 := (hK1.2 7 (cA, .int) rfl).2
      have h2 := (hK.1.2 0 (E.2.1 0, .int) rfl).2
      exact Option.some.inj (h1.symm.trans h2)
    subst hq
    exact kk q H1 (TX.push hw hL hl9 hP1 hD1) hS1
theorem tx_na1 (S : CallFix p m c cc nL s args (w0 :: GT) own) (hK : XK E s) (hz : E.2.2.1 ≤ s.heap.size) (hT : TX E K F G L H) (hS : va_S (xA E) s.heap H locs) {x : Int32} {N : Nat} (hx : ¬ x < 0) (hN : x.toNatClampNeg = N) (hb9 : N ≤ 3000) (hc : cells + 1 ≤ R.cells) (hs : slots + N ≤ R.slots) (hdg : decode cc pc = .ok (.newarray .char, 2)) (kk : ∀ (q : Nat) (H1 : Heap), TX E K F G ((q, .inl (E.2.1 1, N, .inl (fun _ => 0))) :: L) H1 → va_S (xA E) s.heap H1 locs → W p l e R s m args below meth c H1 locs (cells + 1) (slots + N) Q (F0 m (pc + 2) ls (.ref q :: rest))) : W p l e R s m args below meth c H locs cells slots Q (F0 m pc ls (.int x :: rest)) := by
  obtain ⟨ws, hw, hL, hl9, hP, hD⟩ := hT
  refine va_newa (atype := .char) (ty := .char) (N' := N) (a0 := (N, .inl (fun _ => 0))) S.1 S.2.1 (S.2.2.2.2 _ (List.mem_cons_of_mem _ ka_char)) rfl hK.1 hP hD hS (fun q h => Nat.le_trans hz h) (fun cA => ?_) hx hN (by show N * 2 ≤ _; omega) hc hs hdg (fun q cA H1 hK1 hP1 hD1 hS1 => ?_)
  · first | rfl | (rw [vp_cell_i]; rfl) | (rw [vp_cell_l]; rfl)
  · have hq : cA = E.2.1 1 := by
      have h1 := (hK1.2 7 (cA, .char) rfl).2
      have h2 := (hK.1.2 1 (E.2.1 1, .char) rfl).2
      exact Option.some.inj (h1.symm.trans h2)
    subst hq
    exact kk q H1 (TX.push hw hL hl9 hP1 hD1) hS1
theorem tx_na2 (S : CallFix p m c cc nL s args (w0 :: GT) own) (hK : XK E s) (hz : E.2.2.1 ≤ s.heap.size) (hT : TX E K F G L H) (hS : va_S (xA E) s.heap H locs) {x : Int32} {N : Nat} (hx : ¬ x < 0) (hN : x.toNatClampNeg = N) (hb9 : N ≤ 3000) (hc : cells + 1 ≤ R.cells) (hs : slots + N ≤ R.slots) (hdg : decode cc pc = .ok (.newarray .byte, 2)) (kk : ∀ (q : Nat) (H1 : Heap), TX E K F G ((q, .inl (E.2.1 2, N, .inl (fun _ => 0))) :: L) H1 → va_S (xA E) s.heap H1 locs → W p l e R s m args below meth c H1 locs (cells + 1) (slots + N) Q (F0 m (pc + 2) ls (.ref q :: rest))) : W p l e R s m args below meth c H locs cells slots Q (F0 m pc ls (.int x :: rest)) := by
  obtain ⟨ws, hw, hL, hl9, hP, hD⟩ := hT
  refine va_newa (atype := .byte) (ty := .byte) (N' := N) (a0 := (N, .inl (fun _ => 0))) S.1 S.2.1 (S.2.2.2.2 _ (List.mem_cons_of_mem _ ka_byte)) rfl hK.1 hP hD hS (fun q h => Nat.le_trans hz h) (fun cA => ?_) hx hN (by show N * 1 ≤ _; omega) hc hs hdg (fun q cA H1 hK1 hP1 hD1 hS1 => ?_)
  · first | rfl | (rw [vp_cell_i]; rfl) | (rw [vp_cell_l]; rfl)
  · have hq : cA = E.2.1 2 := by
      have h1 := (hK1.2 7 (cA, .byte) rfl).2
      have h2 := (hK.1.2 2 (E.2.1 2, .byte) rfl).2
      exact Option.some.inj (h1.symm.trans h2)
    subst hq
    exact kk q H1 (TX.push hw hL hl9 hP1 hD1) hS1
theorem tx_na3 (S : CallFix p m c cc nL s args (w0 :: GT) own) (hK : XK E s) (hz : E.2.2.1 ≤ s.heap.size) (hT : TX E K F G L H) (hS : va_S (xA E) s.heap H locs) {x : Int32} {N : Nat} (hx : ¬ x < 0) (hN : x.toNatClampNeg = N) (hb9 : N ≤ 3000) (hc : cells + 1 ≤ R.cells) (hs : slots + N ≤ R.slots) (hdg : decode cc pc = .ok (.newarray .boolean, 2)) (kk : ∀ (q : Nat) (H1 : Heap), TX E K F G ((q, .inl (E.2.1 3, N, .inl (fun _ => 0))) :: L) H1 → va_S (xA E) s.heap H1 locs → W p l e R s m args below meth c H1 locs (cells + 1) (slots + N) Q (F0 m (pc + 2) ls (.ref q :: rest))) : W p l e R s m args below meth c H locs cells slots Q (F0 m pc ls (.int x :: rest)) := by
  obtain ⟨ws, hw, hL, hl9, hP, hD⟩ := hT
  refine va_newa (atype := .boolean) (ty := .boolean) (N' := N) (a0 := (N, .inl (fun _ => 0))) S.1 S.2.1 (S.2.2.2.2 _ (List.mem_cons_of_mem _ ka_boolean)) rfl hK.1 hP hD hS (fun q h => Nat.le_trans hz h) (fun cA => ?_) hx hN (by show N * 1 ≤ _; omega) hc hs hdg (fun q cA H1 hK1 hP1 hD1 hS1 => ?_)
  · first | rfl | (rw [vp_cell_i]; rfl) | (rw [vp_cell_l]; rfl)
  · have hq : cA = E.2.1 3 := by
      have h1 := (hK1.2 7 (cA, .boolean) rfl).2
      have h2 := (hK.1.2 3 (E.2.1 3, .boolean) rfl).2
      exact Option.some.inj (h1.symm.trans h2)
    subst hq
    exact kk q H1 (TX.push hw hL hl9 hP1 hD1) hS1
theorem tx_na6 (S : CallFix p m c cc nL s args (w0 :: GT) own) (hK : XK E s) (hz : E.2.2.1 ≤ s.heap.size) (hT : TX E K F G L H) (hS : va_S (xA E) s.heap H locs) {x : Int32} {N : Nat} (hx : ¬ x < 0) (hN : x.toNatClampNeg = N) (hb9 : N ≤ 3000) (hc : cells + 1 ≤ R.cells) (hs : slots + N ≤ R.slots) (hdg : decode cc pc = .ok (.newarray .long, 2)) (kk : ∀ (q : Nat) (H1 : Heap), TX E K F G ((q, .inl (E.2.1 6, N, .inr (.inl (fun _ => 0)))) :: L) H1 → va_S (xA E) s.heap H1 locs → W p l e R s m args below meth c H1 locs (cells + 1) (slots + N) Q (F0 m (pc + 2) ls (.ref q :: rest))) : W p l e R s m args below meth c H locs cells slots Q (F0 m pc ls (.int x :: rest)) := by
  obtain ⟨ws, hw, hL, hl9, hP, hD⟩ := hT
  refine va_newa (atype := .long) (ty := .long) (N' := N) (a0 := (N, .inr (.inl (fun _ => 0)))) S.1 S.2.1 (S.2.2.2.2 _ (List.mem_cons_of_mem _ ka_long)) rfl hK.1 hP hD hS (fun q h => Nat.le_trans hz h) (fun cA => ?_) hx hN (by show N * 8 ≤ _; omega) hc hs hdg (fun q cA H1 hK1 hP1 hD1 hS1 => ?_)
  · first | rfl | (rw [vp_cell_i]; rfl) | (rw [vp_cell_l]; rfl)
  · have hq : cA = E.2.1 6 := by
      have h1 := (hK1.2 7 (cA, .long) rfl).2
      have h2 := (hK.1.2 6 (E.2.1 6, .long) rfl).2
      exact Option.some.inj (h1.symm.trans h2)
    subst hq
    exact kk q H1 (TX.push hw hL hl9 hP1 hD1) hS1
theorem tx_nq4 (S : CallFix p m c cc nL s args (w0 :: GT) own) (hK : XK E s) (hA : va_AO "LateRules$Rule" s) (hz : E.2.2.1 ≤ s.heap.size) (hT : TX E K F G L H) (hS : va_S (xA E) s.heap H locs) (hl : Cond.classLink own idx "LateRules$Rule" ∈ GT) {x : Int32} {N : Nat} (hx : ¬ x < 0) (hN : x.toNatClampNeg = N) (hb9 : N ≤ 3000) (hc : cells + 1 ≤ R.cells) (hs : slots + N ≤ R.slots) (hdg : decode cc pc = .ok (.anewarray idx, 3)) (kk : ∀ (q : Nat) (H1 : Heap), TX E K F G ((q, .inl (E.2.1 4, N, .inr (.inr (.inr (.inr (fun _ => none)))))) :: L) H1 → va_S (xA E) s.heap H1 locs → W p l e R s m args below meth c H1 locs (cells + 1) (slots + N) Q (F0 m (pc + 3) ls (.ref q :: rest))) : W p l e R s m args below meth c H locs cells slots Q (F0 m pc ls (.int x :: rest)) := by
  obtain ⟨ws, hw, hL, hl9, hP, hD⟩ := hT
  refine va_newq (C := "LateRules$Rule") (N' := N) S.1 S.2.1 S.2.2.2.1 (S.2.2.2.2 _ (List.mem_cons_of_mem _ hl)) hA hK.1 hP hD hS (fun q h => Nat.le_trans hz h) hx hN (by omega) hc hs hdg (fun q cA H1 hK1 hP1 hD1 hS1 => ?_)
  have hq : cA = E.2.1 4 := by
    obtain ⟨_, _, _, _, _, h1⟩ := (hK1.2 7 (cA, .object "LateRules$Rule") rfl).2
    obtain ⟨_, _, _, _, _, h2⟩ := (hK.1.2 4 (E.2.1 4, .object "LateRules$Rule") rfl).2
    exact Option.some.inj (h1.symm.trans h2)
  subst hq
  exact kk q H1 (TX.push hw hL hl9 hP1 hD1) hS1
theorem tx_nq5 (S : CallFix p m c cc nL s args (w0 :: GT) own) (hK : XK E s) (hA : va_AO "LateRules$Rows" s) (hz : E.2.2.1 ≤ s.heap.size) (hT : TX E K F G L H) (hS : va_S (xA E) s.heap H locs) (hl : Cond.classLink own idx "LateRules$Rows" ∈ GT) {x : Int32} {N : Nat} (hx : ¬ x < 0) (hN : x.toNatClampNeg = N) (hb9 : N ≤ 3000) (hc : cells + 1 ≤ R.cells) (hs : slots + N ≤ R.slots) (hdg : decode cc pc = .ok (.anewarray idx, 3)) (kk : ∀ (q : Nat) (H1 : Heap), TX E K F G ((q, .inl (E.2.1 5, N, .inr (.inr (.inr (.inr (fun _ => none)))))) :: L) H1 → va_S (xA E) s.heap H1 locs → W p l e R s m args below meth c H1 locs (cells + 1) (slots + N) Q (F0 m (pc + 3) ls (.ref q :: rest))) : W p l e R s m args below meth c H locs cells slots Q (F0 m pc ls (.int x :: rest)) := by
  obtain ⟨ws, hw, hL, hl9, hP, hD⟩ := hT
  refine va_newq (C := "LateRules$Rows") (N' := N) S.1 S.2.1 S.2.2.2.1 (S.2.2.2.2 _ (List.mem_cons_of_mem _ hl)) hA hK.1 hP hD hS (fun q h => Nat.le_trans hz h) hx hN (by omega) hc hs hdg (fun q cA H1 hK1 hP1 hD1 hS1 => ?_)
  have hq : cA = E.2.1 5 := by
    obtain ⟨_, _, _, _, _, h1⟩ := (hK1.2 7 (cA, .object "LateRules$Rows") rfl).2
    obtain ⟨_, _, _, _, _, h2⟩ := (hK.1.2 5 (E.2.1 5, .object "LateRules$Rows") rfl).2
    exact Option.some.inj (h1.symm.trans h2)
  subst hq
  exact kk q H1 (TX.push hw hL hl9 hP1 hD1) hS1
theorem tx_as0 {k n : Nat} (S : CallFix p m c cc nL s args (w0 :: GT) own) (hK : XK E s) (hT : TX E K F G L H) (hS : va_S (xA E) H0 H locs) (ha : K a = k) (hk : ∀ e, SHP E K F G a k e → ∃ f : Nat → Int32, e = .inl (E.2.1 0, n, .inl f) ∧ ∀ i, xok 0 (f i)) (hk2 : ∀ f : Nat → Int32, (∀ i, xok 0 (f i)) → SHP E K F G a k (.inl (E.2.1 0, n, .inl f))) (hk0 : k ≠ 0) {i x : Int32} (hin : 0 ≤ i.toInt ∧ i.toInt < n) (hdg : decode cc pc = .ok (.iastore, 1)) (kk : ∀ (H1 : Heap) (locs1 : List Loc), TX E K F G L H1 → va_S (xA E) H0 H1 locs1 → W p l e R s m args below meth c H1 locs1 cells slots Q (F0 m (pc + 1) ls rest)) : W p l e R s m args below meth c H locs cells slots Q (F0 m pc ls (.int x :: .int i :: .ref a :: rest)) := by
  obtain ⟨ws, hw, hL, hl9, hP, hD⟩ := hT
  obtain ⟨i9, e9, he, hs⟩ := hw.1 a (by rw [ha]; exact hk0)
  rw [ha] at hs
  obtain ⟨f, rfl, ho⟩ := hk _ hs
  exact va_iast S.1 S.2.1 hK.1 hP hD hS i9 0 he rfl (vp_in_iff.mpr hin) hdg (fun H1 locs1 hP1 hD1 hS1 => kk H1 locs1 ⟨_, hw.set2 he (by rw [ha]; exact hk0) XGs.rf (fun _ _ => Or.inr rfl) (by rw [ha]; exact hk2 _ (fun _ => trivial)), tx_keep hL he (by rw [ha]; exact hk0), hl9, hP1, hD1⟩ hS1)
theorem tx_as1 {k n : Nat} (S : CallFix p m c cc nL s args (w0 :: GT) own) (hK : XK E s) (hT : TX E K F G L H) (hS : va_S (xA E) H0 H locs) (ha : K a = k) (hk : ∀ e, SHP E K F G a k e → ∃ f : Nat → Int32, e = .inl (E.2.1 1, n, .inl f) ∧ ∀ i, xok 1 (f i)) (hk2 : ∀ f : Nat → Int32, (∀ i, xok 1 (f i)) → SHP E K F G a k (.inl (E.2.1 1, n, .inl f))) (hk0 : k ≠ 0) {i x : Int32} (hin : 0 ≤ i.toInt ∧ i.toInt < n) (hdg : decode cc pc = .ok (.castore, 1)) (kk : ∀ (H1 : Heap) (locs1 : List Loc), TX E K F G L H1 → va_S (xA E) H0 H1 locs1 → W p l e R s m args below meth c H1 locs1 cells slots Q (F0 m (pc + 1) ls rest)) : W p l e R s m args below meth c H locs cells slots Q (F0 m pc ls (.int x :: .int i :: .ref a :: rest)) := by
  obtain ⟨ws, hw, hL, hl9, hP, hD⟩ := hT
  obtain ⟨i9, e9, he, hs⟩ := hw.1 a (by rw [ha]; exact hk0)
  rw [ha] at hs
  obtain ⟨f, rfl, ho⟩ := hk _ hs
  exact va_cast S.1 S.2.1 hK.1 hP hD hS i9 1 he rfl (vp_in_iff.mpr hin) hdg (fun H1 locs1 hP1 hD1 hS1 => kk H1 locs1 ⟨_, hw.set2 he (by rw [ha]; exact hk0) XGs.rf (fun _ _ => Or.inr rfl) (by rw [ha]; exact hk2 _ (fun q => by unfold upd; split <;> first | exact ho q | exact xok_c x)), tx_keep hL he (by rw [ha]; exact hk0), hl9, hP1, hD1⟩ hS1)
theorem tx_tst {k n j : Nat} {f : Nat → Int32} (S : CallFix p m c cc nL s args (w0 :: GT) own) (hK : XK E s) (hT : TX E K F G L H) (hS : va_S (xA E) H0 H locs) (ha : K a = k) (hk : ∀ e, SHP E K F G a k e → e = .inl (E.2.1 0, n, .inl f) ∧ ∀ i, xok 0 (f i)) (hk2 : ∀ f' : Nat → Int32, (∀ i, xok 0 (f' i)) → SHP E K F (G.1, G.2.1, G.2.2.set j f') a k (.inl (E.2.1 0, n, .inl f'))) (hk0 : k ≠ 0) (hu : k ∈ xuq) (ht : ∀ k', xtrk k' = some j → k' = k) {i x : Int32} (hin : 0 ≤ i.toInt ∧ i.toInt < n) (hdg : decode cc pc = .ok (.iastore, 1)) (kk : ∀ (f' : Nat → Int32) (H1 : Heap) (locs1 : List Loc), (∀ z : Int, 0 ≤ z → aI f' z = if z = i.toInt then x.toInt else aI f z) → TX E K F (G.1, G.2.1, G.2.2.set j f') L H1 → va_S (xA E) H0 H1 locs1 → W p l e R s m args below meth c H1 locs1 cells slots Q (F0 m (pc + 1) ls rest)) : W p l e R s m args below meth c H locs cells slots Q (F0 m pc ls (.int x :: .int i :: .ref a :: rest)) := by
  obtain ⟨ws, hw, hL, hl9, hP, hD⟩ := hT
  obtain ⟨i9, e9, he, hs⟩ := hw.1 a (by rw [ha]; exact hk0)
  rw [ha] at hs
  obtain ⟨rfl, ho⟩ := hk _ hs
  exact va_iast S.1 S.2.1 hK.1 hP hD hS i9 0 he rfl (vp_in_iff.mpr hin) hdg (fun H1 locs1 hP1 hD1 hS1 => kk _ H1 locs1 (aI_upd hin.1) ⟨_, hw.set2 he (by rw [ha]; exact hk0) (by rw [ha]; exact XGs_a ht) (fun b hb => Or.inl (hw.2 _ (by rw [ha]; exact hu) b a hb rfl)) (by rw [ha]; exact hk2 _ (fun _ => trivial)), tx_keep hL he (by rw [ha]; exact hk0), hl9, hP1, hD1⟩ hS1)
theorem tx_len {k n tc : Nat} {ty : FieldType} (S : CallFix p m c cc nL s args (w0 :: GT) own) (hK : XK E s) (hT : TX E K F G L H) (ha : K a = k) (hk : ∀ e, SHP E K F G a k e → ∃ f : Nat → Int32, e = .inl (E.2.1 tc, n, .inl f) ∧ ∀ i, xok tc (f i)) (hk0 : k ≠ 0) (hty : (xty E.2.1)[tc]? = some (E.2.1 tc, ty)) (hdg : decode cc pc = .ok (.arraylength, 1)) (kk : W p l e R s m args below meth c H locs cells slots Q (F0 m (pc + 1) ls (.int (Int32.ofNat n) :: rest))) : W p l e R s m args below meth c H locs cells slots Q (F0 m pc ls (.ref a :: rest)) := by
  obtain ⟨ws, hw, hL, hl9, hP, hD⟩ := hT
  obtain ⟨i9, e9, he, hs⟩ := hw.1 a (by rw [ha]; exact hk0)
  rw [ha] at hs
  obtain ⟨f, rfl, ho⟩ := hk _ hs
  exact va_alen S.1 S.2.1 hK.1 hP i9 tc he hty rfl hdg kk
theorem tx_asq (S : CallFix p m c cc nL s args (w0 :: GT) own) (hK : XK E s) (hT : TX E K F G L H) (hS : va_S (xA E) H0 H locs) (i : Nat) {f : Nat → Option Nat} (hi : L[i]? = some (a, .inl (E.2.1 5, 8, .inr (.inr (.inr (.inr f)))))) {r : Nat} (hr : K r = 8) {x : Int32} (hin : 0 ≤ x.toInt ∧ x.toInt < 8) (hdg : decode cc pc = .ok (.aastore, 1)) (kk : ∀ (H1 : Heap) (locs1 : List Loc), TX E K F G (L.set i (a, .inl (E.2.1 5, 8, .inr (.inr (.inr (.inr (va_up f x.toNatClampNeg (some r)))))))) H1 → va_S (xA E) H0 H1 locs1 → W p l e R s m args below meth c H1 locs1 cells slots Q (F0 m (pc + 1) ls rest)) : W p l e R s m args below meth c H locs cells slots Q (F0 m pc ls (.ref r :: .int x :: .ref a :: rest)) := by
  obtain ⟨ws, hw, hL, hl9, hP, hD⟩ := hT
  obtain ⟨-, j, hj⟩ := hL _ (List.mem_of_getElem? hi)
  obtain ⟨i8, e8, he8, hs8⟩ := hw.1 r (by rw [hr]; decide)
  rw [hr] at hs8
  obtain ⟨rfl, -⟩ := hs8
  exact va_astq (r := (RX6, TX6, 2)) S.1 S.2.1 hK.1 hP hD hS j 5 i8 7 hj rfl he8 rfl (vp_in_iff.mpr hin) hdg (fun H1 locs1 hP1 hD1 hS1 => kk H1 locs1 (TX.up hw hL hl9 hi hj hP1 hD1) hS1)
end XT
