/-! ===== the builder ===== -/
def TWk (E : XE) (K : Nat → Nat) (F : Nat → Nat → Nat) (G : XG) (ws : va_W) : Prop := (∀ a : Nat, K a ≠ 0 → ∃ (i : Nat) (e : va_E), ws[i]? = some (a, e) ∧ SHQ E K F G a (K a) e) ∧ True
def XBs (E : XE) (K : Nat → Nat) (ws : va_W) (v n : Nat) (cnt : Int32) : Prop := ∃ (i j : Nat) (f : Nat → Int32) (ml : Int32), ws[i]? = some (E.2.2.2.1, .inr (0, [.ref v, .int 0, .int ml, .int cnt])) ∧ ws[j]? = some (v, .inl (E.2.1 2, n, .inl f)) ∧ K E.2.2.2.1 = 0 ∧ K v = 0 ∧ (∀ q, xok 2 (f q)) ∧ 0 ≤ cnt.toInt ∧ cnt.toInt ≤ n ∧ n ≤ 100
def TWb (E : XE) (K : Nat → Nat) (F : Nat → Nat → Nat) (G : XG) (v n : Nat) (cnt : Int32) (H : Heap) : Prop := ∃ ws, TWk E K F G ws ∧ XBs E K ws v n cnt ∧ va_P E.1 vwCl ws H ∧ va_D (xA E) ws
def TWc (E : XE) (K : Nat → Nat) (F : Nat → Nat → Nat) (G : XG) (v n : Nat) (cnt : Int32) (q nq : Nat) (H : Heap) : Prop := ∃ ws, TWk E K F G ws ∧ XBs E K ws v n cnt ∧ (∃ (k : Nat) (g : Nat → Int32), ws[k]? = some (q, .inl (E.2.1 2, nq, .inl g)) ∧ K q = 0 ∧ q ≠ v ∧ ∀ z, xok 2 (g z)) ∧ va_P E.1 vwCl ws H ∧ va_D (xA E) ws
theorem TW.op {E : XE} {K : Nat → Nat} {F : Nat → Nat → Nat} {G : XG} {H : Heap} (h : TW E K F G H) : ∃ (v n : Nat) (cnt : Int32), TWb E K F G v n cnt H := by
  obtain ⟨ws, ⟨h1, i, j, v, n, f, ml, cnt, h3⟩, hP, hD⟩ := h
  exact ⟨v, n, cnt, ws, ⟨h1, trivial⟩, ⟨i, j, f, ml, h3⟩, hP, hD⟩
theorem TWb.cl {E : XE} {K : Nat → Nat} {F : Nat → Nat → Nat} {G : XG} {v n : Nat} {cnt : Int32} {H : Heap} (h : TWb E K F G v n cnt H) : TW E K F G H := by
  obtain ⟨ws, ⟨h1, h2⟩, ⟨i, j, f, ml, h3⟩, hP, hD⟩ := h
  exact ⟨ws, ⟨h1, i, j, v, n, f, ml, cnt, h3⟩, hP, hD⟩
theorem TWc.cl {E : XE} {K : Nat → Nat} {F : Nat → Nat → Nat} {G : XG} {v n : Nat} {cnt : Int32} {q nq : Nat} {H : Heap} (h : TWc E K F G v n cnt q nq H) : TW E K F G H := by
  obtain ⟨ws, ⟨h1, h2⟩, ⟨i, j, f, ml, h3⟩, -, hP, hD⟩ := h
  exact ⟨ws, ⟨h1, i, j, v, n, f, ml, cnt, h3⟩, hP, hD⟩
theorem TWb.inv {E : XE} {K : Nat → Nat} {F : Nat → Nat → Nat} {G : XG} {v n : Nat} {cnt : Int32} {H : Heap} (h : TWb E K F G v n cnt H) : 0 ≤ cnt.toInt ∧ cnt.toInt ≤ ((n : Nat) : Int) ∧ ((n : Nat) : Int) ≤ 100 := by
  obtain ⟨ws, -, ⟨i, j, f, ml, -, -, -, -, -, h1, h2, h3⟩, -, -⟩ := h
  exact ⟨h1, h2, by omega⟩
theorem TWk.set {E : XE} {K : Nat → Nat} {F : Nat → Nat → Nat} {G : XG} {ws : va_W} {i b : Nat} {x x' : va_E} (h : TWk E K F G ws) (he : ws[i]? = some (b, x)) (hb : K b = 0) : TWk E K F G (ws.set i (b, x')) := by
  refine ⟨fun a ha => ?_, h.2⟩
  obtain ⟨i', e, h1, h2⟩ := h.1 a ha
  refine ⟨i', e, set_at he h1 ?_, h2⟩
  intro z
  rw [z] at ha
  exact ha hb
theorem TWk.push {E : XE} {K : Nat → Nat} {F : Nat → Nat → Nat} {G : XG} {ws : va_W} {x : Nat × va_E} (h : TWk E K F G ws) : TWk E K F G (ws ++ [x]) := by
  refine ⟨fun a ha => ?_, h.2⟩
  obtain ⟨i', e, h1, h2⟩ := h.1 a ha
  exact ⟨i', e, by rw [List.getElem?_append_left (List.getElem?_eq_some_iff.mp h1).1]; exact h1, h2⟩
theorem ne_oa {A : Nat → Prop} {ws : va_W} {i j a b : Nat} {x : Nat × List Value} {y : ClassId × vp_A} (hD : va_D A ws) (h1 : ws[i]? = some (a, .inr x)) (h2 : ws[j]? = some (b, .inl y)) : b ≠ a := by
  intro z
  subst z
  have e := hD.1 i j _ _ h1 h2 rfl
  subst e
  rw [h1] at h2
  cases h2
theorem xok_fit {v : Int32} (h : xok 2 v) : fits .byte (.int v) = true := by
  have h : narrow .byte (.int v) = .int v := h
  simp only [narrow] at h
  have h2 : v.toInt8.toInt32 = v := by injection h
  rw [← h2]
  exact pk_fb _
section XSB
variable {p : Program} {l : Launch} {e : Env} {R : Room} {s : State} {m : MethodId} {args : Array Value} {below : List Frame} {meth : Method} {c : Code} {H : Heap} {locs : List Loc} {cells slots : Nat} {Q : State → Prop}
variable {pc : Nat} {ls : Array Slot} {rest : List Value} {H0 : Heap} {E : XE} {cc : ByteArray} {nL : Nat} {own : String} {w0 : Cond} {K : Nat → Nat} {F : Nat → Nat → Nat} {G : XG} {v n : Nat} {cnt : Int32} {idx q nq : Nat}
theorem sbg_value (S : CallFix p m c cc nL s args (w0 :: GT) own) (hK : XK E s) (hT : TWb E K F G v n cnt H) (hl : Cond.fieldLink own idx "java/lang/AbstractStringBuilder" "value" "[B" ∈ GT) (hdg : decode cc pc = .ok (.getfield idx, 3)) (kk : W p l e R s m args below meth c H locs cells slots Q (F0 m (pc + 3) ls (.ref v :: rest))) : W p l e R s m args below meth c H locs cells slots Q (F0 m pc ls (.ref E.2.2.2.1 :: rest)) := by
  obtain ⟨ws, hk, ⟨i, j, f, ml, e1, e2, k1, k2, ho, c1, c2, c3⟩, hP, hD⟩ := hT
  exact va_get (D := E.1) (ci := 0) (v := .ref v) (C := RJ4) (T := TJ4) (N := 4) S.1 S.2.1 S.2.2.2.2 (fun w h => List.mem_cons_of_mem _ (inJ4 w h)) S.2.2.2.1 hK.1 hP i e1 rfl 0 (by decide) (S.2.2.2.2 _ (List.mem_cons_of_mem _ hl)) (fun _ h => h) rfl hdg kk
theorem sbg_coder (S : CallFix p m c cc nL s args (w0 :: GT) own) (hK : XK E s) (hT : TWb E K F G v n cnt H) (hl : Cond.fieldLink own idx "java/lang/AbstractStringBuilder" "coder" "B" ∈ GT) (hdg : decode cc pc = .ok (.getfield idx, 3)) (kk : W p l e R s m args below meth c H locs cells slots Q (F0 m (pc + 3) ls (.int 0 :: rest))) : W p l e R s m args below meth c H locs cells slots Q (F0 m pc ls (.ref E.2.2.2.1 :: rest)) := by
  obtain ⟨ws, hk, ⟨i, j, f, ml, e1, e2, k1, k2, ho, c1, c2, c3⟩, hP, hD⟩ := hT
  exact va_get (D := E.1) (ci := 0) (v := .int 0) (C := RJ4) (T := TJ4) (N := 4) S.1 S.2.1 S.2.2.2.2 (fun w h => List.mem_cons_of_mem _ (inJ4 w h)) S.2.2.2.1 hK.1 hP i e1 rfl 1 (by decide) (S.2.2.2.2 _ (List.mem_cons_of_mem _ hl)) (fun _ h => h) rfl hdg kk
theorem sbg_count (S : CallFix p m c cc nL s args (w0 :: GT) own) (hK : XK E s) (hT : TWb E K F G v n cnt H) (hl : Cond.fieldLink own idx "java/lang/AbstractStringBuilder" "count" "I" ∈ GT) (hdg : decode cc pc = .ok (.getfield idx, 3)) (kk : W p l e R s m args below meth c H locs cells slots Q (F0 m (pc + 3) ls (.int cnt :: rest))) : W p l e R s m args below meth c H locs cells slots Q (F0 m pc ls (.ref E.2.2.2.1 :: rest)) := by
  obtain ⟨ws, hk, ⟨i, j, f, ml, e1, e2, k1, k2, ho, c1, c2, c3⟩, hP, hD⟩ := hT
  exact va_get (D := E.1) (ci := 0) (v := .int cnt) (C := RJ4) (T := TJ4) (N := 4) S.1 S.2.1 S.2.2.2.2 (fun w h => List.mem_cons_of_mem _ (inJ4 w h)) S.2.2.2.1 hK.1 hP i e1 rfl 3 (by decide) (S.2.2.2.2 _ (List.mem_cons_of_mem _ hl)) (fun _ h => h) rfl hdg kk
theorem sbp_count (S : CallFix p m c cc nL s args (w0 :: GT) own) (hK : XK E s) (hT : TWb E K F G v n cnt H) (hS : va_S (xA E) H0 H locs) (hl : Cond.fieldLink own idx "java/lang/AbstractStringBuilder" "count" "I" ∈ GT) {x : Int32} (hx : 0 ≤ x.toInt ∧ x.toInt ≤ ((n : Nat) : Int)) (hdg : decode cc pc = .ok (.putfield idx, 3)) (kk : ∀ (H1 : Heap) (locs1 : List Loc), TWb E K F G v n x H1 → va_S (xA E) H0 H1 locs1 → W p l e R s m args below meth c H1 locs1 cells slots Q (F0 m (pc + 3) ls rest)) : W p l e R s m args below meth c H locs cells slots Q (F0 m pc ls (.int x :: .ref E.2.2.2.1 :: rest)) := by
  obtain ⟨ws, hk, ⟨i, j, f, ml, e1, e2, k1, k2, ho, c1, c2, c3⟩, hP, hD⟩ := hT
  have nv := ne_oa hD e1 e2
  exact va_put (D := E.1) (ci := 0) (v := .int x) (ty := .int) (C := RJ4) (T := TJ4) (N := 4) S.1 S.2.1 S.2.2.2.2 (fun w h => List.mem_cons_of_mem _ (inJ4 w h)) tyJ4 tyJ4_ok nmJ4 S.2.2.2.1 hK.1 hP hD hS i e1 rfl 3 (by decide) (S.2.2.2.2 _ (List.mem_cons_of_mem _ hl)) (fun _ h => h) rfl (by decide +kernel) rfl rfl (Nat.le_of_ble_eq_true rfl) hdg (fun H1 locs1 hP1 hD1 hS1 => kk H1 locs1 ⟨_, hk.set e1 k1, ⟨i, j, f, ml, set_here e1, set_at e1 e2 nv, k1, k2, ho, hx.1, hx.2, c3⟩, hP1, hD1⟩ hS1)
theorem sbp_maybe (S : CallFix p m c cc nL s args (w0 :: GT) own) (hK : XK E s) (hT : TWb E K F G v n cnt H) (hS : va_S (xA E) H0 H locs) (hl : Cond.fieldLink own idx "java/lang/AbstractStringBuilder" "maybeLatin1" "Z" ∈ GT) {x : Int32} (hx : x = 0 ∨ x = 1) (hdg : decode cc pc = .ok (.putfield idx, 3)) (kk : ∀ (H1 : Heap) (locs1 : List Loc), TWb E K F G v n cnt H1 → va_S (xA E) H0 H1 locs1 → W p l e R s m args below meth c H1 locs1 cells slots Q (F0 m (pc + 3) ls rest)) : W p l e R s m args below meth c H locs cells slots Q (F0 m pc ls (.int x :: .ref E.2.2.2.1 :: rest)) := by
  obtain ⟨ws, hk, ⟨i, j, f, ml, e1, e2, k1, k2, ho, c1, c2, c3⟩, hP, hD⟩ := hT
  have nv := ne_oa hD e1 e2
  exact va_put (D := E.1) (ci := 0) (v := .int x) (ty := .boolean) (C := RJ4) (T := TJ4) (N := 4) S.1 S.2.1 S.2.2.2.2 (fun w h => List.mem_cons_of_mem _ (inJ4 w h)) tyJ4 tyJ4_ok nmJ4 S.2.2.2.1 hK.1 hP hD hS i e1 rfl 2 (by decide) (S.2.2.2.2 _ (List.mem_cons_of_mem _ hl)) (fun _ h => h) rfl (by decide +kernel) (by rcases hx with h | h <;> subst h <;> rfl) (by rcases hx with h | h <;> subst h <;> rfl) (Nat.le_of_ble_eq_true rfl) hdg (fun H1 locs1 hP1 hD1 hS1 => kk H1 locs1 ⟨_, hk.set e1 k1, ⟨i, j, f, x, set_here e1, set_at e1 e2 nv, k1, k2, ho, c1, c2, c3⟩, hP1, hD1⟩ hS1)
theorem sbp_value (S : CallFix p m c cc nL s args (w0 :: GT) own) (hK : XK E s) (hT : TWc E K F G v n cnt q nq H) (hS : va_S (xA E) H0 H locs) (hl : Cond.fieldLink own idx "java/lang/AbstractStringBuilder" "value" "[B" ∈ GT) (hn : n ≤ nq ∧ nq ≤ 100) (hdg : decode cc pc = .ok (.putfield idx, 3)) (kk : ∀ (H1 : Heap) (locs1 : List Loc), TWb E K F G q nq cnt H1 → va_S (xA E) H0 H1 locs1 → W p l e R s m args below meth c H1 locs1 cells slots Q (F0 m (pc + 3) ls rest)) : W p l e R s m args below meth c H locs cells slots Q (F0 m pc ls (.ref q :: .ref E.2.2.2.1 :: rest)) := by
  obtain ⟨ws, hk, ⟨i, j, f, ml, e1, e2, k1, k2, ho, c1, c2, c3⟩, ⟨k, g, e3, k3, hqv, hg⟩, hP, hD⟩ := hT
  have nv := ne_oa hD e1 e2
  exact va_put (D := E.1) (ci := 0) (v := .ref q) (ty := (.array .byte)) (C := RJ4) (T := TJ4) (N := 4) S.1 S.2.1 S.2.2.2.2 (fun w h => List.mem_cons_of_mem _ (inJ4 w h)) tyJ4 tyJ4_ok nmJ4 S.2.2.2.1 hK.1 hP hD hS i e1 rfl 0 (by decide) (S.2.2.2.2 _ (List.mem_cons_of_mem _ hl)) (fun _ h => h) rfl (by decide +kernel) rfl rfl (Nat.le_of_ble_eq_true rfl) hdg (fun H1 locs1 hP1 hD1 hS1 => kk H1 locs1 ⟨_, hk.set e1 k1, ⟨i, k, g, ml, set_here e1, set_at e1 e3 (ne_oa hD e1 e3), k1, k3, hg, c1, by omega, hn.2⟩, hP1, hD1⟩ hS1)
theorem sb_len (S : CallFix p m c cc nL s args (w0 :: GT) own) (hK : XK E s) (hT : TWb E K F G v n cnt H) (hdg : decode cc pc = .ok (.arraylength, 1)) (kk : ∀ x : Int32, x.toInt = ((n : Nat) : Int) → W p l e R s m args below meth c H locs cells slots Q (F0 m (pc + 1) ls (.int x :: rest))) : W p l e R s m args below meth c H locs cells slots Q (F0 m pc ls (.ref v :: rest)) := by
  obtain ⟨ws, hk, ⟨i, j, f, ml, e1, e2, k1, k2, ho, c1, c2, c3⟩, hP, hD⟩ := hT
  exact va_alen S.1 S.2.1 hK.1 hP j 2 e2 rfl rfl hdg (kk _ (nI_toInt (by omega)))
theorem sc_len (S : CallFix p m c cc nL s args (w0 :: GT) own) (hK : XK E s) (hT : TWc E K F G v n cnt q nq H) (hdg : decode cc pc = .ok (.arraylength, 1)) (kk : ∀ x : Int32, x.toInt = ((n : Nat) : Int) → W p l e R s m args below meth c H locs cells slots Q (F0 m (pc + 1) ls (.int x :: rest))) : W p l e R s m args below meth c H locs cells slots Q (F0 m pc ls (.ref v :: rest)) := by
  obtain ⟨ws, hk, ⟨i, j, f, ml, e1, e2, k1, k2, ho, c1, c2, c3⟩, ⟨k, g, e3, k3, hqv, hg⟩, hP, hD⟩ := hT
  exact va_alen S.1 S.2.1 hK.1 hP j 2 e2 rfl rfl hdg (kk _ (nI_toInt (by omega)))
theorem sb_ld (S : CallFix p m c cc nL s args (w0 :: GT) own) (hK : XK E s) (hT : TWb E K F G v n cnt H) {x : Int32} (hin : 0 ≤ x.toInt ∧ x.toInt < ((n : Nat) : Int)) (hdg : decode cc pc = .ok (.baload, 1)) (kk : ∀ z : Int32, W p l e R s m args below meth c H locs cells slots Q (F0 m (pc + 1) ls (.int z :: rest))) : W p l e R s m args below meth c H locs cells slots Q (F0 m pc ls (.int x :: .ref v :: rest)) := by
  obtain ⟨ws, hk, ⟨i, j, f, ml, e1, e2, k1, k2, ho, c1, c2, c3⟩, hP, hD⟩ := hT
  exact va_bald S.1 S.2.1 hK.1 hP j 2 e2 rfl (vp_in_iff.mpr hin) hdg (kk _)
theorem sb_st (S : CallFix p m c cc nL s args (w0 :: GT) own) (hK : XK E s) (hT : TWb E K F G v n cnt H) (hS : va_S (xA E) H0 H locs) {x z : Int32} (hin : 0 ≤ x.toInt ∧ x.toInt < ((n : Nat) : Int)) (hdg : decode cc pc = .ok (.bastore, 1)) (kk : ∀ (H1 : Heap) (locs1 : List Loc), TWb E K F G v n cnt H1 → va_S (xA E) H0 H1 locs1 → W p l e R s m args below meth c H1 locs1 cells slots Q (F0 m (pc + 1) ls rest)) : W p l e R s m args below meth c H locs cells slots Q (F0 m pc ls (.int z :: .int x :: .ref v :: rest)) := by
  obtain ⟨ws, hk, ⟨i, j, f, ml, e1, e2, k1, k2, ho, c1, c2, c3⟩, hP, hD⟩ := hT
  have nv := ne_oa hD e1 e2
  exact va_bast S.1 S.2.1 hK.1 hP hD hS j 2 e2 rfl (vp_in_iff.mpr hin) hdg (fun H1 locs1 hP1 hD1 hS1 => kk H1 locs1 ⟨_, hk.set e2 k2, ⟨i, j, _, ml, set_at e2 e1 (Ne.symm nv), set_here e2, k1, k2, (fun y => by unfold upd; split <;> first | exact ho y | exact xok_b _), c1, c2, c3⟩, hP1, hD1⟩ hS1)
theorem xnn {x : Int32} (h : 0 ≤ x.toInt) : ¬ x < 0 := by
  intro q
  have h2 := Int32.lt_iff_toInt_lt.mp q
  have h3 : (0 : Int32).toInt = 0 := by decide
  omega
theorem xcl {x : Int32} (h : 0 ≤ x.toInt) : (x.toNatClampNeg : Int) = x.toInt := by
  have h2 : x.toNatClampNeg = x.toInt.toNat := rfl
  omega
theorem xok_cpy {f g : Nat → Int32} {sp dp z : Nat} (hf : ∀ q, xok 2 (f q)) (hg : ∀ q, xok 2 (g q)) : ∀ q, xok 2 (va_cpy f g sp dp z q) := by
  intro q
  unfold va_cpy
  split
  · exact hf _
  · exact hg _
theorem sc_copy (S : CallFix p m c cc nL s args (w0 :: GT) own) (hK : XK E s) (hT : TWc E K F G v n cnt q nq H) (hS : va_S (xA E) H0 H locs) (hac : (Cond.native arraycopyName ∈ GT ∧ Cond.static arraycopyName ∈ GT) ∧ Cond.initialized "java/lang/System" ∈ GT) (hl : Cond.methodLink own idx arraycopyName ∈ GT) {z : Int32} (hz : 0 ≤ z.toInt ∧ z.toInt ≤ ((n : Nat) : Int) ∧ z.toInt ≤ ((nq : Nat) : Int)) (hls : ls.size = nL) (hfr : 1 ≤ R.frames) (hlo : (rest.map fun v => v.category).sum + (nativeFrameWords "java/lang/System" "arraycopy" 5 + 11) ≤ R.locals) (hdg : decode cc pc = .ok (.invokestatic idx, 3)) (kk : ∀ (H1 : Heap) (locs1 : List Loc), TWc E K F G v n cnt q nq H1 → va_S (xA E) H0 H1 locs1 → W p l e R s m args below meth c H1 locs1 cells slots Q (F0 m (pc + 3) ls rest)) : W p l e R s m args below meth c H locs cells slots Q (F0 m pc ls (.int z :: .int 0 :: .ref q :: .int 0 :: .ref v :: rest)) := by
  obtain ⟨ws, hk, ⟨i, j, f, ml, e1, e2, k1, k2, ho, c1, c2, c3⟩, ⟨k, g, e3, k3, hqv, hg⟩, hP, hD⟩ := hT
  have hz2 := xcl hz.1
  have nv := ne_oa hD e1 e2
  have nq' := ne_oa hD e1 e3
  exact va_copyi (ty := .byte) S.1 S.2.1 (S.2.2.1.trans hls.symm) S.2.2.2.1 (S.2.2.2.2 _ (List.mem_cons_of_mem _ hl)) (S.2.2.2.2 _ (List.mem_cons_of_mem _ hac.1.1)) (S.2.2.2.2 _ (List.mem_cons_of_mem _ hac.1.2)) (S.2.2.2.2 _ (List.mem_cons_of_mem _ hac.2)) hK.1 hP hD hS j k 2 2 e2 e3 rfl rfl rfl (by decide) (by decide) (xnn hz.1) (by rw [sb_cl0]; omega) (by rw [sb_cl0]; omega) (fun y _ => xok_fit (ho _)) hfr hlo hdg (fun H1 locs1 hP1 hD1 hS1 => kk H1 locs1 ⟨_, hk.set e3 k3, ⟨i, j, f, ml, set_at e3 e1 (Ne.symm nq'), set_at e3 e2 (Ne.symm hqv), k1, k2, ho, c1, c2, c3⟩, ⟨k, _, set_here e3, k3, hqv, xok_cpy ho hg⟩, hP1, hD1⟩ hS1)
theorem xbyt_ok : ∀ i, i < 13 → ∀ j, xok 2 ((xbyt.getD i []).getD j 0) := by
  have h : ∀ i, i < 13 → ∀ j, j < 30 → narrow .byte (.int ((xbyt.getD i []).getD j 0)) = .int ((xbyt.getD i []).getD j 0) := by decide
  have h2 : ∀ i, i < 13 → (xbyt.getD i []).length ≤ 30 := by decide
  intro i hi j
  by_cases hj : j < 30
  · exact h i hi j hj
  · have h3 := h2 i hi
    rw [List.getD_eq_getElem?_getD, List.getElem?_eq_none (by omega)]
    rfl
theorem st_copy (S : CallFix p m c cc nL s args (w0 :: GT) own) (hK : XK E s) (hT : TWb E K F G v n cnt H) (hS : va_S (xA E) s.heap H locs) (hac : (Cond.native arraycopyName ∈ GT ∧ Cond.static arraycopyName ∈ GT) ∧ Cond.initialized "java/lang/System" ∈ GT) (hl : Cond.methodLink own idx arraycopyName ∈ GT) {t : Nat} (ht : t < 13) {dp z : Int32} (hd : 0 ≤ dp.toInt) (hz : 0 ≤ z.toInt ∧ z.toInt ≤ ((xlen.getD t 0 : Nat) : Int) ∧ dp.toInt + z.toInt ≤ ((n : Nat) : Int)) (hls : ls.size = nL) (hfr : 1 ≤ R.frames) (hlo : (rest.map fun v => v.category).sum + (nativeFrameWords "java/lang/System" "arraycopy" 5 + 11) ≤ R.locals) (hdg : decode cc pc = .ok (.invokestatic idx, 3)) (kk : ∀ (H1 : Heap) (locs1 : List Loc), TWb E K F G v n cnt H1 → va_S (xA E) s.heap H1 locs1 → W p l e R s m args below meth c H1 locs1 cells slots Q (F0 m (pc + 3) ls rest)) : W p l e R s m args below meth c H locs cells slots Q (F0 m pc ls (.int z :: .int dp :: .ref v :: .int 0 :: .ref (E.2.2.2.2.2 t) :: rest)) := by
  obtain ⟨ws, hk, ⟨i, j, f, ml, e1, e2, k1, k2, ho, c1, c2, c3⟩, hP, hD⟩ := hT
  have hz2 := xcl hz.1
  have hd2 := xcl hd
  have nv := ne_oa hD e1 e2
  exact vk_copyt S.1 S.2.1 (S.2.2.1.trans hls.symm) S.2.2.2.1 (S.2.2.2.2 _ (List.mem_cons_of_mem _ hl)) (S.2.2.2.2 _ (List.mem_cons_of_mem _ hac.1.1)) (S.2.2.2.2 _ (List.mem_cons_of_mem _ hac.1.2)) (S.2.2.2.2 _ (List.mem_cons_of_mem _ hac.2)) hK.1 hP hD hS (hK.2.2.2.1.1 t ht).2.2.2 j 2 e2 rfl (by decide) (xnn hd) (xnn hz.1) (by rw [sb_cl0]; omega) (by omega) (fun y _ => xok_fit (xbyt_ok t ht _)) hfr hlo hdg (fun H1 locs1 hP1 hD1 hS1 => kk H1 locs1 ⟨_, hk.set e2 k2, ⟨i, j, _, ml, set_at e2 e1 (Ne.symm nv), set_here e2, k1, k2, xok_cpy (xbyt_ok t ht) ho, c1, c2, c3⟩, hP1, hD1⟩ hS1)
theorem rc_sb (hK : XK E s) (hT : TWb E K F G v n cnt H) : ∃ cell : Cell, H[E.2.2.2.1]? = some cell ∧ cell.vm.isStatics = false ∧ s.vm.findClass RJ4 = some cell.cls := by
  obtain ⟨ws, hk, ⟨i, j, f, ml, e1, e2, k1, k2, ho, c1, c2, c3⟩, hP, hD⟩ := hT
  exact va_recv hK.1 hP (ci := 0) (q := (RJ4, TJ4, 4)) rfl e1
end XSB
