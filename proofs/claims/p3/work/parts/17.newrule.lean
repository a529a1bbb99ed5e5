theorem kinst7 : Cond.instantiable RX7 10 ∈ GT ∧ Cond.initialized RX7 ∈ GT := ⟨GT_mem 513 (by decide +kernel) rfl, GT_mem 111 (by decide +kernel) rfl⟩
/-- kinds that stay as others come -/
def KM (K K1 : Nat → Nat) : Prop := ∀ (x n : Nat), K x = n → n ≠ 0 → K1 x = n
theorem KM.rf {K : Nat → Nat} : KM K K := fun _ _ h _ => h
theorem KM.tr {K K1 K2 : Nat → Nat} (h : KM K K1) (h2 : KM K1 K2) : KM K K2 := fun x n e z => h2 x n (h x n e z) z
theorem KM.up {K : Nat → Nat} {q k : Nat} (hq : K q = 0) : KM K (va_up K q k) := by
  intro x n h hn
  rw [va_up_ne]
  · exact h
  · intro e
    subst e
    exact hn (h.symm.trans hq)
theorem SHP.mono {E : XE} {K K1 : Nat → Nat} {F : Nat → Nat → Nat} {G : XG} {a k : Nat} {e : va_E} (m : KM K K1) (h : SHP E K F G a k e) : SHP E K1 F G a k e := by
  unfold SHP at h ⊢
  split at h
  · obtain ⟨v2, h0, k0, k1⟩ := h
    exact ⟨v2, h0, m _ _ k0 (by decide), m _ _ k1 (by decide)⟩
  · obtain ⟨v3, h0, k0, k1, k2⟩ := h
    exact ⟨v3, h0, m _ _ k0 (by decide), m _ _ k1 (by decide), m _ _ k2 (by decide)⟩
  · obtain ⟨v4, h0, k0, k1, k2, k3⟩ := h
    exact ⟨v4, h0, m _ _ k0 (by decide), m _ _ k1 (by decide), m _ _ k2 (by decide), m _ _ k3 (by decide)⟩
  · obtain ⟨v3, h0, k0, k1, k2⟩ := h
    exact ⟨v3, h0, m _ _ k0 (by decide), m _ _ k1 (by decide), m _ _ k2 (by decide)⟩
  · obtain ⟨v6, h0, k0, k1, k2, k3, k4, k5⟩ := h
    exact ⟨v6, h0, m _ _ k0 (by decide), m _ _ k1 (by decide), m _ _ k2 (by decide), m _ _ k3 (by decide), m _ _ k4 (by decide), m _ _ k5 (by decide)⟩
  · obtain ⟨h0, k0⟩ := h
    exact ⟨h0, m _ _ k0 (by decide)⟩
  · obtain ⟨h0, k0, k1⟩ := h
    exact ⟨h0, m _ _ k0 (by decide), m _ _ k1 (by decide)⟩
  · obtain ⟨v0, v1, v2, v3, v4, v5, v6, v7, v8, v9, h0⟩ := h
    exact ⟨v0, v1, v2, v3, v4, v5, v6, v7, v8, v9, h0⟩
  · obtain ⟨h0, k0⟩ := h
    exact ⟨h0, m _ _ k0 (by decide)⟩
  · obtain ⟨v1, v2, v3, h0, z1⟩ := h
    exact ⟨v1, v2, v3, h0, z1⟩
  · obtain ⟨v17, v18, h0, k0, k1, k2, k3, k4, k5, k6, k7, k8, k9, k10, k11, k12, k13, k14, k15, k16⟩ := h
    exact ⟨v17, v18, h0, m _ _ k0 (by decide), m _ _ k1 (by decide), m _ _ k2 (by decide), m _ _ k3 (by decide), m _ _ k4 (by decide), m _ _ k5 (by decide), m _ _ k6 (by decide), m _ _ k7 (by decide), m _ _ k8 (by decide), m _ _ k9 (by decide), m _ _ k10 (by decide), m _ _ k11 (by decide), m _ _ k12 (by decide), m _ _ k13 (by decide), m _ _ k14 (by decide), m _ _ k15 (by decide), m _ _ k16 (by decide)⟩
  · obtain ⟨h0, k1, k2, k3, k4, k5, k8, k9, k10, k11, k12, k13, k14, k15, k17, k18, k22, k24, k25, k26, k27, k28, k29, k30, k31, k32, k33, k34, k35, k40, k41, k42, k47, k48, k49, k50, k51⟩ := h
    exact ⟨h0, m _ _ k1 (by decide), m _ _ k2 (by decide), m _ _ k3 (by decide), m _ _ k4 (by decide), m _ _ k5 (by decide), m _ _ k8 (by decide), m _ _ k9 (by decide), m _ _ k10 (by decide), m _ _ k11 (by decide), m _ _ k12 (by decide), m _ _ k13 (by decide), m _ _ k14 (by decide), m _ _ k15 (by decide), m _ _ k17 (by decide), m _ _ k18 (by decide), m _ _ k22 (by decide), m _ _ k24 (by decide), m _ _ k25 (by decide), m _ _ k26 (by decide), m _ _ k27 (by decide), m _ _ k28 (by decide), m _ _ k29 (by decide), m _ _ k30 (by decide), m _ _ k31 (by decide), m _ _ k32 (by decide), m _ _ k33 (by decide), m _ _ k34 (by decide), m _ _ k35 (by decide), m _ _ k40 (by decide), m _ _ k41 (by decide), m _ _ k42 (by decide), m _ _ k47 (by decide), m _ _ k48 (by decide), m _ _ k49 (by decide), m _ _ k50 (by decide), m _ _ k51 (by decide)⟩
  · exact h
  · obtain ⟨f, h1, h2⟩ := h
    exact ⟨f, h1, fun i r hr => m _ _ (h2 i r hr) (by decide)⟩
  · obtain ⟨f, h1, h2⟩ := h
    refine ⟨f, h1, fun i hi => ?_⟩
    obtain ⟨r, h3, h4⟩ := h2 i hi
    exact ⟨r, h3, m _ _ h4 (by decide)⟩
  · first | exact h | (split <;> first | exact h | (exfalso; simp_all; done))
theorem TWl.push {E : XE} {K : Nat → Nat} {F : Nat → Nat → Nat} {G : XG} {ws : va_W} {A : Nat → Prop} {q k : Nat} {e : va_E} (h : TWl E K F G ws) (hD : va_D A (ws ++ [(q, e)])) (hk : k ∉ xuq) (hk0 : k ≠ 0) (hs : ∀ K1 : Nat → Nat, SHP E K1 F G q k e) : K q = 0 ∧ TWl E (va_up K q k) F G (ws ++ [(q, e)]) := by
  have hap : ∀ (i : Nat) (x : va_E), ws[i]? = some (q, x) → False := by
    intro i x hi
    have hl := (List.getElem?_eq_some_iff.mp hi).1
    have h1 : (ws ++ [(q, e)])[i]? = some (q, x) := by rw [List.getElem?_append_left hl]; exact hi
    have h2 : (ws ++ [(q, e)])[ws.length]? = some (q, e) := by simp
    have := hD.1 _ _ _ _ h1 h2 rfl
    omega
  have hq : K q = 0 := by
    by_cases z : K q = 0
    · exact z
    · obtain ⟨i, x, h1, -⟩ := h.1 q z
      exact (hap i x h1).elim
  have hm : KM K (va_up K q k) := KM.up hq
  refine ⟨hq, ?_, ?_, ?_⟩
  · intro a ha
    by_cases z : a = q
    · subst z
      exact ⟨ws.length, e, by simp, by rw [va_up_self]; exact hs _⟩
    · rw [va_up_ne _ _ z] at ha ⊢
      obtain ⟨i, x, h1, h2⟩ := h.1 a ha
      exact ⟨i, x, by rw [List.getElem?_append_left (List.getElem?_eq_some_iff.mp h1).1]; exact h1, h2.mono hm⟩
  · intro k1 hk1 a b ha hb
    by_cases za : a = q
    · subst za
      rw [va_up_self] at ha
      subst ha
      exact absurd hk1 hk
    · by_cases zb : b = q
      · subst zb
        rw [va_up_self] at hb
        subst hb
        exact absurd hk1 hk
      · rw [va_up_ne _ _ za] at ha
        rw [va_up_ne _ _ zb] at hb
        exact h.2.1 k1 hk1 a b ha hb
  · obtain ⟨i, j, v, n, f, ml, cnt, h1, h2, h3, h4, h5⟩ := h.2.2
    refine ⟨i, j, v, n, f, ml, cnt, ?_, ?_, ?_, ?_, h5⟩
    · rw [List.getElem?_append_left (List.getElem?_eq_some_iff.mp h1).1]; exact h1
    · rw [List.getElem?_append_left (List.getElem?_eq_some_iff.mp h2).1]; exact h2
    · rw [va_up_ne]
      · exact h3
      · intro z
        rw [z] at h1
        exact hap _ _ h1
    · rw [va_up_ne]
      · exact h4
      · intro z
        rw [z] at h2
        exact hap _ _ h2
theorem KN.push {ws : va_W} {kn : XN} {x : Nat × va_E} (h : KN ws kn) : KN (ws ++ [x]) kn := by
  intro q hq
  obtain ⟨i, ci, fs, h1, h2⟩ := h q hq
  exact ⟨i, ci, fs, by rw [List.getElem?_append_left (List.getElem?_eq_some_iff.mp h1).1]; exact h1, h2⟩
section XNR
variable {p : Program} {l : Launch} {e : Env} {R : Room} {s : State} {m : MethodId} {args : Array Value} {below : List Frame} {meth : Method} {c : Code} {H : Heap} {locs : List Loc} {cells slots : Nat} {Q : State → Prop}
variable {pc : Nat} {ls : Array Slot} {rest : List Value} {E : XE} {cc : ByteArray} {nL : Nat} {own : String} {w0 : Cond} {K : Nat → Nat} {F : Nat → Nat → Nat} {G : XG} {kn : XN} {idx : Nat}
theorem x_newR (S : CallFix p m c cc nL s args (w0 :: GT) own) (hK : XK E s) (hz : E.2.2.1 ≤ s.heap.size) (hT : TW E K F G kn H) (hS : va_S (xA E) s.heap H locs) (hl : Cond.classLink own idx RX7 ∈ GT) (hc : cells + 1 ≤ R.cells) (hs : slots + 10 ≤ R.slots) (hdg : decode cc pc = .ok (.new idx, 3)) (kk : ∀ (q : Nat) (K1 : Nat → Nat) (H1 : Heap), KM K K1 → K1 q = 9 → TW E K1 F G kn H1 → va_S (xA E) s.heap H1 locs → W p l e R s m args below meth c H1 locs (cells + 1) (slots + 10) Q (F0 m (pc + 3) ls (.ref q :: rest))) : W p l e R s m args below meth c H locs cells slots Q (F0 m pc ls rest) := by
  obtain ⟨ws, hw, hP, hD, hkn⟩ := hT
  refine va_new (D := E.1) (ci := 8) (fs := [.int 0, .int 0, .int 0, .int 0, .int 0, .int 0, .int 0, .int 0, .int 0, .int 0]) (C := RX7) (T := TX7) (N := 10) S.1 S.2.1 S.2.2.2.2 (fun w h => List.mem_cons_of_mem _ (inX7 w h)) tyX7 tyX7_ok S.2.2.2.1 (S.2.2.2.2 _ (List.mem_cons_of_mem _ hl)) (S.2.2.2.2 _ (List.mem_cons_of_mem _ kinst7.1)) (S.2.2.2.2 _ (List.mem_cons_of_mem _ kinst7.2)) hK.1 hP hD hS (fun q h => Nat.le_trans hz h) rfl (fun j hj => ?_) hc hs hdg (fun q H1 hP1 hD1 hS1 => ?_)
  · match j, hj with
    | 0, _ => rfl
    | 1, _ => rfl
    | 2, _ => rfl
    | 3, _ => rfl
    | 4, _ => rfl
    | 5, _ => rfl
    | 6, _ => rfl
    | 7, _ => rfl
    | 8, _ => rfl
    | 9, _ => rfl
    | j + 10, hj => exact absurd hj (by omega)
  · obtain ⟨hq, hw1⟩ := hw.push (k := 9) hD1 (by decide) (by decide) (fun K1 => ⟨_, _, _, _, _, _, _, _, _, _, rfl⟩)
    exact kk q (va_up K q 9) H1 (KM.up hq) (va_up_self _ _ _) ⟨_, hw1, hP1, hD1, hkn.push⟩ hS1
theorem x_ldcSw (hx : p.tables.exec = Jvm.exec) (hb : c.code = cc) {tx : String} {q : Nat} (hown : s.vm.findClass own = some m.cls) (hZ : vk_R own idx tx q s) (hdg : decode cc pc = .ok (.ldc_w idx, 3)) (k : W p l e R s m args below meth c H locs cells slots Q (F0 m (pc + 3) ls (.ref q :: rest))) : W p l e R s m args below meth c H locs cells slots Q (F0 m pc ls rest) := by
  intro T hT X
  obtain ⟨t, a1, b1⟩ := k T hT X
  exact ⟨t, X.ldcStringW hx hown (text := tx) (a := q) hZ.1 hZ.2 (g := F0 m pc ls rest) rfl (by rw [hb]; exact hdg) t a1, b1⟩
variable {y : MethodName} {bytes : ByteArray} {maxL n index mc ms : Nat} {rm : Room} {Qc : Array Value → State → Outcome → State → Prop} {b : Addr} {As : List Value} {P9 : State → Prop}
theorem x_runI (S : CallFix p m c cc nL s args (w0 :: GT) own) (hM : Met l y (xw y bytes maxL none) rm (va_Pc (.ref b :: As) P9) Qc mc ms (xA E)) (hc : (Cond.code y bytes maxL none ∈ GT ∧ Cond.instanceMethod y ∈ GT ∧ Cond.initialized y.cls ∈ GT) ∧ y.cls ≠ "java/lang/invoke/MethodHandle" ∧ y.cls ≠ "java/lang/invoke/VarHandle" ∧ (parseMethodDescriptor y.desc).map (fun d => d.parameters.length) = some n) (hi : y.name = "<init>") (hl : Cond.methodLink own index y ∈ GT) (hrc : rm.cells = mc) (hrs : rm.slots = ms) (hR : rm.frames + 1 ≤ R.frames ∧ 8 + (maxL + 11) + rm.locals ≤ R.locals)
    (hK : XK E s) (hbl : ∀ av : List Value, FrameBlind (va_Pc av P9)) (hp9 : ∀ U : State, U.heap = H → s.WarmedH U.vm → P9 U)
    (hn : As.length = n) (hsize : ls.size = nL) (hW : (rest.map fun v => v.category).sum ≤ 8) (hdg : decode cc pc = .ok (.invokespecial index, 3)) (hf : cells + mc ≤ R.cells ∧ slots + ms ≤ R.slots) :
    va_Run p l e R s m args below meth c H locs cells slots mc ms (F0 m pc ls (As.reverse ++ .ref b :: rest)) rest (Qc (Value.ref b :: As).toArray) (xA E) :=
  va_runI S hM ⟨x_callB S n hc.1.1 hc.1.2.2 hl hrc hrs hc.2 hR, hi, S.2.2.2.2 _ (List.mem_cons_of_mem _ hc.1.2.1)⟩ ⟨hbl _, fun U hU hW => ⟨rfl, hp9 U hU hW⟩⟩ rfl hn hsize rfl (lv_room hW) hdg hf
end XNR
