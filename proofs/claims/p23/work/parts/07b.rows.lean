section
section XR
variable {p : Program} {l : Launch} {e : Env} {R : Room} {s : State} {m : MethodId} {args : Array Value} {below : List Frame} {meth : Method} {c : Code} {H : Heap} {locs : List Loc} {cells slots : Nat} {Q : State → Prop}
variable {pc : Nat} {ls : Array Slot} {rest : List Value} {H0 : Heap} {E : XE} {cc : ByteArray} {nL : Nat} {own : String} {w0 : Cond} {K : Nat → Nat} {F : Nat → Nat → Nat} {G : XG} {a idx : Nat}
theorem aI_upd {f : Nat → Int32} {i x : Int32} (hi : 0 ≤ i.toInt) : ∀ z : Int, 0 ≤ z → aI (upd f i.toNatClampNeg x) z = if z = i.toInt then x.toInt else aI f z := by
  intro z hz
  have h : i.toNatClampNeg = i.toInt.toNat := rfl
  unfold aI upd
  rw [h]
  by_cases e : z = i.toInt
  · rw [if_pos e, if_pos (by rw [e])]
  · rw [if_neg e, if_neg (by omega)]
theorem al_0 {k n : Nat} (S : CallFix p m c cc nL s args (w0 :: GT) own) (hK : XK E s) (hT : TW E K F G H) (ha : K a = k) (hk : ∀ e, SHQ E K F G a k e → e = .inl (E.2.1 0, n, .inl (G.2.1 a)) ∧ ∀ i, xok 0 (G.2.1 a i)) (hk0 : k ≠ 0) {i : Int32} (hin : 0 ≤ i.toInt ∧ i.toInt < n) (hdg : decode cc pc = .ok (.iaload, 1)) (kk : ∀ v : Int32, v.toInt = aI (G.2.1 a) i.toInt → xok 0 v → W p l e R s m args below meth c H locs cells slots Q (F0 m (pc + 1) ls (.int v :: rest))) : W p l e R s m args below meth c H locs cells slots Q (F0 m pc ls (.int i :: .ref a :: rest)) := by
  obtain ⟨ws, i9, e9, hw, hP, hD, he, hs⟩ := hT.at ha hk0
  obtain ⟨rfl, ho⟩ := hk _ hs
  exact va_iald S.1 S.2.1 hK.1 hP i9 0 he rfl (vp_in_iff.mpr hin) hdg (kk _ rfl (ho _))
theorem al_1 {k n : Nat} (S : CallFix p m c cc nL s args (w0 :: GT) own) (hK : XK E s) (hT : TW E K F G H) (ha : K a = k) (hk : ∀ e, SHQ E K F G a k e → e = .inl (E.2.1 1, n, .inl (G.2.1 a)) ∧ ∀ i, xok 1 (G.2.1 a i)) (hk0 : k ≠ 0) {i : Int32} (hin : 0 ≤ i.toInt ∧ i.toInt < n) (hdg : decode cc pc = .ok (.caload, 1)) (kk : ∀ v : Int32, v.toInt = aI (G.2.1 a) i.toInt → xok 1 v → W p l e R s m args below meth c H locs cells slots Q (F0 m (pc + 1) ls (.int v :: rest))) : W p l e R s m args below meth c H locs cells slots Q (F0 m pc ls (.int i :: .ref a :: rest)) := by
  obtain ⟨ws, i9, e9, hw, hP, hD, he, hs⟩ := hT.at ha hk0
  obtain ⟨rfl, ho⟩ := hk _ hs
  exact va_cald S.1 S.2.1 hK.1 hP i9 1 he rfl (vp_in_iff.mpr hin) hdg (kk _ rfl (ho _))
theorem al_2 {k n : Nat} (S : CallFix p m c cc nL s args (w0 :: GT) own) (hK : XK E s) (hT : TW E K F G H) (ha : K a = k) (hk : ∀ e, SHQ E K F G a k e → e = .inl (E.2.1 2, n, .inl (G.2.1 a)) ∧ ∀ i, xok 2 (G.2.1 a i)) (hk0 : k ≠ 0) {i : Int32} (hin : 0 ≤ i.toInt ∧ i.toInt < n) (hdg : decode cc pc = .ok (.baload, 1)) (kk : ∀ v : Int32, v.toInt = aI (G.2.1 a) i.toInt → xok 2 v → W p l e R s m args below meth c H locs cells slots Q (F0 m (pc + 1) ls (.int v :: rest))) : W p l e R s m args below meth c H locs cells slots Q (F0 m pc ls (.int i :: .ref a :: rest)) := by
  obtain ⟨ws, i9, e9, hw, hP, hD, he, hs⟩ := hT.at ha hk0
  obtain ⟨rfl, ho⟩ := hk _ hs
  exact va_bald S.1 S.2.1 hK.1 hP i9 2 he rfl (vp_in_iff.mpr hin) hdg (kk _ rfl (ho _))
theorem al_3 {k n : Nat} (S : CallFix p m c cc nL s args (w0 :: GT) own) (hK : XK E s) (hT : TW E K F G H) (ha : K a = k) (hk : ∀ e, SHQ E K F G a k e → e = .inl (E.2.1 3, n, .inl (G.2.1 a)) ∧ ∀ i, xok 3 (G.2.1 a i)) (hk0 : k ≠ 0) {i : Int32} (hin : 0 ≤ i.toInt ∧ i.toInt < n) (hdg : decode cc pc = .ok (.baload, 1)) (kk : ∀ v : Int32, v.toInt = aI (G.2.1 a) i.toInt → xok 3 v → W p l e R s m args below meth c H locs cells slots Q (F0 m (pc + 1) ls (.int v :: rest))) : W p l e R s m args below meth c H locs cells slots Q (F0 m pc ls (.int i :: .ref a :: rest)) := by
  obtain ⟨ws, i9, e9, hw, hP, hD, he, hs⟩ := hT.at ha hk0
  obtain ⟨rfl, ho⟩ := hk _ hs
  exact va_zald S.1 S.2.1 hK.1 hP i9 3 he rfl (vp_in_iff.mpr hin) hdg (kk _ rfl (ho _))
set_option maxRecDepth 100000 in
theorem as_0 {k n : Nat} (S : CallFix p m c cc nL s args (w0 :: GT) own) (hK : XK E s) (hT : TW E K F G H) (hS : va_S (xA E) H0 H locs) (ha : K a = k) (hk : ∀ e, SHQ E K F G a k e → e = .inl (E.2.1 0, n, .inl (G.2.1 a)) ∧ ∀ i, xok 0 (G.2.1 a i)) (hk2 : ∀ G' : XG, (∀ i, xok 0 (G'.2.1 a i)) → SHQ E K F G' a k (.inl (E.2.1 0, n, .inl (G'.2.1 a)))) (hk0 : k ≠ 0) {i x : Int32} (hin : 0 ≤ i.toInt ∧ i.toInt < n) (hdg : decode cc pc = .ok (.iastore, 1)) (kk : ∀ (H1 : Heap) (locs1 : List Loc), TW E K F (cput G a i.toNatClampNeg x) H1 → va_S (xA E) H0 H1 locs1 → W p l e R s m args below meth c H1 locs1 cells slots Q (F0 m (pc + 1) ls rest)) : W p l e R s m args below meth c H locs cells slots Q (F0 m pc ls (.int x :: .int i :: .ref a :: rest)) := by
  obtain ⟨ws, i9, e9, hw, hP, hD, he, hs⟩ := hT.at ha hk0
  obtain ⟨rfl, ho⟩ := hk _ hs
  have hg : (cput G a i.toNatClampNeg x).2.1 a = upd (G.2.1 a) i.toNatClampNeg x := by show up2 _ _ _ _ _ = _; rw [up2_r, upr_at]
  have hq := hk2 (cput G a i.toNatClampNeg x) (fun _ => trivial)
  rw [hg] at hq
  exact va_iast S.1 S.2.1 hK.1 hP hD hS i9 0 he rfl (vp_in_iff.mpr hin) hdg (fun H1 locs1 hP1 hD1 hS1 => kk H1 locs1 ⟨_, hw.set he (by rw [ha]; exact hk0) XGa.c (by rw [ha]; exact hq), hP1, hD1⟩ hS1)
theorem as_1 {k n : Nat} (S : CallFix p m c cc nL s args (w0 :: GT) own) (hK : XK E s) (hT : TW E K F G H) (hS : va_S (xA E) H0 H locs) (ha : K a = k) (hk : ∀ e, SHQ E K F G a k e → e = .inl (E.2.1 1, n, .inl (G.2.1 a)) ∧ ∀ i, xok 1 (G.2.1 a i)) (hk2 : ∀ G' : XG, (∀ i, xok 1 (G'.2.1 a i)) → SHQ E K F G' a k (.inl (E.2.1 1, n, .inl (G'.2.1 a)))) (hk0 : k ≠ 0) {i x : Int32} (hin : 0 ≤ i.toInt ∧ i.toInt < n) (hdg : decode cc pc = .ok (.castore, 1)) (kk : ∀ (H1 : Heap) (locs1 : List Loc), TW E K F (cput G a i.toNatClampNeg (vp_nar .char x)) H1 → va_S (xA E) H0 H1 locs1 → W p l e R s m args below meth c H1 locs1 cells slots Q (F0 m (pc + 1) ls rest)) : W p l e R s m args below meth c H locs cells slots Q (F0 m pc ls (.int x :: .int i :: .ref a :: rest)) := by
  obtain ⟨ws, i9, e9, hw, hP, hD, he, hs⟩ := hT.at ha hk0
  obtain ⟨rfl, ho⟩ := hk _ hs
  have hg : (cput G a i.toNatClampNeg (vp_nar .char x)).2.1 a = upd (G.2.1 a) i.toNatClampNeg (vp_nar .char x) := by show up2 _ _ _ _ _ = _; rw [up2_r, upr_at]
  have hq := hk2 (cput G a i.toNatClampNeg (vp_nar .char x)) (by rw [hg]; intro q; unfold upd; split <;> first | exact ho q | exact xok_c x)
  rw [hg] at hq
  exact va_cast S.1 S.2.1 hK.1 hP hD hS i9 1 he rfl (vp_in_iff.mpr hin) hdg (fun H1 locs1 hP1 hD1 hS1 => kk H1 locs1 ⟨_, hw.set he (by rw [ha]; exact hk0) XGa.c (by rw [ha]; exact hq), hP1, hD1⟩ hS1)
theorem as_2 {k n : Nat} (S : CallFix p m c cc nL s args (w0 :: GT) own) (hK : XK E s) (hT : TW E K F G H) (hS : va_S (xA E) H0 H locs) (ha : K a = k) (hk : ∀ e, SHQ E K F G a k e → e = .inl (E.2.1 2, n, .inl (G.2.1 a)) ∧ ∀ i, xok 2 (G.2.1 a i)) (hk2 : ∀ G' : XG, (∀ i, xok 2 (G'.2.1 a i)) → SHQ E K F G' a k (.inl (E.2.1 2, n, .inl (G'.2.1 a)))) (hk0 : k ≠ 0) {i x : Int32} (hin : 0 ≤ i.toInt ∧ i.toInt < n) (hdg : decode cc pc = .ok (.bastore, 1)) (kk : ∀ (H1 : Heap) (locs1 : List Loc), TW E K F (cput G a i.toNatClampNeg (vp_nar .byte x)) H1 → va_S (xA E) H0 H1 locs1 → W p l e R s m args below meth c H1 locs1 cells slots Q (F0 m (pc + 1) ls rest)) : W p l e R s m args below meth c H locs cells slots Q (F0 m pc ls (.int x :: .int i :: .ref a :: rest)) := by
  obtain ⟨ws, i9, e9, hw, hP, hD, he, hs⟩ := hT.at ha hk0
  obtain ⟨rfl, ho⟩ := hk _ hs
  have hg : (cput G a i.toNatClampNeg (vp_nar .byte x)).2.1 a = upd (G.2.1 a) i.toNatClampNeg (vp_nar .byte x) := by show up2 _ _ _ _ _ = _; rw [up2_r, upr_at]
  have hq := hk2 (cput G a i.toNatClampNeg (vp_nar .byte x)) (by rw [hg]; intro q; unfold upd; split <;> first | exact ho q | exact xok_b x)
  rw [hg] at hq
  exact va_bast S.1 S.2.1 hK.1 hP hD hS i9 2 he rfl (vp_in_iff.mpr hin) hdg (fun H1 locs1 hP1 hD1 hS1 => kk H1 locs1 ⟨_, hw.set he (by rw [ha]; exact hk0) XGa.c (by rw [ha]; exact hq), hP1, hD1⟩ hS1)
theorem as_3 {k n : Nat} (S : CallFix p m c cc nL s args (w0 :: GT) own) (hK : XK E s) (hT : TW E K F G H) (hS : va_S (xA E) H0 H locs) (ha : K a = k) (hk : ∀ e, SHQ E K F G a k e → e = .inl (E.2.1 3, n, .inl (G.2.1 a)) ∧ ∀ i, xok 3 (G.2.1 a i)) (hk2 : ∀ G' : XG, (∀ i, xok 3 (G'.2.1 a i)) → SHQ E K F G' a k (.inl (E.2.1 3, n, .inl (G'.2.1 a)))) (hk0 : k ≠ 0) {i x : Int32} (hin : 0 ≤ i.toInt ∧ i.toInt < n) (hdg : decode cc pc = .ok (.bastore, 1)) (kk : ∀ (H1 : Heap) (locs1 : List Loc), TW E K F (cput G a i.toNatClampNeg (vp_nar .boolean x)) H1 → va_S (xA E) H0 H1 locs1 → W p l e R s m args below meth c H1 locs1 cells slots Q (F0 m (pc + 1) ls rest)) : W p l e R s m args below meth c H locs cells slots Q (F0 m pc ls (.int x :: .int i :: .ref a :: rest)) := by
  obtain ⟨ws, i9, e9, hw, hP, hD, he, hs⟩ := hT.at ha hk0
  obtain ⟨rfl, ho⟩ := hk _ hs
  have hg : (cput G a i.toNatClampNeg (vp_nar .boolean x)).2.1 a = upd (G.2.1 a) i.toNatClampNeg (vp_nar .boolean x) := by show up2 _ _ _ _ _ = _; rw [up2_r, upr_at]
  have hq := hk2 (cput G a i.toNatClampNeg (vp_nar .boolean x)) (by rw [hg]; intro q; unfold upd; split <;> first | exact ho q | exact xok_z x)
  rw [hg] at hq
  exact va_zast S.1 S.2.1 hK.1 hP hD hS i9 3 he rfl (vp_in_iff.mpr hin) hdg (fun H1 locs1 hP1 hD1 hS1 => kk H1 locs1 ⟨_, hw.set he (by rw [ha]; exact hk0) XGa.c (by rw [ha]; exact hq), hP1, hD1⟩ hS1)
theorem al_15 (S : CallFix p m c cc nL s args (w0 :: GT) own) (hK : XK E s) (hT : TW E K F G H) (ha : K a = 15) {i : Int32} (hin : 0 ≤ i.toInt ∧ i.toInt < 12) (hdg : decode cc pc = .ok (.aaload, 1)) (kn : G.2.2.1 a i.toInt.toNat = none → W p l e R s m args below meth c H locs cells slots Q (F0 m (pc + 1) ls (.null :: rest))) (kk : ∀ r : Nat, G.2.2.1 a i.toInt.toNat = some r → K r = 9 → W p l e R s m args below meth c H locs cells slots Q (F0 m (pc + 1) ls (.ref r :: rest))) : W p l e R s m args below meth c H locs cells slots Q (F0 m pc ls (.int i :: .ref a :: rest)) := by
  obtain ⟨ws, i9, e9, hw, hP, hD, he, hs⟩ := hT.at ha (by decide)
  obtain ⟨rfl, ho⟩ := hs
  refine va_aldq S.1 S.2.1 hK.1 hP i9 4 he rfl (vp_in_iff.mpr hin) hdg ?_
  cases hf : G.2.2.1 a i.toNatClampNeg with
  | none => exact kn hf
  | some r => exact kk r hf (ho _ r hf)
theorem al_16 (S : CallFix p m c cc nL s args (w0 :: GT) own) (hK : XK E s) (hT : TW E K F G H) (ha : K a = 16) {i : Int32} (hin : 0 ≤ i.toInt ∧ i.toInt < 8) (hdg : decode cc pc = .ok (.aaload, 1)) (kk : ∀ r : Nat, G.2.2.1 a i.toInt.toNat = some r → K r = 8 → F r 99 = 4 + i.toInt.toNat → W p l e R s m args below meth c H locs cells slots Q (F0 m (pc + 1) ls (.ref r :: rest))) : W p l e R s m args below meth c H locs cells slots Q (F0 m pc ls (.int i :: .ref a :: rest)) := by
  obtain ⟨ws, i9, e9, hw, hP, hD, he, hs⟩ := hT.at ha (by decide)
  obtain ⟨rfl, ho⟩ := hs
  have hb : i.toNatClampNeg < 8 := by
    have h : i.toNatClampNeg = i.toInt.toNat := rfl
    omega
  obtain ⟨r, hr, hk, hn⟩ := ho _ hb
  refine va_aldq S.1 S.2.1 hK.1 hP i9 5 he rfl (vp_in_iff.mpr hin) hdg ?_
  rw [hr]
  exact kk r hr hk hn
theorem as_15n (S : CallFix p m c cc nL s args (w0 :: GT) own) (hK : XK E s) (hT : TW E K F G H) (hS : va_S (xA E) H0 H locs) (ha : K a = 15) {i : Int32} (hin : 0 ≤ i.toInt ∧ i.toInt < 12) (hdg : decode cc pc = .ok (.aastore, 1)) (kk : ∀ (H1 : Heap) (locs1 : List Loc), TW E K F (rput G a i.toInt.toNat none) H1 → va_S (xA E) H0 H1 locs1 → W p l e R s m args below meth c H1 locs1 cells slots Q (F0 m (pc + 1) ls rest)) : W p l e R s m args below meth c H locs cells slots Q (F0 m pc ls (.null :: .int i :: .ref a :: rest)) := by
  obtain ⟨ws, i9, e9, hw, hP, hD, he, hs⟩ := hT.at ha (by decide)
  obtain ⟨rfl, ho⟩ := hs
  have hq : SHQ E K F (rput G a i.toInt.toNat none) a 15 (.inl (E.2.1 4, 12, .inr (.inr (.inr (.inr (va_up (G.2.2.1 a) i.toNatClampNeg none)))))) := by
    refine ⟨?_, fun q r hr => ?_⟩
    · have e : va_up (G.2.2.1 a) i.toNatClampNeg none = (rput G a i.toInt.toNat none).2.2.1 a := by
        funext j
        show va_up _ _ _ j = up2 _ _ _ _ _ j
        unfold va_up up2
        by_cases h : j = i.toNatClampNeg
        · rw [if_pos h, if_pos ⟨rfl, h⟩]
        · rw [if_neg h, if_neg (fun q => h q.2)]
      rw [e]
    · unfold rput up2 at hr
      simp only at hr
      split at hr
      · cases hr
      · exact ho q r hr
  exact va_astqN S.1 S.2.1 hK.1 hP hD hS i9 4 he rfl (vp_in_iff.mpr hin) hdg (fun H1 locs1 hP1 hD1 hS1 => kk H1 locs1 ⟨_, hw.set he (by rw [ha]; decide) XGa.r (by rw [ha]; exact hq), hP1, hD1⟩ hS1)
theorem as_15r (S : CallFix p m c cc nL s args (w0 :: GT) own) (hK : XK E s) (hT : TW E K F G H) (hS : va_S (xA E) H0 H locs) (ha : K a = 15) {r : Nat} (hr : K r = 9) {i : Int32} (hin : 0 ≤ i.toInt ∧ i.toInt < 12) (hdg : decode cc pc = .ok (.aastore, 1)) (kk : ∀ (H1 : Heap) (locs1 : List Loc), TW E K F (rput G a i.toInt.toNat (some r)) H1 → va_S (xA E) H0 H1 locs1 → W p l e R s m args below meth c H1 locs1 cells slots Q (F0 m (pc + 1) ls rest)) : W p l e R s m args below meth c H locs cells slots Q (F0 m pc ls (.ref r :: .int i :: .ref a :: rest)) := by
  obtain ⟨ws, i9, e9, hw, hP, hD, he, hs⟩ := hT.at ha (by decide)
  obtain ⟨rfl, ho⟩ := hs
  obtain ⟨i8, e8, he8, hs8⟩ := hw.1 r (by rw [hr]; decide)
  rw [hr] at hs8
  obtain ⟨rfl, -⟩ := hs8
  have hq : SHQ E K F (rput G a i.toInt.toNat (some r)) a 15 (.inl (E.2.1 4, 12, .inr (.inr (.inr (.inr (va_up (G.2.2.1 a) i.toNatClampNeg (some r))))))) := by
    refine ⟨?_, fun q z hz => ?_⟩
    · have e : va_up (G.2.2.1 a) i.toNatClampNeg (some r) = (rput G a i.toInt.toNat (some r)).2.2.1 a := by
        funext j
        show va_up _ _ _ j = up2 _ _ _ _ _ j
        unfold va_up up2
        by_cases h : j = i.toNatClampNeg
        · rw [if_pos h, if_pos ⟨rfl, h⟩]
        · rw [if_neg h, if_neg (fun q => h q.2)]
      rw [e]
    · unfold rput up2 at hz
      simp only at hz
      split at hz
      · cases hz
        exact hr
      · exact ho q z hz
  exact va_astq (r := (RX7, TX7, 10)) S.1 S.2.1 hK.1 hP hD hS i9 4 i8 8 he rfl he8 rfl (vp_in_iff.mpr hin) hdg (fun H1 locs1 hP1 hD1 hS1 => kk H1 locs1 ⟨_, hw.set he (by rw [ha]; decide) XGa.r (by rw [ha]; exact hq), hP1, hD1⟩ hS1)
theorem x_copy {k n : Nat} {b : Nat} (S : CallFix p m c cc nL s args (w0 :: GT) own) (hK : XK E s) (hT : TW E K F G H) (hS : va_S (xA E) H0 H locs) (hac : (Cond.native arraycopyName ∈ GT ∧ Cond.static arraycopyName ∈ GT) ∧ Cond.initialized "java/lang/System" ∈ GT) (hl : Cond.methodLink own idx arraycopyName ∈ GT) (ha : K a = k) (hb : K b = k) (hk : ∀ e, SHQ E K F G a k e → e = .inl (E.2.1 0, n, .inl (G.2.1 a)) ∧ ∀ i, xok 0 (G.2.1 a i)) (hk' : ∀ e, SHQ E K F G b k e → e = .inl (E.2.1 0, n, .inl (G.2.1 b)) ∧ ∀ i, xok 0 (G.2.1 b i)) (hk2 : ∀ G' : XG, (∀ i, xok 0 (G'.2.1 b i)) → SHQ E K F G' b k (.inl (E.2.1 0, n, .inl (G'.2.1 b)))) (hk0 : k ≠ 0) {sp dp z : Int32} (h1 : ¬ sp < 0) (h2 : ¬ dp < 0) (h3 : ¬ z < 0) (h4 : sp.toNatClampNeg + z.toNatClampNeg ≤ n) (h5 : dp.toNatClampNeg + z.toNatClampNeg ≤ n) (hls : ls.size = nL) (hfr : 1 ≤ R.frames) (hlo : (rest.map fun v => v.category).sum + (nativeFrameWords "java/lang/System" "arraycopy" 5 + 11) ≤ R.locals) (hdg : decode cc pc = .ok (.invokestatic idx, 3)) (kk : ∀ (H1 : Heap) (locs1 : List Loc), TW E K F (ccopy G b (va_cpy (G.2.1 a) (G.2.1 b) sp.toNatClampNeg dp.toNatClampNeg z.toNatClampNeg)) H1 → va_S (xA E) H0 H1 locs1 → W p l e R s m args below meth c H1 locs1 cells slots Q (F0 m (pc + 3) ls rest)) : W p l e R s m args below meth c H locs cells slots Q (F0 m pc ls (.int z :: .int dp :: .ref b :: .int sp :: .ref a :: rest)) := by
  obtain ⟨ws, i9, e9, hw, hP, hD, he, hs⟩ := hT.at ha hk0
  obtain ⟨rfl, ho⟩ := hk _ hs
  obtain ⟨i8, e8, he8, hs8⟩ := hw.1 b (by rw [hb]; exact hk0)
  rw [hb] at hs8
  obtain ⟨rfl, ho8⟩ := hk' _ hs8
  have hg : (ccopy G b (va_cpy (G.2.1 a) (G.2.1 b) sp.toNatClampNeg dp.toNatClampNeg z.toNatClampNeg)).2.1 b = va_cpy (G.2.1 a) (G.2.1 b) sp.toNatClampNeg dp.toNatClampNeg z.toNatClampNeg := by show upr _ _ _ _ = _; rw [upr_at]
  have hq := hk2 (ccopy G b (va_cpy (G.2.1 a) (G.2.1 b) sp.toNatClampNeg dp.toNatClampNeg z.toNatClampNeg)) (fun _ => trivial)
  rw [hg] at hq
  exact va_copyi (ty := .int) S.1 S.2.1 (S.2.2.1.trans hls.symm) S.2.2.2.1 (S.2.2.2.2 _ (List.mem_cons_of_mem _ hl)) (S.2.2.2.2 _ (List.mem_cons_of_mem _ hac.1.1)) (S.2.2.2.2 _ (List.mem_cons_of_mem _ hac.1.2)) (S.2.2.2.2 _ (List.mem_cons_of_mem _ hac.2)) hK.1 hP hD hS i9 i8 0 0 he he8 rfl rfl rfl h1 h2 h3 h4 h5 (fun _ _ => rfl) hfr hlo hdg (fun H1 locs1 hP1 hD1 hS1 => kk H1 locs1 ⟨_, hw.set he8 (by rw [hb]; exact hk0) XGa.cc (by rw [hb]; exact hq), hP1, hD1⟩ hS1)
theorem x_alen {k n tc : Nat} {ty : FieldType} (S : CallFix p m c cc nL s args (w0 :: GT) own) (hK : XK E s) (hT : TW E K F G H) (ha : K a = k) (hk : ∀ e, SHQ E K F G a k e → e = .inl (E.2.1 tc, n, .inl (G.2.1 a)) ∧ ∀ i, xok tc (G.2.1 a i)) (hk0 : k ≠ 0) (hty : (xty E.2.1)[tc]? = some (E.2.1 tc, ty)) (hdg : decode cc pc = .ok (.arraylength, 1)) (kk : W p l e R s m args below meth c H locs cells slots Q (F0 m (pc + 1) ls (.int (Int32.ofNat n) :: rest))) : W p l e R s m args below meth c H locs cells slots Q (F0 m pc ls (.ref a :: rest)) := by
  obtain ⟨ws, i9, e9, hw, hP, hD, he, hs⟩ := hT.at ha hk0
  obtain ⟨rfl, ho⟩ := hk _ hs
  exact va_alen S.1 S.2.1 hK.1 hP i9 tc he hty rfl hdg kk
theorem x_recv {k ci : Nat} {q : vw_C} (hK : XK E s) (hT : TW E K F G H) (ha : K a = k) (hk0 : k ≠ 0) (hk : ∀ e, SHQ E K F G a k e → ∃ fs : List Value, e = .inr (ci, fs)) (hc : vwCl[ci]? = some q) : ∃ cell : Cell, H[a]? = some cell ∧ cell.vm.isStatics = false ∧ s.vm.findClass q.1 = some cell.cls := by
  obtain ⟨ws, i9, e9, hw, hP, hD, he, hs⟩ := hT.at ha hk0
  obtain ⟨fs, rfl⟩ := hk _ hs
  exact va_recv hK.1 hP hc he
theorem ar_20 : ∀ e, SHQ E K F G a 20 e → e = .inl (E.2.1 0, 270, .inl (G.2.1 a)) ∧ ∀ i, xok 0 (G.2.1 a i) := by
  rintro e ⟨tc, n, h1, h2, h3⟩
  cases h1
  exact ⟨h2, h3⟩
theorem aw_20 : ∀ G' : XG, (∀ i, xok 0 (G'.2.1 a i)) → SHQ E K F G' a 20 (.inl (E.2.1 0, 270, .inl (G'.2.1 a))) := fun G' h => ⟨0, 270, rfl, rfl, h⟩
theorem ar_21 : ∀ e, SHQ E K F G a 21 e → e = .inl (E.2.1 0, 3, .inl (G.2.1 a)) ∧ ∀ i, xok 0 (G.2.1 a i) := by
  rintro e ⟨tc, n, h1, h2, h3⟩
  cases h1
  exact ⟨h2, h3⟩
theorem aw_21 : ∀ G' : XG, (∀ i, xok 0 (G'.2.1 a i)) → SHQ E K F G' a 21 (.inl (E.2.1 0, 3, .inl (G'.2.1 a))) := fun G' h => ⟨0, 3, rfl, rfl, h⟩
theorem ar_22 : ∀ e, SHQ E K F G a 22 e → e = .inl (E.2.1 0, 1080, .inl (G.2.1 a)) ∧ ∀ i, xok 0 (G.2.1 a i) := by
  rintro e ⟨tc, n, h1, h2, h3⟩
  cases h1
  exact ⟨h2, h3⟩
theorem aw_22 : ∀ G' : XG, (∀ i, xok 0 (G'.2.1 a i)) → SHQ E K F G' a 22 (.inl (E.2.1 0, 1080, .inl (G'.2.1 a))) := fun G' h => ⟨0, 1080, rfl, rfl, h⟩
theorem ar_23 : ∀ e, SHQ E K F G a 23 e → e = .inl (E.2.1 3, 1080, .inl (G.2.1 a)) ∧ ∀ i, xok 3 (G.2.1 a i) := by
  rintro e ⟨tc, n, h1, h2, h3⟩
  cases h1
  exact ⟨h2, h3⟩
theorem aw_23 : ∀ G' : XG, (∀ i, xok 3 (G'.2.1 a i)) → SHQ E K F G' a 23 (.inl (E.2.1 3, 1080, .inl (G'.2.1 a))) := fun G' h => ⟨3, 1080, rfl, rfl, h⟩
theorem ar_24 : ∀ e, SHQ E K F G a 24 e → e = .inl (E.2.1 0, 90, .inl (G.2.1 a)) ∧ ∀ i, xok 0 (G.2.1 a i) := by
  rintro e ⟨tc, n, h1, h2, h3⟩
  cases h1
  exact ⟨h2, h3⟩
theorem aw_24 : ∀ G' : XG, (∀ i, xok 0 (G'.2.1 a i)) → SHQ E K F G' a 24 (.inl (E.2.1 0, 90, .inl (G'.2.1 a))) := fun G' h => ⟨0, 90, rfl, rfl, h⟩
theorem ar_25 : ∀ e, SHQ E K F G a 25 e → e = .inl (E.2.1 1, 80, .inl (G.2.1 a)) ∧ ∀ i, xok 1 (G.2.1 a i) := by
  rintro e ⟨tc, n, h1, h2, h3⟩
  cases h1
  exact ⟨h2, h3⟩
theorem aw_25 : ∀ G' : XG, (∀ i, xok 1 (G'.2.1 a i)) → SHQ E K F G' a 25 (.inl (E.2.1 1, 80, .inl (G'.2.1 a))) := fun G' h => ⟨1, 80, rfl, rfl, h⟩
theorem ar_26 : ∀ e, SHQ E K F G a 26 e → e = .inl (E.2.1 0, 6, .inl (G.2.1 a)) ∧ ∀ i, xok 0 (G.2.1 a i) := by
  rintro e ⟨tc, n, h1, h2, h3⟩
  cases h1
  exact ⟨h2, h3⟩
theorem aw_26 : ∀ G' : XG, (∀ i, xok 0 (G'.2.1 a i)) → SHQ E K F G' a 26 (.inl (E.2.1 0, 6, .inl (G'.2.1 a))) := fun G' h => ⟨0, 6, rfl, rfl, h⟩
theorem ar_27 : ∀ e, SHQ E K F G a 27 e → e = .inl (E.2.1 0, 4, .inl (G.2.1 a)) ∧ ∀ i, xok 0 (G.2.1 a i) := by
  rintro e ⟨tc, n, h1, h2, h3⟩
  cases h1
  exact ⟨h2, h3⟩
theorem aw_27 : ∀ G' : XG, (∀ i, xok 0 (G'.2.1 a i)) → SHQ E K F G' a 27 (.inl (E.2.1 0, 4, .inl (G'.2.1 a))) := fun G' h => ⟨0, 4, rfl, rfl, h⟩
theorem ar_30 : ∀ e, SHQ E K F G a 30 e → e = .inl (E.2.1 0, 360, .inl (G.2.1 a)) ∧ ∀ i, xok 0 (G.2.1 a i) := by
  rintro e ⟨tc, n, h1, h2, h3⟩
  cases h1
  exact ⟨h2, h3⟩
theorem aw_30 : ∀ G' : XG, (∀ i, xok 0 (G'.2.1 a i)) → SHQ E K F G' a 30 (.inl (E.2.1 0, 360, .inl (G'.2.1 a))) := fun G' h => ⟨0, 360, rfl, rfl, h⟩
theorem ar_31 : ∀ e, SHQ E K F G a 31 e → e = .inl (E.2.1 0, 360, .inl (G.2.1 a)) ∧ ∀ i, xok 0 (G.2.1 a i) := by
  rintro e ⟨tc, n, h1, h2, h3⟩
  cases h1
  exact ⟨h2, h3⟩
theorem aw_31 : ∀ G' : XG, (∀ i, xok 0 (G'.2.1 a i)) → SHQ E K F G' a 31 (.inl (E.2.1 0, 360, .inl (G'.2.1 a))) := fun G' h => ⟨0, 360, rfl, rfl, h⟩
theorem ar_32 : ∀ e, SHQ E K F G a 32 e → e = .inl (E.2.1 0, 2880, .inl (G.2.1 a)) ∧ ∀ i, xok 0 (G.2.1 a i) := by
  rintro e ⟨tc, n, h1, h2, h3⟩
  cases h1
  exact ⟨h2, h3⟩
theorem aw_32 : ∀ G' : XG, (∀ i, xok 0 (G'.2.1 a i)) → SHQ E K F G' a 32 (.inl (E.2.1 0, 2880, .inl (G'.2.1 a))) := fun G' h => ⟨0, 2880, rfl, rfl, h⟩
theorem ar_33 : ∀ e, SHQ E K F G a 33 e → e = .inl (E.2.1 0, 360, .inl (G.2.1 a)) ∧ ∀ i, xok 0 (G.2.1 a i) := by
  rintro e ⟨tc, n, h1, h2, h3⟩
  cases h1
  exact ⟨h2, h3⟩
theorem aw_33 : ∀ G' : XG, (∀ i, xok 0 (G'.2.1 a i)) → SHQ E K F G' a 33 (.inl (E.2.1 0, 360, .inl (G'.2.1 a))) := fun G' h => ⟨0, 360, rfl, rfl, h⟩
theorem ar_34 : ∀ e, SHQ E K F G a 34 e → e = .inl (E.2.1 0, 360, .inl (G.2.1 a)) ∧ ∀ i, xok 0 (G.2.1 a i) := by
  rintro e ⟨tc, n, h1, h2, h3⟩
  cases h1
  exact ⟨h2, h3⟩
theorem aw_34 : ∀ G' : XG, (∀ i, xok 0 (G'.2.1 a i)) → SHQ E K F G' a 34 (.inl (E.2.1 0, 360, .inl (G'.2.1 a))) := fun G' h => ⟨0, 360, rfl, rfl, h⟩
theorem ar_35 : ∀ e, SHQ E K F G a 35 e → e = .inl (E.2.1 0, 6, .inl (G.2.1 a)) ∧ ∀ i, xok 0 (G.2.1 a i) := by
  rintro e ⟨tc, n, h1, h2, h3⟩
  cases h1
  exact ⟨h2, h3⟩
theorem aw_35 : ∀ G' : XG, (∀ i, xok 0 (G'.2.1 a i)) → SHQ E K F G' a 35 (.inl (E.2.1 0, 6, .inl (G'.2.1 a))) := fun G' h => ⟨0, 6, rfl, rfl, h⟩
theorem ar_36 : ∀ e, SHQ E K F G a 36 e → e = .inl (E.2.1 0, 4, .inl (G.2.1 a)) ∧ ∀ i, xok 0 (G.2.1 a i) := by
  rintro e ⟨tc, n, h1, h2, h3⟩
  cases h1
  exact ⟨h2, h3⟩
theorem aw_36 : ∀ G' : XG, (∀ i, xok 0 (G'.2.1 a i)) → SHQ E K F G' a 36 (.inl (E.2.1 0, 4, .inl (G'.2.1 a))) := fun G' h => ⟨0, 4, rfl, rfl, h⟩
theorem ar_37 : ∀ e, SHQ E K F G a 37 e → e = .inl (E.2.1 0, 120, .inl (G.2.1 a)) ∧ ∀ i, xok 0 (G.2.1 a i) := by
  rintro e ⟨tc, n, h1, h2, h3⟩
  cases h1
  exact ⟨h2, h3⟩
theorem aw_37 : ∀ G' : XG, (∀ i, xok 0 (G'.2.1 a i)) → SHQ E K F G' a 37 (.inl (E.2.1 0, 120, .inl (G'.2.1 a))) := fun G' h => ⟨0, 120, rfl, rfl, h⟩
theorem ar_38 : ∀ e, SHQ E K F G a 38 e → e = .inl (E.2.1 0, 2388, .inl (G.2.1 a)) ∧ ∀ i, xok 0 (G.2.1 a i) := by
  rintro e ⟨tc, n, h1, h2, h3⟩
  cases h1
  exact ⟨h2, h3⟩
theorem aw_38 : ∀ G' : XG, (∀ i, xok 0 (G'.2.1 a i)) → SHQ E K F G' a 38 (.inl (E.2.1 0, 2388, .inl (G'.2.1 a))) := fun G' h => ⟨0, 2388, rfl, rfl, h⟩
theorem ar_39 : ∀ e, SHQ E K F G a 39 e → e = .inl (E.2.1 0, 2388, .inl (G.2.1 a)) ∧ ∀ i, xok 0 (G.2.1 a i) := by
  rintro e ⟨tc, n, h1, h2, h3⟩
  cases h1
  exact ⟨h2, h3⟩
theorem aw_39 : ∀ G' : XG, (∀ i, xok 0 (G'.2.1 a i)) → SHQ E K F G' a 39 (.inl (E.2.1 0, 2388, .inl (G'.2.1 a))) := fun G' h => ⟨0, 2388, rfl, rfl, h⟩
theorem ar_40 : ∀ e, SHQ E K F G a 40 e → e = .inl (E.2.1 0, 2388, .inl (G.2.1 a)) ∧ ∀ i, xok 0 (G.2.1 a i) := by
  rintro e ⟨tc, n, h1, h2, h3⟩
  cases h1
  exact ⟨h2, h3⟩
theorem aw_40 : ∀ G' : XG, (∀ i, xok 0 (G'.2.1 a i)) → SHQ E K F G' a 40 (.inl (E.2.1 0, 2388, .inl (G'.2.1 a))) := fun G' h => ⟨0, 2388, rfl, rfl, h⟩
theorem ar_41 : ∀ e, SHQ E K F G a 41 e → e = .inl (E.2.1 0, 2388, .inl (G.2.1 a)) ∧ ∀ i, xok 0 (G.2.1 a i) := by
  rintro e ⟨tc, n, h1, h2, h3⟩
  cases h1
  exact ⟨h2, h3⟩
theorem aw_41 : ∀ G' : XG, (∀ i, xok 0 (G'.2.1 a i)) → SHQ E K F G' a 41 (.inl (E.2.1 0, 2388, .inl (G'.2.1 a))) := fun G' h => ⟨0, 2388, rfl, rfl, h⟩
theorem ar_42 : ∀ e, SHQ E K F G a 42 e → e = .inl (E.2.1 0, 12, .inl (G.2.1 a)) ∧ ∀ i, xok 0 (G.2.1 a i) := by
  rintro e ⟨tc, n, h1, h2, h3⟩
  cases h1
  exact ⟨h2, h3⟩
theorem aw_42 : ∀ G' : XG, (∀ i, xok 0 (G'.2.1 a i)) → SHQ E K F G' a 42 (.inl (E.2.1 0, 12, .inl (G'.2.1 a))) := fun G' h => ⟨0, 12, rfl, rfl, h⟩
theorem ar_43 : ∀ e, SHQ E K F G a 43 e → e = .inl (E.2.1 0, 2400, .inl (G.2.1 a)) ∧ ∀ i, xok 0 (G.2.1 a i) := by
  rintro e ⟨tc, n, h1, h2, h3⟩
  cases h1
  exact ⟨h2, h3⟩
theorem aw_43 : ∀ G' : XG, (∀ i, xok 0 (G'.2.1 a i)) → SHQ E K F G' a 43 (.inl (E.2.1 0, 2400, .inl (G'.2.1 a))) := fun G' h => ⟨0, 2400, rfl, rfl, h⟩
theorem ar_44 : ∀ e, SHQ E K F G a 44 e → e = .inl (E.2.1 0, 2400, .inl (G.2.1 a)) ∧ ∀ i, xok 0 (G.2.1 a i) := by
  rintro e ⟨tc, n, h1, h2, h3⟩
  cases h1
  exact ⟨h2, h3⟩
theorem aw_44 : ∀ G' : XG, (∀ i, xok 0 (G'.2.1 a i)) → SHQ E K F G' a 44 (.inl (E.2.1 0, 2400, .inl (G'.2.1 a))) := fun G' h => ⟨0, 2400, rfl, rfl, h⟩
theorem ar_45 : ∀ e, SHQ E K F G a 45 e → e = .inl (E.2.1 2, 24, .inl (G.2.1 a)) ∧ ∀ i, xok 2 (G.2.1 a i) := by
  rintro e ⟨tc, n, h1, h2, h3⟩
  cases h1
  exact ⟨h2, h3⟩
theorem aw_45 : ∀ G' : XG, (∀ i, xok 2 (G'.2.1 a i)) → SHQ E K F G' a 45 (.inl (E.2.1 2, 24, .inl (G'.2.1 a))) := fun G' h => ⟨2, 24, rfl, rfl, h⟩
theorem ar_46 : ∀ e, SHQ E K F G a 46 e → e = .inl (E.2.1 1, 3, .inl (G.2.1 a)) ∧ ∀ i, xok 1 (G.2.1 a i) := by
  rintro e ⟨tc, n, h1, h2, h3⟩
  cases h1
  exact ⟨h2, h3⟩
theorem aw_46 : ∀ G' : XG, (∀ i, xok 1 (G'.2.1 a i)) → SHQ E K F G' a 46 (.inl (E.2.1 1, 3, .inl (G'.2.1 a))) := fun G' h => ⟨1, 3, rfl, rfl, h⟩
theorem ar_47 : ∀ e, SHQ E K F G a 47 e → e = .inl (E.2.1 1, 4, .inl (G.2.1 a)) ∧ ∀ i, xok 1 (G.2.1 a i) := by
  rintro e ⟨tc, n, h1, h2, h3⟩
  cases h1
  exact ⟨h2, h3⟩
theorem aw_47 : ∀ G' : XG, (∀ i, xok 1 (G'.2.1 a i)) → SHQ E K F G' a 47 (.inl (E.2.1 1, 4, .inl (G'.2.1 a))) := fun G' h => ⟨1, 4, rfl, rfl, h⟩
theorem ar_48 : ∀ e, SHQ E K F G a 48 e → e = .inl (E.2.1 1, 5, .inl (G.2.1 a)) ∧ ∀ i, xok 1 (G.2.1 a i) := by
  rintro e ⟨tc, n, h1, h2, h3⟩
  cases h1
  exact ⟨h2, h3⟩
theorem aw_48 : ∀ G' : XG, (∀ i, xok 1 (G'.2.1 a i)) → SHQ E K F G' a 48 (.inl (E.2.1 1, 5, .inl (G'.2.1 a))) := fun G' h => ⟨1, 5, rfl, rfl, h⟩
theorem ar_49 : ∀ e, SHQ E K F G a 49 e → e = .inl (E.2.1 1, 6, .inl (G.2.1 a)) ∧ ∀ i, xok 1 (G.2.1 a i) := by
  rintro e ⟨tc, n, h1, h2, h3⟩
  cases h1
  exact ⟨h2, h3⟩
theorem aw_49 : ∀ G' : XG, (∀ i, xok 1 (G'.2.1 a i)) → SHQ E K F G' a 49 (.inl (E.2.1 1, 6, .inl (G'.2.1 a))) := fun G' h => ⟨1, 6, rfl, rfl, h⟩
theorem ar_50 : ∀ e, SHQ E K F G a 50 e → e = .inl (E.2.1 1, 7, .inl (G.2.1 a)) ∧ ∀ i, xok 1 (G.2.1 a i) := by
  rintro e ⟨tc, n, h1, h2, h3⟩
  cases h1
  exact ⟨h2, h3⟩
theorem aw_50 : ∀ G' : XG, (∀ i, xok 1 (G'.2.1 a i)) → SHQ E K F G' a 50 (.inl (E.2.1 1, 7, .inl (G'.2.1 a))) := fun G' h => ⟨1, 7, rfl, rfl, h⟩
theorem ar_51 : ∀ e, SHQ E K F G a 51 e → e = .inl (E.2.1 2, 80, .inl (G.2.1 a)) ∧ ∀ i, xok 2 (G.2.1 a i) := by
  rintro e ⟨tc, n, h1, h2, h3⟩
  cases h1
  exact ⟨h2, h3⟩
theorem aw_51 : ∀ G' : XG, (∀ i, xok 2 (G'.2.1 a i)) → SHQ E K F G' a 51 (.inl (E.2.1 2, 80, .inl (G'.2.1 a))) := fun G' h => ⟨2, 80, rfl, rfl, h⟩
theorem ar_52 : ∀ e, SHQ E K F G a 52 e → e = .inl (E.2.1 0, 10, .inl (G.2.1 a)) ∧ ∀ i, xok 0 (G.2.1 a i) := by
  rintro e ⟨tc, n, h1, h2, h3⟩
  cases h1
  exact ⟨h2, h3⟩
theorem aw_52 : ∀ G' : XG, (∀ i, xok 0 (G'.2.1 a i)) → SHQ E K F G' a 52 (.inl (E.2.1 0, 10, .inl (G'.2.1 a))) := fun G' h => ⟨0, 10, rfl, rfl, h⟩
theorem ar_53 : ∀ e, SHQ E K F G a 53 e → e = .inl (E.2.1 0, 2400, .inl (G.2.1 a)) ∧ ∀ i, xok 0 (G.2.1 a i) := by
  rintro e ⟨tc, n, h1, h2, h3⟩
  cases h1
  exact ⟨h2, h3⟩
theorem aw_53 : ∀ G' : XG, (∀ i, xok 0 (G'.2.1 a i)) → SHQ E K F G' a 53 (.inl (E.2.1 0, 2400, .inl (G'.2.1 a))) := fun G' h => ⟨0, 2400, rfl, rfl, h⟩
theorem ar_54 : ∀ e, SHQ E K F G a 54 e → e = .inl (E.2.1 0, 2400, .inl (G.2.1 a)) ∧ ∀ i, xok 0 (G.2.1 a i) := by
  rintro e ⟨tc, n, h1, h2, h3⟩
  cases h1
  exact ⟨h2, h3⟩
theorem aw_54 : ∀ G' : XG, (∀ i, xok 0 (G'.2.1 a i)) → SHQ E K F G' a 54 (.inl (E.2.1 0, 2400, .inl (G'.2.1 a))) := fun G' h => ⟨0, 2400, rfl, rfl, h⟩
theorem ar_55 : ∀ e, SHQ E K F G a 55 e → e = .inl (E.2.1 0, 90, .inl (G.2.1 a)) ∧ ∀ i, xok 0 (G.2.1 a i) := by
  rintro e ⟨tc, n, h1, h2, h3⟩
  cases h1
  exact ⟨h2, h3⟩
theorem aw_55 : ∀ G' : XG, (∀ i, xok 0 (G'.2.1 a i)) → SHQ E K F G' a 55 (.inl (E.2.1 0, 90, .inl (G'.2.1 a))) := fun G' h => ⟨0, 90, rfl, rfl, h⟩
theorem ar_56 : ∀ e, SHQ E K F G a 56 e → e = .inl (E.2.1 0, 90, .inl (G.2.1 a)) ∧ ∀ i, xok 0 (G.2.1 a i) := by
  rintro e ⟨tc, n, h1, h2, h3⟩
  cases h1
  exact ⟨h2, h3⟩
theorem aw_56 : ∀ G' : XG, (∀ i, xok 0 (G'.2.1 a i)) → SHQ E K F G' a 56 (.inl (E.2.1 0, 90, .inl (G'.2.1 a))) := fun G' h => ⟨0, 90, rfl, rfl, h⟩
theorem ar_57 : ∀ e, SHQ E K F G a 57 e → e = .inl (E.2.1 0, 90, .inl (G.2.1 a)) ∧ ∀ i, xok 0 (G.2.1 a i) := by
  rintro e ⟨tc, n, h1, h2, h3⟩
  cases h1
  exact ⟨h2, h3⟩
theorem aw_57 : ∀ G' : XG, (∀ i, xok 0 (G'.2.1 a i)) → SHQ E K F G' a 57 (.inl (E.2.1 0, 90, .inl (G'.2.1 a))) := fun G' h => ⟨0, 90, rfl, rfl, h⟩
theorem ar_58 : ∀ e, SHQ E K F G a 58 e → e = .inl (E.2.1 0, 90, .inl (G.2.1 a)) ∧ ∀ i, xok 0 (G.2.1 a i) := by
  rintro e ⟨tc, n, h1, h2, h3⟩
  cases h1
  exact ⟨h2, h3⟩
theorem aw_58 : ∀ G' : XG, (∀ i, xok 0 (G'.2.1 a i)) → SHQ E K F G' a 58 (.inl (E.2.1 0, 90, .inl (G'.2.1 a))) := fun G' h => ⟨0, 90, rfl, rfl, h⟩
theorem ar_59 : ∀ e, SHQ E K F G a 59 e → e = .inl (E.2.1 3, 90, .inl (G.2.1 a)) ∧ ∀ i, xok 3 (G.2.1 a i) := by
  rintro e ⟨tc, n, h1, h2, h3⟩
  cases h1
  exact ⟨h2, h3⟩
theorem aw_59 : ∀ G' : XG, (∀ i, xok 3 (G'.2.1 a i)) → SHQ E K F G' a 59 (.inl (E.2.1 3, 90, .inl (G'.2.1 a))) := fun G' h => ⟨3, 90, rfl, rfl, h⟩
theorem rc_2 (hK : XK E s) (hT : TW E K F G H) (ha : K a = 2) : ∃ cell : Cell, H[a]? = some cell ∧ cell.vm.isStatics = false ∧ s.vm.findClass RX0 = some cell.cls := x_recv (ci := 1) (q := (RX0, TX0, 3)) hK hT ha (by decide) (fun e9 hs => ⟨_, hs.1⟩) rfl
theorem rc_3 (hK : XK E s) (hT : TW E K F G H) (ha : K a = 3) : ∃ cell : Cell, H[a]? = some cell ∧ cell.vm.isStatics = false ∧ s.vm.findClass RX1 = some cell.cls := x_recv (ci := 2) (q := (RX1, TX1, 4)) hK hT ha (by decide) (fun e9 hs => ⟨_, hs.1⟩) rfl
theorem rc_4 (hK : XK E s) (hT : TW E K F G H) (ha : K a = 4) : ∃ cell : Cell, H[a]? = some cell ∧ cell.vm.isStatics = false ∧ s.vm.findClass RX2 = some cell.cls := x_recv (ci := 3) (q := (RX2, TX2, 5)) hK hT ha (by decide) (fun e9 hs => ⟨_, hs.1⟩) rfl
theorem rc_5 (hK : XK E s) (hT : TW E K F G H) (ha : K a = 5) : ∃ cell : Cell, H[a]? = some cell ∧ cell.vm.isStatics = false ∧ s.vm.findClass RX3 = some cell.cls := x_recv (ci := 4) (q := (RX3, TX3, 4)) hK hT ha (by decide) (fun e9 hs => ⟨_, hs.1⟩) rfl
theorem rc_6 (hK : XK E s) (hT : TW E K F G H) (ha : K a = 6) : ∃ cell : Cell, H[a]? = some cell ∧ cell.vm.isStatics = false ∧ s.vm.findClass RX4 = some cell.cls := x_recv (ci := 5) (q := (RX4, TX4, 7)) hK hT ha (by decide) (fun e9 hs => ⟨_, hs.1⟩) rfl
theorem rc_7 (hK : XK E s) (hT : TW E K F G H) (ha : K a = 7) : ∃ cell : Cell, H[a]? = some cell ∧ cell.vm.isStatics = false ∧ s.vm.findClass RX5 = some cell.cls := x_recv (ci := 6) (q := (RX5, TX5, 6)) hK hT ha (by decide) (fun e9 hs => ⟨_, hs.1⟩) rfl
theorem rc_8 (hK : XK E s) (hT : TW E K F G H) (ha : K a = 8) : ∃ cell : Cell, H[a]? = some cell ∧ cell.vm.isStatics = false ∧ s.vm.findClass RX6 = some cell.cls := x_recv (ci := 7) (q := (RX6, TX6, 2)) hK hT ha (by decide) (fun e9 hs => ⟨_, hs.1⟩) rfl
theorem rc_9 (hK : XK E s) (hT : TW E K F G H) (ha : K a = 9) : ∃ cell : Cell, H[a]? = some cell ∧ cell.vm.isStatics = false ∧ s.vm.findClass RX7 = some cell.cls := x_recv (ci := 8) (q := (RX7, TX7, 10)) hK hT ha (by decide) (fun e9 hs => ⟨_, hs.1⟩) rfl
theorem rc_10 (hK : XK E s) (hT : TW E K F G H) (ha : K a = 10) : ∃ cell : Cell, H[a]? = some cell ∧ cell.vm.isStatics = false ∧ s.vm.findClass RX8 = some cell.cls := x_recv (ci := 9) (q := (RX8, TX8, 2)) hK hT ha (by decide) (fun e9 hs => ⟨_, hs.1⟩) rfl
theorem rc_11 (hK : XK E s) (hT : TW E K F G H) (ha : K a = 11) : ∃ cell : Cell, H[a]? = some cell ∧ cell.vm.isStatics = false ∧ s.vm.findClass RX9 = some cell.cls := x_recv (ci := 10) (q := (RX9, TX9, 4)) hK hT ha (by decide) (fun e9 hs => ⟨_, hs.1⟩) rfl
theorem rc_12 (hK : XK E s) (hT : TW E K F G H) (ha : K a = 12) : ∃ cell : Cell, H[a]? = some cell ∧ cell.vm.isStatics = false ∧ s.vm.findClass RX10 = some cell.cls := x_recv (ci := 11) (q := (RX10, TX10, 19)) hK hT ha (by decide) (fun e9 hs => ⟨_, hs.1⟩) rfl
theorem rc_13 (hK : XK E s) (hT : TW E K F G H) (ha : K a = 13) : ∃ cell : Cell, H[a]? = some cell ∧ cell.vm.isStatics = false ∧ s.vm.findClass RX11 = some cell.cls := x_recv (ci := 12) (q := (RX11, TX11, 52)) hK hT ha (by decide) (fun e9 hs => ⟨_, hs.1⟩) rfl
theorem xlk {G G0 G1 : XG} {i x : Int32} {I X z : Int} (h : G1 = cput G a i.toNatClampNeg x) (h0 : G.2.1 a = G0.2.1 a) (hi : i.toInt = I) (hx : x.toInt = X) (h1 : 0 ≤ I) (h2 : 0 ≤ z) : (z = I → aI (G1.2.1 a) z = X) ∧ (z ≠ I → aI (G1.2.1 a) z = aI (G0.2.1 a) z) := by
  subst hi hx h
  have h3 : (cput G a i.toNatClampNeg x).2.1 a = upd (G.2.1 a) i.toNatClampNeg x := by show up2 _ _ _ _ _ = _; rw [up2_r, upr_at]
  rw [h3, aI_upd h1 z h2, ← h0]
  exact ⟨fun q => if_pos q, fun q => if_neg q⟩
theorem xnar3 {x : Int32} (h : x = 0 ∨ x = 1) : vp_nar .boolean x = x := by rcases h with h | h <;> subst h <;> rfl
theorem xnar1 {x : Int32} (h : xok 1 x) : vp_nar .char x = x := by
  have h2 : narrow .char (.int x) = .int x := h
  unfold vp_nar
  rw [h2]
theorem xnar2 {x : Int32} (h : xok 2 x) : vp_nar .byte x = x := by
  have h2 : narrow .byte (.int x) = .int x := h
  unfold vp_nar
  rw [h2]
end XR

theorem xbm (X : Int) : Int.bmod X 4294967296 = (X + 2147483648) % 4294967296 - 2147483648 := by
  rw [Int.bmod_def]
  split <;> omega
theorem xadd (x y : Int32) : (x + y).toInt = (x.toInt + y.toInt + 2147483648) % 4294967296 - 2147483648 := by rw [Int32.toInt_add]; exact xbm _
theorem xsub (x y : Int32) : (x - y).toInt = (x.toInt - y.toInt + 2147483648) % 4294967296 - 2147483648 := by rw [Int32.toInt_sub]; exact xbm _
theorem xmul (x y : Int32) : (x * y).toInt = (x.toInt * y.toInt + 2147483648) % 4294967296 - 2147483648 := by rw [Int32.toInt_mul]; exact xbm _
theorem xneg (x : Int32) : (-x).toInt = (-x.toInt + 2147483648) % 4294967296 - 2147483648 := by rw [Int32.toInt_neg]; exact xbm _
theorem xov {z Z : Int} (h : z = (Z + 2147483648) % 4294967296 - 2147483648) : z = Z ∨ Z < -2147483648 ∨ 2147483648 ≤ Z := by omega
theorem xnz {v : Int32} (h : v = 0 ∨ v = 1) : narrow .boolean (.int v) = .int v := by rcases h with h | h <;> subst h <;> rfl
theorem x01 {v : Int32} (h : v.toInt = 0 ∨ v.toInt = 1) : v = 0 ∨ v = 1 := h.elim (fun q => Or.inl (Int32.toInt_inj.mp q)) (fun q => Or.inr (Int32.toInt_inj.mp q))
theorem xdiv (x y : Int32) (h0 : 0 ≤ x.toInt) (h1 : 0 < y.toInt) : (x / y).toInt = x.toInt / y.toInt := by
  have hx := xr x
  have h2 : 0 ≤ x.toInt / y.toInt := Int.ediv_nonneg h0 (by omega)
  have h3 : x.toInt / y.toInt ≤ x.toInt := Int.ediv_le_self _ h0
  rw [Int32.toInt_div, Int.tdiv_eq_ediv_of_nonneg h0]
  exact Int.bmod_eq_of_le (by omega) (by omega)
section XI
variable {p : Program} {l : Launch} {e : Env} {R : Room} {s : State} {m : MethodId} {args : Array Value} {below : List Frame} {meth : Method} {c : Code} {H : Heap} {locs : List Loc} {cells slots : Nat} {Q : State → Prop}
variable {pc : Nat} {ls : Array Slot} {rest : List Value} {cc : ByteArray} {nL : Nat} {E : XE} {X Y : Int}
theorem xi_iadd (hx : p.tables.exec = Jvm.exec) (hb : c.code = cc) {x y : Int32} (hX : x.toInt = X) (hY : y.toInt = Y) (hdg : decode cc pc = .ok (.iadd, 1)) (kk : ∀ z : Int32, (z.toInt = X + Y ∨ X + Y < -2147483648 ∨ 2147483648 ≤ X + Y) → W p l e R s m args below meth c H locs cells slots Q (F0 m (pc + 1) ls (.int z :: rest))) : W p l e R s m args below meth c H locs cells slots Q (F0 m pc ls (.int y :: .int x :: rest)) :=
  lv_iadd hx hb hdg (kk _ (xov (by rw [xadd, hX, hY])))
theorem xi_isub (hx : p.tables.exec = Jvm.exec) (hb : c.code = cc) {x y : Int32} (hX : x.toInt = X) (hY : y.toInt = Y) (hdg : decode cc pc = .ok (.isub, 1)) (kk : ∀ z : Int32, (z.toInt = X - Y ∨ X - Y < -2147483648 ∨ 2147483648 ≤ X - Y) → W p l e R s m args below meth c H locs cells slots Q (F0 m (pc + 1) ls (.int z :: rest))) : W p l e R s m args below meth c H locs cells slots Q (F0 m pc ls (.int y :: .int x :: rest)) :=
  lv_isub hx hb hdg (kk _ (xov (by rw [xsub, hX, hY])))
theorem xi_imul (hx : p.tables.exec = Jvm.exec) (hb : c.code = cc) {x y : Int32} (hX : x.toInt = X) (hY : y.toInt = Y) (hdg : decode cc pc = .ok (.imul, 1)) (kk : ∀ z : Int32, (z.toInt = X * Y ∨ X * Y < -2147483648 ∨ 2147483648 ≤ X * Y) → W p l e R s m args below meth c H locs cells slots Q (F0 m (pc + 1) ls (.int z :: rest))) : W p l e R s m args below meth c H locs cells slots Q (F0 m pc ls (.int y :: .int x :: rest)) :=
  lv_imul hx hb hdg (kk _ (xov (by rw [xmul, hX, hY])))
theorem xi_ineg (hx : p.tables.exec = Jvm.exec) (hb : c.code = cc) {x : Int32} (hX : x.toInt = X) (hdg : decode cc pc = .ok (.ineg, 1)) (kk : ∀ z : Int32, (z.toInt = -X ∨ -X < -2147483648 ∨ 2147483648 ≤ -X) → W p l e R s m args below meth c H locs cells slots Q (F0 m (pc + 1) ls (.int z :: rest))) : W p l e R s m args below meth c H locs cells slots Q (F0 m pc ls (.int x :: rest)) :=
  lv_ineg hx hb hdg (kk _ (xov (by rw [xneg, hX])))
theorem xi_idiv (hx : p.tables.exec = Jvm.exec) (hb : c.code = cc) {x y : Int32} (hX : x.toInt = X) (hY : y.toInt = Y) (hpos : 0 < y.toInt) (hdg : decode cc pc = .ok (.idiv, 1)) (kk : ∀ z : Int32, (0 ≤ X → z.toInt = X / Y) → W p l e R s m args below meth c H locs cells slots Q (F0 m (pc + 1) ls (.int z :: rest))) : W p l e R s m args below meth c H locs cells slots Q (F0 m pc ls (.int y :: .int x :: rest)) :=
  lv_idiv hx hb hdg (fun q => by rw [q] at hpos; exact absurd hpos (by decide)) (kk _ (fun h0 => by subst hX hY; exact xdiv x y h0 hpos))
theorem xi_irem (hx : p.tables.exec = Jvm.exec) (hb : c.code = cc) {x y : Int32} (hX : x.toInt = X) (hY : y.toInt = Y) (hpos : 0 < y.toInt) (hdg : decode cc pc = .ok (.irem, 1)) (kk : ∀ z : Int32, (0 ≤ X → z.toInt = X % Y) → W p l e R s m args below meth c H locs cells slots Q (F0 m (pc + 1) ls (.int z :: rest))) : W p l e R s m args below meth c H locs cells slots Q (F0 m pc ls (.int y :: .int x :: rest)) :=
  lv_irem hx hb hdg (fun q => by rw [q] at hpos; exact absurd hpos (by decide)) (kk _ (fun h0 => by
    subst hX hY
    have hx := xr x
    have h1 := Int.emod_nonneg x.toInt (show y.toInt ≠ 0 by omega)
    have h2 := Int.emod_lt_of_pos x.toInt hpos
    have h3 := Int.mul_ediv_add_emod x.toInt y.toInt
    have h4 : x.toInt / y.toInt * y.toInt = x.toInt - x.toInt % y.toInt := by rw [Int.mul_comm]; omega
    have h5 : 0 ≤ x.toInt / y.toInt := Int.ediv_nonneg h0 (by omega)
    have h6 : 0 ≤ x.toInt / y.toInt * y.toInt := Int.mul_nonneg h5 (by omega)
    rw [xsub, xmul, xdiv x y h0 hpos, h4]
    rw [h4] at h6
    omega))
theorem xi_iinc (hx : p.tables.exec = Jvm.exec) (hb : c.code = cc) {i k : Nat} {n : Int} {x : Int32} {lv : List (Nat × Value)} {lv' : Int32 → List (Nat × Value)} (hX : x.toInt = X) (hn9 : (Int32.ofInt n).toInt = n) (hdg : decode cc pc = .ok (.iinc i n, 3)) (h : lv_has ls nL lv) (hk : lv[k]? = some (i, .int x)) (hn : i < nL) (hl : ∀ z : Int32, (i, Value.int z) :: lv.filter (fun q => !(q.1 == i) && !(q.1 + 1 == i && q.2.category == 2)) = lv' z) (kk : ∀ (z : Int32) (ls' : Array Slot), (z.toInt = X + n ∨ X + n < -2147483648 ∨ 2147483648 ≤ X + n) → lv_has ls' nL (lv' z) → W p l e R s m args below meth c H locs cells slots Q (F0 m (pc + 3) ls' rest)) : W p l e R s m args below meth c H locs cells slots Q (F0 m pc ls rest) :=
  lv_iinc hx hb hdg h hk rfl hn (hl _) (fun ls' h' => kk _ ls' (xov (by rw [xadd, hX, hn9])) h')
theorem xi_ceq (hx : p.tables.exec = Jvm.exec) (hb : c.code = cc) {x y : Int32} (hX : x.toInt = X) (hY : y.toInt = Y) {off : Int} {tgt : Nat} (hdg : decode cc pc = .ok (.if_icmp .eq off, 3)) (ht : (pc : Int) + off = (tgt : Int)) (kt : X = Y → W p l e R s m args below meth c H locs cells slots Q (F0 m tgt ls rest)) (kf : ¬ (X = Y) → W p l e R s m args below meth c H locs cells slots Q (F0 m (pc + 3) ls rest)) : W p l e R s m args below meth c H locs cells slots Q (F0 m pc ls (.int y :: .int x :: rest)) :=
  lv_icmp_eq hx hb hdg ht (fun q => kt (by subst hX hY; exact congrArg Int32.toInt q)) (fun q => kf (by subst hX hY; exact fun z => q (Int32.toInt_inj.mp z)))
theorem xi_zeq (hx : p.tables.exec = Jvm.exec) (hb : c.code = cc) {x : Int32} (hX : x.toInt = X) {off : Int} {tgt : Nat} (hdg : decode cc pc = .ok (.ifCond .eq off, 3)) (ht : (pc : Int) + off = (tgt : Int)) (kt : X = 0 → W p l e R s m args below meth c H locs cells slots Q (F0 m tgt ls rest)) (kf : ¬ (X = 0) → W p l e R s m args below meth c H locs cells slots Q (F0 m (pc + 3) ls rest)) : W p l e R s m args below meth c H locs cells slots Q (F0 m pc ls (.int x :: rest)) :=
  lv_if_eq hx hb hdg ht (fun q => kt (by subst hX; exact congrArg Int32.toInt q)) (fun q => kf (by subst hX; exact fun z => q (Int32.toInt_inj.mp z)))
theorem xi_cne (hx : p.tables.exec = Jvm.exec) (hb : c.code = cc) {x y : Int32} (hX : x.toInt = X) (hY : y.toInt = Y) {off : Int} {tgt : Nat} (hdg : decode cc pc = .ok (.if_icmp .ne off, 3)) (ht : (pc : Int) + off = (tgt : Int)) (kt : X ≠ Y → W p l e R s m args below meth c H locs cells slots Q (F0 m tgt ls rest)) (kf : ¬ (X ≠ Y) → W p l e R s m args below meth c H locs cells slots Q (F0 m (pc + 3) ls rest)) : W p l e R s m args below meth c H locs cells slots Q (F0 m pc ls (.int y :: .int x :: rest)) :=
  lv_icmp_ne hx hb hdg ht (fun q => kt (by subst hX hY; exact fun z => q (Int32.toInt_inj.mp z))) (fun q => kf (by subst hX hY; exact fun z => z (congrArg Int32.toInt q)))
theorem xi_zne (hx : p.tables.exec = Jvm.exec) (hb : c.code = cc) {x : Int32} (hX : x.toInt = X) {off : Int} {tgt : Nat} (hdg : decode cc pc = .ok (.ifCond .ne off, 3)) (ht : (pc : Int) + off = (tgt : Int)) (kt : X ≠ 0 → W p l e R s m args below meth c H locs cells slots Q (F0 m tgt ls rest)) (kf : ¬ (X ≠ 0) → W p l e R s m args below meth c H locs cells slots Q (F0 m (pc + 3) ls rest)) : W p l e R s m args below meth c H locs cells slots Q (F0 m pc ls (.int x :: rest)) :=
  lv_if_ne hx hb hdg ht (fun q => kt (by subst hX; exact fun z => q (Int32.toInt_inj.mp z))) (fun q => kf (by subst hX; exact fun z => z (congrArg Int32.toInt q)))
theorem xi_clt (hx : p.tables.exec = Jvm.exec) (hb : c.code = cc) {x y : Int32} (hX : x.toInt = X) (hY : y.toInt = Y) {off : Int} {tgt : Nat} (hdg : decode cc pc = .ok (.if_icmp .lt off, 3)) (ht : (pc : Int) + off = (tgt : Int)) (kt : X < Y → W p l e R s m args below meth c H locs cells slots Q (F0 m tgt ls rest)) (kf : ¬ (X < Y) → W p l e R s m args below meth c H locs cells slots Q (F0 m (pc + 3) ls rest)) : W p l e R s m args below meth c H locs cells slots Q (F0 m pc ls (.int y :: .int x :: rest)) :=
  lv_icmp_lt hx hb hdg ht (fun q => kt (by subst hX hY; exact Int32.lt_iff_toInt_lt.mp q)) (fun q => kf (by subst hX hY; exact fun z => q (Int32.lt_iff_toInt_lt.mpr z)))
theorem xi_zlt (hx : p.tables.exec = Jvm.exec) (hb : c.code = cc) {x : Int32} (hX : x.toInt = X) {off : Int} {tgt : Nat} (hdg : decode cc pc = .ok (.ifCond .lt off, 3)) (ht : (pc : Int) + off = (tgt : Int)) (kt : X < 0 → W p l e R s m args below meth c H locs cells slots Q (F0 m tgt ls rest)) (kf : ¬ (X < 0) → W p l e R s m args below meth c H locs cells slots Q (F0 m (pc + 3) ls rest)) : W p l e R s m args below meth c H locs cells slots Q (F0 m pc ls (.int x :: rest)) :=
  lv_if_lt hx hb hdg ht (fun q => kt (by subst hX; exact Int32.lt_iff_toInt_lt.mp q)) (fun q => kf (by subst hX; exact fun z => q (Int32.lt_iff_toInt_lt.mpr z)))
theorem xi_cge (hx : p.tables.exec = Jvm.exec) (hb : c.code = cc) {x y : Int32} (hX : x.toInt = X) (hY : y.toInt = Y) {off : Int} {tgt : Nat} (hdg : decode cc pc = .ok (.if_icmp .ge off, 3)) (ht : (pc : Int) + off = (tgt : Int)) (kt : Y ≤ X → W p l e R s m args below meth c H locs cells slots Q (F0 m tgt ls rest)) (kf : ¬ (Y ≤ X) → W p l e R s m args below meth c H locs cells slots Q (F0 m (pc + 3) ls rest)) : W p l e R s m args below meth c H locs cells slots Q (F0 m pc ls (.int y :: .int x :: rest)) :=
  lv_icmp_ge hx hb hdg ht (fun q => kt (by subst hX hY; exact Int32.le_iff_toInt_le.mp q)) (fun q => kf (by subst hX hY; exact fun z => q (Int32.le_iff_toInt_le.mpr z)))
theorem xi_zge (hx : p.tables.exec = Jvm.exec) (hb : c.code = cc) {x : Int32} (hX : x.toInt = X) {off : Int} {tgt : Nat} (hdg : decode cc pc = .ok (.ifCond .ge off, 3)) (ht : (pc : Int) + off = (tgt : Int)) (kt : 0 ≤ X → W p l e R s m args below meth c H locs cells slots Q (F0 m tgt ls rest)) (kf : ¬ (0 ≤ X) → W p l e R s m args below meth c H locs cells slots Q (F0 m (pc + 3) ls rest)) : W p l e R s m args below meth c H locs cells slots Q (F0 m pc ls (.int x :: rest)) :=
  lv_if_ge hx hb hdg ht (fun q => kt (by subst hX; exact Int32.le_iff_toInt_le.mp q)) (fun q => kf (by subst hX; exact fun z => q (Int32.le_iff_toInt_le.mpr z)))
theorem xi_cgt (hx : p.tables.exec = Jvm.exec) (hb : c.code = cc) {x y : Int32} (hX : x.toInt = X) (hY : y.toInt = Y) {off : Int} {tgt : Nat} (hdg : decode cc pc = .ok (.if_icmp .gt off, 3)) (ht : (pc : Int) + off = (tgt : Int)) (kt : Y < X → W p l e R s m args below meth c H locs cells slots Q (F0 m tgt ls rest)) (kf : ¬ (Y < X) → W p l e R s m args below meth c H locs cells slots Q (F0 m (pc + 3) ls rest)) : W p l e R s m args below meth c H locs cells slots Q (F0 m pc ls (.int y :: .int x :: rest)) :=
  lv_icmp_gt hx hb hdg ht (fun q => kt (by subst hX hY; exact Int32.lt_iff_toInt_lt.mp q)) (fun q => kf (by subst hX hY; exact fun z => q (Int32.lt_iff_toInt_lt.mpr z)))
theorem xi_zgt (hx : p.tables.exec = Jvm.exec) (hb : c.code = cc) {x : Int32} (hX : x.toInt = X) {off : Int} {tgt : Nat} (hdg : decode cc pc = .ok (.ifCond .gt off, 3)) (ht : (pc : Int) + off = (tgt : Int)) (kt : 0 < X → W p l e R s m args below meth c H locs cells slots Q (F0 m tgt ls rest)) (kf : ¬ (0 < X) → W p l e R s m args below meth c H locs cells slots Q (F0 m (pc + 3) ls rest)) : W p l e R s m args below meth c H locs cells slots Q (F0 m pc ls (.int x :: rest)) :=
  lv_if_gt hx hb hdg ht (fun q => kt (by subst hX; exact Int32.lt_iff_toInt_lt.mp q)) (fun q => kf (by subst hX; exact fun z => q (Int32.lt_iff_toInt_lt.mpr z)))
theorem xi_cle (hx : p.tables.exec = Jvm.exec) (hb : c.code = cc) {x y : Int32} (hX : x.toInt = X) (hY : y.toInt = Y) {off : Int} {tgt : Nat} (hdg : decode cc pc = .ok (.if_icmp .le off, 3)) (ht : (pc : Int) + off = (tgt : Int)) (kt : X ≤ Y → W p l e R s m args below meth c H locs cells slots Q (F0 m tgt ls rest)) (kf : ¬ (X ≤ Y) → W p l e R s m args below meth c H locs cells slots Q (F0 m (pc + 3) ls rest)) : W p l e R s m args below meth c H locs cells slots Q (F0 m pc ls (.int y :: .int x :: rest)) :=
  lv_icmp_le hx hb hdg ht (fun q => kt (by subst hX hY; exact Int32.le_iff_toInt_le.mp q)) (fun q => kf (by subst hX hY; exact fun z => q (Int32.le_iff_toInt_le.mpr z)))
theorem xi_zle (hx : p.tables.exec = Jvm.exec) (hb : c.code = cc) {x : Int32} (hX : x.toInt = X) {off : Int} {tgt : Nat} (hdg : decode cc pc = .ok (.ifCond .le off, 3)) (ht : (pc : Int) + off = (tgt : Int)) (kt : X ≤ 0 → W p l e R s m args below meth c H locs cells slots Q (F0 m tgt ls rest)) (kf : ¬ (X ≤ 0) → W p l e R s m args below meth c H locs cells slots Q (F0 m (pc + 3) ls rest)) : W p l e R s m args below meth c H locs cells slots Q (F0 m pc ls (.int x :: rest)) :=
  lv_if_le hx hb hdg ht (fun q => kt (by subst hX; exact Int32.le_iff_toInt_le.mp q)) (fun q => kf (by subst hX; exact fun z => q (Int32.le_iff_toInt_le.mpr z)))
variable {own : String} {w0 : Cond} {mc ms : Nat} {S : Type}
theorem x_ri {post : Value → S → Prop} {B : S → Heap → Prop} {v : Int32} (hx : p.tables.exec = Jvm.exec) (hb : c.code = cc) (hr : meth.sig.returnType = some .int) (hlk : meth.locks = false) (hQ : Q = MQ below (XQ E post B) args s mc ms (xA E)) (hc : cells ≤ mc) (hs : slots ≤ ms) (hS : va_S (xA E) s.heap H locs) (hdg : decode cc pc = .ok (.ireturn, 1)) (u : S) (hp : post (.int v) u) (hB : B u H) : W p l e R s m args below meth c H locs cells slots Q (F0 m pc ls [.int v]) := by
  subst hQ
  exact W.widen hc hs (W.iret hx hb hr (fun t ht hW => ⟨⟨_, u, rfl, hp, by rw [ht]; exact hB⟩, hS.F ht⟩) hS.2.2 hdg hlk)
theorem x_rz {post : Value → S → Prop} {B : S → Heap → Prop} {v : Int32} {ty : FieldType} (hx : p.tables.exec = Jvm.exec) (hb : c.code = cc) (hr : meth.sig.returnType = some ty) (hn : narrow ty (.int v) = .int v) (hlk : meth.locks = false) (hQ : Q = MQ below (XQ E post B) args s mc ms (xA E)) (hc : cells ≤ mc) (hs : slots ≤ ms) (hS : va_S (xA E) s.heap H locs) (hdg : decode cc pc = .ok (.ireturn, 1)) (u : S) (hp : post (.int v) u) (hB : B u H) : W p l e R s m args below meth c H locs cells slots Q (F0 m pc ls [.int v]) := by
  subst hQ
  exact W.widen hc hs (W.zret hx hb hr hn (fun t ht hW => ⟨⟨_, u, rfl, hp, by rw [ht]; exact hB⟩, hS.F ht⟩) hS.2.2 hdg hlk)
theorem x_ra {post : Value → S → Prop} {B : S → Heap → Prop} {v : Value} {rt : FieldType} (hx : p.tables.exec = Jvm.exec) (hb : c.code = cc) (hr : meth.sig.returnType = some rt) (hrt : (∃ n, rt = .object n) ∨ ∃ t, rt = .array t) (hv : v = .null ∨ ∃ a, v = .ref a) (hlk : meth.locks = false) (hQ : Q = MQ below (XQ E post B) args s mc ms (xA E)) (hc : cells ≤ mc) (hs : slots ≤ ms) (hS : va_S (xA E) s.heap H locs) (hdg : decode cc pc = .ok (.areturn, 1)) (u : S) (hp : post v u) (hB : B u H) : W p l e R s m args below meth c H locs cells slots Q (F0 m pc ls [v]) := by
  subst hQ
  exact W.widen hc hs (W.aret hx hb hr hrt hv (fun t ht hW => ⟨⟨_, u, rfl, hp, by rw [ht]; exact hB⟩, hS.F ht⟩) hS.2.2 hdg hlk)
theorem x_rv {post : S → Prop} {B : S → Heap → Prop} (hx : p.tables.exec = Jvm.exec) (hb : c.code = cc) (hr : meth.sig.returnType = none) (hlk : meth.locks = false) (hQ : Q = MQ below (XQv E post B) args s mc ms (xA E)) (hc : cells ≤ mc) (hs : slots ≤ ms) (hS : va_S (xA E) s.heap H locs) (hdg : decode cc pc = .ok (.return_, 1)) (u : S) (hp : post u) (hB : B u H) : W p l e R s m args below meth c H locs cells slots Q (F0 m pc ls []) := by
  subst hQ
  exact W.widen hc hs (W.vret hx hb hr (fun t ht hW => ⟨⟨u, rfl, hp, by rw [ht]; exact hB⟩, hS.F ht⟩) hS.2.2 hdg hlk)
end XI
end
theorem xrA (f : Nat → Int32) (z : Int) : -2147483648 ≤ aI f z ∧ aI f z < 2147483648 := xr (f z.toNat)
theorem xz01 {x : Int32} {z : Int} (h : xok 3 x) (e : x.toInt = z) : z = 0 ∨ z = 1 := by
  have h2 : narrow .boolean (.int x) = .int x := h
  have h3 : x &&& 1 = x := by
    have h4 : (Value.int (x &&& 1)) = Value.int x := h2
    exact Value.int.inj h4
  subst e
  have key : ∀ i, i < 32 → bt x i = (bt x i && decide (i = 0)) := fun i hi => by
    have q := congrArg (fun y => bt y i) h3
    simp only [b_and, b_1 i hi] at q
    exact q.symm
  rw [bt01 (fun i h1 h2 => by rw [key i h2, decide_eq_false (by omega)]; simp)]
  split
  · exact Or.inr rfl
  · exact Or.inl rfl
theorem RO.has {r b : Int → Int} (h : RO r b) {t k x : Int} (hx : x = bI (b t) k) (h0 : 0 ≤ t ∧ t < 3 ∧ 0 ≤ k ∧ k < 30) : (x = 1 ∧ cel r t k 0 ≠ -2000) ∨ (x = 0 ∧ cel r t k 0 = -2000) := by
  obtain ⟨h1, -⟩ := h.1 t k h0.1 h0.2.1 h0.2.2.1 h0.2.2.2
  rw [cel_in (by omega), Int.mul_zero, Int.add_zero]
  rcases bI01 (b t) k with e | e
  · rw [e] at hx h1
    refine Or.inr ⟨hx, ?_⟩
    by_cases q : r (90 * t + k) = -2000
    · exact q
    · exact absurd (h1.mpr q) (by decide)
  · rw [e] at hx h1
    exact Or.inl ⟨hx, h1.mp rfl⟩
theorem RO.okc {r b : Int → Int} (h : RO r b) (t k c : Int) : okv (cel r t k c) := by
  unfold cel
  split
  · exact h.2.1 _ (by omega) (by omega)
  · exact Or.inl rfl
theorem RO.absent {r b : Int → Int} (h : RO r b) (t k c : Int) (hc : 0 ≤ c ∧ c < 3) : cel r t k c = -2000 ↔ cel r t k 0 = -2000 := by
  by_cases g : 0 ≤ t ∧ t < 3 ∧ 0 ≤ k ∧ k < 30
  · rw [cel_in (by omega), cel_in (by omega), Int.mul_zero, Int.add_zero]
    exact (h.1 t k g.1 g.2.1 g.2.2.1 g.2.2.2).2 c hc.1 hc.2
  · rw [cel_out (by omega), cel_out (by omega)]
/-! ===== frames: what may have changed ===== -/
/-- only the int fields d, the rows c, the rows of references r may have changed -/
def XFr (d : List (Nat × Nat)) (c r : List Nat) (G G' : XG) : Prop := (∀ b j, (b, j) ∉ d → G'.1 b j = G.1 b j) ∧ (∀ b, b ∉ c → G'.2.1 b = G.2.1 b) ∧ (∀ b, b ∉ r → G'.2.2.1 b = G.2.2.1 b)
theorem XFr.rf {d : List (Nat × Nat)} {c r : List Nat} {G : XG} : XFr d c r G G := ⟨fun _ _ _ => rfl, fun _ _ => rfl, fun _ _ => rfl⟩
theorem XFr.dput {d : List (Nat × Nat)} {c r : List Nat} {G G' : XG} {a j : Nat} {v : Int32} (h : XFr d c r G G') (hm : (a, j) ∈ d) : XFr d c r G (dput G' a j v) := by
  refine ⟨fun b i hb => ?_, h.2.1, h.2.2⟩
  rw [← h.1 b i hb]
  show up2 G'.1 a j v b i = _
  unfold up2
  rw [if_neg (fun q => hb (by rw [q.1, q.2]; exact hm))]
theorem XFr.cput {d : List (Nat × Nat)} {c r : List Nat} {G G' : XG} {a i : Nat} {v : Int32} (h : XFr d c r G G') (hm : a ∈ c) : XFr d c r G (cput G' a i v) :=
  ⟨h.1, fun b hb => (up2_ne (fun q => hb (by rw [q]; exact hm))).trans (h.2.1 b hb), h.2.2⟩
theorem XFr.ccopy {d : List (Nat × Nat)} {c r : List Nat} {G G' : XG} {a : Nat} {f : Nat → Int32} (h : XFr d c r G G') (hm : a ∈ c) : XFr d c r G (ccopy G' a f) :=
  ⟨h.1, fun b hb => (upr_ne (fun q => hb (by rw [q]; exact hm))).trans (h.2.1 b hb), h.2.2⟩
theorem XFr.rput {d : List (Nat × Nat)} {c r : List Nat} {G G' : XG} {a i : Nat} {v : Option Nat} (h : XFr d c r G G') (hm : a ∈ r) : XFr d c r G (rput G' a i v) :=
  ⟨h.1, h.2.1, fun b hb => (up2_ne (fun q => hb (by rw [q]; exact hm))).trans (h.2.2 b hb)⟩
theorem XFr.call {d d1 : List (Nat × Nat)} {c c1 r r1 : List Nat} {G G' G2 : XG} (h : XFr d c r G G') (h1 : XFr d1 c1 r1 G' G2) (hd : ∀ q ∈ d1, q ∈ d) (hc : ∀ q ∈ c1, q ∈ c) (hr : ∀ q ∈ r1, q ∈ r) : XFr d c r G G2 :=
  ⟨fun b j hb => (h1.1 b j (fun q => hb (hd _ q))).trans (h.1 b j hb), fun b hb => (h1.2.1 b (fun q => hb (hc _ q))).trans (h.2.1 b hb), fun b hb => (h1.2.2 b (fun q => hb (hr _ q))).trans (h.2.2 b hb)⟩
theorem xm0 {α : Type} {l : List α} : ∀ q ∈ ([] : List α), q ∈ l := fun _ h => by cases h
theorem xm1 {α : Type} {l l1 : List α} {x : α} (i : Nat) (h : l[i]? = some x) (h1 : ∀ q ∈ l1, q ∈ l) : ∀ q ∈ x :: l1, q ∈ l := List.forall_mem_cons.mpr ⟨List.mem_of_getElem? h, h1⟩
theorem xn0 {α : Type} {x : α} : x ∉ ([] : List α) := fun h => by cases h
theorem xn1 {b a : Nat} {l : List Nat} (h : b ≠ a) (h1 : b ∉ l) : b ∉ a :: l := fun q => (List.mem_cons.mp q).elim h h1
theorem xnj {b j a i : Nat} {l : List (Nat × Nat)} (h : j ≠ i) (h1 : (b, j) ∉ l) : (b, j) ∉ (a, i) :: l := fun q => (List.mem_cons.mp q).elim (fun e => h (congrArg Prod.snd e)) h1
theorem xna {b j a i : Nat} {l : List (Nat × Nat)} (h : b ≠ a) (h1 : (b, j) ∉ l) : (b, j) ∉ (a, i) :: l := fun q => (List.mem_cons.mp q).elim (fun e => h (congrArg Prod.fst e)) h1
theorem xne_k {K : Nat → Nat} {a b x y : Nat} (ha : K a = x) (hb : K b = y) (h : x ≠ y) : a ≠ b := fun e => h (by rw [← ha, ← hb, e])
theorem xne_j {F : Nat → Nat → Nat} {a b x y : Nat} (ha : F a 99 = x) (hb : F b 99 = y) (h : x ≠ y) : a ≠ b := fun e => h (by rw [← ha, ← hb, e])
theorem aI_put {G : XG} {a : Nat} {i x : Int32} (hi : 0 ≤ i.toInt) (z : Int) (hz : 0 ≤ z) : aI ((cput G a i.toNatClampNeg x).2.1 a) z = if z = i.toInt then x.toInt else aI (G.2.1 a) z := by
  have h : (cput G a i.toNatClampNeg x).2.1 a = upd (G.2.1 a) i.toNatClampNeg x := by show up2 _ _ _ _ _ = _; rw [up2_r, upr_at]
  rw [h]
  exact aI_upd hi z hz
/-! ===== lists out of rows; the order of the rules ===== -/
def lst {α : Type} (f : Nat → α) (n : Nat) : List α := (List.range n).map f
theorem lst_0 {α : Type} (f : Nat → α) : lst f 0 = [] := rfl
theorem lst_s {α : Type} (f : Nat → α) (n : Nat) : lst f (n + 1) = lst f n ++ [f n] := by
  unfold lst
  rw [List.range_succ, List.map_append]
  rfl
theorem lst_len {α : Type} (f : Nat → α) (n : Nat) : (lst f n).length = n := by
  unfold lst
  rw [List.length_map, List.length_range]
theorem lst_get {α : Type} (f : Nat → α) {n i : Nat} (h : i < n) : (lst f n)[i]? = some (f i) := by
  unfold lst
  rw [List.getElem?_map, List.getElem?_range h]
  rfl
theorem lst_congr {α : Type} {f g : Nat → α} {n : Nat} (h : ∀ i, i < n → f i = g i) : lst f n = lst g n := by
  unfold lst
  exact List.map_congr_left (fun i hi => h i (List.mem_range.mp hi))
theorem lst_push {α : Type} {f g : Nat → α} {n : Nat} {x : α} (h : ∀ i, i < n → g i = f i) (hx : g n = x) : lst g (n + 1) = lst f n ++ [x] := by
  rw [lst_s, lst_congr h, hx]
/-- number, subject, before, after, late, fails -/
abbrev Qt : Type := Int × Int × Int × Int × Int × Int
def qt (f0 f1 f2 f3 f4 f5 : Nat → Int32) (i : Nat) : Qt := ((f0 i).toInt, (f1 i).toInt, (f2 i).toInt, (f3 i).toInt, (f4 i).toInt, (f5 i).toInt)
/-- the place behind the last of the first n that is not above v -/
def posR (rk : Nat → Int) (v : Int) : Nat → Nat
  | 0 => 0
  | n + 1 => if v < rk n then posR rk v n else n + 1
theorem posR_le (rk : Nat → Int) (v : Int) (n : Nat) : posR rk v n ≤ n := by
  induction n with
  | zero => exact Nat.le_refl _
  | succ n ih =>
    unfold posR
    split <;> omega
theorem posR_congr {rk rk2 : Nat → Int} {v : Int} {n : Nat} (h : ∀ i, i < n → rk i = rk2 i) : posR rk v n = posR rk2 v n := by
  induction n with
  | zero => rfl
  | succ n ih =>
    unfold posR
    rw [h n (by omega), ih (fun i hi => h i (by omega))]
def insF {α : Type} (f : Nat → α) (p : Nat) (x : α) : Nat → α := fun i => if i < p then f i else if i = p then x else f (i - 1)
/-- of the numbers below n those that are, by rank: how many, and which -/
def ordN (pr : Nat → Bool) (rk : Nat → Int) : Nat → Nat × (Nat → Nat)
  | 0 => (0, fun _ => 0)
  | n + 1 => if pr n then ((ordN pr rk n).1 + 1, insF (ordN pr rk n).2 (posR (fun i => rk ((ordN pr rk n).2 i)) (rk n) (ordN pr rk n).1) n) else ordN pr rk n
theorem ordN_le (pr : Nat → Bool) (rk : Nat → Int) (n : Nat) : (ordN pr rk n).1 ≤ n := by
  induction n with
  | zero => exact Nat.le_refl _
  | succ n ih =>
    unfold ordN
    split
    · show (ordN pr rk n).1 + 1 ≤ n + 1
      omega
    · omega
theorem ordN_in (pr : Nat → Bool) (rk : Nat → Int) (n : Nat) : ∀ i, i < (ordN pr rk n).1 → (ordN pr rk n).2 i < n ∧ pr ((ordN pr rk n).2 i) = true := by
  induction n with
  | zero => intro i hi; exact absurd hi (Nat.not_lt_zero i)
  | succ n ih =>
    intro i hi
    unfold ordN at hi ⊢
    split at hi
    · rename_i hp
      rw [if_pos hp]
      have hl := posR_le (fun i => rk ((ordN pr rk n).2 i)) (rk n) (ordN pr rk n).1
      generalize posR (fun i => rk ((ordN pr rk n).2 i)) (rk n) (ordN pr rk n).1 = p at *
      have hi2 : i < (ordN pr rk n).1 + 1 := hi
      show insF _ _ _ _ < n + 1 ∧ pr (insF _ _ _ _) = true
      unfold insF
      by_cases h1 : i < p
      · rw [if_pos h1]
        have := ih i (by omega)
        exact ⟨by omega, this.2⟩
      · rw [if_neg h1]
        by_cases h2 : i = p
        · rw [if_pos h2]
          exact ⟨by omega, hp⟩
        · rw [if_neg h2]
          have := ih (i - 1) (by omega)
          exact ⟨by omega, this.2⟩
    · rename_i hp
      rw [if_neg hp]
      have := ih i hi
      exact ⟨by omega, this.2⟩
/-- the entries behind a place are one up, those ahead of it as they were -/
def shf {α : Type} (f g : Nat → α) (p n : Nat) : Prop := (∀ i, i < p → g i = f i) ∧ ∀ i, p < i → i ≤ n → g i = f (i - 1)
theorem shf_0 {α : Type} (f : Nat → α) (n : Nat) : shf f f n n := ⟨fun _ _ => rfl, fun i h1 h2 => absurd h1 (by omega)⟩
theorem shf_s {α : Type} {f g g2 : Nat → α} {p n : Nat} (h : shf f g (p + 1) n) (h0 : g2 (p + 1) = g p) (h1 : ∀ i, i ≠ p + 1 → g2 i = g i) : shf f g2 p n := by
  refine ⟨fun i hi => ?_, fun i h2 h3 => ?_⟩
  · rw [h1 i (by omega)]
    exact h.1 i (by omega)
  · by_cases e : i = p + 1
    · subst e
      rw [h0]
      exact h.1 p (by omega)
    · rw [h1 i e]
      exact h.2 i (by omega) h3
theorem shf_ins {α : Type} {f g g2 : Nat → α} {p n : Nat} {x : α} (h : shf f g p n) (h0 : g2 p = x) (h1 : ∀ i, i ≠ p → g2 i = g i) : ∀ i, i ≤ n → g2 i = insF f p x i := by
  intro i hi
  unfold insF
  by_cases e1 : i < p
  · rw [if_pos e1, h1 i (by omega)]
    exact h.1 i e1
  · rw [if_neg e1]
    by_cases e2 : i = p
    · rw [if_pos e2, e2, h0]
    · rw [if_neg e2, h1 i e2]
      exact h.2 i (by omega) hi
theorem posR_up {rk : Nat → Int} {v : Int} {n : Nat} (h : v < rk n) : posR rk v (n + 1) = posR rk v n := by
  rw [show posR rk v (n + 1) = if v < rk n then posR rk v n else n + 1 from rfl, if_pos h]
theorem posR_here {rk : Nat → Int} {v : Int} {n : Nat} (h : ¬ (v < rk n)) : posR rk v (n + 1) = n + 1 := by
  rw [show posR rk v (n + 1) = if v < rk n then posR rk v n else n + 1 from rfl, if_neg h]
theorem ordN_t {pr : Nat → Bool} {rk : Nat → Int} {n : Nat} (h : pr n = true) : ordN pr rk (n + 1) = ((ordN pr rk n).1 + 1, insF (ordN pr rk n).2 (posR (fun i => rk ((ordN pr rk n).2 i)) (rk n) (ordN pr rk n).1) n) := by
  rw [show ordN pr rk (n + 1) = if pr n then ((ordN pr rk n).1 + 1, insF (ordN pr rk n).2 (posR (fun i => rk ((ordN pr rk n).2 i)) (rk n) (ordN pr rk n).1) n) else ordN pr rk n from rfl, if_pos h]
theorem ordN_f {pr : Nat → Bool} {rk : Nat → Int} {n : Nat} (h : pr n = false) : ordN pr rk (n + 1) = ordN pr rk n := by
  rw [show ordN pr rk (n + 1) = if pr n then ((ordN pr rk n).1 + 1, insF (ordN pr rk n).2 (posR (fun i => rk ((ordN pr rk n).2 i)) (rk n) (ordN pr rk n).1) n) else ordN pr rk n from rfl, h, if_neg Bool.false_ne_true]
/-- f1 has those of f0 below n in order -/
def ORn (f0 f1 : Nat → Option Nat) (sz : Int) (rk : Nat → Int) (n : Nat) : Prop := sz = ((ordN (fun i => (f0 i).isSome) rk n).1 : Int) ∧ ∀ i, i < (ordN (fun i => (f0 i).isSome) rk n).1 → f1 i = f0 ((ordN (fun i => (f0 i).isSome) rk n).2 i)
theorem ORn.sm {f0 f1 : Nat → Option Nat} {sz : Int} {rk : Nat → Int} {n : Nat} (h : ORn f0 f1 sz rk n) (i : Nat) (hi : (i : Int) < sz) : f1 i ≠ none := by
  have h1 := h.1
  rw [h.2 i (by omega)]
  have := (ordN_in (fun i => (f0 i).isSome) rk n i (by omega)).2
  intro e
  rw [e] at this
  cases this
theorem ORn.skip {f0 f1 : Nat → Option Nat} {sz : Int} {rk : Nat → Int} {n : Nat} (h : ORn f0 f1 sz rk n) (hn : f0 n = none) : ORn f0 f1 sz rk (n + 1) := by
  unfold ORn at h ⊢
  rw [ordN_f (by rw [hn]; rfl)]
  exact h
theorem ORn.step {f0 f1 g1 : Nat → Option Nat} {sz sz2 v : Int} {rk rk2 : Nat → Int} {n q : Nat} (h : ORn f0 f1 sz rk n) (hn : f0 n = some q) (hr : rk n = v) (hk : ∀ j : Nat, (j : Int) < sz → rk2 j = rk ((ordN (fun i => (f0 i).isSome) rk n).2 j)) (hs : sz2 = sz + 1) (hg : ∀ i : Nat, (i : Int) ≤ sz → g1 i = insF f1 (posR rk2 v sz.toNat) (some q) i) : ORn f0 g1 sz2 rk (n + 1) := by
  obtain ⟨h1, h2⟩ := h
  unfold ORn
  rw [ordN_t (by rw [hn]; rfl)]
  have hp : posR rk2 v sz.toNat = posR (fun i => rk ((ordN (fun i => (f0 i).isSome) rk n).2 i)) (rk n) (ordN (fun i => (f0 i).isSome) rk n).1 := by
    rw [hr, show sz.toNat = (ordN (fun i => (f0 i).isSome) rk n).1 from by omega]
    exact posR_congr (fun i hi => hk i (by omega))
  rw [hp] at hg
  refine ⟨by rw [hs, h1]; rfl, fun i hi => ?_⟩
  have hi2 : i < (ordN (fun i => (f0 i).isSome) rk n).1 + 1 := hi
  have hl := posR_le (fun i => rk ((ordN (fun i => (f0 i).isSome) rk n).2 i)) (rk n) (ordN (fun i => (f0 i).isSome) rk n).1
  rw [hg i (by omega)]
  show insF f1 _ _ i = f0 (insF _ _ _ i)
  unfold insF
  generalize posR (fun i => rk ((ordN (fun i => (f0 i).isSome) rk n).2 i)) (rk n) (ordN (fun i => (f0 i).isSome) rk n).1 = p at *
  by_cases e1 : i < p
  · rw [if_pos e1, if_pos e1]
    exact h2 i (by omega)
  · rw [if_neg e1, if_neg e1]
    by_cases e2 : i = p
    · rw [if_pos e2, if_pos e2, hn]
    · rw [if_neg e2, if_neg e2]
      exact h2 (i - 1) (by omega)
section
/-! ===== what the world's rows tell ===== -/
theorem cput_j {G G1 : XG} {a i : Nat} {x : Int32} (h : G1 = cput G a i x) (j : Nat) : G1.2.1 a j = if j = i then x else G.2.1 a j := by
  subst h
  show up2 _ _ _ _ _ _ = _
  unfold up2
  by_cases e : j = i
  · rw [if_pos ⟨rfl, e⟩, if_pos e]
  · rw [if_neg (fun q => e q.2), if_neg e]
theorem rput_j {G G1 : XG} {a i : Nat} {x : Option Nat} (h : G1 = rput G a i x) (j : Nat) : G1.2.2.1 a j = if j = i then x else G.2.2.1 a j := by
  subst h
  show up2 _ _ _ _ _ _ = _
  unfold up2
  by_cases e : j = i
  · rw [if_pos ⟨rfl, e⟩, if_pos e]
  · rw [if_neg (fun q => e q.2), if_neg e]
/-- the questions of a list -/
def qL (G : XG) (F : Nat → Nat → Nat) (a : Nat) : List Qt := lst (qt (G.2.1 (F a 0)) (G.2.1 (F a 1)) (G.2.1 (F a 2)) (G.2.1 (F a 3)) (G.2.1 (F a 4)) (G.2.1 (F a 5))) (G.1 a 6).toInt.toNat
theorem qL_push {G u : XG} {F : Nat → Nat → Nat} {a : Nat} {n : Nat} {x0 x1 x2 x3 x4 x5 : Int32} (hn : (G.1 a 6).toInt = n) (hu : (u.1 a 6).toInt = (n : Int) + 1)
    (h0 : ∀ j, u.2.1 (F a 0) j = if j = n then x0 else G.2.1 (F a 0) j) (h1 : ∀ j, u.2.1 (F a 1) j = if j = n then x1 else G.2.1 (F a 1) j) (h2 : ∀ j, u.2.1 (F a 2) j = if j = n then x2 else G.2.1 (F a 2) j) (h3 : ∀ j, u.2.1 (F a 3) j = if j = n then x3 else G.2.1 (F a 3) j) (h4 : ∀ j, u.2.1 (F a 4) j = if j = n then x4 else G.2.1 (F a 4) j) (h5 : ∀ j, u.2.1 (F a 5) j = if j = n then x5 else G.2.1 (F a 5) j) : qL u F a = qL G F a ++ [(x0.toInt, x1.toInt, x2.toInt, x3.toInt, x4.toInt, x5.toInt)] := by
  unfold qL
  rw [hn, hu, show ((n : Int) + 1).toNat = n + 1 from by omega, show (n : Int).toNat = n from by omega]
  refine lst_push (fun i hi => ?_) ?_
  · have e : ¬ (i = n) := by omega
    unfold qt
    rw [h0, h1, h2, h3, h4, h5, if_neg e, if_neg e, if_neg e, if_neg e, if_neg e, if_neg e]
  · unfold qt
    rw [h0, h1, h2, h3, h4, h5, if_pos rfl, if_pos rfl, if_pos rfl, if_pos rfl, if_pos rfl, if_pos rfl]
/-- the rank of an entry -/
def rkO (G : XG) (o : Option Nat) : Int := match o with
  | some q => (G.1 q 8).toInt
  | none => 0
theorem rkO_fr {d : List (Nat × Nat)} {c r : List Nat} {G G2 : XG} (h : XFr d c r G G2) (hd : ∀ b, (b, 8) ∉ d) (o : Option Nat) : rkO G2 o = rkO G o := by
  cases o with
  | none => rfl
  | some q => exact congrArg Int32.toInt (h.1 q 8 (hd q))
theorem xzi {v : Int32} (h : v = 0 ∨ v = 1) : v.toInt = 0 ∨ v.toInt = 1 := by rcases h with h | h <;> subst h <;> decide
section LG
variable {G G1 : XG} {a i b j : Nat} {v : Int32} {o : Option Nat} {f : Nat → Int32}
theorem ld_at (h : G1 = dput G a j v) : G1.1 a j = v := by subst h; exact up2_at
theorem ld_j (h : G1 = dput G a i v) (hn : j ≠ i) : G1.1 b j = G.1 b j := by subst h; exact up2_nj hn
theorem ld_a (h : G1 = dput G a i v) (hn : b ≠ a) : G1.1 b j = G.1 b j := by subst h; exact congrFun (up2_ne hn) _
theorem lc_d (h : G1 = cput G a i v) : G1.1 b j = G.1 b j := by subst h; rfl
theorem lcc_d (h : G1 = ccopy G a f) : G1.1 b j = G.1 b j := by subst h; rfl
theorem lr_d (h : G1 = rput G a i o) : G1.1 b j = G.1 b j := by subst h; rfl
theorem ld_c (h : G1 = dput G a i v) : G1.2.1 b = G.2.1 b := by subst h; rfl
theorem lr_c (h : G1 = rput G a i o) : G1.2.1 b = G.2.1 b := by subst h; rfl
theorem lc_c (h : G1 = cput G a i v) (hn : b ≠ a) : G1.2.1 b = G.2.1 b := by subst h; exact up2_ne hn
theorem lcc_c (h : G1 = ccopy G a f) (hn : b ≠ a) : G1.2.1 b = G.2.1 b := by subst h; exact upr_ne hn
theorem ld_r (h : G1 = dput G a i v) : G1.2.2.1 b = G.2.2.1 b := by subst h; rfl
theorem lc_r (h : G1 = cput G a i v) : G1.2.2.1 b = G.2.2.1 b := by subst h; rfl
theorem lcc_r (h : G1 = ccopy G a f) : G1.2.2.1 b = G.2.2.1 b := by subst h; rfl
theorem lr_r (h : G1 = rput G a i o) (hn : b ≠ a) : G1.2.2.1 b = G.2.2.1 b := by subst h; exact up2_ne hn
end LG
/-- the book's order is that of its rules -/
def BO (G : XG) (F : Nat → Nat → Nat) (a : Nat) : Prop := ORn (G.2.2.1 (F a 0)) (G.2.2.1 (F a 1)) (G.1 a 2).toInt (fun i => rkO G (G.2.2.1 (F a 0) i)) 12
theorem BO.arr {d : List (Nat × Nat)} {c r : List Nat} {G G2 : XG} {F : Nat → Nat → Nat} {a : Nat} (h : XFr d c r G G2) (hd : ∀ b, (b, 8) ∉ d) (h0 : G2.2.2.1 (F a 0) = G.2.2.1 (F a 0)) (ho : ORn (G.2.2.1 (F a 0)) (G2.2.2.1 (F a 1)) (G2.1 a 2).toInt (fun i => rkO G (G.2.2.1 (F a 0) i)) 12) : BO G2 F a := by
  unfold BO
  rw [h0]
  have e : (fun i => rkO G2 (G.2.2.1 (F a 0) i)) = fun i => rkO G (G.2.2.1 (F a 0) i) := by
    funext i
    exact rkO_fr h hd _
  rw [e]
  exact ho
theorem ccopy_at {G G1 : XG} {a : Nat} {f : Nat → Int32} (h : G1 = ccopy G a f) : G1.2.1 a = f := by
  subst h
  exact upr_at
theorem vw_cpy (f g : Nat → Int32) : vw (va_cpy f g 0 0 270) = vw f := by
  funext z
  unfold vw
  split
  · unfold aI va_cpy
    rw [if_pos (by omega)]
    congr 2
    omega
  · rfl
theorem aI_cpy (f g : Nat → Int32) (n : Nat) {t : Int} (h : 0 ≤ t ∧ t < n) : aI (va_cpy f g 0 0 n) t = aI f t := by
  unfold aI va_cpy
  rw [if_pos (by omega)]
  congr 2
  omega
theorem RO.congr {r b b2 : Int → Int} (h : RO r b) (hb : ∀ t : Int, 0 ≤ t → t < 3 → b2 t = b t) : RO r b2 := by
  obtain ⟨h1, h2, h3⟩ := h
  refine ⟨fun t k a1 a2 a3 a4 => ?_, h2, fun t k a1 a2 a3 a4 => ?_⟩
  · rw [hb t a1 a2]
    exact h1 t k a1 a2 a3 a4
  · rw [hb t a1 a2]
    exact h3 t k a1 a2 a3 a4
/-- the row (t, k) is at k2 now -/
def rmv (r : Int → Int) (t k k2 : Int) : Int → Int := fun z => if 0 ≤ z - (90 * t + k) ∧ (z - (90 * t + k)) % 30 = 0 ∧ (z - (90 * t + k)) / 30 < 3 then -2000 else if 0 ≤ z - (90 * t + k2) ∧ (z - (90 * t + k2)) % 30 = 0 ∧ (z - (90 * t + k2)) / 30 < 3 then r (z - k2 + k) else r z
/-- its first n columns are there -/
def rmc (r : Int → Int) (t k k2 n : Int) : Int → Int := fun z => if 0 ≤ z - (90 * t + k2) ∧ (z - (90 * t + k2)) % 30 = 0 ∧ (z - (90 * t + k2)) / 30 < n then r (z - k2 + k) else rfil r t k2 (-1000) 3 z
theorem rmc_0 (r : Int → Int) (t k k2 : Int) : rmc r t k k2 0 = rfil r t k2 (-1000) 3 := by
  funext z
  unfold rmc
  rw [if_neg (by omega)]
theorem rmc_s (r : Int → Int) (t k k2 n : Int) (h : 0 ≤ n) : rset (rmc r t k k2 n) (90 * t + 30 * n + k2) (r (90 * t + 30 * n + k)) = rmc r t k k2 (n + 1) := by
  funext z
  show (if z = 90 * t + 30 * n + k2 then r (90 * t + 30 * n + k) else rmc r t k k2 n z) = rmc r t k k2 (n + 1) z
  unfold rmc
  by_cases e : z = 90 * t + 30 * n + k2
  · rw [if_pos e, if_pos (by omega)]
    congr 1
    omega
  · rw [if_neg e]
    by_cases g : 0 ≤ z - (90 * t + k2) ∧ (z - (90 * t + k2)) % 30 = 0 ∧ (z - (90 * t + k2)) / 30 < n
    · rw [if_pos g, if_pos (by omega)]
    · rw [if_neg g, if_neg (by omega)]
theorem rmc_3 (r : Int → Int) (t k k2 : Int) (h : 0 ≤ k ∧ k < 30 ∧ 0 ≤ k2 ∧ k2 < 30 ∧ k ≠ k2) : rfil (rmc r t k k2 3) t k (-2000) 3 = rmv r t k k2 := by
  funext z
  show (if 0 ≤ z - (90 * t + k) ∧ (z - (90 * t + k)) % 30 = 0 ∧ (z - (90 * t + k)) / 30 < 3 then -2000 else rmc r t k k2 3 z) = rmv r t k k2 z
  unfold rmv
  by_cases g : 0 ≤ z - (90 * t + k) ∧ (z - (90 * t + k)) % 30 = 0 ∧ (z - (90 * t + k)) / 30 < 3
  · rw [if_pos g, if_pos g]
  · rw [if_neg g, if_neg g]
    unfold rmc
    by_cases g2 : 0 ≤ z - (90 * t + k2) ∧ (z - (90 * t + k2)) % 30 = 0 ∧ (z - (90 * t + k2)) / 30 < 3
    · rw [if_pos g2, if_pos g2]
    · rw [if_neg g2, if_neg g2]
      show (if _ then _ else r z) = r z
      rw [if_neg g2]
theorem rmc_cel {r : Int → Int} {t k k2 n c : Int} (h0 : 0 ≤ t ∧ t < 3 ∧ 0 ≤ k ∧ k < 30 ∧ 0 ≤ k2 ∧ k2 < 30 ∧ k ≠ k2 ∧ 0 ≤ c ∧ c < 3 ∧ 0 ≤ n) : cel (rmc r t k k2 n) t k c = cel r t k c := by
  rw [cel_in (by omega), cel_in (by omega)]
  unfold rmc
  rw [if_neg (by omega)]
  unfold rfil
  rw [if_neg (by omega)]
theorem rmc_has {r : Int → Int} {t k k2 n : Int} (h0 : 0 ≤ t ∧ t < 3 ∧ 0 ≤ k ∧ k < 30 ∧ 0 ≤ k2 ∧ k2 < 30 ∧ 0 ≤ n) (h : cel r t k 0 ≠ -2000) : cel (rmc r t k k2 n) t k2 0 ≠ -2000 := by
  rw [cel_in (by omega)] at h ⊢
  unfold rmc
  split
  · rw [show 90 * t + 30 * 0 + k2 - k2 + k = 90 * t + 30 * 0 + k from by omega]
    exact h
  · unfold rfil
    rw [if_pos (by omega)]
    decide
theorem mv_ok {r r2 b : Int → Int} {t k k2 c : Int} (h : RO r b) (h1 : cel r t k 0 ≠ -2000) (e : r2 = rmc r t k k2 c) (h0 : 0 ≤ t ∧ t < 3 ∧ 0 ≤ k ∧ k < 30 ∧ 0 ≤ k2 ∧ k2 < 30 ∧ k ≠ k2 ∧ 0 ≤ c ∧ c < 3 ∧ 0 ≤ c) : cel r2 t k c = -1000 ∨ (-99 ≤ cel r2 t k c ∧ cel r2 t k c ≤ 99) := by
  rw [e, rmc_cel h0]
  have h2 := h.okc t k c
  have h3 := h.absent t k c (by omega)
  unfold okv at h2
  omega
theorem rkO_d {G G2 : XG} {a : Nat} {v : Int32} (h : G2 = dput G a 2 v) (o : Option Nat) : rkO G2 o = rkO G o := by
  cases o with
  | none => rfl
  | some q => exact congrArg Int32.toInt (ld_j h (by decide))
end
theorem v_X6_fill_29_1 {K : Nat → Nat} {F : Nat → Nat → Nat} (a : Nat) (G : XG) (G_3 : XG) (p0 : Int32) (p1 : Int32) (p2 : Int32) (l4_3 : Int32) (N3 : Nat)
    (ha : K a = 8)
    (pf : vw (G_3.2.1 (F a 0)) = rfil (vw (G.2.1 (F a 0))) (p0.toInt) (p1.toInt) (p2.toInt) (l4_3.toInt))
    (e0 : 0 ≤ p0.toInt ∧ p0.toInt < 3 ∧ 0 ≤ p1.toInt ∧ p1.toInt < 30)
    (I3_0 : 0 ≤ l4_3.toInt ∧ l4_3.toInt ≤ 3)
    (I3_1 : (0 : Int) ≤ l4_3.toInt)
    (hm3 : 2147483648 - l4_3.toInt < (((N3) + 1 : Nat) : Int))
    (c6 : (3 : Int) ≤ l4_3.toInt) :
    (vw (G_3.2.1 (F a 0))) = rfil (vw (G.2.1 (F a 0))) (p0.toInt) (p1.toInt) (p2.toInt) 3 := by
  rw [pf]
  congr 1
  omega
theorem v_X6_fill_26_2 {K : Nat → Nat} {F : Nat → Nat → Nat} (a : Nat) (G : XG) (G_3 : XG) (G22 : XG) (x20 : Int32) (p2 : Int32) (p0 : Int32) (p1 : Int32) (l4_3 : Int32) (N3 : Nat) (x16 : Int32)
    (ha : K a = 8)
    (hG22 : G22 = cput G_3 (F a 0) x20.toNatClampNeg p2)
    (pf : vw (G_3.2.1 (F a 0)) = rfil (vw (G.2.1 (F a 0))) (p0.toInt) (p1.toInt) (p2.toInt) (l4_3.toInt))
    (e0 : 0 ≤ p0.toInt ∧ p0.toInt < 3 ∧ 0 ≤ p1.toInt ∧ p1.toInt < 30)
    (I3_0 : 0 ≤ l4_3.toInt ∧ l4_3.toInt ≤ 3)
    (I3_1 : (0 : Int) ≤ l4_3.toInt)
    (hm3 : 2147483648 - l4_3.toInt < (((N3) + 1 : Nat) : Int))
    (c6 : ¬ ((3 : Int) ≤ l4_3.toInt))
    (t16 : 0 ≤ p0.toInt ∧ p0.toInt < 3 ∧ 0 ≤ l4_3.toInt ∧ l4_3.toInt < 3 → x16.toInt = 90 * p0.toInt + 30 * l4_3.toInt)
    (t20 : x20.toInt = x16.toInt + p1.toInt ∨ x16.toInt + p1.toInt < -2147483648 ∨ 2147483648 ≤ x16.toInt + p1.toInt) :
    vw (G22.2.1 (F a 0)) = rfil (vw (G.2.1 (F a 0))) (p0.toInt) (p1.toInt) (p2.toInt) (l4_3.toInt + 1) := by
  have e1 : G22.2.1 (F a 0) = upd (G_3.2.1 (F a 0)) x20.toNatClampNeg p2 := by rw [hG22]; show up2 _ _ _ _ _ = _; rw [up2_r, upr_at]
  rw [vw_upd e1 rfl rfl (by omega), pf, ← rfil_s _ _ _ _ _ (by omega)]
  congr 1
  omega
theorem v_X6_fill_1_3 {F : Nat → Nat → Nat} (a : Nat) (p0 : Int32) (p1 : Int32) (G : XG) (p2 : Int32) :
    vw (G.2.1 (F a 0)) = rfil (vw (G.2.1 (F a 0))) (p0.toInt) (p1.toInt) (p2.toInt) (0 : Int) := by
  exact (rfil_0 _ _ _ _).symm
theorem v_X6_add_35_1 {K : Nat → Nat} {F : Nat → Nat → Nat} (a : Nat) (G : XG) (p0 : Int32) (p1 : Int32) (x1 : Int32)
    (ha : K a = 8)
    (e0 : 0 ≤ p0.toInt ∧ p0.toInt < 3 ∧ 0 ≤ p1.toInt ∧ p1.toInt < 30)
    (t1 : (x1.toInt = 1 ∧ 0 ≤ p0.toInt ∧ p0.toInt < 3) ∨ (x1.toInt = 0 ∧ (p0.toInt < 0 ∨ 3 ≤ p0.toInt)))
    (c4 : x1.toInt = 0) :
    (vw (G.2.1 (F a 0))) = rfil (vw (G.2.1 (F a 0))) (p0.toInt) (p1.toInt) (-1000) 3 := by
  first | (exfalso; omega) | skip
  all_goals (
    rw [oq32])
theorem v_X6_add_35_2 {K : Nat → Nat} {F : Nat → Nat → Nat} (a : Nat) (G : XG) (p0 : Int32) (p1 : Int32) (x1 : Int32)
    (ha : K a = 8)
    (hro : RO (vw (G.2.1 (F a 0))) (aI (G.2.1 (F a 1))))
    (e0 : 0 ≤ p0.toInt ∧ p0.toInt < 3 ∧ 0 ≤ p1.toInt ∧ p1.toInt < 30)
    (t1 : (x1.toInt = 1 ∧ 0 ≤ p0.toInt ∧ p0.toInt < 3) ∨ (x1.toInt = 0 ∧ (p0.toInt < 0 ∨ 3 ≤ p0.toInt)))
    (c4 : x1.toInt = 0) :
    RO (vw (G.2.1 (F a 0))) (aI (G.2.1 (F a 1))) := by
  first | (exfalso; omega) | skip
  all_goals (
    rw [oq32, c_G32_F_a_1]
    refine RO.fill hro (by omega) (Or.inr (Or.inl rfl)) (fun t2 h1 h2 h3 => ?_) (fun j h1 h2 => ?_)
    · rw [hG25, aI_put (by omega) _ h1, if_neg h3]
    · rw [hG25, aI_put (by omega) _ (by omega), if_pos rfl, bI_set he23 he24 hv20 rfl (by omega) j h1 h2]
      by_cases e : j = p1.toInt
      · rw [if_pos e, if_pos e, if_neg (by decide)]
      · rw [if_neg e, if_neg e])
theorem v_X6_add_35_3 {K : Nat → Nat} {F : Nat → Nat → Nat} (a : Nat) (G : XG) (p0 : Int32) (p1 : Int32) (x1 : Int32) (x8 : Int32)
    (ha : K a = 8)
    (e0 : 0 ≤ p0.toInt ∧ p0.toInt < 3 ∧ 0 ≤ p1.toInt ∧ p1.toInt < 30)
    (t1 : (x1.toInt = 1 ∧ 0 ≤ p0.toInt ∧ p0.toInt < 3) ∨ (x1.toInt = 0 ∧ (p0.toInt < 0 ∨ 3 ≤ p0.toInt)))
    (c4 : ¬ (x1.toInt = 0))
    (t8 : (x8.toInt = 1 ∧ 0 ≤ p1.toInt ∧ p1.toInt < 30) ∨ (x8.toInt = 0 ∧ (p1.toInt < 0 ∨ 30 ≤ p1.toInt)))
    (c11 : x8.toInt = 0) :
    (vw (G.2.1 (F a 0))) = rfil (vw (G.2.1 (F a 0))) (p0.toInt) (p1.toInt) (-1000) 3 := by
  first | (exfalso; omega) | skip
  all_goals (
    rw [oq32])
theorem v_X6_add_35_4 {K : Nat → Nat} {F : Nat → Nat → Nat} (a : Nat) (G : XG) (p0 : Int32) (p1 : Int32) (x1 : Int32) (x8 : Int32)
    (ha : K a = 8)
    (hro : RO (vw (G.2.1 (F a 0))) (aI (G.2.1 (F a 1))))
    (e0 : 0 ≤ p0.toInt ∧ p0.toInt < 3 ∧ 0 ≤ p1.toInt ∧ p1.toInt < 30)
    (t1 : (x1.toInt = 1 ∧ 0 ≤ p0.toInt ∧ p0.toInt < 3) ∨ (x1.toInt = 0 ∧ (p0.toInt < 0 ∨ 3 ≤ p0.toInt)))
    (c4 : ¬ (x1.toInt = 0))
    (t8 : (x8.toInt = 1 ∧ 0 ≤ p1.toInt ∧ p1.toInt < 30) ∨ (x8.toInt = 0 ∧ (p1.toInt < 0 ∨ 30 ≤ p1.toInt)))
    (c11 : x8.toInt = 0) :
    RO (vw (G.2.1 (F a 0))) (aI (G.2.1 (F a 1))) := by
  first | (exfalso; omega) | skip
  all_goals (
    rw [oq32, c_G32_F_a_1]
    refine RO.fill hro (by omega) (Or.inr (Or.inl rfl)) (fun t2 h1 h2 h3 => ?_) (fun j h1 h2 => ?_)
    · rw [hG25, aI_put (by omega) _ h1, if_neg h3]
    · rw [hG25, aI_put (by omega) _ (by omega), if_pos rfl, bI_set he23 he24 hv20 rfl (by omega) j h1 h2]
      by_cases e : j = p1.toInt
      · rw [if_pos e, if_pos e, if_neg (by decide)]
      · rw [if_neg e, if_neg e])
theorem v_X6_add_35_5 {K : Nat → Nat} {F : Nat → Nat → Nat} (a : Nat) (G : XG) (p0 : Int32) (x24 : Int32) (G32 : XG) (x20 : Int32) (x23 : Int32) (p1 : Int32) (x1 : Int32) (x8 : Int32)
    (ha : K a = 8)
    (hv20 : x20.toInt = (aI (G.2.1 (F a 1)) (p0.toInt)))
    (he23 : x23 = (1 : Int32) <<< (p1 &&& 31))
    (he24 : x24 = x20 ||| x23)
    (oq32 : (vw (G32.2.1 (F a 0))) = rfil (vw (G.2.1 (F a 0))) (p0.toInt) (p1.toInt) (-1000 : Int) 3)
    (e0 : 0 ≤ p0.toInt ∧ p0.toInt < 3 ∧ 0 ≤ p1.toInt ∧ p1.toInt < 30)
    (t1 : (x1.toInt = 1 ∧ 0 ≤ p0.toInt ∧ p0.toInt < 3) ∨ (x1.toInt = 0 ∧ (p0.toInt < 0 ∨ 3 ≤ p0.toInt)))
    (c4 : ¬ (x1.toInt = 0))
    (t8 : (x8.toInt = 1 ∧ 0 ≤ p1.toInt ∧ p1.toInt < 30) ∨ (x8.toInt = 0 ∧ (p1.toInt < 0 ∨ 30 ≤ p1.toInt)))
    (c11 : ¬ (x8.toInt = 0)) :
    (vw (G32.2.1 (F a 0))) = rfil (vw (G.2.1 (F a 0))) (p0.toInt) (p1.toInt) (-1000) 3 := by
  first | (exfalso; omega) | skip
  all_goals (
    rw [oq32])
theorem v_X6_add_35_6 {K : Nat → Nat} {F : Nat → Nat → Nat} (a : Nat) (G25 : XG) (G : XG) (p0 : Int32) (x24 : Int32) (G32 : XG) (x20 : Int32) (x23 : Int32) (p1 : Int32) (x1 : Int32) (x8 : Int32)
    (ha : K a = 8)
    (hG25 : G25 = cput G (F a 1) p0.toNatClampNeg x24)
    (hro : RO (vw (G.2.1 (F a 0))) (aI (G.2.1 (F a 1))))
    (hv20 : x20.toInt = (aI (G.2.1 (F a 1)) (p0.toInt)))
    (he23 : x23 = (1 : Int32) <<< (p1 &&& 31))
    (he24 : x24 = x20 ||| x23)
    (oq32 : (vw (G32.2.1 (F a 0))) = rfil (vw (G.2.1 (F a 0))) (p0.toInt) (p1.toInt) (-1000 : Int) 3)
    (e0 : 0 ≤ p0.toInt ∧ p0.toInt < 3 ∧ 0 ≤ p1.toInt ∧ p1.toInt < 30)
    (t1 : (x1.toInt = 1 ∧ 0 ≤ p0.toInt ∧ p0.toInt < 3) ∨ (x1.toInt = 0 ∧ (p0.toInt < 0 ∨ 3 ≤ p0.toInt)))
    (c4 : ¬ (x1.toInt = 0))
    (t8 : (x8.toInt = 1 ∧ 0 ≤ p1.toInt ∧ p1.toInt < 30) ∨ (x8.toInt = 0 ∧ (p1.toInt < 0 ∨ 30 ≤ p1.toInt)))
    (c11 : ¬ (x8.toInt = 0))
    (c_G32_F_a_1 : G32.2.1 (F a 1) = G25.2.1 (F a 1)) :
    RO (vw (G32.2.1 (F a 0))) (aI (G32.2.1 (F a 1))) := by
  first | (exfalso; omega) | skip
  all_goals (
    rw [oq32, c_G32_F_a_1]
    refine RO.fill hro (by omega) (Or.inr (Or.inl rfl)) (fun t2 h1 h2 h3 => ?_) (fun j h1 h2 => ?_)
    · rw [hG25, aI_put (by omega) _ h1, if_neg h3]
    · rw [hG25, aI_put (by omega) _ (by omega), if_pos rfl, bI_set he23 he24 hv20 rfl (by omega) j h1 h2]
      by_cases e : j = p1.toInt
      · rw [if_pos e, if_pos e, if_neg (by decide)]
      · rw [if_neg e, if_neg e])
theorem v_X6_remove_37_1 {K : Nat → Nat} {F : Nat → Nat → Nat} (a : Nat) (G : XG) (p0 : Int32) (p1 : Int32) (x1 : Int32)
    (ha : K a = 8)
    (e0 : 0 ≤ p0.toInt ∧ p0.toInt < 3 ∧ 0 ≤ p1.toInt ∧ p1.toInt < 30)
    (t1 : (x1.toInt = 1 ∧ 0 ≤ p0.toInt ∧ p0.toInt < 3) ∨ (x1.toInt = 0 ∧ (p0.toInt < 0 ∨ 3 ≤ p0.toInt)))
    (c4 : x1.toInt = 0) :
    (vw (G.2.1 (F a 0))) = rfil (vw (G.2.1 (F a 0))) (p0.toInt) (p1.toInt) (-2000) 3 := by
  first | (exfalso; omega) | skip
  all_goals (
    rw [oq34])
theorem v_X6_remove_37_2 {K : Nat → Nat} {F : Nat → Nat → Nat} (a : Nat) (G : XG) (p0 : Int32) (p1 : Int32) (x1 : Int32)
    (ha : K a = 8)
    (hro : RO (vw (G.2.1 (F a 0))) (aI (G.2.1 (F a 1))))
    (e0 : 0 ≤ p0.toInt ∧ p0.toInt < 3 ∧ 0 ≤ p1.toInt ∧ p1.toInt < 30)
    (t1 : (x1.toInt = 1 ∧ 0 ≤ p0.toInt ∧ p0.toInt < 3) ∨ (x1.toInt = 0 ∧ (p0.toInt < 0 ∨ 3 ≤ p0.toInt)))
    (c4 : x1.toInt = 0) :
    RO (vw (G.2.1 (F a 0))) (aI (G.2.1 (F a 1))) := by
  first | (exfalso; omega) | skip
  all_goals (
    rw [oq34, c_G34_F_a_1]
    refine RO.fill hro (by omega) (Or.inl rfl) (fun t2 h1 h2 h3 => ?_) (fun j h1 h2 => ?_)
    · rw [hG27, aI_put (by omega) _ h1, if_neg h3]
    · rw [hG27, aI_put (by omega) _ (by omega), if_pos rfl, bI_clr he23 he25 he26 hv20 rfl (by omega) j h1 h2]
      by_cases e : j = p1.toInt
      · rw [if_pos e, if_pos e, if_pos rfl]
      · rw [if_neg e, if_neg e])
theorem v_X6_remove_37_3 {K : Nat → Nat} {F : Nat → Nat → Nat} (a : Nat) (G : XG) (p0 : Int32) (p1 : Int32) (x1 : Int32) (x8 : Int32)
    (ha : K a = 8)
    (e0 : 0 ≤ p0.toInt ∧ p0.toInt < 3 ∧ 0 ≤ p1.toInt ∧ p1.toInt < 30)
    (t1 : (x1.toInt = 1 ∧ 0 ≤ p0.toInt ∧ p0.toInt < 3) ∨ (x1.toInt = 0 ∧ (p0.toInt < 0 ∨ 3 ≤ p0.toInt)))
    (c4 : ¬ (x1.toInt = 0))
    (t8 : (x8.toInt = 1 ∧ 0 ≤ p1.toInt ∧ p1.toInt < 30) ∨ (x8.toInt = 0 ∧ (p1.toInt < 0 ∨ 30 ≤ p1.toInt)))
    (c11 : x8.toInt = 0) :
    (vw (G.2.1 (F a 0))) = rfil (vw (G.2.1 (F a 0))) (p0.toInt) (p1.toInt) (-2000) 3 := by
  first | (exfalso; omega) | skip
  all_goals (
    rw [oq34])
theorem v_X6_remove_37_4 {K : Nat → Nat} {F : Nat → Nat → Nat} (a : Nat) (G : XG) (p0 : Int32) (p1 : Int32) (x1 : Int32) (x8 : Int32)
    (ha : K a = 8)
    (hro : RO (vw (G.2.1 (F a 0))) (aI (G.2.1 (F a 1))))
    (e0 : 0 ≤ p0.toInt ∧ p0.toInt < 3 ∧ 0 ≤ p1.toInt ∧ p1.toInt < 30)
    (t1 : (x1.toInt = 1 ∧ 0 ≤ p0.toInt ∧ p0.toInt < 3) ∨ (x1.toInt = 0 ∧ (p0.toInt < 0 ∨ 3 ≤ p0.toInt)))
    (c4 : ¬ (x1.toInt = 0))
    (t8 : (x8.toInt = 1 ∧ 0 ≤ p1.toInt ∧ p1.toInt < 30) ∨ (x8.toInt = 0 ∧ (p1.toInt < 0 ∨ 30 ≤ p1.toInt)))
    (c11 : x8.toInt = 0) :
    RO (vw (G.2.1 (F a 0))) (aI (G.2.1 (F a 1))) := by
  first | (exfalso; omega) | skip
  all_goals (
    rw [oq34, c_G34_F_a_1]
    refine RO.fill hro (by omega) (Or.inl rfl) (fun t2 h1 h2 h3 => ?_) (fun j h1 h2 => ?_)
    · rw [hG27, aI_put (by omega) _ h1, if_neg h3]
    · rw [hG27, aI_put (by omega) _ (by omega), if_pos rfl, bI_clr he23 he25 he26 hv20 rfl (by omega) j h1 h2]
      by_cases e : j = p1.toInt
      · rw [if_pos e, if_pos e, if_pos rfl]
      · rw [if_neg e, if_neg e])
theorem v_X6_remove_37_5 {K : Nat → Nat} {F : Nat → Nat → Nat} (a : Nat) (G : XG) (p0 : Int32) (x26 : Int32) (G34 : XG) (x20 : Int32) (x23 : Int32) (p1 : Int32) (x25 : Int32) (x1 : Int32) (x8 : Int32)
    (ha : K a = 8)
    (hv20 : x20.toInt = (aI (G.2.1 (F a 1)) (p0.toInt)))
    (he23 : x23 = (1 : Int32) <<< (p1 &&& 31))
    (he25 : x25 = x23 ^^^ (-1))
    (he26 : x26 = x20 &&& x25)
    (oq34 : (vw (G34.2.1 (F a 0))) = rfil (vw (G.2.1 (F a 0))) (p0.toInt) (p1.toInt) (-2000 : Int) 3)
    (e0 : 0 ≤ p0.toInt ∧ p0.toInt < 3 ∧ 0 ≤ p1.toInt ∧ p1.toInt < 30)
    (t1 : (x1.toInt = 1 ∧ 0 ≤ p0.toInt ∧ p0.toInt < 3) ∨ (x1.toInt = 0 ∧ (p0.toInt < 0 ∨ 3 ≤ p0.toInt)))
    (c4 : ¬ (x1.toInt = 0))
    (t8 : (x8.toInt = 1 ∧ 0 ≤ p1.toInt ∧ p1.toInt < 30) ∨ (x8.toInt = 0 ∧ (p1.toInt < 0 ∨ 30 ≤ p1.toInt)))
    (c11 : ¬ (x8.toInt = 0)) :
    (vw (G34.2.1 (F a 0))) = rfil (vw (G.2.1 (F a 0))) (p0.toInt) (p1.toInt) (-2000) 3 := by
  first | (exfalso; omega) | skip
  all_goals (
    rw [oq34])
theorem v_X6_remove_37_6 {K : Nat → Nat} {F : Nat → Nat → Nat} (a : Nat) (G27 : XG) (G : XG) (p0 : Int32) (x26 : Int32) (G34 : XG) (x20 : Int32) (x23 : Int32) (p1 : Int32) (x25 : Int32) (x1 : Int32) (x8 : Int32)
    (ha : K a = 8)
    (hG27 : G27 = cput G (F a 1) p0.toNatClampNeg x26)
    (hro : RO (vw (G.2.1 (F a 0))) (aI (G.2.1 (F a 1))))
    (hv20 : x20.toInt = (aI (G.2.1 (F a 1)) (p0.toInt)))
    (he23 : x23 = (1 : Int32) <<< (p1 &&& 31))
    (he25 : x25 = x23 ^^^ (-1))
    (he26 : x26 = x20 &&& x25)
    (oq34 : (vw (G34.2.1 (F a 0))) = rfil (vw (G.2.1 (F a 0))) (p0.toInt) (p1.toInt) (-2000 : Int) 3)
    (e0 : 0 ≤ p0.toInt ∧ p0.toInt < 3 ∧ 0 ≤ p1.toInt ∧ p1.toInt < 30)
    (t1 : (x1.toInt = 1 ∧ 0 ≤ p0.toInt ∧ p0.toInt < 3) ∨ (x1.toInt = 0 ∧ (p0.toInt < 0 ∨ 3 ≤ p0.toInt)))
    (c4 : ¬ (x1.toInt = 0))
    (t8 : (x8.toInt = 1 ∧ 0 ≤ p1.toInt ∧ p1.toInt < 30) ∨ (x8.toInt = 0 ∧ (p1.toInt < 0 ∨ 30 ≤ p1.toInt)))
    (c11 : ¬ (x8.toInt = 0))
    (c_G34_F_a_1 : G34.2.1 (F a 1) = G27.2.1 (F a 1)) :
    RO (vw (G34.2.1 (F a 0))) (aI (G34.2.1 (F a 1))) := by
  first | (exfalso; omega) | skip
  all_goals (
    rw [oq34, c_G34_F_a_1]
    refine RO.fill hro (by omega) (Or.inl rfl) (fun t2 h1 h2 h3 => ?_) (fun j h1 h2 => ?_)
    · rw [hG27, aI_put (by omega) _ h1, if_neg h3]
    · rw [hG27, aI_put (by omega) _ (by omega), if_pos rfl, bI_clr he23 he25 he26 hv20 rfl (by omega) j h1 h2]
      by_cases e : j = p1.toInt
      · rw [if_pos e, if_pos e, if_pos rfl]
      · rw [if_neg e, if_neg e])
theorem v_X6_change_3_1 {F : Nat → Nat → Nat} (a : Nat) (G : XG)
    (hro : RO (vw (G.2.1 (F a 0))) (aI (G.2.1 (F a 1)))) :
    RO (vw (G.2.1 (F a 0))) (aI (G.2.1 (F a 1))) := by exact hro
theorem v_X6_change_30_2 {K : Nat → Nat} {F : Nat → Nat → Nat} (a : Nat) (G : XG) (p2 : Int32) (p3 : Int32) (p0 : Int32) (p1 : Int32) (x3 : Int32)
    (ha : K a = 8)
    (e0 : 0 ≤ p2.toInt ∧ p2.toInt < 3)
    (e1 : p3.toInt = -1000 ∨ (-99 ≤ p3.toInt ∧ p3.toInt ≤ 99))
    (z0 : (¬ (0 ≤ p0.toInt ∧ p0.toInt < 3 ∧ 0 ≤ p1.toInt ∧ p1.toInt < 30)) → (cel (vw (G.2.1 (F a 0))) (p0.toInt) (p1.toInt) 0) = -2000)
    (t3 : (x3.toInt = 1 ∧ (cel (vw (G.2.1 (F a 0))) (p0.toInt) (p1.toInt) 0) ≠ -2000) ∨ (x3.toInt = 0 ∧ (cel (vw (G.2.1 (F a 0))) (p0.toInt) (p1.toInt) 0) = -2000))
    (c6 : x3.toInt = 0) :
    (vw (G.2.1 (F a 0))) = if cel (vw (G.2.1 (F a 0))) (p0.toInt) (p1.toInt) 0 ≠ -2000 then rset (vw (G.2.1 (F a 0))) (90 * (p0.toInt) + 30 * (p2.toInt) + (p1.toInt)) (p3.toInt) else (vw (G.2.1 (F a 0))) := by
  first | (exfalso; omega) | skip
  all_goals (
    first
      | (rw [if_neg (show ¬ (_ ≠ _) by omega)]; done)
      | (have e1 : G29.2.1 (F a 0) = upd (G.2.1 (F a 0)) x26.toNatClampNeg p3 := by rw [hG29]; show up2 _ _ _ _ _ = _; rw [up2_r, upr_at]
         rw [if_pos (show _ ≠ _ by omega), vw_upd e1 (I := 90 * p0.toInt + 30 * p2.toInt + p1.toInt) (by omega) rfl (by omega)]))
theorem v_X6_change_30_3 {K : Nat → Nat} {F : Nat → Nat → Nat} (a : Nat) (G : XG) (p2 : Int32) (p3 : Int32) (p0 : Int32) (p1 : Int32) (x3 : Int32)
    (ha : K a = 8)
    (hro : RO (vw (G.2.1 (F a 0))) (aI (G.2.1 (F a 1))))
    (e0 : 0 ≤ p2.toInt ∧ p2.toInt < 3)
    (e1 : p3.toInt = -1000 ∨ (-99 ≤ p3.toInt ∧ p3.toInt ≤ 99))
    (z0 : (¬ (0 ≤ p0.toInt ∧ p0.toInt < 3 ∧ 0 ≤ p1.toInt ∧ p1.toInt < 30)) → (cel (vw (G.2.1 (F a 0))) (p0.toInt) (p1.toInt) 0) = -2000)
    (t3 : (x3.toInt = 1 ∧ (cel (vw (G.2.1 (F a 0))) (p0.toInt) (p1.toInt) 0) ≠ -2000) ∨ (x3.toInt = 0 ∧ (cel (vw (G.2.1 (F a 0))) (p0.toInt) (p1.toInt) 0) = -2000))
    (c6 : x3.toInt = 0) :
    RO (vw (G.2.1 (F a 0))) (aI (G.2.1 (F a 1))) := by
  first | (exfalso; omega) | skip
  all_goals (
    first
      | exact hro
      | (have e1 : G29.2.1 (F a 0) = upd (G.2.1 (F a 0)) x26.toNatClampNeg p3 := by rw [hG29]; show up2 _ _ _ _ _ = _; rw [up2_r, upr_at]
         rw [vw_upd e1 (I := 90 * p0.toInt + 30 * p2.toInt + p1.toInt) (by omega) rfl (by omega), c_G29_F_a_1]
         exact hro.set (by omega) (by omega) (by unfold okv; omega) (by omega)))
theorem v_X6_change_30_4 {K : Nat → Nat} {F : Nat → Nat → Nat} (a : Nat) (G : XG) (p2 : Int32) (p3 : Int32) (p0 : Int32) (p1 : Int32) (x3 : Int32) (x10 : Int32)
    (ha : K a = 8)
    (e0 : 0 ≤ p2.toInt ∧ p2.toInt < 3)
    (e1 : p3.toInt = -1000 ∨ (-99 ≤ p3.toInt ∧ p3.toInt ≤ 99))
    (z0 : (¬ (0 ≤ p0.toInt ∧ p0.toInt < 3 ∧ 0 ≤ p1.toInt ∧ p1.toInt < 30)) → (cel (vw (G.2.1 (F a 0))) (p0.toInt) (p1.toInt) 0) = -2000)
    (t3 : (x3.toInt = 1 ∧ (cel (vw (G.2.1 (F a 0))) (p0.toInt) (p1.toInt) 0) ≠ -2000) ∨ (x3.toInt = 0 ∧ (cel (vw (G.2.1 (F a 0))) (p0.toInt) (p1.toInt) 0) = -2000))
    (c6 : ¬ (x3.toInt = 0))
    (t10 : (x10.toInt = 1 ∧ 0 ≤ p2.toInt ∧ p2.toInt < 3) ∨ (x10.toInt = 0 ∧ (p2.toInt < 0 ∨ 3 ≤ p2.toInt)))
    (c13 : x10.toInt = 0) :
    (vw (G.2.1 (F a 0))) = if cel (vw (G.2.1 (F a 0))) (p0.toInt) (p1.toInt) 0 ≠ -2000 then rset (vw (G.2.1 (F a 0))) (90 * (p0.toInt) + 30 * (p2.toInt) + (p1.toInt)) (p3.toInt) else (vw (G.2.1 (F a 0))) := by
  first | (exfalso; omega) | skip
  all_goals (
    first
      | (rw [if_neg (show ¬ (_ ≠ _) by omega)]; done)
      | (have e1 : G29.2.1 (F a 0) = upd (G.2.1 (F a 0)) x26.toNatClampNeg p3 := by rw [hG29]; show up2 _ _ _ _ _ = _; rw [up2_r, upr_at]
         rw [if_pos (show _ ≠ _ by omega), vw_upd e1 (I := 90 * p0.toInt + 30 * p2.toInt + p1.toInt) (by omega) rfl (by omega)]))
theorem v_X6_change_30_5 {K : Nat → Nat} {F : Nat → Nat → Nat} (a : Nat) (G : XG) (p2 : Int32) (p3 : Int32) (p0 : Int32) (p1 : Int32) (x3 : Int32) (x10 : Int32)
    (ha : K a = 8)
    (hro : RO (vw (G.2.1 (F a 0))) (aI (G.2.1 (F a 1))))
    (e0 : 0 ≤ p2.toInt ∧ p2.toInt < 3)
    (e1 : p3.toInt = -1000 ∨ (-99 ≤ p3.toInt ∧ p3.toInt ≤ 99))
    (z0 : (¬ (0 ≤ p0.toInt ∧ p0.toInt < 3 ∧ 0 ≤ p1.toInt ∧ p1.toInt < 30)) → (cel (vw (G.2.1 (F a 0))) (p0.toInt) (p1.toInt) 0) = -2000)
    (t3 : (x3.toInt = 1 ∧ (cel (vw (G.2.1 (F a 0))) (p0.toInt) (p1.toInt) 0) ≠ -2000) ∨ (x3.toInt = 0 ∧ (cel (vw (G.2.1 (F a 0))) (p0.toInt) (p1.toInt) 0) = -2000))
    (c6 : ¬ (x3.toInt = 0))
    (t10 : (x10.toInt = 1 ∧ 0 ≤ p2.toInt ∧ p2.toInt < 3) ∨ (x10.toInt = 0 ∧ (p2.toInt < 0 ∨ 3 ≤ p2.toInt)))
    (c13 : x10.toInt = 0) :
    RO (vw (G.2.1 (F a 0))) (aI (G.2.1 (F a 1))) := by
  first | (exfalso; omega) | skip
  all_goals (
    first
      | exact hro
      | (have e1 : G29.2.1 (F a 0) = upd (G.2.1 (F a 0)) x26.toNatClampNeg p3 := by rw [hG29]; show up2 _ _ _ _ _ = _; rw [up2_r, upr_at]
         rw [vw_upd e1 (I := 90 * p0.toInt + 30 * p2.toInt + p1.toInt) (by omega) rfl (by omega), c_G29_F_a_1]
         exact hro.set (by omega) (by omega) (by unfold okv; omega) (by omega)))
theorem v_X6_change_30_6 {K : Nat → Nat} {F : Nat → Nat → Nat} (a : Nat) (G29 : XG) (G : XG) (x26 : Int32) (p3 : Int32) (p2 : Int32) (p0 : Int32) (p1 : Int32) (x3 : Int32) (x10 : Int32) (x22 : Int32)
    (ha : K a = 8)
    (hG29 : G29 = cput G (F a 0) x26.toNatClampNeg p3)
    (e0 : 0 ≤ p2.toInt ∧ p2.toInt < 3)
    (e1 : p3.toInt = -1000 ∨ (-99 ≤ p3.toInt ∧ p3.toInt ≤ 99))
    (z0 : (¬ (0 ≤ p0.toInt ∧ p0.toInt < 3 ∧ 0 ≤ p1.toInt ∧ p1.toInt < 30)) → (cel (vw (G.2.1 (F a 0))) (p0.toInt) (p1.toInt) 0) = -2000)
    (t3 : (x3.toInt = 1 ∧ (cel (vw (G.2.1 (F a 0))) (p0.toInt) (p1.toInt) 0) ≠ -2000) ∨ (x3.toInt = 0 ∧ (cel (vw (G.2.1 (F a 0))) (p0.toInt) (p1.toInt) 0) = -2000))
    (c6 : ¬ (x3.toInt = 0))
    (t10 : (x10.toInt = 1 ∧ 0 ≤ p2.toInt ∧ p2.toInt < 3) ∨ (x10.toInt = 0 ∧ (p2.toInt < 0 ∨ 3 ≤ p2.toInt)))
    (c13 : ¬ (x10.toInt = 0))
    (t22 : 0 ≤ p0.toInt ∧ p0.toInt < 3 ∧ 0 ≤ p2.toInt ∧ p2.toInt < 3 → x22.toInt = 90 * p0.toInt + 30 * p2.toInt)
    (t26 : x26.toInt = x22.toInt + p1.toInt ∨ x22.toInt + p1.toInt < -2147483648 ∨ 2147483648 ≤ x22.toInt + p1.toInt) :
    (vw (G29.2.1 (F a 0))) = if cel (vw (G.2.1 (F a 0))) (p0.toInt) (p1.toInt) 0 ≠ -2000 then rset (vw (G.2.1 (F a 0))) (90 * (p0.toInt) + 30 * (p2.toInt) + (p1.toInt)) (p3.toInt) else (vw (G.2.1 (F a 0))) := by
  first | (exfalso; omega) | skip
  all_goals (
    first
      | (rw [if_neg (show ¬ (_ ≠ _) by omega)]; done)
      | (have e1 : G29.2.1 (F a 0) = upd (G.2.1 (F a 0)) x26.toNatClampNeg p3 := by rw [hG29]; show up2 _ _ _ _ _ = _; rw [up2_r, upr_at]
         rw [if_pos (show _ ≠ _ by omega), vw_upd e1 (I := 90 * p0.toInt + 30 * p2.toInt + p1.toInt) (by omega) rfl (by omega)]))
theorem v_X6_change_30_7 {K : Nat → Nat} {F : Nat → Nat → Nat} (a : Nat) (G29 : XG) (G : XG) (x26 : Int32) (p3 : Int32) (p2 : Int32) (p0 : Int32) (p1 : Int32) (x3 : Int32) (x10 : Int32) (x22 : Int32)
    (ha : K a = 8)
    (hG29 : G29 = cput G (F a 0) x26.toNatClampNeg p3)
    (hro : RO (vw (G.2.1 (F a 0))) (aI (G.2.1 (F a 1))))
    (e0 : 0 ≤ p2.toInt ∧ p2.toInt < 3)
    (e1 : p3.toInt = -1000 ∨ (-99 ≤ p3.toInt ∧ p3.toInt ≤ 99))
    (z0 : (¬ (0 ≤ p0.toInt ∧ p0.toInt < 3 ∧ 0 ≤ p1.toInt ∧ p1.toInt < 30)) → (cel (vw (G.2.1 (F a 0))) (p0.toInt) (p1.toInt) 0) = -2000)
    (t3 : (x3.toInt = 1 ∧ (cel (vw (G.2.1 (F a 0))) (p0.toInt) (p1.toInt) 0) ≠ -2000) ∨ (x3.toInt = 0 ∧ (cel (vw (G.2.1 (F a 0))) (p0.toInt) (p1.toInt) 0) = -2000))
    (c6 : ¬ (x3.toInt = 0))
    (t10 : (x10.toInt = 1 ∧ 0 ≤ p2.toInt ∧ p2.toInt < 3) ∨ (x10.toInt = 0 ∧ (p2.toInt < 0 ∨ 3 ≤ p2.toInt)))
    (c13 : ¬ (x10.toInt = 0))
    (t22 : 0 ≤ p0.toInt ∧ p0.toInt < 3 ∧ 0 ≤ p2.toInt ∧ p2.toInt < 3 → x22.toInt = 90 * p0.toInt + 30 * p2.toInt)
    (t26 : x26.toInt = x22.toInt + p1.toInt ∨ x22.toInt + p1.toInt < -2147483648 ∨ 2147483648 ≤ x22.toInt + p1.toInt)
    (c_G29_F_a_1 : G29.2.1 (F a 1) = G.2.1 (F a 1)) :
    RO (vw (G29.2.1 (F a 0))) (aI (G29.2.1 (F a 1))) := by
  first | (exfalso; omega) | skip
  all_goals (
    first
      | exact hro
      | (have e1 : G29.2.1 (F a 0) = upd (G.2.1 (F a 0)) x26.toNatClampNeg p3 := by rw [hG29]; show up2 _ _ _ _ _ = _; rw [up2_r, upr_at]
         rw [vw_upd e1 (I := 90 * p0.toInt + 30 * p2.toInt + p1.toInt) (by omega) rfl (by omega), c_G29_F_a_1]
         exact hro.set (by omega) (by omega) (by unfold okv; omega) (by omega)))
