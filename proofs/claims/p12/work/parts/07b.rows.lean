section XR
variable {p : Program} {l : Launch} {e : Env} {R : Room} {s : State} {m : MethodId} {args : Array Value} {below : List Frame} {meth : Method} {c : Code} {H : Heap} {locs : List Loc} {cells slots : Nat} {Q : State → Prop}
variable {pc : Nat} {ls : Array Slot} {rest : List Value} {H0 : Heap} {E : XE} {cc : ByteArray} {nL : Nat} {own : String} {w0 : Cond} {K : Nat → Nat} {F : Nat → Nat → Nat} {G : XG} {a idx : Nat}
theorem aI_upd {f : Nat → Int32} {i x : Int32} (hi : 0 ≤ i.toInt) : ∀ z : Int, 0 ≤ z → aI (upd f i.toNatClampNeg x) z = if z = i.toInt then x.toInt else aI f z := by
  intro z hz
  have h : i.toNatClampNeg = i.toInt.toNat := rfl
  unfold aI upd
  rw [h]
  by_cases e : z = i.toInt
  · rw [if_pos e, if_pos (by rw [e])]
  · rw [if_neg e, if_neg (by omega)]
theorem al_0 {k n : Nat} (S : CallFix p m c cc nL s args (w0 :: GT) own) (hK : XK E s) (hT : TW E K F G H) (ha : K a = k) (hk : ∀ e, SHQ E K F G a k e → e = .inl (E.2.1 0, n, .inl (G.2.1 a)) ∧ ∀ i, xok 0 (G.2.1 a i)) (hk0 : k ≠ 0) {i : Int32} (hin : 0 ≤ i.toInt ∧ i.toInt < n) (hdg : decode cc pc = .ok (.iaload, 1)) (kk : ∀ v : Int32, v.toInt = aI (G.2.1 a) i.toInt → xok 0 v → W p l e R s m args below meth c H locs cells slots Q (F0 m (pc + 1) ls (.int v :: rest))) : W p l e R s m args below meth c H locs cells slots Q (F0 m pc ls (.int i :: .ref a :: rest)) := by
  obtain ⟨ws, i9, e9, hw, hP, hD, he, hs⟩ := hT.at ha hk0
  obtain ⟨rfl, ho⟩ := hk _ hs
  exact va_iald S.1 S.2.1 hK.1 hP i9 0 he rfl (vp_in_iff.mpr hin) hdg (kk _ rfl (ho _))
theorem al_1 {k n : Nat} (S : CallFix p m c cc nL s args (w0 :: GT) own) (hK : XK E s) (hT : TW E K F G H) (ha : K a = k) (hk : ∀ e, SHQ E K F G a k e → e = .inl (E.2.1 1, n, .inl (G.2.1 a)) ∧ ∀ i, xok 1 (G.2.1 a i)) (hk0 : k ≠ 0) {i : Int32} (hin : 0 ≤ i.toInt ∧ i.toInt < n) (hdg : decode cc pc = .ok (.caload, 1)) (kk : ∀ v : Int32, v.toInt = aI (G.2.1 a) i.toInt → xok 1 v → W p l e R s m args below meth c H locs cells slots Q (F0 m (pc + 1) ls (.int v :: rest))) : W p l e R s m args below meth c H locs cells slots Q (F0 m pc ls (.int i :: .ref a :: rest)) := by
  obtain ⟨ws, i9, e9, hw, hP, hD, he, hs⟩ := hT.at ha hk0
  obtain ⟨rfl, ho⟩ := hk _ hs
  exact va_cald S.1 S.2.1 hK.1 hP i9 1 he rfl (vp_in_iff.mpr hin) hdg (kk _ rfl (ho _))
theorem al_2 {k n : Nat} (S : CallFix p m c cc nL s args (w0 :: GT) own) (hK : XK E s) (hT : TW E K F G H) (ha : K a = k) (hk : ∀ e, SHQ E K F G a k e → e = .inl (E.2.1 2, n, .inl (G.2.1 a)) ∧ ∀ i, xok 2 (G.2.1 a i)) (hk0 : k ≠ 0) {i : Int32} (hin : 0 ≤ i.toInt ∧ i.toInt < n) (hdg : decode cc pc = .ok (.baload, 1)) (kk : ∀ v : Int32, v.toInt = aI (G.2.1 a) i.toInt → xok 2 v → W p l e R s m args below meth c H locs cells slots Q (F0 m (pc + 1) ls (.int v :: rest))) : W p l e R s m args below meth c H locs cells slots Q (F0 m pc ls (.int i :: .ref a :: rest)) := by
  obtain ⟨ws, i9, e9, hw, hP, hD, he, hs⟩ := hT.at ha hk0
  obtain ⟨rfl, ho⟩ := hk _ hs
  exact va_bald S.1 S.2.1 hK.1 hP i9 2 he rfl (vp_in_iff.mpr hin) hdg (kk _ rfl (ho _))
theorem al_3 {k n : Nat} (S : CallFix p m c cc nL s args (w0 :: GT) own) (hK : XK E s) (hT : TW E K F G H) (ha : K a = k) (hk : ∀ e, SHQ E K F G a k e → e = .inl (E.2.1 3, n, .inl (G.2.1 a)) ∧ ∀ i, xok 3 (G.2.1 a i)) (hk0 : k ≠ 0) {i : Int32} (hin : 0 ≤ i.toInt ∧ i.toInt < n) (hdg : decode cc pc = .ok (.baload, 1)) (kk : ∀ v : Int32, v.toInt = aI (G.2.1 a) i.toInt → xok 3 v → W p l e R s m args below meth c H locs cells slots Q (F0 m (pc + 1) ls (.int v :: rest))) : W p l e R s m args below meth c H locs cells slots Q (F0 m pc ls (.int i :: .ref a :: rest)) := by
  obtain ⟨ws, i9, e9, hw, hP, hD, he, hs⟩ := hT.at ha hk0
  obtain ⟨rfl, ho⟩ := hk _ hs
  exact va_zald S.1 S.2.1 hK.1 hP i9 3 he rfl (vp_in_iff.mpr hin) hdg (kk _ rfl (ho _))
set_option maxRecDepth 100000 in
theorem as_0 {k n : Nat} (S : CallFix p m c cc nL s args (w0 :: GT) own) (hK : XK E s) (hT : TW E K F G H) (hS : va_S (xA E) H0 H locs) (ha : K a = k) (hk : ∀ e, SHQ E K F G a k e → e = .inl (E.2.1 0, n, .inl (G.2.1 a)) ∧ ∀ i, xok 0 (G.2.1 a i)) (hk2 : ∀ G' : XG, (∀ i, xok 0 (G'.2.1 a i)) → SHQ E K F G' a k (.inl (E.2.1 0, n, .inl (G'.2.1 a)))) (hk0 : k ≠ 0) {i x : Int32} (hin : 0 ≤ i.toInt ∧ i.toInt < n) (hdg : decode cc pc = .ok (.iastore, 1)) (kk : ∀ (H1 : Heap) (locs1 : List Loc), TW E K F (cput G a i.toNatClampNeg x) H1 → va_S (xA E) H0 H1 locs1 → W p l e R s m args below meth c H1 locs1 cells slots Q (F0 m (pc + 1) ls rest)) : W p l e R s m args below meth c H locs cells slots Q (F0 m pc ls (.int x :: .int i :: .ref a :: rest)) := by
  obtain ⟨ws, i9, e9, hw, hP, hD, he, hs⟩ := hT.at ha hk0
  obtain ⟨rfl, ho⟩ := hk _ hs
  have hg : (cput G a i.toNatClampNeg x).2.1 a = upd (G.2.1 a) i.toNatClampNeg x := by show up2 _ _ _ _ _ = _; rw [up2_r, upr_at]
  have hq := hk2 (cput G a i.toNatClampNeg x) (fun _ => trivial)
  rw [hg] at hq
  exact va_iast S.1 S.2.1 hK.1 hP hD hS i9 0 he rfl (vp_in_iff.mpr hin) hdg (fun H1 locs1 hP1 hD1 hS1 => kk H1 locs1 ⟨_, hw.set he (by rw [ha]; exact hk0) XGa.c (by rw [ha]; exact hq), hP1, hD1⟩ hS1)
theorem as_1 {k n : Nat} (S : CallFix p m c cc nL s args (w0 :: GT) own) (hK : XK E s) (hT : TW E K F G H) (hS : va_S (xA E) H0 H locs) (ha : K a = k) (hk : ∀ e, SHQ E K F G a k e → e = .inl (E.2.1 1, n, .inl (G.2.1 a)) ∧ ∀ i, xok 1 (G.2.1 a i)) (hk2 : ∀ G' : XG, (∀ i, xok 1 (G'.2.1 a i)) → SHQ E K F G' a k (.inl (E.2.1 1, n, .inl (G'.2.1 a)))) (hk0 : k ≠ 0) {i x : Int32} (hin : 0 ≤ i.toInt ∧ i.toInt < n) (hdg : decode cc pc = .ok (.castore, 1)) (kk : ∀ (H1 : Heap) (locs1 : List Loc), TW E K F (cput G a i.toNatClampNeg (vp_nar .char x)) H1 → va_S (xA E) H0 H1 locs1 → W p l e R s m args below meth c H1 locs1 cells slots Q (F0 m (pc + 1) ls rest)) : W p l e R s m args below meth c H locs cells slots Q (F0 m pc ls (.int x :: .int i :: .ref a :: rest)) := by
  obtain ⟨ws, i9, e9, hw, hP, hD, he, hs⟩ := hT.at ha hk0
  obtain ⟨rfl, ho⟩ := hk _ hs
  have hg : (cput G a i.toNatClampNeg (vp_nar .char x)).2.1 a = upd (G.2.1 a) i.toNatClampNeg (vp_nar .char x) := by show up2 _ _ _ _ _ = _; rw [up2_r, upr_at]
  have hq := hk2 (cput G a i.toNatClampNeg (vp_nar .char x)) (by rw [hg]; intro q; unfold upd; split <;> first | exact ho q | exact xok_c x)
  rw [hg] at hq
  exact va_cast S.1 S.2.1 hK.1 hP hD hS i9 1 he rfl (vp_in_iff.mpr hin) hdg (fun H1 locs1 hP1 hD1 hS1 => kk H1 locs1 ⟨_, hw.set he (by rw [ha]; exact hk0) XGa.c (by rw [ha]; exact hq), hP1, hD1⟩ hS1)
theorem as_2 {k n : Nat} (S : CallFix p m c cc nL s args (w0 :: GT) own) (hK : XK E s) (hT : TW E K F G H) (hS : va_S (xA E) H0 H locs) (ha : K a = k) (hk : ∀ e, SHQ E K F G a k e → e = .inl (E.2.1 2, n, .inl (G.2.1 a)) ∧ ∀ i, xok 2 (G.2.1 a i)) (hk2 : ∀ G' : XG, (∀ i, xok 2 (G'.2.1 a i)) → SHQ E K F G' a k (.inl (E.2.1 2, n, .inl (G'.2.1 a)))) (hk0 : k ≠ 0) {i x : Int32} (hin : 0 ≤ i.toInt ∧ i.toInt < n) (hdg : decode cc pc = .ok (.bastore, 1)) (kk : ∀ (H1 : Heap) (locs1 : List Loc), TW E K F (cput G a i.toNatClampNeg (vp_nar .byte x)) H1 → va_S (xA E) H0 H1 locs1 → W p l e R s m args below meth c H1 locs1 cells slots Q (F0 m (pc + 1) ls rest)) : W p l e R s m args below meth c H locs cells slots Q (F0 m pc ls (.int x :: .int i :: .ref a :: rest)) := by
  obtain ⟨ws, i9, e9, hw, hP, hD, he, hs⟩ := hT.at ha hk0
  obtain ⟨rfl, ho⟩ := hk _ hs
  have hg : (cput G a i.toNatClampNeg (vp_nar .byte x)).2.1 a = upd (G.2.1 a) i.toNatClampNeg (vp_nar .byte x) := by show up2 _ _ _ _ _ = _; rw [up2_r, upr_at]
  have hq := hk2 (cput G a i.toNatClampNeg (vp_nar .byte x)) (by rw [hg]; intro q; unfold upd; split <;> first | exact ho q | exact xok_b x)
  rw [hg] at hq
  exact va_bast S.1 S.2.1 hK.1 hP hD hS i9 2 he rfl (vp_in_iff.mpr hin) hdg (fun H1 locs1 hP1 hD1 hS1 => kk H1 locs1 ⟨_, hw.set he (by rw [ha]; exact hk0) XGa.c (by rw [ha]; exact hq), hP1, hD1⟩ hS1)
theorem as_3 {k n : Nat} (S : CallFix p m c cc nL s args (w0 :: GT) own) (hK : XK E s) (hT : TW E K F G H) (hS : va_S (xA E) H0 H locs) (ha : K a = k) (hk : ∀ e, SHQ E K F G a k e → e = .inl (E.2.1 3, n, .inl (G.2.1 a)) ∧ ∀ i, xok 3 (G.2.1 a i)) (hk2 : ∀ G' : XG, (∀ i, xok 3 (G'.2.1 a i)) → SHQ E K F G' a k (.inl (E.2.1 3, n, .inl (G'.2.1 a)))) (hk0 : k ≠ 0) {i x : Int32} (hin : 0 ≤ i.toInt ∧ i.toInt < n) (hdg : decode cc pc = .ok (.bastore, 1)) (kk : ∀ (H1 : Heap) (locs1 : List Loc), TW E K F (cput G a i.toNatClampNeg (vp_nar .boolean x)) H1 → va_S (xA E) H0 H1 locs1 → W p l e R s m args below meth c H1 locs1 cells slots Q (F0 m (pc + 1) ls rest)) : W p l e R s m args below meth c H locs cells slots Q (F0 m pc ls (.int x :: .int i :: .ref a :: rest)) := by
  obtain ⟨ws, i9, e9, hw, hP, hD, he, hs⟩ := hT.at ha hk0
  obtain ⟨rfl, ho⟩ := hk _ hs
  have hg : (cput G a i.toNatClampNeg (vp_nar .boolean x)).2.1 a = upd (G.2.1 a) i.toNatClampNeg (vp_nar .boolean x) := by show up2 _ _ _ _ _ = _; rw [up2_r, upr_at]
  have hq := hk2 (cput G a i.toNatClampNeg (vp_nar .boolean x)) (by rw [hg]; intro q; unfold upd; split <;> first | exact ho q | exact xok_z x)
  rw [hg] at hq
  exact va_zast S.1 S.2.1 hK.1 hP hD hS i9 3 he rfl (vp_in_iff.mpr hin) hdg (fun H1 locs1 hP1 hD1 hS1 => kk H1 locs1 ⟨_, hw.set he (by rw [ha]; exact hk0) XGa.c (by rw [ha]; exact hq), hP1, hD1⟩ hS1)
theorem al_15 (S : CallFix p m c cc nL s args (w0 :: GT) own) (hK : XK E s) (hT : TW E K F G H) (ha : K a = 15) {i : Int32} (hin : 0 ≤ i.toInt ∧ i.toInt < 12) (hdg : decode cc pc = .ok (.aaload, 1)) (kn : G.2.2.1 a i.toInt.toNat = none → W p l e R s m args below meth c H locs cells slots Q (F0 m (pc + 1) ls (.null :: rest))) (kk : ∀ r : Nat, G.2.2.1 a i.toInt.toNat = some r → K r = 9 → W p l e R s m args below meth c H locs cells slots Q (F0 m (pc + 1) ls (.ref r :: rest))) : W p l e R s m args below meth c H locs cells slots Q (F0 m pc ls (.int i :: .ref a :: rest)) := by
  obtain ⟨ws, i9, e9, hw, hP, hD, he, hs⟩ := hT.at ha (by decide)
  obtain ⟨rfl, ho⟩ := hs
  refine va_aldq S.1 S.2.1 hK.1 hP i9 4 he rfl (vp_in_iff.mpr hin) hdg ?_
  cases hf : G.2.2.1 a i.toNatClampNeg with
  | none => exact kn hf
  | some r => exact kk r hf (ho _ r hf)
theorem al_16 (S : CallFix p m c cc nL s args (w0 :: GT) own) (hK : XK E s) (hT : TW E K F G H) (ha : K a = 16) {i : Int32} (hin : 0 ≤ i.toInt ∧ i.toInt < 8) (hdg : decode cc pc = .ok (.aaload, 1)) (kk : ∀ r : Nat, G.2.2.1 a i.toInt.toNat = some r → K r = 8 → F r 99 = 4 + i.toInt.toNat → W p l e R s m args below meth c H locs cells slots Q (F0 m (pc + 1) ls (.ref r :: rest))) : W p l e R s m args below meth c H locs cells slots Q (F0 m pc ls (.int i :: .ref a :: rest)) := by
  obtain ⟨ws, i9, e9, hw, hP, hD, he, hs⟩ := hT.at ha (by decide)
  obtain ⟨rfl, ho⟩ := hs
  have hb : i.toNatClampNeg < 8 := by
    have h : i.toNatClampNeg = i.toInt.toNat := rfl
    omega
  obtain ⟨r, hr, hk, hn⟩ := ho _ hb
  refine va_aldq S.1 S.2.1 hK.1 hP i9 5 he rfl (vp_in_iff.mpr hin) hdg ?_
  rw [hr]
  exact kk r hr hk hn
theorem as_15n (S : CallFix p m c cc nL s args (w0 :: GT) own) (hK : XK E s) (hT : TW E K F G H) (hS : va_S (xA E) H0 H locs) (ha : K a = 15) {i : Int32} (hin : 0 ≤ i.toInt ∧ i.toInt < 12) (hdg : decode cc pc = .ok (.aastore, 1)) (kk : ∀ (H1 : Heap) (locs1 : List Loc), TW E K F (rput G a i.toInt.toNat none) H1 → va_S (xA E) H0 H1 locs1 → W p l e R s m args below meth c H1 locs1 cells slots Q (F0 m (pc + 1) ls rest)) : W p l e R s m args below meth c H locs cells slots Q (F0 m pc ls (.null :: .int i :: .ref a :: rest)) := by
  obtain ⟨ws, i9, e9, hw, hP, hD, he, hs⟩ := hT.at ha (by decide)
  obtain ⟨rfl, ho⟩ := hs
  have hq : SHQ E K F (rput G a i.toInt.toNat none) a 15 (.inl (E.2.1 4, 12, .inr (.inr (.inr (.inr (va_up (G.2.2.1 a) i.toNatClampNeg none)))))) := by
    refine ⟨?_, fun q r hr => ?_⟩
    · have e : va_up (G.2.2.1 a) i.toNatClampNeg none = (rput G a i.toInt.toNat none).2.2.1 a := by
        funext j
        show va_up _ _ _ j = up2 _ _ _ _ _ j
        unfold va_up up2
        by_cases h : j = i.toNatClampNeg
        · rw [if_pos h, if_pos ⟨rfl, h⟩]
        · rw [if_neg h, if_neg (fun q => h q.2)]
      rw [e]
    · unfold rput up2 at hr
      simp only at hr
      split at hr
      · cases hr
      · exact ho q r hr
  exact va_astqN S.1 S.2.1 hK.1 hP hD hS i9 4 he rfl (vp_in_iff.mpr hin) hdg (fun H1 locs1 hP1 hD1 hS1 => kk H1 locs1 ⟨_, hw.set he (by rw [ha]; decide) XGa.r (by rw [ha]; exact hq), hP1, hD1⟩ hS1)
theorem as_15r (S : CallFix p m c cc nL s args (w0 :: GT) own) (hK : XK E s) (hT : TW E K F G H) (hS : va_S (xA E) H0 H locs) (ha : K a = 15) {r : Nat} (hr : K r = 9) {i : Int32} (hin : 0 ≤ i.toInt ∧ i.toInt < 12) (hdg : decode cc pc = .ok (.aastore, 1)) (kk : ∀ (H1 : Heap) (locs1 : List Loc), TW E K F (rput G a i.toInt.toNat (some r)) H1 → va_S (xA E) H0 H1 locs1 → W p l e R s m args below meth c H1 locs1 cells slots Q (F0 m (pc + 1) ls rest)) : W p l e R s m args below meth c H locs cells slots Q (F0 m pc ls (.ref r :: .int i :: .ref a :: rest)) := by
  obtain ⟨ws, i9, e9, hw, hP, hD, he, hs⟩ := hT.at ha (by decide)
  obtain ⟨rfl, ho⟩ := hs
  obtain ⟨i8, e8, he8, hs8⟩ := hw.1 r (by rw [hr]; decide)
  rw [hr] at hs8
  obtain ⟨rfl, -⟩ := hs8
  have hq : SHQ E K F (rput G a i.toInt.toNat (some r)) a 15 (.inl (E.2.1 4, 12, .inr (.inr (.inr (.inr (va_up (G.2.2.1 a) i.toNatClampNeg (some r))))))) := by
    refine ⟨?_, fun q z hz => ?_⟩
    · have e : va_up (G.2.2.1 a) i.toNatClampNeg (some r) = (rput G a i.toInt.toNat (some r)).2.2.1 a := by
        funext j
        show va_up _ _ _ j = up2 _ _ _ _ _ j
        unfold va_up up2
        by_cases h : j = i.toNatClampNeg
        · rw [if_pos h, if_pos ⟨rfl, h⟩]
        · rw [if_neg h, if_neg (fun q => h q.2)]
      rw [e]
    · unfold rput up2 at hz
      simp only at hz
      split at hz
      · cases hz
        exact hr
      · exact ho q z hz
  exact va_astq (r := (RX7, TX7, 10)) S.1 S.2.1 hK.1 hP hD hS i9 4 i8 8 he rfl he8 rfl (vp_in_iff.mpr hin) hdg (fun H1 locs1 hP1 hD1 hS1 => kk H1 locs1 ⟨_, hw.set he (by rw [ha]; decide) XGa.r (by rw [ha]; exact hq), hP1, hD1⟩ hS1)
theorem x_copy {k n : Nat} {b : Nat} (S : CallFix p m c cc nL s args (w0 :: GT) own) (hK : XK E s) (hT : TW E K F G H) (hS : va_S (xA E) H0 H locs) (hac : (Cond.native arraycopyName ∈ GT ∧ Cond.static arraycopyName ∈ GT) ∧ Cond.initialized "java/lang/System" ∈ GT) (hl : Cond.methodLink own idx arraycopyName ∈ GT) (ha : K a = k) (hb : K b = k) (hk : ∀ e, SHQ E K F G a k e → e = .inl (E.2.1 0, n, .inl (G.2.1 a)) ∧ ∀ i, xok 0 (G.2.1 a i)) (hk' : ∀ e, SHQ E K F G b k e → e = .inl (E.2.1 0, n, .inl (G.2.1 b)) ∧ ∀ i, xok 0 (G.2.1 b i)) (hk2 : ∀ G' : XG, (∀ i, xok 0 (G'.2.1 b i)) → SHQ E K F G' b k (.inl (E.2.1 0, n, .inl (G'.2.1 b)))) (hk0 : k ≠ 0) {sp dp z : Int32} (h1 : ¬ sp < 0) (h2 : ¬ dp < 0) (h3 : ¬ z < 0) (h4 : sp.toNatClampNeg + z.toNatClampNeg ≤ n) (h5 : dp.toNatClampNeg + z.toNatClampNeg ≤ n) (hls : ls.size = nL) (hfr : 1 ≤ R.frames) (hlo : (rest.map fun v => v.category).sum + (nativeFrameWords "java/lang/System" "arraycopy" 5 + 11) ≤ R.locals) (hdg : decode cc pc = .ok (.invokestatic idx, 3)) (kk : ∀ (H1 : Heap) (locs1 : List Loc), TW E K F (ccopy G b (va_cpy (G.2.1 a) (G.2.1 b) sp.toNatClampNeg dp.toNatClampNeg z.toNatClampNeg)) H1 → va_S (xA E) H0 H1 locs1 → W p l e R s m args below meth c H1 locs1 cells slots Q (F0 m (pc + 3) ls rest)) : W p l e R s m args below meth c H locs cells slots Q (F0 m pc ls (.int z :: .int dp :: .ref b :: .int sp :: .ref a :: rest)) := by
  obtain ⟨ws, i9, e9, hw, hP, hD, he, hs⟩ := hT.at ha hk0
  obtain ⟨rfl, ho⟩ := hk _ hs
  obtain ⟨i8, e8, he8, hs8⟩ := hw.1 b (by rw [hb]; exact hk0)
  rw [hb] at hs8
  obtain ⟨rfl, ho8⟩ := hk' _ hs8
  have hg : (ccopy G b (va_cpy (G.2.1 a) (G.2.1 b) sp.toNatClampNeg dp.toNatClampNeg z.toNatClampNeg)).2.1 b = va_cpy (G.2.1 a) (G.2.1 b) sp.toNatClampNeg dp.toNatClampNeg z.toNatClampNeg := by show upr _ _ _ _ = _; rw [upr_at]
  have hq := hk2 (ccopy G b (va_cpy (G.2.1 a) (G.2.1 b) sp.toNatClampNeg dp.toNatClampNeg z.toNatClampNeg)) (fun _ => trivial)
  rw [hg] at hq
  exact va_copyi (ty := .int) S.1 S.2.1 (S.2.2.1.trans hls.symm) S.2.2.2.1 (S.2.2.2.2 _ (List.mem_cons_of_mem _ hl)) (S.2.2.2.2 _ (List.mem_cons_of_mem _ hac.1.1)) (S.2.2.2.2 _ (List.mem_cons_of_mem _ hac.1.2)) (S.2.2.2.2 _ (List.mem_cons_of_mem _ hac.2)) hK.1 hP hD hS i9 i8 0 0 he he8 rfl rfl rfl h1 h2 h3 h4 h5 (fun _ _ => rfl) hfr hlo hdg (fun H1 locs1 hP1 hD1 hS1 => kk H1 locs1 ⟨_, hw.set he8 (by rw [hb]; exact hk0) XGa.cc (by rw [hb]; exact hq), hP1, hD1⟩ hS1)
theorem x_alen {k n tc : Nat} {ty : FieldType} (S : CallFix p m c cc nL s args (w0 :: GT) own) (hK : XK E s) (hT : TW E K F G H) (ha : K a = k) (hk : ∀ e, SHQ E K F G a k e → e = .inl (E.2.1 tc, n, .inl (G.2.1 a)) ∧ ∀ i, xok tc (G.2.1 a i)) (hk0 : k ≠ 0) (hty : (xty E.2.1)[tc]? = some (E.2.1 tc, ty)) (hdg : decode cc pc = .ok (.arraylength, 1)) (kk : W p l e R s m args below meth c H locs cells slots Q (F0 m (pc + 1) ls (.int (Int32.ofNat n) :: rest))) : W p l e R s m args below meth c H locs cells slots Q (F0 m pc ls (.ref a :: rest)) := by
  obtain ⟨ws, i9, e9, hw, hP, hD, he, hs⟩ := hT.at ha hk0
  obtain ⟨rfl, ho⟩ := hk _ hs
  exact va_alen S.1 S.2.1 hK.1 hP i9 tc he hty rfl hdg kk
theorem x_recv {k ci : Nat} {q : vw_C} (hK : XK E s) (hT : TW E K F G H) (ha : K a = k) (hk0 : k ≠ 0) (hk : ∀ e, SHQ E K F G a k e → ∃ fs : List Value, e = .inr (ci, fs)) (hc : vwCl[ci]? = some q) : ∃ cell : Cell, H[a]? = some cell ∧ cell.vm.isStatics = false ∧ s.vm.findClass q.1 = some cell.cls := by
  obtain ⟨ws, i9, e9, hw, hP, hD, he, hs⟩ := hT.at ha hk0
  obtain ⟨fs, rfl⟩ := hk _ hs
  exact va_recv hK.1 hP hc he
theorem ar_20 : ∀ e, SHQ E K F G a 20 e → e = .inl (E.2.1 0, 270, .inl (G.2.1 a)) ∧ ∀ i, xok 0 (G.2.1 a i) := by
  rintro e ⟨tc, n, h1, h2, h3⟩
  cases h1
  exact ⟨h2, h3⟩
theorem aw_20 : ∀ G' : XG, (∀ i, xok 0 (G'.2.1 a i)) → SHQ E K F G' a 20 (.inl (E.2.1 0, 270, .inl (G'.2.1 a))) := fun G' h => ⟨0, 270, rfl, rfl, h⟩
theorem ar_21 : ∀ e, SHQ E K F G a 21 e → e = .inl (E.2.1 0, 3, .inl (G.2.1 a)) ∧ ∀ i, xok 0 (G.2.1 a i) := by
  rintro e ⟨tc, n, h1, h2, h3⟩
  cases h1
  exact ⟨h2, h3⟩
theorem aw_21 : ∀ G' : XG, (∀ i, xok 0 (G'.2.1 a i)) → SHQ E K F G' a 21 (.inl (E.2.1 0, 3, .inl (G'.2.1 a))) := fun G' h => ⟨0, 3, rfl, rfl, h⟩
theorem ar_22 : ∀ e, SHQ E K F G a 22 e → e = .inl (E.2.1 0, 1080, .inl (G.2.1 a)) ∧ ∀ i, xok 0 (G.2.1 a i) := by
  rintro e ⟨tc, n, h1, h2, h3⟩
  cases h1
  exact ⟨h2, h3⟩
theorem aw_22 : ∀ G' : XG, (∀ i, xok 0 (G'.2.1 a i)) → SHQ E K F G' a 22 (.inl (E.2.1 0, 1080, .inl (G'.2.1 a))) := fun G' h => ⟨0, 1080, rfl, rfl, h⟩
theorem ar_23 : ∀ e, SHQ E K F G a 23 e → e = .inl (E.2.1 3, 1080, .inl (G.2.1 a)) ∧ ∀ i, xok 3 (G.2.1 a i) := by
  rintro e ⟨tc, n, h1, h2, h3⟩
  cases h1
  exact ⟨h2, h3⟩
theorem aw_23 : ∀ G' : XG, (∀ i, xok 3 (G'.2.1 a i)) → SHQ E K F G' a 23 (.inl (E.2.1 3, 1080, .inl (G'.2.1 a))) := fun G' h => ⟨3, 1080, rfl, rfl, h⟩
theorem ar_24 : ∀ e, SHQ E K F G a 24 e → e = .inl (E.2.1 0, 90, .inl (G.2.1 a)) ∧ ∀ i, xok 0 (G.2.1 a i) := by
  rintro e ⟨tc, n, h1, h2, h3⟩
  cases h1
  exact ⟨h2, h3⟩
theorem aw_24 : ∀ G' : XG, (∀ i, xok 0 (G'.2.1 a i)) → SHQ E K F G' a 24 (.inl (E.2.1 0, 90, .inl (G'.2.1 a))) := fun G' h => ⟨0, 90, rfl, rfl, h⟩
theorem ar_25 : ∀ e, SHQ E K F G a 25 e → e = .inl (E.2.1 1, 80, .inl (G.2.1 a)) ∧ ∀ i, xok 1 (G.2.1 a i) := by
  rintro e ⟨tc, n, h1, h2, h3⟩
  cases h1
  exact ⟨h2, h3⟩
theorem aw_25 : ∀ G' : XG, (∀ i, xok 1 (G'.2.1 a i)) → SHQ E K F G' a 25 (.inl (E.2.1 1, 80, .inl (G'.2.1 a))) := fun G' h => ⟨1, 80, rfl, rfl, h⟩
theorem ar_26 : ∀ e, SHQ E K F G a 26 e → e = .inl (E.2.1 0, 6, .inl (G.2.1 a)) ∧ ∀ i, xok 0 (G.2.1 a i) := by
  rintro e ⟨tc, n, h1, h2, h3⟩
  cases h1
  exact ⟨h2, h3⟩
theorem aw_26 : ∀ G' : XG, (∀ i, xok 0 (G'.2.1 a i)) → SHQ E K F G' a 26 (.inl (E.2.1 0, 6, .inl (G'.2.1 a))) := fun G' h => ⟨0, 6, rfl, rfl, h⟩
theorem ar_27 : ∀ e, SHQ E K F G a 27 e → e = .inl (E.2.1 0, 4, .inl (G.2.1 a)) ∧ ∀ i, xok 0 (G.2.1 a i) := by
  rintro e ⟨tc, n, h1, h2, h3⟩
  cases h1
  exact ⟨h2, h3⟩
theorem aw_27 : ∀ G' : XG, (∀ i, xok 0 (G'.2.1 a i)) → SHQ E K F G' a 27 (.inl (E.2.1 0, 4, .inl (G'.2.1 a))) := fun G' h => ⟨0, 4, rfl, rfl, h⟩
theorem ar_30 : ∀ e, SHQ E K F G a 30 e → e = .inl (E.2.1 0, 360, .inl (G.2.1 a)) ∧ ∀ i, xok 0 (G.2.1 a i) := by
  rintro e ⟨tc, n, h1, h2, h3⟩
  cases h1
  exact ⟨h2, h3⟩
theorem aw_30 : ∀ G' : XG, (∀ i, xok 0 (G'.2.1 a i)) → SHQ E K F G' a 30 (.inl (E.2.1 0, 360, .inl (G'.2.1 a))) := fun G' h => ⟨0, 360, rfl, rfl, h⟩
theorem ar_31 : ∀ e, SHQ E K F G a 31 e → e = .inl (E.2.1 0, 360, .inl (G.2.1 a)) ∧ ∀ i, xok 0 (G.2.1 a i) := by
  rintro e ⟨tc, n, h1, h2, h3⟩
  cases h1
  exact ⟨h2, h3⟩
theorem aw_31 : ∀ G' : XG, (∀ i, xok 0 (G'.2.1 a i)) → SHQ E K F G' a 31 (.inl (E.2.1 0, 360, .inl (G'.2.1 a))) := fun G' h => ⟨0, 360, rfl, rfl, h⟩
theorem ar_32 : ∀ e, SHQ E K F G a 32 e → e = .inl (E.2.1 0, 2880, .inl (G.2.1 a)) ∧ ∀ i, xok 0 (G.2.1 a i) := by
  rintro e ⟨tc, n, h1, h2, h3⟩
  cases h1
  exact ⟨h2, h3⟩
theorem aw_32 : ∀ G' : XG, (∀ i, xok 0 (G'.2.1 a i)) → SHQ E K F G' a 32 (.inl (E.2.1 0, 2880, .inl (G'.2.1 a))) := fun G' h => ⟨0, 2880, rfl, rfl, h⟩
theorem ar_33 : ∀ e, SHQ E K F G a 33 e → e = .inl (E.2.1 0, 360, .inl (G.2.1 a)) ∧ ∀ i, xok 0 (G.2.1 a i) := by
  rintro e ⟨tc, n, h1, h2, h3⟩
  cases h1
  exact ⟨h2, h3⟩
theorem aw_33 : ∀ G' : XG, (∀ i, xok 0 (G'.2.1 a i)) → SHQ E K F G' a 33 (.inl (E.2.1 0, 360, .inl (G'.2.1 a))) := fun G' h => ⟨0, 360, rfl, rfl, h⟩
theorem ar_34 : ∀ e, SHQ E K F G a 34 e → e = .inl (E.2.1 0, 360, .inl (G.2.1 a)) ∧ ∀ i, xok 0 (G.2.1 a i) := by
  rintro e ⟨tc, n, h1, h2, h3⟩
  cases h1
  exact ⟨h2, h3⟩
theorem aw_34 : ∀ G' : XG, (∀ i, xok 0 (G'.2.1 a i)) → SHQ E K F G' a 34 (.inl (E.2.1 0, 360, .inl (G'.2.1 a))) := fun G' h => ⟨0, 360, rfl, rfl, h⟩
theorem ar_35 : ∀ e, SHQ E K F G a 35 e → e = .inl (E.2.1 0, 6, .inl (G.2.1 a)) ∧ ∀ i, xok 0 (G.2.1 a i) := by
  rintro e ⟨tc, n, h1, h2, h3⟩
  cases h1
  exact ⟨h2, h3⟩
theorem aw_35 : ∀ G' : XG, (∀ i, xok 0 (G'.2.1 a i)) → SHQ E K F G' a 35 (.inl (E.2.1 0, 6, .inl (G'.2.1 a))) := fun G' h => ⟨0, 6, rfl, rfl, h⟩
theorem ar_36 : ∀ e, SHQ E K F G a 36 e → e = .inl (E.2.1 0, 4, .inl (G.2.1 a)) ∧ ∀ i, xok 0 (G.2.1 a i) := by
  rintro e ⟨tc, n, h1, h2, h3⟩
  cases h1
  exact ⟨h2, h3⟩
theorem aw_36 : ∀ G' : XG, (∀ i, xok 0 (G'.2.1 a i)) → SHQ E K F G' a 36 (.inl (E.2.1 0, 4, .inl (G'.2.1 a))) := fun G' h => ⟨0, 4, rfl, rfl, h⟩
theorem ar_37 : ∀ e, SHQ E K F G a 37 e → e = .inl (E.2.1 0, 120, .inl (G.2.1 a)) ∧ ∀ i, xok 0 (G.2.1 a i) := by
  rintro e ⟨tc, n, h1, h2, h3⟩
  cases h1
  exact ⟨h2, h3⟩
theorem aw_37 : ∀ G' : XG, (∀ i, xok 0 (G'.2.1 a i)) → SHQ E K F G' a 37 (.inl (E.2.1 0, 120, .inl (G'.2.1 a))) := fun G' h => ⟨0, 120, rfl, rfl, h⟩
theorem ar_38 : ∀ e, SHQ E K F G a 38 e → e = .inl (E.2.1 0, 2388, .inl (G.2.1 a)) ∧ ∀ i, xok 0 (G.2.1 a i) := by
  rintro e ⟨tc, n, h1, h2, h3⟩
  cases h1
  exact ⟨h2, h3⟩
theorem aw_38 : ∀ G' : XG, (∀ i, xok 0 (G'.2.1 a i)) → SHQ E K F G' a 38 (.inl (E.2.1 0, 2388, .inl (G'.2.1 a))) := fun G' h => ⟨0, 2388, rfl, rfl, h⟩
theorem ar_39 : ∀ e, SHQ E K F G a 39 e → e = .inl (E.2.1 0, 2388, .inl (G.2.1 a)) ∧ ∀ i, xok 0 (G.2.1 a i) := by
  rintro e ⟨tc, n, h1, h2, h3⟩
  cases h1
  exact ⟨h2, h3⟩
theorem aw_39 : ∀ G' : XG, (∀ i, xok 0 (G'.2.1 a i)) → SHQ E K F G' a 39 (.inl (E.2.1 0, 2388, .inl (G'.2.1 a))) := fun G' h => ⟨0, 2388, rfl, rfl, h⟩
theorem ar_40 : ∀ e, SHQ E K F G a 40 e → e = .inl (E.2.1 0, 2388, .inl (G.2.1 a)) ∧ ∀ i, xok 0 (G.2.1 a i) := by
  rintro e ⟨tc, n, h1, h2, h3⟩
  cases h1
  exact ⟨h2, h3⟩
theorem aw_40 : ∀ G' : XG, (∀ i, xok 0 (G'.2.1 a i)) → SHQ E K F G' a 40 (.inl (E.2.1 0, 2388, .inl (G'.2.1 a))) := fun G' h => ⟨0, 2388, rfl, rfl, h⟩
theorem ar_41 : ∀ e, SHQ E K F G a 41 e → e = .inl (E.2.1 0, 2388, .inl (G.2.1 a)) ∧ ∀ i, xok 0 (G.2.1 a i) := by
  rintro e ⟨tc, n, h1, h2, h3⟩
  cases h1
  exact ⟨h2, h3⟩
theorem aw_41 : ∀ G' : XG, (∀ i, xok 0 (G'.2.1 a i)) → SHQ E K F G' a 41 (.inl (E.2.1 0, 2388, .inl (G'.2.1 a))) := fun G' h => ⟨0, 2388, rfl, rfl, h⟩
theorem ar_42 : ∀ e, SHQ E K F G a 42 e → e = .inl (E.2.1 0, 12, .inl (G.2.1 a)) ∧ ∀ i, xok 0 (G.2.1 a i) := by
  rintro e ⟨tc, n, h1, h2, h3⟩
  cases h1
  exact ⟨h2, h3⟩
theorem aw_42 : ∀ G' : XG, (∀ i, xok 0 (G'.2.1 a i)) → SHQ E K F G' a 42 (.inl (E.2.1 0, 12, .inl (G'.2.1 a))) := fun G' h => ⟨0, 12, rfl, rfl, h⟩
theorem ar_43 : ∀ e, SHQ E K F G a 43 e → e = .inl (E.2.1 0, 2400, .inl (G.2.1 a)) ∧ ∀ i, xok 0 (G.2.1 a i) := by
  rintro e ⟨tc, n, h1, h2, h3⟩
  cases h1
  exact ⟨h2, h3⟩
theorem aw_43 : ∀ G' : XG, (∀ i, xok 0 (G'.2.1 a i)) → SHQ E K F G' a 43 (.inl (E.2.1 0, 2400, .inl (G'.2.1 a))) := fun G' h => ⟨0, 2400, rfl, rfl, h⟩
theorem ar_44 : ∀ e, SHQ E K F G a 44 e → e = .inl (E.2.1 0, 2400, .inl (G.2.1 a)) ∧ ∀ i, xok 0 (G.2.1 a i) := by
  rintro e ⟨tc, n, h1, h2, h3⟩
  cases h1
  exact ⟨h2, h3⟩
theorem aw_44 : ∀ G' : XG, (∀ i, xok 0 (G'.2.1 a i)) → SHQ E K F G' a 44 (.inl (E.2.1 0, 2400, .inl (G'.2.1 a))) := fun G' h => ⟨0, 2400, rfl, rfl, h⟩
theorem ar_45 : ∀ e, SHQ E K F G a 45 e → e = .inl (E.2.1 2, 24, .inl (G.2.1 a)) ∧ ∀ i, xok 2 (G.2.1 a i) := by
  rintro e ⟨tc, n, h1, h2, h3⟩
  cases h1
  exact ⟨h2, h3⟩
theorem aw_45 : ∀ G' : XG, (∀ i, xok 2 (G'.2.1 a i)) → SHQ E K F G' a 45 (.inl (E.2.1 2, 24, .inl (G'.2.1 a))) := fun G' h => ⟨2, 24, rfl, rfl, h⟩
theorem ar_46 : ∀ e, SHQ E K F G a 46 e → e = .inl (E.2.1 1, 3, .inl (G.2.1 a)) ∧ ∀ i, xok 1 (G.2.1 a i) := by
  rintro e ⟨tc, n, h1, h2, h3⟩
  cases h1
  exact ⟨h2, h3⟩
theorem aw_46 : ∀ G' : XG, (∀ i, xok 1 (G'.2.1 a i)) → SHQ E K F G' a 46 (.inl (E.2.1 1, 3, .inl (G'.2.1 a))) := fun G' h => ⟨1, 3, rfl, rfl, h⟩
theorem ar_47 : ∀ e, SHQ E K F G a 47 e → e = .inl (E.2.1 1, 4, .inl (G.2.1 a)) ∧ ∀ i, xok 1 (G.2.1 a i) := by
  rintro e ⟨tc, n, h1, h2, h3⟩
  cases h1
  exact ⟨h2, h3⟩
theorem aw_47 : ∀ G' : XG, (∀ i, xok 1 (G'.2.1 a i)) → SHQ E K F G' a 47 (.inl (E.2.1 1, 4, .inl (G'.2.1 a))) := fun G' h => ⟨1, 4, rfl, rfl, h⟩
theorem ar_48 : ∀ e, SHQ E K F G a 48 e → e = .inl (E.2.1 1, 5, .inl (G.2.1 a)) ∧ ∀ i, xok 1 (G.2.1 a i) := by
  rintro e ⟨tc, n, h1, h2, h3⟩
  cases h1
  exact ⟨h2, h3⟩
theorem aw_48 : ∀ G' : XG, (∀ i, xok 1 (G'.2.1 a i)) → SHQ E K F G' a 48 (.inl (E.2.1 1, 5, .inl (G'.2.1 a))) := fun G' h => ⟨1, 5, rfl, rfl, h⟩
theorem ar_49 : ∀ e, SHQ E K F G a 49 e → e = .inl (E.2.1 1, 6, .inl (G.2.1 a)) ∧ ∀ i, xok 1 (G.2.1 a i) := by
  rintro e ⟨tc, n, h1, h2, h3⟩
  cases h1
  exact ⟨h2, h3⟩
theorem aw_49 : ∀ G' : XG, (∀ i, xok 1 (G'.2.1 a i)) → SHQ E K F G' a 49 (.inl (E.2.1 1, 6, .inl (G'.2.1 a))) := fun G' h => ⟨1, 6, rfl, rfl, h⟩
theorem ar_50 : ∀ e, SHQ E K F G a 50 e → e = .inl (E.2.1 1, 7, .inl (G.2.1 a)) ∧ ∀ i, xok 1 (G.2.1 a i) := by
  rintro e ⟨tc, n, h1, h2, h3⟩
  cases h1
  exact ⟨h2, h3⟩
theorem aw_50 : ∀ G' : XG, (∀ i, xok 1 (G'.2.1 a i)) → SHQ E K F G' a 50 (.inl (E.2.1 1, 7, .inl (G'.2.1 a))) := fun G' h => ⟨1, 7, rfl, rfl, h⟩
theorem ar_51 : ∀ e, SHQ E K F G a 51 e → e = .inl (E.2.1 2, 80, .inl (G.2.1 a)) ∧ ∀ i, xok 2 (G.2.1 a i) := by
  rintro e ⟨tc, n, h1, h2, h3⟩
  cases h1
  exact ⟨h2, h3⟩
theorem aw_51 : ∀ G' : XG, (∀ i, xok 2 (G'.2.1 a i)) → SHQ E K F G' a 51 (.inl (E.2.1 2, 80, .inl (G'.2.1 a))) := fun G' h => ⟨2, 80, rfl, rfl, h⟩
theorem ar_52 : ∀ e, SHQ E K F G a 52 e → e = .inl (E.2.1 0, 10, .inl (G.2.1 a)) ∧ ∀ i, xok 0 (G.2.1 a i) := by
  rintro e ⟨tc, n, h1, h2, h3⟩
  cases h1
  exact ⟨h2, h3⟩
theorem aw_52 : ∀ G' : XG, (∀ i, xok 0 (G'.2.1 a i)) → SHQ E K F G' a 52 (.inl (E.2.1 0, 10, .inl (G'.2.1 a))) := fun G' h => ⟨0, 10, rfl, rfl, h⟩
theorem ar_53 : ∀ e, SHQ E K F G a 53 e → e = .inl (E.2.1 0, 2400, .inl (G.2.1 a)) ∧ ∀ i, xok 0 (G.2.1 a i) := by
  rintro e ⟨tc, n, h1, h2, h3⟩
  cases h1
  exact ⟨h2, h3⟩
theorem aw_53 : ∀ G' : XG, (∀ i, xok 0 (G'.2.1 a i)) → SHQ E K F G' a 53 (.inl (E.2.1 0, 2400, .inl (G'.2.1 a))) := fun G' h => ⟨0, 2400, rfl, rfl, h⟩
theorem ar_54 : ∀ e, SHQ E K F G a 54 e → e = .inl (E.2.1 0, 2400, .inl (G.2.1 a)) ∧ ∀ i, xok 0 (G.2.1 a i) := by
  rintro e ⟨tc, n, h1, h2, h3⟩
  cases h1
  exact ⟨h2, h3⟩
theorem aw_54 : ∀ G' : XG, (∀ i, xok 0 (G'.2.1 a i)) → SHQ E K F G' a 54 (.inl (E.2.1 0, 2400, .inl (G'.2.1 a))) := fun G' h => ⟨0, 2400, rfl, rfl, h⟩
theorem ar_55 : ∀ e, SHQ E K F G a 55 e → e = .inl (E.2.1 0, 90, .inl (G.2.1 a)) ∧ ∀ i, xok 0 (G.2.1 a i) := by
  rintro e ⟨tc, n, h1, h2, h3⟩
  cases h1
  exact ⟨h2, h3⟩
theorem aw_55 : ∀ G' : XG, (∀ i, xok 0 (G'.2.1 a i)) → SHQ E K F G' a 55 (.inl (E.2.1 0, 90, .inl (G'.2.1 a))) := fun G' h => ⟨0, 90, rfl, rfl, h⟩
theorem ar_56 : ∀ e, SHQ E K F G a 56 e → e = .inl (E.2.1 0, 90, .inl (G.2.1 a)) ∧ ∀ i, xok 0 (G.2.1 a i) := by
  rintro e ⟨tc, n, h1, h2, h3⟩
  cases h1
  exact ⟨h2, h3⟩
theorem aw_56 : ∀ G' : XG, (∀ i, xok 0 (G'.2.1 a i)) → SHQ E K F G' a 56 (.inl (E.2.1 0, 90, .inl (G'.2.1 a))) := fun G' h => ⟨0, 90, rfl, rfl, h⟩
theorem ar_57 : ∀ e, SHQ E K F G a 57 e → e = .inl (E.2.1 0, 90, .inl (G.2.1 a)) ∧ ∀ i, xok 0 (G.2.1 a i) := by
  rintro e ⟨tc, n, h1, h2, h3⟩
  cases h1
  exact ⟨h2, h3⟩
theorem aw_57 : ∀ G' : XG, (∀ i, xok 0 (G'.2.1 a i)) → SHQ E K F G' a 57 (.inl (E.2.1 0, 90, .inl (G'.2.1 a))) := fun G' h => ⟨0, 90, rfl, rfl, h⟩
theorem ar_58 : ∀ e, SHQ E K F G a 58 e → e = .inl (E.2.1 0, 90, .inl (G.2.1 a)) ∧ ∀ i, xok 0 (G.2.1 a i) := by
  rintro e ⟨tc, n, h1, h2, h3⟩
  cases h1
  exact ⟨h2, h3⟩
theorem aw_58 : ∀ G' : XG, (∀ i, xok 0 (G'.2.1 a i)) → SHQ E K F G' a 58 (.inl (E.2.1 0, 90, .inl (G'.2.1 a))) := fun G' h => ⟨0, 90, rfl, rfl, h⟩
theorem ar_59 : ∀ e, SHQ E K F G a 59 e → e = .inl (E.2.1 3, 90, .inl (G.2.1 a)) ∧ ∀ i, xok 3 (G.2.1 a i) := by
  rintro e ⟨tc, n, h1, h2, h3⟩
  cases h1
  exact ⟨h2, h3⟩
theorem aw_59 : ∀ G' : XG, (∀ i, xok 3 (G'.2.1 a i)) → SHQ E K F G' a 59 (.inl (E.2.1 3, 90, .inl (G'.2.1 a))) := fun G' h => ⟨3, 90, rfl, rfl, h⟩
theorem rc_2 (hK : XK E s) (hT : TW E K F G H) (ha : K a = 2) : ∃ cell : Cell, H[a]? = some cell ∧ cell.vm.isStatics = false ∧ s.vm.findClass RX0 = some cell.cls := x_recv (ci := 1) (q := (RX0, TX0, 3)) hK hT ha (by decide) (fun e9 hs => ⟨_, hs.1⟩) rfl
theorem rc_3 (hK : XK E s) (hT : TW E K F G H) (ha : K a = 3) : ∃ cell : Cell, H[a]? = some cell ∧ cell.vm.isStatics = false ∧ s.vm.findClass RX1 = some cell.cls := x_recv (ci := 2) (q := (RX1, TX1, 4)) hK hT ha (by decide) (fun e9 hs => ⟨_, hs.1⟩) rfl
theorem rc_4 (hK : XK E s) (hT : TW E K F G H) (ha : K a = 4) : ∃ cell : Cell, H[a]? = some cell ∧ cell.vm.isStatics = false ∧ s.vm.findClass RX2 = some cell.cls := x_recv (ci := 3) (q := (RX2, TX2, 5)) hK hT ha (by decide) (fun e9 hs => ⟨_, hs.1⟩) rfl
theorem rc_5 (hK : XK E s) (hT : TW E K F G H) (ha : K a = 5) : ∃ cell : Cell, H[a]? = some cell ∧ cell.vm.isStatics = false ∧ s.vm.findClass RX3 = some cell.cls := x_recv (ci := 4) (q := (RX3, TX3, 4)) hK hT ha (by decide) (fun e9 hs => ⟨_, hs.1⟩) rfl
theorem rc_6 (hK : XK E s) (hT : TW E K F G H) (ha : K a = 6) : ∃ cell : Cell, H[a]? = some cell ∧ cell.vm.isStatics = false ∧ s.vm.findClass RX4 = some cell.cls := x_recv (ci := 5) (q := (RX4, TX4, 7)) hK hT ha (by decide) (fun e9 hs => ⟨_, hs.1⟩) rfl
theorem rc_7 (hK : XK E s) (hT : TW E K F G H) (ha : K a = 7) : ∃ cell : Cell, H[a]? = some cell ∧ cell.vm.isStatics = false ∧ s.vm.findClass RX5 = some cell.cls := x_recv (ci := 6) (q := (RX5, TX5, 6)) hK hT ha (by decide) (fun e9 hs => ⟨_, hs.1⟩) rfl
theorem rc_8 (hK : XK E s) (hT : TW E K F G H) (ha : K a = 8) : ∃ cell : Cell, H[a]? = some cell ∧ cell.vm.isStatics = false ∧ s.vm.findClass RX6 = some cell.cls := x_recv (ci := 7) (q := (RX6, TX6, 2)) hK hT ha (by decide) (fun e9 hs => ⟨_, hs.1⟩) rfl
theorem rc_9 (hK : XK E s) (hT : TW E K F G H) (ha : K a = 9) : ∃ cell : Cell, H[a]? = some cell ∧ cell.vm.isStatics = false ∧ s.vm.findClass RX7 = some cell.cls := x_recv (ci := 8) (q := (RX7, TX7, 10)) hK hT ha (by decide) (fun e9 hs => ⟨_, hs.1⟩) rfl
theorem rc_10 (hK : XK E s) (hT : TW E K F G H) (ha : K a = 10) : ∃ cell : Cell, H[a]? = some cell ∧ cell.vm.isStatics = false ∧ s.vm.findClass RX8 = some cell.cls := x_recv (ci := 9) (q := (RX8, TX8, 2)) hK hT ha (by decide) (fun e9 hs => ⟨_, hs.1⟩) rfl
theorem rc_11 (hK : XK E s) (hT : TW E K F G H) (ha : K a = 11) : ∃ cell : Cell, H[a]? = some cell ∧ cell.vm.isStatics = false ∧ s.vm.findClass RX9 = some cell.cls := x_recv (ci := 10) (q := (RX9, TX9, 4)) hK hT ha (by decide) (fun e9 hs => ⟨_, hs.1⟩) rfl
theorem rc_12 (hK : XK E s) (hT : TW E K F G H) (ha : K a = 12) : ∃ cell : Cell, H[a]? = some cell ∧ cell.vm.isStatics = false ∧ s.vm.findClass RX10 = some cell.cls := x_recv (ci := 11) (q := (RX10, TX10, 19)) hK hT ha (by decide) (fun e9 hs => ⟨_, hs.1⟩) rfl
theorem rc_13 (hK : XK E s) (hT : TW E K F G H) (ha : K a = 13) : ∃ cell : Cell, H[a]? = some cell ∧ cell.vm.isStatics = false ∧ s.vm.findClass RX11 = some cell.cls := x_recv (ci := 12) (q := (RX11, TX11, 52)) hK hT ha (by decide) (fun e9 hs => ⟨_, hs.1⟩) rfl
theorem xlk {G G0 G1 : XG} {i x : Int32} {I X z : Int} (h : G1 = cput G a i.toNatClampNeg x) (h0 : G.2.1 a = G0.2.1 a) (hi : i.toInt = I) (hx : x.toInt = X) (h1 : 0 ≤ I) (h2 : 0 ≤ z) : (z = I → aI (G1.2.1 a) z = X) ∧ (z ≠ I → aI (G1.2.1 a) z = aI (G0.2.1 a) z) := by
  subst hi hx h
  have h3 : (cput G a i.toNatClampNeg x).2.1 a = upd (G.2.1 a) i.toNatClampNeg x := by show up2 _ _ _ _ _ = _; rw [up2_r, upr_at]
  rw [h3, aI_upd h1 z h2, ← h0]
  exact ⟨fun q => if_pos q, fun q => if_neg q⟩
theorem xnar3 {x : Int32} (h : x = 0 ∨ x = 1) : vp_nar .boolean x = x := by rcases h with h | h <;> subst h <;> rfl
theorem xnar1 {x : Int32} (h : xok 1 x) : vp_nar .char x = x := by
  have h2 : narrow .char (.int x) = .int x := h
  unfold vp_nar
  rw [h2]
theorem xnar2 {x : Int32} (h : xok 2 x) : vp_nar .byte x = x := by
  have h2 : narrow .byte (.int x) = .int x := h
  unfold vp_nar
  rw [h2]
end XR

theorem xbm (X : Int) : Int.bmod X 4294967296 = (X + 2147483648) % 4294967296 - 2147483648 := by
  rw [Int.bmod_def]
  split <;> omega
theorem xadd (x y : Int32) : (x + y).toInt = (x.toInt + y.toInt + 2147483648) % 4294967296 - 2147483648 := by rw [Int32.toInt_add]; exact xbm _
theorem xsub (x y : Int32) : (x - y).toInt = (x.toInt - y.toInt + 2147483648) % 4294967296 - 2147483648 := by rw [Int32.toInt_sub]; exact xbm _
theorem xmul (x y : Int32) : (x * y).toInt = (x.toInt * y.toInt + 2147483648) % 4294967296 - 2147483648 := by rw [Int32.toInt_mul]; exact xbm _
theorem xneg (x : Int32) : (-x).toInt = (-x.toInt + 2147483648) % 4294967296 - 2147483648 := by rw [Int32.toInt_neg]; exact xbm _
theorem xov {z Z : Int} (h : z = (Z + 2147483648) % 4294967296 - 2147483648) : z = Z ∨ Z < -2147483648 ∨ 2147483648 ≤ Z := by omega
theorem xnz {v : Int32} (h : v = 0 ∨ v = 1) : narrow .boolean (.int v) = .int v := by rcases h with h | h <;> subst h <;> rfl
theorem x01 {v : Int32} (h : v.toInt = 0 ∨ v.toInt = 1) : v = 0 ∨ v = 1 := h.elim (fun q => Or.inl (Int32.toInt_inj.mp q)) (fun q => Or.inr (Int32.toInt_inj.mp q))
theorem xdiv (x y : Int32) (h0 : 0 ≤ x.toInt) (h1 : 0 < y.toInt) : (x / y).toInt = x.toInt / y.toInt := by
  have hx := xr x
  have h2 : 0 ≤ x.toInt / y.toInt := Int.ediv_nonneg h0 (by omega)
  have h3 : x.toInt / y.toInt ≤ x.toInt := Int.ediv_le_self _ h0
  rw [Int32.toInt_div, Int.tdiv_eq_ediv_of_nonneg h0]
  exact Int.bmod_eq_of_le (by omega) (by omega)
section XI
variable {p : Program} {l : Launch} {e : Env} {R : Room} {s : State} {m : MethodId} {args : Array Value} {below : List Frame} {meth : Method} {c : Code} {H : Heap} {locs : List Loc} {cells slots : Nat} {Q : State → Prop}
variable {pc : Nat} {ls : Array Slot} {rest : List Value} {cc : ByteArray} {nL : Nat} {E : XE} {X Y : Int}
theorem xi_iadd (hx : p.tables.exec = Jvm.exec) (hb : c.code = cc) {x y : Int32} (hX : x.toInt = X) (hY : y.toInt = Y) (hdg : decode cc pc = .ok (.iadd, 1)) (kk : ∀ z : Int32, (z.toInt = X + Y ∨ X + Y < -2147483648 ∨ 2147483648 ≤ X + Y) → W p l e R s m args below meth c H locs cells slots Q (F0 m (pc + 1) ls (.int z :: rest))) : W p l e R s m args below meth c H locs cells slots Q (F0 m pc ls (.int y :: .int x :: rest)) :=
  lv_iadd hx hb hdg (kk _ (xov (by rw [xadd, hX, hY])))
theorem xi_isub (hx : p.tables.exec = Jvm.exec) (hb : c.code = cc) {x y : Int32} (hX : x.toInt = X) (hY : y.toInt = Y) (hdg : decode cc pc = .ok (.isub, 1)) (kk : ∀ z : Int32, (z.toInt = X - Y ∨ X - Y < -2147483648 ∨ 2147483648 ≤ X - Y) → W p l e R s m args below meth c H locs cells slots Q (F0 m (pc + 1) ls (.int z :: rest))) : W p l e R s m args below meth c H locs cells slots Q (F0 m pc ls (.int y :: .int x :: rest)) :=
  lv_isub hx hb hdg (kk _ (xov (by rw [xsub, hX, hY])))
theorem xi_imul (hx : p.tables.exec = Jvm.exec) (hb : c.code = cc) {x y : Int32} (hX : x.toInt = X) (hY : y.toInt = Y) (hdg : decode cc pc = .ok (.imul, 1)) (kk : ∀ z : Int32, (z.toInt = X * Y ∨ X * Y < -2147483648 ∨ 2147483648 ≤ X * Y) → W p l e R s m args below meth c H locs cells slots Q (F0 m (pc + 1) ls (.int z :: rest))) : W p l e R s m args below meth c H locs cells slots Q (F0 m pc ls (.int y :: .int x :: rest)) :=
  lv_imul hx hb hdg (kk _ (xov (by rw [xmul, hX, hY])))
theorem xi_ineg (hx : p.tables.exec = Jvm.exec) (hb : c.code = cc) {x : Int32} (hX : x.toInt = X) (hdg : decode cc pc = .ok (.ineg, 1)) (kk : ∀ z : Int32, (z.toInt = -X ∨ -X < -2147483648 ∨ 2147483648 ≤ -X) → W p l e R s m args below meth c H locs cells slots Q (F0 m (pc + 1) ls (.int z :: rest))) : W p l e R s m args below meth c H locs cells slots Q (F0 m pc ls (.int x :: rest)) :=
  lv_ineg hx hb hdg (kk _ (xov (by rw [xneg, hX])))
theorem xi_idiv (hx : p.tables.exec = Jvm.exec) (hb : c.code = cc) {x y : Int32} (hX : x.toInt = X) (hY : y.toInt = Y) (hpos : 0 < y.toInt) (hdg : decode cc pc = .ok (.idiv, 1)) (kk : ∀ z : Int32, (0 ≤ X → z.toInt = X / Y) → W p l e R s m args below meth c H locs cells slots Q (F0 m (pc + 1) ls (.int z :: rest))) : W p l e R s m args below meth c H locs cells slots Q (F0 m pc ls (.int y :: .int x :: rest)) :=
  lv_idiv hx hb hdg (fun q => by rw [q] at hpos; exact absurd hpos (by decide)) (kk _ (fun h0 => by subst hX hY; exact xdiv x y h0 hpos))
theorem xi_irem (hx : p.tables.exec = Jvm.exec) (hb : c.code = cc) {x y : Int32} (hX : x.toInt = X) (hY : y.toInt = Y) (hpos : 0 < y.toInt) (hdg : decode cc pc = .ok (.irem, 1)) (kk : ∀ z : Int32, (0 ≤ X → z.toInt = X % Y) → W p l e R s m args below meth c H locs cells slots Q (F0 m (pc + 1) ls (.int z :: rest))) : W p l e R s m args below meth c H locs cells slots Q (F0 m pc ls (.int y :: .int x :: rest)) :=
  lv_irem hx hb hdg (fun q => by rw [q] at hpos; exact absurd hpos (by decide)) (kk _ (fun h0 => by
    subst hX hY
    have hx := xr x
    have h1 := Int.emod_nonneg x.toInt (show y.toInt ≠ 0 by omega)
    have h2 := Int.emod_lt_of_pos x.toInt hpos
    have h3 := Int.mul_ediv_add_emod x.toInt y.toInt
    have h4 : x.toInt / y.toInt * y.toInt = x.toInt - x.toInt % y.toInt := by rw [Int.mul_comm]; omega
    have h5 : 0 ≤ x.toInt / y.toInt := Int.ediv_nonneg h0 (by omega)
    have h6 : 0 ≤ x.toInt / y.toInt * y.toInt := Int.mul_nonneg h5 (by omega)
    rw [xsub, xmul, xdiv x y h0 hpos, h4]
    rw [h4] at h6
    omega))
theorem xi_iinc (hx : p.tables.exec = Jvm.exec) (hb : c.code = cc) {i k : Nat} {n : Int} {x : Int32} {lv : List (Nat × Value)} {lv' : Int32 → List (Nat × Value)} (hX : x.toInt = X) (hn9 : (Int32.ofInt n).toInt = n) (hdg : decode cc pc = .ok (.iinc i n, 3)) (h : lv_has ls nL lv) (hk : lv[k]? = some (i, .int x)) (hn : i < nL) (hl : ∀ z : Int32, (i, Value.int z) :: lv.filter (fun q => !(q.1 == i) && !(q.1 + 1 == i && q.2.category == 2)) = lv' z) (kk : ∀ (z : Int32) (ls' : Array Slot), (z.toInt = X + n ∨ X + n < -2147483648 ∨ 2147483648 ≤ X + n) → lv_has ls' nL (lv' z) → W p l e R s m args below meth c H locs cells slots Q (F0 m (pc + 3) ls' rest)) : W p l e R s m args below meth c H locs cells slots Q (F0 m pc ls rest) :=
  lv_iinc hx hb hdg h hk rfl hn (hl _) (fun ls' h' => kk _ ls' (xov (by rw [xadd, hX, hn9])) h')
theorem xi_ceq (hx : p.tables.exec = Jvm.exec) (hb : c.code = cc) {x y : Int32} (hX : x.toInt = X) (hY : y.toInt = Y) {off : Int} {tgt : Nat} (hdg : decode cc pc = .ok (.if_icmp .eq off, 3)) (ht : (pc : Int) + off = (tgt : Int)) (kt : X = Y → W p l e R s m args below meth c H locs cells slots Q (F0 m tgt ls rest)) (kf : ¬ (X = Y) → W p l e R s m args below meth c H locs cells slots Q (F0 m (pc + 3) ls rest)) : W p l e R s m args below meth c H locs cells slots Q (F0 m pc ls (.int y :: .int x :: rest)) :=
  lv_icmp_eq hx hb hdg ht (fun q => kt (by subst hX hY; exact congrArg Int32.toInt q)) (fun q => kf (by subst hX hY; exact fun z => q (Int32.toInt_inj.mp z)))
theorem xi_zeq (hx : p.tables.exec = Jvm.exec) (hb : c.code = cc) {x : Int32} (hX : x.toInt = X) {off : Int} {tgt : Nat} (hdg : decode cc pc = .ok (.ifCond .eq off, 3)) (ht : (pc : Int) + off = (tgt : Int)) (kt : X = 0 → W p l e R s m args below meth c H locs cells slots Q (F0 m tgt ls rest)) (kf : ¬ (X = 0) → W p l e R s m args below meth c H locs cells slots Q (F0 m (pc + 3) ls rest)) : W p l e R s m args below meth c H locs cells slots Q (F0 m pc ls (.int x :: rest)) :=
  lv_if_eq hx hb hdg ht (fun q => kt (by subst hX; exact congrArg Int32.toInt q)) (fun q => kf (by subst hX; exact fun z => q (Int32.toInt_inj.mp z)))
theorem xi_cne (hx : p.tables.exec = Jvm.exec) (hb : c.code = cc) {x y : Int32} (hX : x.toInt = X) (hY : y.toInt = Y) {off : Int} {tgt : Nat} (hdg : decode cc pc = .ok (.if_icmp .ne off, 3)) (ht : (pc : Int) + off = (tgt : Int)) (kt : X ≠ Y → W p l e R s m args below meth c H locs cells slots Q (F0 m tgt ls rest)) (kf : ¬ (X ≠ Y) → W p l e R s m args below meth c H locs cells slots Q (F0 m (pc + 3) ls rest)) : W p l e R s m args below meth c H locs cells slots Q (F0 m pc ls (.int y :: .int x :: rest)) :=
  lv_icmp_ne hx hb hdg ht (fun q => kt (by subst hX hY; exact fun z => q (Int32.toInt_inj.mp z))) (fun q => kf (by subst hX hY; exact fun z => z (congrArg Int32.toInt q)))
theorem xi_zne (hx : p.tables.exec = Jvm.exec) (hb : c.code = cc) {x : Int32} (hX : x.toInt = X) {off : Int} {tgt : Nat} (hdg : decode cc pc = .ok (.ifCond .ne off, 3)) (ht : (pc : Int) + off = (tgt : Int)) (kt : X ≠ 0 → W p l e R s m args below meth c H locs cells slots Q (F0 m tgt ls rest)) (kf : ¬ (X ≠ 0) → W p l e R s m args below meth c H locs cells slots Q (F0 m (pc + 3) ls rest)) : W p l e R s m args below meth c H locs cells slots Q (F0 m pc ls (.int x :: rest)) :=
  lv_if_ne hx hb hdg ht (fun q => kt (by subst hX; exact fun z => q (Int32.toInt_inj.mp z))) (fun q => kf (by subst hX; exact fun z => z (congrArg Int32.toInt q)))
theorem xi_clt (hx : p.tables.exec = Jvm.exec) (hb : c.code = cc) {x y : Int32} (hX : x.toInt = X) (hY : y.toInt = Y) {off : Int} {tgt : Nat} (hdg : decode cc pc = .ok (.if_icmp .lt off, 3)) (ht : (pc : Int) + off = (tgt : Int)) (kt : X < Y → W p l e R s m args below meth c H locs cells slots Q (F0 m tgt ls rest)) (kf : ¬ (X < Y) → W p l e R s m args below meth c H locs cells slots Q (F0 m (pc + 3) ls rest)) : W p l e R s m args below meth c H locs cells slots Q (F0 m pc ls (.int y :: .int x :: rest)) :=
  lv_icmp_lt hx hb hdg ht (fun q => kt (by subst hX hY; exact Int32.lt_iff_toInt_lt.mp q)) (fun q => kf (by subst hX hY; exact fun z => q (Int32.lt_iff_toInt_lt.mpr z)))
theorem xi_zlt (hx : p.tables.exec = Jvm.exec) (hb : c.code = cc) {x : Int32} (hX : x.toInt = X) {off : Int} {tgt : Nat} (hdg : decode cc pc = .ok (.ifCond .lt off, 3)) (ht : (pc : Int) + off = (tgt : Int)) (kt : X < 0 → W p l e R s m args below meth c H locs cells slots Q (F0 m tgt ls rest)) (kf : ¬ (X < 0) → W p l e R s m args below meth c H locs cells slots Q (F0 m (pc + 3) ls rest)) : W p l e R s m args below meth c H locs cells slots Q (F0 m pc ls (.int x :: rest)) :=
  lv_if_lt hx hb hdg ht (fun q => kt (by subst hX; exact Int32.lt_iff_toInt_lt.mp q)) (fun q => kf (by subst hX; exact fun z => q (Int32.lt_iff_toInt_lt.mpr z)))
theorem xi_cge (hx : p.tables.exec = Jvm.exec) (hb : c.code = cc) {x y : Int32} (hX : x.toInt = X) (hY : y.toInt = Y) {off : Int} {tgt : Nat} (hdg : decode cc pc = .ok (.if_icmp .ge off, 3)) (ht : (pc : Int) + off = (tgt : Int)) (kt : Y ≤ X → W p l e R s m args below meth c H locs cells slots Q (F0 m tgt ls rest)) (kf : ¬ (Y ≤ X) → W p l e R s m args below meth c H locs cells slots Q (F0 m (pc + 3) ls rest)) : W p l e R s m args below meth c H locs cells slots Q (F0 m pc ls (.int y :: .int x :: rest)) :=
  lv_icmp_ge hx hb hdg ht (fun q => kt (by subst hX hY; exact Int32.le_iff_toInt_le.mp q)) (fun q => kf (by subst hX hY; exact fun z => q (Int32.le_iff_toInt_le.mpr z)))
theorem xi_zge (hx : p.tables.exec = Jvm.exec) (hb : c.code = cc) {x : Int32} (hX : x.toInt = X) {off : Int} {tgt : Nat} (hdg : decode cc pc = .ok (.ifCond .ge off, 3)) (ht : (pc : Int) + off = (tgt : Int)) (kt : 0 ≤ X → W p l e R s m args below meth c H locs cells slots Q (F0 m tgt ls rest)) (kf : ¬ (0 ≤ X) → W p l e R s m args below meth c H locs cells slots Q (F0 m (pc + 3) ls rest)) : W p l e R s m args below meth c H locs cells slots Q (F0 m pc ls (.int x :: rest)) :=
  lv_if_ge hx hb hdg ht (fun q => kt (by subst hX; exact Int32.le_iff_toInt_le.mp q)) (fun q => kf (by subst hX; exact fun z => q (Int32.le_iff_toInt_le.mpr z)))
theorem xi_cgt (hx : p.tables.exec = Jvm.exec) (hb : c.code = cc) {x y : Int32} (hX : x.toInt = X) (hY : y.toInt = Y) {off : Int} {tgt : Nat} (hdg : decode cc pc = .ok (.if_icmp .gt off, 3)) (ht : (pc : Int) + off = (tgt : Int)) (kt : Y < X → W p l e R s m args below meth c H locs cells slots Q (F0 m tgt ls rest)) (kf : ¬ (Y < X) → W p l e R s m args below meth c H locs cells slots Q (F0 m (pc + 3) ls rest)) : W p l e R s m args below meth c H locs cells slots Q (F0 m pc ls (.int y :: .int x :: rest)) :=
  lv_icmp_gt hx hb hdg ht (fun q => kt (by subst hX hY; exact Int32.lt_iff_toInt_lt.mp q)) (fun q => kf (by subst hX hY; exact fun z => q (Int32.lt_iff_toInt_lt.mpr z)))
theorem xi_zgt (hx : p.tables.exec = Jvm.exec) (hb : c.code = cc) {x : Int32} (hX : x.toInt = X) {off : Int} {tgt : Nat} (hdg : decode cc pc = .ok (.ifCond .gt off, 3)) (ht : (pc : Int) + off = (tgt : Int)) (kt : 0 < X → W p l e R s m args below meth c H locs cells slots Q (F0 m tgt ls rest)) (kf : ¬ (0 < X) → W p l e R s m args below meth c H locs cells slots Q (F0 m (pc + 3) ls rest)) : W p l e R s m args below meth c H locs cells slots Q (F0 m pc ls (.int x :: rest)) :=
  lv_if_gt hx hb hdg ht (fun q => kt (by subst hX; exact Int32.lt_iff_toInt_lt.mp q)) (fun q => kf (by subst hX; exact fun z => q (Int32.lt_iff_toInt_lt.mpr z)))
theorem xi_cle (hx : p.tables.exec = Jvm.exec) (hb : c.code = cc) {x y : Int32} (hX : x.toInt = X) (hY : y.toInt = Y) {off : Int} {tgt : Nat} (hdg : decode cc pc = .ok (.if_icmp .le off, 3)) (ht : (pc : Int) + off = (tgt : Int)) (kt : X ≤ Y → W p l e R s m args below meth c H locs cells slots Q (F0 m tgt ls rest)) (kf : ¬ (X ≤ Y) → W p l e R s m args below meth c H locs cells slots Q (F0 m (pc + 3) ls rest)) : W p l e R s m args below meth c H locs cells slots Q (F0 m pc ls (.int y :: .int x :: rest)) :=
  lv_icmp_le hx hb hdg ht (fun q => kt (by subst hX hY; exact Int32.le_iff_toInt_le.mp q)) (fun q => kf (by subst hX hY; exact fun z => q (Int32.le_iff_toInt_le.mpr z)))
theorem xi_zle (hx : p.tables.exec = Jvm.exec) (hb : c.code = cc) {x : Int32} (hX : x.toInt = X) {off : Int} {tgt : Nat} (hdg : decode cc pc = .ok (.ifCond .le off, 3)) (ht : (pc : Int) + off = (tgt : Int)) (kt : X ≤ 0 → W p l e R s m args below meth c H locs cells slots Q (F0 m tgt ls rest)) (kf : ¬ (X ≤ 0) → W p l e R s m args below meth c H locs cells slots Q (F0 m (pc + 3) ls rest)) : W p l e R s m args below meth c H locs cells slots Q (F0 m pc ls (.int x :: rest)) :=
  lv_if_le hx hb hdg ht (fun q => kt (by subst hX; exact Int32.le_iff_toInt_le.mp q)) (fun q => kf (by subst hX; exact fun z => q (Int32.le_iff_toInt_le.mpr z)))
variable {own : String} {w0 : Cond} {mc ms : Nat} {S : Type}
theorem x_ri {post : Value → S → Prop} {B : S → Heap → Prop} {v : Int32} (hx : p.tables.exec = Jvm.exec) (hb : c.code = cc) (hr : meth.sig.returnType = some .int) (hlk : meth.locks = false) (hQ : Q = MQ below (XQ E post B) args s mc ms (xA E)) (hc : cells ≤ mc) (hs : slots ≤ ms) (hS : va_S (xA E) s.heap H locs) (hdg : decode cc pc = .ok (.ireturn, 1)) (u : S) (hp : post (.int v) u) (hB : B u H) : W p l e R s m args below meth c H locs cells slots Q (F0 m pc ls [.int v]) := by
  subst hQ
  exact W.widen hc hs (W.iret hx hb hr (fun t ht hW => ⟨⟨_, u, rfl, hp, by rw [ht]; exact hB⟩, hS.F ht⟩) hS.2.2 hdg hlk)
theorem x_rz {post : Value → S → Prop} {B : S → Heap → Prop} {v : Int32} {ty : FieldType} (hx : p.tables.exec = Jvm.exec) (hb : c.code = cc) (hr : meth.sig.returnType = some ty) (hn : narrow ty (.int v) = .int v) (hlk : meth.locks = false) (hQ : Q = MQ below (XQ E post B) args s mc ms (xA E)) (hc : cells ≤ mc) (hs : slots ≤ ms) (hS : va_S (xA E) s.heap H locs) (hdg : decode cc pc = .ok (.ireturn, 1)) (u : S) (hp : post (.int v) u) (hB : B u H) : W p l e R s m args below meth c H locs cells slots Q (F0 m pc ls [.int v]) := by
  subst hQ
  exact W.widen hc hs (W.zret hx hb hr hn (fun t ht hW => ⟨⟨_, u, rfl, hp, by rw [ht]; exact hB⟩, hS.F ht⟩) hS.2.2 hdg hlk)
theorem x_ra {post : Value → S → Prop} {B : S → Heap → Prop} {v : Value} {rt : FieldType} (hx : p.tables.exec = Jvm.exec) (hb : c.code = cc) (hr : meth.sig.returnType = some rt) (hrt : (∃ n, rt = .object n) ∨ ∃ t, rt = .array t) (hv : v = .null ∨ ∃ a, v = .ref a) (hlk : meth.locks = false) (hQ : Q = MQ below (XQ E post B) args s mc ms (xA E)) (hc : cells ≤ mc) (hs : slots ≤ ms) (hS : va_S (xA E) s.heap H locs) (hdg : decode cc pc = .ok (.areturn, 1)) (u : S) (hp : post v u) (hB : B u H) : W p l e R s m args below meth c H locs cells slots Q (F0 m pc ls [v]) := by
  subst hQ
  exact W.widen hc hs (W.aret hx hb hr hrt hv (fun t ht hW => ⟨⟨_, u, rfl, hp, by rw [ht]; exact hB⟩, hS.F ht⟩) hS.2.2 hdg hlk)
theorem x_rv {post : S → Prop} {B : S → Heap → Prop} (hx : p.tables.exec = Jvm.exec) (hb : c.code = cc) (hr : meth.sig.returnType = none) (hlk : meth.locks = false) (hQ : Q = MQ below (XQv E post B) args s mc ms (xA E)) (hc : cells ≤ mc) (hs : slots ≤ ms) (hS : va_S (xA E) s.heap H locs) (hdg : decode cc pc = .ok (.return_, 1)) (u : S) (hp : post u) (hB : B u H) : W p l e R s m args below meth c H locs cells slots Q (F0 m pc ls []) := by
  subst hQ
  exact W.widen hc hs (W.vret hx hb hr (fun t ht hW => ⟨⟨u, rfl, hp, by rw [ht]; exact hB⟩, hS.F ht⟩) hS.2.2 hdg hlk)
end XI
