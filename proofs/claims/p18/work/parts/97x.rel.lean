/-! ===== class and reference as they are made stand in the relation ===== -/
theorem ordN_z {pr : Nat → Bool} {rk : Nat → Int} (h : ∀ i, pr i = false) : ∀ n : Nat, (ordN pr rk n).1 = 0
  | 0 => rfl
  | n + 1 => by rw [ordN_f (h n)]; exact ordN_z h n
theorem zd {f : Nat → Int32} (h : f = fun _ => 0) (j : Nat) : (f j).toInt = 0 := by
  subst h
  exact (by decide : (0 : Int32).toInt = 0)
theorem z_at {f : Nat → Int32} (h : f = fun _ => 0) (z : Int) : aI f z = 0 := zd h z.toNat
theorem ro_0 {r : Int → Int} {b : Nat → Int32} (hr : r = v0) (hb : b = fun _ => 0) : RO r (aI b) := by
  subst hr
  have e : ∀ z : Int, 0 ≤ z → z < 270 → v0 z = -2000 := fun z a c => if_pos ⟨a, c⟩
  refine ⟨fun t k a c d g => ⟨?_, fun q h0 h1 => ?_⟩, fun i a c => Or.inl (e i a c), fun t k a c d g => ?_⟩
  · rw [z_at hb, bI_0, e (90 * t + k) (by omega) (by omega)]
    exact ⟨fun h => absurd h (by decide), fun h => absurd rfl h⟩
  · have e1 := e (90 * t + 30 * q + k) (by omega) (by omega)
    have e2 := e (90 * t + k) (by omega) (by omega)
    exact ⟨fun _ => e2, fun _ => e1⟩
  · rw [z_at hb]
    exact bI_0 k
theorem rm_0 {f : Nat → Int32} (h : f = fun _ => 0) (b : Int) : RM f b := fun t k _ _ _ _ => Or.inl (z_at h _)
theorem mw_0 {f : Nat → Int32} (h : f = fun _ => 0) (b : Int) : mw f b = v0 := by
  funext z
  unfold mw v0
  by_cases q : 0 ≤ z ∧ z < 270
  · rw [if_pos q, if_pos q]
    exact if_neg (by rw [z_at h]; decide)
  · rw [if_neg q, if_neg q]
theorem rel_start {E : XE} {K : Nat → Nat} {F : Nat → Nat → Nat} {G : XG} {H : Heap} {a m : Nat} (hT : TW E K F G H) (hc : CLz K F G a) (hm : MDz K F G m) : REL K F G a m := by
  obtain ⟨c0, cd, cT, cR, cB, cN, cBe, cZ, ⟨cM, cMi⟩, cW⟩ := hc
  obtain ⟨m0, md, -, mN, -, mB, -, mR, -, mW⟩ := hm
  obtain ⟨-, -, b2, -, b0, -, b1⟩ := cB
  have d6 : (G.1 m 6).toInt = 0 := (congrArg Int32.toInt (congrFun md 6)).trans (by decide)
  have d7 : (G.1 m 7).toInt = 0 := (congrArg Int32.toInt (congrFun md 7)).trans (by decide)
  have d23 : (G.1 m 23).toInt = 0 := (congrArg Int32.toInt (congrFun md 23)).trans (by decide)
  have d36 : (G.1 m 36).toInt = 0 := (congrArg Int32.toInt (congrFun md 36)).trans (by decide)
  have d43 : (G.1 m 43).toInt = 0 := (congrArg Int32.toInt (congrFun md 43)).trans (by decide)
  have a17 := zd cd 17
  have a18 := zd cd 18
  have w6 := zd cW.2.2 6
  have n0 : ∀ i, G.2.2.1 (F (F a 2) 0) i = none := fun i => congrFun b0 i
  have n1 : ∀ i, G.2.2.1 (F (F a 2) 1) i = none := fun i => congrFun b1 i
  have hf : ∀ r : Int, 0 ≤ r → r < 12 → ∀ j : Int, 0 ≤ j → j < 10 → aI (G.2.1 (F m 10)) (10 * r + j) = if j = 0 then -1 else 0 := fun r a b j c d => by
    rw [mR _ (by omega)]
    by_cases q : j = 0
    · rw [if_pos q, if_pos (by omega)]
    · rw [if_neg q, if_neg (by omega)]
  have hV : RV (G.2.1 (F m 10)) := fun r r0 r1 => by
    have h0 := hf r r0 (by omega) 0 (by decide) (by decide)
    have h1 := hf r r0 (by omega) 1 (by decide) (by decide)
    have h2 := hf r r0 (by omega) 2 (by decide) (by decide)
    have h3 := hf r r0 (by omega) 3 (by decide) (by decide)
    rw [if_pos rfl] at h0
    rw [if_neg (by decide)] at h1 h2 h3
    exact ⟨by omega, by omega, by omega, by omega, fun _ => by omega⟩
  have hBO : BO G F (F a 2) := ⟨(zd b2 2).trans (congrArg (fun n : Nat => (n : Int)) (ordN_z (fun i => congrArg Option.isSome (n0 i)) 12)).symm, fun i hi => absurd (Nat.lt_of_lt_of_eq hi (ordN_z (fun i => congrArg Option.isSome (n0 i)) 12)) (Nat.not_lt_zero i)⟩
  have hbook : A_book K F G (F a 2) (G.2.1 (F m 10)) := by
    refine ⟨hBO, fun i q h => ?_, fun i q h => ?_, fun i q _ h => ?_, hV, fun i hi => ?_⟩
    · have e := n0 i; rw [h] at e; cases e
    · have e := n1 i; rw [h] at e; cases e
    · have e := n0 i; rw [h] at e; cases e
    · have e := hf (i : Int) (by omega) (by omega) 0 (by decide) (by decide)
      rw [if_pos rfl] at e
      exact Or.inl ⟨n0 i, e⟩
  have hmk : MKS K F (G.2.2.1 (F a 7)) := fun i hi => by
    obtain ⟨q, e, r1, r2, -⟩ := cMi i hi
    obtain ⟨k0, j0⟩ := fkX6_0 hT r1
    obtain ⟨k1, j1⟩ := fkX6_1 hT r1
    exact ⟨q, e, r1, r2, k0, j0.trans r2, k1, j1.trans r2⟩
  refine ⟨⟨c0, m0, cR.2.2⟩, T_0 _ _ (zd cT.2.2 1) d36, hbook, ⟨ro_0 cN.2.2.2.1 cN.2.2.2.2.2, rm_0 mN 0, cN.2.2.2.1.trans (mw_0 mN 0).symm⟩, ?_, hmk, ⟨wait_nil a18 w6, by omega⟩, by omega, by omega, mW⟩
  refine ⟨⟨ro_0 cBe.2.2.2.1 cBe.2.2.2.2.2, rm_0 mB 0, cZ.2.2.2.1, ro_0 cZ.2.2.2.1 cZ.2.2.2.2.2⟩, by omega, by omega, fun i q hi hq => ?_, fun i i0 i1 => by omega, a18.trans d6.symm, fun o => absurd a18 o, fun _ => a17⟩
  obtain ⟨y, e, -, -, -, r1, -, r2⟩ := cMi i hi
  have e2 := hq.symm.trans e
  cases e2
  exact ro_0 r1 r2
