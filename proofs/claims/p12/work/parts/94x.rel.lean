/-! ===== the relation between class and reference ===== -/
def REL (K : Nat → Nat) (F : Nat → Nat → Nat) (G : XG) (a m : Nat) : Prop :=
  (K a = 12 ∧ K m = 13 ∧ F (F a 1) 0 = F a 0) ∧
  A_text ((G.1 (F a 0) 1).toInt) ((G.1 m 36).toInt) (G.2.1 (F (F a 0) 0)) (G.2.1 (F m 35)) ∧
  A_book K F G (F a 2) (G.2.1 (F m 10)) ∧
  (RO (vw (G.2.1 (F (F a 3) 0))) (aI (G.2.1 (F (F a 3) 1))) ∧ RM (G.2.1 (F m 1)) 0 ∧ vw (G.2.1 (F (F a 3) 0)) = mw (G.2.1 (F m 1)) 0) ∧
  A_tr F (G.2.2.1 (F a 7)) (G.2.1 (F (F a 4) 0)) (G.2.1 (F (F a 4) 1)) (G.2.1 (F (F a 6) 0)) (G.2.1 (F (F a 6) 1)) G.2.1 (G.2.1 (F m 2)) (G.2.1 (F m 3)) ((G.1 a 18).toInt) ((G.1 m 6).toInt) ((G.1 a 17).toInt) ((G.1 m 7).toInt) ∧
  MKS K F (G.2.2.1 (F a 7)) ∧
  (A_wait ((G.1 a 18).toInt) (G.2.1 (F m 10)) (vw (G.2.1 (F (F a 4) 0))) (vw (G.2.1 (F (F a 3) 0))) (qL G F (F a 8)) ∧ (0 ≤ ((G.1 (F a 8) 6).toInt) ∧ ((G.1 (F a 8) 6).toInt) ≤ 1080)) ∧
  ((0 ≤ ((G.1 m 23).toInt) ∧ ((G.1 m 23).toInt) ≤ 24) ∧ (0 ≤ ((G.1 m 43).toInt) ∧ ((G.1 m 43).toInt) ≤ 2388) ∧ WDo G F m)
theorem ws_z {op : Int} {f : Nat → Int32} {vb vn : Int → Int} {u : XG} {F : Nat → Nat → Nat} {a : Nat} (h : A_wait op f vb vn (qL u F a)) (h0 : 0 ≤ (u.1 a 6).toInt) (o : op = 0) : (u.1 a 6).toInt = 0 := by
  have e := qL_len u F a
  rw [h.1 o] at e
  have e : 0 = (u.1 a 6).toInt.toNat := e
  omega
theorem wait_begin {op op1 x : Int} {f : Nat → Int32} {vb vb1 vn : Int → Int} {w : List Qt} {Z : Prop} (hw : A_wait op f vb vn w) (z : (op ≠ 0 ∧ op1 = op ∧ vb1 = vb ∧ Z) ∨ (op = 0 ∧ op1 ≠ 0 ∧ vb1 = vn)) : A_wait op1 f vb1 vn w := by
  rcases z with ⟨-, b, c, -⟩ | ⟨a, b, c⟩
  · rw [b, c]; exact hw
  · rw [c]
    refine ⟨fun o => absurd o b, fun _ => ?_⟩
    rw [hw.1 a, fuO_nil]
    rfl
theorem wait_nil {op : Int} {f : Nat → Int32} {vb vn : Int → Int} {u : XG} {F : Nat → Nat → Nat} {a : Nat} (o : op = 0) (h : (u.1 a 6).toInt = 0) : A_wait op f vb vn (qL u F a) := ⟨fun _ => qL_nil h, fun q => absurd o q⟩
theorem later_xq {K : Nat → Nat} {F : Nat → Nat → Nat} {G : XG} {b x : Nat} {f : Nat → Int32} (h : A_book K F G b f) (hx : K x = 12) (p : Int) : ∃ xq : Nat, (0 ≤ p → p < 12 → ∀ q : Nat, G.2.2.1 (F b 0) p.toNat = some q → q = xq) ∧ ((K xq = 9 ∧ (0 ≤ p ∧ p < 12) ∧ G.2.2.1 (F b 0) p.toNat = some xq) ∨ K xq = 12) := by
  by_cases g : 0 ≤ p ∧ p < 12
  · rcases h.2.2.2.2.2.nat g with ⟨a, -⟩ | ⟨y, a, -⟩
    · exact ⟨x, fun _ _ q e => (by rw [a] at e; cases e), Or.inr hx⟩
    · exact ⟨y, fun _ _ q e => (by rw [a] at e; exact (Option.some.inj e).symm), Or.inl ⟨(h.2.1 _ _ a).1, g, a⟩⟩
  · exact ⟨x, fun a b => absurd ⟨a, b⟩ g, Or.inr hx⟩
theorem mark_xq {K : Nat → Nat} {F : Nat → Nat → Nat} {mr : Nat → Option Nat} (h : MKS K F mr) (mc : Int) (h0 : 0 ≤ mc) : ∃ xq n : Nat, n < 8 ∧ mr n = some xq ∧ (K xq = 8 ∧ F xq 99 = 4 + n) ∧ (K (F xq 0) = 20 ∧ F (F xq 0) 99 = 4 + n) ∧ (K (F xq 1) = 21 ∧ F (F xq 1) 99 = 4 + n) ∧ (mc < 8 → mr mc.toNat = some xq) ∧ (¬ mc < 8 → mr 7 = some xq) := by
  by_cases g : mc < 8
  · obtain ⟨q, a, b, c, d, e, k, j⟩ := h mc.toNat (by omega)
    exact ⟨q, mc.toNat, by omega, a, ⟨b, c⟩, ⟨d, e⟩, ⟨k, j⟩, fun _ => a, fun n => absurd g n⟩
  · obtain ⟨q, a, b, c, d, e, k, j⟩ := h 7 (by decide)
    exact ⟨q, 7, by decide, a, ⟨b, c⟩, ⟨d, e⟩, ⟨k, j⟩, fun n => absurd n g, fun _ => a⟩
theorem MKS.km {K K1 : Nat → Nat} {F : Nat → Nat → Nat} {mr : Nat → Option Nat} (h : MKS K F mr) (hM : ∀ x n : Nat, K x = n → n ≠ 0 → n ≠ 14 → K1 x = n) : MKS K1 F mr := fun i hi => by
  obtain ⟨q, a, b, c, d, e, k, j⟩ := h i hi
  exact ⟨q, a, hM _ _ b (by decide) (by decide), c, hM _ _ d (by decide) (by decide), e, hM _ _ k (by decide) (by decide), j⟩
theorem WDo.cg {G u : XG} {F : Nat → Nat → Nat} {a : Nat} (h : WDo G F a) (e : ∀ i : Nat, i < 10 → u.2.1 (F a (25 + i)) = G.2.1 (F a (25 + i))) : WDo u F a := fun i hi j hj => by
  rw [e i hi]
  exact h i hi j hj
theorem marks_fr {K : Nat → Nat} {F : Nat → Nat → Nat} {mr : Nat → Option Nat} {G u : XG} {d : List (Nat × Nat)} {c r : List Nat} (h : MKS K F mr) (hf : XFr d c r G u) (hc : ∀ b ∈ c, (K b = 20 ∨ K b = 21) → F b 99 < 4 ∨ 12 ≤ F b 99) : ∀ i q : Nat, i < 8 → mr i = some q → u.2.1 (F q 0) = G.2.1 (F q 0) ∧ u.2.1 (F q 1) = G.2.1 (F q 1) := by
  intro i q hi hq
  obtain ⟨y, a, -, -, k0, j0, k1, j1⟩ := h i hi
  rw [hq] at a
  have e := Option.some.inj a
  subst e
  refine ⟨hf.2.1 _ (fun hm => ?_), hf.2.1 _ (fun hm => ?_)⟩
  · have := hc _ hm (Or.inl k0); omega
  · have := hc _ hm (Or.inr k1); omega
theorem words_fr {K : Nat → Nat} {F : Nat → Nat → Nat} {G u : XG} {m : Nat} {d : List (Nat × Nat)} {c r : List Nat} (h : ∀ i : Nat, i < 10 → 46 ≤ K (F m (25 + i)) ∧ K (F m (25 + i)) ≤ 50) (hf : XFr d c r G u) (hc : ∀ b ∈ c, ¬ (46 ≤ K b ∧ K b ≤ 50)) : ∀ i : Nat, i < 10 → u.2.1 (F m (25 + i)) = G.2.1 (F m (25 + i)) := fun i hi => hf.2.1 _ (fun hm => hc _ hm (h i hi))
theorem marks_tr {F : Nat → Nat → Nat} {mr : Nat → Option Nat} {G u v : XG} (h : ∀ i q : Nat, i < 8 → mr i = some q → u.2.1 (F q 0) = G.2.1 (F q 0) ∧ u.2.1 (F q 1) = G.2.1 (F q 1)) (g : ∀ i q : Nat, i < 8 → mr i = some q → v.2.1 (F q 0) = u.2.1 (F q 0) ∧ v.2.1 (F q 1) = u.2.1 (F q 1)) : ∀ i q : Nat, i < 8 → mr i = some q → v.2.1 (F q 0) = G.2.1 (F q 0) ∧ v.2.1 (F q 1) = G.2.1 (F q 1) := fun i q hi hq => ⟨(g i q hi hq).1.trans (h i q hi hq).1, (g i q hi hq).2.trans (h i q hi hq).2⟩
theorem rules_fr {K : Nat → Nat} {G u : XG} {d : List (Nat × Nat)} {c r : List Nat} (hf : XFr d c r G u) (hd : ∀ p ∈ d, K p.1 ≠ 9) : ∀ q, K q = 9 → u.1 q = G.1 q := fun q hq => hf.rule hd hq
theorem if_list {op : Int} {l1 l2 : List (Int × Int)} (h : op ≠ 0 → l1 = l2) : (if op = 0 then [] else l1) = (if op = 0 then [] else l2) := by
  by_cases o : op = 0
  · rw [if_pos o, if_pos o]
  · rw [if_neg o, if_neg o, h o]
theorem law_ix {x xk x1 x3 : Int32} {L : Nat} {k : Int} (hx9 : 0 ≤ x.toInt ∧ x.toInt ≤ 3078) (hL9 : ((L : Nat) : Int) ≤ 3072) (t2 : x1.toInt = ((L : Nat) : Int)) (t4 : x3.toInt = x1.toInt - 6 ∨ x1.toInt - 6 < -2147483648 ∨ 2147483648 ≤ x1.toInt - 6) (c5 : ¬ (x3.toInt < x.toInt)) (hk : 0 ≤ k ∧ k ≤ 5) (t : xk.toInt = x.toInt + k ∨ x.toInt + k < -2147483648 ∨ 2147483648 ≤ x.toInt + k) : xk.toInt = x.toInt + k ∧ 0 ≤ xk.toInt ∧ xk.toInt < ((L : Nat) : Int) := by omega
theorem law_i0 {x x1 x3 : Int32} {L : Nat} (hx9 : 0 ≤ x.toInt ∧ x.toInt ≤ 3078) (hL9 : ((L : Nat) : Int) ≤ 3072) (t2 : x1.toInt = ((L : Nat) : Int)) (t4 : x3.toInt = x1.toInt - 6 ∨ x1.toInt - 6 < -2147483648 ∨ 2147483648 ≤ x1.toInt - 6) (c5 : ¬ (x3.toInt < x.toInt)) : 0 ≤ x.toInt ∧ x.toInt < ((L : Nat) : Int) := by omega
theorem law_nx {x x9 x1 x3 : Int32} {L n : Nat} (hx9 : 0 ≤ x.toInt ∧ x.toInt ≤ 3078) (hL9 : ((L : Nat) : Int) ≤ 3072) (t2 : x1.toInt = ((L : Nat) : Int)) (t4 : x3.toInt = x1.toInt - 6 ∨ x1.toInt - 6 < -2147483648 ∨ 2147483648 ≤ x1.toInt - 6) (c5 : ¬ (x3.toInt < x.toInt)) (t : x9.toInt = x.toInt + 6 ∨ x.toInt + 6 < -2147483648 ∨ 2147483648 ≤ x.toInt + 6) (hn9 : 3078 - x.toInt < 6 * ((n + 1 : Nat) : Int)) : (0 ≤ x9.toInt ∧ x9.toInt ≤ 3078) ∧ 3078 - x9.toInt < 6 * ((n : Nat) : Int) := by omega
theorem law_c {cells n : Nat} (h : cells + 24 * (n + 1) ≤ 590000) : cells + 24 + 24 * n ≤ 590000 := by omega
theorem law_s {slots n : Nat} (h : slots + 2400 * (n + 1) ≤ 7000000) : slots + 2400 + 2400 * n ≤ 7000000 := by omega
theorem law_fc {cells n : Nat} (h : cells + 24 * (n + 1) ≤ 590000) {a b : Nat} (hab : a + b ≤ 24) : cells + a + b ≤ 601024 := by omega
theorem law_fs {slots n : Nat} (h : slots + 2400 * (n + 1) ≤ 7000000) {a b : Nat} (hab : a + b ≤ 2400) : slots + a + b ≤ 7293034 := by omega
