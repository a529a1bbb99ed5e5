/-! the reference's reader -/
theorem rdm_w0 {t : Int → Int} {n : Int} {S : RSt} {g rd pl p e : Int} {w : List Int} (h : RdM t n S g rd pl) (hp : p = rn cBl t rd) (he : e = rn cLt t p) (hr : g = 0 ∨ e - p ≠ (w.length : Int) ∨ ∃ i : Nat, i < w.length ∧ t (p + (i : Int)) ≠ w.getD i 0) : ¬ (S.1 = 1 ∧ wOk t S.2 w) := by
  rintro ⟨h1, h2⟩
  have s2 := h.2.2.1 h1
  rw [← hp] at s2
  rw [s2] at h2
  have hg := h.2.1.mpr h1
  rcases hr with q | q | ⟨i, hi, q⟩
  · exact hg q
  · have := h2.1
    omega
  · exact q (h2.2 i hi)
theorem rdm_w1 {t : Int → Int} {n : Int} {S : RSt} {g rd pl p e : Int} {w : List Int} (h : RdM t n S g rd pl) (hp : p = rn cBl t rd) (he : e = rn cLt t p) (hg : g ≠ 0) (hl : e - p = (w.length : Int)) (hc : ∀ i : Nat, i < w.length → t (p + (i : Int)) = w.getD i 0) : S.1 = 1 ∧ wOk t S.2 w := by
  have h1 := h.2.1.mp hg
  have s2 := h.2.2.1 h1
  rw [← hp] at s2
  refine ⟨h1, ?_, by rw [s2]; exact hc⟩
  rw [s2]
  omega
/-- it is well, and reads at rd -/
theorem rdm_st {t : Int → Int} {n : Int} {S : RSt} {g rd pl : Int} (hx : TXe t n) (hS : S = (1, rn cBl t rd)) (hg : g ≠ 0) (hr : 0 ≤ rd ∧ rd ≤ n) : RdM t n S g rd pl := by
  subst hS
  have hb := rn_in (P := cBl) (t := t) (n := n) (z := rd) (by unfold cBl; decide) hx hr.2
  exact ⟨Or.inr rfl, ⟨fun _ => rfl, fun _ => hg⟩, fun _ => rfl, fun q => absurd (show (1 : Int) = 0 from q) (by decide), hr, by show 0 ≤ rn cBl t rd ∧ rn cBl t rd ≤ n; omega⟩
theorem rdm_bad {t : Int → Int} {n : Int} {S : RSt} {g rd pl : Int} {p : Int} (hS : S = (0, p)) (hg : g = 0) (hp : pl = p) (hr : 0 ≤ rd ∧ rd ≤ n) (hb : 0 ≤ p ∧ p ≤ n) : RdM t n S g rd pl := by
  subst hS
  exact ⟨Or.inl rfl, ⟨fun q => absurd hg q, fun q => absurd (show (0 : Int) = 1 from q) (by decide)⟩, fun q => absurd (show (0 : Int) = 1 from q) (by decide), fun _ => hp.symm, hr, hb⟩
/-- the words that the reference has -/
def WDo (G : XG) (F : Nat → Nat → Nat) (a : Nat) : Prop := ∀ i : Nat, i < 10 → ∀ j : Nat, j < (kw i).length → aI (G.2.1 (F a (25 + i))) (j : Int) = (kw i).getD j 0
theorem kw_r : ∀ i : Nat, i < 10 → ∀ j : Nat, j < 8 → 0 ≤ (kw i).getD j 0 ∧ (kw i).getD j 0 ≤ 127 := by decide
theorem WDo.w {G : XG} {F : Nat → Nat → Nat} {a : Nat} (h : WDo G F a) {i n : Nat} (hi : i < 10) (hn : (kw i).length = n) : (kw i).length = n ∧ ∀ j : Nat, j < n → aI (G.2.1 (F a (25 + i))) (j : Int) = (kw i).getD j 0 ∧ 0 ≤ (kw i).getD j 0 ∧ (kw i).getD j 0 ≤ 127 := by
  refine ⟨hn, fun j hj => ⟨h i hi j (by omega), kw_r i hi j ?_⟩⟩
  have := (kw_b i hi).2
  omega
theorem XWd.n {K : Nat → Nat} {a n k : Nat} (h : XWd K a n) (hk : K a = k) : n = k - 43 := by
  rcases h with ⟨h1, h2⟩ | ⟨h1, h2⟩ | ⟨h1, h2⟩ | ⟨h1, h2⟩ | ⟨h1, h2⟩ <;> omega
theorem num_b {x y : Int} (h : (x = 0 ∧ y = 0) ∨ (x = 1 ∧ 0 ≤ y ∧ y ≤ 9) ∨ (x = 2 ∧ 0 ≤ y ∧ y ≤ 99) ∨ (x = 3 ∧ 0 ≤ y ∧ y ≤ 999) ∨ (x = 4 ∧ 0 ≤ y ∧ y ≤ 9999) ∨ (5 ≤ x ∧ 0 ≤ y ∧ y ≤ 999999)) : 0 ≤ y ∧ y ≤ 999999 := by omega
theorem v_X11_next_45_1 {K : Nat → Nat} {F : Nat → Nat → Nat} (a : Nat) (G : XG) (G_0 : XG) (N0 : Nat) (x5 : Int32) (x42 : Int32)
    (ha : K a = 13)
    (pr : ∀ j : Int, (G.1 a 37).toInt ≤ j → j < ((G_0.1 a 37).toInt) → cBl ((tM (G.2.1 (F a 35)) ((G.1 a 36).toInt)) j))
    (nt0 : 0 ≤ ((G.1 a 36).toInt) ∧ ((G.1 a 36).toInt) ≤ 80)
    (s0 : 0 ≤ ((G.1 a 37).toInt) ∧ ((G.1 a 37).toInt) ≤ ((G.1 a 36).toInt))
    (I0_0 : ((G.1 a 37).toInt) ≤ ((G_0.1 a 37).toInt) ∧ ((G_0.1 a 37).toInt) ≤ ((G.1 a 36).toInt))
    (hm0 : 200 - ((G_0.1 a 37).toInt) < (((N0) + 1 : Nat) : Int))
    (t5 : -128 ≤ x5.toInt ∧ x5.toInt ≤ 127 ∧ ((0 ≤ x5.toInt ∧ (tM (G.2.1 (F a 35)) ((G.1 a 36).toInt) ((G_0.1 a 37).toInt)) = x5.toInt) ∨ (x5.toInt < 0 ∧ (tM (G.2.1 (F a 35)) ((G.1 a 36).toInt) ((G_0.1 a 37).toInt)) = x5.toInt + 256)))
    (c10 : x5.toInt ≠ (32 : Int))
    (t42 : -128 ≤ x42.toInt ∧ x42.toInt ≤ 127 ∧ ((0 ≤ x42.toInt ∧ (tM (G.2.1 (F a 35)) ((G.1 a 36).toInt) ((G_0.1 a 37).toInt)) = x42.toInt) ∨ (x42.toInt < 0 ∧ (tM (G.2.1 (F a 35)) ((G.1 a 36).toInt) ((G_0.1 a 37).toInt)) = x42.toInt + 256))) :
    ((G_0.1 a 37).toInt) = rn cBl (tM (G.2.1 (F a 35)) ((G.1 a 36).toInt)) ((G.1 a 37).toInt) := by
  symm
  refine rn_eq ⟨by omega, pr, ?_⟩
  show ¬ (_ = (32 : Int))
  have := tM_f (G.2.1 (F a 35)) ((G.1 a 36).toInt) ((G_0.1 a 37).toInt)
  omega
theorem v_X11_next_45_2 {K : Nat → Nat} {F : Nat → Nat → Nat} (a : Nat) (G : XG) (G_0 : XG) (N0 : Nat) (x5 : Int32) (x42 : Int32)
    (ha : K a = 13)
    (pr : ∀ j : Int, (G.1 a 37).toInt ≤ j → j < ((G_0.1 a 37).toInt) → cBl ((tM (G.2.1 (F a 35)) ((G.1 a 36).toInt)) j))
    (nt0 : 0 ≤ ((G.1 a 36).toInt) ∧ ((G.1 a 36).toInt) ≤ 80)
    (s0 : 0 ≤ ((G.1 a 37).toInt) ∧ ((G.1 a 37).toInt) ≤ ((G.1 a 36).toInt))
    (I0_0 : ((G.1 a 37).toInt) ≤ ((G_0.1 a 37).toInt) ∧ ((G_0.1 a 37).toInt) ≤ ((G.1 a 36).toInt))
    (hm0 : 200 - ((G_0.1 a 37).toInt) < (((N0) + 1 : Nat) : Int))
    (t5 : -128 ≤ x5.toInt ∧ x5.toInt ≤ 127 ∧ ((0 ≤ x5.toInt ∧ (tM (G.2.1 (F a 35)) ((G.1 a 36).toInt) ((G_0.1 a 37).toInt)) = x5.toInt) ∨ (x5.toInt < 0 ∧ (tM (G.2.1 (F a 35)) ((G.1 a 36).toInt) ((G_0.1 a 37).toInt)) = x5.toInt + 256)))
    (c10 : ¬ (x5.toInt ≠ (32 : Int)))
    (z13 : ((0 ≤ ((G_0.1 a 37).toInt) ∧ ((G_0.1 a 37).toInt) < ((G.1 a 36).toInt)) ∧ True) ∨ (¬ (0 ≤ ((G_0.1 a 37).toInt) ∧ ((G_0.1 a 37).toInt) < ((G.1 a 36).toInt)) ∧ (tM (G.2.1 (F a 35)) ((G.1 a 36).toInt) ((G_0.1 a 37).toInt)) = 0))
    (c21 : ((G.1 a 36).toInt) ≤ ((G_0.1 a 37).toInt))
    (t42 : -128 ≤ x42.toInt ∧ x42.toInt ≤ 127 ∧ ((0 ≤ x42.toInt ∧ (tM (G.2.1 (F a 35)) ((G.1 a 36).toInt) ((G_0.1 a 37).toInt)) = x42.toInt) ∨ (x42.toInt < 0 ∧ (tM (G.2.1 (F a 35)) ((G.1 a 36).toInt) ((G_0.1 a 37).toInt)) = x42.toInt + 256))) :
    ((G_0.1 a 37).toInt) = rn cBl (tM (G.2.1 (F a 35)) ((G.1 a 36).toInt)) ((G.1 a 37).toInt) := by
  symm
  refine rn_eq ⟨by omega, pr, ?_⟩
  show ¬ (_ = (32 : Int))
  have := tM_f (G.2.1 (F a 35)) ((G.1 a 36).toInt) ((G_0.1 a 37).toInt)
  omega
theorem v_X11_next_34_3 {K : Nat → Nat} {F : Nat → Nat → Nat} (a : Nat) (G : XG) (G_0 : XG) (N0 : Nat) (x5 : Int32)
    (ha : K a = 13)
    (pr : ∀ j : Int, (G.1 a 37).toInt ≤ j → j < ((G_0.1 a 37).toInt) → cBl ((tM (G.2.1 (F a 35)) ((G.1 a 36).toInt)) j))
    (nt0 : 0 ≤ ((G.1 a 36).toInt) ∧ ((G.1 a 36).toInt) ≤ 80)
    (s0 : 0 ≤ ((G.1 a 37).toInt) ∧ ((G.1 a 37).toInt) ≤ ((G.1 a 36).toInt))
    (I0_0 : ((G.1 a 37).toInt) ≤ ((G_0.1 a 37).toInt) ∧ ((G_0.1 a 37).toInt) ≤ ((G.1 a 36).toInt))
    (hm0 : 200 - ((G_0.1 a 37).toInt) < (((N0) + 1 : Nat) : Int))
    (t5 : -128 ≤ x5.toInt ∧ x5.toInt ≤ 127 ∧ ((0 ≤ x5.toInt ∧ (tM (G.2.1 (F a 35)) ((G.1 a 36).toInt) ((G_0.1 a 37).toInt)) = x5.toInt) ∨ (x5.toInt < 0 ∧ (tM (G.2.1 (F a 35)) ((G.1 a 36).toInt) ((G_0.1 a 37).toInt)) = x5.toInt + 256)))
    (c10 : ¬ (x5.toInt ≠ (32 : Int)))
    (z13 : ((0 ≤ ((G_0.1 a 37).toInt) ∧ ((G_0.1 a 37).toInt) < ((G.1 a 36).toInt)) ∧ True) ∨ (¬ (0 ≤ ((G_0.1 a 37).toInt) ∧ ((G_0.1 a 37).toInt) < ((G.1 a 36).toInt)) ∧ (tM (G.2.1 (F a 35)) ((G.1 a 36).toInt) ((G_0.1 a 37).toInt)) = 0))
    (c21 : ¬ (((G.1 a 36).toInt) ≤ ((G_0.1 a 37).toInt))) :
    ∀ j : Int, (G.1 a 37).toInt ≤ j → j < (((G_0.1 a 37).toInt) + (1 : Int)) → cBl ((tM (G.2.1 (F a 35)) ((G.1 a 36).toInt)) j) := by
  intro j h1 h2
  by_cases e : j = (G_0.1 a 37).toInt
  · rw [e]; show _ = (32 : Int); omega
  · exact pr j h1 (by omega)
theorem v_X11_next_9999_4 {K : Nat → Nat} {F : Nat → Nat → Nat} (a : Nat) (G : XG)
    (ha : K a = 13)
    (nt0 : 0 ≤ ((G.1 a 36).toInt) ∧ ((G.1 a 36).toInt) ≤ 80)
    (s0 : 0 ≤ ((G.1 a 37).toInt) ∧ ((G.1 a 37).toInt) ≤ ((G.1 a 36).toInt)) :
    ∀ j : Int, (G.1 a 37).toInt ≤ j → j < ((G.1 a 37).toInt) → cBl ((tM (G.2.1 (F a 35)) ((G.1 a 36).toInt)) j) := by
  intro j h1 h2; exact absurd h1 (by omega)
theorem v_X11_isWord_112_1 {K : Nat → Nat} {F : Nat → Nat → Nat} (a : Nat) (G : XG) (G1 : XG) (r1 : RSt) (r2 : List Int) (n0 : Nat) (p0 : Nat) (l2_10 : Int32) (l3_54 : Int32) (l4_54 : Int32) (x1 : Int32) (N10 : Nat) (x12 : Int32) (x15 : Int32) (N54 : Nat)
    (ha : K a = 13)
    (hrm : RdM (tM (G.2.1 (F a 35)) ((G.1 a 36).toInt)) ((G.1 a 36).toInt) r1 ((G.1 a 39).toInt) ((G.1 a 37).toInt) ((G.1 a 38).toInt))
    (hwd : r2.length = n0 ∧ ∀ i : Nat, i < n0 → aI (G.2.1 p0) (i : Int) = r2.getD i 0 ∧ 0 ≤ r2.getD i 0 ∧ r2.getD i 0 ≤ 127)
    (oq1 : ((G1.1 a 37).toInt) = rn cBl (tM (G.2.1 (F a 35)) ((G.1 a 36).toInt)) ((G.1 a 37).toInt))
    (pl : ∀ j : Int, (G1.1 a 37).toInt ≤ j → j < l2_10.toInt → cLt ((tM (G.2.1 (F a 35)) ((G.1 a 36).toInt)) j))
    (pw : (l3_54.toInt = 1 → ((G.1 a 39).toInt ≠ 0 ∧ l2_10.toInt - (G1.1 a 37).toInt = (n0 : Int) ∧ ∀ i : Nat, (i : Int) < l4_54.toInt → (tM (G.2.1 (F a 35)) ((G.1 a 36).toInt)) ((G1.1 a 37).toInt + (i : Int)) = r2.getD i 0)) ∧ (l3_54.toInt = 0 → ¬ (r1.1 = 1 ∧ wOk (tM (G.2.1 (F a 35)) ((G.1 a 36).toInt)) r1.2 r2)))
    (nt0 : 0 ≤ ((G.1 a 36).toInt) ∧ ((G.1 a 36).toInt) ≤ 80)
    (f11 : 3 ≤ (((n0) : Nat) : Int) ∧ (((n0) : Nat) : Int) ≤ 7)
    (z0 : 0 ≤ ((G.1 a 37).toInt) ∧ ((G.1 a 37).toInt) ≤ ((G.1 a 36).toInt))
    (t1 : -128 ≤ x1.toInt ∧ x1.toInt ≤ 127 ∧ ((0 ≤ x1.toInt ∧ (tM (G.2.1 (F a 35)) ((G.1 a 36).toInt) ((G1.1 a 37).toInt)) = x1.toInt) ∨ (x1.toInt < 0 ∧ (tM (G.2.1 (F a 35)) ((G.1 a 36).toInt) ((G1.1 a 37).toInt)) = x1.toInt + 256)) ∧ ((G.1 a 37).toInt) ≤ ((G1.1 a 37).toInt) ∧ ((G1.1 a 37).toInt) ≤ ((G.1 a 36).toInt))
    (I10_0 : ((G1.1 a 37).toInt) ≤ l2_10.toInt ∧ l2_10.toInt ≤ ((G.1 a 36).toInt))
    (hm10 : 2147483648 - l2_10.toInt < (((N10) + 1 : Nat) : Int))
    (z10 : ((0 ≤ l2_10.toInt ∧ l2_10.toInt < ((G.1 a 36).toInt)) ∧ True) ∨ (¬ (0 ≤ l2_10.toInt ∧ l2_10.toInt < ((G.1 a 36).toInt)) ∧ (tM (G.2.1 (F a 35)) ((G.1 a 36).toInt) (l2_10.toInt)) = 0))
    (t12 : -128 ≤ x12.toInt ∧ x12.toInt ≤ 127 ∧ ((0 ≤ x12.toInt ∧ (tM (G.2.1 (F a 35)) ((G.1 a 36).toInt) (l2_10.toInt)) = x12.toInt) ∨ (x12.toInt < 0 ∧ (tM (G.2.1 (F a 35)) ((G.1 a 36).toInt) (l2_10.toInt)) = x12.toInt + 256)))
    (t15 : (x15.toInt = 1 ∧ 97 ≤ x12.toInt ∧ x12.toInt ≤ 122) ∨ (x15.toInt = 0 ∧ (x12.toInt < 97 ∨ 122 < x12.toInt)))
    (c18 : x15.toInt = 0)
    (f20 : ((G.1 a 39).toInt) = 0 ∨ ((G.1 a 39).toInt) = 1)
    (c31 : ((G.1 a 39).toInt) = 0)
    (I54_0 : 0 ≤ l4_54.toInt ∧ l4_54.toInt ≤ (((n0) : Nat) : Int))
    (I54_1 : l3_54.toInt = 0 ∨ l3_54.toInt = 1)
    (I54_2 : (0 : Int) ≤ l4_54.toInt)
    (hm54 : 2147483648 - l4_54.toInt < (((N54) + 1 : Nat) : Int))
    (c55 : l3_54.toInt = 0) :
    l3_54.toInt = (tkW (tM (G.2.1 (F a 35)) ((G.1 a 36).toInt)) r2 r1).1 := by
  have he : l2_10.toInt = rn cLt (tM (G.2.1 (F a 35)) ((G.1 a 36).toInt)) ((G1.1 a 37).toInt) := by
    symm
    refine rn_eq ⟨by omega, pl, cLt_n ?_⟩
    omega
  first
    | (have nw := pw.2 (by omega)
       rw [tkW_f nw]
       show l3_54.toInt = 0
       omega)
    | (obtain ⟨w1, w2, w3⟩ := pw.1 (by omega)
       have wk := rdm_w1 hrm oq1 he w1 (by rw [hwd.1]; exact w2) (fun i hi => w3 i (by rw [hwd.1] at hi; omega))
       rw [tkW_t wk.1 wk.2]
       show l3_54.toInt = 1
       omega)
theorem v_X11_isWord_112_2 {K : Nat → Nat} {F : Nat → Nat → Nat} (a : Nat) (G : XG) (G1 : XG) (G108 : XG) (r1 : RSt) (r2 : List Int) (n0 : Nat) (p0 : Nat) (l2_10 : Int32) (l3_54 : Int32) (l4_54 : Int32) (x1 : Int32) (N10 : Nat) (x12 : Int32) (x15 : Int32) (N54 : Nat)
    (ha : K a = 13)
    (hrm : RdM (tM (G.2.1 (F a 35)) ((G.1 a 36).toInt)) ((G.1 a 36).toInt) r1 ((G.1 a 39).toInt) ((G.1 a 37).toInt) ((G.1 a 38).toInt))
    (hwd : r2.length = n0 ∧ ∀ i : Nat, i < n0 → aI (G.2.1 p0) (i : Int) = r2.getD i 0 ∧ 0 ≤ r2.getD i 0 ∧ r2.getD i 0 ≤ 127)
    (oq1 : ((G1.1 a 37).toInt) = rn cBl (tM (G.2.1 (F a 35)) ((G.1 a 36).toInt)) ((G.1 a 37).toInt))
    (pl : ∀ j : Int, (G1.1 a 37).toInt ≤ j → j < l2_10.toInt → cLt ((tM (G.2.1 (F a 35)) ((G.1 a 36).toInt)) j))
    (pw : (l3_54.toInt = 1 → ((G.1 a 39).toInt ≠ 0 ∧ l2_10.toInt - (G1.1 a 37).toInt = (n0 : Int) ∧ ∀ i : Nat, (i : Int) < l4_54.toInt → (tM (G.2.1 (F a 35)) ((G.1 a 36).toInt)) ((G1.1 a 37).toInt + (i : Int)) = r2.getD i 0)) ∧ (l3_54.toInt = 0 → ¬ (r1.1 = 1 ∧ wOk (tM (G.2.1 (F a 35)) ((G.1 a 36).toInt)) r1.2 r2)))
    (nt0 : 0 ≤ ((G.1 a 36).toInt) ∧ ((G.1 a 36).toInt) ≤ 80)
    (f11 : 3 ≤ (((n0) : Nat) : Int) ∧ (((n0) : Nat) : Int) ≤ 7)
    (z0 : 0 ≤ ((G.1 a 37).toInt) ∧ ((G.1 a 37).toInt) ≤ ((G.1 a 36).toInt))
    (t1 : -128 ≤ x1.toInt ∧ x1.toInt ≤ 127 ∧ ((0 ≤ x1.toInt ∧ (tM (G.2.1 (F a 35)) ((G.1 a 36).toInt) ((G1.1 a 37).toInt)) = x1.toInt) ∨ (x1.toInt < 0 ∧ (tM (G.2.1 (F a 35)) ((G.1 a 36).toInt) ((G1.1 a 37).toInt)) = x1.toInt + 256)) ∧ ((G.1 a 37).toInt) ≤ ((G1.1 a 37).toInt) ∧ ((G1.1 a 37).toInt) ≤ ((G.1 a 36).toInt))
    (I10_0 : ((G1.1 a 37).toInt) ≤ l2_10.toInt ∧ l2_10.toInt ≤ ((G.1 a 36).toInt))
    (hm10 : 2147483648 - l2_10.toInt < (((N10) + 1 : Nat) : Int))
    (z10 : ((0 ≤ l2_10.toInt ∧ l2_10.toInt < ((G.1 a 36).toInt)) ∧ True) ∨ (¬ (0 ≤ l2_10.toInt ∧ l2_10.toInt < ((G.1 a 36).toInt)) ∧ (tM (G.2.1 (F a 35)) ((G.1 a 36).toInt) (l2_10.toInt)) = 0))
    (t12 : -128 ≤ x12.toInt ∧ x12.toInt ≤ 127 ∧ ((0 ≤ x12.toInt ∧ (tM (G.2.1 (F a 35)) ((G.1 a 36).toInt) (l2_10.toInt)) = x12.toInt) ∨ (x12.toInt < 0 ∧ (tM (G.2.1 (F a 35)) ((G.1 a 36).toInt) (l2_10.toInt)) = x12.toInt + 256)))
    (t15 : (x15.toInt = 1 ∧ 97 ≤ x12.toInt ∧ x12.toInt ≤ 122) ∨ (x15.toInt = 0 ∧ (x12.toInt < 97 ∨ 122 < x12.toInt)))
    (c18 : x15.toInt = 0)
    (f20 : ((G.1 a 39).toInt) = 0 ∨ ((G.1 a 39).toInt) = 1)
    (c31 : ((G.1 a 39).toInt) = 0)
    (I54_0 : 0 ≤ l4_54.toInt ∧ l4_54.toInt ≤ (((n0) : Nat) : Int))
    (I54_1 : l3_54.toInt = 0 ∨ l3_54.toInt = 1)
    (I54_2 : (0 : Int) ≤ l4_54.toInt)
    (hm54 : 2147483648 - l4_54.toInt < (((N54) + 1 : Nat) : Int))
    (c55 : l3_54.toInt = 0)
    (d_G108_a_37 : G108.1 a 37 = (G1.1 a 37))
    (d_G108_a_38 : G108.1 a 38 = G.1 a 38)
    (d_G108_a_39 : G108.1 a 39 = G.1 a 39) :
    RdM (tM (G.2.1 (F a 35)) ((G.1 a 36).toInt)) ((G.1 a 36).toInt) (tkW (tM (G.2.1 (F a 35)) ((G.1 a 36).toInt)) r2 r1).2 ((G108.1 a 39).toInt) ((G108.1 a 37).toInt) ((G108.1 a 38).toInt) := by
  have he : l2_10.toInt = rn cLt (tM (G.2.1 (F a 35)) ((G.1 a 36).toInt)) ((G1.1 a 37).toInt) := by
    symm
    refine rn_eq ⟨by omega, pl, cLt_n ?_⟩
    omega
  first
    | (have nw := pw.2 (by omega)
       rw [tkW_f nw, d_G108_a_37, d_G108_a_38, d_G108_a_39]
       exact hrm.sk (tM_e _ _) oq1)
    | (obtain ⟨w1, w2, w3⟩ := pw.1 (by omega)
       have wk := rdm_w1 hrm oq1 he w1 (by rw [hwd.1]; exact w2) (fun i hi => w3 i (by rw [hwd.1] at hi; omega))
       rw [tkW_t wk.1 wk.2, d_G108_a_37, d_G108_a_38, d_G108_a_39]
       refine rdm_st (tM_e _ _) ?_ w1 (by omega)
       rw [show r1.2 + (r2.length : Int) = l2_10.toInt from ?_]
       have s2 := hrm.2.2.1 wk.1
       rw [← oq1] at s2
       have := hwd.1
       omega)
theorem v_X11_isWord_112_3 {K : Nat → Nat} {F : Nat → Nat → Nat} (a : Nat) (G : XG) (G1 : XG) (l2_10 : Int32) (r1 : RSt) (r2 : List Int) (n0 : Nat) (p0 : Nat) (l3_54 : Int32) (l4_54 : Int32) (x1 : Int32) (N10 : Nat) (x12 : Int32) (x15 : Int32) (N54 : Nat)
    (ha : K a = 13)
    (hrm : RdM (tM (G.2.1 (F a 35)) ((G.1 a 36).toInt)) ((G.1 a 36).toInt) r1 ((G.1 a 39).toInt) ((G.1 a 37).toInt) ((G.1 a 38).toInt))
    (hwd : r2.length = n0 ∧ ∀ i : Nat, i < n0 → aI (G.2.1 p0) (i : Int) = r2.getD i 0 ∧ 0 ≤ r2.getD i 0 ∧ r2.getD i 0 ≤ 127)
    (oq1 : ((G1.1 a 37).toInt) = rn cBl (tM (G.2.1 (F a 35)) ((G.1 a 36).toInt)) ((G.1 a 37).toInt))
    (pl : ∀ j : Int, (G1.1 a 37).toInt ≤ j → j < l2_10.toInt → cLt ((tM (G.2.1 (F a 35)) ((G.1 a 36).toInt)) j))
    (pw : (l3_54.toInt = 1 → ((G.1 a 39).toInt ≠ 0 ∧ l2_10.toInt - (G1.1 a 37).toInt = (n0 : Int) ∧ ∀ i : Nat, (i : Int) < l4_54.toInt → (tM (G.2.1 (F a 35)) ((G.1 a 36).toInt)) ((G1.1 a 37).toInt + (i : Int)) = r2.getD i 0)) ∧ (l3_54.toInt = 0 → ¬ (r1.1 = 1 ∧ wOk (tM (G.2.1 (F a 35)) ((G.1 a 36).toInt)) r1.2 r2)))
    (nt0 : 0 ≤ ((G.1 a 36).toInt) ∧ ((G.1 a 36).toInt) ≤ 80)
    (f11 : 3 ≤ (((n0) : Nat) : Int) ∧ (((n0) : Nat) : Int) ≤ 7)
    (z0 : 0 ≤ ((G.1 a 37).toInt) ∧ ((G.1 a 37).toInt) ≤ ((G.1 a 36).toInt))
    (t1 : -128 ≤ x1.toInt ∧ x1.toInt ≤ 127 ∧ ((0 ≤ x1.toInt ∧ (tM (G.2.1 (F a 35)) ((G.1 a 36).toInt) ((G1.1 a 37).toInt)) = x1.toInt) ∨ (x1.toInt < 0 ∧ (tM (G.2.1 (F a 35)) ((G.1 a 36).toInt) ((G1.1 a 37).toInt)) = x1.toInt + 256)) ∧ ((G.1 a 37).toInt) ≤ ((G1.1 a 37).toInt) ∧ ((G1.1 a 37).toInt) ≤ ((G.1 a 36).toInt))
    (I10_0 : ((G1.1 a 37).toInt) ≤ l2_10.toInt ∧ l2_10.toInt ≤ ((G.1 a 36).toInt))
    (hm10 : 2147483648 - l2_10.toInt < (((N10) + 1 : Nat) : Int))
    (z10 : ((0 ≤ l2_10.toInt ∧ l2_10.toInt < ((G.1 a 36).toInt)) ∧ True) ∨ (¬ (0 ≤ l2_10.toInt ∧ l2_10.toInt < ((G.1 a 36).toInt)) ∧ (tM (G.2.1 (F a 35)) ((G.1 a 36).toInt) (l2_10.toInt)) = 0))
    (t12 : -128 ≤ x12.toInt ∧ x12.toInt ≤ 127 ∧ ((0 ≤ x12.toInt ∧ (tM (G.2.1 (F a 35)) ((G.1 a 36).toInt) (l2_10.toInt)) = x12.toInt) ∨ (x12.toInt < 0 ∧ (tM (G.2.1 (F a 35)) ((G.1 a 36).toInt) (l2_10.toInt)) = x12.toInt + 256)))
    (t15 : (x15.toInt = 1 ∧ 97 ≤ x12.toInt ∧ x12.toInt ≤ 122) ∨ (x15.toInt = 0 ∧ (x12.toInt < 97 ∨ 122 < x12.toInt)))
    (c18 : x15.toInt = 0)
    (f20 : ((G.1 a 39).toInt) = 0 ∨ ((G.1 a 39).toInt) = 1)
    (c31 : ((G.1 a 39).toInt) = 0)
    (I54_0 : 0 ≤ l4_54.toInt ∧ l4_54.toInt ≤ (((n0) : Nat) : Int))
    (I54_1 : l3_54.toInt = 0 ∨ l3_54.toInt = 1)
    (I54_2 : (0 : Int) ≤ l4_54.toInt)
    (hm54 : 2147483648 - l4_54.toInt < (((N54) + 1 : Nat) : Int))
    (c55 : l3_54.toInt = 0)
    (c97 : ¬ (l3_54.toInt = 0)) :
    l3_54.toInt = (tkW (tM (G.2.1 (F a 35)) ((G.1 a 36).toInt)) r2 r1).1 := by
  have he : l2_10.toInt = rn cLt (tM (G.2.1 (F a 35)) ((G.1 a 36).toInt)) ((G1.1 a 37).toInt) := by
    symm
    refine rn_eq ⟨by omega, pl, cLt_n ?_⟩
    omega
  first
    | (have nw := pw.2 (by omega)
       rw [tkW_f nw]
       show l3_54.toInt = 0
       omega)
    | (obtain ⟨w1, w2, w3⟩ := pw.1 (by omega)
       have wk := rdm_w1 hrm oq1 he w1 (by rw [hwd.1]; exact w2) (fun i hi => w3 i (by rw [hwd.1] at hi; omega))
       rw [tkW_t wk.1 wk.2]
       show l3_54.toInt = 1
       omega)
theorem v_X11_isWord_112_4 {K : Nat → Nat} {F : Nat → Nat → Nat} (a : Nat) (G : XG) (G1 : XG) (G108 : XG) (l2_10 : Int32) (r1 : RSt) (r2 : List Int) (n0 : Nat) (p0 : Nat) (l3_54 : Int32) (l4_54 : Int32) (x1 : Int32) (N10 : Nat) (x12 : Int32) (x15 : Int32) (N54 : Nat)
    (ha : K a = 13)
    (hrm : RdM (tM (G.2.1 (F a 35)) ((G.1 a 36).toInt)) ((G.1 a 36).toInt) r1 ((G.1 a 39).toInt) ((G.1 a 37).toInt) ((G.1 a 38).toInt))
    (hwd : r2.length = n0 ∧ ∀ i : Nat, i < n0 → aI (G.2.1 p0) (i : Int) = r2.getD i 0 ∧ 0 ≤ r2.getD i 0 ∧ r2.getD i 0 ≤ 127)
    (oq1 : ((G1.1 a 37).toInt) = rn cBl (tM (G.2.1 (F a 35)) ((G.1 a 36).toInt)) ((G.1 a 37).toInt))
    (pl : ∀ j : Int, (G1.1 a 37).toInt ≤ j → j < l2_10.toInt → cLt ((tM (G.2.1 (F a 35)) ((G.1 a 36).toInt)) j))
    (pw : (l3_54.toInt = 1 → ((G.1 a 39).toInt ≠ 0 ∧ l2_10.toInt - (G1.1 a 37).toInt = (n0 : Int) ∧ ∀ i : Nat, (i : Int) < l4_54.toInt → (tM (G.2.1 (F a 35)) ((G.1 a 36).toInt)) ((G1.1 a 37).toInt + (i : Int)) = r2.getD i 0)) ∧ (l3_54.toInt = 0 → ¬ (r1.1 = 1 ∧ wOk (tM (G.2.1 (F a 35)) ((G.1 a 36).toInt)) r1.2 r2)))
    (nt0 : 0 ≤ ((G.1 a 36).toInt) ∧ ((G.1 a 36).toInt) ≤ 80)
    (f11 : 3 ≤ (((n0) : Nat) : Int) ∧ (((n0) : Nat) : Int) ≤ 7)
    (z0 : 0 ≤ ((G.1 a 37).toInt) ∧ ((G.1 a 37).toInt) ≤ ((G.1 a 36).toInt))
    (t1 : -128 ≤ x1.toInt ∧ x1.toInt ≤ 127 ∧ ((0 ≤ x1.toInt ∧ (tM (G.2.1 (F a 35)) ((G.1 a 36).toInt) ((G1.1 a 37).toInt)) = x1.toInt) ∨ (x1.toInt < 0 ∧ (tM (G.2.1 (F a 35)) ((G.1 a 36).toInt) ((G1.1 a 37).toInt)) = x1.toInt + 256)) ∧ ((G.1 a 37).toInt) ≤ ((G1.1 a 37).toInt) ∧ ((G1.1 a 37).toInt) ≤ ((G.1 a 36).toInt))
    (I10_0 : ((G1.1 a 37).toInt) ≤ l2_10.toInt ∧ l2_10.toInt ≤ ((G.1 a 36).toInt))
    (hm10 : 2147483648 - l2_10.toInt < (((N10) + 1 : Nat) : Int))
    (z10 : ((0 ≤ l2_10.toInt ∧ l2_10.toInt < ((G.1 a 36).toInt)) ∧ True) ∨ (¬ (0 ≤ l2_10.toInt ∧ l2_10.toInt < ((G.1 a 36).toInt)) ∧ (tM (G.2.1 (F a 35)) ((G.1 a 36).toInt) (l2_10.toInt)) = 0))
    (t12 : -128 ≤ x12.toInt ∧ x12.toInt ≤ 127 ∧ ((0 ≤ x12.toInt ∧ (tM (G.2.1 (F a 35)) ((G.1 a 36).toInt) (l2_10.toInt)) = x12.toInt) ∨ (x12.toInt < 0 ∧ (tM (G.2.1 (F a 35)) ((G.1 a 36).toInt) (l2_10.toInt)) = x12.toInt + 256)))
    (t15 : (x15.toInt = 1 ∧ 97 ≤ x12.toInt ∧ x12.toInt ≤ 122) ∨ (x15.toInt = 0 ∧ (x12.toInt < 97 ∨ 122 < x12.toInt)))
    (c18 : x15.toInt = 0)
    (f20 : ((G.1 a 39).toInt) = 0 ∨ ((G.1 a 39).toInt) = 1)
    (c31 : ((G.1 a 39).toInt) = 0)
    (I54_0 : 0 ≤ l4_54.toInt ∧ l4_54.toInt ≤ (((n0) : Nat) : Int))
    (I54_1 : l3_54.toInt = 0 ∨ l3_54.toInt = 1)
    (I54_2 : (0 : Int) ≤ l4_54.toInt)
    (hm54 : 2147483648 - l4_54.toInt < (((N54) + 1 : Nat) : Int))
    (c55 : l3_54.toInt = 0)
    (c97 : ¬ (l3_54.toInt = 0))
    (d_G108_a_37 : G108.1 a 37 = l2_10)
    (d_G108_a_38 : G108.1 a 38 = G.1 a 38)
    (d_G108_a_39 : G108.1 a 39 = G.1 a 39) :
    RdM (tM (G.2.1 (F a 35)) ((G.1 a 36).toInt)) ((G.1 a 36).toInt) (tkW (tM (G.2.1 (F a 35)) ((G.1 a 36).toInt)) r2 r1).2 ((G108.1 a 39).toInt) ((G108.1 a 37).toInt) ((G108.1 a 38).toInt) := by
  have he : l2_10.toInt = rn cLt (tM (G.2.1 (F a 35)) ((G.1 a 36).toInt)) ((G1.1 a 37).toInt) := by
    symm
    refine rn_eq ⟨by omega, pl, cLt_n ?_⟩
    omega
  first
    | (have nw := pw.2 (by omega)
       rw [tkW_f nw, d_G108_a_37, d_G108_a_38, d_G108_a_39]
       exact hrm.sk (tM_e _ _) oq1)
    | (obtain ⟨w1, w2, w3⟩ := pw.1 (by omega)
       have wk := rdm_w1 hrm oq1 he w1 (by rw [hwd.1]; exact w2) (fun i hi => w3 i (by rw [hwd.1] at hi; omega))
       rw [tkW_t wk.1 wk.2, d_G108_a_37, d_G108_a_38, d_G108_a_39]
       refine rdm_st (tM_e _ _) ?_ w1 (by omega)
       rw [show r1.2 + (r2.length : Int) = l2_10.toInt from ?_]
       have s2 := hrm.2.2.1 wk.1
       rw [← oq1] at s2
       have := hwd.1
       omega)
theorem v_X11_isWord_112_5 {K : Nat → Nat} {F : Nat → Nat → Nat} (a : Nat) (G : XG) (G1 : XG) (r1 : RSt) (r2 : List Int) (n0 : Nat) (p0 : Nat) (l2_10 : Int32) (l3_54 : Int32) (l4_54 : Int32) (x1 : Int32) (N10 : Nat) (x12 : Int32) (x15 : Int32) (N54 : Nat) (x61 : Int32)
    (ha : K a = 13)
    (hrm : RdM (tM (G.2.1 (F a 35)) ((G.1 a 36).toInt)) ((G.1 a 36).toInt) r1 ((G.1 a 39).toInt) ((G.1 a 37).toInt) ((G.1 a 38).toInt))
    (hwd : r2.length = n0 ∧ ∀ i : Nat, i < n0 → aI (G.2.1 p0) (i : Int) = r2.getD i 0 ∧ 0 ≤ r2.getD i 0 ∧ r2.getD i 0 ≤ 127)
    (oq1 : ((G1.1 a 37).toInt) = rn cBl (tM (G.2.1 (F a 35)) ((G.1 a 36).toInt)) ((G.1 a 37).toInt))
    (pl : ∀ j : Int, (G1.1 a 37).toInt ≤ j → j < l2_10.toInt → cLt ((tM (G.2.1 (F a 35)) ((G.1 a 36).toInt)) j))
    (pw : (l3_54.toInt = 1 → ((G.1 a 39).toInt ≠ 0 ∧ l2_10.toInt - (G1.1 a 37).toInt = (n0 : Int) ∧ ∀ i : Nat, (i : Int) < l4_54.toInt → (tM (G.2.1 (F a 35)) ((G.1 a 36).toInt)) ((G1.1 a 37).toInt + (i : Int)) = r2.getD i 0)) ∧ (l3_54.toInt = 0 → ¬ (r1.1 = 1 ∧ wOk (tM (G.2.1 (F a 35)) ((G.1 a 36).toInt)) r1.2 r2)))
    (nt0 : 0 ≤ ((G.1 a 36).toInt) ∧ ((G.1 a 36).toInt) ≤ 80)
    (f11 : 3 ≤ (((n0) : Nat) : Int) ∧ (((n0) : Nat) : Int) ≤ 7)
    (z0 : 0 ≤ ((G.1 a 37).toInt) ∧ ((G.1 a 37).toInt) ≤ ((G.1 a 36).toInt))
    (t1 : -128 ≤ x1.toInt ∧ x1.toInt ≤ 127 ∧ ((0 ≤ x1.toInt ∧ (tM (G.2.1 (F a 35)) ((G.1 a 36).toInt) ((G1.1 a 37).toInt)) = x1.toInt) ∨ (x1.toInt < 0 ∧ (tM (G.2.1 (F a 35)) ((G.1 a 36).toInt) ((G1.1 a 37).toInt)) = x1.toInt + 256)) ∧ ((G.1 a 37).toInt) ≤ ((G1.1 a 37).toInt) ∧ ((G1.1 a 37).toInt) ≤ ((G.1 a 36).toInt))
    (I10_0 : ((G1.1 a 37).toInt) ≤ l2_10.toInt ∧ l2_10.toInt ≤ ((G.1 a 36).toInt))
    (hm10 : 2147483648 - l2_10.toInt < (((N10) + 1 : Nat) : Int))
    (z10 : ((0 ≤ l2_10.toInt ∧ l2_10.toInt < ((G.1 a 36).toInt)) ∧ True) ∨ (¬ (0 ≤ l2_10.toInt ∧ l2_10.toInt < ((G.1 a 36).toInt)) ∧ (tM (G.2.1 (F a 35)) ((G.1 a 36).toInt) (l2_10.toInt)) = 0))
    (t12 : -128 ≤ x12.toInt ∧ x12.toInt ≤ 127 ∧ ((0 ≤ x12.toInt ∧ (tM (G.2.1 (F a 35)) ((G.1 a 36).toInt) (l2_10.toInt)) = x12.toInt) ∨ (x12.toInt < 0 ∧ (tM (G.2.1 (F a 35)) ((G.1 a 36).toInt) (l2_10.toInt)) = x12.toInt + 256)))
    (t15 : (x15.toInt = 1 ∧ 97 ≤ x12.toInt ∧ x12.toInt ≤ 122) ∨ (x15.toInt = 0 ∧ (x12.toInt < 97 ∨ 122 < x12.toInt)))
    (c18 : x15.toInt = 0)
    (f20 : ((G.1 a 39).toInt) = 0 ∨ ((G.1 a 39).toInt) = 1)
    (c31 : ((G.1 a 39).toInt) = 0)
    (I54_0 : 0 ≤ l4_54.toInt ∧ l4_54.toInt ≤ (((n0) : Nat) : Int))
    (I54_1 : l3_54.toInt = 0 ∨ l3_54.toInt = 1)
    (I54_2 : (0 : Int) ≤ l4_54.toInt)
    (hm54 : 2147483648 - l4_54.toInt < (((N54) + 1 : Nat) : Int))
    (c55 : ¬ (l3_54.toInt = 0))
    (t61 : x61.toInt = (((n0) : Nat) : Int))
    (c62 : x61.toInt ≤ l4_54.toInt)
    (c97 : l3_54.toInt = 0) :
    l3_54.toInt = (tkW (tM (G.2.1 (F a 35)) ((G.1 a 36).toInt)) r2 r1).1 := by
  have he : l2_10.toInt = rn cLt (tM (G.2.1 (F a 35)) ((G.1 a 36).toInt)) ((G1.1 a 37).toInt) := by
    symm
    refine rn_eq ⟨by omega, pl, cLt_n ?_⟩
    omega
  first
    | (have nw := pw.2 (by omega)
       rw [tkW_f nw]
       show l3_54.toInt = 0
       omega)
    | (obtain ⟨w1, w2, w3⟩ := pw.1 (by omega)
       have wk := rdm_w1 hrm oq1 he w1 (by rw [hwd.1]; exact w2) (fun i hi => w3 i (by rw [hwd.1] at hi; omega))
       rw [tkW_t wk.1 wk.2]
       show l3_54.toInt = 1
       omega)
theorem v_X11_isWord_112_6 {K : Nat → Nat} {F : Nat → Nat → Nat} (a : Nat) (G : XG) (G1 : XG) (G108 : XG) (r1 : RSt) (r2 : List Int) (n0 : Nat) (p0 : Nat) (l2_10 : Int32) (l3_54 : Int32) (l4_54 : Int32) (x1 : Int32) (N10 : Nat) (x12 : Int32) (x15 : Int32) (N54 : Nat) (x61 : Int32)
    (ha : K a = 13)
    (hrm : RdM (tM (G.2.1 (F a 35)) ((G.1 a 36).toInt)) ((G.1 a 36).toInt) r1 ((G.1 a 39).toInt) ((G.1 a 37).toInt) ((G.1 a 38).toInt))
    (hwd : r2.length = n0 ∧ ∀ i : Nat, i < n0 → aI (G.2.1 p0) (i : Int) = r2.getD i 0 ∧ 0 ≤ r2.getD i 0 ∧ r2.getD i 0 ≤ 127)
    (oq1 : ((G1.1 a 37).toInt) = rn cBl (tM (G.2.1 (F a 35)) ((G.1 a 36).toInt)) ((G.1 a 37).toInt))
    (pl : ∀ j : Int, (G1.1 a 37).toInt ≤ j → j < l2_10.toInt → cLt ((tM (G.2.1 (F a 35)) ((G.1 a 36).toInt)) j))
    (pw : (l3_54.toInt = 1 → ((G.1 a 39).toInt ≠ 0 ∧ l2_10.toInt - (G1.1 a 37).toInt = (n0 : Int) ∧ ∀ i : Nat, (i : Int) < l4_54.toInt → (tM (G.2.1 (F a 35)) ((G.1 a 36).toInt)) ((G1.1 a 37).toInt + (i : Int)) = r2.getD i 0)) ∧ (l3_54.toInt = 0 → ¬ (r1.1 = 1 ∧ wOk (tM (G.2.1 (F a 35)) ((G.1 a 36).toInt)) r1.2 r2)))
    (nt0 : 0 ≤ ((G.1 a 36).toInt) ∧ ((G.1 a 36).toInt) ≤ 80)
    (f11 : 3 ≤ (((n0) : Nat) : Int) ∧ (((n0) : Nat) : Int) ≤ 7)
    (z0 : 0 ≤ ((G.1 a 37).toInt) ∧ ((G.1 a 37).toInt) ≤ ((G.1 a 36).toInt))
    (t1 : -128 ≤ x1.toInt ∧ x1.toInt ≤ 127 ∧ ((0 ≤ x1.toInt ∧ (tM (G.2.1 (F a 35)) ((G.1 a 36).toInt) ((G1.1 a 37).toInt)) = x1.toInt) ∨ (x1.toInt < 0 ∧ (tM (G.2.1 (F a 35)) ((G.1 a 36).toInt) ((G1.1 a 37).toInt)) = x1.toInt + 256)) ∧ ((G.1 a 37).toInt) ≤ ((G1.1 a 37).toInt) ∧ ((G1.1 a 37).toInt) ≤ ((G.1 a 36).toInt))
    (I10_0 : ((G1.1 a 37).toInt) ≤ l2_10.toInt ∧ l2_10.toInt ≤ ((G.1 a 36).toInt))
    (hm10 : 2147483648 - l2_10.toInt < (((N10) + 1 : Nat) : Int))
    (z10 : ((0 ≤ l2_10.toInt ∧ l2_10.toInt < ((G.1 a 36).toInt)) ∧ True) ∨ (¬ (0 ≤ l2_10.toInt ∧ l2_10.toInt < ((G.1 a 36).toInt)) ∧ (tM (G.2.1 (F a 35)) ((G.1 a 36).toInt) (l2_10.toInt)) = 0))
    (t12 : -128 ≤ x12.toInt ∧ x12.toInt ≤ 127 ∧ ((0 ≤ x12.toInt ∧ (tM (G.2.1 (F a 35)) ((G.1 a 36).toInt) (l2_10.toInt)) = x12.toInt) ∨ (x12.toInt < 0 ∧ (tM (G.2.1 (F a 35)) ((G.1 a 36).toInt) (l2_10.toInt)) = x12.toInt + 256)))
    (t15 : (x15.toInt = 1 ∧ 97 ≤ x12.toInt ∧ x12.toInt ≤ 122) ∨ (x15.toInt = 0 ∧ (x12.toInt < 97 ∨ 122 < x12.toInt)))
    (c18 : x15.toInt = 0)
    (f20 : ((G.1 a 39).toInt) = 0 ∨ ((G.1 a 39).toInt) = 1)
    (c31 : ((G.1 a 39).toInt) = 0)
    (I54_0 : 0 ≤ l4_54.toInt ∧ l4_54.toInt ≤ (((n0) : Nat) : Int))
    (I54_1 : l3_54.toInt = 0 ∨ l3_54.toInt = 1)
    (I54_2 : (0 : Int) ≤ l4_54.toInt)
    (hm54 : 2147483648 - l4_54.toInt < (((N54) + 1 : Nat) : Int))
    (c55 : ¬ (l3_54.toInt = 0))
    (t61 : x61.toInt = (((n0) : Nat) : Int))
    (c62 : x61.toInt ≤ l4_54.toInt)
    (c97 : l3_54.toInt = 0)
    (d_G108_a_37 : G108.1 a 37 = (G1.1 a 37))
    (d_G108_a_38 : G108.1 a 38 = G.1 a 38)
    (d_G108_a_39 : G108.1 a 39 = G.1 a 39) :
    RdM (tM (G.2.1 (F a 35)) ((G.1 a 36).toInt)) ((G.1 a 36).toInt) (tkW (tM (G.2.1 (F a 35)) ((G.1 a 36).toInt)) r2 r1).2 ((G108.1 a 39).toInt) ((G108.1 a 37).toInt) ((G108.1 a 38).toInt) := by
  have he : l2_10.toInt = rn cLt (tM (G.2.1 (F a 35)) ((G.1 a 36).toInt)) ((G1.1 a 37).toInt) := by
    symm
    refine rn_eq ⟨by omega, pl, cLt_n ?_⟩
    omega
  first
    | (have nw := pw.2 (by omega)
       rw [tkW_f nw, d_G108_a_37, d_G108_a_38, d_G108_a_39]
       exact hrm.sk (tM_e _ _) oq1)
    | (obtain ⟨w1, w2, w3⟩ := pw.1 (by omega)
       have wk := rdm_w1 hrm oq1 he w1 (by rw [hwd.1]; exact w2) (fun i hi => w3 i (by rw [hwd.1] at hi; omega))
       rw [tkW_t wk.1 wk.2, d_G108_a_37, d_G108_a_38, d_G108_a_39]
       refine rdm_st (tM_e _ _) ?_ w1 (by omega)
       rw [show r1.2 + (r2.length : Int) = l2_10.toInt from ?_]
       have s2 := hrm.2.2.1 wk.1
       rw [← oq1] at s2
       have := hwd.1
       omega)
theorem v_X11_isWord_112_7 {K : Nat → Nat} {F : Nat → Nat → Nat} (a : Nat) (G : XG) (G1 : XG) (l2_10 : Int32) (r1 : RSt) (r2 : List Int) (n0 : Nat) (p0 : Nat) (l3_54 : Int32) (l4_54 : Int32) (x1 : Int32) (N10 : Nat) (x12 : Int32) (x15 : Int32) (N54 : Nat) (x61 : Int32)
    (ha : K a = 13)
    (hrm : RdM (tM (G.2.1 (F a 35)) ((G.1 a 36).toInt)) ((G.1 a 36).toInt) r1 ((G.1 a 39).toInt) ((G.1 a 37).toInt) ((G.1 a 38).toInt))
    (hwd : r2.length = n0 ∧ ∀ i : Nat, i < n0 → aI (G.2.1 p0) (i : Int) = r2.getD i 0 ∧ 0 ≤ r2.getD i 0 ∧ r2.getD i 0 ≤ 127)
    (oq1 : ((G1.1 a 37).toInt) = rn cBl (tM (G.2.1 (F a 35)) ((G.1 a 36).toInt)) ((G.1 a 37).toInt))
    (pl : ∀ j : Int, (G1.1 a 37).toInt ≤ j → j < l2_10.toInt → cLt ((tM (G.2.1 (F a 35)) ((G.1 a 36).toInt)) j))
    (pw : (l3_54.toInt = 1 → ((G.1 a 39).toInt ≠ 0 ∧ l2_10.toInt - (G1.1 a 37).toInt = (n0 : Int) ∧ ∀ i : Nat, (i : Int) < l4_54.toInt → (tM (G.2.1 (F a 35)) ((G.1 a 36).toInt)) ((G1.1 a 37).toInt + (i : Int)) = r2.getD i 0)) ∧ (l3_54.toInt = 0 → ¬ (r1.1 = 1 ∧ wOk (tM (G.2.1 (F a 35)) ((G.1 a 36).toInt)) r1.2 r2)))
    (nt0 : 0 ≤ ((G.1 a 36).toInt) ∧ ((G.1 a 36).toInt) ≤ 80)
    (f11 : 3 ≤ (((n0) : Nat) : Int) ∧ (((n0) : Nat) : Int) ≤ 7)
    (z0 : 0 ≤ ((G.1 a 37).toInt) ∧ ((G.1 a 37).toInt) ≤ ((G.1 a 36).toInt))
    (t1 : -128 ≤ x1.toInt ∧ x1.toInt ≤ 127 ∧ ((0 ≤ x1.toInt ∧ (tM (G.2.1 (F a 35)) ((G.1 a 36).toInt) ((G1.1 a 37).toInt)) = x1.toInt) ∨ (x1.toInt < 0 ∧ (tM (G.2.1 (F a 35)) ((G.1 a 36).toInt) ((G1.1 a 37).toInt)) = x1.toInt + 256)) ∧ ((G.1 a 37).toInt) ≤ ((G1.1 a 37).toInt) ∧ ((G1.1 a 37).toInt) ≤ ((G.1 a 36).toInt))
    (I10_0 : ((G1.1 a 37).toInt) ≤ l2_10.toInt ∧ l2_10.toInt ≤ ((G.1 a 36).toInt))
    (hm10 : 2147483648 - l2_10.toInt < (((N10) + 1 : Nat) : Int))
    (z10 : ((0 ≤ l2_10.toInt ∧ l2_10.toInt < ((G.1 a 36).toInt)) ∧ True) ∨ (¬ (0 ≤ l2_10.toInt ∧ l2_10.toInt < ((G.1 a 36).toInt)) ∧ (tM (G.2.1 (F a 35)) ((G.1 a 36).toInt) (l2_10.toInt)) = 0))
    (t12 : -128 ≤ x12.toInt ∧ x12.toInt ≤ 127 ∧ ((0 ≤ x12.toInt ∧ (tM (G.2.1 (F a 35)) ((G.1 a 36).toInt) (l2_10.toInt)) = x12.toInt) ∨ (x12.toInt < 0 ∧ (tM (G.2.1 (F a 35)) ((G.1 a 36).toInt) (l2_10.toInt)) = x12.toInt + 256)))
    (t15 : (x15.toInt = 1 ∧ 97 ≤ x12.toInt ∧ x12.toInt ≤ 122) ∨ (x15.toInt = 0 ∧ (x12.toInt < 97 ∨ 122 < x12.toInt)))
    (c18 : x15.toInt = 0)
    (f20 : ((G.1 a 39).toInt) = 0 ∨ ((G.1 a 39).toInt) = 1)
    (c31 : ((G.1 a 39).toInt) = 0)
    (I54_0 : 0 ≤ l4_54.toInt ∧ l4_54.toInt ≤ (((n0) : Nat) : Int))
    (I54_1 : l3_54.toInt = 0 ∨ l3_54.toInt = 1)
    (I54_2 : (0 : Int) ≤ l4_54.toInt)
    (hm54 : 2147483648 - l4_54.toInt < (((N54) + 1 : Nat) : Int))
    (c55 : ¬ (l3_54.toInt = 0))
    (t61 : x61.toInt = (((n0) : Nat) : Int))
    (c62 : x61.toInt ≤ l4_54.toInt) :
    l3_54.toInt = (tkW (tM (G.2.1 (F a 35)) ((G.1 a 36).toInt)) r2 r1).1 := by
  have he : l2_10.toInt = rn cLt (tM (G.2.1 (F a 35)) ((G.1 a 36).toInt)) ((G1.1 a 37).toInt) := by
    symm
    refine rn_eq ⟨by omega, pl, cLt_n ?_⟩
    omega
  first
    | (have nw := pw.2 (by omega)
       rw [tkW_f nw]
       show l3_54.toInt = 0
       omega)
    | (obtain ⟨w1, w2, w3⟩ := pw.1 (by omega)
       have wk := rdm_w1 hrm oq1 he w1 (by rw [hwd.1]; exact w2) (fun i hi => w3 i (by rw [hwd.1] at hi; omega))
       rw [tkW_t wk.1 wk.2]
       show l3_54.toInt = 1
       omega)
theorem v_X11_isWord_112_8 {K : Nat → Nat} {F : Nat → Nat → Nat} (a : Nat) (G : XG) (G1 : XG) (G108 : XG) (l2_10 : Int32) (r1 : RSt) (r2 : List Int) (n0 : Nat) (p0 : Nat) (l3_54 : Int32) (l4_54 : Int32) (x1 : Int32) (N10 : Nat) (x12 : Int32) (x15 : Int32) (N54 : Nat) (x61 : Int32)
    (ha : K a = 13)
    (hrm : RdM (tM (G.2.1 (F a 35)) ((G.1 a 36).toInt)) ((G.1 a 36).toInt) r1 ((G.1 a 39).toInt) ((G.1 a 37).toInt) ((G.1 a 38).toInt))
    (hwd : r2.length = n0 ∧ ∀ i : Nat, i < n0 → aI (G.2.1 p0) (i : Int) = r2.getD i 0 ∧ 0 ≤ r2.getD i 0 ∧ r2.getD i 0 ≤ 127)
    (oq1 : ((G1.1 a 37).toInt) = rn cBl (tM (G.2.1 (F a 35)) ((G.1 a 36).toInt)) ((G.1 a 37).toInt))
    (pl : ∀ j : Int, (G1.1 a 37).toInt ≤ j → j < l2_10.toInt → cLt ((tM (G.2.1 (F a 35)) ((G.1 a 36).toInt)) j))
    (pw : (l3_54.toInt = 1 → ((G.1 a 39).toInt ≠ 0 ∧ l2_10.toInt - (G1.1 a 37).toInt = (n0 : Int) ∧ ∀ i : Nat, (i : Int) < l4_54.toInt → (tM (G.2.1 (F a 35)) ((G.1 a 36).toInt)) ((G1.1 a 37).toInt + (i : Int)) = r2.getD i 0)) ∧ (l3_54.toInt = 0 → ¬ (r1.1 = 1 ∧ wOk (tM (G.2.1 (F a 35)) ((G.1 a 36).toInt)) r1.2 r2)))
    (nt0 : 0 ≤ ((G.1 a 36).toInt) ∧ ((G.1 a 36).toInt) ≤ 80)
    (f11 : 3 ≤ (((n0) : Nat) : Int) ∧ (((n0) : Nat) : Int) ≤ 7)
    (z0 : 0 ≤ ((G.1 a 37).toInt) ∧ ((G.1 a 37).toInt) ≤ ((G.1 a 36).toInt))
    (t1 : -128 ≤ x1.toInt ∧ x1.toInt ≤ 127 ∧ ((0 ≤ x1.toInt ∧ (tM (G.2.1 (F a 35)) ((G.1 a 36).toInt) ((G1.1 a 37).toInt)) = x1.toInt) ∨ (x1.toInt < 0 ∧ (tM (G.2.1 (F a 35)) ((G.1 a 36).toInt) ((G1.1 a 37).toInt)) = x1.toInt + 256)) ∧ ((G.1 a 37).toInt) ≤ ((G1.1 a 37).toInt) ∧ ((G1.1 a 37).toInt) ≤ ((G.1 a 36).toInt))
    (I10_0 : ((G1.1 a 37).toInt) ≤ l2_10.toInt ∧ l2_10.toInt ≤ ((G.1 a 36).toInt))
    (hm10 : 2147483648 - l2_10.toInt < (((N10) + 1 : Nat) : Int))
    (z10 : ((0 ≤ l2_10.toInt ∧ l2_10.toInt < ((G.1 a 36).toInt)) ∧ True) ∨ (¬ (0 ≤ l2_10.toInt ∧ l2_10.toInt < ((G.1 a 36).toInt)) ∧ (tM (G.2.1 (F a 35)) ((G.1 a 36).toInt) (l2_10.toInt)) = 0))
    (t12 : -128 ≤ x12.toInt ∧ x12.toInt ≤ 127 ∧ ((0 ≤ x12.toInt ∧ (tM (G.2.1 (F a 35)) ((G.1 a 36).toInt) (l2_10.toInt)) = x12.toInt) ∨ (x12.toInt < 0 ∧ (tM (G.2.1 (F a 35)) ((G.1 a 36).toInt) (l2_10.toInt)) = x12.toInt + 256)))
    (t15 : (x15.toInt = 1 ∧ 97 ≤ x12.toInt ∧ x12.toInt ≤ 122) ∨ (x15.toInt = 0 ∧ (x12.toInt < 97 ∨ 122 < x12.toInt)))
    (c18 : x15.toInt = 0)
    (f20 : ((G.1 a 39).toInt) = 0 ∨ ((G.1 a 39).toInt) = 1)
    (c31 : ((G.1 a 39).toInt) = 0)
    (I54_0 : 0 ≤ l4_54.toInt ∧ l4_54.toInt ≤ (((n0) : Nat) : Int))
    (I54_1 : l3_54.toInt = 0 ∨ l3_54.toInt = 1)
    (I54_2 : (0 : Int) ≤ l4_54.toInt)
    (hm54 : 2147483648 - l4_54.toInt < (((N54) + 1 : Nat) : Int))
    (c55 : ¬ (l3_54.toInt = 0))
    (t61 : x61.toInt = (((n0) : Nat) : Int))
    (c62 : x61.toInt ≤ l4_54.toInt)
    (d_G108_a_37 : G108.1 a 37 = l2_10)
    (d_G108_a_38 : G108.1 a 38 = G.1 a 38)
    (d_G108_a_39 : G108.1 a 39 = G.1 a 39) :
    RdM (tM (G.2.1 (F a 35)) ((G.1 a 36).toInt)) ((G.1 a 36).toInt) (tkW (tM (G.2.1 (F a 35)) ((G.1 a 36).toInt)) r2 r1).2 ((G108.1 a 39).toInt) ((G108.1 a 37).toInt) ((G108.1 a 38).toInt) := by
  have he : l2_10.toInt = rn cLt (tM (G.2.1 (F a 35)) ((G.1 a 36).toInt)) ((G1.1 a 37).toInt) := by
    symm
    refine rn_eq ⟨by omega, pl, cLt_n ?_⟩
    omega
  first
    | (have nw := pw.2 (by omega)
       rw [tkW_f nw, d_G108_a_37, d_G108_a_38, d_G108_a_39]
       exact hrm.sk (tM_e _ _) oq1)
    | (obtain ⟨w1, w2, w3⟩ := pw.1 (by omega)
       have wk := rdm_w1 hrm oq1 he w1 (by rw [hwd.1]; exact w2) (fun i hi => w3 i (by rw [hwd.1] at hi; omega))
       rw [tkW_t wk.1 wk.2, d_G108_a_37, d_G108_a_38, d_G108_a_39]
       refine rdm_st (tM_e _ _) ?_ w1 (by omega)
       rw [show r1.2 + (r2.length : Int) = l2_10.toInt from ?_]
       have s2 := hrm.2.2.1 wk.1
       rw [← oq1] at s2
       have := hwd.1
       omega)
theorem v_X11_isWord_92_9 {K : Nat → Nat} {F : Nat → Nat → Nat} (a : Nat) (G : XG) (G1 : XG) (r1 : RSt) (r2 : List Int) (n0 : Nat) (p0 : Nat) (l2_10 : Int32) (l3_54 : Int32) (l4_54 : Int32) (x1 : Int32) (N10 : Nat) (x12 : Int32) (x15 : Int32) (N54 : Nat) (x61 : Int32) (x73 : Int32) (x79 : Int32)
    (ha : K a = 13)
    (hrm : RdM (tM (G.2.1 (F a 35)) ((G.1 a 36).toInt)) ((G.1 a 36).toInt) r1 ((G.1 a 39).toInt) ((G.1 a 37).toInt) ((G.1 a 38).toInt))
    (hwd : r2.length = n0 ∧ ∀ i : Nat, i < n0 → aI (G.2.1 p0) (i : Int) = r2.getD i 0 ∧ 0 ≤ r2.getD i 0 ∧ r2.getD i 0 ≤ 127)
    (oq1 : ((G1.1 a 37).toInt) = rn cBl (tM (G.2.1 (F a 35)) ((G.1 a 36).toInt)) ((G.1 a 37).toInt))
    (pl : ∀ j : Int, (G1.1 a 37).toInt ≤ j → j < l2_10.toInt → cLt ((tM (G.2.1 (F a 35)) ((G.1 a 36).toInt)) j))
    (pw : (l3_54.toInt = 1 → ((G.1 a 39).toInt ≠ 0 ∧ l2_10.toInt - (G1.1 a 37).toInt = (n0 : Int) ∧ ∀ i : Nat, (i : Int) < l4_54.toInt → (tM (G.2.1 (F a 35)) ((G.1 a 36).toInt)) ((G1.1 a 37).toInt + (i : Int)) = r2.getD i 0)) ∧ (l3_54.toInt = 0 → ¬ (r1.1 = 1 ∧ wOk (tM (G.2.1 (F a 35)) ((G.1 a 36).toInt)) r1.2 r2)))
    (nt0 : 0 ≤ ((G.1 a 36).toInt) ∧ ((G.1 a 36).toInt) ≤ 80)
    (f12 : 3 ≤ (((n0) : Nat) : Int) ∧ (((n0) : Nat) : Int) ≤ 7)
    (z0 : 0 ≤ ((G.1 a 37).toInt) ∧ ((G.1 a 37).toInt) ≤ ((G.1 a 36).toInt))
    (t1 : -128 ≤ x1.toInt ∧ x1.toInt ≤ 127 ∧ ((0 ≤ x1.toInt ∧ (tM (G.2.1 (F a 35)) ((G.1 a 36).toInt) ((G1.1 a 37).toInt)) = x1.toInt) ∨ (x1.toInt < 0 ∧ (tM (G.2.1 (F a 35)) ((G.1 a 36).toInt) ((G1.1 a 37).toInt)) = x1.toInt + 256)) ∧ ((G.1 a 37).toInt) ≤ ((G1.1 a 37).toInt) ∧ ((G1.1 a 37).toInt) ≤ ((G.1 a 36).toInt))
    (I10_0 : ((G1.1 a 37).toInt) ≤ l2_10.toInt ∧ l2_10.toInt ≤ ((G.1 a 36).toInt))
    (hm10 : 2147483648 - l2_10.toInt < (((N10) + 1 : Nat) : Int))
    (z10 : ((0 ≤ l2_10.toInt ∧ l2_10.toInt < ((G.1 a 36).toInt)) ∧ True) ∨ (¬ (0 ≤ l2_10.toInt ∧ l2_10.toInt < ((G.1 a 36).toInt)) ∧ (tM (G.2.1 (F a 35)) ((G.1 a 36).toInt) (l2_10.toInt)) = 0))
    (t12 : -128 ≤ x12.toInt ∧ x12.toInt ≤ 127 ∧ ((0 ≤ x12.toInt ∧ (tM (G.2.1 (F a 35)) ((G.1 a 36).toInt) (l2_10.toInt)) = x12.toInt) ∨ (x12.toInt < 0 ∧ (tM (G.2.1 (F a 35)) ((G.1 a 36).toInt) (l2_10.toInt)) = x12.toInt + 256)))
    (t15 : (x15.toInt = 1 ∧ 97 ≤ x12.toInt ∧ x12.toInt ≤ 122) ∨ (x15.toInt = 0 ∧ (x12.toInt < 97 ∨ 122 < x12.toInt)))
    (c18 : x15.toInt = 0)
    (f21 : ((G.1 a 39).toInt) = 0 ∨ ((G.1 a 39).toInt) = 1)
    (c31 : ((G.1 a 39).toInt) = 0)
    (I54_0 : 0 ≤ l4_54.toInt ∧ l4_54.toInt ≤ (((n0) : Nat) : Int))
    (I54_1 : l3_54.toInt = 0 ∨ l3_54.toInt = 1)
    (I54_2 : (0 : Int) ≤ l4_54.toInt)
    (hm54 : 2147483648 - l4_54.toInt < (((N54) + 1 : Nat) : Int))
    (c55 : ¬ (l3_54.toInt = 0))
    (t61 : x61.toInt = (((n0) : Nat) : Int))
    (c62 : ¬ (x61.toInt ≤ l4_54.toInt))
    (t73 : -128 ≤ x73.toInt ∧ x73.toInt ≤ 127 ∧ ((0 ≤ x73.toInt ∧ (tM (G.2.1 (F a 35)) ((G.1 a 36).toInt) (((G1.1 a 37).toInt) + l4_54.toInt)) = x73.toInt) ∨ (x73.toInt < 0 ∧ (tM (G.2.1 (F a 35)) ((G.1 a 36).toInt) (((G1.1 a 37).toInt) + l4_54.toInt)) = x73.toInt + 256)))
    (hv79 : x79.toInt = (aI (G.2.1 p0) (l4_54.toInt)))
    (c80 : x73.toInt ≠ x79.toInt) :
    ((0 : Int) = 1 → ((G.1 a 39).toInt ≠ 0 ∧ l2_10.toInt - (G1.1 a 37).toInt = (n0 : Int) ∧ ∀ i : Nat, (i : Int) < (l4_54.toInt + 1) → (tM (G.2.1 (F a 35)) ((G.1 a 36).toInt)) ((G1.1 a 37).toInt + (i : Int)) = r2.getD i 0)) ∧ ((0 : Int) = 0 → ¬ (r1.1 = 1 ∧ wOk (tM (G.2.1 (F a 35)) ((G.1 a 36).toInt)) r1.2 r2)) := by
  have he : l2_10.toInt = rn cLt (tM (G.2.1 (F a 35)) ((G.1 a 36).toInt)) ((G1.1 a 37).toInt) := by
    symm
    refine rn_eq ⟨by omega, pl, cLt_n ?_⟩
    omega
  have hi := hwd.2 (l4_54.toInt).toNat (by omega)
  rw [show (((l4_54.toInt).toNat : Nat) : Int) = l4_54.toInt from by omega] at hi
  obtain ⟨w1, w2, w3⟩ := pw.1 (by omega)
  refine ⟨fun h => ?_, fun h => ?_⟩
  · first
      | (exfalso; omega)
      | (refine ⟨w1, w2, fun i hj => ?_⟩
         by_cases e : (i : Int) = l4_54.toInt
         · rw [e, show i = (l4_54.toInt).toNat from by omega]
           omega
         · exact w3 i (by omega))
  · first
      | (exfalso; omega)
      | exact rdm_w0 hrm oq1 he (Or.inr (Or.inr ⟨(l4_54.toInt).toNat, by rw [hwd.1]; omega, by rw [show (((l4_54.toInt).toNat : Nat) : Int) = l4_54.toInt from by omega]; omega⟩))
theorem v_X11_isWord_92_10 {K : Nat → Nat} {F : Nat → Nat → Nat} (a : Nat) (G : XG) (G1 : XG) (r1 : RSt) (r2 : List Int) (n0 : Nat) (p0 : Nat) (l2_10 : Int32) (l3_54 : Int32) (l4_54 : Int32) (x1 : Int32) (N10 : Nat) (x12 : Int32) (x15 : Int32) (N54 : Nat) (x61 : Int32) (x73 : Int32) (x79 : Int32)
    (ha : K a = 13)
    (hrm : RdM (tM (G.2.1 (F a 35)) ((G.1 a 36).toInt)) ((G.1 a 36).toInt) r1 ((G.1 a 39).toInt) ((G.1 a 37).toInt) ((G.1 a 38).toInt))
    (hwd : r2.length = n0 ∧ ∀ i : Nat, i < n0 → aI (G.2.1 p0) (i : Int) = r2.getD i 0 ∧ 0 ≤ r2.getD i 0 ∧ r2.getD i 0 ≤ 127)
    (oq1 : ((G1.1 a 37).toInt) = rn cBl (tM (G.2.1 (F a 35)) ((G.1 a 36).toInt)) ((G.1 a 37).toInt))
    (pl : ∀ j : Int, (G1.1 a 37).toInt ≤ j → j < l2_10.toInt → cLt ((tM (G.2.1 (F a 35)) ((G.1 a 36).toInt)) j))
    (pw : (l3_54.toInt = 1 → ((G.1 a 39).toInt ≠ 0 ∧ l2_10.toInt - (G1.1 a 37).toInt = (n0 : Int) ∧ ∀ i : Nat, (i : Int) < l4_54.toInt → (tM (G.2.1 (F a 35)) ((G.1 a 36).toInt)) ((G1.1 a 37).toInt + (i : Int)) = r2.getD i 0)) ∧ (l3_54.toInt = 0 → ¬ (r1.1 = 1 ∧ wOk (tM (G.2.1 (F a 35)) ((G.1 a 36).toInt)) r1.2 r2)))
    (nt0 : 0 ≤ ((G.1 a 36).toInt) ∧ ((G.1 a 36).toInt) ≤ 80)
    (f12 : 3 ≤ (((n0) : Nat) : Int) ∧ (((n0) : Nat) : Int) ≤ 7)
    (z0 : 0 ≤ ((G.1 a 37).toInt) ∧ ((G.1 a 37).toInt) ≤ ((G.1 a 36).toInt))
    (t1 : -128 ≤ x1.toInt ∧ x1.toInt ≤ 127 ∧ ((0 ≤ x1.toInt ∧ (tM (G.2.1 (F a 35)) ((G.1 a 36).toInt) ((G1.1 a 37).toInt)) = x1.toInt) ∨ (x1.toInt < 0 ∧ (tM (G.2.1 (F a 35)) ((G.1 a 36).toInt) ((G1.1 a 37).toInt)) = x1.toInt + 256)) ∧ ((G.1 a 37).toInt) ≤ ((G1.1 a 37).toInt) ∧ ((G1.1 a 37).toInt) ≤ ((G.1 a 36).toInt))
    (I10_0 : ((G1.1 a 37).toInt) ≤ l2_10.toInt ∧ l2_10.toInt ≤ ((G.1 a 36).toInt))
    (hm10 : 2147483648 - l2_10.toInt < (((N10) + 1 : Nat) : Int))
    (z10 : ((0 ≤ l2_10.toInt ∧ l2_10.toInt < ((G.1 a 36).toInt)) ∧ True) ∨ (¬ (0 ≤ l2_10.toInt ∧ l2_10.toInt < ((G.1 a 36).toInt)) ∧ (tM (G.2.1 (F a 35)) ((G.1 a 36).toInt) (l2_10.toInt)) = 0))
    (t12 : -128 ≤ x12.toInt ∧ x12.toInt ≤ 127 ∧ ((0 ≤ x12.toInt ∧ (tM (G.2.1 (F a 35)) ((G.1 a 36).toInt) (l2_10.toInt)) = x12.toInt) ∨ (x12.toInt < 0 ∧ (tM (G.2.1 (F a 35)) ((G.1 a 36).toInt) (l2_10.toInt)) = x12.toInt + 256)))
    (t15 : (x15.toInt = 1 ∧ 97 ≤ x12.toInt ∧ x12.toInt ≤ 122) ∨ (x15.toInt = 0 ∧ (x12.toInt < 97 ∨ 122 < x12.toInt)))
    (c18 : x15.toInt = 0)
    (f21 : ((G.1 a 39).toInt) = 0 ∨ ((G.1 a 39).toInt) = 1)
    (c31 : ((G.1 a 39).toInt) = 0)
    (I54_0 : 0 ≤ l4_54.toInt ∧ l4_54.toInt ≤ (((n0) : Nat) : Int))
    (I54_1 : l3_54.toInt = 0 ∨ l3_54.toInt = 1)
    (I54_2 : (0 : Int) ≤ l4_54.toInt)
    (hm54 : 2147483648 - l4_54.toInt < (((N54) + 1 : Nat) : Int))
    (c55 : ¬ (l3_54.toInt = 0))
    (t61 : x61.toInt = (((n0) : Nat) : Int))
    (c62 : ¬ (x61.toInt ≤ l4_54.toInt))
    (t73 : -128 ≤ x73.toInt ∧ x73.toInt ≤ 127 ∧ ((0 ≤ x73.toInt ∧ (tM (G.2.1 (F a 35)) ((G.1 a 36).toInt) (((G1.1 a 37).toInt) + l4_54.toInt)) = x73.toInt) ∨ (x73.toInt < 0 ∧ (tM (G.2.1 (F a 35)) ((G.1 a 36).toInt) (((G1.1 a 37).toInt) + l4_54.toInt)) = x73.toInt + 256)))
    (hv79 : x79.toInt = (aI (G.2.1 p0) (l4_54.toInt)))
    (c80 : ¬ (x73.toInt ≠ x79.toInt)) :
    ((1 : Int) = 1 → ((G.1 a 39).toInt ≠ 0 ∧ l2_10.toInt - (G1.1 a 37).toInt = (n0 : Int) ∧ ∀ i : Nat, (i : Int) < (l4_54.toInt + 1) → (tM (G.2.1 (F a 35)) ((G.1 a 36).toInt)) ((G1.1 a 37).toInt + (i : Int)) = r2.getD i 0)) ∧ ((1 : Int) = 0 → ¬ (r1.1 = 1 ∧ wOk (tM (G.2.1 (F a 35)) ((G.1 a 36).toInt)) r1.2 r2)) := by
  have he : l2_10.toInt = rn cLt (tM (G.2.1 (F a 35)) ((G.1 a 36).toInt)) ((G1.1 a 37).toInt) := by
    symm
    refine rn_eq ⟨by omega, pl, cLt_n ?_⟩
    omega
  have hi := hwd.2 (l4_54.toInt).toNat (by omega)
  rw [show (((l4_54.toInt).toNat : Nat) : Int) = l4_54.toInt from by omega] at hi
  obtain ⟨w1, w2, w3⟩ := pw.1 (by omega)
  refine ⟨fun h => ?_, fun h => ?_⟩
  · first
      | (exfalso; omega)
      | (refine ⟨w1, w2, fun i hj => ?_⟩
         by_cases e : (i : Int) = l4_54.toInt
         · rw [e, show i = (l4_54.toInt).toNat from by omega]
           omega
         · exact w3 i (by omega))
  · first
      | (exfalso; omega)
      | exact rdm_w0 hrm oq1 he (Or.inr (Or.inr ⟨(l4_54.toInt).toNat, by rw [hwd.1]; omega, by rw [show (((l4_54.toInt).toNat : Nat) : Int) = l4_54.toInt from by omega]; omega⟩))
theorem v_X11_isWord_52_11 {K : Nat → Nat} {F : Nat → Nat → Nat} (a : Nat) (G : XG) (G1 : XG) (r1 : RSt) (r2 : List Int) (n0 : Nat) (p0 : Nat) (l2_10 : Int32) (x1 : Int32) (N10 : Nat) (x12 : Int32) (x15 : Int32)
    (ha : K a = 13)
    (hrm : RdM (tM (G.2.1 (F a 35)) ((G.1 a 36).toInt)) ((G.1 a 36).toInt) r1 ((G.1 a 39).toInt) ((G.1 a 37).toInt) ((G.1 a 38).toInt))
    (hwd : r2.length = n0 ∧ ∀ i : Nat, i < n0 → aI (G.2.1 p0) (i : Int) = r2.getD i 0 ∧ 0 ≤ r2.getD i 0 ∧ r2.getD i 0 ≤ 127)
    (oq1 : ((G1.1 a 37).toInt) = rn cBl (tM (G.2.1 (F a 35)) ((G.1 a 36).toInt)) ((G.1 a 37).toInt))
    (pl : ∀ j : Int, (G1.1 a 37).toInt ≤ j → j < l2_10.toInt → cLt ((tM (G.2.1 (F a 35)) ((G.1 a 36).toInt)) j))
    (nt0 : 0 ≤ ((G.1 a 36).toInt) ∧ ((G.1 a 36).toInt) ≤ 80)
    (f9 : 3 ≤ (((n0) : Nat) : Int) ∧ (((n0) : Nat) : Int) ≤ 7)
    (z0 : 0 ≤ ((G.1 a 37).toInt) ∧ ((G.1 a 37).toInt) ≤ ((G.1 a 36).toInt))
    (t1 : -128 ≤ x1.toInt ∧ x1.toInt ≤ 127 ∧ ((0 ≤ x1.toInt ∧ (tM (G.2.1 (F a 35)) ((G.1 a 36).toInt) ((G1.1 a 37).toInt)) = x1.toInt) ∨ (x1.toInt < 0 ∧ (tM (G.2.1 (F a 35)) ((G.1 a 36).toInt) ((G1.1 a 37).toInt)) = x1.toInt + 256)) ∧ ((G.1 a 37).toInt) ≤ ((G1.1 a 37).toInt) ∧ ((G1.1 a 37).toInt) ≤ ((G.1 a 36).toInt))
    (I10_0 : ((G1.1 a 37).toInt) ≤ l2_10.toInt ∧ l2_10.toInt ≤ ((G.1 a 36).toInt))
    (hm10 : 2147483648 - l2_10.toInt < (((N10) + 1 : Nat) : Int))
    (z10 : ((0 ≤ l2_10.toInt ∧ l2_10.toInt < ((G.1 a 36).toInt)) ∧ True) ∨ (¬ (0 ≤ l2_10.toInt ∧ l2_10.toInt < ((G.1 a 36).toInt)) ∧ (tM (G.2.1 (F a 35)) ((G.1 a 36).toInt) (l2_10.toInt)) = 0))
    (t12 : -128 ≤ x12.toInt ∧ x12.toInt ≤ 127 ∧ ((0 ≤ x12.toInt ∧ (tM (G.2.1 (F a 35)) ((G.1 a 36).toInt) (l2_10.toInt)) = x12.toInt) ∨ (x12.toInt < 0 ∧ (tM (G.2.1 (F a 35)) ((G.1 a 36).toInt) (l2_10.toInt)) = x12.toInt + 256)))
    (t15 : (x15.toInt = 1 ∧ 97 ≤ x12.toInt ∧ x12.toInt ≤ 122) ∨ (x15.toInt = 0 ∧ (x12.toInt < 97 ∨ 122 < x12.toInt)))
    (c18 : x15.toInt = 0)
    (f18 : ((G.1 a 39).toInt) = 0 ∨ ((G.1 a 39).toInt) = 1)
    (c31 : ((G.1 a 39).toInt) = 0) :
    ((0 : Int) = 1 → ((G.1 a 39).toInt ≠ 0 ∧ l2_10.toInt - (G1.1 a 37).toInt = (n0 : Int) ∧ ∀ i : Nat, (i : Int) < (0 : Int) → (tM (G.2.1 (F a 35)) ((G.1 a 36).toInt)) ((G1.1 a 37).toInt + (i : Int)) = r2.getD i 0)) ∧ ((0 : Int) = 0 → ¬ (r1.1 = 1 ∧ wOk (tM (G.2.1 (F a 35)) ((G.1 a 36).toInt)) r1.2 r2)) := by
  have he : l2_10.toInt = rn cLt (tM (G.2.1 (F a 35)) ((G.1 a 36).toInt)) ((G1.1 a 37).toInt) := by
    symm
    refine rn_eq ⟨by omega, pl, cLt_n ?_⟩
    omega
  refine ⟨fun h => ?_, fun h => ?_⟩
  · first
      | (exfalso; omega)
      | exact ⟨by omega, by omega, fun i hi => by omega⟩
  · first
      | (exfalso; omega)
      | exact rdm_w0 hrm oq1 he (Or.inl (by omega))
      | exact rdm_w0 hrm oq1 he (Or.inr (Or.inl (by rw [hwd.1]; omega)))
theorem v_X11_isWord_112_12 {K : Nat → Nat} {F : Nat → Nat → Nat} (a : Nat) (G : XG) (G1 : XG) (r1 : RSt) (r2 : List Int) (n0 : Nat) (p0 : Nat) (l2_10 : Int32) (l3_54 : Int32) (l4_54 : Int32) (x1 : Int32) (N10 : Nat) (x12 : Int32) (x15 : Int32) (x41 : Int32) (N54 : Nat)
    (ha : K a = 13)
    (hrm : RdM (tM (G.2.1 (F a 35)) ((G.1 a 36).toInt)) ((G.1 a 36).toInt) r1 ((G.1 a 39).toInt) ((G.1 a 37).toInt) ((G.1 a 38).toInt))
    (hwd : r2.length = n0 ∧ ∀ i : Nat, i < n0 → aI (G.2.1 p0) (i : Int) = r2.getD i 0 ∧ 0 ≤ r2.getD i 0 ∧ r2.getD i 0 ≤ 127)
    (oq1 : ((G1.1 a 37).toInt) = rn cBl (tM (G.2.1 (F a 35)) ((G.1 a 36).toInt)) ((G.1 a 37).toInt))
    (pl : ∀ j : Int, (G1.1 a 37).toInt ≤ j → j < l2_10.toInt → cLt ((tM (G.2.1 (F a 35)) ((G.1 a 36).toInt)) j))
    (pw : (l3_54.toInt = 1 → ((G.1 a 39).toInt ≠ 0 ∧ l2_10.toInt - (G1.1 a 37).toInt = (n0 : Int) ∧ ∀ i : Nat, (i : Int) < l4_54.toInt → (tM (G.2.1 (F a 35)) ((G.1 a 36).toInt)) ((G1.1 a 37).toInt + (i : Int)) = r2.getD i 0)) ∧ (l3_54.toInt = 0 → ¬ (r1.1 = 1 ∧ wOk (tM (G.2.1 (F a 35)) ((G.1 a 36).toInt)) r1.2 r2)))
    (nt0 : 0 ≤ ((G.1 a 36).toInt) ∧ ((G.1 a 36).toInt) ≤ 80)
    (f12 : 3 ≤ (((n0) : Nat) : Int) ∧ (((n0) : Nat) : Int) ≤ 7)
    (z0 : 0 ≤ ((G.1 a 37).toInt) ∧ ((G.1 a 37).toInt) ≤ ((G.1 a 36).toInt))
    (t1 : -128 ≤ x1.toInt ∧ x1.toInt ≤ 127 ∧ ((0 ≤ x1.toInt ∧ (tM (G.2.1 (F a 35)) ((G.1 a 36).toInt) ((G1.1 a 37).toInt)) = x1.toInt) ∨ (x1.toInt < 0 ∧ (tM (G.2.1 (F a 35)) ((G.1 a 36).toInt) ((G1.1 a 37).toInt)) = x1.toInt + 256)) ∧ ((G.1 a 37).toInt) ≤ ((G1.1 a 37).toInt) ∧ ((G1.1 a 37).toInt) ≤ ((G.1 a 36).toInt))
    (I10_0 : ((G1.1 a 37).toInt) ≤ l2_10.toInt ∧ l2_10.toInt ≤ ((G.1 a 36).toInt))
    (hm10 : 2147483648 - l2_10.toInt < (((N10) + 1 : Nat) : Int))
    (z10 : ((0 ≤ l2_10.toInt ∧ l2_10.toInt < ((G.1 a 36).toInt)) ∧ True) ∨ (¬ (0 ≤ l2_10.toInt ∧ l2_10.toInt < ((G.1 a 36).toInt)) ∧ (tM (G.2.1 (F a 35)) ((G.1 a 36).toInt) (l2_10.toInt)) = 0))
    (t12 : -128 ≤ x12.toInt ∧ x12.toInt ≤ 127 ∧ ((0 ≤ x12.toInt ∧ (tM (G.2.1 (F a 35)) ((G.1 a 36).toInt) (l2_10.toInt)) = x12.toInt) ∨ (x12.toInt < 0 ∧ (tM (G.2.1 (F a 35)) ((G.1 a 36).toInt) (l2_10.toInt)) = x12.toInt + 256)))
    (t15 : (x15.toInt = 1 ∧ 97 ≤ x12.toInt ∧ x12.toInt ≤ 122) ∨ (x15.toInt = 0 ∧ (x12.toInt < 97 ∨ 122 < x12.toInt)))
    (c18 : x15.toInt = 0)
    (f21 : ((G.1 a 39).toInt) = 0 ∨ ((G.1 a 39).toInt) = 1)
    (c31 : ¬ (((G.1 a 39).toInt) = 0))
    (t41 : x41.toInt = (((n0) : Nat) : Int))
    (c42 : (l2_10.toInt - ((G1.1 a 37).toInt)) ≠ x41.toInt)
    (I54_0 : 0 ≤ l4_54.toInt ∧ l4_54.toInt ≤ (((n0) : Nat) : Int))
    (I54_1 : l3_54.toInt = 0 ∨ l3_54.toInt = 1)
    (I54_2 : (0 : Int) ≤ l4_54.toInt)
    (hm54 : 2147483648 - l4_54.toInt < (((N54) + 1 : Nat) : Int))
    (c55 : l3_54.toInt = 0) :
    l3_54.toInt = (tkW (tM (G.2.1 (F a 35)) ((G.1 a 36).toInt)) r2 r1).1 := by
  have he : l2_10.toInt = rn cLt (tM (G.2.1 (F a 35)) ((G.1 a 36).toInt)) ((G1.1 a 37).toInt) := by
    symm
    refine rn_eq ⟨by omega, pl, cLt_n ?_⟩
    omega
  first
    | (have nw := pw.2 (by omega)
       rw [tkW_f nw]
       show l3_54.toInt = 0
       omega)
    | (obtain ⟨w1, w2, w3⟩ := pw.1 (by omega)
       have wk := rdm_w1 hrm oq1 he w1 (by rw [hwd.1]; exact w2) (fun i hi => w3 i (by rw [hwd.1] at hi; omega))
       rw [tkW_t wk.1 wk.2]
       show l3_54.toInt = 1
       omega)
theorem v_X11_isWord_112_13 {K : Nat → Nat} {F : Nat → Nat → Nat} (a : Nat) (G : XG) (G1 : XG) (G108 : XG) (r1 : RSt) (r2 : List Int) (n0 : Nat) (p0 : Nat) (l2_10 : Int32) (l3_54 : Int32) (l4_54 : Int32) (x1 : Int32) (N10 : Nat) (x12 : Int32) (x15 : Int32) (x41 : Int32) (N54 : Nat)
    (ha : K a = 13)
    (hrm : RdM (tM (G.2.1 (F a 35)) ((G.1 a 36).toInt)) ((G.1 a 36).toInt) r1 ((G.1 a 39).toInt) ((G.1 a 37).toInt) ((G.1 a 38).toInt))
    (hwd : r2.length = n0 ∧ ∀ i : Nat, i < n0 → aI (G.2.1 p0) (i : Int) = r2.getD i 0 ∧ 0 ≤ r2.getD i 0 ∧ r2.getD i 0 ≤ 127)
    (oq1 : ((G1.1 a 37).toInt) = rn cBl (tM (G.2.1 (F a 35)) ((G.1 a 36).toInt)) ((G.1 a 37).toInt))
    (pl : ∀ j : Int, (G1.1 a 37).toInt ≤ j → j < l2_10.toInt → cLt ((tM (G.2.1 (F a 35)) ((G.1 a 36).toInt)) j))
    (pw : (l3_54.toInt = 1 → ((G.1 a 39).toInt ≠ 0 ∧ l2_10.toInt - (G1.1 a 37).toInt = (n0 : Int) ∧ ∀ i : Nat, (i : Int) < l4_54.toInt → (tM (G.2.1 (F a 35)) ((G.1 a 36).toInt)) ((G1.1 a 37).toInt + (i : Int)) = r2.getD i 0)) ∧ (l3_54.toInt = 0 → ¬ (r1.1 = 1 ∧ wOk (tM (G.2.1 (F a 35)) ((G.1 a 36).toInt)) r1.2 r2)))
    (nt0 : 0 ≤ ((G.1 a 36).toInt) ∧ ((G.1 a 36).toInt) ≤ 80)
    (f12 : 3 ≤ (((n0) : Nat) : Int) ∧ (((n0) : Nat) : Int) ≤ 7)
    (z0 : 0 ≤ ((G.1 a 37).toInt) ∧ ((G.1 a 37).toInt) ≤ ((G.1 a 36).toInt))
    (t1 : -128 ≤ x1.toInt ∧ x1.toInt ≤ 127 ∧ ((0 ≤ x1.toInt ∧ (tM (G.2.1 (F a 35)) ((G.1 a 36).toInt) ((G1.1 a 37).toInt)) = x1.toInt) ∨ (x1.toInt < 0 ∧ (tM (G.2.1 (F a 35)) ((G.1 a 36).toInt) ((G1.1 a 37).toInt)) = x1.toInt + 256)) ∧ ((G.1 a 37).toInt) ≤ ((G1.1 a 37).toInt) ∧ ((G1.1 a 37).toInt) ≤ ((G.1 a 36).toInt))
    (I10_0 : ((G1.1 a 37).toInt) ≤ l2_10.toInt ∧ l2_10.toInt ≤ ((G.1 a 36).toInt))
    (hm10 : 2147483648 - l2_10.toInt < (((N10) + 1 : Nat) : Int))
    (z10 : ((0 ≤ l2_10.toInt ∧ l2_10.toInt < ((G.1 a 36).toInt)) ∧ True) ∨ (¬ (0 ≤ l2_10.toInt ∧ l2_10.toInt < ((G.1 a 36).toInt)) ∧ (tM (G.2.1 (F a 35)) ((G.1 a 36).toInt) (l2_10.toInt)) = 0))
    (t12 : -128 ≤ x12.toInt ∧ x12.toInt ≤ 127 ∧ ((0 ≤ x12.toInt ∧ (tM (G.2.1 (F a 35)) ((G.1 a 36).toInt) (l2_10.toInt)) = x12.toInt) ∨ (x12.toInt < 0 ∧ (tM (G.2.1 (F a 35)) ((G.1 a 36).toInt) (l2_10.toInt)) = x12.toInt + 256)))
    (t15 : (x15.toInt = 1 ∧ 97 ≤ x12.toInt ∧ x12.toInt ≤ 122) ∨ (x15.toInt = 0 ∧ (x12.toInt < 97 ∨ 122 < x12.toInt)))
    (c18 : x15.toInt = 0)
    (f21 : ((G.1 a 39).toInt) = 0 ∨ ((G.1 a 39).toInt) = 1)
    (c31 : ¬ (((G.1 a 39).toInt) = 0))
    (t41 : x41.toInt = (((n0) : Nat) : Int))
    (c42 : (l2_10.toInt - ((G1.1 a 37).toInt)) ≠ x41.toInt)
    (I54_0 : 0 ≤ l4_54.toInt ∧ l4_54.toInt ≤ (((n0) : Nat) : Int))
    (I54_1 : l3_54.toInt = 0 ∨ l3_54.toInt = 1)
    (I54_2 : (0 : Int) ≤ l4_54.toInt)
    (hm54 : 2147483648 - l4_54.toInt < (((N54) + 1 : Nat) : Int))
    (c55 : l3_54.toInt = 0)
    (d_G108_a_37 : G108.1 a 37 = (G1.1 a 37))
    (d_G108_a_38 : G108.1 a 38 = G.1 a 38)
    (d_G108_a_39 : G108.1 a 39 = G.1 a 39) :
    RdM (tM (G.2.1 (F a 35)) ((G.1 a 36).toInt)) ((G.1 a 36).toInt) (tkW (tM (G.2.1 (F a 35)) ((G.1 a 36).toInt)) r2 r1).2 ((G108.1 a 39).toInt) ((G108.1 a 37).toInt) ((G108.1 a 38).toInt) := by
  have he : l2_10.toInt = rn cLt (tM (G.2.1 (F a 35)) ((G.1 a 36).toInt)) ((G1.1 a 37).toInt) := by
    symm
    refine rn_eq ⟨by omega, pl, cLt_n ?_⟩
    omega
  first
    | (have nw := pw.2 (by omega)
       rw [tkW_f nw, d_G108_a_37, d_G108_a_38, d_G108_a_39]
       exact hrm.sk (tM_e _ _) oq1)
    | (obtain ⟨w1, w2, w3⟩ := pw.1 (by omega)
       have wk := rdm_w1 hrm oq1 he w1 (by rw [hwd.1]; exact w2) (fun i hi => w3 i (by rw [hwd.1] at hi; omega))
       rw [tkW_t wk.1 wk.2, d_G108_a_37, d_G108_a_38, d_G108_a_39]
       refine rdm_st (tM_e _ _) ?_ w1 (by omega)
       rw [show r1.2 + (r2.length : Int) = l2_10.toInt from ?_]
       have s2 := hrm.2.2.1 wk.1
       rw [← oq1] at s2
       have := hwd.1
       omega)
theorem v_X11_isWord_112_14 {K : Nat → Nat} {F : Nat → Nat → Nat} (a : Nat) (G : XG) (G1 : XG) (l2_10 : Int32) (r1 : RSt) (r2 : List Int) (n0 : Nat) (p0 : Nat) (l3_54 : Int32) (l4_54 : Int32) (x1 : Int32) (N10 : Nat) (x12 : Int32) (x15 : Int32) (x41 : Int32) (N54 : Nat)
    (ha : K a = 13)
    (hrm : RdM (tM (G.2.1 (F a 35)) ((G.1 a 36).toInt)) ((G.1 a 36).toInt) r1 ((G.1 a 39).toInt) ((G.1 a 37).toInt) ((G.1 a 38).toInt))
    (hwd : r2.length = n0 ∧ ∀ i : Nat, i < n0 → aI (G.2.1 p0) (i : Int) = r2.getD i 0 ∧ 0 ≤ r2.getD i 0 ∧ r2.getD i 0 ≤ 127)
    (oq1 : ((G1.1 a 37).toInt) = rn cBl (tM (G.2.1 (F a 35)) ((G.1 a 36).toInt)) ((G.1 a 37).toInt))
    (pl : ∀ j : Int, (G1.1 a 37).toInt ≤ j → j < l2_10.toInt → cLt ((tM (G.2.1 (F a 35)) ((G.1 a 36).toInt)) j))
    (pw : (l3_54.toInt = 1 → ((G.1 a 39).toInt ≠ 0 ∧ l2_10.toInt - (G1.1 a 37).toInt = (n0 : Int) ∧ ∀ i : Nat, (i : Int) < l4_54.toInt → (tM (G.2.1 (F a 35)) ((G.1 a 36).toInt)) ((G1.1 a 37).toInt + (i : Int)) = r2.getD i 0)) ∧ (l3_54.toInt = 0 → ¬ (r1.1 = 1 ∧ wOk (tM (G.2.1 (F a 35)) ((G.1 a 36).toInt)) r1.2 r2)))
    (nt0 : 0 ≤ ((G.1 a 36).toInt) ∧ ((G.1 a 36).toInt) ≤ 80)
    (f12 : 3 ≤ (((n0) : Nat) : Int) ∧ (((n0) : Nat) : Int) ≤ 7)
    (z0 : 0 ≤ ((G.1 a 37).toInt) ∧ ((G.1 a 37).toInt) ≤ ((G.1 a 36).toInt))
    (t1 : -128 ≤ x1.toInt ∧ x1.toInt ≤ 127 ∧ ((0 ≤ x1.toInt ∧ (tM (G.2.1 (F a 35)) ((G.1 a 36).toInt) ((G1.1 a 37).toInt)) = x1.toInt) ∨ (x1.toInt < 0 ∧ (tM (G.2.1 (F a 35)) ((G.1 a 36).toInt) ((G1.1 a 37).toInt)) = x1.toInt + 256)) ∧ ((G.1 a 37).toInt) ≤ ((G1.1 a 37).toInt) ∧ ((G1.1 a 37).toInt) ≤ ((G.1 a 36).toInt))
    (I10_0 : ((G1.1 a 37).toInt) ≤ l2_10.toInt ∧ l2_10.toInt ≤ ((G.1 a 36).toInt))
    (hm10 : 2147483648 - l2_10.toInt < (((N10) + 1 : Nat) : Int))
    (z10 : ((0 ≤ l2_10.toInt ∧ l2_10.toInt < ((G.1 a 36).toInt)) ∧ True) ∨ (¬ (0 ≤ l2_10.toInt ∧ l2_10.toInt < ((G.1 a 36).toInt)) ∧ (tM (G.2.1 (F a 35)) ((G.1 a 36).toInt) (l2_10.toInt)) = 0))
    (t12 : -128 ≤ x12.toInt ∧ x12.toInt ≤ 127 ∧ ((0 ≤ x12.toInt ∧ (tM (G.2.1 (F a 35)) ((G.1 a 36).toInt) (l2_10.toInt)) = x12.toInt) ∨ (x12.toInt < 0 ∧ (tM (G.2.1 (F a 35)) ((G.1 a 36).toInt) (l2_10.toInt)) = x12.toInt + 256)))
    (t15 : (x15.toInt = 1 ∧ 97 ≤ x12.toInt ∧ x12.toInt ≤ 122) ∨ (x15.toInt = 0 ∧ (x12.toInt < 97 ∨ 122 < x12.toInt)))
    (c18 : x15.toInt = 0)
    (f21 : ((G.1 a 39).toInt) = 0 ∨ ((G.1 a 39).toInt) = 1)
    (c31 : ¬ (((G.1 a 39).toInt) = 0))
    (t41 : x41.toInt = (((n0) : Nat) : Int))
    (c42 : (l2_10.toInt - ((G1.1 a 37).toInt)) ≠ x41.toInt)
    (I54_0 : 0 ≤ l4_54.toInt ∧ l4_54.toInt ≤ (((n0) : Nat) : Int))
    (I54_1 : l3_54.toInt = 0 ∨ l3_54.toInt = 1)
    (I54_2 : (0 : Int) ≤ l4_54.toInt)
    (hm54 : 2147483648 - l4_54.toInt < (((N54) + 1 : Nat) : Int))
    (c55 : l3_54.toInt = 0)
    (c97 : ¬ (l3_54.toInt = 0)) :
    l3_54.toInt = (tkW (tM (G.2.1 (F a 35)) ((G.1 a 36).toInt)) r2 r1).1 := by
  have he : l2_10.toInt = rn cLt (tM (G.2.1 (F a 35)) ((G.1 a 36).toInt)) ((G1.1 a 37).toInt) := by
    symm
    refine rn_eq ⟨by omega, pl, cLt_n ?_⟩
    omega
  first
    | (have nw := pw.2 (by omega)
       rw [tkW_f nw]
       show l3_54.toInt = 0
       omega)
    | (obtain ⟨w1, w2, w3⟩ := pw.1 (by omega)
       have wk := rdm_w1 hrm oq1 he w1 (by rw [hwd.1]; exact w2) (fun i hi => w3 i (by rw [hwd.1] at hi; omega))
       rw [tkW_t wk.1 wk.2]
       show l3_54.toInt = 1
       omega)
theorem v_X11_isWord_112_15 {K : Nat → Nat} {F : Nat → Nat → Nat} (a : Nat) (G : XG) (G1 : XG) (G108 : XG) (l2_10 : Int32) (r1 : RSt) (r2 : List Int) (n0 : Nat) (p0 : Nat) (l3_54 : Int32) (l4_54 : Int32) (x1 : Int32) (N10 : Nat) (x12 : Int32) (x15 : Int32) (x41 : Int32) (N54 : Nat)
    (ha : K a = 13)
    (hrm : RdM (tM (G.2.1 (F a 35)) ((G.1 a 36).toInt)) ((G.1 a 36).toInt) r1 ((G.1 a 39).toInt) ((G.1 a 37).toInt) ((G.1 a 38).toInt))
    (hwd : r2.length = n0 ∧ ∀ i : Nat, i < n0 → aI (G.2.1 p0) (i : Int) = r2.getD i 0 ∧ 0 ≤ r2.getD i 0 ∧ r2.getD i 0 ≤ 127)
    (oq1 : ((G1.1 a 37).toInt) = rn cBl (tM (G.2.1 (F a 35)) ((G.1 a 36).toInt)) ((G.1 a 37).toInt))
    (pl : ∀ j : Int, (G1.1 a 37).toInt ≤ j → j < l2_10.toInt → cLt ((tM (G.2.1 (F a 35)) ((G.1 a 36).toInt)) j))
    (pw : (l3_54.toInt = 1 → ((G.1 a 39).toInt ≠ 0 ∧ l2_10.toInt - (G1.1 a 37).toInt = (n0 : Int) ∧ ∀ i : Nat, (i : Int) < l4_54.toInt → (tM (G.2.1 (F a 35)) ((G.1 a 36).toInt)) ((G1.1 a 37).toInt + (i : Int)) = r2.getD i 0)) ∧ (l3_54.toInt = 0 → ¬ (r1.1 = 1 ∧ wOk (tM (G.2.1 (F a 35)) ((G.1 a 36).toInt)) r1.2 r2)))
    (nt0 : 0 ≤ ((G.1 a 36).toInt) ∧ ((G.1 a 36).toInt) ≤ 80)
    (f12 : 3 ≤ (((n0) : Nat) : Int) ∧ (((n0) : Nat) : Int) ≤ 7)
    (z0 : 0 ≤ ((G.1 a 37).toInt) ∧ ((G.1 a 37).toInt) ≤ ((G.1 a 36).toInt))
    (t1 : -128 ≤ x1.toInt ∧ x1.toInt ≤ 127 ∧ ((0 ≤ x1.toInt ∧ (tM (G.2.1 (F a 35)) ((G.1 a 36).toInt) ((G1.1 a 37).toInt)) = x1.toInt) ∨ (x1.toInt < 0 ∧ (tM (G.2.1 (F a 35)) ((G.1 a 36).toInt) ((G1.1 a 37).toInt)) = x1.toInt + 256)) ∧ ((G.1 a 37).toInt) ≤ ((G1.1 a 37).toInt) ∧ ((G1.1 a 37).toInt) ≤ ((G.1 a 36).toInt))
    (I10_0 : ((G1.1 a 37).toInt) ≤ l2_10.toInt ∧ l2_10.toInt ≤ ((G.1 a 36).toInt))
    (hm10 : 2147483648 - l2_10.toInt < (((N10) + 1 : Nat) : Int))
    (z10 : ((0 ≤ l2_10.toInt ∧ l2_10.toInt < ((G.1 a 36).toInt)) ∧ True) ∨ (¬ (0 ≤ l2_10.toInt ∧ l2_10.toInt < ((G.1 a 36).toInt)) ∧ (tM (G.2.1 (F a 35)) ((G.1 a 36).toInt) (l2_10.toInt)) = 0))
    (t12 : -128 ≤ x12.toInt ∧ x12.toInt ≤ 127 ∧ ((0 ≤ x12.toInt ∧ (tM (G.2.1 (F a 35)) ((G.1 a 36).toInt) (l2_10.toInt)) = x12.toInt) ∨ (x12.toInt < 0 ∧ (tM (G.2.1 (F a 35)) ((G.1 a 36).toInt) (l2_10.toInt)) = x12.toInt + 256)))
    (t15 : (x15.toInt = 1 ∧ 97 ≤ x12.toInt ∧ x12.toInt ≤ 122) ∨ (x15.toInt = 0 ∧ (x12.toInt < 97 ∨ 122 < x12.toInt)))
    (c18 : x15.toInt = 0)
    (f21 : ((G.1 a 39).toInt) = 0 ∨ ((G.1 a 39).toInt) = 1)
    (c31 : ¬ (((G.1 a 39).toInt) = 0))
    (t41 : x41.toInt = (((n0) : Nat) : Int))
    (c42 : (l2_10.toInt - ((G1.1 a 37).toInt)) ≠ x41.toInt)
    (I54_0 : 0 ≤ l4_54.toInt ∧ l4_54.toInt ≤ (((n0) : Nat) : Int))
    (I54_1 : l3_54.toInt = 0 ∨ l3_54.toInt = 1)
    (I54_2 : (0 : Int) ≤ l4_54.toInt)
    (hm54 : 2147483648 - l4_54.toInt < (((N54) + 1 : Nat) : Int))
    (c55 : l3_54.toInt = 0)
    (c97 : ¬ (l3_54.toInt = 0))
    (d_G108_a_37 : G108.1 a 37 = l2_10)
    (d_G108_a_38 : G108.1 a 38 = G.1 a 38)
    (d_G108_a_39 : G108.1 a 39 = G.1 a 39) :
    RdM (tM (G.2.1 (F a 35)) ((G.1 a 36).toInt)) ((G.1 a 36).toInt) (tkW (tM (G.2.1 (F a 35)) ((G.1 a 36).toInt)) r2 r1).2 ((G108.1 a 39).toInt) ((G108.1 a 37).toInt) ((G108.1 a 38).toInt) := by
  have he : l2_10.toInt = rn cLt (tM (G.2.1 (F a 35)) ((G.1 a 36).toInt)) ((G1.1 a 37).toInt) := by
    symm
    refine rn_eq ⟨by omega, pl, cLt_n ?_⟩
    omega
  first
    | (have nw := pw.2 (by omega)
       rw [tkW_f nw, d_G108_a_37, d_G108_a_38, d_G108_a_39]
       exact hrm.sk (tM_e _ _) oq1)
    | (obtain ⟨w1, w2, w3⟩ := pw.1 (by omega)
       have wk := rdm_w1 hrm oq1 he w1 (by rw [hwd.1]; exact w2) (fun i hi => w3 i (by rw [hwd.1] at hi; omega))
       rw [tkW_t wk.1 wk.2, d_G108_a_37, d_G108_a_38, d_G108_a_39]
       refine rdm_st (tM_e _ _) ?_ w1 (by omega)
       rw [show r1.2 + (r2.length : Int) = l2_10.toInt from ?_]
       have s2 := hrm.2.2.1 wk.1
       rw [← oq1] at s2
       have := hwd.1
       omega)
theorem v_X11_isWord_112_16 {K : Nat → Nat} {F : Nat → Nat → Nat} (a : Nat) (G : XG) (G1 : XG) (r1 : RSt) (r2 : List Int) (n0 : Nat) (p0 : Nat) (l2_10 : Int32) (l3_54 : Int32) (l4_54 : Int32) (x1 : Int32) (N10 : Nat) (x12 : Int32) (x15 : Int32) (x41 : Int32) (N54 : Nat) (x61 : Int32)
    (ha : K a = 13)
    (hrm : RdM (tM (G.2.1 (F a 35)) ((G.1 a 36).toInt)) ((G.1 a 36).toInt) r1 ((G.1 a 39).toInt) ((G.1 a 37).toInt) ((G.1 a 38).toInt))
    (hwd : r2.length = n0 ∧ ∀ i : Nat, i < n0 → aI (G.2.1 p0) (i : Int) = r2.getD i 0 ∧ 0 ≤ r2.getD i 0 ∧ r2.getD i 0 ≤ 127)
    (oq1 : ((G1.1 a 37).toInt) = rn cBl (tM (G.2.1 (F a 35)) ((G.1 a 36).toInt)) ((G.1 a 37).toInt))
    (pl : ∀ j : Int, (G1.1 a 37).toInt ≤ j → j < l2_10.toInt → cLt ((tM (G.2.1 (F a 35)) ((G.1 a 36).toInt)) j))
    (pw : (l3_54.toInt = 1 → ((G.1 a 39).toInt ≠ 0 ∧ l2_10.toInt - (G1.1 a 37).toInt = (n0 : Int) ∧ ∀ i : Nat, (i : Int) < l4_54.toInt → (tM (G.2.1 (F a 35)) ((G.1 a 36).toInt)) ((G1.1 a 37).toInt + (i : Int)) = r2.getD i 0)) ∧ (l3_54.toInt = 0 → ¬ (r1.1 = 1 ∧ wOk (tM (G.2.1 (F a 35)) ((G.1 a 36).toInt)) r1.2 r2)))
    (nt0 : 0 ≤ ((G.1 a 36).toInt) ∧ ((G.1 a 36).toInt) ≤ 80)
    (f12 : 3 ≤ (((n0) : Nat) : Int) ∧ (((n0) : Nat) : Int) ≤ 7)
    (z0 : 0 ≤ ((G.1 a 37).toInt) ∧ ((G.1 a 37).toInt) ≤ ((G.1 a 36).toInt))
    (t1 : -128 ≤ x1.toInt ∧ x1.toInt ≤ 127 ∧ ((0 ≤ x1.toInt ∧ (tM (G.2.1 (F a 35)) ((G.1 a 36).toInt) ((G1.1 a 37).toInt)) = x1.toInt) ∨ (x1.toInt < 0 ∧ (tM (G.2.1 (F a 35)) ((G.1 a 36).toInt) ((G1.1 a 37).toInt)) = x1.toInt + 256)) ∧ ((G.1 a 37).toInt) ≤ ((G1.1 a 37).toInt) ∧ ((G1.1 a 37).toInt) ≤ ((G.1 a 36).toInt))
    (I10_0 : ((G1.1 a 37).toInt) ≤ l2_10.toInt ∧ l2_10.toInt ≤ ((G.1 a 36).toInt))
    (hm10 : 2147483648 - l2_10.toInt < (((N10) + 1 : Nat) : Int))
    (z10 : ((0 ≤ l2_10.toInt ∧ l2_10.toInt < ((G.1 a 36).toInt)) ∧ True) ∨ (¬ (0 ≤ l2_10.toInt ∧ l2_10.toInt < ((G.1 a 36).toInt)) ∧ (tM (G.2.1 (F a 35)) ((G.1 a 36).toInt) (l2_10.toInt)) = 0))
    (t12 : -128 ≤ x12.toInt ∧ x12.toInt ≤ 127 ∧ ((0 ≤ x12.toInt ∧ (tM (G.2.1 (F a 35)) ((G.1 a 36).toInt) (l2_10.toInt)) = x12.toInt) ∨ (x12.toInt < 0 ∧ (tM (G.2.1 (F a 35)) ((G.1 a 36).toInt) (l2_10.toInt)) = x12.toInt + 256)))
    (t15 : (x15.toInt = 1 ∧ 97 ≤ x12.toInt ∧ x12.toInt ≤ 122) ∨ (x15.toInt = 0 ∧ (x12.toInt < 97 ∨ 122 < x12.toInt)))
    (c18 : x15.toInt = 0)
    (f21 : ((G.1 a 39).toInt) = 0 ∨ ((G.1 a 39).toInt) = 1)
    (c31 : ¬ (((G.1 a 39).toInt) = 0))
    (t41 : x41.toInt = (((n0) : Nat) : Int))
    (c42 : (l2_10.toInt - ((G1.1 a 37).toInt)) ≠ x41.toInt)
    (I54_0 : 0 ≤ l4_54.toInt ∧ l4_54.toInt ≤ (((n0) : Nat) : Int))
    (I54_1 : l3_54.toInt = 0 ∨ l3_54.toInt = 1)
    (I54_2 : (0 : Int) ≤ l4_54.toInt)
    (hm54 : 2147483648 - l4_54.toInt < (((N54) + 1 : Nat) : Int))
    (c55 : ¬ (l3_54.toInt = 0))
    (t61 : x61.toInt = (((n0) : Nat) : Int))
    (c62 : x61.toInt ≤ l4_54.toInt)
    (c97 : l3_54.toInt = 0) :
    l3_54.toInt = (tkW (tM (G.2.1 (F a 35)) ((G.1 a 36).toInt)) r2 r1).1 := by
  have he : l2_10.toInt = rn cLt (tM (G.2.1 (F a 35)) ((G.1 a 36).toInt)) ((G1.1 a 37).toInt) := by
    symm
    refine rn_eq ⟨by omega, pl, cLt_n ?_⟩
    omega
  first
    | (have nw := pw.2 (by omega)
       rw [tkW_f nw]
       show l3_54.toInt = 0
       omega)
    | (obtain ⟨w1, w2, w3⟩ := pw.1 (by omega)
       have wk := rdm_w1 hrm oq1 he w1 (by rw [hwd.1]; exact w2) (fun i hi => w3 i (by rw [hwd.1] at hi; omega))
       rw [tkW_t wk.1 wk.2]
       show l3_54.toInt = 1
       omega)
theorem v_X11_isWord_112_17 {K : Nat → Nat} {F : Nat → Nat → Nat} (a : Nat) (G : XG) (G1 : XG) (G108 : XG) (r1 : RSt) (r2 : List Int) (n0 : Nat) (p0 : Nat) (l2_10 : Int32) (l3_54 : Int32) (l4_54 : Int32) (x1 : Int32) (N10 : Nat) (x12 : Int32) (x15 : Int32) (x41 : Int32) (N54 : Nat) (x61 : Int32)
    (ha : K a = 13)
    (hrm : RdM (tM (G.2.1 (F a 35)) ((G.1 a 36).toInt)) ((G.1 a 36).toInt) r1 ((G.1 a 39).toInt) ((G.1 a 37).toInt) ((G.1 a 38).toInt))
    (hwd : r2.length = n0 ∧ ∀ i : Nat, i < n0 → aI (G.2.1 p0) (i : Int) = r2.getD i 0 ∧ 0 ≤ r2.getD i 0 ∧ r2.getD i 0 ≤ 127)
    (oq1 : ((G1.1 a 37).toInt) = rn cBl (tM (G.2.1 (F a 35)) ((G.1 a 36).toInt)) ((G.1 a 37).toInt))
    (pl : ∀ j : Int, (G1.1 a 37).toInt ≤ j → j < l2_10.toInt → cLt ((tM (G.2.1 (F a 35)) ((G.1 a 36).toInt)) j))
    (pw : (l3_54.toInt = 1 → ((G.1 a 39).toInt ≠ 0 ∧ l2_10.toInt - (G1.1 a 37).toInt = (n0 : Int) ∧ ∀ i : Nat, (i : Int) < l4_54.toInt → (tM (G.2.1 (F a 35)) ((G.1 a 36).toInt)) ((G1.1 a 37).toInt + (i : Int)) = r2.getD i 0)) ∧ (l3_54.toInt = 0 → ¬ (r1.1 = 1 ∧ wOk (tM (G.2.1 (F a 35)) ((G.1 a 36).toInt)) r1.2 r2)))
    (nt0 : 0 ≤ ((G.1 a 36).toInt) ∧ ((G.1 a 36).toInt) ≤ 80)
    (f12 : 3 ≤ (((n0) : Nat) : Int) ∧ (((n0) : Nat) : Int) ≤ 7)
    (z0 : 0 ≤ ((G.1 a 37).toInt) ∧ ((G.1 a 37).toInt) ≤ ((G.1 a 36).toInt))
    (t1 : -128 ≤ x1.toInt ∧ x1.toInt ≤ 127 ∧ ((0 ≤ x1.toInt ∧ (tM (G.2.1 (F a 35)) ((G.1 a 36).toInt) ((G1.1 a 37).toInt)) = x1.toInt) ∨ (x1.toInt < 0 ∧ (tM (G.2.1 (F a 35)) ((G.1 a 36).toInt) ((G1.1 a 37).toInt)) = x1.toInt + 256)) ∧ ((G.1 a 37).toInt) ≤ ((G1.1 a 37).toInt) ∧ ((G1.1 a 37).toInt) ≤ ((G.1 a 36).toInt))
    (I10_0 : ((G1.1 a 37).toInt) ≤ l2_10.toInt ∧ l2_10.toInt ≤ ((G.1 a 36).toInt))
    (hm10 : 2147483648 - l2_10.toInt < (((N10) + 1 : Nat) : Int))
    (z10 : ((0 ≤ l2_10.toInt ∧ l2_10.toInt < ((G.1 a 36).toInt)) ∧ True) ∨ (¬ (0 ≤ l2_10.toInt ∧ l2_10.toInt < ((G.1 a 36).toInt)) ∧ (tM (G.2.1 (F a 35)) ((G.1 a 36).toInt) (l2_10.toInt)) = 0))
    (t12 : -128 ≤ x12.toInt ∧ x12.toInt ≤ 127 ∧ ((0 ≤ x12.toInt ∧ (tM (G.2.1 (F a 35)) ((G.1 a 36).toInt) (l2_10.toInt)) = x12.toInt) ∨ (x12.toInt < 0 ∧ (tM (G.2.1 (F a 35)) ((G.1 a 36).toInt) (l2_10.toInt)) = x12.toInt + 256)))
    (t15 : (x15.toInt = 1 ∧ 97 ≤ x12.toInt ∧ x12.toInt ≤ 122) ∨ (x15.toInt = 0 ∧ (x12.toInt < 97 ∨ 122 < x12.toInt)))
    (c18 : x15.toInt = 0)
    (f21 : ((G.1 a 39).toInt) = 0 ∨ ((G.1 a 39).toInt) = 1)
    (c31 : ¬ (((G.1 a 39).toInt) = 0))
    (t41 : x41.toInt = (((n0) : Nat) : Int))
    (c42 : (l2_10.toInt - ((G1.1 a 37).toInt)) ≠ x41.toInt)
    (I54_0 : 0 ≤ l4_54.toInt ∧ l4_54.toInt ≤ (((n0) : Nat) : Int))
    (I54_1 : l3_54.toInt = 0 ∨ l3_54.toInt = 1)
    (I54_2 : (0 : Int) ≤ l4_54.toInt)
    (hm54 : 2147483648 - l4_54.toInt < (((N54) + 1 : Nat) : Int))
    (c55 : ¬ (l3_54.toInt = 0))
    (t61 : x61.toInt = (((n0) : Nat) : Int))
    (c62 : x61.toInt ≤ l4_54.toInt)
    (c97 : l3_54.toInt = 0)
    (d_G108_a_37 : G108.1 a 37 = (G1.1 a 37))
    (d_G108_a_38 : G108.1 a 38 = G.1 a 38)
    (d_G108_a_39 : G108.1 a 39 = G.1 a 39) :
    RdM (tM (G.2.1 (F a 35)) ((G.1 a 36).toInt)) ((G.1 a 36).toInt) (tkW (tM (G.2.1 (F a 35)) ((G.1 a 36).toInt)) r2 r1).2 ((G108.1 a 39).toInt) ((G108.1 a 37).toInt) ((G108.1 a 38).toInt) := by
  have he : l2_10.toInt = rn cLt (tM (G.2.1 (F a 35)) ((G.1 a 36).toInt)) ((G1.1 a 37).toInt) := by
    symm
    refine rn_eq ⟨by omega, pl, cLt_n ?_⟩
    omega
  first
    | (have nw := pw.2 (by omega)
       rw [tkW_f nw, d_G108_a_37, d_G108_a_38, d_G108_a_39]
       exact hrm.sk (tM_e _ _) oq1)
    | (obtain ⟨w1, w2, w3⟩ := pw.1 (by omega)
       have wk := rdm_w1 hrm oq1 he w1 (by rw [hwd.1]; exact w2) (fun i hi => w3 i (by rw [hwd.1] at hi; omega))
       rw [tkW_t wk.1 wk.2, d_G108_a_37, d_G108_a_38, d_G108_a_39]
       refine rdm_st (tM_e _ _) ?_ w1 (by omega)
       rw [show r1.2 + (r2.length : Int) = l2_10.toInt from ?_]
       have s2 := hrm.2.2.1 wk.1
       rw [← oq1] at s2
       have := hwd.1
       omega)
theorem v_X11_isWord_112_18 {K : Nat → Nat} {F : Nat → Nat → Nat} (a : Nat) (G : XG) (G1 : XG) (l2_10 : Int32) (r1 : RSt) (r2 : List Int) (n0 : Nat) (p0 : Nat) (l3_54 : Int32) (l4_54 : Int32) (x1 : Int32) (N10 : Nat) (x12 : Int32) (x15 : Int32) (x41 : Int32) (N54 : Nat) (x61 : Int32)
    (ha : K a = 13)
    (hrm : RdM (tM (G.2.1 (F a 35)) ((G.1 a 36).toInt)) ((G.1 a 36).toInt) r1 ((G.1 a 39).toInt) ((G.1 a 37).toInt) ((G.1 a 38).toInt))
    (hwd : r2.length = n0 ∧ ∀ i : Nat, i < n0 → aI (G.2.1 p0) (i : Int) = r2.getD i 0 ∧ 0 ≤ r2.getD i 0 ∧ r2.getD i 0 ≤ 127)
    (oq1 : ((G1.1 a 37).toInt) = rn cBl (tM (G.2.1 (F a 35)) ((G.1 a 36).toInt)) ((G.1 a 37).toInt))
    (pl : ∀ j : Int, (G1.1 a 37).toInt ≤ j → j < l2_10.toInt → cLt ((tM (G.2.1 (F a 35)) ((G.1 a 36).toInt)) j))
    (pw : (l3_54.toInt = 1 → ((G.1 a 39).toInt ≠ 0 ∧ l2_10.toInt - (G1.1 a 37).toInt = (n0 : Int) ∧ ∀ i : Nat, (i : Int) < l4_54.toInt → (tM (G.2.1 (F a 35)) ((G.1 a 36).toInt)) ((G1.1 a 37).toInt + (i : Int)) = r2.getD i 0)) ∧ (l3_54.toInt = 0 → ¬ (r1.1 = 1 ∧ wOk (tM (G.2.1 (F a 35)) ((G.1 a 36).toInt)) r1.2 r2)))
    (nt0 : 0 ≤ ((G.1 a 36).toInt) ∧ ((G.1 a 36).toInt) ≤ 80)
    (f12 : 3 ≤ (((n0) : Nat) : Int) ∧ (((n0) : Nat) : Int) ≤ 7)
    (z0 : 0 ≤ ((G.1 a 37).toInt) ∧ ((G.1 a 37).toInt) ≤ ((G.1 a 36).toInt))
    (t1 : -128 ≤ x1.toInt ∧ x1.toInt ≤ 127 ∧ ((0 ≤ x1.toInt ∧ (tM (G.2.1 (F a 35)) ((G.1 a 36).toInt) ((G1.1 a 37).toInt)) = x1.toInt) ∨ (x1.toInt < 0 ∧ (tM (G.2.1 (F a 35)) ((G.1 a 36).toInt) ((G1.1 a 37).toInt)) = x1.toInt + 256)) ∧ ((G.1 a 37).toInt) ≤ ((G1.1 a 37).toInt) ∧ ((G1.1 a 37).toInt) ≤ ((G.1 a 36).toInt))
    (I10_0 : ((G1.1 a 37).toInt) ≤ l2_10.toInt ∧ l2_10.toInt ≤ ((G.1 a 36).toInt))
    (hm10 : 2147483648 - l2_10.toInt < (((N10) + 1 : Nat) : Int))
    (z10 : ((0 ≤ l2_10.toInt ∧ l2_10.toInt < ((G.1 a 36).toInt)) ∧ True) ∨ (¬ (0 ≤ l2_10.toInt ∧ l2_10.toInt < ((G.1 a 36).toInt)) ∧ (tM (G.2.1 (F a 35)) ((G.1 a 36).toInt) (l2_10.toInt)) = 0))
    (t12 : -128 ≤ x12.toInt ∧ x12.toInt ≤ 127 ∧ ((0 ≤ x12.toInt ∧ (tM (G.2.1 (F a 35)) ((G.1 a 36).toInt) (l2_10.toInt)) = x12.toInt) ∨ (x12.toInt < 0 ∧ (tM (G.2.1 (F a 35)) ((G.1 a 36).toInt) (l2_10.toInt)) = x12.toInt + 256)))
    (t15 : (x15.toInt = 1 ∧ 97 ≤ x12.toInt ∧ x12.toInt ≤ 122) ∨ (x15.toInt = 0 ∧ (x12.toInt < 97 ∨ 122 < x12.toInt)))
    (c18 : x15.toInt = 0)
    (f21 : ((G.1 a 39).toInt) = 0 ∨ ((G.1 a 39).toInt) = 1)
    (c31 : ¬ (((G.1 a 39).toInt) = 0))
    (t41 : x41.toInt = (((n0) : Nat) : Int))
    (c42 : (l2_10.toInt - ((G1.1 a 37).toInt)) ≠ x41.toInt)
    (I54_0 : 0 ≤ l4_54.toInt ∧ l4_54.toInt ≤ (((n0) : Nat) : Int))
    (I54_1 : l3_54.toInt = 0 ∨ l3_54.toInt = 1)
    (I54_2 : (0 : Int) ≤ l4_54.toInt)
    (hm54 : 2147483648 - l4_54.toInt < (((N54) + 1 : Nat) : Int))
    (c55 : ¬ (l3_54.toInt = 0))
    (t61 : x61.toInt = (((n0) : Nat) : Int))
    (c62 : x61.toInt ≤ l4_54.toInt) :
    l3_54.toInt = (tkW (tM (G.2.1 (F a 35)) ((G.1 a 36).toInt)) r2 r1).1 := by
  have he : l2_10.toInt = rn cLt (tM (G.2.1 (F a 35)) ((G.1 a 36).toInt)) ((G1.1 a 37).toInt) := by
    symm
    refine rn_eq ⟨by omega, pl, cLt_n ?_⟩
    omega
  first
    | (have nw := pw.2 (by omega)
       rw [tkW_f nw]
       show l3_54.toInt = 0
       omega)
    | (obtain ⟨w1, w2, w3⟩ := pw.1 (by omega)
       have wk := rdm_w1 hrm oq1 he w1 (by rw [hwd.1]; exact w2) (fun i hi => w3 i (by rw [hwd.1] at hi; omega))
       rw [tkW_t wk.1 wk.2]
       show l3_54.toInt = 1
       omega)
theorem v_X11_isWord_112_19 {K : Nat → Nat} {F : Nat → Nat → Nat} (a : Nat) (G : XG) (G1 : XG) (G108 : XG) (l2_10 : Int32) (r1 : RSt) (r2 : List Int) (n0 : Nat) (p0 : Nat) (l3_54 : Int32) (l4_54 : Int32) (x1 : Int32) (N10 : Nat) (x12 : Int32) (x15 : Int32) (x41 : Int32) (N54 : Nat) (x61 : Int32)
    (ha : K a = 13)
    (hrm : RdM (tM (G.2.1 (F a 35)) ((G.1 a 36).toInt)) ((G.1 a 36).toInt) r1 ((G.1 a 39).toInt) ((G.1 a 37).toInt) ((G.1 a 38).toInt))
    (hwd : r2.length = n0 ∧ ∀ i : Nat, i < n0 → aI (G.2.1 p0) (i : Int) = r2.getD i 0 ∧ 0 ≤ r2.getD i 0 ∧ r2.getD i 0 ≤ 127)
    (oq1 : ((G1.1 a 37).toInt) = rn cBl (tM (G.2.1 (F a 35)) ((G.1 a 36).toInt)) ((G.1 a 37).toInt))
    (pl : ∀ j : Int, (G1.1 a 37).toInt ≤ j → j < l2_10.toInt → cLt ((tM (G.2.1 (F a 35)) ((G.1 a 36).toInt)) j))
    (pw : (l3_54.toInt = 1 → ((G.1 a 39).toInt ≠ 0 ∧ l2_10.toInt - (G1.1 a 37).toInt = (n0 : Int) ∧ ∀ i : Nat, (i : Int) < l4_54.toInt → (tM (G.2.1 (F a 35)) ((G.1 a 36).toInt)) ((G1.1 a 37).toInt + (i : Int)) = r2.getD i 0)) ∧ (l3_54.toInt = 0 → ¬ (r1.1 = 1 ∧ wOk (tM (G.2.1 (F a 35)) ((G.1 a 36).toInt)) r1.2 r2)))
    (nt0 : 0 ≤ ((G.1 a 36).toInt) ∧ ((G.1 a 36).toInt) ≤ 80)
    (f12 : 3 ≤ (((n0) : Nat) : Int) ∧ (((n0) : Nat) : Int) ≤ 7)
    (z0 : 0 ≤ ((G.1 a 37).toInt) ∧ ((G.1 a 37).toInt) ≤ ((G.1 a 36).toInt))
    (t1 : -128 ≤ x1.toInt ∧ x1.toInt ≤ 127 ∧ ((0 ≤ x1.toInt ∧ (tM (G.2.1 (F a 35)) ((G.1 a 36).toInt) ((G1.1 a 37).toInt)) = x1.toInt) ∨ (x1.toInt < 0 ∧ (tM (G.2.1 (F a 35)) ((G.1 a 36).toInt) ((G1.1 a 37).toInt)) = x1.toInt + 256)) ∧ ((G.1 a 37).toInt) ≤ ((G1.1 a 37).toInt) ∧ ((G1.1 a 37).toInt) ≤ ((G.1 a 36).toInt))
    (I10_0 : ((G1.1 a 37).toInt) ≤ l2_10.toInt ∧ l2_10.toInt ≤ ((G.1 a 36).toInt))
    (hm10 : 2147483648 - l2_10.toInt < (((N10) + 1 : Nat) : Int))
    (z10 : ((0 ≤ l2_10.toInt ∧ l2_10.toInt < ((G.1 a 36).toInt)) ∧ True) ∨ (¬ (0 ≤ l2_10.toInt ∧ l2_10.toInt < ((G.1 a 36).toInt)) ∧ (tM (G.2.1 (F a 35)) ((G.1 a 36).toInt) (l2_10.toInt)) = 0))
    (t12 : -128 ≤ x12.toInt ∧ x12.toInt ≤ 127 ∧ ((0 ≤ x12.toInt ∧ (tM (G.2.1 (F a 35)) ((G.1 a 36).toInt) (l2_10.toInt)) = x12.toInt) ∨ (x12.toInt < 0 ∧ (tM (G.2.1 (F a 35)) ((G.1 a 36).toInt) (l2_10.toInt)) = x12.toInt + 256)))
    (t15 : (x15.toInt = 1 ∧ 97 ≤ x12.toInt ∧ x12.toInt ≤ 122) ∨ (x15.toInt = 0 ∧ (x12.toInt < 97 ∨ 122 < x12.toInt)))
    (c18 : x15.toInt = 0)
    (f21 : ((G.1 a 39).toInt) = 0 ∨ ((G.1 a 39).toInt) = 1)
    (c31 : ¬ (((G.1 a 39).toInt) = 0))
    (t41 : x41.toInt = (((n0) : Nat) : Int))
    (c42 : (l2_10.toInt - ((G1.1 a 37).toInt)) ≠ x41.toInt)
    (I54_0 : 0 ≤ l4_54.toInt ∧ l4_54.toInt ≤ (((n0) : Nat) : Int))
    (I54_1 : l3_54.toInt = 0 ∨ l3_54.toInt = 1)
    (I54_2 : (0 : Int) ≤ l4_54.toInt)
    (hm54 : 2147483648 - l4_54.toInt < (((N54) + 1 : Nat) : Int))
    (c55 : ¬ (l3_54.toInt = 0))
    (t61 : x61.toInt = (((n0) : Nat) : Int))
    (c62 : x61.toInt ≤ l4_54.toInt)
    (d_G108_a_37 : G108.1 a 37 = l2_10)
    (d_G108_a_38 : G108.1 a 38 = G.1 a 38)
    (d_G108_a_39 : G108.1 a 39 = G.1 a 39) :
    RdM (tM (G.2.1 (F a 35)) ((G.1 a 36).toInt)) ((G.1 a 36).toInt) (tkW (tM (G.2.1 (F a 35)) ((G.1 a 36).toInt)) r2 r1).2 ((G108.1 a 39).toInt) ((G108.1 a 37).toInt) ((G108.1 a 38).toInt) := by
  have he : l2_10.toInt = rn cLt (tM (G.2.1 (F a 35)) ((G.1 a 36).toInt)) ((G1.1 a 37).toInt) := by
    symm
    refine rn_eq ⟨by omega, pl, cLt_n ?_⟩
    omega
  first
    | (have nw := pw.2 (by omega)
       rw [tkW_f nw, d_G108_a_37, d_G108_a_38, d_G108_a_39]
       exact hrm.sk (tM_e _ _) oq1)
    | (obtain ⟨w1, w2, w3⟩ := pw.1 (by omega)
       have wk := rdm_w1 hrm oq1 he w1 (by rw [hwd.1]; exact w2) (fun i hi => w3 i (by rw [hwd.1] at hi; omega))
       rw [tkW_t wk.1 wk.2, d_G108_a_37, d_G108_a_38, d_G108_a_39]
       refine rdm_st (tM_e _ _) ?_ w1 (by omega)
       rw [show r1.2 + (r2.length : Int) = l2_10.toInt from ?_]
       have s2 := hrm.2.2.1 wk.1
       rw [← oq1] at s2
       have := hwd.1
       omega)
theorem v_X11_isWord_92_20 {K : Nat → Nat} {F : Nat → Nat → Nat} (a : Nat) (G : XG) (G1 : XG) (r1 : RSt) (r2 : List Int) (n0 : Nat) (p0 : Nat) (l2_10 : Int32) (l3_54 : Int32) (l4_54 : Int32) (x1 : Int32) (N10 : Nat) (x12 : Int32) (x15 : Int32) (x41 : Int32) (N54 : Nat) (x61 : Int32) (x73 : Int32) (x79 : Int32)
    (ha : K a = 13)
    (hrm : RdM (tM (G.2.1 (F a 35)) ((G.1 a 36).toInt)) ((G.1 a 36).toInt) r1 ((G.1 a 39).toInt) ((G.1 a 37).toInt) ((G.1 a 38).toInt))
    (hwd : r2.length = n0 ∧ ∀ i : Nat, i < n0 → aI (G.2.1 p0) (i : Int) = r2.getD i 0 ∧ 0 ≤ r2.getD i 0 ∧ r2.getD i 0 ≤ 127)
    (oq1 : ((G1.1 a 37).toInt) = rn cBl (tM (G.2.1 (F a 35)) ((G.1 a 36).toInt)) ((G.1 a 37).toInt))
    (pl : ∀ j : Int, (G1.1 a 37).toInt ≤ j → j < l2_10.toInt → cLt ((tM (G.2.1 (F a 35)) ((G.1 a 36).toInt)) j))
    (pw : (l3_54.toInt = 1 → ((G.1 a 39).toInt ≠ 0 ∧ l2_10.toInt - (G1.1 a 37).toInt = (n0 : Int) ∧ ∀ i : Nat, (i : Int) < l4_54.toInt → (tM (G.2.1 (F a 35)) ((G.1 a 36).toInt)) ((G1.1 a 37).toInt + (i : Int)) = r2.getD i 0)) ∧ (l3_54.toInt = 0 → ¬ (r1.1 = 1 ∧ wOk (tM (G.2.1 (F a 35)) ((G.1 a 36).toInt)) r1.2 r2)))
    (nt0 : 0 ≤ ((G.1 a 36).toInt) ∧ ((G.1 a 36).toInt) ≤ 80)
    (f13 : 3 ≤ (((n0) : Nat) : Int) ∧ (((n0) : Nat) : Int) ≤ 7)
    (z0 : 0 ≤ ((G.1 a 37).toInt) ∧ ((G.1 a 37).toInt) ≤ ((G.1 a 36).toInt))
    (t1 : -128 ≤ x1.toInt ∧ x1.toInt ≤ 127 ∧ ((0 ≤ x1.toInt ∧ (tM (G.2.1 (F a 35)) ((G.1 a 36).toInt) ((G1.1 a 37).toInt)) = x1.toInt) ∨ (x1.toInt < 0 ∧ (tM (G.2.1 (F a 35)) ((G.1 a 36).toInt) ((G1.1 a 37).toInt)) = x1.toInt + 256)) ∧ ((G.1 a 37).toInt) ≤ ((G1.1 a 37).toInt) ∧ ((G1.1 a 37).toInt) ≤ ((G.1 a 36).toInt))
    (I10_0 : ((G1.1 a 37).toInt) ≤ l2_10.toInt ∧ l2_10.toInt ≤ ((G.1 a 36).toInt))
    (hm10 : 2147483648 - l2_10.toInt < (((N10) + 1 : Nat) : Int))
    (z10 : ((0 ≤ l2_10.toInt ∧ l2_10.toInt < ((G.1 a 36).toInt)) ∧ True) ∨ (¬ (0 ≤ l2_10.toInt ∧ l2_10.toInt < ((G.1 a 36).toInt)) ∧ (tM (G.2.1 (F a 35)) ((G.1 a 36).toInt) (l2_10.toInt)) = 0))
    (t12 : -128 ≤ x12.toInt ∧ x12.toInt ≤ 127 ∧ ((0 ≤ x12.toInt ∧ (tM (G.2.1 (F a 35)) ((G.1 a 36).toInt) (l2_10.toInt)) = x12.toInt) ∨ (x12.toInt < 0 ∧ (tM (G.2.1 (F a 35)) ((G.1 a 36).toInt) (l2_10.toInt)) = x12.toInt + 256)))
    (t15 : (x15.toInt = 1 ∧ 97 ≤ x12.toInt ∧ x12.toInt ≤ 122) ∨ (x15.toInt = 0 ∧ (x12.toInt < 97 ∨ 122 < x12.toInt)))
    (c18 : x15.toInt = 0)
    (f22 : ((G.1 a 39).toInt) = 0 ∨ ((G.1 a 39).toInt) = 1)
    (c31 : ¬ (((G.1 a 39).toInt) = 0))
    (t41 : x41.toInt = (((n0) : Nat) : Int))
    (c42 : (l2_10.toInt - ((G1.1 a 37).toInt)) ≠ x41.toInt)
    (I54_0 : 0 ≤ l4_54.toInt ∧ l4_54.toInt ≤ (((n0) : Nat) : Int))
    (I54_1 : l3_54.toInt = 0 ∨ l3_54.toInt = 1)
    (I54_2 : (0 : Int) ≤ l4_54.toInt)
    (hm54 : 2147483648 - l4_54.toInt < (((N54) + 1 : Nat) : Int))
    (c55 : ¬ (l3_54.toInt = 0))
    (t61 : x61.toInt = (((n0) : Nat) : Int))
    (c62 : ¬ (x61.toInt ≤ l4_54.toInt))
    (t73 : -128 ≤ x73.toInt ∧ x73.toInt ≤ 127 ∧ ((0 ≤ x73.toInt ∧ (tM (G.2.1 (F a 35)) ((G.1 a 36).toInt) (((G1.1 a 37).toInt) + l4_54.toInt)) = x73.toInt) ∨ (x73.toInt < 0 ∧ (tM (G.2.1 (F a 35)) ((G.1 a 36).toInt) (((G1.1 a 37).toInt) + l4_54.toInt)) = x73.toInt + 256)))
    (hv79 : x79.toInt = (aI (G.2.1 p0) (l4_54.toInt)))
    (c80 : x73.toInt ≠ x79.toInt) :
    ((0 : Int) = 1 → ((G.1 a 39).toInt ≠ 0 ∧ l2_10.toInt - (G1.1 a 37).toInt = (n0 : Int) ∧ ∀ i : Nat, (i : Int) < (l4_54.toInt + 1) → (tM (G.2.1 (F a 35)) ((G.1 a 36).toInt)) ((G1.1 a 37).toInt + (i : Int)) = r2.getD i 0)) ∧ ((0 : Int) = 0 → ¬ (r1.1 = 1 ∧ wOk (tM (G.2.1 (F a 35)) ((G.1 a 36).toInt)) r1.2 r2)) := by
  have he : l2_10.toInt = rn cLt (tM (G.2.1 (F a 35)) ((G.1 a 36).toInt)) ((G1.1 a 37).toInt) := by
    symm
    refine rn_eq ⟨by omega, pl, cLt_n ?_⟩
    omega
  have hi := hwd.2 (l4_54.toInt).toNat (by omega)
  rw [show (((l4_54.toInt).toNat : Nat) : Int) = l4_54.toInt from by omega] at hi
  obtain ⟨w1, w2, w3⟩ := pw.1 (by omega)
  refine ⟨fun h => ?_, fun h => ?_⟩
  · first
      | (exfalso; omega)
      | (refine ⟨w1, w2, fun i hj => ?_⟩
         by_cases e : (i : Int) = l4_54.toInt
         · rw [e, show i = (l4_54.toInt).toNat from by omega]
           omega
         · exact w3 i (by omega))
  · first
      | (exfalso; omega)
      | exact rdm_w0 hrm oq1 he (Or.inr (Or.inr ⟨(l4_54.toInt).toNat, by rw [hwd.1]; omega, by rw [show (((l4_54.toInt).toNat : Nat) : Int) = l4_54.toInt from by omega]; omega⟩))
theorem v_X11_isWord_92_21 {K : Nat → Nat} {F : Nat → Nat → Nat} (a : Nat) (G : XG) (G1 : XG) (r1 : RSt) (r2 : List Int) (n0 : Nat) (p0 : Nat) (l2_10 : Int32) (l3_54 : Int32) (l4_54 : Int32) (x1 : Int32) (N10 : Nat) (x12 : Int32) (x15 : Int32) (x41 : Int32) (N54 : Nat) (x61 : Int32) (x73 : Int32) (x79 : Int32)
    (ha : K a = 13)
    (hrm : RdM (tM (G.2.1 (F a 35)) ((G.1 a 36).toInt)) ((G.1 a 36).toInt) r1 ((G.1 a 39).toInt) ((G.1 a 37).toInt) ((G.1 a 38).toInt))
    (hwd : r2.length = n0 ∧ ∀ i : Nat, i < n0 → aI (G.2.1 p0) (i : Int) = r2.getD i 0 ∧ 0 ≤ r2.getD i 0 ∧ r2.getD i 0 ≤ 127)
    (oq1 : ((G1.1 a 37).toInt) = rn cBl (tM (G.2.1 (F a 35)) ((G.1 a 36).toInt)) ((G.1 a 37).toInt))
    (pl : ∀ j : Int, (G1.1 a 37).toInt ≤ j → j < l2_10.toInt → cLt ((tM (G.2.1 (F a 35)) ((G.1 a 36).toInt)) j))
    (pw : (l3_54.toInt = 1 → ((G.1 a 39).toInt ≠ 0 ∧ l2_10.toInt - (G1.1 a 37).toInt = (n0 : Int) ∧ ∀ i : Nat, (i : Int) < l4_54.toInt → (tM (G.2.1 (F a 35)) ((G.1 a 36).toInt)) ((G1.1 a 37).toInt + (i : Int)) = r2.getD i 0)) ∧ (l3_54.toInt = 0 → ¬ (r1.1 = 1 ∧ wOk (tM (G.2.1 (F a 35)) ((G.1 a 36).toInt)) r1.2 r2)))
    (nt0 : 0 ≤ ((G.1 a 36).toInt) ∧ ((G.1 a 36).toInt) ≤ 80)
    (f13 : 3 ≤ (((n0) : Nat) : Int) ∧ (((n0) : Nat) : Int) ≤ 7)
    (z0 : 0 ≤ ((G.1 a 37).toInt) ∧ ((G.1 a 37).toInt) ≤ ((G.1 a 36).toInt))
    (t1 : -128 ≤ x1.toInt ∧ x1.toInt ≤ 127 ∧ ((0 ≤ x1.toInt ∧ (tM (G.2.1 (F a 35)) ((G.1 a 36).toInt) ((G1.1 a 37).toInt)) = x1.toInt) ∨ (x1.toInt < 0 ∧ (tM (G.2.1 (F a 35)) ((G.1 a 36).toInt) ((G1.1 a 37).toInt)) = x1.toInt + 256)) ∧ ((G.1 a 37).toInt) ≤ ((G1.1 a 37).toInt) ∧ ((G1.1 a 37).toInt) ≤ ((G.1 a 36).toInt))
    (I10_0 : ((G1.1 a 37).toInt) ≤ l2_10.toInt ∧ l2_10.toInt ≤ ((G.1 a 36).toInt))
    (hm10 : 2147483648 - l2_10.toInt < (((N10) + 1 : Nat) : Int))
    (z10 : ((0 ≤ l2_10.toInt ∧ l2_10.toInt < ((G.1 a 36).toInt)) ∧ True) ∨ (¬ (0 ≤ l2_10.toInt ∧ l2_10.toInt < ((G.1 a 36).toInt)) ∧ (tM (G.2.1 (F a 35)) ((G.1 a 36).toInt) (l2_10.toInt)) = 0))
    (t12 : -128 ≤ x12.toInt ∧ x12.toInt ≤ 127 ∧ ((0 ≤ x12.toInt ∧ (tM (G.2.1 (F a 35)) ((G.1 a 36).toInt) (l2_10.toInt)) = x12.toInt) ∨ (x12.toInt < 0 ∧ (tM (G.2.1 (F a 35)) ((G.1 a 36).toInt) (l2_10.toInt)) = x12.toInt + 256)))
    (t15 : (x15.toInt = 1 ∧ 97 ≤ x12.toInt ∧ x12.toInt ≤ 122) ∨ (x15.toInt = 0 ∧ (x12.toInt < 97 ∨ 122 < x12.toInt)))
    (c18 : x15.toInt = 0)
    (f22 : ((G.1 a 39).toInt) = 0 ∨ ((G.1 a 39).toInt) = 1)
    (c31 : ¬ (((G.1 a 39).toInt) = 0))
    (t41 : x41.toInt = (((n0) : Nat) : Int))
    (c42 : (l2_10.toInt - ((G1.1 a 37).toInt)) ≠ x41.toInt)
    (I54_0 : 0 ≤ l4_54.toInt ∧ l4_54.toInt ≤ (((n0) : Nat) : Int))
    (I54_1 : l3_54.toInt = 0 ∨ l3_54.toInt = 1)
    (I54_2 : (0 : Int) ≤ l4_54.toInt)
    (hm54 : 2147483648 - l4_54.toInt < (((N54) + 1 : Nat) : Int))
    (c55 : ¬ (l3_54.toInt = 0))
    (t61 : x61.toInt = (((n0) : Nat) : Int))
    (c62 : ¬ (x61.toInt ≤ l4_54.toInt))
    (t73 : -128 ≤ x73.toInt ∧ x73.toInt ≤ 127 ∧ ((0 ≤ x73.toInt ∧ (tM (G.2.1 (F a 35)) ((G.1 a 36).toInt) (((G1.1 a 37).toInt) + l4_54.toInt)) = x73.toInt) ∨ (x73.toInt < 0 ∧ (tM (G.2.1 (F a 35)) ((G.1 a 36).toInt) (((G1.1 a 37).toInt) + l4_54.toInt)) = x73.toInt + 256)))
    (hv79 : x79.toInt = (aI (G.2.1 p0) (l4_54.toInt)))
    (c80 : ¬ (x73.toInt ≠ x79.toInt)) :
    ((1 : Int) = 1 → ((G.1 a 39).toInt ≠ 0 ∧ l2_10.toInt - (G1.1 a 37).toInt = (n0 : Int) ∧ ∀ i : Nat, (i : Int) < (l4_54.toInt + 1) → (tM (G.2.1 (F a 35)) ((G.1 a 36).toInt)) ((G1.1 a 37).toInt + (i : Int)) = r2.getD i 0)) ∧ ((1 : Int) = 0 → ¬ (r1.1 = 1 ∧ wOk (tM (G.2.1 (F a 35)) ((G.1 a 36).toInt)) r1.2 r2)) := by
  have he : l2_10.toInt = rn cLt (tM (G.2.1 (F a 35)) ((G.1 a 36).toInt)) ((G1.1 a 37).toInt) := by
    symm
    refine rn_eq ⟨by omega, pl, cLt_n ?_⟩
    omega
  have hi := hwd.2 (l4_54.toInt).toNat (by omega)
  rw [show (((l4_54.toInt).toNat : Nat) : Int) = l4_54.toInt from by omega] at hi
  obtain ⟨w1, w2, w3⟩ := pw.1 (by omega)
  refine ⟨fun h => ?_, fun h => ?_⟩
  · first
      | (exfalso; omega)
      | (refine ⟨w1, w2, fun i hj => ?_⟩
         by_cases e : (i : Int) = l4_54.toInt
         · rw [e, show i = (l4_54.toInt).toNat from by omega]
           omega
         · exact w3 i (by omega))
  · first
      | (exfalso; omega)
      | exact rdm_w0 hrm oq1 he (Or.inr (Or.inr ⟨(l4_54.toInt).toNat, by rw [hwd.1]; omega, by rw [show (((l4_54.toInt).toNat : Nat) : Int) = l4_54.toInt from by omega]; omega⟩))
theorem v_X11_isWord_52_22 {K : Nat → Nat} {F : Nat → Nat → Nat} (a : Nat) (G : XG) (G1 : XG) (r1 : RSt) (r2 : List Int) (n0 : Nat) (p0 : Nat) (l2_10 : Int32) (x1 : Int32) (N10 : Nat) (x12 : Int32) (x15 : Int32) (x41 : Int32)
    (ha : K a = 13)
    (hrm : RdM (tM (G.2.1 (F a 35)) ((G.1 a 36).toInt)) ((G.1 a 36).toInt) r1 ((G.1 a 39).toInt) ((G.1 a 37).toInt) ((G.1 a 38).toInt))
    (hwd : r2.length = n0 ∧ ∀ i : Nat, i < n0 → aI (G.2.1 p0) (i : Int) = r2.getD i 0 ∧ 0 ≤ r2.getD i 0 ∧ r2.getD i 0 ≤ 127)
    (oq1 : ((G1.1 a 37).toInt) = rn cBl (tM (G.2.1 (F a 35)) ((G.1 a 36).toInt)) ((G.1 a 37).toInt))
    (pl : ∀ j : Int, (G1.1 a 37).toInt ≤ j → j < l2_10.toInt → cLt ((tM (G.2.1 (F a 35)) ((G.1 a 36).toInt)) j))
    (nt0 : 0 ≤ ((G.1 a 36).toInt) ∧ ((G.1 a 36).toInt) ≤ 80)
    (f10 : 3 ≤ (((n0) : Nat) : Int) ∧ (((n0) : Nat) : Int) ≤ 7)
    (z0 : 0 ≤ ((G.1 a 37).toInt) ∧ ((G.1 a 37).toInt) ≤ ((G.1 a 36).toInt))
    (t1 : -128 ≤ x1.toInt ∧ x1.toInt ≤ 127 ∧ ((0 ≤ x1.toInt ∧ (tM (G.2.1 (F a 35)) ((G.1 a 36).toInt) ((G1.1 a 37).toInt)) = x1.toInt) ∨ (x1.toInt < 0 ∧ (tM (G.2.1 (F a 35)) ((G.1 a 36).toInt) ((G1.1 a 37).toInt)) = x1.toInt + 256)) ∧ ((G.1 a 37).toInt) ≤ ((G1.1 a 37).toInt) ∧ ((G1.1 a 37).toInt) ≤ ((G.1 a 36).toInt))
    (I10_0 : ((G1.1 a 37).toInt) ≤ l2_10.toInt ∧ l2_10.toInt ≤ ((G.1 a 36).toInt))
    (hm10 : 2147483648 - l2_10.toInt < (((N10) + 1 : Nat) : Int))
    (z10 : ((0 ≤ l2_10.toInt ∧ l2_10.toInt < ((G.1 a 36).toInt)) ∧ True) ∨ (¬ (0 ≤ l2_10.toInt ∧ l2_10.toInt < ((G.1 a 36).toInt)) ∧ (tM (G.2.1 (F a 35)) ((G.1 a 36).toInt) (l2_10.toInt)) = 0))
    (t12 : -128 ≤ x12.toInt ∧ x12.toInt ≤ 127 ∧ ((0 ≤ x12.toInt ∧ (tM (G.2.1 (F a 35)) ((G.1 a 36).toInt) (l2_10.toInt)) = x12.toInt) ∨ (x12.toInt < 0 ∧ (tM (G.2.1 (F a 35)) ((G.1 a 36).toInt) (l2_10.toInt)) = x12.toInt + 256)))
    (t15 : (x15.toInt = 1 ∧ 97 ≤ x12.toInt ∧ x12.toInt ≤ 122) ∨ (x15.toInt = 0 ∧ (x12.toInt < 97 ∨ 122 < x12.toInt)))
    (c18 : x15.toInt = 0)
    (f19 : ((G.1 a 39).toInt) = 0 ∨ ((G.1 a 39).toInt) = 1)
    (c31 : ¬ (((G.1 a 39).toInt) = 0))
    (t41 : x41.toInt = (((n0) : Nat) : Int))
    (c42 : (l2_10.toInt - ((G1.1 a 37).toInt)) ≠ x41.toInt) :
    ((0 : Int) = 1 → ((G.1 a 39).toInt ≠ 0 ∧ l2_10.toInt - (G1.1 a 37).toInt = (n0 : Int) ∧ ∀ i : Nat, (i : Int) < (0 : Int) → (tM (G.2.1 (F a 35)) ((G.1 a 36).toInt)) ((G1.1 a 37).toInt + (i : Int)) = r2.getD i 0)) ∧ ((0 : Int) = 0 → ¬ (r1.1 = 1 ∧ wOk (tM (G.2.1 (F a 35)) ((G.1 a 36).toInt)) r1.2 r2)) := by
  have he : l2_10.toInt = rn cLt (tM (G.2.1 (F a 35)) ((G.1 a 36).toInt)) ((G1.1 a 37).toInt) := by
    symm
    refine rn_eq ⟨by omega, pl, cLt_n ?_⟩
    omega
  refine ⟨fun h => ?_, fun h => ?_⟩
  · first
      | (exfalso; omega)
      | exact ⟨by omega, by omega, fun i hi => by omega⟩
  · first
      | (exfalso; omega)
      | exact rdm_w0 hrm oq1 he (Or.inl (by omega))
      | exact rdm_w0 hrm oq1 he (Or.inr (Or.inl (by rw [hwd.1]; omega)))
theorem v_X11_isWord_112_23 {K : Nat → Nat} {F : Nat → Nat → Nat} (a : Nat) (G : XG) (G1 : XG) (r1 : RSt) (r2 : List Int) (n0 : Nat) (p0 : Nat) (l2_10 : Int32) (l3_54 : Int32) (l4_54 : Int32) (x1 : Int32) (N10 : Nat) (x12 : Int32) (x15 : Int32) (x41 : Int32) (N54 : Nat)
    (ha : K a = 13)
    (hrm : RdM (tM (G.2.1 (F a 35)) ((G.1 a 36).toInt)) ((G.1 a 36).toInt) r1 ((G.1 a 39).toInt) ((G.1 a 37).toInt) ((G.1 a 38).toInt))
    (hwd : r2.length = n0 ∧ ∀ i : Nat, i < n0 → aI (G.2.1 p0) (i : Int) = r2.getD i 0 ∧ 0 ≤ r2.getD i 0 ∧ r2.getD i 0 ≤ 127)
    (oq1 : ((G1.1 a 37).toInt) = rn cBl (tM (G.2.1 (F a 35)) ((G.1 a 36).toInt)) ((G.1 a 37).toInt))
    (pl : ∀ j : Int, (G1.1 a 37).toInt ≤ j → j < l2_10.toInt → cLt ((tM (G.2.1 (F a 35)) ((G.1 a 36).toInt)) j))
    (pw : (l3_54.toInt = 1 → ((G.1 a 39).toInt ≠ 0 ∧ l2_10.toInt - (G1.1 a 37).toInt = (n0 : Int) ∧ ∀ i : Nat, (i : Int) < l4_54.toInt → (tM (G.2.1 (F a 35)) ((G.1 a 36).toInt)) ((G1.1 a 37).toInt + (i : Int)) = r2.getD i 0)) ∧ (l3_54.toInt = 0 → ¬ (r1.1 = 1 ∧ wOk (tM (G.2.1 (F a 35)) ((G.1 a 36).toInt)) r1.2 r2)))
    (nt0 : 0 ≤ ((G.1 a 36).toInt) ∧ ((G.1 a 36).toInt) ≤ 80)
    (f12 : 3 ≤ (((n0) : Nat) : Int) ∧ (((n0) : Nat) : Int) ≤ 7)
    (z0 : 0 ≤ ((G.1 a 37).toInt) ∧ ((G.1 a 37).toInt) ≤ ((G.1 a 36).toInt))
    (t1 : -128 ≤ x1.toInt ∧ x1.toInt ≤ 127 ∧ ((0 ≤ x1.toInt ∧ (tM (G.2.1 (F a 35)) ((G.1 a 36).toInt) ((G1.1 a 37).toInt)) = x1.toInt) ∨ (x1.toInt < 0 ∧ (tM (G.2.1 (F a 35)) ((G.1 a 36).toInt) ((G1.1 a 37).toInt)) = x1.toInt + 256)) ∧ ((G.1 a 37).toInt) ≤ ((G1.1 a 37).toInt) ∧ ((G1.1 a 37).toInt) ≤ ((G.1 a 36).toInt))
    (I10_0 : ((G1.1 a 37).toInt) ≤ l2_10.toInt ∧ l2_10.toInt ≤ ((G.1 a 36).toInt))
    (hm10 : 2147483648 - l2_10.toInt < (((N10) + 1 : Nat) : Int))
    (z10 : ((0 ≤ l2_10.toInt ∧ l2_10.toInt < ((G.1 a 36).toInt)) ∧ True) ∨ (¬ (0 ≤ l2_10.toInt ∧ l2_10.toInt < ((G.1 a 36).toInt)) ∧ (tM (G.2.1 (F a 35)) ((G.1 a 36).toInt) (l2_10.toInt)) = 0))
    (t12 : -128 ≤ x12.toInt ∧ x12.toInt ≤ 127 ∧ ((0 ≤ x12.toInt ∧ (tM (G.2.1 (F a 35)) ((G.1 a 36).toInt) (l2_10.toInt)) = x12.toInt) ∨ (x12.toInt < 0 ∧ (tM (G.2.1 (F a 35)) ((G.1 a 36).toInt) (l2_10.toInt)) = x12.toInt + 256)))
    (t15 : (x15.toInt = 1 ∧ 97 ≤ x12.toInt ∧ x12.toInt ≤ 122) ∨ (x15.toInt = 0 ∧ (x12.toInt < 97 ∨ 122 < x12.toInt)))
    (c18 : x15.toInt = 0)
    (f21 : ((G.1 a 39).toInt) = 0 ∨ ((G.1 a 39).toInt) = 1)
    (c31 : ¬ (((G.1 a 39).toInt) = 0))
    (t41 : x41.toInt = (((n0) : Nat) : Int))
    (c42 : ¬ ((l2_10.toInt - ((G1.1 a 37).toInt)) ≠ x41.toInt))
    (I54_0 : 0 ≤ l4_54.toInt ∧ l4_54.toInt ≤ (((n0) : Nat) : Int))
    (I54_1 : l3_54.toInt = 0 ∨ l3_54.toInt = 1)
    (I54_2 : (0 : Int) ≤ l4_54.toInt)
    (hm54 : 2147483648 - l4_54.toInt < (((N54) + 1 : Nat) : Int))
    (c55 : l3_54.toInt = 0) :
    l3_54.toInt = (tkW (tM (G.2.1 (F a 35)) ((G.1 a 36).toInt)) r2 r1).1 := by
  have he : l2_10.toInt = rn cLt (tM (G.2.1 (F a 35)) ((G.1 a 36).toInt)) ((G1.1 a 37).toInt) := by
    symm
    refine rn_eq ⟨by omega, pl, cLt_n ?_⟩
    omega
  first
    | (have nw := pw.2 (by omega)
       rw [tkW_f nw]
       show l3_54.toInt = 0
       omega)
    | (obtain ⟨w1, w2, w3⟩ := pw.1 (by omega)
       have wk := rdm_w1 hrm oq1 he w1 (by rw [hwd.1]; exact w2) (fun i hi => w3 i (by rw [hwd.1] at hi; omega))
       rw [tkW_t wk.1 wk.2]
       show l3_54.toInt = 1
       omega)
theorem v_X11_isWord_112_24 {K : Nat → Nat} {F : Nat → Nat → Nat} (a : Nat) (G : XG) (G1 : XG) (G108 : XG) (r1 : RSt) (r2 : List Int) (n0 : Nat) (p0 : Nat) (l2_10 : Int32) (l3_54 : Int32) (l4_54 : Int32) (x1 : Int32) (N10 : Nat) (x12 : Int32) (x15 : Int32) (x41 : Int32) (N54 : Nat)
    (ha : K a = 13)
    (hrm : RdM (tM (G.2.1 (F a 35)) ((G.1 a 36).toInt)) ((G.1 a 36).toInt) r1 ((G.1 a 39).toInt) ((G.1 a 37).toInt) ((G.1 a 38).toInt))
    (hwd : r2.length = n0 ∧ ∀ i : Nat, i < n0 → aI (G.2.1 p0) (i : Int) = r2.getD i 0 ∧ 0 ≤ r2.getD i 0 ∧ r2.getD i 0 ≤ 127)
    (oq1 : ((G1.1 a 37).toInt) = rn cBl (tM (G.2.1 (F a 35)) ((G.1 a 36).toInt)) ((G.1 a 37).toInt))
    (pl : ∀ j : Int, (G1.1 a 37).toInt ≤ j → j < l2_10.toInt → cLt ((tM (G.2.1 (F a 35)) ((G.1 a 36).toInt)) j))
    (pw : (l3_54.toInt = 1 → ((G.1 a 39).toInt ≠ 0 ∧ l2_10.toInt - (G1.1 a 37).toInt = (n0 : Int) ∧ ∀ i : Nat, (i : Int) < l4_54.toInt → (tM (G.2.1 (F a 35)) ((G.1 a 36).toInt)) ((G1.1 a 37).toInt + (i : Int)) = r2.getD i 0)) ∧ (l3_54.toInt = 0 → ¬ (r1.1 = 1 ∧ wOk (tM (G.2.1 (F a 35)) ((G.1 a 36).toInt)) r1.2 r2)))
    (nt0 : 0 ≤ ((G.1 a 36).toInt) ∧ ((G.1 a 36).toInt) ≤ 80)
    (f12 : 3 ≤ (((n0) : Nat) : Int) ∧ (((n0) : Nat) : Int) ≤ 7)
    (z0 : 0 ≤ ((G.1 a 37).toInt) ∧ ((G.1 a 37).toInt) ≤ ((G.1 a 36).toInt))
    (t1 : -128 ≤ x1.toInt ∧ x1.toInt ≤ 127 ∧ ((0 ≤ x1.toInt ∧ (tM (G.2.1 (F a 35)) ((G.1 a 36).toInt) ((G1.1 a 37).toInt)) = x1.toInt) ∨ (x1.toInt < 0 ∧ (tM (G.2.1 (F a 35)) ((G.1 a 36).toInt) ((G1.1 a 37).toInt)) = x1.toInt + 256)) ∧ ((G.1 a 37).toInt) ≤ ((G1.1 a 37).toInt) ∧ ((G1.1 a 37).toInt) ≤ ((G.1 a 36).toInt))
    (I10_0 : ((G1.1 a 37).toInt) ≤ l2_10.toInt ∧ l2_10.toInt ≤ ((G.1 a 36).toInt))
    (hm10 : 2147483648 - l2_10.toInt < (((N10) + 1 : Nat) : Int))
    (z10 : ((0 ≤ l2_10.toInt ∧ l2_10.toInt < ((G.1 a 36).toInt)) ∧ True) ∨ (¬ (0 ≤ l2_10.toInt ∧ l2_10.toInt < ((G.1 a 36).toInt)) ∧ (tM (G.2.1 (F a 35)) ((G.1 a 36).toInt) (l2_10.toInt)) = 0))
    (t12 : -128 ≤ x12.toInt ∧ x12.toInt ≤ 127 ∧ ((0 ≤ x12.toInt ∧ (tM (G.2.1 (F a 35)) ((G.1 a 36).toInt) (l2_10.toInt)) = x12.toInt) ∨ (x12.toInt < 0 ∧ (tM (G.2.1 (F a 35)) ((G.1 a 36).toInt) (l2_10.toInt)) = x12.toInt + 256)))
    (t15 : (x15.toInt = 1 ∧ 97 ≤ x12.toInt ∧ x12.toInt ≤ 122) ∨ (x15.toInt = 0 ∧ (x12.toInt < 97 ∨ 122 < x12.toInt)))
    (c18 : x15.toInt = 0)
    (f21 : ((G.1 a 39).toInt) = 0 ∨ ((G.1 a 39).toInt) = 1)
    (c31 : ¬ (((G.1 a 39).toInt) = 0))
    (t41 : x41.toInt = (((n0) : Nat) : Int))
    (c42 : ¬ ((l2_10.toInt - ((G1.1 a 37).toInt)) ≠ x41.toInt))
    (I54_0 : 0 ≤ l4_54.toInt ∧ l4_54.toInt ≤ (((n0) : Nat) : Int))
    (I54_1 : l3_54.toInt = 0 ∨ l3_54.toInt = 1)
    (I54_2 : (0 : Int) ≤ l4_54.toInt)
    (hm54 : 2147483648 - l4_54.toInt < (((N54) + 1 : Nat) : Int))
    (c55 : l3_54.toInt = 0)
    (d_G108_a_37 : G108.1 a 37 = (G1.1 a 37))
    (d_G108_a_38 : G108.1 a 38 = G.1 a 38)
    (d_G108_a_39 : G108.1 a 39 = G.1 a 39) :
    RdM (tM (G.2.1 (F a 35)) ((G.1 a 36).toInt)) ((G.1 a 36).toInt) (tkW (tM (G.2.1 (F a 35)) ((G.1 a 36).toInt)) r2 r1).2 ((G108.1 a 39).toInt) ((G108.1 a 37).toInt) ((G108.1 a 38).toInt) := by
  have he : l2_10.toInt = rn cLt (tM (G.2.1 (F a 35)) ((G.1 a 36).toInt)) ((G1.1 a 37).toInt) := by
    symm
    refine rn_eq ⟨by omega, pl, cLt_n ?_⟩
    omega
  first
    | (have nw := pw.2 (by omega)
       rw [tkW_f nw, d_G108_a_37, d_G108_a_38, d_G108_a_39]
       exact hrm.sk (tM_e _ _) oq1)
    | (obtain ⟨w1, w2, w3⟩ := pw.1 (by omega)
       have wk := rdm_w1 hrm oq1 he w1 (by rw [hwd.1]; exact w2) (fun i hi => w3 i (by rw [hwd.1] at hi; omega))
       rw [tkW_t wk.1 wk.2, d_G108_a_37, d_G108_a_38, d_G108_a_39]
       refine rdm_st (tM_e _ _) ?_ w1 (by omega)
       rw [show r1.2 + (r2.length : Int) = l2_10.toInt from ?_]
       have s2 := hrm.2.2.1 wk.1
       rw [← oq1] at s2
       have := hwd.1
       omega)
theorem v_X11_isWord_112_25 {K : Nat → Nat} {F : Nat → Nat → Nat} (a : Nat) (G : XG) (G1 : XG) (l2_10 : Int32) (r1 : RSt) (r2 : List Int) (n0 : Nat) (p0 : Nat) (l3_54 : Int32) (l4_54 : Int32) (x1 : Int32) (N10 : Nat) (x12 : Int32) (x15 : Int32) (x41 : Int32) (N54 : Nat)
    (ha : K a = 13)
    (hrm : RdM (tM (G.2.1 (F a 35)) ((G.1 a 36).toInt)) ((G.1 a 36).toInt) r1 ((G.1 a 39).toInt) ((G.1 a 37).toInt) ((G.1 a 38).toInt))
    (hwd : r2.length = n0 ∧ ∀ i : Nat, i < n0 → aI (G.2.1 p0) (i : Int) = r2.getD i 0 ∧ 0 ≤ r2.getD i 0 ∧ r2.getD i 0 ≤ 127)
    (oq1 : ((G1.1 a 37).toInt) = rn cBl (tM (G.2.1 (F a 35)) ((G.1 a 36).toInt)) ((G.1 a 37).toInt))
    (pl : ∀ j : Int, (G1.1 a 37).toInt ≤ j → j < l2_10.toInt → cLt ((tM (G.2.1 (F a 35)) ((G.1 a 36).toInt)) j))
    (pw : (l3_54.toInt = 1 → ((G.1 a 39).toInt ≠ 0 ∧ l2_10.toInt - (G1.1 a 37).toInt = (n0 : Int) ∧ ∀ i : Nat, (i : Int) < l4_54.toInt → (tM (G.2.1 (F a 35)) ((G.1 a 36).toInt)) ((G1.1 a 37).toInt + (i : Int)) = r2.getD i 0)) ∧ (l3_54.toInt = 0 → ¬ (r1.1 = 1 ∧ wOk (tM (G.2.1 (F a 35)) ((G.1 a 36).toInt)) r1.2 r2)))
    (nt0 : 0 ≤ ((G.1 a 36).toInt) ∧ ((G.1 a 36).toInt) ≤ 80)
    (f12 : 3 ≤ (((n0) : Nat) : Int) ∧ (((n0) : Nat) : Int) ≤ 7)
    (z0 : 0 ≤ ((G.1 a 37).toInt) ∧ ((G.1 a 37).toInt) ≤ ((G.1 a 36).toInt))
    (t1 : -128 ≤ x1.toInt ∧ x1.toInt ≤ 127 ∧ ((0 ≤ x1.toInt ∧ (tM (G.2.1 (F a 35)) ((G.1 a 36).toInt) ((G1.1 a 37).toInt)) = x1.toInt) ∨ (x1.toInt < 0 ∧ (tM (G.2.1 (F a 35)) ((G.1 a 36).toInt) ((G1.1 a 37).toInt)) = x1.toInt + 256)) ∧ ((G.1 a 37).toInt) ≤ ((G1.1 a 37).toInt) ∧ ((G1.1 a 37).toInt) ≤ ((G.1 a 36).toInt))
    (I10_0 : ((G1.1 a 37).toInt) ≤ l2_10.toInt ∧ l2_10.toInt ≤ ((G.1 a 36).toInt))
    (hm10 : 2147483648 - l2_10.toInt < (((N10) + 1 : Nat) : Int))
    (z10 : ((0 ≤ l2_10.toInt ∧ l2_10.toInt < ((G.1 a 36).toInt)) ∧ True) ∨ (¬ (0 ≤ l2_10.toInt ∧ l2_10.toInt < ((G.1 a 36).toInt)) ∧ (tM (G.2.1 (F a 35)) ((G.1 a 36).toInt) (l2_10.toInt)) = 0))
    (t12 : -128 ≤ x12.toInt ∧ x12.toInt ≤ 127 ∧ ((0 ≤ x12.toInt ∧ (tM (G.2.1 (F a 35)) ((G.1 a 36).toInt) (l2_10.toInt)) = x12.toInt) ∨ (x12.toInt < 0 ∧ (tM (G.2.1 (F a 35)) ((G.1 a 36).toInt) (l2_10.toInt)) = x12.toInt + 256)))
    (t15 : (x15.toInt = 1 ∧ 97 ≤ x12.toInt ∧ x12.toInt ≤ 122) ∨ (x15.toInt = 0 ∧ (x12.toInt < 97 ∨ 122 < x12.toInt)))
    (c18 : x15.toInt = 0)
    (f21 : ((G.1 a 39).toInt) = 0 ∨ ((G.1 a 39).toInt) = 1)
    (c31 : ¬ (((G.1 a 39).toInt) = 0))
    (t41 : x41.toInt = (((n0) : Nat) : Int))
    (c42 : ¬ ((l2_10.toInt - ((G1.1 a 37).toInt)) ≠ x41.toInt))
    (I54_0 : 0 ≤ l4_54.toInt ∧ l4_54.toInt ≤ (((n0) : Nat) : Int))
    (I54_1 : l3_54.toInt = 0 ∨ l3_54.toInt = 1)
    (I54_2 : (0 : Int) ≤ l4_54.toInt)
    (hm54 : 2147483648 - l4_54.toInt < (((N54) + 1 : Nat) : Int))
    (c55 : l3_54.toInt = 0)
    (c97 : ¬ (l3_54.toInt = 0)) :
    l3_54.toInt = (tkW (tM (G.2.1 (F a 35)) ((G.1 a 36).toInt)) r2 r1).1 := by
  have he : l2_10.toInt = rn cLt (tM (G.2.1 (F a 35)) ((G.1 a 36).toInt)) ((G1.1 a 37).toInt) := by
    symm
    refine rn_eq ⟨by omega, pl, cLt_n ?_⟩
    omega
  first
    | (have nw := pw.2 (by omega)
       rw [tkW_f nw]
       show l3_54.toInt = 0
       omega)
    | (obtain ⟨w1, w2, w3⟩ := pw.1 (by omega)
       have wk := rdm_w1 hrm oq1 he w1 (by rw [hwd.1]; exact w2) (fun i hi => w3 i (by rw [hwd.1] at hi; omega))
       rw [tkW_t wk.1 wk.2]
       show l3_54.toInt = 1
       omega)
theorem v_X11_isWord_112_26 {K : Nat → Nat} {F : Nat → Nat → Nat} (a : Nat) (G : XG) (G1 : XG) (G108 : XG) (l2_10 : Int32) (r1 : RSt) (r2 : List Int) (n0 : Nat) (p0 : Nat) (l3_54 : Int32) (l4_54 : Int32) (x1 : Int32) (N10 : Nat) (x12 : Int32) (x15 : Int32) (x41 : Int32) (N54 : Nat)
    (ha : K a = 13)
    (hrm : RdM (tM (G.2.1 (F a 35)) ((G.1 a 36).toInt)) ((G.1 a 36).toInt) r1 ((G.1 a 39).toInt) ((G.1 a 37).toInt) ((G.1 a 38).toInt))
    (hwd : r2.length = n0 ∧ ∀ i : Nat, i < n0 → aI (G.2.1 p0) (i : Int) = r2.getD i 0 ∧ 0 ≤ r2.getD i 0 ∧ r2.getD i 0 ≤ 127)
    (oq1 : ((G1.1 a 37).toInt) = rn cBl (tM (G.2.1 (F a 35)) ((G.1 a 36).toInt)) ((G.1 a 37).toInt))
    (pl : ∀ j : Int, (G1.1 a 37).toInt ≤ j → j < l2_10.toInt → cLt ((tM (G.2.1 (F a 35)) ((G.1 a 36).toInt)) j))
    (pw : (l3_54.toInt = 1 → ((G.1 a 39).toInt ≠ 0 ∧ l2_10.toInt - (G1.1 a 37).toInt = (n0 : Int) ∧ ∀ i : Nat, (i : Int) < l4_54.toInt → (tM (G.2.1 (F a 35)) ((G.1 a 36).toInt)) ((G1.1 a 37).toInt + (i : Int)) = r2.getD i 0)) ∧ (l3_54.toInt = 0 → ¬ (r1.1 = 1 ∧ wOk (tM (G.2.1 (F a 35)) ((G.1 a 36).toInt)) r1.2 r2)))
    (nt0 : 0 ≤ ((G.1 a 36).toInt) ∧ ((G.1 a 36).toInt) ≤ 80)
    (f12 : 3 ≤ (((n0) : Nat) : Int) ∧ (((n0) : Nat) : Int) ≤ 7)
    (z0 : 0 ≤ ((G.1 a 37).toInt) ∧ ((G.1 a 37).toInt) ≤ ((G.1 a 36).toInt))
    (t1 : -128 ≤ x1.toInt ∧ x1.toInt ≤ 127 ∧ ((0 ≤ x1.toInt ∧ (tM (G.2.1 (F a 35)) ((G.1 a 36).toInt) ((G1.1 a 37).toInt)) = x1.toInt) ∨ (x1.toInt < 0 ∧ (tM (G.2.1 (F a 35)) ((G.1 a 36).toInt) ((G1.1 a 37).toInt)) = x1.toInt + 256)) ∧ ((G.1 a 37).toInt) ≤ ((G1.1 a 37).toInt) ∧ ((G1.1 a 37).toInt) ≤ ((G.1 a 36).toInt))
    (I10_0 : ((G1.1 a 37).toInt) ≤ l2_10.toInt ∧ l2_10.toInt ≤ ((G.1 a 36).toInt))
    (hm10 : 2147483648 - l2_10.toInt < (((N10) + 1 : Nat) : Int))
    (z10 : ((0 ≤ l2_10.toInt ∧ l2_10.toInt < ((G.1 a 36).toInt)) ∧ True) ∨ (¬ (0 ≤ l2_10.toInt ∧ l2_10.toInt < ((G.1 a 36).toInt)) ∧ (tM (G.2.1 (F a 35)) ((G.1 a 36).toInt) (l2_10.toInt)) = 0))
    (t12 : -128 ≤ x12.toInt ∧ x12.toInt ≤ 127 ∧ ((0 ≤ x12.toInt ∧ (tM (G.2.1 (F a 35)) ((G.1 a 36).toInt) (l2_10.toInt)) = x12.toInt) ∨ (x12.toInt < 0 ∧ (tM (G.2.1 (F a 35)) ((G.1 a 36).toInt) (l2_10.toInt)) = x12.toInt + 256)))
    (t15 : (x15.toInt = 1 ∧ 97 ≤ x12.toInt ∧ x12.toInt ≤ 122) ∨ (x15.toInt = 0 ∧ (x12.toInt < 97 ∨ 122 < x12.toInt)))
    (c18 : x15.toInt = 0)
    (f21 : ((G.1 a 39).toInt) = 0 ∨ ((G.1 a 39).toInt) = 1)
    (c31 : ¬ (((G.1 a 39).toInt) = 0))
    (t41 : x41.toInt = (((n0) : Nat) : Int))
    (c42 : ¬ ((l2_10.toInt - ((G1.1 a 37).toInt)) ≠ x41.toInt))
    (I54_0 : 0 ≤ l4_54.toInt ∧ l4_54.toInt ≤ (((n0) : Nat) : Int))
    (I54_1 : l3_54.toInt = 0 ∨ l3_54.toInt = 1)
    (I54_2 : (0 : Int) ≤ l4_54.toInt)
    (hm54 : 2147483648 - l4_54.toInt < (((N54) + 1 : Nat) : Int))
    (c55 : l3_54.toInt = 0)
    (c97 : ¬ (l3_54.toInt = 0))
    (d_G108_a_37 : G108.1 a 37 = l2_10)
    (d_G108_a_38 : G108.1 a 38 = G.1 a 38)
    (d_G108_a_39 : G108.1 a 39 = G.1 a 39) :
    RdM (tM (G.2.1 (F a 35)) ((G.1 a 36).toInt)) ((G.1 a 36).toInt) (tkW (tM (G.2.1 (F a 35)) ((G.1 a 36).toInt)) r2 r1).2 ((G108.1 a 39).toInt) ((G108.1 a 37).toInt) ((G108.1 a 38).toInt) := by
  have he : l2_10.toInt = rn cLt (tM (G.2.1 (F a 35)) ((G.1 a 36).toInt)) ((G1.1 a 37).toInt) := by
    symm
    refine rn_eq ⟨by omega, pl, cLt_n ?_⟩
    omega
  first
    | (have nw := pw.2 (by omega)
       rw [tkW_f nw, d_G108_a_37, d_G108_a_38, d_G108_a_39]
       exact hrm.sk (tM_e _ _) oq1)
    | (obtain ⟨w1, w2, w3⟩ := pw.1 (by omega)
       have wk := rdm_w1 hrm oq1 he w1 (by rw [hwd.1]; exact w2) (fun i hi => w3 i (by rw [hwd.1] at hi; omega))
       rw [tkW_t wk.1 wk.2, d_G108_a_37, d_G108_a_38, d_G108_a_39]
       refine rdm_st (tM_e _ _) ?_ w1 (by omega)
       rw [show r1.2 + (r2.length : Int) = l2_10.toInt from ?_]
       have s2 := hrm.2.2.1 wk.1
       rw [← oq1] at s2
       have := hwd.1
       omega)
theorem v_X11_isWord_112_27 {K : Nat → Nat} {F : Nat → Nat → Nat} (a : Nat) (G : XG) (G1 : XG) (r1 : RSt) (r2 : List Int) (n0 : Nat) (p0 : Nat) (l2_10 : Int32) (l3_54 : Int32) (l4_54 : Int32) (x1 : Int32) (N10 : Nat) (x12 : Int32) (x15 : Int32) (x41 : Int32) (N54 : Nat) (x61 : Int32)
    (ha : K a = 13)
    (hrm : RdM (tM (G.2.1 (F a 35)) ((G.1 a 36).toInt)) ((G.1 a 36).toInt) r1 ((G.1 a 39).toInt) ((G.1 a 37).toInt) ((G.1 a 38).toInt))
    (hwd : r2.length = n0 ∧ ∀ i : Nat, i < n0 → aI (G.2.1 p0) (i : Int) = r2.getD i 0 ∧ 0 ≤ r2.getD i 0 ∧ r2.getD i 0 ≤ 127)
    (oq1 : ((G1.1 a 37).toInt) = rn cBl (tM (G.2.1 (F a 35)) ((G.1 a 36).toInt)) ((G.1 a 37).toInt))
    (pl : ∀ j : Int, (G1.1 a 37).toInt ≤ j → j < l2_10.toInt → cLt ((tM (G.2.1 (F a 35)) ((G.1 a 36).toInt)) j))
    (pw : (l3_54.toInt = 1 → ((G.1 a 39).toInt ≠ 0 ∧ l2_10.toInt - (G1.1 a 37).toInt = (n0 : Int) ∧ ∀ i : Nat, (i : Int) < l4_54.toInt → (tM (G.2.1 (F a 35)) ((G.1 a 36).toInt)) ((G1.1 a 37).toInt + (i : Int)) = r2.getD i 0)) ∧ (l3_54.toInt = 0 → ¬ (r1.1 = 1 ∧ wOk (tM (G.2.1 (F a 35)) ((G.1 a 36).toInt)) r1.2 r2)))
    (nt0 : 0 ≤ ((G.1 a 36).toInt) ∧ ((G.1 a 36).toInt) ≤ 80)
    (f12 : 3 ≤ (((n0) : Nat) : Int) ∧ (((n0) : Nat) : Int) ≤ 7)
    (z0 : 0 ≤ ((G.1 a 37).toInt) ∧ ((G.1 a 37).toInt) ≤ ((G.1 a 36).toInt))
    (t1 : -128 ≤ x1.toInt ∧ x1.toInt ≤ 127 ∧ ((0 ≤ x1.toInt ∧ (tM (G.2.1 (F a 35)) ((G.1 a 36).toInt) ((G1.1 a 37).toInt)) = x1.toInt) ∨ (x1.toInt < 0 ∧ (tM (G.2.1 (F a 35)) ((G.1 a 36).toInt) ((G1.1 a 37).toInt)) = x1.toInt + 256)) ∧ ((G.1 a 37).toInt) ≤ ((G1.1 a 37).toInt) ∧ ((G1.1 a 37).toInt) ≤ ((G.1 a 36).toInt))
    (I10_0 : ((G1.1 a 37).toInt) ≤ l2_10.toInt ∧ l2_10.toInt ≤ ((G.1 a 36).toInt))
    (hm10 : 2147483648 - l2_10.toInt < (((N10) + 1 : Nat) : Int))
    (z10 : ((0 ≤ l2_10.toInt ∧ l2_10.toInt < ((G.1 a 36).toInt)) ∧ True) ∨ (¬ (0 ≤ l2_10.toInt ∧ l2_10.toInt < ((G.1 a 36).toInt)) ∧ (tM (G.2.1 (F a 35)) ((G.1 a 36).toInt) (l2_10.toInt)) = 0))
    (t12 : -128 ≤ x12.toInt ∧ x12.toInt ≤ 127 ∧ ((0 ≤ x12.toInt ∧ (tM (G.2.1 (F a 35)) ((G.1 a 36).toInt) (l2_10.toInt)) = x12.toInt) ∨ (x12.toInt < 0 ∧ (tM (G.2.1 (F a 35)) ((G.1 a 36).toInt) (l2_10.toInt)) = x12.toInt + 256)))
    (t15 : (x15.toInt = 1 ∧ 97 ≤ x12.toInt ∧ x12.toInt ≤ 122) ∨ (x15.toInt = 0 ∧ (x12.toInt < 97 ∨ 122 < x12.toInt)))
    (c18 : x15.toInt = 0)
    (f21 : ((G.1 a 39).toInt) = 0 ∨ ((G.1 a 39).toInt) = 1)
    (c31 : ¬ (((G.1 a 39).toInt) = 0))
    (t41 : x41.toInt = (((n0) : Nat) : Int))
    (c42 : ¬ ((l2_10.toInt - ((G1.1 a 37).toInt)) ≠ x41.toInt))
    (I54_0 : 0 ≤ l4_54.toInt ∧ l4_54.toInt ≤ (((n0) : Nat) : Int))
    (I54_1 : l3_54.toInt = 0 ∨ l3_54.toInt = 1)
    (I54_2 : (0 : Int) ≤ l4_54.toInt)
    (hm54 : 2147483648 - l4_54.toInt < (((N54) + 1 : Nat) : Int))
    (c55 : ¬ (l3_54.toInt = 0))
    (t61 : x61.toInt = (((n0) : Nat) : Int))
    (c62 : x61.toInt ≤ l4_54.toInt)
    (c97 : l3_54.toInt = 0) :
    l3_54.toInt = (tkW (tM (G.2.1 (F a 35)) ((G.1 a 36).toInt)) r2 r1).1 := by
  have he : l2_10.toInt = rn cLt (tM (G.2.1 (F a 35)) ((G.1 a 36).toInt)) ((G1.1 a 37).toInt) := by
    symm
    refine rn_eq ⟨by omega, pl, cLt_n ?_⟩
    omega
  first
    | (have nw := pw.2 (by omega)
       rw [tkW_f nw]
       show l3_54.toInt = 0
       omega)
    | (obtain ⟨w1, w2, w3⟩ := pw.1 (by omega)
       have wk := rdm_w1 hrm oq1 he w1 (by rw [hwd.1]; exact w2) (fun i hi => w3 i (by rw [hwd.1] at hi; omega))
       rw [tkW_t wk.1 wk.2]
       show l3_54.toInt = 1
       omega)
theorem v_X11_isWord_112_28 {K : Nat → Nat} {F : Nat → Nat → Nat} (a : Nat) (G : XG) (G1 : XG) (G108 : XG) (r1 : RSt) (r2 : List Int) (n0 : Nat) (p0 : Nat) (l2_10 : Int32) (l3_54 : Int32) (l4_54 : Int32) (x1 : Int32) (N10 : Nat) (x12 : Int32) (x15 : Int32) (x41 : Int32) (N54 : Nat) (x61 : Int32)
    (ha : K a = 13)
    (hrm : RdM (tM (G.2.1 (F a 35)) ((G.1 a 36).toInt)) ((G.1 a 36).toInt) r1 ((G.1 a 39).toInt) ((G.1 a 37).toInt) ((G.1 a 38).toInt))
    (hwd : r2.length = n0 ∧ ∀ i : Nat, i < n0 → aI (G.2.1 p0) (i : Int) = r2.getD i 0 ∧ 0 ≤ r2.getD i 0 ∧ r2.getD i 0 ≤ 127)
    (oq1 : ((G1.1 a 37).toInt) = rn cBl (tM (G.2.1 (F a 35)) ((G.1 a 36).toInt)) ((G.1 a 37).toInt))
    (pl : ∀ j : Int, (G1.1 a 37).toInt ≤ j → j < l2_10.toInt → cLt ((tM (G.2.1 (F a 35)) ((G.1 a 36).toInt)) j))
    (pw : (l3_54.toInt = 1 → ((G.1 a 39).toInt ≠ 0 ∧ l2_10.toInt - (G1.1 a 37).toInt = (n0 : Int) ∧ ∀ i : Nat, (i : Int) < l4_54.toInt → (tM (G.2.1 (F a 35)) ((G.1 a 36).toInt)) ((G1.1 a 37).toInt + (i : Int)) = r2.getD i 0)) ∧ (l3_54.toInt = 0 → ¬ (r1.1 = 1 ∧ wOk (tM (G.2.1 (F a 35)) ((G.1 a 36).toInt)) r1.2 r2)))
    (nt0 : 0 ≤ ((G.1 a 36).toInt) ∧ ((G.1 a 36).toInt) ≤ 80)
    (f12 : 3 ≤ (((n0) : Nat) : Int) ∧ (((n0) : Nat) : Int) ≤ 7)
    (z0 : 0 ≤ ((G.1 a 37).toInt) ∧ ((G.1 a 37).toInt) ≤ ((G.1 a 36).toInt))
    (t1 : -128 ≤ x1.toInt ∧ x1.toInt ≤ 127 ∧ ((0 ≤ x1.toInt ∧ (tM (G.2.1 (F a 35)) ((G.1 a 36).toInt) ((G1.1 a 37).toInt)) = x1.toInt) ∨ (x1.toInt < 0 ∧ (tM (G.2.1 (F a 35)) ((G.1 a 36).toInt) ((G1.1 a 37).toInt)) = x1.toInt + 256)) ∧ ((G.1 a 37).toInt) ≤ ((G1.1 a 37).toInt) ∧ ((G1.1 a 37).toInt) ≤ ((G.1 a 36).toInt))
    (I10_0 : ((G1.1 a 37).toInt) ≤ l2_10.toInt ∧ l2_10.toInt ≤ ((G.1 a 36).toInt))
    (hm10 : 2147483648 - l2_10.toInt < (((N10) + 1 : Nat) : Int))
    (z10 : ((0 ≤ l2_10.toInt ∧ l2_10.toInt < ((G.1 a 36).toInt)) ∧ True) ∨ (¬ (0 ≤ l2_10.toInt ∧ l2_10.toInt < ((G.1 a 36).toInt)) ∧ (tM (G.2.1 (F a 35)) ((G.1 a 36).toInt) (l2_10.toInt)) = 0))
    (t12 : -128 ≤ x12.toInt ∧ x12.toInt ≤ 127 ∧ ((0 ≤ x12.toInt ∧ (tM (G.2.1 (F a 35)) ((G.1 a 36).toInt) (l2_10.toInt)) = x12.toInt) ∨ (x12.toInt < 0 ∧ (tM (G.2.1 (F a 35)) ((G.1 a 36).toInt) (l2_10.toInt)) = x12.toInt + 256)))
    (t15 : (x15.toInt = 1 ∧ 97 ≤ x12.toInt ∧ x12.toInt ≤ 122) ∨ (x15.toInt = 0 ∧ (x12.toInt < 97 ∨ 122 < x12.toInt)))
    (c18 : x15.toInt = 0)
    (f21 : ((G.1 a 39).toInt) = 0 ∨ ((G.1 a 39).toInt) = 1)
    (c31 : ¬ (((G.1 a 39).toInt) = 0))
    (t41 : x41.toInt = (((n0) : Nat) : Int))
    (c42 : ¬ ((l2_10.toInt - ((G1.1 a 37).toInt)) ≠ x41.toInt))
    (I54_0 : 0 ≤ l4_54.toInt ∧ l4_54.toInt ≤ (((n0) : Nat) : Int))
    (I54_1 : l3_54.toInt = 0 ∨ l3_54.toInt = 1)
    (I54_2 : (0 : Int) ≤ l4_54.toInt)
    (hm54 : 2147483648 - l4_54.toInt < (((N54) + 1 : Nat) : Int))
    (c55 : ¬ (l3_54.toInt = 0))
    (t61 : x61.toInt = (((n0) : Nat) : Int))
    (c62 : x61.toInt ≤ l4_54.toInt)
    (c97 : l3_54.toInt = 0)
    (d_G108_a_37 : G108.1 a 37 = (G1.1 a 37))
    (d_G108_a_38 : G108.1 a 38 = G.1 a 38)
    (d_G108_a_39 : G108.1 a 39 = G.1 a 39) :
    RdM (tM (G.2.1 (F a 35)) ((G.1 a 36).toInt)) ((G.1 a 36).toInt) (tkW (tM (G.2.1 (F a 35)) ((G.1 a 36).toInt)) r2 r1).2 ((G108.1 a 39).toInt) ((G108.1 a 37).toInt) ((G108.1 a 38).toInt) := by
  have he : l2_10.toInt = rn cLt (tM (G.2.1 (F a 35)) ((G.1 a 36).toInt)) ((G1.1 a 37).toInt) := by
    symm
    refine rn_eq ⟨by omega, pl, cLt_n ?_⟩
    omega
  first
    | (have nw := pw.2 (by omega)
       rw [tkW_f nw, d_G108_a_37, d_G108_a_38, d_G108_a_39]
       exact hrm.sk (tM_e _ _) oq1)
    | (obtain ⟨w1, w2, w3⟩ := pw.1 (by omega)
       have wk := rdm_w1 hrm oq1 he w1 (by rw [hwd.1]; exact w2) (fun i hi => w3 i (by rw [hwd.1] at hi; omega))
       rw [tkW_t wk.1 wk.2, d_G108_a_37, d_G108_a_38, d_G108_a_39]
       refine rdm_st (tM_e _ _) ?_ w1 (by omega)
       rw [show r1.2 + (r2.length : Int) = l2_10.toInt from ?_]
       have s2 := hrm.2.2.1 wk.1
       rw [← oq1] at s2
       have := hwd.1
       omega)
theorem v_X11_isWord_112_29 {K : Nat → Nat} {F : Nat → Nat → Nat} (a : Nat) (G : XG) (G1 : XG) (l2_10 : Int32) (r1 : RSt) (r2 : List Int) (n0 : Nat) (p0 : Nat) (l3_54 : Int32) (l4_54 : Int32) (x1 : Int32) (N10 : Nat) (x12 : Int32) (x15 : Int32) (x41 : Int32) (N54 : Nat) (x61 : Int32)
    (ha : K a = 13)
    (hrm : RdM (tM (G.2.1 (F a 35)) ((G.1 a 36).toInt)) ((G.1 a 36).toInt) r1 ((G.1 a 39).toInt) ((G.1 a 37).toInt) ((G.1 a 38).toInt))
    (hwd : r2.length = n0 ∧ ∀ i : Nat, i < n0 → aI (G.2.1 p0) (i : Int) = r2.getD i 0 ∧ 0 ≤ r2.getD i 0 ∧ r2.getD i 0 ≤ 127)
    (oq1 : ((G1.1 a 37).toInt) = rn cBl (tM (G.2.1 (F a 35)) ((G.1 a 36).toInt)) ((G.1 a 37).toInt))
    (pl : ∀ j : Int, (G1.1 a 37).toInt ≤ j → j < l2_10.toInt → cLt ((tM (G.2.1 (F a 35)) ((G.1 a 36).toInt)) j))
    (pw : (l3_54.toInt = 1 → ((G.1 a 39).toInt ≠ 0 ∧ l2_10.toInt - (G1.1 a 37).toInt = (n0 : Int) ∧ ∀ i : Nat, (i : Int) < l4_54.toInt → (tM (G.2.1 (F a 35)) ((G.1 a 36).toInt)) ((G1.1 a 37).toInt + (i : Int)) = r2.getD i 0)) ∧ (l3_54.toInt = 0 → ¬ (r1.1 = 1 ∧ wOk (tM (G.2.1 (F a 35)) ((G.1 a 36).toInt)) r1.2 r2)))
    (nt0 : 0 ≤ ((G.1 a 36).toInt) ∧ ((G.1 a 36).toInt) ≤ 80)
    (f12 : 3 ≤ (((n0) : Nat) : Int) ∧ (((n0) : Nat) : Int) ≤ 7)
    (z0 : 0 ≤ ((G.1 a 37).toInt) ∧ ((G.1 a 37).toInt) ≤ ((G.1 a 36).toInt))
    (t1 : -128 ≤ x1.toInt ∧ x1.toInt ≤ 127 ∧ ((0 ≤ x1.toInt ∧ (tM (G.2.1 (F a 35)) ((G.1 a 36).toInt) ((G1.1 a 37).toInt)) = x1.toInt) ∨ (x1.toInt < 0 ∧ (tM (G.2.1 (F a 35)) ((G.1 a 36).toInt) ((G1.1 a 37).toInt)) = x1.toInt + 256)) ∧ ((G.1 a 37).toInt) ≤ ((G1.1 a 37).toInt) ∧ ((G1.1 a 37).toInt) ≤ ((G.1 a 36).toInt))
    (I10_0 : ((G1.1 a 37).toInt) ≤ l2_10.toInt ∧ l2_10.toInt ≤ ((G.1 a 36).toInt))
    (hm10 : 2147483648 - l2_10.toInt < (((N10) + 1 : Nat) : Int))
    (z10 : ((0 ≤ l2_10.toInt ∧ l2_10.toInt < ((G.1 a 36).toInt)) ∧ True) ∨ (¬ (0 ≤ l2_10.toInt ∧ l2_10.toInt < ((G.1 a 36).toInt)) ∧ (tM (G.2.1 (F a 35)) ((G.1 a 36).toInt) (l2_10.toInt)) = 0))
    (t12 : -128 ≤ x12.toInt ∧ x12.toInt ≤ 127 ∧ ((0 ≤ x12.toInt ∧ (tM (G.2.1 (F a 35)) ((G.1 a 36).toInt) (l2_10.toInt)) = x12.toInt) ∨ (x12.toInt < 0 ∧ (tM (G.2.1 (F a 35)) ((G.1 a 36).toInt) (l2_10.toInt)) = x12.toInt + 256)))
    (t15 : (x15.toInt = 1 ∧ 97 ≤ x12.toInt ∧ x12.toInt ≤ 122) ∨ (x15.toInt = 0 ∧ (x12.toInt < 97 ∨ 122 < x12.toInt)))
    (c18 : x15.toInt = 0)
    (f21 : ((G.1 a 39).toInt) = 0 ∨ ((G.1 a 39).toInt) = 1)
    (c31 : ¬ (((G.1 a 39).toInt) = 0))
    (t41 : x41.toInt = (((n0) : Nat) : Int))
    (c42 : ¬ ((l2_10.toInt - ((G1.1 a 37).toInt)) ≠ x41.toInt))
    (I54_0 : 0 ≤ l4_54.toInt ∧ l4_54.toInt ≤ (((n0) : Nat) : Int))
    (I54_1 : l3_54.toInt = 0 ∨ l3_54.toInt = 1)
    (I54_2 : (0 : Int) ≤ l4_54.toInt)
    (hm54 : 2147483648 - l4_54.toInt < (((N54) + 1 : Nat) : Int))
    (c55 : ¬ (l3_54.toInt = 0))
    (t61 : x61.toInt = (((n0) : Nat) : Int))
    (c62 : x61.toInt ≤ l4_54.toInt) :
    l3_54.toInt = (tkW (tM (G.2.1 (F a 35)) ((G.1 a 36).toInt)) r2 r1).1 := by
  have he : l2_10.toInt = rn cLt (tM (G.2.1 (F a 35)) ((G.1 a 36).toInt)) ((G1.1 a 37).toInt) := by
    symm
    refine rn_eq ⟨by omega, pl, cLt_n ?_⟩
    omega
  first
    | (have nw := pw.2 (by omega)
       rw [tkW_f nw]
       show l3_54.toInt = 0
       omega)
    | (obtain ⟨w1, w2, w3⟩ := pw.1 (by omega)
       have wk := rdm_w1 hrm oq1 he w1 (by rw [hwd.1]; exact w2) (fun i hi => w3 i (by rw [hwd.1] at hi; omega))
       rw [tkW_t wk.1 wk.2]
       show l3_54.toInt = 1
       omega)
theorem v_X11_isWord_112_30 {K : Nat → Nat} {F : Nat → Nat → Nat} (a : Nat) (G : XG) (G1 : XG) (G108 : XG) (l2_10 : Int32) (r1 : RSt) (r2 : List Int) (n0 : Nat) (p0 : Nat) (l3_54 : Int32) (l4_54 : Int32) (x1 : Int32) (N10 : Nat) (x12 : Int32) (x15 : Int32) (x41 : Int32) (N54 : Nat) (x61 : Int32)
    (ha : K a = 13)
    (hrm : RdM (tM (G.2.1 (F a 35)) ((G.1 a 36).toInt)) ((G.1 a 36).toInt) r1 ((G.1 a 39).toInt) ((G.1 a 37).toInt) ((G.1 a 38).toInt))
    (hwd : r2.length = n0 ∧ ∀ i : Nat, i < n0 → aI (G.2.1 p0) (i : Int) = r2.getD i 0 ∧ 0 ≤ r2.getD i 0 ∧ r2.getD i 0 ≤ 127)
    (oq1 : ((G1.1 a 37).toInt) = rn cBl (tM (G.2.1 (F a 35)) ((G.1 a 36).toInt)) ((G.1 a 37).toInt))
    (pl : ∀ j : Int, (G1.1 a 37).toInt ≤ j → j < l2_10.toInt → cLt ((tM (G.2.1 (F a 35)) ((G.1 a 36).toInt)) j))
    (pw : (l3_54.toInt = 1 → ((G.1 a 39).toInt ≠ 0 ∧ l2_10.toInt - (G1.1 a 37).toInt = (n0 : Int) ∧ ∀ i : Nat, (i : Int) < l4_54.toInt → (tM (G.2.1 (F a 35)) ((G.1 a 36).toInt)) ((G1.1 a 37).toInt + (i : Int)) = r2.getD i 0)) ∧ (l3_54.toInt = 0 → ¬ (r1.1 = 1 ∧ wOk (tM (G.2.1 (F a 35)) ((G.1 a 36).toInt)) r1.2 r2)))
    (nt0 : 0 ≤ ((G.1 a 36).toInt) ∧ ((G.1 a 36).toInt) ≤ 80)
    (f12 : 3 ≤ (((n0) : Nat) : Int) ∧ (((n0) : Nat) : Int) ≤ 7)
    (z0 : 0 ≤ ((G.1 a 37).toInt) ∧ ((G.1 a 37).toInt) ≤ ((G.1 a 36).toInt))
    (t1 : -128 ≤ x1.toInt ∧ x1.toInt ≤ 127 ∧ ((0 ≤ x1.toInt ∧ (tM (G.2.1 (F a 35)) ((G.1 a 36).toInt) ((G1.1 a 37).toInt)) = x1.toInt) ∨ (x1.toInt < 0 ∧ (tM (G.2.1 (F a 35)) ((G.1 a 36).toInt) ((G1.1 a 37).toInt)) = x1.toInt + 256)) ∧ ((G.1 a 37).toInt) ≤ ((G1.1 a 37).toInt) ∧ ((G1.1 a 37).toInt) ≤ ((G.1 a 36).toInt))
    (I10_0 : ((G1.1 a 37).toInt) ≤ l2_10.toInt ∧ l2_10.toInt ≤ ((G.1 a 36).toInt))
    (hm10 : 2147483648 - l2_10.toInt < (((N10) + 1 : Nat) : Int))
    (z10 : ((0 ≤ l2_10.toInt ∧ l2_10.toInt < ((G.1 a 36).toInt)) ∧ True) ∨ (¬ (0 ≤ l2_10.toInt ∧ l2_10.toInt < ((G.1 a 36).toInt)) ∧ (tM (G.2.1 (F a 35)) ((G.1 a 36).toInt) (l2_10.toInt)) = 0))
    (t12 : -128 ≤ x12.toInt ∧ x12.toInt ≤ 127 ∧ ((0 ≤ x12.toInt ∧ (tM (G.2.1 (F a 35)) ((G.1 a 36).toInt) (l2_10.toInt)) = x12.toInt) ∨ (x12.toInt < 0 ∧ (tM (G.2.1 (F a 35)) ((G.1 a 36).toInt) (l2_10.toInt)) = x12.toInt + 256)))
    (t15 : (x15.toInt = 1 ∧ 97 ≤ x12.toInt ∧ x12.toInt ≤ 122) ∨ (x15.toInt = 0 ∧ (x12.toInt < 97 ∨ 122 < x12.toInt)))
    (c18 : x15.toInt = 0)
    (f21 : ((G.1 a 39).toInt) = 0 ∨ ((G.1 a 39).toInt) = 1)
    (c31 : ¬ (((G.1 a 39).toInt) = 0))
    (t41 : x41.toInt = (((n0) : Nat) : Int))
    (c42 : ¬ ((l2_10.toInt - ((G1.1 a 37).toInt)) ≠ x41.toInt))
    (I54_0 : 0 ≤ l4_54.toInt ∧ l4_54.toInt ≤ (((n0) : Nat) : Int))
    (I54_1 : l3_54.toInt = 0 ∨ l3_54.toInt = 1)
    (I54_2 : (0 : Int) ≤ l4_54.toInt)
    (hm54 : 2147483648 - l4_54.toInt < (((N54) + 1 : Nat) : Int))
    (c55 : ¬ (l3_54.toInt = 0))
    (t61 : x61.toInt = (((n0) : Nat) : Int))
    (c62 : x61.toInt ≤ l4_54.toInt)
    (d_G108_a_37 : G108.1 a 37 = l2_10)
    (d_G108_a_38 : G108.1 a 38 = G.1 a 38)
    (d_G108_a_39 : G108.1 a 39 = G.1 a 39) :
    RdM (tM (G.2.1 (F a 35)) ((G.1 a 36).toInt)) ((G.1 a 36).toInt) (tkW (tM (G.2.1 (F a 35)) ((G.1 a 36).toInt)) r2 r1).2 ((G108.1 a 39).toInt) ((G108.1 a 37).toInt) ((G108.1 a 38).toInt) := by
  have he : l2_10.toInt = rn cLt (tM (G.2.1 (F a 35)) ((G.1 a 36).toInt)) ((G1.1 a 37).toInt) := by
    symm
    refine rn_eq ⟨by omega, pl, cLt_n ?_⟩
    omega
  first
    | (have nw := pw.2 (by omega)
       rw [tkW_f nw, d_G108_a_37, d_G108_a_38, d_G108_a_39]
       exact hrm.sk (tM_e _ _) oq1)
    | (obtain ⟨w1, w2, w3⟩ := pw.1 (by omega)
       have wk := rdm_w1 hrm oq1 he w1 (by rw [hwd.1]; exact w2) (fun i hi => w3 i (by rw [hwd.1] at hi; omega))
       rw [tkW_t wk.1 wk.2, d_G108_a_37, d_G108_a_38, d_G108_a_39]
       refine rdm_st (tM_e _ _) ?_ w1 (by omega)
       rw [show r1.2 + (r2.length : Int) = l2_10.toInt from ?_]
       have s2 := hrm.2.2.1 wk.1
       rw [← oq1] at s2
       have := hwd.1
       omega)
theorem v_X11_isWord_92_31 {K : Nat → Nat} {F : Nat → Nat → Nat} (a : Nat) (G : XG) (G1 : XG) (r1 : RSt) (r2 : List Int) (n0 : Nat) (p0 : Nat) (l2_10 : Int32) (l3_54 : Int32) (l4_54 : Int32) (x1 : Int32) (N10 : Nat) (x12 : Int32) (x15 : Int32) (x41 : Int32) (N54 : Nat) (x61 : Int32) (x73 : Int32) (x79 : Int32)
    (ha : K a = 13)
    (hrm : RdM (tM (G.2.1 (F a 35)) ((G.1 a 36).toInt)) ((G.1 a 36).toInt) r1 ((G.1 a 39).toInt) ((G.1 a 37).toInt) ((G.1 a 38).toInt))
    (hwd : r2.length = n0 ∧ ∀ i : Nat, i < n0 → aI (G.2.1 p0) (i : Int) = r2.getD i 0 ∧ 0 ≤ r2.getD i 0 ∧ r2.getD i 0 ≤ 127)
    (oq1 : ((G1.1 a 37).toInt) = rn cBl (tM (G.2.1 (F a 35)) ((G.1 a 36).toInt)) ((G.1 a 37).toInt))
    (pl : ∀ j : Int, (G1.1 a 37).toInt ≤ j → j < l2_10.toInt → cLt ((tM (G.2.1 (F a 35)) ((G.1 a 36).toInt)) j))
    (pw : (l3_54.toInt = 1 → ((G.1 a 39).toInt ≠ 0 ∧ l2_10.toInt - (G1.1 a 37).toInt = (n0 : Int) ∧ ∀ i : Nat, (i : Int) < l4_54.toInt → (tM (G.2.1 (F a 35)) ((G.1 a 36).toInt)) ((G1.1 a 37).toInt + (i : Int)) = r2.getD i 0)) ∧ (l3_54.toInt = 0 → ¬ (r1.1 = 1 ∧ wOk (tM (G.2.1 (F a 35)) ((G.1 a 36).toInt)) r1.2 r2)))
    (nt0 : 0 ≤ ((G.1 a 36).toInt) ∧ ((G.1 a 36).toInt) ≤ 80)
    (f13 : 3 ≤ (((n0) : Nat) : Int) ∧ (((n0) : Nat) : Int) ≤ 7)
    (z0 : 0 ≤ ((G.1 a 37).toInt) ∧ ((G.1 a 37).toInt) ≤ ((G.1 a 36).toInt))
    (t1 : -128 ≤ x1.toInt ∧ x1.toInt ≤ 127 ∧ ((0 ≤ x1.toInt ∧ (tM (G.2.1 (F a 35)) ((G.1 a 36).toInt) ((G1.1 a 37).toInt)) = x1.toInt) ∨ (x1.toInt < 0 ∧ (tM (G.2.1 (F a 35)) ((G.1 a 36).toInt) ((G1.1 a 37).toInt)) = x1.toInt + 256)) ∧ ((G.1 a 37).toInt) ≤ ((G1.1 a 37).toInt) ∧ ((G1.1 a 37).toInt) ≤ ((G.1 a 36).toInt))
    (I10_0 : ((G1.1 a 37).toInt) ≤ l2_10.toInt ∧ l2_10.toInt ≤ ((G.1 a 36).toInt))
    (hm10 : 2147483648 - l2_10.toInt < (((N10) + 1 : Nat) : Int))
    (z10 : ((0 ≤ l2_10.toInt ∧ l2_10.toInt < ((G.1 a 36).toInt)) ∧ True) ∨ (¬ (0 ≤ l2_10.toInt ∧ l2_10.toInt < ((G.1 a 36).toInt)) ∧ (tM (G.2.1 (F a 35)) ((G.1 a 36).toInt) (l2_10.toInt)) = 0))
    (t12 : -128 ≤ x12.toInt ∧ x12.toInt ≤ 127 ∧ ((0 ≤ x12.toInt ∧ (tM (G.2.1 (F a 35)) ((G.1 a 36).toInt) (l2_10.toInt)) = x12.toInt) ∨ (x12.toInt < 0 ∧ (tM (G.2.1 (F a 35)) ((G.1 a 36).toInt) (l2_10.toInt)) = x12.toInt + 256)))
    (t15 : (x15.toInt = 1 ∧ 97 ≤ x12.toInt ∧ x12.toInt ≤ 122) ∨ (x15.toInt = 0 ∧ (x12.toInt < 97 ∨ 122 < x12.toInt)))
    (c18 : x15.toInt = 0)
    (f22 : ((G.1 a 39).toInt) = 0 ∨ ((G.1 a 39).toInt) = 1)
    (c31 : ¬ (((G.1 a 39).toInt) = 0))
    (t41 : x41.toInt = (((n0) : Nat) : Int))
    (c42 : ¬ ((l2_10.toInt - ((G1.1 a 37).toInt)) ≠ x41.toInt))
    (I54_0 : 0 ≤ l4_54.toInt ∧ l4_54.toInt ≤ (((n0) : Nat) : Int))
    (I54_1 : l3_54.toInt = 0 ∨ l3_54.toInt = 1)
    (I54_2 : (0 : Int) ≤ l4_54.toInt)
    (hm54 : 2147483648 - l4_54.toInt < (((N54) + 1 : Nat) : Int))
    (c55 : ¬ (l3_54.toInt = 0))
    (t61 : x61.toInt = (((n0) : Nat) : Int))
    (c62 : ¬ (x61.toInt ≤ l4_54.toInt))
    (t73 : -128 ≤ x73.toInt ∧ x73.toInt ≤ 127 ∧ ((0 ≤ x73.toInt ∧ (tM (G.2.1 (F a 35)) ((G.1 a 36).toInt) (((G1.1 a 37).toInt) + l4_54.toInt)) = x73.toInt) ∨ (x73.toInt < 0 ∧ (tM (G.2.1 (F a 35)) ((G.1 a 36).toInt) (((G1.1 a 37).toInt) + l4_54.toInt)) = x73.toInt + 256)))
    (hv79 : x79.toInt = (aI (G.2.1 p0) (l4_54.toInt)))
    (c80 : x73.toInt ≠ x79.toInt) :
    ((0 : Int) = 1 → ((G.1 a 39).toInt ≠ 0 ∧ l2_10.toInt - (G1.1 a 37).toInt = (n0 : Int) ∧ ∀ i : Nat, (i : Int) < (l4_54.toInt + 1) → (tM (G.2.1 (F a 35)) ((G.1 a 36).toInt)) ((G1.1 a 37).toInt + (i : Int)) = r2.getD i 0)) ∧ ((0 : Int) = 0 → ¬ (r1.1 = 1 ∧ wOk (tM (G.2.1 (F a 35)) ((G.1 a 36).toInt)) r1.2 r2)) := by
  have he : l2_10.toInt = rn cLt (tM (G.2.1 (F a 35)) ((G.1 a 36).toInt)) ((G1.1 a 37).toInt) := by
    symm
    refine rn_eq ⟨by omega, pl, cLt_n ?_⟩
    omega
  have hi := hwd.2 (l4_54.toInt).toNat (by omega)
  rw [show (((l4_54.toInt).toNat : Nat) : Int) = l4_54.toInt from by omega] at hi
  obtain ⟨w1, w2, w3⟩ := pw.1 (by omega)
  refine ⟨fun h => ?_, fun h => ?_⟩
  · first
      | (exfalso; omega)
      | (refine ⟨w1, w2, fun i hj => ?_⟩
         by_cases e : (i : Int) = l4_54.toInt
         · rw [e, show i = (l4_54.toInt).toNat from by omega]
           omega
         · exact w3 i (by omega))
  · first
      | (exfalso; omega)
      | exact rdm_w0 hrm oq1 he (Or.inr (Or.inr ⟨(l4_54.toInt).toNat, by rw [hwd.1]; omega, by rw [show (((l4_54.toInt).toNat : Nat) : Int) = l4_54.toInt from by omega]; omega⟩))
theorem v_X11_isWord_92_32 {K : Nat → Nat} {F : Nat → Nat → Nat} (a : Nat) (G : XG) (G1 : XG) (r1 : RSt) (r2 : List Int) (n0 : Nat) (p0 : Nat) (l2_10 : Int32) (l3_54 : Int32) (l4_54 : Int32) (x1 : Int32) (N10 : Nat) (x12 : Int32) (x15 : Int32) (x41 : Int32) (N54 : Nat) (x61 : Int32) (x73 : Int32) (x79 : Int32)
    (ha : K a = 13)
    (hrm : RdM (tM (G.2.1 (F a 35)) ((G.1 a 36).toInt)) ((G.1 a 36).toInt) r1 ((G.1 a 39).toInt) ((G.1 a 37).toInt) ((G.1 a 38).toInt))
    (hwd : r2.length = n0 ∧ ∀ i : Nat, i < n0 → aI (G.2.1 p0) (i : Int) = r2.getD i 0 ∧ 0 ≤ r2.getD i 0 ∧ r2.getD i 0 ≤ 127)
    (oq1 : ((G1.1 a 37).toInt) = rn cBl (tM (G.2.1 (F a 35)) ((G.1 a 36).toInt)) ((G.1 a 37).toInt))
    (pl : ∀ j : Int, (G1.1 a 37).toInt ≤ j → j < l2_10.toInt → cLt ((tM (G.2.1 (F a 35)) ((G.1 a 36).toInt)) j))
    (pw : (l3_54.toInt = 1 → ((G.1 a 39).toInt ≠ 0 ∧ l2_10.toInt - (G1.1 a 37).toInt = (n0 : Int) ∧ ∀ i : Nat, (i : Int) < l4_54.toInt → (tM (G.2.1 (F a 35)) ((G.1 a 36).toInt)) ((G1.1 a 37).toInt + (i : Int)) = r2.getD i 0)) ∧ (l3_54.toInt = 0 → ¬ (r1.1 = 1 ∧ wOk (tM (G.2.1 (F a 35)) ((G.1 a 36).toInt)) r1.2 r2)))
    (nt0 : 0 ≤ ((G.1 a 36).toInt) ∧ ((G.1 a 36).toInt) ≤ 80)
    (f13 : 3 ≤ (((n0) : Nat) : Int) ∧ (((n0) : Nat) : Int) ≤ 7)
    (z0 : 0 ≤ ((G.1 a 37).toInt) ∧ ((G.1 a 37).toInt) ≤ ((G.1 a 36).toInt))
    (t1 : -128 ≤ x1.toInt ∧ x1.toInt ≤ 127 ∧ ((0 ≤ x1.toInt ∧ (tM (G.2.1 (F a 35)) ((G.1 a 36).toInt) ((G1.1 a 37).toInt)) = x1.toInt) ∨ (x1.toInt < 0 ∧ (tM (G.2.1 (F a 35)) ((G.1 a 36).toInt) ((G1.1 a 37).toInt)) = x1.toInt + 256)) ∧ ((G.1 a 37).toInt) ≤ ((G1.1 a 37).toInt) ∧ ((G1.1 a 37).toInt) ≤ ((G.1 a 36).toInt))
    (I10_0 : ((G1.1 a 37).toInt) ≤ l2_10.toInt ∧ l2_10.toInt ≤ ((G.1 a 36).toInt))
    (hm10 : 2147483648 - l2_10.toInt < (((N10) + 1 : Nat) : Int))
    (z10 : ((0 ≤ l2_10.toInt ∧ l2_10.toInt < ((G.1 a 36).toInt)) ∧ True) ∨ (¬ (0 ≤ l2_10.toInt ∧ l2_10.toInt < ((G.1 a 36).toInt)) ∧ (tM (G.2.1 (F a 35)) ((G.1 a 36).toInt) (l2_10.toInt)) = 0))
    (t12 : -128 ≤ x12.toInt ∧ x12.toInt ≤ 127 ∧ ((0 ≤ x12.toInt ∧ (tM (G.2.1 (F a 35)) ((G.1 a 36).toInt) (l2_10.toInt)) = x12.toInt) ∨ (x12.toInt < 0 ∧ (tM (G.2.1 (F a 35)) ((G.1 a 36).toInt) (l2_10.toInt)) = x12.toInt + 256)))
    (t15 : (x15.toInt = 1 ∧ 97 ≤ x12.toInt ∧ x12.toInt ≤ 122) ∨ (x15.toInt = 0 ∧ (x12.toInt < 97 ∨ 122 < x12.toInt)))
    (c18 : x15.toInt = 0)
    (f22 : ((G.1 a 39).toInt) = 0 ∨ ((G.1 a 39).toInt) = 1)
    (c31 : ¬ (((G.1 a 39).toInt) = 0))
    (t41 : x41.toInt = (((n0) : Nat) : Int))
    (c42 : ¬ ((l2_10.toInt - ((G1.1 a 37).toInt)) ≠ x41.toInt))
    (I54_0 : 0 ≤ l4_54.toInt ∧ l4_54.toInt ≤ (((n0) : Nat) : Int))
    (I54_1 : l3_54.toInt = 0 ∨ l3_54.toInt = 1)
    (I54_2 : (0 : Int) ≤ l4_54.toInt)
    (hm54 : 2147483648 - l4_54.toInt < (((N54) + 1 : Nat) : Int))
    (c55 : ¬ (l3_54.toInt = 0))
    (t61 : x61.toInt = (((n0) : Nat) : Int))
    (c62 : ¬ (x61.toInt ≤ l4_54.toInt))
    (t73 : -128 ≤ x73.toInt ∧ x73.toInt ≤ 127 ∧ ((0 ≤ x73.toInt ∧ (tM (G.2.1 (F a 35)) ((G.1 a 36).toInt) (((G1.1 a 37).toInt) + l4_54.toInt)) = x73.toInt) ∨ (x73.toInt < 0 ∧ (tM (G.2.1 (F a 35)) ((G.1 a 36).toInt) (((G1.1 a 37).toInt) + l4_54.toInt)) = x73.toInt + 256)))
    (hv79 : x79.toInt = (aI (G.2.1 p0) (l4_54.toInt)))
    (c80 : ¬ (x73.toInt ≠ x79.toInt)) :
    ((1 : Int) = 1 → ((G.1 a 39).toInt ≠ 0 ∧ l2_10.toInt - (G1.1 a 37).toInt = (n0 : Int) ∧ ∀ i : Nat, (i : Int) < (l4_54.toInt + 1) → (tM (G.2.1 (F a 35)) ((G.1 a 36).toInt)) ((G1.1 a 37).toInt + (i : Int)) = r2.getD i 0)) ∧ ((1 : Int) = 0 → ¬ (r1.1 = 1 ∧ wOk (tM (G.2.1 (F a 35)) ((G.1 a 36).toInt)) r1.2 r2)) := by
  have he : l2_10.toInt = rn cLt (tM (G.2.1 (F a 35)) ((G.1 a 36).toInt)) ((G1.1 a 37).toInt) := by
    symm
    refine rn_eq ⟨by omega, pl, cLt_n ?_⟩
    omega
  have hi := hwd.2 (l4_54.toInt).toNat (by omega)
  rw [show (((l4_54.toInt).toNat : Nat) : Int) = l4_54.toInt from by omega] at hi
  obtain ⟨w1, w2, w3⟩ := pw.1 (by omega)
  refine ⟨fun h => ?_, fun h => ?_⟩
  · first
      | (exfalso; omega)
      | (refine ⟨w1, w2, fun i hj => ?_⟩
         by_cases e : (i : Int) = l4_54.toInt
         · rw [e, show i = (l4_54.toInt).toNat from by omega]
           omega
         · exact w3 i (by omega))
  · first
      | (exfalso; omega)
      | exact rdm_w0 hrm oq1 he (Or.inr (Or.inr ⟨(l4_54.toInt).toNat, by rw [hwd.1]; omega, by rw [show (((l4_54.toInt).toNat : Nat) : Int) = l4_54.toInt from by omega]; omega⟩))
theorem v_X11_isWord_52_33 {K : Nat → Nat} {F : Nat → Nat → Nat} (a : Nat) (G : XG) (G1 : XG) (r1 : RSt) (r2 : List Int) (n0 : Nat) (p0 : Nat) (l2_10 : Int32) (x1 : Int32) (N10 : Nat) (x12 : Int32) (x15 : Int32) (x41 : Int32)
    (ha : K a = 13)
    (hrm : RdM (tM (G.2.1 (F a 35)) ((G.1 a 36).toInt)) ((G.1 a 36).toInt) r1 ((G.1 a 39).toInt) ((G.1 a 37).toInt) ((G.1 a 38).toInt))
    (hwd : r2.length = n0 ∧ ∀ i : Nat, i < n0 → aI (G.2.1 p0) (i : Int) = r2.getD i 0 ∧ 0 ≤ r2.getD i 0 ∧ r2.getD i 0 ≤ 127)
    (oq1 : ((G1.1 a 37).toInt) = rn cBl (tM (G.2.1 (F a 35)) ((G.1 a 36).toInt)) ((G.1 a 37).toInt))
    (pl : ∀ j : Int, (G1.1 a 37).toInt ≤ j → j < l2_10.toInt → cLt ((tM (G.2.1 (F a 35)) ((G.1 a 36).toInt)) j))
    (nt0 : 0 ≤ ((G.1 a 36).toInt) ∧ ((G.1 a 36).toInt) ≤ 80)
    (f10 : 3 ≤ (((n0) : Nat) : Int) ∧ (((n0) : Nat) : Int) ≤ 7)
    (z0 : 0 ≤ ((G.1 a 37).toInt) ∧ ((G.1 a 37).toInt) ≤ ((G.1 a 36).toInt))
    (t1 : -128 ≤ x1.toInt ∧ x1.toInt ≤ 127 ∧ ((0 ≤ x1.toInt ∧ (tM (G.2.1 (F a 35)) ((G.1 a 36).toInt) ((G1.1 a 37).toInt)) = x1.toInt) ∨ (x1.toInt < 0 ∧ (tM (G.2.1 (F a 35)) ((G.1 a 36).toInt) ((G1.1 a 37).toInt)) = x1.toInt + 256)) ∧ ((G.1 a 37).toInt) ≤ ((G1.1 a 37).toInt) ∧ ((G1.1 a 37).toInt) ≤ ((G.1 a 36).toInt))
    (I10_0 : ((G1.1 a 37).toInt) ≤ l2_10.toInt ∧ l2_10.toInt ≤ ((G.1 a 36).toInt))
    (hm10 : 2147483648 - l2_10.toInt < (((N10) + 1 : Nat) : Int))
    (z10 : ((0 ≤ l2_10.toInt ∧ l2_10.toInt < ((G.1 a 36).toInt)) ∧ True) ∨ (¬ (0 ≤ l2_10.toInt ∧ l2_10.toInt < ((G.1 a 36).toInt)) ∧ (tM (G.2.1 (F a 35)) ((G.1 a 36).toInt) (l2_10.toInt)) = 0))
    (t12 : -128 ≤ x12.toInt ∧ x12.toInt ≤ 127 ∧ ((0 ≤ x12.toInt ∧ (tM (G.2.1 (F a 35)) ((G.1 a 36).toInt) (l2_10.toInt)) = x12.toInt) ∨ (x12.toInt < 0 ∧ (tM (G.2.1 (F a 35)) ((G.1 a 36).toInt) (l2_10.toInt)) = x12.toInt + 256)))
    (t15 : (x15.toInt = 1 ∧ 97 ≤ x12.toInt ∧ x12.toInt ≤ 122) ∨ (x15.toInt = 0 ∧ (x12.toInt < 97 ∨ 122 < x12.toInt)))
    (c18 : x15.toInt = 0)
    (f19 : ((G.1 a 39).toInt) = 0 ∨ ((G.1 a 39).toInt) = 1)
    (c31 : ¬ (((G.1 a 39).toInt) = 0))
    (t41 : x41.toInt = (((n0) : Nat) : Int))
    (c42 : ¬ ((l2_10.toInt - ((G1.1 a 37).toInt)) ≠ x41.toInt)) :
    ((1 : Int) = 1 → ((G.1 a 39).toInt ≠ 0 ∧ l2_10.toInt - (G1.1 a 37).toInt = (n0 : Int) ∧ ∀ i : Nat, (i : Int) < (0 : Int) → (tM (G.2.1 (F a 35)) ((G.1 a 36).toInt)) ((G1.1 a 37).toInt + (i : Int)) = r2.getD i 0)) ∧ ((1 : Int) = 0 → ¬ (r1.1 = 1 ∧ wOk (tM (G.2.1 (F a 35)) ((G.1 a 36).toInt)) r1.2 r2)) := by
  have he : l2_10.toInt = rn cLt (tM (G.2.1 (F a 35)) ((G.1 a 36).toInt)) ((G1.1 a 37).toInt) := by
    symm
    refine rn_eq ⟨by omega, pl, cLt_n ?_⟩
    omega
  refine ⟨fun h => ?_, fun h => ?_⟩
  · first
      | (exfalso; omega)
      | exact ⟨by omega, by omega, fun i hi => by omega⟩
  · first
      | (exfalso; omega)
      | exact rdm_w0 hrm oq1 he (Or.inl (by omega))
      | exact rdm_w0 hrm oq1 he (Or.inr (Or.inl (by rw [hwd.1]; omega)))
theorem v_X11_isWord_24_34 {K : Nat → Nat} {F : Nat → Nat → Nat} (a : Nat) (G : XG) (G1 : XG) (r2 : List Int) (n0 : Nat) (p0 : Nat) (l2_10 : Int32) (x1 : Int32) (N10 : Nat) (x12 : Int32) (x15 : Int32)
    (ha : K a = 13)
    (hwd : r2.length = n0 ∧ ∀ i : Nat, i < n0 → aI (G.2.1 p0) (i : Int) = r2.getD i 0 ∧ 0 ≤ r2.getD i 0 ∧ r2.getD i 0 ≤ 127)
    (oq1 : ((G1.1 a 37).toInt) = rn cBl (tM (G.2.1 (F a 35)) ((G.1 a 36).toInt)) ((G.1 a 37).toInt))
    (pl : ∀ j : Int, (G1.1 a 37).toInt ≤ j → j < l2_10.toInt → cLt ((tM (G.2.1 (F a 35)) ((G.1 a 36).toInt)) j))
    (nt0 : 0 ≤ ((G.1 a 36).toInt) ∧ ((G.1 a 36).toInt) ≤ 80)
    (f10 : 3 ≤ (((n0) : Nat) : Int) ∧ (((n0) : Nat) : Int) ≤ 7)
    (z0 : 0 ≤ ((G.1 a 37).toInt) ∧ ((G.1 a 37).toInt) ≤ ((G.1 a 36).toInt))
    (t1 : -128 ≤ x1.toInt ∧ x1.toInt ≤ 127 ∧ ((0 ≤ x1.toInt ∧ (tM (G.2.1 (F a 35)) ((G.1 a 36).toInt) ((G1.1 a 37).toInt)) = x1.toInt) ∨ (x1.toInt < 0 ∧ (tM (G.2.1 (F a 35)) ((G.1 a 36).toInt) ((G1.1 a 37).toInt)) = x1.toInt + 256)) ∧ ((G.1 a 37).toInt) ≤ ((G1.1 a 37).toInt) ∧ ((G1.1 a 37).toInt) ≤ ((G.1 a 36).toInt))
    (I10_0 : ((G1.1 a 37).toInt) ≤ l2_10.toInt ∧ l2_10.toInt ≤ ((G.1 a 36).toInt))
    (hm10 : 2147483648 - l2_10.toInt < (((N10) + 1 : Nat) : Int))
    (z10 : ((0 ≤ l2_10.toInt ∧ l2_10.toInt < ((G.1 a 36).toInt)) ∧ True) ∨ (¬ (0 ≤ l2_10.toInt ∧ l2_10.toInt < ((G.1 a 36).toInt)) ∧ (tM (G.2.1 (F a 35)) ((G.1 a 36).toInt) (l2_10.toInt)) = 0))
    (t12 : -128 ≤ x12.toInt ∧ x12.toInt ≤ 127 ∧ ((0 ≤ x12.toInt ∧ (tM (G.2.1 (F a 35)) ((G.1 a 36).toInt) (l2_10.toInt)) = x12.toInt) ∨ (x12.toInt < 0 ∧ (tM (G.2.1 (F a 35)) ((G.1 a 36).toInt) (l2_10.toInt)) = x12.toInt + 256)))
    (t15 : (x15.toInt = 1 ∧ 97 ≤ x12.toInt ∧ x12.toInt ≤ 122) ∨ (x15.toInt = 0 ∧ (x12.toInt < 97 ∨ 122 < x12.toInt)))
    (c18 : ¬ (x15.toInt = 0)) :
    ∀ j : Int, (G1.1 a 37).toInt ≤ j → j < (l2_10.toInt + 1) → cLt ((tM (G.2.1 (F a 35)) ((G.1 a 36).toInt)) j) := by
  intro j h1 h2
  by_cases e : j = l2_10.toInt
  · rw [e]; unfold cLt; omega
  · exact pl j h1 (by omega)
theorem v_X11_isWord_9_35 {K : Nat → Nat} {F : Nat → Nat → Nat} (a : Nat) (G : XG) (G1 : XG) (r2 : List Int) (n0 : Nat) (p0 : Nat) (x1 : Int32)
    (ha : K a = 13)
    (hwd : r2.length = n0 ∧ ∀ i : Nat, i < n0 → aI (G.2.1 p0) (i : Int) = r2.getD i 0 ∧ 0 ≤ r2.getD i 0 ∧ r2.getD i 0 ≤ 127)
    (oq1 : ((G1.1 a 37).toInt) = rn cBl (tM (G.2.1 (F a 35)) ((G.1 a 36).toInt)) ((G.1 a 37).toInt))
    (nt0 : 0 ≤ ((G.1 a 36).toInt) ∧ ((G.1 a 36).toInt) ≤ 80)
    (f8 : 3 ≤ (((n0) : Nat) : Int) ∧ (((n0) : Nat) : Int) ≤ 7)
    (z0 : 0 ≤ ((G.1 a 37).toInt) ∧ ((G.1 a 37).toInt) ≤ ((G.1 a 36).toInt))
    (t1 : -128 ≤ x1.toInt ∧ x1.toInt ≤ 127 ∧ ((0 ≤ x1.toInt ∧ (tM (G.2.1 (F a 35)) ((G.1 a 36).toInt) ((G1.1 a 37).toInt)) = x1.toInt) ∨ (x1.toInt < 0 ∧ (tM (G.2.1 (F a 35)) ((G.1 a 36).toInt) ((G1.1 a 37).toInt)) = x1.toInt + 256)) ∧ ((G.1 a 37).toInt) ≤ ((G1.1 a 37).toInt) ∧ ((G1.1 a 37).toInt) ≤ ((G.1 a 36).toInt)) :
    ∀ j : Int, (G1.1 a 37).toInt ≤ j → j < ((G1.1 a 37).toInt) → cLt ((tM (G.2.1 (F a 35)) ((G.1 a 36).toInt)) j) := by
  intro j h1 h2; exact absurd h1 (by omega)
theorem z_X11_signAt_1 (a0 : Int) (a1 : Int) (a2 : Int) (a3 : Int) (h0 : ((0 ≤ a0 ∧ a0 < a1) ∧ a3 = a2 % 256) ∨ (¬ (0 ≤ a0 ∧ a0 < a1) ∧ a3 = 0)) (h1 : a1 ≤ a0) : -128 ≤ (0 : Int) ∧ (0 : Int) ≤ 127 ∧ ((0 ≤ (0 : Int) ∧ a3 = (0 : Int)) ∨ ((0 : Int) < 0 ∧ a3 = (0 : Int) + 256)) := by omega
theorem z_X11_signAt_2 (a0 : Int) (a1 : Int) (h0 : 0 ≤ a1 ∧ a1 ≤ 80) (h1 : 0 ≤ a0) (h2 : ¬ (a1 ≤ a0)) : 0 ≤ a0 ∧ a0 < ((80 : Nat) : Int) := by omega
theorem z_X11_signAt_3 (a0 : Int) (a1 : Int) (a2 : Int) (a3 : Int) (h0 : 0 ≤ a1 ∧ a1 ≤ 80) (h1 : 0 ≤ a0) (h2 : ((0 ≤ a0 ∧ a0 < a1) ∧ a3 = a2 % 256) ∨ (¬ (0 ≤ a0 ∧ a0 < a1) ∧ a3 = 0)) (h3 : ¬ (a1 ≤ a0)) (h4 : -128 ≤ a2 ∧ a2 ≤ 127) (r0 : -2147483648 ≤ a0 ∧ a0 < 2147483648) (r1 : -2147483648 ≤ a1 ∧ a1 < 2147483648) (r2 : -2147483648 ≤ a2 ∧ a2 < 2147483648) : -128 ≤ a2 ∧ a2 ≤ 127 ∧ ((0 ≤ a2 ∧ a3 = a2) ∨ (a2 < 0 ∧ a3 = a2 + 256)) := by omega
abbrev rm_X11_signAt : Room := { frames := 0, cells := 0, slots := 0, locals := 0 }
set_option maxHeartbeats 4000000 in
set_option maxRecDepth 100000 in
theorem c_X11_signAt (l : Launch) (E : XE) (K : Nat → Nat) (F : Nat → Nat → Nat) (G : XG) (h0 : Heap) (a : Nat) (p0 : Int32) (ha : K a = 13) (nt0 : 0 ≤ ((G.1 a 36).toInt) ∧ ((G.1 a 36).toInt) ≤ 80) (e0 : 0 ≤ p0.toInt) : Met l yX11_signAt (xw yX11_signAt cX11_signAt 2 (some .int)) rm_X11_signAt (va_Pc [.ref a, .int p0] (XPh E K F G h0)) (XQ E (fun v (u : Unit) => ∃ r : Int32, v = .int r ∧ (-128 ≤ r.toInt ∧ r.toInt ≤ 127 ∧ ((0 ≤ r.toInt ∧ (tM (G.2.1 (F a 35)) ((G.1 a 36).toInt) (p0.toInt)) = r.toInt) ∨ (r.toInt < 0 ∧ (tM (G.2.1 (F a 35)) ((G.1 a 36).toInt) (p0.toInt)) = r.toInt + 256)))) (fun _ H => H = h0)) 0 0 (xA E) := by
  refine x_enter (by decide) (Nat.le_of_ble_eq_true rfl) ?_
  intro p e s m args below meth c Q S hr hlk hnm hQ hP ls hl
  obtain ⟨⟨hz, hK, hT⟩, hh⟩ := hP
  obtain ⟨hx, hb, -, -, -⟩ := id S
  have hS : va_S (xA E) s.heap s.heap [] := va_S.rf
  have hl : lv_has ls 2 [(0, .ref a), (1, .int p0)] := hl
  obtain ⟨hk9999, hj9999⟩ := fkX11_35 hT ha
  have z0 : ((0 ≤ p0.toInt ∧ p0.toInt < ((G.1 a 36).toInt)) ∧ (tM (G.2.1 (F a 35)) ((G.1 a 36).toInt) (p0.toInt)) = (aI (G.2.1 (F a 35)) (p0.toInt)) % 256) ∨ (¬ (0 ≤ p0.toInt ∧ p0.toInt < ((G.1 a 36).toInt)) ∧ (tM (G.2.1 (F a 35)) ((G.1 a 36).toInt) (p0.toInt)) = 0) := tM_f _ _ _
  refine lv_iload_n hx hb dX11_signAt_0 rfl (lv_at hl 1 rfl) ?_
  refine lv_aload_n hx hb dX11_signAt_1 rfl (lv_at hl 0 rfl) ?_
  refine gX11_36 S hK hT ha kf_X11_245 dX11_signAt_2 (v := (G.1 a 36)) rfl (?_)
  refine xi_cge (tgt := 17) hx hb (rfl : Int32.toInt p0 = p0.toInt) (rfl : Int32.toInt (G.1 a 36) = ((G.1 a 36).toInt)) dX11_signAt_5 (by decide) (fun c5 => ?_) (fun c5 => ?_)
  · refine lv_iconst (v := 0) hx hb dX11_signAt_17 (by decide) ?_
    exact x_ri hx hb hr hlk hQ (Nat.le_of_ble_eq_true rfl) (Nat.le_of_ble_eq_true rfl) hS dX11_signAt_18 () ⟨_, rfl, (z_X11_signAt_1 p0.toInt ((G.1 a 36).toInt) (aI (G.2.1 (F a 35)) (p0.toInt)) (tM (G.2.1 (F a 35)) ((G.1 a 36).toInt) (p0.toInt)) z0 c5)⟩ hh
  · refine lv_aload_n hx hb dX11_signAt_8 rfl (lv_at hl 0 rfl) ?_
    refine gX11_35 S hK hT ha kf_X11_103 dX11_signAt_9 (fun _ _ => ?_)
    refine lv_iload_n hx hb dX11_signAt_12 rfl (lv_at hl 1 rfl) ?_
    refine al_2 S hK hT hk9999 ar_51 (by decide) (z_X11_signAt_2 p0.toInt ((G.1 a 36).toInt) nt0 e0 c5) dX11_signAt_13 (fun x13 hv13 o13 => ?_)
    have hv13 : x13.toInt = (aI (G.2.1 (F a 35)) (p0.toInt)) := hv13.trans (by rw [(rfl : Int32.toInt p0 = p0.toInt)])
    refine lv_goto (tgt := 18) hx hb dX11_signAt_14 (by decide) ?_
    exact x_ri hx hb hr hlk hQ (Nat.le_of_ble_eq_true rfl) (Nat.le_of_ble_eq_true rfl) hS dX11_signAt_18 () ⟨_, rfl, (by rw [(hv13 : Int32.toInt x13 = (aI (G.2.1 (F a 35)) (p0.toInt)))] <;> exact (z_X11_signAt_3 p0.toInt ((G.1 a 36).toInt) (aI (G.2.1 (F a 35)) (p0.toInt)) (tM (G.2.1 (F a 35)) ((G.1 a 36).toInt) (p0.toInt)) nt0 e0 z0 c5 (xok2b o13 hv13) (xr p0) (xr (G.1 a 36)) (xrA _ _)))⟩ hh

theorem z_X11_next_1 (a0 : Int) (a1 : Int) (a2 : Int) (h0 : a1 ≤ a2 ∧ a2 ≤ a0) (h1 : 0 ≤ a0 ∧ a0 ≤ 80) : ¬ (200 - a2 < ((0 : Nat) : Int)) := by omega
theorem z_X11_next_3 (a0 : Int) (a1 : Int) (a2 : Int) (h0 : 0 ≤ a1 ∧ a1 ≤ a0) (h1 : a1 ≤ a2 ∧ a2 ≤ a0) : 0 ≤ a2 := by omega
theorem z_X11_next_6 (a0 : Int) (a1 : Int) (a2 : Int) (a3 : Int) (a4 : Int) (h0 : a2 ≤ a3 ∧ a3 ≤ a1) (h1 : -128 ≤ a0) (h2 : a0 ≤ 127) (h3 : (0 ≤ a0 ∧ a4 = a0) ∨ (a0 < 0 ∧ a4 = a0 + 256)) : -128 ≤ a0 ∧ a0 ≤ 127 ∧ ((0 ≤ a0 ∧ a4 = a0) ∨ (a0 < 0 ∧ a4 = a0 + 256)) ∧ a2 ≤ a3 ∧ a3 ≤ a1 := by omega
theorem z_X11_next_9 (a0 : Int) (a1 : Int) (a2 : Int) (a3 : Int) (a4 : Int) (a5 : Int) (h0 : (0 ≤ a1 ∧ a5 = a1) ∨ (a1 < 0 ∧ a5 = a1 + 256)) (h1 : ¬ (a1 ≠ (32 : Int))) (h2 : ((0 ≤ a4 ∧ a4 < a2) ∧ True) ∨ (¬ (0 ≤ a4 ∧ a4 < a2) ∧ a5 = 0)) (h3 : a2 ≤ a4) : -128 ≤ a0 ∧ a0 ≤ 127 ∧ ((0 ≤ a0 ∧ a5 = a0) ∨ (a0 < 0 ∧ a5 = a0 + 256)) ∧ a3 ≤ a4 ∧ a4 ≤ a2 := by omega
theorem z_X11_next_10 (a0 : Int) (a1 : Int) (a2 : Int) (h0 : 0 ≤ a1 ∧ a1 ≤ 80) (h1 : ¬ (a1 ≤ a2)) (h2 : a0 = (a2 + (1 : Int)) ∨ (a2 + (1 : Int)) < -2147483648 ∨ 2147483648 ≤ (a2 + (1 : Int))) (h3 : -2147483648 ≤ a2 ∧ a2 < 2147483648) : a0 = (a2 + (1 : Int)) := by omega
theorem z_X11_next_11 (a0 : Int) (a1 : Int) (a2 : Int) (h0 : a1 ≤ a2 ∧ a2 ≤ a0) (h1 : ¬ (a0 ≤ a2)) : a1 ≤ (a2 + (1 : Int)) ∧ (a2 + (1 : Int)) ≤ a0 := by omega
theorem z_X11_next_12 (a0 : Nat) (a1 : Int) (h0 : 200 - a1 < ((a0 + 1 : Nat) : Int)) : 200 - (a1 + (1 : Int)) < ((a0 : Nat) : Int) := by omega
theorem z_X11_next_13 (a0 : Int) (a1 : Int) (h0 : 0 ≤ a1 ∧ a1 ≤ a0) : a1 ≤ a1 ∧ a1 ≤ a0 := by omega
theorem z_X11_next_14 (a0 : Int) (a1 : Int) (h0 : 0 ≤ a1 ∧ a1 ≤ a0) : 200 - a1 < ((4294967297 : Nat) : Int) := by omega
abbrev rm_X11_next : Room := { frames := 1, cells := 0, slots := 0, locals := 21 }
set_option maxHeartbeats 4000000 in
set_option maxRecDepth 100000 in
theorem c_X11_next (l : Launch) (E : XE) (K : Nat → Nat) (F : Nat → Nat → Nat) (G : XG) (a : Nat) (ha : K a = 13) (nt0 : 0 ≤ ((G.1 a 36).toInt) ∧ ((G.1 a 36).toInt) ≤ 80) (s0 : 0 ≤ ((G.1 a 37).toInt) ∧ ((G.1 a 37).toInt) ≤ ((G.1 a 36).toInt)) : Met l yX11_next (xw yX11_next cX11_next 1 (some .int)) rm_X11_next (va_Pc [.ref a] (XP E K F G)) (XQ E (fun v (u : XG) => ∃ r : Int32, v = .int r ∧ XFr [(a, 37)] [] [] G u ∧ (-128 ≤ r.toInt ∧ r.toInt ≤ 127 ∧ ((0 ≤ r.toInt ∧ (tM (G.2.1 (F a 35)) ((G.1 a 36).toInt) ((u.1 a 37).toInt)) = r.toInt) ∨ (r.toInt < 0 ∧ (tM (G.2.1 (F a 35)) ((G.1 a 36).toInt) ((u.1 a 37).toInt)) = r.toInt + 256)) ∧ ((G.1 a 37).toInt) ≤ ((u.1 a 37).toInt) ∧ ((u.1 a 37).toInt) ≤ ((G.1 a 36).toInt)) ∧ (((u.1 a 37).toInt) = rn cBl (tM (G.2.1 (F a 35)) ((G.1 a 36).toInt)) ((G.1 a 37).toInt))) (fun u H => TW E K F u H)) 0 0 (xA E) := by
  refine x_enter (by decide) (Nat.le_of_ble_eq_true rfl) ?_
  intro p e s m args below meth c Q S hr hlk hnm hQ hP ls hl
  obtain ⟨hz, hK, hT⟩ := hP
  obtain ⟨hx, hb, -, -, -⟩ := id S
  obtain ⟨H, hT, hS, hgo⟩ : ∃ H : Heap, TW E K F G H ∧ va_S (xA E) s.heap H [] ∧ H = s.heap := ⟨_, hT, va_S.rf, rfl⟩
  rw [← hgo]
  have hl : lv_has ls 1 [(0, .ref a)] := hl
  obtain ⟨hk9999, hj9999⟩ := fkX11_35 hT ha
  have L0 : ∀ (N0 : Nat) (G_0 : XG) (H : Heap) (locs : List Loc) (ls : Array Slot), XFr [(a, 37)] [] [] G G_0 → (∀ j : Int, (G.1 a 37).toInt ≤ j → j < ((G_0.1 a 37).toInt) → cBl ((tM (G.2.1 (F a 35)) ((G.1 a 36).toInt)) j)) → ((G.1 a 37).toInt) ≤ ((G_0.1 a 37).toInt) ∧ ((G_0.1 a 37).toInt) ≤ ((G.1 a 36).toInt) → 200 - ((G_0.1 a 37).toInt) < ((N0 : Nat) : Int) → TW E K F G_0 H → va_S (xA E) s.heap H locs → lv_has ls 1 [(0, .ref a)] → W p l e rm_X11_next s m args below meth c H locs 0 0 Q (F0 m 0 ls []) := by
    intro N0
    induction N0 with
    | zero =>
      intro G_0 H locs ls hF_0 pr I0_0 hm0
      exact absurd hm0 (z_X11_next_1 ((G.1 a 36).toInt) ((G.1 a 37).toInt) ((G_0.1 a 37).toInt) I0_0 nt0)
    | succ N0 ih0 =>
      intro G_0 H locs ls hF_0 pr I0_0 hm0 hT hS hl
      refine lv_aload_n hx hb dX11_next_0 rfl (lv_at hl 0 rfl) ?_
      refine lv_aload_n hx hb dX11_next_1 rfl (lv_at hl 0 rfl) ?_
      refine gX11_37 S hK hT ha kf_X11_256 dX11_next_2 (v := (G_0.1 a 37)) rfl (?_)
      refine x_clp (x_runV (b := a) (As := [.int (G_0.1 a 37)]) (rest := []) S (c_X11_signAt l E K F G_0 H a (G_0.1 a 37) ha (by rw [(show (G_0.1 a 36).toInt = ((G.1 a 36).toInt) from (congrArg Int32.toInt (hF_0.1 _ _ (xnj (by decide) xn0))).trans (rfl : Int32.toInt (G.1 a 36) = ((G.1 a 36).toInt)))] <;> exact (nt0)) (z_X11_next_3 ((G.1 a 36).toInt) ((G.1 a 37).toInt) ((G_0.1 a 37).toInt) s0 I0_0)) mv_X11_signAt km_X11_259 rfl rfl ⟨Nat.le_of_ble_eq_true rfl, Nat.le_of_ble_eq_true rfl⟩ (rc_13 hK hT ha) hK (fun _ => XPh.blind) (fun U hU hW => XPh.at hK hz hS hT hU hW) rfl hl.1 (Nat.le_of_ble_eq_true rfl) dX11_next_5 ⟨Nat.le_of_ble_eq_true rfl, Nat.le_of_ble_eq_true rfl⟩) hS ?_
      rintro _ _ locs ⟨x5, rfl, t5⟩ hS
      have t5 : -128 ≤ x5.toInt ∧ x5.toInt ≤ 127 ∧ ((0 ≤ x5.toInt ∧ (tM (G.2.1 (F a 35)) ((G.1 a 36).toInt) ((G_0.1 a 37).toInt)) = x5.toInt) ∨ (x5.toInt < 0 ∧ (tM (G.2.1 (F a 35)) ((G.1 a 36).toInt) ((G_0.1 a 37).toInt)) = x5.toInt + 256)) := by rw [(show G_0.2.1 (F a 35) = G.2.1 (F a 35) from (hF_0.2.1 _ xn0))] at t5; rw [(show (G_0.1 a 36).toInt = ((G.1 a 36).toInt) from (congrArg Int32.toInt (hF_0.1 _ _ (xnj (by decide) xn0))).trans (rfl : Int32.toInt (G.1 a 36) = ((G.1 a 36).toInt)))] at t5; exact t5
      refine lv_bipush (v := 32) hx hb dX11_next_8 (by decide) ?_
      refine xi_cne (tgt := 37) hx hb (rfl : Int32.toInt x5 = x5.toInt) ((by decide) : Int32.toInt 32 = (32 : Int)) dX11_next_10 (by decide) (fun c10 => ?_) (fun c10 => ?_)
      · refine lv_aload_n hx hb dX11_next_37 rfl (lv_at hl 0 rfl) ?_
        refine lv_aload_n hx hb dX11_next_38 rfl (lv_at hl 0 rfl) ?_
        refine gX11_37 S hK hT ha kf_X11_256 dX11_next_39 (v := (G_0.1 a 37)) rfl (?_)
        refine x_clp (x_runV (b := a) (As := [.int (G_0.1 a 37)]) (rest := []) S (c_X11_signAt l E K F G_0 H a (G_0.1 a 37) ha (by rw [(show (G_0.1 a 36).toInt = ((G.1 a 36).toInt) from (congrArg Int32.toInt (hF_0.1 _ _ (xnj (by decide) xn0))).trans (rfl : Int32.toInt (G.1 a 36) = ((G.1 a 36).toInt)))] <;> exact (nt0)) (z_X11_next_3 ((G.1 a 36).toInt) ((G.1 a 37).toInt) ((G_0.1 a 37).toInt) s0 I0_0)) mv_X11_signAt km_X11_259 rfl rfl ⟨Nat.le_of_ble_eq_true rfl, Nat.le_of_ble_eq_true rfl⟩ (rc_13 hK hT ha) hK (fun _ => XPh.blind) (fun U hU hW => XPh.at hK hz hS hT hU hW) rfl hl.1 (Nat.le_of_ble_eq_true rfl) dX11_next_42 ⟨Nat.le_of_ble_eq_true rfl, Nat.le_of_ble_eq_true rfl⟩) hS ?_
        rintro _ _ locs ⟨x42, rfl, t42⟩ hS
        have t42 : -128 ≤ x42.toInt ∧ x42.toInt ≤ 127 ∧ ((0 ≤ x42.toInt ∧ (tM (G.2.1 (F a 35)) ((G.1 a 36).toInt) ((G_0.1 a 37).toInt)) = x42.toInt) ∨ (x42.toInt < 0 ∧ (tM (G.2.1 (F a 35)) ((G.1 a 36).toInt) ((G_0.1 a 37).toInt)) = x42.toInt + 256)) := by rw [(show G_0.2.1 (F a 35) = G.2.1 (F a 35) from (hF_0.2.1 _ xn0))] at t42; rw [(show (G_0.1 a 36).toInt = ((G.1 a 36).toInt) from (congrArg Int32.toInt (hF_0.1 _ _ (xnj (by decide) xn0))).trans (rfl : Int32.toInt (G.1 a 36) = ((G.1 a 36).toInt)))] at t42; exact t42
        exact x_ri hx hb hr hlk hQ (Nat.le_of_ble_eq_true rfl) (Nat.le_of_ble_eq_true rfl) hS dX11_next_45 G_0 ⟨_, rfl, (XFr.call XFr.rf hF_0 (xm1 0 rfl xm0) xm0 xm0), (z_X11_next_6 x42.toInt ((G.1 a 36).toInt) ((G.1 a 37).toInt) ((G_0.1 a 37).toInt) (tM (G.2.1 (F a 35)) ((G.1 a 36).toInt) ((G_0.1 a 37).toInt)) I0_0 (t42).1 (t42).2.1 (t42).2.2), (v_X11_next_45_1 (K := K) (F := F) a G G_0 N0 x5 x42 ha pr nt0 s0 I0_0 hm0 t5 c10 t42)⟩ hT
      · have z13 : ((0 ≤ ((G_0.1 a 37).toInt) ∧ ((G_0.1 a 37).toInt) < ((G.1 a 36).toInt)) ∧ True) ∨ (¬ (0 ≤ ((G_0.1 a 37).toInt) ∧ ((G_0.1 a 37).toInt) < ((G.1 a 36).toInt)) ∧ (tM (G.2.1 (F a 35)) ((G.1 a 36).toInt) ((G_0.1 a 37).toInt)) = 0) := (tM_f _ _ _).imp (fun h => ⟨h.1, trivial⟩) id
        refine lv_aload_n hx hb dX11_next_13 rfl (lv_at hl 0 rfl) ?_
        refine gX11_37 S hK hT ha kf_X11_256 dX11_next_14 (v := (G_0.1 a 37)) rfl (?_)
        refine lv_aload_n hx hb dX11_next_17 rfl (lv_at hl 0 rfl) ?_
        refine gX11_36 S hK hT ha kf_X11_245 dX11_next_18 (v := (G.1 a 36)) (hF_0.1 _ _ (xnj (by decide) xn0)) (?_)
        refine xi_cge (tgt := 37) hx hb (rfl : Int32.toInt (G_0.1 a 37) = ((G_0.1 a 37).toInt)) (rfl : Int32.toInt (G.1 a 36) = ((G.1 a 36).toInt)) dX11_next_21 (by decide) (fun c21 => ?_) (fun c21 => ?_)
        · refine lv_aload_n hx hb dX11_next_37 rfl (lv_at hl 0 rfl) ?_
          refine lv_aload_n hx hb dX11_next_38 rfl (lv_at hl 0 rfl) ?_
          refine gX11_37 S hK hT ha kf_X11_256 dX11_next_39 (v := (G_0.1 a 37)) rfl (?_)
          refine x_clp (x_runV (b := a) (As := [.int (G_0.1 a 37)]) (rest := []) S (c_X11_signAt l E K F G_0 H a (G_0.1 a 37) ha (by rw [(show (G_0.1 a 36).toInt = ((G.1 a 36).toInt) from (congrArg Int32.toInt (hF_0.1 _ _ (xnj (by decide) xn0))).trans (rfl : Int32.toInt (G.1 a 36) = ((G.1 a 36).toInt)))] <;> exact (nt0)) (z_X11_next_3 ((G.1 a 36).toInt) ((G.1 a 37).toInt) ((G_0.1 a 37).toInt) s0 I0_0)) mv_X11_signAt km_X11_259 rfl rfl ⟨Nat.le_of_ble_eq_true rfl, Nat.le_of_ble_eq_true rfl⟩ (rc_13 hK hT ha) hK (fun _ => XPh.blind) (fun U hU hW => XPh.at hK hz hS hT hU hW) rfl hl.1 (Nat.le_of_ble_eq_true rfl) dX11_next_42 ⟨Nat.le_of_ble_eq_true rfl, Nat.le_of_ble_eq_true rfl⟩) hS ?_
          rintro _ _ locs ⟨x42, rfl, t42⟩ hS
          have t42 : -128 ≤ x42.toInt ∧ x42.toInt ≤ 127 ∧ ((0 ≤ x42.toInt ∧ (tM (G.2.1 (F a 35)) ((G.1 a 36).toInt) ((G_0.1 a 37).toInt)) = x42.toInt) ∨ (x42.toInt < 0 ∧ (tM (G.2.1 (F a 35)) ((G.1 a 36).toInt) ((G_0.1 a 37).toInt)) = x42.toInt + 256)) := by rw [(show G_0.2.1 (F a 35) = G.2.1 (F a 35) from (hF_0.2.1 _ xn0))] at t42; rw [(show (G_0.1 a 36).toInt = ((G.1 a 36).toInt) from (congrArg Int32.toInt (hF_0.1 _ _ (xnj (by decide) xn0))).trans (rfl : Int32.toInt (G.1 a 36) = ((G.1 a 36).toInt)))] at t42; exact t42
          exact x_ri hx hb hr hlk hQ (Nat.le_of_ble_eq_true rfl) (Nat.le_of_ble_eq_true rfl) hS dX11_next_45 G_0 ⟨_, rfl, (XFr.call XFr.rf hF_0 (xm1 0 rfl xm0) xm0 xm0), (z_X11_next_9 x42.toInt x5.toInt ((G.1 a 36).toInt) ((G.1 a 37).toInt) ((G_0.1 a 37).toInt) (tM (G.2.1 (F a 35)) ((G.1 a 36).toInt) ((G_0.1 a 37).toInt)) (t5).2.2 c10 z13 c21), (v_X11_next_45_2 (K := K) (F := F) a G G_0 N0 x5 x42 ha pr nt0 s0 I0_0 hm0 t5 c10 z13 c21 t42)⟩ hT
        · refine lv_aload_n hx hb dX11_next_24 rfl (lv_at hl 0 rfl) ?_
          refine lv_dup hx hb dX11_next_25 rfl ?_
          refine gX11_37 S hK hT ha kf_X11_256 dX11_next_26 (v := (G_0.1 a 37)) rfl (?_)
          refine lv_iconst (v := 1) hx hb dX11_next_29 (by decide) ?_
          refine xi_iadd hx hb (rfl : Int32.toInt (G_0.1 a 37) = ((G_0.1 a 37).toInt)) ((by decide) : Int32.toInt 1 = (1 : Int)) dX11_next_30 (fun x30 t30 => ?_)
          have e30 : x30.toInt = (((G_0.1 a 37).toInt) + (1 : Int)) := (z_X11_next_10 x30.toInt ((G.1 a 36).toInt) ((G_0.1 a 37).toInt) nt0 c21 t30 (xr (G_0.1 a 37)))
          refine pX11_37 (v := x30) S hK hT hS ha kf_X11_256 dX11_next_31 (fun H locs hT hS => ?_)
          obtain ⟨G31, hG31⟩ : ∃ GG : XG, GG = dput G_0 a 37 x30 := ⟨_, rfl⟩
          rw [← hG31] at hT
          refine lv_goto (tgt := 0) hx hb dX11_next_34 (by decide) ?_
          exact ih0 G31 _ _ _ (by rw [hG31]; exact XFr.dput (XFr.call XFr.rf hF_0 (xm1 0 rfl xm0) xm0 xm0) (List.mem_of_getElem? (i := 0) rfl)) (by rw [(show (G31.1 a 37).toInt = (((G_0.1 a 37).toInt) + (1 : Int)) from (congrArg Int32.toInt (ld_at hG31)).trans (e30 : Int32.toInt x30 = (((G_0.1 a 37).toInt) + (1 : Int))))] <;> exact (v_X11_next_34_3 (K := K) (F := F) a G G_0 N0 x5 ha pr nt0 s0 I0_0 hm0 t5 c10 z13 c21)) (by rw [(show (G31.1 a 37).toInt = (((G_0.1 a 37).toInt) + (1 : Int)) from (congrArg Int32.toInt (ld_at hG31)).trans (e30 : Int32.toInt x30 = (((G_0.1 a 37).toInt) + (1 : Int))))] <;> exact (z_X11_next_11 ((G.1 a 36).toInt) ((G.1 a 37).toInt) ((G_0.1 a 37).toInt) I0_0 c21)) (by rw [(show (G31.1 a 37).toInt = (((G_0.1 a 37).toInt) + (1 : Int)) from (congrArg Int32.toInt (ld_at hG31)).trans (e30 : Int32.toInt x30 = (((G_0.1 a 37).toInt) + (1 : Int))))] <;> exact (z_X11_next_12 N0 ((G_0.1 a 37).toInt) hm0)) hT hS (lv_sub hl [0] rfl)
  exact L0 4294967297 G _ _ _ XFr.rf (v_X11_next_9999_4 (K := K) (F := F) a G ha nt0 s0) (z_X11_next_13 ((G.1 a 36).toInt) ((G.1 a 37).toInt) s0) (z_X11_next_14 ((G.1 a 36).toInt) ((G.1 a 37).toInt) s0) hT hS (lv_sub hl [0] rfl)

theorem z_X11_wrong_1 (a0 : Int) (a1 : Int) (a2 : Int) (h0 : a2 = 0) : (0 : Int) = 0 ∧ (a2 ≠ 0 → a1 = a0) ∧ (a2 = 0 → a1 = a1) := by omega
theorem z_X11_wrong_2 (a0 : Int) (a1 : Int) (a2 : Int) (h0 : ¬ (a2 = 0)) : (0 : Int) = 0 ∧ (a2 ≠ 0 → a0 = a0) ∧ (a2 = 0 → a0 = a1) := by omega
abbrev rm_X11_wrong : Room := { frames := 0, cells := 0, slots := 0, locals := 0 }
set_option maxHeartbeats 4000000 in
set_option maxRecDepth 100000 in
theorem c_X11_wrong (l : Launch) (E : XE) (K : Nat → Nat) (F : Nat → Nat → Nat) (G : XG) (a : Nat) (p0 : Int32) (ha : K a = 13) : Met l yX11_wrong (xw yX11_wrong cX11_wrong 2 none) rm_X11_wrong (va_Pc [.ref a, .int p0] (XP E K F G)) (XQv E (fun (u : XG) => XFr [(a, 38), (a, 39)] [] [] G u ∧ (((u.1 a 39).toInt) = 0 ∧ (((G.1 a 39).toInt) ≠ 0 → ((u.1 a 38).toInt) = p0.toInt) ∧ (((G.1 a 39).toInt) = 0 → ((u.1 a 38).toInt) = ((G.1 a 38).toInt)))) (fun u H => TW E K F u H)) 0 0 (xA E) := by
  refine x_enter (by decide) (Nat.le_of_ble_eq_true rfl) ?_
  intro p e s m args below meth c Q S hr hlk hnm hQ hP ls hl
  obtain ⟨hz, hK, hT⟩ := hP
  obtain ⟨hx, hb, -, -, -⟩ := id S
  obtain ⟨H, hT, hS, hgo⟩ : ∃ H : Heap, TW E K F G H ∧ va_S (xA E) s.heap H [] ∧ H = s.heap := ⟨_, hT, va_S.rf, rfl⟩
  rw [← hgo]
  have hl : lv_has ls 2 [(0, .ref a), (1, .int p0)] := hl
  refine lv_aload_n hx hb dX11_wrong_0 rfl (lv_at hl 0 rfl) ?_
  refine lv_aload_n hx hb dX11_wrong_1 rfl (lv_at hl 0 rfl) ?_
  refine gX11_39 S hK hT ha kf_X11_262 dX11_wrong_2 (v := (G.1 a 39)) rfl (fun hz2 => ?_)
  refine xi_zeq (tgt := 12) hx hb (rfl : Int32.toInt (G.1 a 39) = ((G.1 a 39).toInt)) dX11_wrong_5 (by decide) (fun c5 => ?_) (fun c5 => ?_)
  · refine lv_aload_n hx hb dX11_wrong_12 rfl (lv_at hl 0 rfl) ?_
    refine gX11_38 S hK hT ha kf_X11_265 dX11_wrong_13 (v := (G.1 a 38)) rfl (?_)
    refine pX11_38 (v := (G.1 a 38)) S hK hT hS ha kf_X11_265 dX11_wrong_16 (fun H locs hT hS => ?_)
    obtain ⟨G16, hG16⟩ : ∃ GG : XG, GG = dput G a 38 (G.1 a 38) := ⟨_, rfl⟩
    rw [← hG16] at hT
    refine lv_aload_n hx hb dX11_wrong_19 rfl (lv_at hl 0 rfl) ?_
    refine lv_iconst (v := 0) hx hb dX11_wrong_20 (by decide) ?_
    refine pX11_39 (v := 0) S hK hT hS ha kf_X11_262 (Or.inl rfl) dX11_wrong_21 (fun H locs hT hS => ?_)
    obtain ⟨G21, hG21⟩ : ∃ GG : XG, GG = dput G16 a 39 0 := ⟨_, rfl⟩
    rw [← hG21] at hT
    exact x_rv hx hb hr hlk hQ (Nat.le_of_ble_eq_true rfl) (Nat.le_of_ble_eq_true rfl) hS dX11_wrong_24 G21 ⟨(by rw [hG21]; exact XFr.dput (by rw [hG16]; exact XFr.dput XFr.rf (List.mem_of_getElem? (i := 0) rfl)) (List.mem_of_getElem? (i := 1) rfl)), (by rw [(show (G21.1 a 39).toInt = (0 : Int) from (congrArg Int32.toInt (ld_at hG21)).trans ((by decide) : Int32.toInt 0 = (0 : Int))), (show (G21.1 a 38).toInt = ((G.1 a 38).toInt) from (congrArg Int32.toInt ((ld_j hG21 (by decide)).trans (ld_at hG16))).trans (rfl : Int32.toInt (G.1 a 38) = ((G.1 a 38).toInt)))] <;> exact (z_X11_wrong_1 p0.toInt ((G.1 a 38).toInt) ((G.1 a 39).toInt) c5))⟩ hT
  · refine lv_iload_n hx hb dX11_wrong_8 rfl (lv_at hl 1 rfl) ?_
    refine lv_goto (tgt := 16) hx hb dX11_wrong_9 (by decide) ?_
    refine pX11_38 (v := p0) S hK hT hS ha kf_X11_265 dX11_wrong_16 (fun H locs hT hS => ?_)
    obtain ⟨G16, hG16⟩ : ∃ GG : XG, GG = dput G a 38 p0 := ⟨_, rfl⟩
    rw [← hG16] at hT
    refine lv_aload_n hx hb dX11_wrong_19 rfl (lv_at hl 0 rfl) ?_
    refine lv_iconst (v := 0) hx hb dX11_wrong_20 (by decide) ?_
    refine pX11_39 (v := 0) S hK hT hS ha kf_X11_262 (Or.inl rfl) dX11_wrong_21 (fun H locs hT hS => ?_)
    obtain ⟨G21, hG21⟩ : ∃ GG : XG, GG = dput G16 a 39 0 := ⟨_, rfl⟩
    rw [← hG21] at hT
    exact x_rv hx hb hr hlk hQ (Nat.le_of_ble_eq_true rfl) (Nat.le_of_ble_eq_true rfl) hS dX11_wrong_24 G21 ⟨(by rw [hG21]; exact XFr.dput (by rw [hG16]; exact XFr.dput XFr.rf (List.mem_of_getElem? (i := 0) rfl)) (List.mem_of_getElem? (i := 1) rfl)), (by rw [(show (G21.1 a 39).toInt = (0 : Int) from (congrArg Int32.toInt (ld_at hG21)).trans ((by decide) : Int32.toInt 0 = (0 : Int))), (show (G21.1 a 38).toInt = p0.toInt from (congrArg Int32.toInt ((ld_j hG21 (by decide)).trans (ld_at hG16))).trans (rfl : Int32.toInt p0 = p0.toInt))] <;> exact (z_X11_wrong_2 p0.toInt ((G.1 a 38).toInt) ((G.1 a 39).toInt) c5))⟩ hT

theorem z_X11_isWord_3 (a0 : Int) (h0 : -2147483648 ≤ a0 ∧ a0 < 2147483648) : ¬ (2147483648 - a0 < ((0 : Nat) : Int)) := by omega
theorem z_X11_isWord_5 (a0 : Int) (a1 : Int) (a2 : Int) (a3 : Int) (h0 : 0 ≤ a2 ∧ a2 ≤ a1) (h1 : a2 ≤ a3) (h2 : a3 ≤ a0 ∧ a0 ≤ a1) : 0 ≤ a0 := by omega
theorem z_X11_isWord_7 (a0 : Int) (h0 : a0 = 0) : 0 ≤ a0 ∧ a0 ≤ 1 := by omega
theorem z_X11_isWord_8 (a0 : Int) (h0 : a0 = 0) : a0 = 0 ∨ a0 = 1 := by omega
theorem z_X11_isWord_16 (a0 : Int) (h0 : a0 = 0 ∨ a0 = 1) : 0 ≤ a0 ∧ a0 ≤ 1 := by omega
theorem z_X11_isWord_19 (a0 : Int) (a1 : Int) (a2 : Nat) (a3 : Int) (a4 : Int) (a5 : Int) (h0 : 0 ≤ a3 ∧ a3 ≤ 80) (h1 : 3 ≤ ((a2 : Nat) : Int) ∧ ((a2 : Nat) : Int) ≤ 7) (h2 : 0 ≤ a4 ∧ a4 ≤ a3) (h3 : a4 ≤ a5) (h4 : a5 ≤ a3) (h5 : 0 ≤ a0 ∧ a0 ≤ ((a2 : Nat) : Int)) (h6 : a1 = (a5 + a0) ∨ (a5 + a0) < -2147483648 ∨ 2147483648 ≤ (a5 + a0)) : a1 = (a5 + a0) := by omega
theorem z_X11_isWord_21 (a0 : Int) (a1 : Nat) (a2 : Int) (a3 : Int) (a4 : Int) (h0 : 0 ≤ a3 ∧ a3 ≤ a2) (h1 : a3 ≤ a4) (h2 : 0 ≤ a0 ∧ a0 ≤ ((a1 : Nat) : Int)) : 0 ≤ (a4 + a0) := by omega
theorem z_X11_isWord_22 (a0 : Int) (a1 : Int) (a2 : Nat) (h0 : 0 ≤ a0 ∧ a0 ≤ ((a2 : Nat) : Int)) (h1 : a1 = ((a2 : Nat) : Int)) (h2 : ¬ (a1 ≤ a0)) : 0 ≤ a0 ∧ a0 < ((a2 : Nat) : Int) := by omega
theorem z_X11_isWord_23 (a0 : Int) (a1 : Int) (a2 : Int) (a3 : Nat) (h0 : 0 ≤ a0 ∧ a0 ≤ ((a3 : Nat) : Int)) (h1 : ¬ (a1 ≤ a0)) (h2 : a2 = (a0 + 1) ∨ (a0 + 1) < -2147483648 ∨ 2147483648 ≤ (a0 + 1)) (h3 : -2147483648 ≤ a1 ∧ a1 < 2147483648) : a2 = (a0 + 1) := by omega
theorem z_X11_isWord_24 (a0 : Int) (a1 : Int) (a2 : Nat) (h0 : 0 ≤ a0 ∧ a0 ≤ ((a2 : Nat) : Int)) (h1 : a1 = ((a2 : Nat) : Int)) (h2 : ¬ (a1 ≤ a0)) : 0 ≤ (a0 + 1) ∧ (a0 + 1) ≤ ((a2 : Nat) : Int) := by omega
theorem z_X11_isWord_25 (a0 : Int) (a1 : Nat) (h0 : 0 ≤ a0 ∧ a0 ≤ ((a1 : Nat) : Int)) : (0 : Int) ≤ (a0 + 1) := by omega
theorem z_X11_isWord_26 (a0 : Int) (a1 : Nat) (h0 : 2147483648 - a0 < ((a1 + 1 : Nat) : Int)) : 2147483648 - (a0 + 1) < ((a1 : Nat) : Int) := by omega
theorem z_X11_isWord_31 (a0 : Nat) : 0 ≤ (0 : Int) ∧ (0 : Int) ≤ ((a0 : Nat) : Int) := by omega
theorem z_X11_isWord_32 (a0 : Int) (a1 : Int) (a2 : Int) (a3 : Int) (a4 : Int) (h0 : 0 ≤ a3 ∧ a3 ≤ a2) (h1 : a3 ≤ a4) (h2 : a4 ≤ a0 ∧ a0 ≤ a2) (h3 : a1 = (a0 - a4) ∨ (a0 - a4) < -2147483648 ∨ 2147483648 ≤ (a0 - a4)) (h4 : -2147483648 ≤ a0 ∧ a0 < 2147483648) : a1 = (a0 - a4) := by omega
theorem z_X11_isWord_50 (a0 : Int) (a1 : Int) (a2 : Int) (a3 : Int) (a4 : Nat) (h0 : a1 = ((a4 : Nat) : Int)) (h1 : 0 ≤ a0 ∧ a0 ≤ ((a4 : Nat) : Int)) (h2 : a2 = ((a4 : Nat) : Int)) (h3 : ¬ (a2 ≤ a0)) (h4 : a3 = (a0 + 1) ∨ (a0 + 1) < -2147483648 ∨ 2147483648 ≤ (a0 + 1)) (h5 : -2147483648 ≤ a1 ∧ a1 < 2147483648) : a3 = (a0 + 1) := by omega
theorem z_X11_isWord_72 (a0 : Int) (a1 : Int) (a2 : Int) (a3 : Int) (a4 : Nat) (a5 : Int) (a6 : Int) (a7 : Int) (h0 : 0 ≤ a5 ∧ a5 ≤ 80) (h1 : 0 ≤ a6 ∧ a6 ≤ a5) (h2 : a6 ≤ a7) (h3 : a7 ≤ a0 ∧ a0 ≤ a5) (h4 : a2 = ((a4 : Nat) : Int)) (h5 : ¬ ((a0 - a7) ≠ a2)) (h6 : 0 ≤ a1 ∧ a1 ≤ ((a4 : Nat) : Int)) (h7 : a3 = (a7 + a1) ∨ (a7 + a1) < -2147483648 ∨ 2147483648 ≤ (a7 + a1)) : a3 = (a7 + a1) := by omega
theorem z_X11_isWord_76 (a0 : Int) (a1 : Int) (a2 : Int) (a3 : Int) (a4 : Nat) (a5 : Int) (a6 : Int) (a7 : Int) (h0 : 0 ≤ a5 ∧ a5 ≤ 80) (h1 : 0 ≤ a6 ∧ a6 ≤ a5) (h2 : a6 ≤ a7) (h3 : a7 ≤ a0 ∧ a0 ≤ a5) (h4 : a2 = ((a4 : Nat) : Int)) (h5 : ¬ ((a0 - a7) ≠ a2)) (h6 : 0 ≤ a1 ∧ a1 ≤ ((a4 : Nat) : Int)) (h7 : a3 = (a1 + 1) ∨ (a1 + 1) < -2147483648 ∨ 2147483648 ≤ (a1 + 1)) : a3 = (a1 + 1) := by omega
theorem z_X11_isWord_85 (a0 : Int) (a1 : Int) (a2 : Int) (a3 : Int) (h0 : 0 ≤ a2 ∧ a2 ≤ 80) (h1 : a3 ≤ a0 ∧ a0 ≤ a2) (h2 : a1 = (a0 + 1) ∨ (a0 + 1) < -2147483648 ∨ 2147483648 ≤ (a0 + 1)) (h3 : -2147483648 ≤ a0 ∧ a0 < 2147483648) : a1 = (a0 + 1) := by omega
theorem z_X11_isWord_86 (a0 : Int) (a1 : Int) (a2 : Int) (a3 : Int) (a4 : Int) (a5 : Int) (h0 : a4 ≤ a0 ∧ a0 ≤ a3) (h1 : ((0 ≤ a0 ∧ a0 < a3) ∧ True) ∨ (¬ (0 ≤ a0 ∧ a0 < a3) ∧ a5 = 0)) (h2 : (0 ≤ a1 ∧ a5 = a1) ∨ (a1 < 0 ∧ a5 = a1 + 256)) (h3 : (a2 = 1 ∧ 97 ≤ a1 ∧ a1 ≤ 122) ∨ (a2 = 0 ∧ (a1 < 97 ∨ 122 < a1))) (h4 : ¬ (a2 = 0)) : a4 ≤ (a0 + 1) ∧ (a0 + 1) ≤ a3 := by omega
theorem z_X11_isWord_88 (a0 : Int) (a1 : Int) (h0 : a1 ≤ a0) : a1 ≤ a1 ∧ a1 ≤ a0 := by omega
theorem z_X11_isWord_89 (a0 : Int) (h0 : -2147483648 ≤ a0 ∧ a0 < 2147483648) : 2147483648 - a0 < ((4294967297 : Nat) : Int) := by omega
abbrev rm_X11_isWord : Room := { frames := 2, cells := 0, slots := 0, locals := 45 }
set_option maxHeartbeats 4000000 in
set_option maxRecDepth 100000 in
theorem c_X11_isWord (l : Launch) (E : XE) (K : Nat → Nat) (F : Nat → Nat → Nat) (G : XG) (a : Nat) (p0 : Nat) (n0 : Nat) (r1 : RSt) (r2 : List Int) (ha : K a = 13) (hp0 : XWd K p0 n0) (nt0 : 0 ≤ ((G.1 a 36).toInt) ∧ ((G.1 a 36).toInt) ≤ 80) (hrm : RdM (tM (G.2.1 (F a 35)) ((G.1 a 36).toInt)) ((G.1 a 36).toInt) r1 ((G.1 a 39).toInt) ((G.1 a 37).toInt) ((G.1 a 38).toInt)) (hwd : r2.length = n0 ∧ ∀ i : Nat, i < n0 → aI (G.2.1 p0) (i : Int) = r2.getD i 0 ∧ 0 ≤ r2.getD i 0 ∧ r2.getD i 0 ≤ 127) : Met l yX11_isWord (xw yX11_isWord cX11_isWord 5 (some .boolean)) rm_X11_isWord (va_Pc [.ref a, .ref p0] (XP E K F G)) (XQ E (fun v (u : XG) => ∃ r : Int32, v = .int r ∧ (r = 0 ∨ r = 1) ∧ XFr [(a, 37)] [] [] G u ∧ (0 ≤ r.toInt ∧ r.toInt ≤ 1) ∧ (r.toInt = (tkW (tM (G.2.1 (F a 35)) ((G.1 a 36).toInt)) r2 r1).1) ∧ (RdM (tM (G.2.1 (F a 35)) ((G.1 a 36).toInt)) ((G.1 a 36).toInt) (tkW (tM (G.2.1 (F a 35)) ((G.1 a 36).toInt)) r2 r1).2 ((u.1 a 39).toInt) ((u.1 a 37).toInt) ((u.1 a 38).toInt))) (fun u H => TW E K F u H)) 0 0 (xA E) := by
  refine x_enter (by decide) (Nat.le_of_ble_eq_true rfl) ?_
  intro p e s m args below meth c Q S hr hlk hnm hQ hP ls hl
  obtain ⟨hz, hK, hT⟩ := hP
  obtain ⟨hx, hb, -, -, -⟩ := id S
  obtain ⟨H, hT, hS, hgo⟩ : ∃ H : Heap, TW E K F G H ∧ va_S (xA E) s.heap H [] ∧ H = s.heap := ⟨_, hT, va_S.rf, rfl⟩
  rw [← hgo]
  have hl : lv_has ls 5 [(0, .ref a), (1, .ref p0)] := hl
  obtain ⟨hk9999, hj9999⟩ := fkX11_35 hT ha
  have z0 : 0 ≤ ((G.1 a 37).toInt) ∧ ((G.1 a 37).toInt) ≤ ((G.1 a 36).toInt) := hrm.2.2.2.2.1
  refine lv_aload_n hx hb dX11_isWord_0 rfl (lv_at hl 0 rfl) ?_
  refine x_cl0 (x_runV (b := a) (As := []) (rest := []) S (c_X11_next l E K F G a ha (nt0) (z0)) mv_X11_next km_X11_268 rfl rfl ⟨Nat.le_of_ble_eq_true rfl, Nat.le_of_ble_eq_true rfl⟩ (rc_13 hK hT ha) hK (fun _ => XP.blind) (fun U hU hW => XP.at hK hz hS hT hU hW) rfl hl.1 (Nat.le_of_ble_eq_true rfl) dX11_isWord_1 ⟨Nat.le_of_ble_eq_true rfl, Nat.le_of_ble_eq_true rfl⟩) hS ?_
  rintro _ G1 H locs ⟨x1, rfl, hF1, t1, oq1⟩ hT hS
  have t1 : -128 ≤ x1.toInt ∧ x1.toInt ≤ 127 ∧ ((0 ≤ x1.toInt ∧ (tM (G.2.1 (F a 35)) ((G.1 a 36).toInt) ((G1.1 a 37).toInt)) = x1.toInt) ∨ (x1.toInt < 0 ∧ (tM (G.2.1 (F a 35)) ((G.1 a 36).toInt) ((G1.1 a 37).toInt)) = x1.toInt + 256)) ∧ ((G.1 a 37).toInt) ≤ ((G1.1 a 37).toInt) ∧ ((G1.1 a 37).toInt) ≤ ((G.1 a 36).toInt) := t1
  refine lv_pop hx hb dX11_isWord_4 rfl ?_
  refine lv_aload_n hx hb dX11_isWord_5 rfl (lv_at hl 0 rfl) ?_
  refine gX11_37 S hK hT ha kf_X11_256 dX11_isWord_6 (v := (G1.1 a 37)) rfl (?_)
  refine lv_istore_n (lv' := [(2, .int (G1.1 a 37)), (0, .ref a), (1, .ref p0)]) hx hb dX11_isWord_9 rfl hl (by decide) rfl (fun ls hl => ?_)
  have L10 : ∀ (N10 : Nat) (l2_10 : Int32) (H : Heap) (locs : List Loc) (ls : Array Slot), (∀ j : Int, (G1.1 a 37).toInt ≤ j → j < l2_10.toInt → cLt ((tM (G.2.1 (F a 35)) ((G.1 a 36).toInt)) j)) → ((G1.1 a 37).toInt) ≤ l2_10.toInt ∧ l2_10.toInt ≤ ((G.1 a 36).toInt) → 2147483648 - l2_10.toInt < ((N10 : Nat) : Int) → TW E K F G1 H → va_S (xA E) s.heap H locs → lv_has ls 5 [(0, .ref a), (1, .ref p0), (2, .int l2_10)] → W p l e rm_X11_isWord s m args below meth c H locs 0 0 Q (F0 m 10 ls []) := by
    intro N10
    induction N10 with
    | zero =>
      intro l2_10 H locs ls pl I10_0 hm10
      exact absurd hm10 (z_X11_isWord_3 l2_10.toInt (xr l2_10))
    | succ N10 ih10 =>
      intro l2_10 H locs ls pl I10_0 hm10 hT hS hl
      have z10 : ((0 ≤ l2_10.toInt ∧ l2_10.toInt < ((G.1 a 36).toInt)) ∧ True) ∨ (¬ (0 ≤ l2_10.toInt ∧ l2_10.toInt < ((G.1 a 36).toInt)) ∧ (tM (G.2.1 (F a 35)) ((G.1 a 36).toInt) (l2_10.toInt)) = 0) := (tM_f _ _ _).imp (fun h => ⟨h.1, trivial⟩) id
      refine lv_aload_n hx hb dX11_isWord_10 rfl (lv_at hl 0 rfl) ?_
      refine lv_iload_n hx hb dX11_isWord_11 rfl (lv_at hl 2 rfl) ?_
      refine x_clp (x_runV (b := a) (As := [.int l2_10]) (rest := []) S (c_X11_signAt l E K F G1 H a l2_10 ha (by rw [(show (G1.1 a 36).toInt = ((G.1 a 36).toInt) from (congrArg Int32.toInt (hF1.1 _ _ (xnj (by decide) xn0))).trans (rfl : Int32.toInt (G.1 a 36) = ((G.1 a 36).toInt)))] <;> exact (nt0)) (z_X11_isWord_5 l2_10.toInt ((G.1 a 36).toInt) ((G.1 a 37).toInt) ((G1.1 a 37).toInt) z0 (t1).2.2.2.1 I10_0)) mv_X11_signAt km_X11_259 rfl rfl ⟨Nat.le_of_ble_eq_true rfl, Nat.le_of_ble_eq_true rfl⟩ (rc_13 hK hT ha) hK (fun _ => XPh.blind) (fun U hU hW => XPh.at hK hz hS hT hU hW) rfl hl.1 (Nat.le_of_ble_eq_true rfl) dX11_isWord_12 ⟨Nat.le_of_ble_eq_true rfl, Nat.le_of_ble_eq_true rfl⟩) hS ?_
      rintro _ _ locs ⟨x12, rfl, t12⟩ hS
      have t12 : -128 ≤ x12.toInt ∧ x12.toInt ≤ 127 ∧ ((0 ≤ x12.toInt ∧ (tM (G.2.1 (F a 35)) ((G.1 a 36).toInt) (l2_10.toInt)) = x12.toInt) ∨ (x12.toInt < 0 ∧ (tM (G.2.1 (F a 35)) ((G.1 a 36).toInt) (l2_10.toInt)) = x12.toInt + 256)) := by rw [(show G1.2.1 (F a 35) = G.2.1 (F a 35) from (hF1.2.1 _ xn0))] at t12; rw [(show (G1.1 a 36).toInt = ((G.1 a 36).toInt) from (congrArg Int32.toInt (hF1.1 _ _ (xnj (by decide) xn0))).trans (rfl : Int32.toInt (G.1 a 36) = ((G.1 a 36).toInt)))] at t12; exact t12
      refine x_clp (x_runS (As := [.int x12]) (rest := []) S (c_X11_isLetter l E K F G1 H x12) ms_X11_isLetter km_X11_272 rfl rfl ⟨Nat.le_of_ble_eq_true rfl, Nat.le_of_ble_eq_true rfl⟩ hK (fun _ => XPh.blind) (fun U hU hW => XPh.at hK hz hS hT hU hW) rfl hl.1 (Nat.le_of_ble_eq_true rfl) dX11_isWord_15 ⟨Nat.le_of_ble_eq_true rfl, Nat.le_of_ble_eq_true rfl⟩) hS ?_
      rintro _ _ locs ⟨x15, rfl, b15, t15⟩ hS
      have t15 : (x15.toInt = 1 ∧ 97 ≤ x12.toInt ∧ x12.toInt ≤ 122) ∨ (x15.toInt = 0 ∧ (x12.toInt < 97 ∨ 122 < x12.toInt)) := t15
      refine xi_zeq (tgt := 27) hx hb (rfl : Int32.toInt x15 = x15.toInt) dX11_isWord_18 (by decide) (fun c18 => ?_) (fun c18 => ?_)
      · refine lv_aload_n hx hb dX11_isWord_27 rfl (lv_at hl 0 rfl) ?_
        refine gX11_39 S hK hT ha kf_X11_262 dX11_isWord_28 (v := (G.1 a 39)) (hF1.1 _ _ (xnj (by decide) xn0)) (fun hz28 => ?_)
        refine xi_zeq (tgt := 49) hx hb (rfl : Int32.toInt (G.1 a 39) = ((G.1 a 39).toInt)) dX11_isWord_31 (by decide) (fun c31 => ?_) (fun c31 => ?_)
        · refine lv_iconst (v := 0) hx hb dX11_isWord_49 (by decide) ?_
          refine lv_istore_n (lv' := [(3, .int 0), (0, .ref a), (1, .ref p0), (2, .int l2_10)]) hx hb dX11_isWord_50 rfl hl (by decide) rfl (fun ls hl => ?_)
          refine lv_iconst (v := 0) hx hb dX11_isWord_51 (by decide) ?_
          refine lv_istore (lv' := [(4, .int 0), (3, .int 0), (0, .ref a), (1, .ref p0), (2, .int l2_10)]) hx hb dX11_isWord_52 hl (by decide) rfl (fun ls hl => ?_)
          have L54 : ∀ (N54 : Nat) (l3_54 : Int32) (l4_54 : Int32) (H : Heap) (locs : List Loc) (ls : Array Slot), ((l3_54.toInt = 1 → ((G.1 a 39).toInt ≠ 0 ∧ l2_10.toInt - (G1.1 a 37).toInt = (n0 : Int) ∧ ∀ i : Nat, (i : Int) < l4_54.toInt → (tM (G.2.1 (F a 35)) ((G.1 a 36).toInt)) ((G1.1 a 37).toInt + (i : Int)) = r2.getD i 0)) ∧ (l3_54.toInt = 0 → ¬ (r1.1 = 1 ∧ wOk (tM (G.2.1 (F a 35)) ((G.1 a 36).toInt)) r1.2 r2))) → 0 ≤ l4_54.toInt ∧ l4_54.toInt ≤ (((n0) : Nat) : Int) → l3_54.toInt = 0 ∨ l3_54.toInt = 1 → (0 : Int) ≤ l4_54.toInt → 2147483648 - l4_54.toInt < ((N54 : Nat) : Int) → TW E K F G1 H → va_S (xA E) s.heap H locs → lv_has ls 5 [(0, .ref a), (1, .ref p0), (2, .int l2_10), (3, .int l3_54), (4, .int l4_54)] → W p l e rm_X11_isWord s m args below meth c H locs 0 0 Q (F0 m 54 ls []) := by
            intro N54
            induction N54 with
            | zero =>
              intro l3_54 l4_54 H locs ls pw I54_0 I54_1 I54_2 hm54
              exact absurd hm54 (z_X11_isWord_3 l4_54.toInt (xr l4_54))
            | succ N54 ih54 =>
              intro l3_54 l4_54 H locs ls pw I54_0 I54_1 I54_2 hm54 hT hS hl
              refine lv_iload_n hx hb dX11_isWord_54 rfl (lv_at hl 3 rfl) ?_
              refine xi_zeq (tgt := 95) hx hb (rfl : Int32.toInt l3_54 = l3_54.toInt) dX11_isWord_55 (by decide) (fun c55 => ?_) (fun c55 => ?_)
              · refine lv_aload_n hx hb dX11_isWord_95 rfl (lv_at hl 0 rfl) ?_
                refine lv_iload_n hx hb dX11_isWord_96 rfl (lv_at hl 3 rfl) ?_
                refine xi_zeq (tgt := 104) hx hb (rfl : Int32.toInt l3_54 = l3_54.toInt) dX11_isWord_97 (by decide) (fun c97 => ?_) (fun c97 => ?_)
                · refine lv_aload_n hx hb dX11_isWord_104 rfl (lv_at hl 0 rfl) ?_
                  refine gX11_37 S hK hT ha kf_X11_256 dX11_isWord_105 (v := (G1.1 a 37)) rfl (?_)
                  refine pX11_37 (v := (G1.1 a 37)) S hK hT hS ha kf_X11_256 dX11_isWord_108 (fun H locs hT hS => ?_)
                  obtain ⟨G108, hG108⟩ : ∃ GG : XG, GG = dput G1 a 37 (G1.1 a 37) := ⟨_, rfl⟩
                  rw [← hG108] at hT
                  refine lv_iload_n hx hb dX11_isWord_111 rfl (lv_at hl 3 rfl) ?_
                  exact x_rz hx hb hr (xnz (x01 (z_X11_isWord_8 l3_54.toInt c55))) hlk hQ (Nat.le_of_ble_eq_true rfl) (Nat.le_of_ble_eq_true rfl) hS dX11_isWord_112 G108 ⟨_, rfl, (x01 (z_X11_isWord_8 l3_54.toInt c55)), (by rw [hG108]; exact XFr.dput (XFr.call XFr.rf hF1 (xm1 0 rfl xm0) xm0 xm0) (List.mem_of_getElem? (i := 0) rfl)), (z_X11_isWord_7 l3_54.toInt c55), (v_X11_isWord_112_1 (K := K) (F := F) a G G1 r1 r2 n0 p0 l2_10 l3_54 l4_54 x1 N10 x12 x15 N54 ha hrm hwd oq1 pl pw nt0 (XWd.lim hp0) z0 t1 I10_0 hm10 z10 t12 t15 c18 (xzi hz28) c31 I54_0 I54_1 I54_2 hm54 c55), (v_X11_isWord_112_2 (K := K) (F := F) a G G1 G108 r1 r2 n0 p0 l2_10 l3_54 l4_54 x1 N10 x12 x15 N54 ha hrm hwd oq1 pl pw nt0 (XWd.lim hp0) z0 t1 I10_0 hm10 z10 t12 t15 c18 (xzi hz28) c31 I54_0 I54_1 I54_2 hm54 c55 (ld_at hG108) ((ld_j hG108 (by decide)).trans (hF1.1 _ _ (xnj (by decide) xn0))) ((ld_j hG108 (by decide)).trans (hF1.1 _ _ (xnj (by decide) xn0))))⟩ hT
                · refine lv_iload_n hx hb dX11_isWord_100 rfl (lv_at hl 2 rfl) ?_
                  refine lv_goto (tgt := 108) hx hb dX11_isWord_101 (by decide) ?_
                  refine pX11_37 (v := l2_10) S hK hT hS ha kf_X11_256 dX11_isWord_108 (fun H locs hT hS => ?_)
                  obtain ⟨G108, hG108⟩ : ∃ GG : XG, GG = dput G1 a 37 l2_10 := ⟨_, rfl⟩
                  rw [← hG108] at hT
                  refine lv_iload_n hx hb dX11_isWord_111 rfl (lv_at hl 3 rfl) ?_
                  exact x_rz hx hb hr (xnz (x01 (z_X11_isWord_8 l3_54.toInt c55))) hlk hQ (Nat.le_of_ble_eq_true rfl) (Nat.le_of_ble_eq_true rfl) hS dX11_isWord_112 G108 ⟨_, rfl, (x01 (z_X11_isWord_8 l3_54.toInt c55)), (by rw [hG108]; exact XFr.dput (XFr.call XFr.rf hF1 (xm1 0 rfl xm0) xm0 xm0) (List.mem_of_getElem? (i := 0) rfl)), (z_X11_isWord_7 l3_54.toInt c55), (v_X11_isWord_112_3 (K := K) (F := F) a G G1 l2_10 r1 r2 n0 p0 l3_54 l4_54 x1 N10 x12 x15 N54 ha hrm hwd oq1 pl pw nt0 (XWd.lim hp0) z0 t1 I10_0 hm10 z10 t12 t15 c18 (xzi hz28) c31 I54_0 I54_1 I54_2 hm54 c55 c97), (v_X11_isWord_112_4 (K := K) (F := F) a G G1 G108 l2_10 r1 r2 n0 p0 l3_54 l4_54 x1 N10 x12 x15 N54 ha hrm hwd oq1 pl pw nt0 (XWd.lim hp0) z0 t1 I10_0 hm10 z10 t12 t15 c18 (xzi hz28) c31 I54_0 I54_1 I54_2 hm54 c55 c97 (ld_at hG108) ((ld_j hG108 (by decide)).trans (hF1.1 _ _ (xnj (by decide) xn0))) ((ld_j hG108 (by decide)).trans (hF1.1 _ _ (xnj (by decide) xn0))))⟩ hT
              · refine lv_iload hx hb dX11_isWord_58 (lv_at hl 4 rfl) ?_
                refine lv_aload_n hx hb dX11_isWord_60 rfl (lv_at hl 1 rfl) ?_
                refine len_wd S hK hT hp0 dX11_isWord_61 (fun x61 t61 => ?_)
                refine xi_cge (tgt := 95) hx hb (rfl : Int32.toInt l4_54 = l4_54.toInt) (rfl : Int32.toInt x61 = x61.toInt) dX11_isWord_62 (by decide) (fun c62 => ?_) (fun c62 => ?_)
                · refine lv_aload_n hx hb dX11_isWord_95 rfl (lv_at hl 0 rfl) ?_
                  refine lv_iload_n hx hb dX11_isWord_96 rfl (lv_at hl 3 rfl) ?_
                  refine xi_zeq (tgt := 104) hx hb (rfl : Int32.toInt l3_54 = l3_54.toInt) dX11_isWord_97 (by decide) (fun c97 => ?_) (fun c97 => ?_)
                  · refine lv_aload_n hx hb dX11_isWord_104 rfl (lv_at hl 0 rfl) ?_
                    refine gX11_37 S hK hT ha kf_X11_256 dX11_isWord_105 (v := (G1.1 a 37)) rfl (?_)
                    refine pX11_37 (v := (G1.1 a 37)) S hK hT hS ha kf_X11_256 dX11_isWord_108 (fun H locs hT hS => ?_)
                    obtain ⟨G108, hG108⟩ : ∃ GG : XG, GG = dput G1 a 37 (G1.1 a 37) := ⟨_, rfl⟩
                    rw [← hG108] at hT
                    refine lv_iload_n hx hb dX11_isWord_111 rfl (lv_at hl 3 rfl) ?_
                    exact x_rz hx hb hr (xnz (x01 (z_X11_isWord_8 l3_54.toInt c97))) hlk hQ (Nat.le_of_ble_eq_true rfl) (Nat.le_of_ble_eq_true rfl) hS dX11_isWord_112 G108 ⟨_, rfl, (x01 (z_X11_isWord_8 l3_54.toInt c97)), (by rw [hG108]; exact XFr.dput (XFr.call XFr.rf hF1 (xm1 0 rfl xm0) xm0 xm0) (List.mem_of_getElem? (i := 0) rfl)), (z_X11_isWord_7 l3_54.toInt c97), (v_X11_isWord_112_5 (K := K) (F := F) a G G1 r1 r2 n0 p0 l2_10 l3_54 l4_54 x1 N10 x12 x15 N54 x61 ha hrm hwd oq1 pl pw nt0 (XWd.lim hp0) z0 t1 I10_0 hm10 z10 t12 t15 c18 (xzi hz28) c31 I54_0 I54_1 I54_2 hm54 c55 t61 c62 c97), (v_X11_isWord_112_6 (K := K) (F := F) a G G1 G108 r1 r2 n0 p0 l2_10 l3_54 l4_54 x1 N10 x12 x15 N54 x61 ha hrm hwd oq1 pl pw nt0 (XWd.lim hp0) z0 t1 I10_0 hm10 z10 t12 t15 c18 (xzi hz28) c31 I54_0 I54_1 I54_2 hm54 c55 t61 c62 c97 (ld_at hG108) ((ld_j hG108 (by decide)).trans (hF1.1 _ _ (xnj (by decide) xn0))) ((ld_j hG108 (by decide)).trans (hF1.1 _ _ (xnj (by decide) xn0))))⟩ hT
                  · refine lv_iload_n hx hb dX11_isWord_100 rfl (lv_at hl 2 rfl) ?_
                    refine lv_goto (tgt := 108) hx hb dX11_isWord_101 (by decide) ?_
                    refine pX11_37 (v := l2_10) S hK hT hS ha kf_X11_256 dX11_isWord_108 (fun H locs hT hS => ?_)
                    obtain ⟨G108, hG108⟩ : ∃ GG : XG, GG = dput G1 a 37 l2_10 := ⟨_, rfl⟩
                    rw [← hG108] at hT
                    refine lv_iload_n hx hb dX11_isWord_111 rfl (lv_at hl 3 rfl) ?_
                    exact x_rz hx hb hr (xnz (x01 (I54_1))) hlk hQ (Nat.le_of_ble_eq_true rfl) (Nat.le_of_ble_eq_true rfl) hS dX11_isWord_112 G108 ⟨_, rfl, (x01 (I54_1)), (by rw [hG108]; exact XFr.dput (XFr.call XFr.rf hF1 (xm1 0 rfl xm0) xm0 xm0) (List.mem_of_getElem? (i := 0) rfl)), (z_X11_isWord_16 l3_54.toInt I54_1), (v_X11_isWord_112_7 (K := K) (F := F) a G G1 l2_10 r1 r2 n0 p0 l3_54 l4_54 x1 N10 x12 x15 N54 x61 ha hrm hwd oq1 pl pw nt0 (XWd.lim hp0) z0 t1 I10_0 hm10 z10 t12 t15 c18 (xzi hz28) c31 I54_0 I54_1 I54_2 hm54 c55 t61 c62), (v_X11_isWord_112_8 (K := K) (F := F) a G G1 G108 l2_10 r1 r2 n0 p0 l3_54 l4_54 x1 N10 x12 x15 N54 x61 ha hrm hwd oq1 pl pw nt0 (XWd.lim hp0) z0 t1 I10_0 hm10 z10 t12 t15 c18 (xzi hz28) c31 I54_0 I54_1 I54_2 hm54 c55 t61 c62 (ld_at hG108) ((ld_j hG108 (by decide)).trans (hF1.1 _ _ (xnj (by decide) xn0))) ((ld_j hG108 (by decide)).trans (hF1.1 _ _ (xnj (by decide) xn0))))⟩ hT
                · refine lv_aload_n hx hb dX11_isWord_65 rfl (lv_at hl 0 rfl) ?_
                  refine lv_aload_n hx hb dX11_isWord_66 rfl (lv_at hl 0 rfl) ?_
                  refine gX11_37 S hK hT ha kf_X11_256 dX11_isWord_67 (v := (G1.1 a 37)) rfl (?_)
                  refine lv_iload hx hb dX11_isWord_70 (lv_at hl 4 rfl) ?_
                  refine xi_iadd hx hb (rfl : Int32.toInt (G1.1 a 37) = ((G1.1 a 37).toInt)) (rfl : Int32.toInt l4_54 = l4_54.toInt) dX11_isWord_72 (fun x72 t72 => ?_)
                  have e72 : x72.toInt = (((G1.1 a 37).toInt) + l4_54.toInt) := (z_X11_isWord_19 l4_54.toInt x72.toInt n0 ((G.1 a 36).toInt) ((G.1 a 37).toInt) ((G1.1 a 37).toInt) nt0 (XWd.lim hp0) z0 (t1).2.2.2.1 (t1).2.2.2.2 I54_0 t72)
                  refine x_clp (x_runV (b := a) (As := [.int x72]) (rest := []) S (c_X11_signAt l E K F G1 H a x72 ha (by rw [(show (G1.1 a 36).toInt = ((G.1 a 36).toInt) from (congrArg Int32.toInt (hF1.1 _ _ (xnj (by decide) xn0))).trans (rfl : Int32.toInt (G.1 a 36) = ((G.1 a 36).toInt)))] <;> exact (nt0)) (by rw [(e72 : Int32.toInt x72 = (((G1.1 a 37).toInt) + l4_54.toInt))] <;> exact (z_X11_isWord_21 l4_54.toInt n0 ((G.1 a 36).toInt) ((G.1 a 37).toInt) ((G1.1 a 37).toInt) z0 (t1).2.2.2.1 I54_0))) mv_X11_signAt km_X11_259 rfl rfl ⟨Nat.le_of_ble_eq_true rfl, Nat.le_of_ble_eq_true rfl⟩ (rc_13 hK hT ha) hK (fun _ => XPh.blind) (fun U hU hW => XPh.at hK hz hS hT hU hW) rfl hl.1 (Nat.le_of_ble_eq_true rfl) dX11_isWord_73 ⟨Nat.le_of_ble_eq_true rfl, Nat.le_of_ble_eq_true rfl⟩) hS ?_
                  rintro _ _ locs ⟨x73, rfl, t73⟩ hS
                  have t73 : -128 ≤ x73.toInt ∧ x73.toInt ≤ 127 ∧ ((0 ≤ x73.toInt ∧ (tM (G.2.1 (F a 35)) ((G.1 a 36).toInt) (((G1.1 a 37).toInt) + l4_54.toInt)) = x73.toInt) ∨ (x73.toInt < 0 ∧ (tM (G.2.1 (F a 35)) ((G.1 a 36).toInt) (((G1.1 a 37).toInt) + l4_54.toInt)) = x73.toInt + 256)) := by rw [(e72 : Int32.toInt x72 = (((G1.1 a 37).toInt) + l4_54.toInt))] at t73; rw [(show G1.2.1 (F a 35) = G.2.1 (F a 35) from (hF1.2.1 _ xn0))] at t73; rw [(show (G1.1 a 36).toInt = ((G.1 a 36).toInt) from (congrArg Int32.toInt (hF1.1 _ _ (xnj (by decide) xn0))).trans (rfl : Int32.toInt (G.1 a 36) = ((G.1 a 36).toInt)))] at t73; exact t73
                  refine lv_aload_n hx hb dX11_isWord_76 rfl (lv_at hl 1 rfl) ?_
                  refine lv_iload hx hb dX11_isWord_77 (lv_at hl 4 rfl) ?_
                  refine ald_wd S hK hT hp0 (z_X11_isWord_22 l4_54.toInt x61.toInt n0 I54_0 t61 c62) dX11_isWord_79 (fun x79 hv79 o79 => ?_)
                  have hv79 : x79.toInt = (aI (G.2.1 p0) (l4_54.toInt)) := hv79.trans (by rw [((hF1.2.1 _ xn0) : G1.2.1 p0 = G.2.1 p0)])
                  refine xi_cne (tgt := 87) hx hb (rfl : Int32.toInt x73 = x73.toInt) (rfl : Int32.toInt x79 = x79.toInt) dX11_isWord_80 (by decide) (fun c80 => ?_) (fun c80 => ?_)
                  · refine lv_iconst (v := 0) hx hb dX11_isWord_87 (by decide) ?_
                    refine lv_istore_n (lv' := [(3, .int 0), (0, .ref a), (1, .ref p0), (2, .int l2_10), (4, .int l4_54)]) hx hb dX11_isWord_88 rfl hl (by decide) rfl (fun ls hl => ?_)
                    refine xi_iinc (n := 1) (lv' := fun z9 => [(4, .int z9), (3, .int 0), (0, .ref a), (1, .ref p0), (2, .int l2_10)]) (k := 4) hx hb (rfl : Int32.toInt l4_54 = l4_54.toInt) (by decide) dX11_isWord_89 hl rfl (by decide) (fun _ => rfl) (fun x89 ls t89 hl => ?_)
                    have e89 : x89.toInt = (l4_54.toInt + 1) := (z_X11_isWord_23 l4_54.toInt x61.toInt x89.toInt n0 I54_0 c62 t89 (xr x61))
                    have hl : lv_has ls 5 [(4, .int x89), (3, .int 0), (0, .ref a), (1, .ref p0), (2, .int l2_10)] := hl
                    refine lv_goto (tgt := 54) hx hb dX11_isWord_92 (by decide) ?_
                    exact ih54 0 x89 _ _ _ (by rw [(e89 : Int32.toInt x89 = (l4_54.toInt + 1))] <;> exact (v_X11_isWord_92_9 (K := K) (F := F) a G G1 r1 r2 n0 p0 l2_10 l3_54 l4_54 x1 N10 x12 x15 N54 x61 x73 x79 ha hrm hwd oq1 pl pw nt0 (XWd.lim hp0) z0 t1 I10_0 hm10 z10 t12 t15 c18 (xzi hz28) c31 I54_0 I54_1 I54_2 hm54 c55 t61 c62 t73 hv79 c80)) (by rw [(e89 : Int32.toInt x89 = (l4_54.toInt + 1))] <;> exact (z_X11_isWord_24 l4_54.toInt x61.toInt n0 I54_0 t61 c62)) (by decide) (by rw [(e89 : Int32.toInt x89 = (l4_54.toInt + 1))] <;> exact (z_X11_isWord_25 l4_54.toInt n0 I54_0)) (by rw [(e89 : Int32.toInt x89 = (l4_54.toInt + 1))] <;> exact (z_X11_isWord_26 l4_54.toInt N54 hm54)) hT hS (lv_sub hl [2, 3, 4, 1, 0] rfl)
                  · refine lv_iconst (v := 1) hx hb dX11_isWord_83 (by decide) ?_
                    refine lv_goto (tgt := 88) hx hb dX11_isWord_84 (by decide) ?_
                    refine lv_istore_n (lv' := [(3, .int 1), (0, .ref a), (1, .ref p0), (2, .int l2_10), (4, .int l4_54)]) hx hb dX11_isWord_88 rfl hl (by decide) rfl (fun ls hl => ?_)
                    refine xi_iinc (n := 1) (lv' := fun z9 => [(4, .int z9), (3, .int 1), (0, .ref a), (1, .ref p0), (2, .int l2_10)]) (k := 4) hx hb (rfl : Int32.toInt l4_54 = l4_54.toInt) (by decide) dX11_isWord_89 hl rfl (by decide) (fun _ => rfl) (fun x89 ls t89 hl => ?_)
                    have e89 : x89.toInt = (l4_54.toInt + 1) := (z_X11_isWord_23 l4_54.toInt x61.toInt x89.toInt n0 I54_0 c62 t89 (xr x61))
                    have hl : lv_has ls 5 [(4, .int x89), (3, .int 1), (0, .ref a), (1, .ref p0), (2, .int l2_10)] := hl
                    refine lv_goto (tgt := 54) hx hb dX11_isWord_92 (by decide) ?_
                    exact ih54 1 x89 _ _ _ (by rw [(e89 : Int32.toInt x89 = (l4_54.toInt + 1))] <;> exact (v_X11_isWord_92_10 (K := K) (F := F) a G G1 r1 r2 n0 p0 l2_10 l3_54 l4_54 x1 N10 x12 x15 N54 x61 x73 x79 ha hrm hwd oq1 pl pw nt0 (XWd.lim hp0) z0 t1 I10_0 hm10 z10 t12 t15 c18 (xzi hz28) c31 I54_0 I54_1 I54_2 hm54 c55 t61 c62 t73 hv79 c80)) (by rw [(e89 : Int32.toInt x89 = (l4_54.toInt + 1))] <;> exact (z_X11_isWord_24 l4_54.toInt x61.toInt n0 I54_0 t61 c62)) (by decide) (by rw [(e89 : Int32.toInt x89 = (l4_54.toInt + 1))] <;> exact (z_X11_isWord_25 l4_54.toInt n0 I54_0)) (by rw [(e89 : Int32.toInt x89 = (l4_54.toInt + 1))] <;> exact (z_X11_isWord_26 l4_54.toInt N54 hm54)) hT hS (lv_sub hl [2, 3, 4, 1, 0] rfl)
          exact L54 4294967297 0 0 _ _ _ (v_X11_isWord_52_11 (K := K) (F := F) a G G1 r1 r2 n0 p0 l2_10 x1 N10 x12 x15 ha hrm hwd oq1 pl nt0 (XWd.lim hp0) z0 t1 I10_0 hm10 z10 t12 t15 c18 (xzi hz28) c31) (z_X11_isWord_31 n0) (by decide) (by decide) (by decide) hT hS (lv_sub hl [2, 3, 4, 1, 0] rfl)
        · refine lv_iload_n hx hb dX11_isWord_34 rfl (lv_at hl 2 rfl) ?_
          refine lv_aload_n hx hb dX11_isWord_35 rfl (lv_at hl 0 rfl) ?_
          refine gX11_37 S hK hT ha kf_X11_256 dX11_isWord_36 (v := (G1.1 a 37)) rfl (?_)
          refine xi_isub hx hb (rfl : Int32.toInt l2_10 = l2_10.toInt) (rfl : Int32.toInt (G1.1 a 37) = ((G1.1 a 37).toInt)) dX11_isWord_39 (fun x39 t39 => ?_)
          have e39 : x39.toInt = (l2_10.toInt - ((G1.1 a 37).toInt)) := (z_X11_isWord_32 l2_10.toInt x39.toInt ((G.1 a 36).toInt) ((G.1 a 37).toInt) ((G1.1 a 37).toInt) z0 (t1).2.2.2.1 I10_0 t39 (xr l2_10))
          refine lv_aload_n hx hb dX11_isWord_40 rfl (lv_at hl 1 rfl) ?_
          refine len_wd S hK hT hp0 dX11_isWord_41 (fun x41 t41 => ?_)
          refine xi_cne (tgt := 49) hx hb (e39 : Int32.toInt x39 = (l2_10.toInt - ((G1.1 a 37).toInt))) (rfl : Int32.toInt x41 = x41.toInt) dX11_isWord_42 (by decide) (fun c42 => ?_) (fun c42 => ?_)
          · refine lv_iconst (v := 0) hx hb dX11_isWord_49 (by decide) ?_
            refine lv_istore_n (lv' := [(3, .int 0), (0, .ref a), (1, .ref p0), (2, .int l2_10)]) hx hb dX11_isWord_50 rfl hl (by decide) rfl (fun ls hl => ?_)
            refine lv_iconst (v := 0) hx hb dX11_isWord_51 (by decide) ?_
            refine lv_istore (lv' := [(4, .int 0), (3, .int 0), (0, .ref a), (1, .ref p0), (2, .int l2_10)]) hx hb dX11_isWord_52 hl (by decide) rfl (fun ls hl => ?_)
            have L54 : ∀ (N54 : Nat) (l3_54 : Int32) (l4_54 : Int32) (H : Heap) (locs : List Loc) (ls : Array Slot), ((l3_54.toInt = 1 → ((G.1 a 39).toInt ≠ 0 ∧ l2_10.toInt - (G1.1 a 37).toInt = (n0 : Int) ∧ ∀ i : Nat, (i : Int) < l4_54.toInt → (tM (G.2.1 (F a 35)) ((G.1 a 36).toInt)) ((G1.1 a 37).toInt + (i : Int)) = r2.getD i 0)) ∧ (l3_54.toInt = 0 → ¬ (r1.1 = 1 ∧ wOk (tM (G.2.1 (F a 35)) ((G.1 a 36).toInt)) r1.2 r2))) → 0 ≤ l4_54.toInt ∧ l4_54.toInt ≤ (((n0) : Nat) : Int) → l3_54.toInt = 0 ∨ l3_54.toInt = 1 → (0 : Int) ≤ l4_54.toInt → 2147483648 - l4_54.toInt < ((N54 : Nat) : Int) → TW E K F G1 H → va_S (xA E) s.heap H locs → lv_has ls 5 [(0, .ref a), (1, .ref p0), (2, .int l2_10), (3, .int l3_54), (4, .int l4_54)] → W p l e rm_X11_isWord s m args below meth c H locs 0 0 Q (F0 m 54 ls []) := by
              intro N54
              induction N54 with
              | zero =>
                intro l3_54 l4_54 H locs ls pw I54_0 I54_1 I54_2 hm54
                exact absurd hm54 (z_X11_isWord_3 l4_54.toInt (xr l4_54))
              | succ N54 ih54 =>
                intro l3_54 l4_54 H locs ls pw I54_0 I54_1 I54_2 hm54 hT hS hl
                refine lv_iload_n hx hb dX11_isWord_54 rfl (lv_at hl 3 rfl) ?_
                refine xi_zeq (tgt := 95) hx hb (rfl : Int32.toInt l3_54 = l3_54.toInt) dX11_isWord_55 (by decide) (fun c55 => ?_) (fun c55 => ?_)
                · refine lv_aload_n hx hb dX11_isWord_95 rfl (lv_at hl 0 rfl) ?_
                  refine lv_iload_n hx hb dX11_isWord_96 rfl (lv_at hl 3 rfl) ?_
                  refine xi_zeq (tgt := 104) hx hb (rfl : Int32.toInt l3_54 = l3_54.toInt) dX11_isWord_97 (by decide) (fun c97 => ?_) (fun c97 => ?_)
                  · refine lv_aload_n hx hb dX11_isWord_104 rfl (lv_at hl 0 rfl) ?_
                    refine gX11_37 S hK hT ha kf_X11_256 dX11_isWord_105 (v := (G1.1 a 37)) rfl (?_)
                    refine pX11_37 (v := (G1.1 a 37)) S hK hT hS ha kf_X11_256 dX11_isWord_108 (fun H locs hT hS => ?_)
                    obtain ⟨G108, hG108⟩ : ∃ GG : XG, GG = dput G1 a 37 (G1.1 a 37) := ⟨_, rfl⟩
                    rw [← hG108] at hT
                    refine lv_iload_n hx hb dX11_isWord_111 rfl (lv_at hl 3 rfl) ?_
                    exact x_rz hx hb hr (xnz (x01 (z_X11_isWord_8 l3_54.toInt c55))) hlk hQ (Nat.le_of_ble_eq_true rfl) (Nat.le_of_ble_eq_true rfl) hS dX11_isWord_112 G108 ⟨_, rfl, (x01 (z_X11_isWord_8 l3_54.toInt c55)), (by rw [hG108]; exact XFr.dput (XFr.call XFr.rf hF1 (xm1 0 rfl xm0) xm0 xm0) (List.mem_of_getElem? (i := 0) rfl)), (z_X11_isWord_7 l3_54.toInt c55), (v_X11_isWord_112_12 (K := K) (F := F) a G G1 r1 r2 n0 p0 l2_10 l3_54 l4_54 x1 N10 x12 x15 x41 N54 ha hrm hwd oq1 pl pw nt0 (XWd.lim hp0) z0 t1 I10_0 hm10 z10 t12 t15 c18 (xzi hz28) c31 t41 c42 I54_0 I54_1 I54_2 hm54 c55), (v_X11_isWord_112_13 (K := K) (F := F) a G G1 G108 r1 r2 n0 p0 l2_10 l3_54 l4_54 x1 N10 x12 x15 x41 N54 ha hrm hwd oq1 pl pw nt0 (XWd.lim hp0) z0 t1 I10_0 hm10 z10 t12 t15 c18 (xzi hz28) c31 t41 c42 I54_0 I54_1 I54_2 hm54 c55 (ld_at hG108) ((ld_j hG108 (by decide)).trans (hF1.1 _ _ (xnj (by decide) xn0))) ((ld_j hG108 (by decide)).trans (hF1.1 _ _ (xnj (by decide) xn0))))⟩ hT
                  · refine lv_iload_n hx hb dX11_isWord_100 rfl (lv_at hl 2 rfl) ?_
                    refine lv_goto (tgt := 108) hx hb dX11_isWord_101 (by decide) ?_
                    refine pX11_37 (v := l2_10) S hK hT hS ha kf_X11_256 dX11_isWord_108 (fun H locs hT hS => ?_)
                    obtain ⟨G108, hG108⟩ : ∃ GG : XG, GG = dput G1 a 37 l2_10 := ⟨_, rfl⟩
                    rw [← hG108] at hT
                    refine lv_iload_n hx hb dX11_isWord_111 rfl (lv_at hl 3 rfl) ?_
                    exact x_rz hx hb hr (xnz (x01 (z_X11_isWord_8 l3_54.toInt c55))) hlk hQ (Nat.le_of_ble_eq_true rfl) (Nat.le_of_ble_eq_true rfl) hS dX11_isWord_112 G108 ⟨_, rfl, (x01 (z_X11_isWord_8 l3_54.toInt c55)), (by rw [hG108]; exact XFr.dput (XFr.call XFr.rf hF1 (xm1 0 rfl xm0) xm0 xm0) (List.mem_of_getElem? (i := 0) rfl)), (z_X11_isWord_7 l3_54.toInt c55), (v_X11_isWord_112_14 (K := K) (F := F) a G G1 l2_10 r1 r2 n0 p0 l3_54 l4_54 x1 N10 x12 x15 x41 N54 ha hrm hwd oq1 pl pw nt0 (XWd.lim hp0) z0 t1 I10_0 hm10 z10 t12 t15 c18 (xzi hz28) c31 t41 c42 I54_0 I54_1 I54_2 hm54 c55 c97), (v_X11_isWord_112_15 (K := K) (F := F) a G G1 G108 l2_10 r1 r2 n0 p0 l3_54 l4_54 x1 N10 x12 x15 x41 N54 ha hrm hwd oq1 pl pw nt0 (XWd.lim hp0) z0 t1 I10_0 hm10 z10 t12 t15 c18 (xzi hz28) c31 t41 c42 I54_0 I54_1 I54_2 hm54 c55 c97 (ld_at hG108) ((ld_j hG108 (by decide)).trans (hF1.1 _ _ (xnj (by decide) xn0))) ((ld_j hG108 (by decide)).trans (hF1.1 _ _ (xnj (by decide) xn0))))⟩ hT
                · refine lv_iload hx hb dX11_isWord_58 (lv_at hl 4 rfl) ?_
                  refine lv_aload_n hx hb dX11_isWord_60 rfl (lv_at hl 1 rfl) ?_
                  refine len_wd S hK hT hp0 dX11_isWord_61 (fun x61 t61 => ?_)
                  refine xi_cge (tgt := 95) hx hb (rfl : Int32.toInt l4_54 = l4_54.toInt) (rfl : Int32.toInt x61 = x61.toInt) dX11_isWord_62 (by decide) (fun c62 => ?_) (fun c62 => ?_)
                  · refine lv_aload_n hx hb dX11_isWord_95 rfl (lv_at hl 0 rfl) ?_
                    refine lv_iload_n hx hb dX11_isWord_96 rfl (lv_at hl 3 rfl) ?_
                    refine xi_zeq (tgt := 104) hx hb (rfl : Int32.toInt l3_54 = l3_54.toInt) dX11_isWord_97 (by decide) (fun c97 => ?_) (fun c97 => ?_)
                    · refine lv_aload_n hx hb dX11_isWord_104 rfl (lv_at hl 0 rfl) ?_
                      refine gX11_37 S hK hT ha kf_X11_256 dX11_isWord_105 (v := (G1.1 a 37)) rfl (?_)
                      refine pX11_37 (v := (G1.1 a 37)) S hK hT hS ha kf_X11_256 dX11_isWord_108 (fun H locs hT hS => ?_)
                      obtain ⟨G108, hG108⟩ : ∃ GG : XG, GG = dput G1 a 37 (G1.1 a 37) := ⟨_, rfl⟩
                      rw [← hG108] at hT
                      refine lv_iload_n hx hb dX11_isWord_111 rfl (lv_at hl 3 rfl) ?_
                      exact x_rz hx hb hr (xnz (x01 (z_X11_isWord_8 l3_54.toInt c97))) hlk hQ (Nat.le_of_ble_eq_true rfl) (Nat.le_of_ble_eq_true rfl) hS dX11_isWord_112 G108 ⟨_, rfl, (x01 (z_X11_isWord_8 l3_54.toInt c97)), (by rw [hG108]; exact XFr.dput (XFr.call XFr.rf hF1 (xm1 0 rfl xm0) xm0 xm0) (List.mem_of_getElem? (i := 0) rfl)), (z_X11_isWord_7 l3_54.toInt c97), (v_X11_isWord_112_16 (K := K) (F := F) a G G1 r1 r2 n0 p0 l2_10 l3_54 l4_54 x1 N10 x12 x15 x41 N54 x61 ha hrm hwd oq1 pl pw nt0 (XWd.lim hp0) z0 t1 I10_0 hm10 z10 t12 t15 c18 (xzi hz28) c31 t41 c42 I54_0 I54_1 I54_2 hm54 c55 t61 c62 c97), (v_X11_isWord_112_17 (K := K) (F := F) a G G1 G108 r1 r2 n0 p0 l2_10 l3_54 l4_54 x1 N10 x12 x15 x41 N54 x61 ha hrm hwd oq1 pl pw nt0 (XWd.lim hp0) z0 t1 I10_0 hm10 z10 t12 t15 c18 (xzi hz28) c31 t41 c42 I54_0 I54_1 I54_2 hm54 c55 t61 c62 c97 (ld_at hG108) ((ld_j hG108 (by decide)).trans (hF1.1 _ _ (xnj (by decide) xn0))) ((ld_j hG108 (by decide)).trans (hF1.1 _ _ (xnj (by decide) xn0))))⟩ hT
                    · refine lv_iload_n hx hb dX11_isWord_100 rfl (lv_at hl 2 rfl) ?_
                      refine lv_goto (tgt := 108) hx hb dX11_isWord_101 (by decide) ?_
                      refine pX11_37 (v := l2_10) S hK hT hS ha kf_X11_256 dX11_isWord_108 (fun H locs hT hS => ?_)
                      obtain ⟨G108, hG108⟩ : ∃ GG : XG, GG = dput G1 a 37 l2_10 := ⟨_, rfl⟩
                      rw [← hG108] at hT
                      refine lv_iload_n hx hb dX11_isWord_111 rfl (lv_at hl 3 rfl) ?_
                      exact x_rz hx hb hr (xnz (x01 (I54_1))) hlk hQ (Nat.le_of_ble_eq_true rfl) (Nat.le_of_ble_eq_true rfl) hS dX11_isWord_112 G108 ⟨_, rfl, (x01 (I54_1)), (by rw [hG108]; exact XFr.dput (XFr.call XFr.rf hF1 (xm1 0 rfl xm0) xm0 xm0) (List.mem_of_getElem? (i := 0) rfl)), (z_X11_isWord_16 l3_54.toInt I54_1), (v_X11_isWord_112_18 (K := K) (F := F) a G G1 l2_10 r1 r2 n0 p0 l3_54 l4_54 x1 N10 x12 x15 x41 N54 x61 ha hrm hwd oq1 pl pw nt0 (XWd.lim hp0) z0 t1 I10_0 hm10 z10 t12 t15 c18 (xzi hz28) c31 t41 c42 I54_0 I54_1 I54_2 hm54 c55 t61 c62), (v_X11_isWord_112_19 (K := K) (F := F) a G G1 G108 l2_10 r1 r2 n0 p0 l3_54 l4_54 x1 N10 x12 x15 x41 N54 x61 ha hrm hwd oq1 pl pw nt0 (XWd.lim hp0) z0 t1 I10_0 hm10 z10 t12 t15 c18 (xzi hz28) c31 t41 c42 I54_0 I54_1 I54_2 hm54 c55 t61 c62 (ld_at hG108) ((ld_j hG108 (by decide)).trans (hF1.1 _ _ (xnj (by decide) xn0))) ((ld_j hG108 (by decide)).trans (hF1.1 _ _ (xnj (by decide) xn0))))⟩ hT
                  · refine lv_aload_n hx hb dX11_isWord_65 rfl (lv_at hl 0 rfl) ?_
                    refine lv_aload_n hx hb dX11_isWord_66 rfl (lv_at hl 0 rfl) ?_
                    refine gX11_37 S hK hT ha kf_X11_256 dX11_isWord_67 (v := (G1.1 a 37)) rfl (?_)
                    refine lv_iload hx hb dX11_isWord_70 (lv_at hl 4 rfl) ?_
                    refine xi_iadd hx hb (rfl : Int32.toInt (G1.1 a 37) = ((G1.1 a 37).toInt)) (rfl : Int32.toInt l4_54 = l4_54.toInt) dX11_isWord_72 (fun x72 t72 => ?_)
                    have e72 : x72.toInt = (((G1.1 a 37).toInt) + l4_54.toInt) := (z_X11_isWord_19 l4_54.toInt x72.toInt n0 ((G.1 a 36).toInt) ((G.1 a 37).toInt) ((G1.1 a 37).toInt) nt0 (XWd.lim hp0) z0 (t1).2.2.2.1 (t1).2.2.2.2 I54_0 t72)
                    refine x_clp (x_runV (b := a) (As := [.int x72]) (rest := []) S (c_X11_signAt l E K F G1 H a x72 ha (by rw [(show (G1.1 a 36).toInt = ((G.1 a 36).toInt) from (congrArg Int32.toInt (hF1.1 _ _ (xnj (by decide) xn0))).trans (rfl : Int32.toInt (G.1 a 36) = ((G.1 a 36).toInt)))] <;> exact (nt0)) (by rw [(e72 : Int32.toInt x72 = (((G1.1 a 37).toInt) + l4_54.toInt))] <;> exact (z_X11_isWord_21 l4_54.toInt n0 ((G.1 a 36).toInt) ((G.1 a 37).toInt) ((G1.1 a 37).toInt) z0 (t1).2.2.2.1 I54_0))) mv_X11_signAt km_X11_259 rfl rfl ⟨Nat.le_of_ble_eq_true rfl, Nat.le_of_ble_eq_true rfl⟩ (rc_13 hK hT ha) hK (fun _ => XPh.blind) (fun U hU hW => XPh.at hK hz hS hT hU hW) rfl hl.1 (Nat.le_of_ble_eq_true rfl) dX11_isWord_73 ⟨Nat.le_of_ble_eq_true rfl, Nat.le_of_ble_eq_true rfl⟩) hS ?_
                    rintro _ _ locs ⟨x73, rfl, t73⟩ hS
                    have t73 : -128 ≤ x73.toInt ∧ x73.toInt ≤ 127 ∧ ((0 ≤ x73.toInt ∧ (tM (G.2.1 (F a 35)) ((G.1 a 36).toInt) (((G1.1 a 37).toInt) + l4_54.toInt)) = x73.toInt) ∨ (x73.toInt < 0 ∧ (tM (G.2.1 (F a 35)) ((G.1 a 36).toInt) (((G1.1 a 37).toInt) + l4_54.toInt)) = x73.toInt + 256)) := by rw [(e72 : Int32.toInt x72 = (((G1.1 a 37).toInt) + l4_54.toInt))] at t73; rw [(show G1.2.1 (F a 35) = G.2.1 (F a 35) from (hF1.2.1 _ xn0))] at t73; rw [(show (G1.1 a 36).toInt = ((G.1 a 36).toInt) from (congrArg Int32.toInt (hF1.1 _ _ (xnj (by decide) xn0))).trans (rfl : Int32.toInt (G.1 a 36) = ((G.1 a 36).toInt)))] at t73; exact t73
                    refine lv_aload_n hx hb dX11_isWord_76 rfl (lv_at hl 1 rfl) ?_
                    refine lv_iload hx hb dX11_isWord_77 (lv_at hl 4 rfl) ?_
                    refine ald_wd S hK hT hp0 (z_X11_isWord_22 l4_54.toInt x61.toInt n0 I54_0 t61 c62) dX11_isWord_79 (fun x79 hv79 o79 => ?_)
                    have hv79 : x79.toInt = (aI (G.2.1 p0) (l4_54.toInt)) := hv79.trans (by rw [((hF1.2.1 _ xn0) : G1.2.1 p0 = G.2.1 p0)])
                    refine xi_cne (tgt := 87) hx hb (rfl : Int32.toInt x73 = x73.toInt) (rfl : Int32.toInt x79 = x79.toInt) dX11_isWord_80 (by decide) (fun c80 => ?_) (fun c80 => ?_)
                    · refine lv_iconst (v := 0) hx hb dX11_isWord_87 (by decide) ?_
                      refine lv_istore_n (lv' := [(3, .int 0), (0, .ref a), (1, .ref p0), (2, .int l2_10), (4, .int l4_54)]) hx hb dX11_isWord_88 rfl hl (by decide) rfl (fun ls hl => ?_)
                      refine xi_iinc (n := 1) (lv' := fun z9 => [(4, .int z9), (3, .int 0), (0, .ref a), (1, .ref p0), (2, .int l2_10)]) (k := 4) hx hb (rfl : Int32.toInt l4_54 = l4_54.toInt) (by decide) dX11_isWord_89 hl rfl (by decide) (fun _ => rfl) (fun x89 ls t89 hl => ?_)
                      have e89 : x89.toInt = (l4_54.toInt + 1) := (z_X11_isWord_50 l4_54.toInt x41.toInt x61.toInt x89.toInt n0 t41 I54_0 t61 c62 t89 (xr x41))
                      have hl : lv_has ls 5 [(4, .int x89), (3, .int 0), (0, .ref a), (1, .ref p0), (2, .int l2_10)] := hl
                      refine lv_goto (tgt := 54) hx hb dX11_isWord_92 (by decide) ?_
                      exact ih54 0 x89 _ _ _ (by rw [(e89 : Int32.toInt x89 = (l4_54.toInt + 1))] <;> exact (v_X11_isWord_92_20 (K := K) (F := F) a G G1 r1 r2 n0 p0 l2_10 l3_54 l4_54 x1 N10 x12 x15 x41 N54 x61 x73 x79 ha hrm hwd oq1 pl pw nt0 (XWd.lim hp0) z0 t1 I10_0 hm10 z10 t12 t15 c18 (xzi hz28) c31 t41 c42 I54_0 I54_1 I54_2 hm54 c55 t61 c62 t73 hv79 c80)) (by rw [(e89 : Int32.toInt x89 = (l4_54.toInt + 1))] <;> exact (z_X11_isWord_24 l4_54.toInt x61.toInt n0 I54_0 t61 c62)) (by decide) (by rw [(e89 : Int32.toInt x89 = (l4_54.toInt + 1))] <;> exact (z_X11_isWord_25 l4_54.toInt n0 I54_0)) (by rw [(e89 : Int32.toInt x89 = (l4_54.toInt + 1))] <;> exact (z_X11_isWord_26 l4_54.toInt N54 hm54)) hT hS (lv_sub hl [2, 3, 4, 1, 0] rfl)
                    · refine lv_iconst (v := 1) hx hb dX11_isWord_83 (by decide) ?_
                      refine lv_goto (tgt := 88) hx hb dX11_isWord_84 (by decide) ?_
                      refine lv_istore_n (lv' := [(3, .int 1), (0, .ref a), (1, .ref p0), (2, .int l2_10), (4, .int l4_54)]) hx hb dX11_isWord_88 rfl hl (by decide) rfl (fun ls hl => ?_)
                      refine xi_iinc (n := 1) (lv' := fun z9 => [(4, .int z9), (3, .int 1), (0, .ref a), (1, .ref p0), (2, .int l2_10)]) (k := 4) hx hb (rfl : Int32.toInt l4_54 = l4_54.toInt) (by decide) dX11_isWord_89 hl rfl (by decide) (fun _ => rfl) (fun x89 ls t89 hl => ?_)
                      have e89 : x89.toInt = (l4_54.toInt + 1) := (z_X11_isWord_50 l4_54.toInt x41.toInt x61.toInt x89.toInt n0 t41 I54_0 t61 c62 t89 (xr x41))
                      have hl : lv_has ls 5 [(4, .int x89), (3, .int 1), (0, .ref a), (1, .ref p0), (2, .int l2_10)] := hl
                      refine lv_goto (tgt := 54) hx hb dX11_isWord_92 (by decide) ?_
                      exact ih54 1 x89 _ _ _ (by rw [(e89 : Int32.toInt x89 = (l4_54.toInt + 1))] <;> exact (v_X11_isWord_92_21 (K := K) (F := F) a G G1 r1 r2 n0 p0 l2_10 l3_54 l4_54 x1 N10 x12 x15 x41 N54 x61 x73 x79 ha hrm hwd oq1 pl pw nt0 (XWd.lim hp0) z0 t1 I10_0 hm10 z10 t12 t15 c18 (xzi hz28) c31 t41 c42 I54_0 I54_1 I54_2 hm54 c55 t61 c62 t73 hv79 c80)) (by rw [(e89 : Int32.toInt x89 = (l4_54.toInt + 1))] <;> exact (z_X11_isWord_24 l4_54.toInt x61.toInt n0 I54_0 t61 c62)) (by decide) (by rw [(e89 : Int32.toInt x89 = (l4_54.toInt + 1))] <;> exact (z_X11_isWord_25 l4_54.toInt n0 I54_0)) (by rw [(e89 : Int32.toInt x89 = (l4_54.toInt + 1))] <;> exact (z_X11_isWord_26 l4_54.toInt N54 hm54)) hT hS (lv_sub hl [2, 3, 4, 1, 0] rfl)
            exact L54 4294967297 0 0 _ _ _ (v_X11_isWord_52_22 (K := K) (F := F) a G G1 r1 r2 n0 p0 l2_10 x1 N10 x12 x15 x41 ha hrm hwd oq1 pl nt0 (XWd.lim hp0) z0 t1 I10_0 hm10 z10 t12 t15 c18 (xzi hz28) c31 t41 c42) (z_X11_isWord_31 n0) (by decide) (by decide) (by decide) hT hS (lv_sub hl [2, 3, 4, 1, 0] rfl)
          · refine lv_iconst (v := 1) hx hb dX11_isWord_45 (by decide) ?_
            refine lv_goto (tgt := 50) hx hb dX11_isWord_46 (by decide) ?_
            refine lv_istore_n (lv' := [(3, .int 1), (0, .ref a), (1, .ref p0), (2, .int l2_10)]) hx hb dX11_isWord_50 rfl hl (by decide) rfl (fun ls hl => ?_)
            refine lv_iconst (v := 0) hx hb dX11_isWord_51 (by decide) ?_
            refine lv_istore (lv' := [(4, .int 0), (3, .int 1), (0, .ref a), (1, .ref p0), (2, .int l2_10)]) hx hb dX11_isWord_52 hl (by decide) rfl (fun ls hl => ?_)
            have L54 : ∀ (N54 : Nat) (l3_54 : Int32) (l4_54 : Int32) (H : Heap) (locs : List Loc) (ls : Array Slot), ((l3_54.toInt = 1 → ((G.1 a 39).toInt ≠ 0 ∧ l2_10.toInt - (G1.1 a 37).toInt = (n0 : Int) ∧ ∀ i : Nat, (i : Int) < l4_54.toInt → (tM (G.2.1 (F a 35)) ((G.1 a 36).toInt)) ((G1.1 a 37).toInt + (i : Int)) = r2.getD i 0)) ∧ (l3_54.toInt = 0 → ¬ (r1.1 = 1 ∧ wOk (tM (G.2.1 (F a 35)) ((G.1 a 36).toInt)) r1.2 r2))) → 0 ≤ l4_54.toInt ∧ l4_54.toInt ≤ (((n0) : Nat) : Int) → l3_54.toInt = 0 ∨ l3_54.toInt = 1 → (0 : Int) ≤ l4_54.toInt → 2147483648 - l4_54.toInt < ((N54 : Nat) : Int) → TW E K F G1 H → va_S (xA E) s.heap H locs → lv_has ls 5 [(0, .ref a), (1, .ref p0), (2, .int l2_10), (3, .int l3_54), (4, .int l4_54)] → W p l e rm_X11_isWord s m args below meth c H locs 0 0 Q (F0 m 54 ls []) := by
              intro N54
              induction N54 with
              | zero =>
                intro l3_54 l4_54 H locs ls pw I54_0 I54_1 I54_2 hm54
                exact absurd hm54 (z_X11_isWord_3 l4_54.toInt (xr l4_54))
              | succ N54 ih54 =>
                intro l3_54 l4_54 H locs ls pw I54_0 I54_1 I54_2 hm54 hT hS hl
                refine lv_iload_n hx hb dX11_isWord_54 rfl (lv_at hl 3 rfl) ?_
                refine xi_zeq (tgt := 95) hx hb (rfl : Int32.toInt l3_54 = l3_54.toInt) dX11_isWord_55 (by decide) (fun c55 => ?_) (fun c55 => ?_)
                · refine lv_aload_n hx hb dX11_isWord_95 rfl (lv_at hl 0 rfl) ?_
                  refine lv_iload_n hx hb dX11_isWord_96 rfl (lv_at hl 3 rfl) ?_
                  refine xi_zeq (tgt := 104) hx hb (rfl : Int32.toInt l3_54 = l3_54.toInt) dX11_isWord_97 (by decide) (fun c97 => ?_) (fun c97 => ?_)
                  · refine lv_aload_n hx hb dX11_isWord_104 rfl (lv_at hl 0 rfl) ?_
                    refine gX11_37 S hK hT ha kf_X11_256 dX11_isWord_105 (v := (G1.1 a 37)) rfl (?_)
                    refine pX11_37 (v := (G1.1 a 37)) S hK hT hS ha kf_X11_256 dX11_isWord_108 (fun H locs hT hS => ?_)
                    obtain ⟨G108, hG108⟩ : ∃ GG : XG, GG = dput G1 a 37 (G1.1 a 37) := ⟨_, rfl⟩
                    rw [← hG108] at hT
                    refine lv_iload_n hx hb dX11_isWord_111 rfl (lv_at hl 3 rfl) ?_
                    exact x_rz hx hb hr (xnz (x01 (z_X11_isWord_8 l3_54.toInt c55))) hlk hQ (Nat.le_of_ble_eq_true rfl) (Nat.le_of_ble_eq_true rfl) hS dX11_isWord_112 G108 ⟨_, rfl, (x01 (z_X11_isWord_8 l3_54.toInt c55)), (by rw [hG108]; exact XFr.dput (XFr.call XFr.rf hF1 (xm1 0 rfl xm0) xm0 xm0) (List.mem_of_getElem? (i := 0) rfl)), (z_X11_isWord_7 l3_54.toInt c55), (v_X11_isWord_112_23 (K := K) (F := F) a G G1 r1 r2 n0 p0 l2_10 l3_54 l4_54 x1 N10 x12 x15 x41 N54 ha hrm hwd oq1 pl pw nt0 (XWd.lim hp0) z0 t1 I10_0 hm10 z10 t12 t15 c18 (xzi hz28) c31 t41 c42 I54_0 I54_1 I54_2 hm54 c55), (v_X11_isWord_112_24 (K := K) (F := F) a G G1 G108 r1 r2 n0 p0 l2_10 l3_54 l4_54 x1 N10 x12 x15 x41 N54 ha hrm hwd oq1 pl pw nt0 (XWd.lim hp0) z0 t1 I10_0 hm10 z10 t12 t15 c18 (xzi hz28) c31 t41 c42 I54_0 I54_1 I54_2 hm54 c55 (ld_at hG108) ((ld_j hG108 (by decide)).trans (hF1.1 _ _ (xnj (by decide) xn0))) ((ld_j hG108 (by decide)).trans (hF1.1 _ _ (xnj (by decide) xn0))))⟩ hT
                  · refine lv_iload_n hx hb dX11_isWord_100 rfl (lv_at hl 2 rfl) ?_
                    refine lv_goto (tgt := 108) hx hb dX11_isWord_101 (by decide) ?_
                    refine pX11_37 (v := l2_10) S hK hT hS ha kf_X11_256 dX11_isWord_108 (fun H locs hT hS => ?_)
                    obtain ⟨G108, hG108⟩ : ∃ GG : XG, GG = dput G1 a 37 l2_10 := ⟨_, rfl⟩
                    rw [← hG108] at hT
                    refine lv_iload_n hx hb dX11_isWord_111 rfl (lv_at hl 3 rfl) ?_
                    exact x_rz hx hb hr (xnz (x01 (z_X11_isWord_8 l3_54.toInt c55))) hlk hQ (Nat.le_of_ble_eq_true rfl) (Nat.le_of_ble_eq_true rfl) hS dX11_isWord_112 G108 ⟨_, rfl, (x01 (z_X11_isWord_8 l3_54.toInt c55)), (by rw [hG108]; exact XFr.dput (XFr.call XFr.rf hF1 (xm1 0 rfl xm0) xm0 xm0) (List.mem_of_getElem? (i := 0) rfl)), (z_X11_isWord_7 l3_54.toInt c55), (v_X11_isWord_112_25 (K := K) (F := F) a G G1 l2_10 r1 r2 n0 p0 l3_54 l4_54 x1 N10 x12 x15 x41 N54 ha hrm hwd oq1 pl pw nt0 (XWd.lim hp0) z0 t1 I10_0 hm10 z10 t12 t15 c18 (xzi hz28) c31 t41 c42 I54_0 I54_1 I54_2 hm54 c55 c97), (v_X11_isWord_112_26 (K := K) (F := F) a G G1 G108 l2_10 r1 r2 n0 p0 l3_54 l4_54 x1 N10 x12 x15 x41 N54 ha hrm hwd oq1 pl pw nt0 (XWd.lim hp0) z0 t1 I10_0 hm10 z10 t12 t15 c18 (xzi hz28) c31 t41 c42 I54_0 I54_1 I54_2 hm54 c55 c97 (ld_at hG108) ((ld_j hG108 (by decide)).trans (hF1.1 _ _ (xnj (by decide) xn0))) ((ld_j hG108 (by decide)).trans (hF1.1 _ _ (xnj (by decide) xn0))))⟩ hT
                · refine lv_iload hx hb dX11_isWord_58 (lv_at hl 4 rfl) ?_
                  refine lv_aload_n hx hb dX11_isWord_60 rfl (lv_at hl 1 rfl) ?_
                  refine len_wd S hK hT hp0 dX11_isWord_61 (fun x61 t61 => ?_)
                  refine xi_cge (tgt := 95) hx hb (rfl : Int32.toInt l4_54 = l4_54.toInt) (rfl : Int32.toInt x61 = x61.toInt) dX11_isWord_62 (by decide) (fun c62 => ?_) (fun c62 => ?_)
                  · refine lv_aload_n hx hb dX11_isWord_95 rfl (lv_at hl 0 rfl) ?_
                    refine lv_iload_n hx hb dX11_isWord_96 rfl (lv_at hl 3 rfl) ?_
                    refine xi_zeq (tgt := 104) hx hb (rfl : Int32.toInt l3_54 = l3_54.toInt) dX11_isWord_97 (by decide) (fun c97 => ?_) (fun c97 => ?_)
                    · refine lv_aload_n hx hb dX11_isWord_104 rfl (lv_at hl 0 rfl) ?_
                      refine gX11_37 S hK hT ha kf_X11_256 dX11_isWord_105 (v := (G1.1 a 37)) rfl (?_)
                      refine pX11_37 (v := (G1.1 a 37)) S hK hT hS ha kf_X11_256 dX11_isWord_108 (fun H locs hT hS => ?_)
                      obtain ⟨G108, hG108⟩ : ∃ GG : XG, GG = dput G1 a 37 (G1.1 a 37) := ⟨_, rfl⟩
                      rw [← hG108] at hT
                      refine lv_iload_n hx hb dX11_isWord_111 rfl (lv_at hl 3 rfl) ?_
                      exact x_rz hx hb hr (xnz (x01 (z_X11_isWord_8 l3_54.toInt c97))) hlk hQ (Nat.le_of_ble_eq_true rfl) (Nat.le_of_ble_eq_true rfl) hS dX11_isWord_112 G108 ⟨_, rfl, (x01 (z_X11_isWord_8 l3_54.toInt c97)), (by rw [hG108]; exact XFr.dput (XFr.call XFr.rf hF1 (xm1 0 rfl xm0) xm0 xm0) (List.mem_of_getElem? (i := 0) rfl)), (z_X11_isWord_7 l3_54.toInt c97), (v_X11_isWord_112_27 (K := K) (F := F) a G G1 r1 r2 n0 p0 l2_10 l3_54 l4_54 x1 N10 x12 x15 x41 N54 x61 ha hrm hwd oq1 pl pw nt0 (XWd.lim hp0) z0 t1 I10_0 hm10 z10 t12 t15 c18 (xzi hz28) c31 t41 c42 I54_0 I54_1 I54_2 hm54 c55 t61 c62 c97), (v_X11_isWord_112_28 (K := K) (F := F) a G G1 G108 r1 r2 n0 p0 l2_10 l3_54 l4_54 x1 N10 x12 x15 x41 N54 x61 ha hrm hwd oq1 pl pw nt0 (XWd.lim hp0) z0 t1 I10_0 hm10 z10 t12 t15 c18 (xzi hz28) c31 t41 c42 I54_0 I54_1 I54_2 hm54 c55 t61 c62 c97 (ld_at hG108) ((ld_j hG108 (by decide)).trans (hF1.1 _ _ (xnj (by decide) xn0))) ((ld_j hG108 (by decide)).trans (hF1.1 _ _ (xnj (by decide) xn0))))⟩ hT
                    · refine lv_iload_n hx hb dX11_isWord_100 rfl (lv_at hl 2 rfl) ?_
                      refine lv_goto (tgt := 108) hx hb dX11_isWord_101 (by decide) ?_
                      refine pX11_37 (v := l2_10) S hK hT hS ha kf_X11_256 dX11_isWord_108 (fun H locs hT hS => ?_)
                      obtain ⟨G108, hG108⟩ : ∃ GG : XG, GG = dput G1 a 37 l2_10 := ⟨_, rfl⟩
                      rw [← hG108] at hT
                      refine lv_iload_n hx hb dX11_isWord_111 rfl (lv_at hl 3 rfl) ?_
                      exact x_rz hx hb hr (xnz (x01 (I54_1))) hlk hQ (Nat.le_of_ble_eq_true rfl) (Nat.le_of_ble_eq_true rfl) hS dX11_isWord_112 G108 ⟨_, rfl, (x01 (I54_1)), (by rw [hG108]; exact XFr.dput (XFr.call XFr.rf hF1 (xm1 0 rfl xm0) xm0 xm0) (List.mem_of_getElem? (i := 0) rfl)), (z_X11_isWord_16 l3_54.toInt I54_1), (v_X11_isWord_112_29 (K := K) (F := F) a G G1 l2_10 r1 r2 n0 p0 l3_54 l4_54 x1 N10 x12 x15 x41 N54 x61 ha hrm hwd oq1 pl pw nt0 (XWd.lim hp0) z0 t1 I10_0 hm10 z10 t12 t15 c18 (xzi hz28) c31 t41 c42 I54_0 I54_1 I54_2 hm54 c55 t61 c62), (v_X11_isWord_112_30 (K := K) (F := F) a G G1 G108 l2_10 r1 r2 n0 p0 l3_54 l4_54 x1 N10 x12 x15 x41 N54 x61 ha hrm hwd oq1 pl pw nt0 (XWd.lim hp0) z0 t1 I10_0 hm10 z10 t12 t15 c18 (xzi hz28) c31 t41 c42 I54_0 I54_1 I54_2 hm54 c55 t61 c62 (ld_at hG108) ((ld_j hG108 (by decide)).trans (hF1.1 _ _ (xnj (by decide) xn0))) ((ld_j hG108 (by decide)).trans (hF1.1 _ _ (xnj (by decide) xn0))))⟩ hT
                  · refine lv_aload_n hx hb dX11_isWord_65 rfl (lv_at hl 0 rfl) ?_
                    refine lv_aload_n hx hb dX11_isWord_66 rfl (lv_at hl 0 rfl) ?_
                    refine gX11_37 S hK hT ha kf_X11_256 dX11_isWord_67 (v := (G1.1 a 37)) rfl (?_)
                    refine lv_iload hx hb dX11_isWord_70 (lv_at hl 4 rfl) ?_
                    refine xi_iadd hx hb (rfl : Int32.toInt (G1.1 a 37) = ((G1.1 a 37).toInt)) (rfl : Int32.toInt l4_54 = l4_54.toInt) dX11_isWord_72 (fun x72 t72 => ?_)
                    have e72 : x72.toInt = (((G1.1 a 37).toInt) + l4_54.toInt) := (z_X11_isWord_72 l2_10.toInt l4_54.toInt x41.toInt x72.toInt n0 ((G.1 a 36).toInt) ((G.1 a 37).toInt) ((G1.1 a 37).toInt) nt0 z0 (t1).2.2.2.1 I10_0 t41 c42 I54_0 t72)
                    refine x_clp (x_runV (b := a) (As := [.int x72]) (rest := []) S (c_X11_signAt l E K F G1 H a x72 ha (by rw [(show (G1.1 a 36).toInt = ((G.1 a 36).toInt) from (congrArg Int32.toInt (hF1.1 _ _ (xnj (by decide) xn0))).trans (rfl : Int32.toInt (G.1 a 36) = ((G.1 a 36).toInt)))] <;> exact (nt0)) (by rw [(e72 : Int32.toInt x72 = (((G1.1 a 37).toInt) + l4_54.toInt))] <;> exact (z_X11_isWord_21 l4_54.toInt n0 ((G.1 a 36).toInt) ((G.1 a 37).toInt) ((G1.1 a 37).toInt) z0 (t1).2.2.2.1 I54_0))) mv_X11_signAt km_X11_259 rfl rfl ⟨Nat.le_of_ble_eq_true rfl, Nat.le_of_ble_eq_true rfl⟩ (rc_13 hK hT ha) hK (fun _ => XPh.blind) (fun U hU hW => XPh.at hK hz hS hT hU hW) rfl hl.1 (Nat.le_of_ble_eq_true rfl) dX11_isWord_73 ⟨Nat.le_of_ble_eq_true rfl, Nat.le_of_ble_eq_true rfl⟩) hS ?_
                    rintro _ _ locs ⟨x73, rfl, t73⟩ hS
                    have t73 : -128 ≤ x73.toInt ∧ x73.toInt ≤ 127 ∧ ((0 ≤ x73.toInt ∧ (tM (G.2.1 (F a 35)) ((G.1 a 36).toInt) (((G1.1 a 37).toInt) + l4_54.toInt)) = x73.toInt) ∨ (x73.toInt < 0 ∧ (tM (G.2.1 (F a 35)) ((G.1 a 36).toInt) (((G1.1 a 37).toInt) + l4_54.toInt)) = x73.toInt + 256)) := by rw [(e72 : Int32.toInt x72 = (((G1.1 a 37).toInt) + l4_54.toInt))] at t73; rw [(show G1.2.1 (F a 35) = G.2.1 (F a 35) from (hF1.2.1 _ xn0))] at t73; rw [(show (G1.1 a 36).toInt = ((G.1 a 36).toInt) from (congrArg Int32.toInt (hF1.1 _ _ (xnj (by decide) xn0))).trans (rfl : Int32.toInt (G.1 a 36) = ((G.1 a 36).toInt)))] at t73; exact t73
                    refine lv_aload_n hx hb dX11_isWord_76 rfl (lv_at hl 1 rfl) ?_
                    refine lv_iload hx hb dX11_isWord_77 (lv_at hl 4 rfl) ?_
                    refine ald_wd S hK hT hp0 (z_X11_isWord_22 l4_54.toInt x61.toInt n0 I54_0 t61 c62) dX11_isWord_79 (fun x79 hv79 o79 => ?_)
                    have hv79 : x79.toInt = (aI (G.2.1 p0) (l4_54.toInt)) := hv79.trans (by rw [((hF1.2.1 _ xn0) : G1.2.1 p0 = G.2.1 p0)])
                    refine xi_cne (tgt := 87) hx hb (rfl : Int32.toInt x73 = x73.toInt) (rfl : Int32.toInt x79 = x79.toInt) dX11_isWord_80 (by decide) (fun c80 => ?_) (fun c80 => ?_)
                    · refine lv_iconst (v := 0) hx hb dX11_isWord_87 (by decide) ?_
                      refine lv_istore_n (lv' := [(3, .int 0), (0, .ref a), (1, .ref p0), (2, .int l2_10), (4, .int l4_54)]) hx hb dX11_isWord_88 rfl hl (by decide) rfl (fun ls hl => ?_)
                      refine xi_iinc (n := 1) (lv' := fun z9 => [(4, .int z9), (3, .int 0), (0, .ref a), (1, .ref p0), (2, .int l2_10)]) (k := 4) hx hb (rfl : Int32.toInt l4_54 = l4_54.toInt) (by decide) dX11_isWord_89 hl rfl (by decide) (fun _ => rfl) (fun x89 ls t89 hl => ?_)
                      have e89 : x89.toInt = (l4_54.toInt + 1) := (z_X11_isWord_76 l2_10.toInt l4_54.toInt x41.toInt x89.toInt n0 ((G.1 a 36).toInt) ((G.1 a 37).toInt) ((G1.1 a 37).toInt) nt0 z0 (t1).2.2.2.1 I10_0 t41 c42 I54_0 t89)
                      have hl : lv_has ls 5 [(4, .int x89), (3, .int 0), (0, .ref a), (1, .ref p0), (2, .int l2_10)] := hl
                      refine lv_goto (tgt := 54) hx hb dX11_isWord_92 (by decide) ?_
                      exact ih54 0 x89 _ _ _ (by rw [(e89 : Int32.toInt x89 = (l4_54.toInt + 1))] <;> exact (v_X11_isWord_92_31 (K := K) (F := F) a G G1 r1 r2 n0 p0 l2_10 l3_54 l4_54 x1 N10 x12 x15 x41 N54 x61 x73 x79 ha hrm hwd oq1 pl pw nt0 (XWd.lim hp0) z0 t1 I10_0 hm10 z10 t12 t15 c18 (xzi hz28) c31 t41 c42 I54_0 I54_1 I54_2 hm54 c55 t61 c62 t73 hv79 c80)) (by rw [(e89 : Int32.toInt x89 = (l4_54.toInt + 1))] <;> exact (z_X11_isWord_24 l4_54.toInt x61.toInt n0 I54_0 t61 c62)) (by decide) (by rw [(e89 : Int32.toInt x89 = (l4_54.toInt + 1))] <;> exact (z_X11_isWord_25 l4_54.toInt n0 I54_0)) (by rw [(e89 : Int32.toInt x89 = (l4_54.toInt + 1))] <;> exact (z_X11_isWord_26 l4_54.toInt N54 hm54)) hT hS (lv_sub hl [2, 3, 4, 1, 0] rfl)
                    · refine lv_iconst (v := 1) hx hb dX11_isWord_83 (by decide) ?_
                      refine lv_goto (tgt := 88) hx hb dX11_isWord_84 (by decide) ?_
                      refine lv_istore_n (lv' := [(3, .int 1), (0, .ref a), (1, .ref p0), (2, .int l2_10), (4, .int l4_54)]) hx hb dX11_isWord_88 rfl hl (by decide) rfl (fun ls hl => ?_)
                      refine xi_iinc (n := 1) (lv' := fun z9 => [(4, .int z9), (3, .int 1), (0, .ref a), (1, .ref p0), (2, .int l2_10)]) (k := 4) hx hb (rfl : Int32.toInt l4_54 = l4_54.toInt) (by decide) dX11_isWord_89 hl rfl (by decide) (fun _ => rfl) (fun x89 ls t89 hl => ?_)
                      have e89 : x89.toInt = (l4_54.toInt + 1) := (z_X11_isWord_76 l2_10.toInt l4_54.toInt x41.toInt x89.toInt n0 ((G.1 a 36).toInt) ((G.1 a 37).toInt) ((G1.1 a 37).toInt) nt0 z0 (t1).2.2.2.1 I10_0 t41 c42 I54_0 t89)
                      have hl : lv_has ls 5 [(4, .int x89), (3, .int 1), (0, .ref a), (1, .ref p0), (2, .int l2_10)] := hl
                      refine lv_goto (tgt := 54) hx hb dX11_isWord_92 (by decide) ?_
                      exact ih54 1 x89 _ _ _ (by rw [(e89 : Int32.toInt x89 = (l4_54.toInt + 1))] <;> exact (v_X11_isWord_92_32 (K := K) (F := F) a G G1 r1 r2 n0 p0 l2_10 l3_54 l4_54 x1 N10 x12 x15 x41 N54 x61 x73 x79 ha hrm hwd oq1 pl pw nt0 (XWd.lim hp0) z0 t1 I10_0 hm10 z10 t12 t15 c18 (xzi hz28) c31 t41 c42 I54_0 I54_1 I54_2 hm54 c55 t61 c62 t73 hv79 c80)) (by rw [(e89 : Int32.toInt x89 = (l4_54.toInt + 1))] <;> exact (z_X11_isWord_24 l4_54.toInt x61.toInt n0 I54_0 t61 c62)) (by decide) (by rw [(e89 : Int32.toInt x89 = (l4_54.toInt + 1))] <;> exact (z_X11_isWord_25 l4_54.toInt n0 I54_0)) (by rw [(e89 : Int32.toInt x89 = (l4_54.toInt + 1))] <;> exact (z_X11_isWord_26 l4_54.toInt N54 hm54)) hT hS (lv_sub hl [2, 3, 4, 1, 0] rfl)
            exact L54 4294967297 1 0 _ _ _ (v_X11_isWord_52_33 (K := K) (F := F) a G G1 r1 r2 n0 p0 l2_10 x1 N10 x12 x15 x41 ha hrm hwd oq1 pl nt0 (XWd.lim hp0) z0 t1 I10_0 hm10 z10 t12 t15 c18 (xzi hz28) c31 t41 c42) (z_X11_isWord_31 n0) (by decide) (by decide) (by decide) hT hS (lv_sub hl [2, 3, 4, 1, 0] rfl)
      · refine xi_iinc (n := 1) (lv' := fun z9 => [(2, .int z9), (0, .ref a), (1, .ref p0)]) (k := 2) hx hb (rfl : Int32.toInt l2_10 = l2_10.toInt) (by decide) dX11_isWord_21 hl rfl (by decide) (fun _ => rfl) (fun x21 ls t21 hl => ?_)
        have e21 : x21.toInt = (l2_10.toInt + 1) := (z_X11_isWord_85 l2_10.toInt x21.toInt ((G.1 a 36).toInt) ((G1.1 a 37).toInt) nt0 I10_0 t21 (xr l2_10))
        have hl : lv_has ls 5 [(2, .int x21), (0, .ref a), (1, .ref p0)] := hl
        refine lv_goto (tgt := 10) hx hb dX11_isWord_24 (by decide) ?_
        exact ih10 x21 _ _ _ (by rw [(e21 : Int32.toInt x21 = (l2_10.toInt + 1))] <;> exact (v_X11_isWord_24_34 (K := K) (F := F) a G G1 r2 n0 p0 l2_10 x1 N10 x12 x15 ha hwd oq1 pl nt0 (XWd.lim hp0) z0 t1 I10_0 hm10 z10 t12 t15 c18)) (by rw [(e21 : Int32.toInt x21 = (l2_10.toInt + 1))] <;> exact (z_X11_isWord_86 l2_10.toInt x12.toInt x15.toInt ((G.1 a 36).toInt) ((G1.1 a 37).toInt) (tM (G.2.1 (F a 35)) ((G.1 a 36).toInt) (l2_10.toInt)) I10_0 z10 (t12).2.2 t15 c18)) (by rw [(e21 : Int32.toInt x21 = (l2_10.toInt + 1))] <;> exact (z_X11_isWord_26 l2_10.toInt N10 hm10)) hT hS (lv_sub hl [1, 2, 0] rfl)
  exact L10 4294967297 (G1.1 a 37) _ _ _ (v_X11_isWord_9_35 (K := K) (F := F) a G G1 r2 n0 p0 x1 ha hwd oq1 nt0 (XWd.lim hp0) z0 t1) (z_X11_isWord_88 ((G.1 a 36).toInt) ((G1.1 a 37).toInt) (t1).2.2.2.2) (z_X11_isWord_89 ((G1.1 a 37).toInt) (xr (G1.1 a 37))) hT hS (lv_sub hl [1, 2, 0] rfl)
theorem v_X11_number_151_1 {K : Nat → Nat} {F : Nat → Nat → Nat} (a : Nat) (G : XG) (G10 : XG) (G147 : XG) (r1 : RSt) (l5_55 : Int32) (x10 : Int32) (l7_55 : Int32) (l6_55 : Int32) (N55 : Nat) (x58 : Int32) (x61 : Int32) (p0 : Int32) (p1 : Int32)
    (ha : K a = 13)
    (hrm : RdM (tM (G.2.1 (F a 35)) ((G.1 a 36).toInt)) ((G.1 a 36).toInt) r1 ((G.1 a 39).toInt) ((G.1 a 37).toInt) ((G.1 a 38).toInt))
    (oq10 : ((G10.1 a 37).toInt) = rn cBl (tM (G.2.1 (F a 35)) ((G.1 a 36).toInt)) ((G.1 a 37).toInt))
    (pd : ∀ j : Int, nS (tM (G.2.1 (F a 35)) ((G.1 a 36).toInt)) ((G10.1 a 37).toInt) ≤ j → j < l5_55.toInt → cDg ((tM (G.2.1 (F a 35)) ((G.1 a 36).toInt)) j))
    (nt0 : 0 ≤ ((G.1 a 36).toInt) ∧ ((G.1 a 36).toInt) ≤ 80)
    (z0 : 0 ≤ ((G.1 a 37).toInt) ∧ ((G.1 a 37).toInt) ≤ ((G.1 a 36).toInt))
    (f10 : ((G.1 a 39).toInt) = 0 ∨ ((G.1 a 39).toInt) = 1)
    (c4 : ((G.1 a 39).toInt) ≠ 0)
    (t10 : -128 ≤ x10.toInt ∧ x10.toInt ≤ 127 ∧ ((0 ≤ x10.toInt ∧ (tM (G.2.1 (F a 35)) ((G.1 a 36).toInt) ((G10.1 a 37).toInt)) = x10.toInt) ∨ (x10.toInt < 0 ∧ (tM (G.2.1 (F a 35)) ((G.1 a 36).toInt) ((G10.1 a 37).toInt)) = x10.toInt + 256)) ∧ ((G.1 a 37).toInt) ≤ ((G10.1 a 37).toInt) ∧ ((G10.1 a 37).toInt) ≤ ((G.1 a 36).toInt))
    (z13 : ((tM (G.2.1 (F a 35)) ((G.1 a 36).toInt) ((G10.1 a 37).toInt)) = 45 ∧ (nS (tM (G.2.1 (F a 35)) ((G.1 a 36).toInt)) ((G10.1 a 37).toInt)) = ((G10.1 a 37).toInt) + 1) ∨ ((tM (G.2.1 (F a 35)) ((G.1 a 36).toInt) ((G10.1 a 37).toInt)) ≠ 45 ∧ (nS (tM (G.2.1 (F a 35)) ((G.1 a 36).toInt)) ((G10.1 a 37).toInt)) = ((G10.1 a 37).toInt)))
    (z13a : (nv (tM (G.2.1 (F a 35)) ((G.1 a 36).toInt)) (nS (tM (G.2.1 (F a 35)) ((G.1 a 36).toInt)) ((G10.1 a 37).toInt)) 0) = 0)
    (c15 : x10.toInt ≠ (45 : Int))
    (I55_0 : l5_55.toInt = (nS (tM (G.2.1 (F a 35)) ((G.1 a 36).toInt)) ((G10.1 a 37).toInt)) + l7_55.toInt)
    (I55_1 : 0 ≤ l7_55.toInt ∧ l5_55.toInt ≤ ((G.1 a 36).toInt) + 1)
    (I55_2 : (l7_55.toInt = 0 ∧ l6_55.toInt = 0) ∨ (l7_55.toInt = 1 ∧ 0 ≤ l6_55.toInt ∧ l6_55.toInt ≤ 9) ∨ (l7_55.toInt = 2 ∧ 0 ≤ l6_55.toInt ∧ l6_55.toInt ≤ 99) ∨ (l7_55.toInt = 3 ∧ 0 ≤ l6_55.toInt ∧ l6_55.toInt ≤ 999) ∨ (l7_55.toInt = 4 ∧ 0 ≤ l6_55.toInt ∧ l6_55.toInt ≤ 9999) ∨ (5 ≤ l7_55.toInt ∧ 0 ≤ l6_55.toInt ∧ l6_55.toInt ≤ 999999))
    (I55_3 : l7_55.toInt ≤ 4 → l6_55.toInt = (nv (tM (G.2.1 (F a 35)) ((G.1 a 36).toInt)) (nS (tM (G.2.1 (F a 35)) ((G.1 a 36).toInt)) ((G10.1 a 37).toInt)) (l7_55.toInt)))
    (I55_4 : l5_55.toInt ≤ ((G.1 a 36).toInt) ∨ l7_55.toInt = 0)
    (hm55 : 200 - l5_55.toInt < (((N55) + 1 : Nat) : Int))
    (z55 : ((0 ≤ l5_55.toInt ∧ l5_55.toInt < ((G.1 a 36).toInt)) ∧ True) ∨ (¬ (0 ≤ l5_55.toInt ∧ l5_55.toInt < ((G.1 a 36).toInt)) ∧ (tM (G.2.1 (F a 35)) ((G.1 a 36).toInt) (l5_55.toInt)) = 0))
    (t58 : -128 ≤ x58.toInt ∧ x58.toInt ≤ 127 ∧ ((0 ≤ x58.toInt ∧ (tM (G.2.1 (F a 35)) ((G.1 a 36).toInt) (l5_55.toInt)) = x58.toInt) ∨ (x58.toInt < 0 ∧ (tM (G.2.1 (F a 35)) ((G.1 a 36).toInt) (l5_55.toInt)) = x58.toInt + 256)))
    (t61 : (x61.toInt = 1 ∧ 48 ≤ x58.toInt ∧ x58.toInt ≤ 57) ∨ (x61.toInt = 0 ∧ (x58.toInt < 48 ∨ 57 < x58.toInt)))
    (c64 : x61.toInt = 0)
    (c122 : l7_55.toInt = 0)
    (t147 : ((G147.1 a 39).toInt) = 0 ∧ (((G.1 a 39).toInt) ≠ 0 → ((G147.1 a 38).toInt) = ((G10.1 a 37).toInt)) ∧ (((G.1 a 39).toInt) = 0 → ((G147.1 a 38).toInt) = ((G.1 a 38).toInt))) :
    (0 : Int) = (tkN (tM (G.2.1 (F a 35)) ((G.1 a 36).toInt)) p0.toInt p1.toInt r1).1 := by
  have hv6 := num_b I55_2
  clear I55_2 hm55
  have hE : nE (tM (G.2.1 (F a 35)) ((G.1 a 36).toInt)) ((G10.1 a 37).toInt) = l5_55.toInt := by
    unfold nE
    refine rn_eq ⟨by omega, pd, cDg_n ?_⟩
    omega
  have nf := nS_f (tM (G.2.1 (F a 35)) ((G.1 a 36).toInt)) ((G10.1 a 37).toInt)
  have hs2 : r1.1 = 1 ∧ r1.2 = (G10.1 a 37).toInt := by
    have h1 := hrm.2.1.mp (by omega)
    exact ⟨h1, by rw [oq10]; exact hrm.2.2.1 h1⟩
  have hk : l7_55.toInt = nE (tM (G.2.1 (F a 35)) ((G.1 a 36).toInt)) ((G10.1 a 37).toInt) - nS (tM (G.2.1 (F a 35)) ((G.1 a 36).toInt)) ((G10.1 a 37).toInt) := by omega
  have nb : ¬ (r1.1 = 1 ∧ nOk (tM (G.2.1 (F a 35)) ((G.1 a 36).toInt)) r1.2 ∧ p0.toInt ≤ nVl (tM (G.2.1 (F a 35)) ((G.1 a 36).toInt)) r1.2 ∧ nVl (tM (G.2.1 (F a 35)) ((G.1 a 36).toInt)) r1.2 ≤ p1.toInt) := by
    rintro ⟨h1, h2, h3, h4⟩
    rw [hs2.2] at h2 h3 h4
    have h5 := h2.1
    have h6 := h2.2
    rw [hk] at I55_3
    omega
  rw [tkN_f nb]
theorem v_X11_number_151_2 {K : Nat → Nat} {F : Nat → Nat → Nat} (a : Nat) (G : XG) (G10 : XG) (G147 : XG) (r1 : RSt) (l5_55 : Int32) (x10 : Int32) (l7_55 : Int32) (l6_55 : Int32) (N55 : Nat) (x58 : Int32) (x61 : Int32) (p0 : Int32) (p1 : Int32)
    (ha : K a = 13)
    (hrm : RdM (tM (G.2.1 (F a 35)) ((G.1 a 36).toInt)) ((G.1 a 36).toInt) r1 ((G.1 a 39).toInt) ((G.1 a 37).toInt) ((G.1 a 38).toInt))
    (oq10 : ((G10.1 a 37).toInt) = rn cBl (tM (G.2.1 (F a 35)) ((G.1 a 36).toInt)) ((G.1 a 37).toInt))
    (pd : ∀ j : Int, nS (tM (G.2.1 (F a 35)) ((G.1 a 36).toInt)) ((G10.1 a 37).toInt) ≤ j → j < l5_55.toInt → cDg ((tM (G.2.1 (F a 35)) ((G.1 a 36).toInt)) j))
    (nt0 : 0 ≤ ((G.1 a 36).toInt) ∧ ((G.1 a 36).toInt) ≤ 80)
    (z0 : 0 ≤ ((G.1 a 37).toInt) ∧ ((G.1 a 37).toInt) ≤ ((G.1 a 36).toInt))
    (f10 : ((G.1 a 39).toInt) = 0 ∨ ((G.1 a 39).toInt) = 1)
    (c4 : ((G.1 a 39).toInt) ≠ 0)
    (t10 : -128 ≤ x10.toInt ∧ x10.toInt ≤ 127 ∧ ((0 ≤ x10.toInt ∧ (tM (G.2.1 (F a 35)) ((G.1 a 36).toInt) ((G10.1 a 37).toInt)) = x10.toInt) ∨ (x10.toInt < 0 ∧ (tM (G.2.1 (F a 35)) ((G.1 a 36).toInt) ((G10.1 a 37).toInt)) = x10.toInt + 256)) ∧ ((G.1 a 37).toInt) ≤ ((G10.1 a 37).toInt) ∧ ((G10.1 a 37).toInt) ≤ ((G.1 a 36).toInt))
    (z13 : ((tM (G.2.1 (F a 35)) ((G.1 a 36).toInt) ((G10.1 a 37).toInt)) = 45 ∧ (nS (tM (G.2.1 (F a 35)) ((G.1 a 36).toInt)) ((G10.1 a 37).toInt)) = ((G10.1 a 37).toInt) + 1) ∨ ((tM (G.2.1 (F a 35)) ((G.1 a 36).toInt) ((G10.1 a 37).toInt)) ≠ 45 ∧ (nS (tM (G.2.1 (F a 35)) ((G.1 a 36).toInt)) ((G10.1 a 37).toInt)) = ((G10.1 a 37).toInt)))
    (z13a : (nv (tM (G.2.1 (F a 35)) ((G.1 a 36).toInt)) (nS (tM (G.2.1 (F a 35)) ((G.1 a 36).toInt)) ((G10.1 a 37).toInt)) 0) = 0)
    (c15 : x10.toInt ≠ (45 : Int))
    (I55_0 : l5_55.toInt = (nS (tM (G.2.1 (F a 35)) ((G.1 a 36).toInt)) ((G10.1 a 37).toInt)) + l7_55.toInt)
    (I55_1 : 0 ≤ l7_55.toInt ∧ l5_55.toInt ≤ ((G.1 a 36).toInt) + 1)
    (I55_2 : (l7_55.toInt = 0 ∧ l6_55.toInt = 0) ∨ (l7_55.toInt = 1 ∧ 0 ≤ l6_55.toInt ∧ l6_55.toInt ≤ 9) ∨ (l7_55.toInt = 2 ∧ 0 ≤ l6_55.toInt ∧ l6_55.toInt ≤ 99) ∨ (l7_55.toInt = 3 ∧ 0 ≤ l6_55.toInt ∧ l6_55.toInt ≤ 999) ∨ (l7_55.toInt = 4 ∧ 0 ≤ l6_55.toInt ∧ l6_55.toInt ≤ 9999) ∨ (5 ≤ l7_55.toInt ∧ 0 ≤ l6_55.toInt ∧ l6_55.toInt ≤ 999999))
    (I55_3 : l7_55.toInt ≤ 4 → l6_55.toInt = (nv (tM (G.2.1 (F a 35)) ((G.1 a 36).toInt)) (nS (tM (G.2.1 (F a 35)) ((G.1 a 36).toInt)) ((G10.1 a 37).toInt)) (l7_55.toInt)))
    (I55_4 : l5_55.toInt ≤ ((G.1 a 36).toInt) ∨ l7_55.toInt = 0)
    (hm55 : 200 - l5_55.toInt < (((N55) + 1 : Nat) : Int))
    (z55 : ((0 ≤ l5_55.toInt ∧ l5_55.toInt < ((G.1 a 36).toInt)) ∧ True) ∨ (¬ (0 ≤ l5_55.toInt ∧ l5_55.toInt < ((G.1 a 36).toInt)) ∧ (tM (G.2.1 (F a 35)) ((G.1 a 36).toInt) (l5_55.toInt)) = 0))
    (t58 : -128 ≤ x58.toInt ∧ x58.toInt ≤ 127 ∧ ((0 ≤ x58.toInt ∧ (tM (G.2.1 (F a 35)) ((G.1 a 36).toInt) (l5_55.toInt)) = x58.toInt) ∨ (x58.toInt < 0 ∧ (tM (G.2.1 (F a 35)) ((G.1 a 36).toInt) (l5_55.toInt)) = x58.toInt + 256)))
    (t61 : (x61.toInt = 1 ∧ 48 ≤ x58.toInt ∧ x58.toInt ≤ 57) ∨ (x61.toInt = 0 ∧ (x58.toInt < 48 ∨ 57 < x58.toInt)))
    (c64 : x61.toInt = 0)
    (c122 : l7_55.toInt = 0)
    (t147 : ((G147.1 a 39).toInt) = 0 ∧ (((G.1 a 39).toInt) ≠ 0 → ((G147.1 a 38).toInt) = ((G10.1 a 37).toInt)) ∧ (((G.1 a 39).toInt) = 0 → ((G147.1 a 38).toInt) = ((G.1 a 38).toInt)))
    (d_G147_a_37 : G147.1 a 37 = G10.1 a 37) :
    RdM (tM (G.2.1 (F a 35)) ((G.1 a 36).toInt)) ((G.1 a 36).toInt) (tkN (tM (G.2.1 (F a 35)) ((G.1 a 36).toInt)) p0.toInt p1.toInt r1).2 ((G147.1 a 39).toInt) ((G147.1 a 37).toInt) ((G147.1 a 38).toInt) := by
  have hv6 := num_b I55_2
  clear I55_2 hm55
  have hE : nE (tM (G.2.1 (F a 35)) ((G.1 a 36).toInt)) ((G10.1 a 37).toInt) = l5_55.toInt := by
    unfold nE
    refine rn_eq ⟨by omega, pd, cDg_n ?_⟩
    omega
  have nf := nS_f (tM (G.2.1 (F a 35)) ((G.1 a 36).toInt)) ((G10.1 a 37).toInt)
  have hs2 : r1.1 = 1 ∧ r1.2 = (G10.1 a 37).toInt := by
    have h1 := hrm.2.1.mp (by omega)
    exact ⟨h1, by rw [oq10]; exact hrm.2.2.1 h1⟩
  have hk : l7_55.toInt = nE (tM (G.2.1 (F a 35)) ((G.1 a 36).toInt)) ((G10.1 a 37).toInt) - nS (tM (G.2.1 (F a 35)) ((G.1 a 36).toInt)) ((G10.1 a 37).toInt) := by omega
  have nb : ¬ (r1.1 = 1 ∧ nOk (tM (G.2.1 (F a 35)) ((G.1 a 36).toInt)) r1.2 ∧ p0.toInt ≤ nVl (tM (G.2.1 (F a 35)) ((G.1 a 36).toInt)) r1.2 ∧ nVl (tM (G.2.1 (F a 35)) ((G.1 a 36).toInt)) r1.2 ≤ p1.toInt) := by
    rintro ⟨h1, h2, h3, h4⟩
    rw [hs2.2] at h2 h3 h4
    have h5 := h2.1
    have h6 := h2.2
    rw [hk] at I55_3
    omega
  rw [tkN_f nb, hs2.2, d_G147_a_37]
  exact rdm_bad rfl (by omega) (by omega) (by omega) (by omega)
theorem v_X11_number_151_3 {K : Nat → Nat} {F : Nat → Nat → Nat} (a : Nat) (G : XG) (G10 : XG) (G147 : XG) (r1 : RSt) (l5_55 : Int32) (x10 : Int32) (l7_55 : Int32) (l6_55 : Int32) (N55 : Nat) (x58 : Int32) (x61 : Int32) (p0 : Int32) (p1 : Int32)
    (ha : K a = 13)
    (hrm : RdM (tM (G.2.1 (F a 35)) ((G.1 a 36).toInt)) ((G.1 a 36).toInt) r1 ((G.1 a 39).toInt) ((G.1 a 37).toInt) ((G.1 a 38).toInt))
    (oq10 : ((G10.1 a 37).toInt) = rn cBl (tM (G.2.1 (F a 35)) ((G.1 a 36).toInt)) ((G.1 a 37).toInt))
    (pd : ∀ j : Int, nS (tM (G.2.1 (F a 35)) ((G.1 a 36).toInt)) ((G10.1 a 37).toInt) ≤ j → j < l5_55.toInt → cDg ((tM (G.2.1 (F a 35)) ((G.1 a 36).toInt)) j))
    (nt0 : 0 ≤ ((G.1 a 36).toInt) ∧ ((G.1 a 36).toInt) ≤ 80)
    (z0 : 0 ≤ ((G.1 a 37).toInt) ∧ ((G.1 a 37).toInt) ≤ ((G.1 a 36).toInt))
    (f10 : ((G.1 a 39).toInt) = 0 ∨ ((G.1 a 39).toInt) = 1)
    (c4 : ((G.1 a 39).toInt) ≠ 0)
    (t10 : -128 ≤ x10.toInt ∧ x10.toInt ≤ 127 ∧ ((0 ≤ x10.toInt ∧ (tM (G.2.1 (F a 35)) ((G.1 a 36).toInt) ((G10.1 a 37).toInt)) = x10.toInt) ∨ (x10.toInt < 0 ∧ (tM (G.2.1 (F a 35)) ((G.1 a 36).toInt) ((G10.1 a 37).toInt)) = x10.toInt + 256)) ∧ ((G.1 a 37).toInt) ≤ ((G10.1 a 37).toInt) ∧ ((G10.1 a 37).toInt) ≤ ((G.1 a 36).toInt))
    (z13 : ((tM (G.2.1 (F a 35)) ((G.1 a 36).toInt) ((G10.1 a 37).toInt)) = 45 ∧ (nS (tM (G.2.1 (F a 35)) ((G.1 a 36).toInt)) ((G10.1 a 37).toInt)) = ((G10.1 a 37).toInt) + 1) ∨ ((tM (G.2.1 (F a 35)) ((G.1 a 36).toInt) ((G10.1 a 37).toInt)) ≠ 45 ∧ (nS (tM (G.2.1 (F a 35)) ((G.1 a 36).toInt)) ((G10.1 a 37).toInt)) = ((G10.1 a 37).toInt)))
    (z13a : (nv (tM (G.2.1 (F a 35)) ((G.1 a 36).toInt)) (nS (tM (G.2.1 (F a 35)) ((G.1 a 36).toInt)) ((G10.1 a 37).toInt)) 0) = 0)
    (c15 : x10.toInt ≠ (45 : Int))
    (I55_0 : l5_55.toInt = (nS (tM (G.2.1 (F a 35)) ((G.1 a 36).toInt)) ((G10.1 a 37).toInt)) + l7_55.toInt)
    (I55_1 : 0 ≤ l7_55.toInt ∧ l5_55.toInt ≤ ((G.1 a 36).toInt) + 1)
    (I55_2 : (l7_55.toInt = 0 ∧ l6_55.toInt = 0) ∨ (l7_55.toInt = 1 ∧ 0 ≤ l6_55.toInt ∧ l6_55.toInt ≤ 9) ∨ (l7_55.toInt = 2 ∧ 0 ≤ l6_55.toInt ∧ l6_55.toInt ≤ 99) ∨ (l7_55.toInt = 3 ∧ 0 ≤ l6_55.toInt ∧ l6_55.toInt ≤ 999) ∨ (l7_55.toInt = 4 ∧ 0 ≤ l6_55.toInt ∧ l6_55.toInt ≤ 9999) ∨ (5 ≤ l7_55.toInt ∧ 0 ≤ l6_55.toInt ∧ l6_55.toInt ≤ 999999))
    (I55_3 : l7_55.toInt ≤ 4 → l6_55.toInt = (nv (tM (G.2.1 (F a 35)) ((G.1 a 36).toInt)) (nS (tM (G.2.1 (F a 35)) ((G.1 a 36).toInt)) ((G10.1 a 37).toInt)) (l7_55.toInt)))
    (I55_4 : l5_55.toInt ≤ ((G.1 a 36).toInt) ∨ l7_55.toInt = 0)
    (hm55 : 200 - l5_55.toInt < (((N55) + 1 : Nat) : Int))
    (z55 : ((0 ≤ l5_55.toInt ∧ l5_55.toInt < ((G.1 a 36).toInt)) ∧ True) ∨ (¬ (0 ≤ l5_55.toInt ∧ l5_55.toInt < ((G.1 a 36).toInt)) ∧ (tM (G.2.1 (F a 35)) ((G.1 a 36).toInt) (l5_55.toInt)) = 0))
    (t58 : -128 ≤ x58.toInt ∧ x58.toInt ≤ 127 ∧ ((0 ≤ x58.toInt ∧ (tM (G.2.1 (F a 35)) ((G.1 a 36).toInt) (l5_55.toInt)) = x58.toInt) ∨ (x58.toInt < 0 ∧ (tM (G.2.1 (F a 35)) ((G.1 a 36).toInt) (l5_55.toInt)) = x58.toInt + 256)))
    (t61 : (x61.toInt = 1 ∧ 48 ≤ x58.toInt ∧ x58.toInt ≤ 57) ∨ (x61.toInt = 0 ∧ (x58.toInt < 48 ∨ 57 < x58.toInt)))
    (c64 : x61.toInt = 0)
    (c122 : ¬ (l7_55.toInt = 0))
    (c128 : (4 : Int) < l7_55.toInt)
    (t147 : ((G147.1 a 39).toInt) = 0 ∧ (((G.1 a 39).toInt) ≠ 0 → ((G147.1 a 38).toInt) = ((G10.1 a 37).toInt)) ∧ (((G.1 a 39).toInt) = 0 → ((G147.1 a 38).toInt) = ((G.1 a 38).toInt))) :
    (0 : Int) = (tkN (tM (G.2.1 (F a 35)) ((G.1 a 36).toInt)) p0.toInt p1.toInt r1).1 := by
  have hv6 := num_b I55_2
  clear I55_2 hm55
  have hE : nE (tM (G.2.1 (F a 35)) ((G.1 a 36).toInt)) ((G10.1 a 37).toInt) = l5_55.toInt := by
    unfold nE
    refine rn_eq ⟨by omega, pd, cDg_n ?_⟩
    omega
  have nf := nS_f (tM (G.2.1 (F a 35)) ((G.1 a 36).toInt)) ((G10.1 a 37).toInt)
  have hs2 : r1.1 = 1 ∧ r1.2 = (G10.1 a 37).toInt := by
    have h1 := hrm.2.1.mp (by omega)
    exact ⟨h1, by rw [oq10]; exact hrm.2.2.1 h1⟩
  have hk : l7_55.toInt = nE (tM (G.2.1 (F a 35)) ((G.1 a 36).toInt)) ((G10.1 a 37).toInt) - nS (tM (G.2.1 (F a 35)) ((G.1 a 36).toInt)) ((G10.1 a 37).toInt) := by omega
  have nb : ¬ (r1.1 = 1 ∧ nOk (tM (G.2.1 (F a 35)) ((G.1 a 36).toInt)) r1.2 ∧ p0.toInt ≤ nVl (tM (G.2.1 (F a 35)) ((G.1 a 36).toInt)) r1.2 ∧ nVl (tM (G.2.1 (F a 35)) ((G.1 a 36).toInt)) r1.2 ≤ p1.toInt) := by
    rintro ⟨h1, h2, h3, h4⟩
    rw [hs2.2] at h2 h3 h4
    have h5 := h2.1
    have h6 := h2.2
    rw [hk] at I55_3
    omega
  rw [tkN_f nb]
theorem v_X11_number_151_4 {K : Nat → Nat} {F : Nat → Nat → Nat} (a : Nat) (G : XG) (G10 : XG) (G147 : XG) (r1 : RSt) (l5_55 : Int32) (x10 : Int32) (l7_55 : Int32) (l6_55 : Int32) (N55 : Nat) (x58 : Int32) (x61 : Int32) (p0 : Int32) (p1 : Int32)
    (ha : K a = 13)
    (hrm : RdM (tM (G.2.1 (F a 35)) ((G.1 a 36).toInt)) ((G.1 a 36).toInt) r1 ((G.1 a 39).toInt) ((G.1 a 37).toInt) ((G.1 a 38).toInt))
    (oq10 : ((G10.1 a 37).toInt) = rn cBl (tM (G.2.1 (F a 35)) ((G.1 a 36).toInt)) ((G.1 a 37).toInt))
    (pd : ∀ j : Int, nS (tM (G.2.1 (F a 35)) ((G.1 a 36).toInt)) ((G10.1 a 37).toInt) ≤ j → j < l5_55.toInt → cDg ((tM (G.2.1 (F a 35)) ((G.1 a 36).toInt)) j))
    (nt0 : 0 ≤ ((G.1 a 36).toInt) ∧ ((G.1 a 36).toInt) ≤ 80)
    (z0 : 0 ≤ ((G.1 a 37).toInt) ∧ ((G.1 a 37).toInt) ≤ ((G.1 a 36).toInt))
    (f10 : ((G.1 a 39).toInt) = 0 ∨ ((G.1 a 39).toInt) = 1)
    (c4 : ((G.1 a 39).toInt) ≠ 0)
    (t10 : -128 ≤ x10.toInt ∧ x10.toInt ≤ 127 ∧ ((0 ≤ x10.toInt ∧ (tM (G.2.1 (F a 35)) ((G.1 a 36).toInt) ((G10.1 a 37).toInt)) = x10.toInt) ∨ (x10.toInt < 0 ∧ (tM (G.2.1 (F a 35)) ((G.1 a 36).toInt) ((G10.1 a 37).toInt)) = x10.toInt + 256)) ∧ ((G.1 a 37).toInt) ≤ ((G10.1 a 37).toInt) ∧ ((G10.1 a 37).toInt) ≤ ((G.1 a 36).toInt))
    (z13 : ((tM (G.2.1 (F a 35)) ((G.1 a 36).toInt) ((G10.1 a 37).toInt)) = 45 ∧ (nS (tM (G.2.1 (F a 35)) ((G.1 a 36).toInt)) ((G10.1 a 37).toInt)) = ((G10.1 a 37).toInt) + 1) ∨ ((tM (G.2.1 (F a 35)) ((G.1 a 36).toInt) ((G10.1 a 37).toInt)) ≠ 45 ∧ (nS (tM (G.2.1 (F a 35)) ((G.1 a 36).toInt)) ((G10.1 a 37).toInt)) = ((G10.1 a 37).toInt)))
    (z13a : (nv (tM (G.2.1 (F a 35)) ((G.1 a 36).toInt)) (nS (tM (G.2.1 (F a 35)) ((G.1 a 36).toInt)) ((G10.1 a 37).toInt)) 0) = 0)
    (c15 : x10.toInt ≠ (45 : Int))
    (I55_0 : l5_55.toInt = (nS (tM (G.2.1 (F a 35)) ((G.1 a 36).toInt)) ((G10.1 a 37).toInt)) + l7_55.toInt)
    (I55_1 : 0 ≤ l7_55.toInt ∧ l5_55.toInt ≤ ((G.1 a 36).toInt) + 1)
    (I55_2 : (l7_55.toInt = 0 ∧ l6_55.toInt = 0) ∨ (l7_55.toInt = 1 ∧ 0 ≤ l6_55.toInt ∧ l6_55.toInt ≤ 9) ∨ (l7_55.toInt = 2 ∧ 0 ≤ l6_55.toInt ∧ l6_55.toInt ≤ 99) ∨ (l7_55.toInt = 3 ∧ 0 ≤ l6_55.toInt ∧ l6_55.toInt ≤ 999) ∨ (l7_55.toInt = 4 ∧ 0 ≤ l6_55.toInt ∧ l6_55.toInt ≤ 9999) ∨ (5 ≤ l7_55.toInt ∧ 0 ≤ l6_55.toInt ∧ l6_55.toInt ≤ 999999))
    (I55_3 : l7_55.toInt ≤ 4 → l6_55.toInt = (nv (tM (G.2.1 (F a 35)) ((G.1 a 36).toInt)) (nS (tM (G.2.1 (F a 35)) ((G.1 a 36).toInt)) ((G10.1 a 37).toInt)) (l7_55.toInt)))
    (I55_4 : l5_55.toInt ≤ ((G.1 a 36).toInt) ∨ l7_55.toInt = 0)
    (hm55 : 200 - l5_55.toInt < (((N55) + 1 : Nat) : Int))
    (z55 : ((0 ≤ l5_55.toInt ∧ l5_55.toInt < ((G.1 a 36).toInt)) ∧ True) ∨ (¬ (0 ≤ l5_55.toInt ∧ l5_55.toInt < ((G.1 a 36).toInt)) ∧ (tM (G.2.1 (F a 35)) ((G.1 a 36).toInt) (l5_55.toInt)) = 0))
    (t58 : -128 ≤ x58.toInt ∧ x58.toInt ≤ 127 ∧ ((0 ≤ x58.toInt ∧ (tM (G.2.1 (F a 35)) ((G.1 a 36).toInt) (l5_55.toInt)) = x58.toInt) ∨ (x58.toInt < 0 ∧ (tM (G.2.1 (F a 35)) ((G.1 a 36).toInt) (l5_55.toInt)) = x58.toInt + 256)))
    (t61 : (x61.toInt = 1 ∧ 48 ≤ x58.toInt ∧ x58.toInt ≤ 57) ∨ (x61.toInt = 0 ∧ (x58.toInt < 48 ∨ 57 < x58.toInt)))
    (c64 : x61.toInt = 0)
    (c122 : ¬ (l7_55.toInt = 0))
    (c128 : (4 : Int) < l7_55.toInt)
    (t147 : ((G147.1 a 39).toInt) = 0 ∧ (((G.1 a 39).toInt) ≠ 0 → ((G147.1 a 38).toInt) = ((G10.1 a 37).toInt)) ∧ (((G.1 a 39).toInt) = 0 → ((G147.1 a 38).toInt) = ((G.1 a 38).toInt)))
    (d_G147_a_37 : G147.1 a 37 = G10.1 a 37) :
    RdM (tM (G.2.1 (F a 35)) ((G.1 a 36).toInt)) ((G.1 a 36).toInt) (tkN (tM (G.2.1 (F a 35)) ((G.1 a 36).toInt)) p0.toInt p1.toInt r1).2 ((G147.1 a 39).toInt) ((G147.1 a 37).toInt) ((G147.1 a 38).toInt) := by
  have hv6 := num_b I55_2
  clear I55_2 hm55
  have hE : nE (tM (G.2.1 (F a 35)) ((G.1 a 36).toInt)) ((G10.1 a 37).toInt) = l5_55.toInt := by
    unfold nE
    refine rn_eq ⟨by omega, pd, cDg_n ?_⟩
    omega
  have nf := nS_f (tM (G.2.1 (F a 35)) ((G.1 a 36).toInt)) ((G10.1 a 37).toInt)
  have hs2 : r1.1 = 1 ∧ r1.2 = (G10.1 a 37).toInt := by
    have h1 := hrm.2.1.mp (by omega)
    exact ⟨h1, by rw [oq10]; exact hrm.2.2.1 h1⟩
  have hk : l7_55.toInt = nE (tM (G.2.1 (F a 35)) ((G.1 a 36).toInt)) ((G10.1 a 37).toInt) - nS (tM (G.2.1 (F a 35)) ((G.1 a 36).toInt)) ((G10.1 a 37).toInt) := by omega
  have nb : ¬ (r1.1 = 1 ∧ nOk (tM (G.2.1 (F a 35)) ((G.1 a 36).toInt)) r1.2 ∧ p0.toInt ≤ nVl (tM (G.2.1 (F a 35)) ((G.1 a 36).toInt)) r1.2 ∧ nVl (tM (G.2.1 (F a 35)) ((G.1 a 36).toInt)) r1.2 ≤ p1.toInt) := by
    rintro ⟨h1, h2, h3, h4⟩
    rw [hs2.2] at h2 h3 h4
    have h5 := h2.1
    have h6 := h2.2
    rw [hk] at I55_3
    omega
  rw [tkN_f nb, hs2.2, d_G147_a_37]
  exact rdm_bad rfl (by omega) (by omega) (by omega) (by omega)
theorem v_X11_number_160_5 {K : Nat → Nat} {F : Nat → Nat → Nat} (a : Nat) (G : XG) (G10 : XG) (l5_55 : Int32) (r1 : RSt) (x10 : Int32) (l7_55 : Int32) (l6_55 : Int32) (N55 : Nat) (x58 : Int32) (x61 : Int32) (x138 : Int32) (p0 : Int32) (p1 : Int32)
    (ha : K a = 13)
    (hrm : RdM (tM (G.2.1 (F a 35)) ((G.1 a 36).toInt)) ((G.1 a 36).toInt) r1 ((G.1 a 39).toInt) ((G.1 a 37).toInt) ((G.1 a 38).toInt))
    (oq10 : ((G10.1 a 37).toInt) = rn cBl (tM (G.2.1 (F a 35)) ((G.1 a 36).toInt)) ((G.1 a 37).toInt))
    (pd : ∀ j : Int, nS (tM (G.2.1 (F a 35)) ((G.1 a 36).toInt)) ((G10.1 a 37).toInt) ≤ j → j < l5_55.toInt → cDg ((tM (G.2.1 (F a 35)) ((G.1 a 36).toInt)) j))
    (nt0 : 0 ≤ ((G.1 a 36).toInt) ∧ ((G.1 a 36).toInt) ≤ 80)
    (z0 : 0 ≤ ((G.1 a 37).toInt) ∧ ((G.1 a 37).toInt) ≤ ((G.1 a 36).toInt))
    (f10 : ((G.1 a 39).toInt) = 0 ∨ ((G.1 a 39).toInt) = 1)
    (c4 : ((G.1 a 39).toInt) ≠ 0)
    (t10 : -128 ≤ x10.toInt ∧ x10.toInt ≤ 127 ∧ ((0 ≤ x10.toInt ∧ (tM (G.2.1 (F a 35)) ((G.1 a 36).toInt) ((G10.1 a 37).toInt)) = x10.toInt) ∨ (x10.toInt < 0 ∧ (tM (G.2.1 (F a 35)) ((G.1 a 36).toInt) ((G10.1 a 37).toInt)) = x10.toInt + 256)) ∧ ((G.1 a 37).toInt) ≤ ((G10.1 a 37).toInt) ∧ ((G10.1 a 37).toInt) ≤ ((G.1 a 36).toInt))
    (z13 : ((tM (G.2.1 (F a 35)) ((G.1 a 36).toInt) ((G10.1 a 37).toInt)) = 45 ∧ (nS (tM (G.2.1 (F a 35)) ((G.1 a 36).toInt)) ((G10.1 a 37).toInt)) = ((G10.1 a 37).toInt) + 1) ∨ ((tM (G.2.1 (F a 35)) ((G.1 a 36).toInt) ((G10.1 a 37).toInt)) ≠ 45 ∧ (nS (tM (G.2.1 (F a 35)) ((G.1 a 36).toInt)) ((G10.1 a 37).toInt)) = ((G10.1 a 37).toInt)))
    (z13a : (nv (tM (G.2.1 (F a 35)) ((G.1 a 36).toInt)) (nS (tM (G.2.1 (F a 35)) ((G.1 a 36).toInt)) ((G10.1 a 37).toInt)) 0) = 0)
    (c15 : x10.toInt ≠ (45 : Int))
    (I55_0 : l5_55.toInt = (nS (tM (G.2.1 (F a 35)) ((G.1 a 36).toInt)) ((G10.1 a 37).toInt)) + l7_55.toInt)
    (I55_1 : 0 ≤ l7_55.toInt ∧ l5_55.toInt ≤ ((G.1 a 36).toInt) + 1)
    (I55_2 : (l7_55.toInt = 0 ∧ l6_55.toInt = 0) ∨ (l7_55.toInt = 1 ∧ 0 ≤ l6_55.toInt ∧ l6_55.toInt ≤ 9) ∨ (l7_55.toInt = 2 ∧ 0 ≤ l6_55.toInt ∧ l6_55.toInt ≤ 99) ∨ (l7_55.toInt = 3 ∧ 0 ≤ l6_55.toInt ∧ l6_55.toInt ≤ 999) ∨ (l7_55.toInt = 4 ∧ 0 ≤ l6_55.toInt ∧ l6_55.toInt ≤ 9999) ∨ (5 ≤ l7_55.toInt ∧ 0 ≤ l6_55.toInt ∧ l6_55.toInt ≤ 999999))
    (I55_3 : l7_55.toInt ≤ 4 → l6_55.toInt = (nv (tM (G.2.1 (F a 35)) ((G.1 a 36).toInt)) (nS (tM (G.2.1 (F a 35)) ((G.1 a 36).toInt)) ((G10.1 a 37).toInt)) (l7_55.toInt)))
    (I55_4 : l5_55.toInt ≤ ((G.1 a 36).toInt) ∨ l7_55.toInt = 0)
    (hm55 : 200 - l5_55.toInt < (((N55) + 1 : Nat) : Int))
    (z55 : ((0 ≤ l5_55.toInt ∧ l5_55.toInt < ((G.1 a 36).toInt)) ∧ True) ∨ (¬ (0 ≤ l5_55.toInt ∧ l5_55.toInt < ((G.1 a 36).toInt)) ∧ (tM (G.2.1 (F a 35)) ((G.1 a 36).toInt) (l5_55.toInt)) = 0))
    (t58 : -128 ≤ x58.toInt ∧ x58.toInt ≤ 127 ∧ ((0 ≤ x58.toInt ∧ (tM (G.2.1 (F a 35)) ((G.1 a 36).toInt) (l5_55.toInt)) = x58.toInt) ∨ (x58.toInt < 0 ∧ (tM (G.2.1 (F a 35)) ((G.1 a 36).toInt) (l5_55.toInt)) = x58.toInt + 256)))
    (t61 : (x61.toInt = 1 ∧ 48 ≤ x58.toInt ∧ x58.toInt ≤ 57) ∨ (x61.toInt = 0 ∧ (x58.toInt < 48 ∨ 57 < x58.toInt)))
    (c64 : x61.toInt = 0)
    (c122 : ¬ (l7_55.toInt = 0))
    (c128 : ¬ ((4 : Int) < l7_55.toInt))
    (t138 : (x138.toInt = 1 ∧ p0.toInt ≤ l6_55.toInt ∧ l6_55.toInt ≤ p1.toInt) ∨ (x138.toInt = 0 ∧ (l6_55.toInt < p0.toInt ∨ p1.toInt < l6_55.toInt)))
    (c141 : x138.toInt ≠ 0) :
    l6_55.toInt = (tkN (tM (G.2.1 (F a 35)) ((G.1 a 36).toInt)) p0.toInt p1.toInt r1).1 := by
  have hv6 := num_b I55_2
  clear I55_2 hm55
  have hE : nE (tM (G.2.1 (F a 35)) ((G.1 a 36).toInt)) ((G10.1 a 37).toInt) = l5_55.toInt := by
    unfold nE
    refine rn_eq ⟨by omega, pd, cDg_n ?_⟩
    omega
  have nf := nS_f (tM (G.2.1 (F a 35)) ((G.1 a 36).toInt)) ((G10.1 a 37).toInt)
  have hs2 : r1.1 = 1 ∧ r1.2 = (G10.1 a 37).toInt := by
    have h1 := hrm.2.1.mp (by omega)
    exact ⟨h1, by rw [oq10]; exact hrm.2.2.1 h1⟩
  have hk : l7_55.toInt = nE (tM (G.2.1 (F a 35)) ((G.1 a 36).toInt)) ((G10.1 a 37).toInt) - nS (tM (G.2.1 (F a 35)) ((G.1 a 36).toInt)) ((G10.1 a 37).toInt) := by omega
  rw [hk] at I55_3
  have hv : l6_55.toInt = nVl (tM (G.2.1 (F a 35)) ((G.1 a 36).toInt)) ((G10.1 a 37).toInt) := by omega
  have gd : tkN (tM (G.2.1 (F a 35)) ((G.1 a 36).toInt)) p0.toInt p1.toInt r1 = (nVl (tM (G.2.1 (F a 35)) ((G.1 a 36).toInt)) r1.2, (1, rn cBl (tM (G.2.1 (F a 35)) ((G.1 a 36).toInt)) (nE (tM (G.2.1 (F a 35)) ((G.1 a 36).toInt)) r1.2))) := tkN_t hs2.1 (by rw [hs2.2]; exact ⟨by omega, by omega⟩) (by rw [hs2.2, ← hv]; omega) (by rw [hs2.2, ← hv]; omega)
  rw [gd, hs2.2]
  exact hv
theorem v_X11_number_160_6 {K : Nat → Nat} {F : Nat → Nat → Nat} (a : Nat) (G : XG) (G10 : XG) (G155 : XG) (l5_55 : Int32) (r1 : RSt) (x10 : Int32) (l7_55 : Int32) (l6_55 : Int32) (N55 : Nat) (x58 : Int32) (x61 : Int32) (x138 : Int32) (p0 : Int32) (p1 : Int32)
    (ha : K a = 13)
    (hrm : RdM (tM (G.2.1 (F a 35)) ((G.1 a 36).toInt)) ((G.1 a 36).toInt) r1 ((G.1 a 39).toInt) ((G.1 a 37).toInt) ((G.1 a 38).toInt))
    (oq10 : ((G10.1 a 37).toInt) = rn cBl (tM (G.2.1 (F a 35)) ((G.1 a 36).toInt)) ((G.1 a 37).toInt))
    (pd : ∀ j : Int, nS (tM (G.2.1 (F a 35)) ((G.1 a 36).toInt)) ((G10.1 a 37).toInt) ≤ j → j < l5_55.toInt → cDg ((tM (G.2.1 (F a 35)) ((G.1 a 36).toInt)) j))
    (nt0 : 0 ≤ ((G.1 a 36).toInt) ∧ ((G.1 a 36).toInt) ≤ 80)
    (z0 : 0 ≤ ((G.1 a 37).toInt) ∧ ((G.1 a 37).toInt) ≤ ((G.1 a 36).toInt))
    (f10 : ((G.1 a 39).toInt) = 0 ∨ ((G.1 a 39).toInt) = 1)
    (c4 : ((G.1 a 39).toInt) ≠ 0)
    (t10 : -128 ≤ x10.toInt ∧ x10.toInt ≤ 127 ∧ ((0 ≤ x10.toInt ∧ (tM (G.2.1 (F a 35)) ((G.1 a 36).toInt) ((G10.1 a 37).toInt)) = x10.toInt) ∨ (x10.toInt < 0 ∧ (tM (G.2.1 (F a 35)) ((G.1 a 36).toInt) ((G10.1 a 37).toInt)) = x10.toInt + 256)) ∧ ((G.1 a 37).toInt) ≤ ((G10.1 a 37).toInt) ∧ ((G10.1 a 37).toInt) ≤ ((G.1 a 36).toInt))
    (z13 : ((tM (G.2.1 (F a 35)) ((G.1 a 36).toInt) ((G10.1 a 37).toInt)) = 45 ∧ (nS (tM (G.2.1 (F a 35)) ((G.1 a 36).toInt)) ((G10.1 a 37).toInt)) = ((G10.1 a 37).toInt) + 1) ∨ ((tM (G.2.1 (F a 35)) ((G.1 a 36).toInt) ((G10.1 a 37).toInt)) ≠ 45 ∧ (nS (tM (G.2.1 (F a 35)) ((G.1 a 36).toInt)) ((G10.1 a 37).toInt)) = ((G10.1 a 37).toInt)))
    (z13a : (nv (tM (G.2.1 (F a 35)) ((G.1 a 36).toInt)) (nS (tM (G.2.1 (F a 35)) ((G.1 a 36).toInt)) ((G10.1 a 37).toInt)) 0) = 0)
    (c15 : x10.toInt ≠ (45 : Int))
    (I55_0 : l5_55.toInt = (nS (tM (G.2.1 (F a 35)) ((G.1 a 36).toInt)) ((G10.1 a 37).toInt)) + l7_55.toInt)
    (I55_1 : 0 ≤ l7_55.toInt ∧ l5_55.toInt ≤ ((G.1 a 36).toInt) + 1)
    (I55_2 : (l7_55.toInt = 0 ∧ l6_55.toInt = 0) ∨ (l7_55.toInt = 1 ∧ 0 ≤ l6_55.toInt ∧ l6_55.toInt ≤ 9) ∨ (l7_55.toInt = 2 ∧ 0 ≤ l6_55.toInt ∧ l6_55.toInt ≤ 99) ∨ (l7_55.toInt = 3 ∧ 0 ≤ l6_55.toInt ∧ l6_55.toInt ≤ 999) ∨ (l7_55.toInt = 4 ∧ 0 ≤ l6_55.toInt ∧ l6_55.toInt ≤ 9999) ∨ (5 ≤ l7_55.toInt ∧ 0 ≤ l6_55.toInt ∧ l6_55.toInt ≤ 999999))
    (I55_3 : l7_55.toInt ≤ 4 → l6_55.toInt = (nv (tM (G.2.1 (F a 35)) ((G.1 a 36).toInt)) (nS (tM (G.2.1 (F a 35)) ((G.1 a 36).toInt)) ((G10.1 a 37).toInt)) (l7_55.toInt)))
    (I55_4 : l5_55.toInt ≤ ((G.1 a 36).toInt) ∨ l7_55.toInt = 0)
    (hm55 : 200 - l5_55.toInt < (((N55) + 1 : Nat) : Int))
    (z55 : ((0 ≤ l5_55.toInt ∧ l5_55.toInt < ((G.1 a 36).toInt)) ∧ True) ∨ (¬ (0 ≤ l5_55.toInt ∧ l5_55.toInt < ((G.1 a 36).toInt)) ∧ (tM (G.2.1 (F a 35)) ((G.1 a 36).toInt) (l5_55.toInt)) = 0))
    (t58 : -128 ≤ x58.toInt ∧ x58.toInt ≤ 127 ∧ ((0 ≤ x58.toInt ∧ (tM (G.2.1 (F a 35)) ((G.1 a 36).toInt) (l5_55.toInt)) = x58.toInt) ∨ (x58.toInt < 0 ∧ (tM (G.2.1 (F a 35)) ((G.1 a 36).toInt) (l5_55.toInt)) = x58.toInt + 256)))
    (t61 : (x61.toInt = 1 ∧ 48 ≤ x58.toInt ∧ x58.toInt ≤ 57) ∨ (x61.toInt = 0 ∧ (x58.toInt < 48 ∨ 57 < x58.toInt)))
    (c64 : x61.toInt = 0)
    (c122 : ¬ (l7_55.toInt = 0))
    (c128 : ¬ ((4 : Int) < l7_55.toInt))
    (t138 : (x138.toInt = 1 ∧ p0.toInt ≤ l6_55.toInt ∧ l6_55.toInt ≤ p1.toInt) ∨ (x138.toInt = 0 ∧ (l6_55.toInt < p0.toInt ∨ p1.toInt < l6_55.toInt)))
    (c141 : x138.toInt ≠ 0)
    (d_G155_a_37 : G155.1 a 37 = l5_55)
    (d_G155_a_39 : G155.1 a 39 = G.1 a 39) :
    RdM (tM (G.2.1 (F a 35)) ((G.1 a 36).toInt)) ((G.1 a 36).toInt) (tkN (tM (G.2.1 (F a 35)) ((G.1 a 36).toInt)) p0.toInt p1.toInt r1).2 ((G155.1 a 39).toInt) ((G155.1 a 37).toInt) ((G155.1 a 38).toInt) := by
  have hv6 := num_b I55_2
  clear I55_2 hm55
  have hE : nE (tM (G.2.1 (F a 35)) ((G.1 a 36).toInt)) ((G10.1 a 37).toInt) = l5_55.toInt := by
    unfold nE
    refine rn_eq ⟨by omega, pd, cDg_n ?_⟩
    omega
  have nf := nS_f (tM (G.2.1 (F a 35)) ((G.1 a 36).toInt)) ((G10.1 a 37).toInt)
  have hs2 : r1.1 = 1 ∧ r1.2 = (G10.1 a 37).toInt := by
    have h1 := hrm.2.1.mp (by omega)
    exact ⟨h1, by rw [oq10]; exact hrm.2.2.1 h1⟩
  have hk : l7_55.toInt = nE (tM (G.2.1 (F a 35)) ((G.1 a 36).toInt)) ((G10.1 a 37).toInt) - nS (tM (G.2.1 (F a 35)) ((G.1 a 36).toInt)) ((G10.1 a 37).toInt) := by omega
  rw [hk] at I55_3
  have hv : l6_55.toInt = nVl (tM (G.2.1 (F a 35)) ((G.1 a 36).toInt)) ((G10.1 a 37).toInt) := by omega
  have gd : tkN (tM (G.2.1 (F a 35)) ((G.1 a 36).toInt)) p0.toInt p1.toInt r1 = (nVl (tM (G.2.1 (F a 35)) ((G.1 a 36).toInt)) r1.2, (1, rn cBl (tM (G.2.1 (F a 35)) ((G.1 a 36).toInt)) (nE (tM (G.2.1 (F a 35)) ((G.1 a 36).toInt)) r1.2))) := tkN_t hs2.1 (by rw [hs2.2]; exact ⟨by omega, by omega⟩) (by rw [hs2.2, ← hv]; omega) (by rw [hs2.2, ← hv]; omega)
  rw [gd, hs2.2]
  rw [d_G155_a_37, d_G155_a_39]
  exact rdm_st (tM_e _ _) (by rw [hE]) (by omega) (by omega)
theorem v_X11_number_151_7 {K : Nat → Nat} {F : Nat → Nat → Nat} (a : Nat) (G : XG) (G10 : XG) (G147 : XG) (r1 : RSt) (l5_55 : Int32) (x10 : Int32) (l7_55 : Int32) (l6_55 : Int32) (N55 : Nat) (x58 : Int32) (x61 : Int32) (x138 : Int32) (p0 : Int32) (p1 : Int32)
    (ha : K a = 13)
    (hrm : RdM (tM (G.2.1 (F a 35)) ((G.1 a 36).toInt)) ((G.1 a 36).toInt) r1 ((G.1 a 39).toInt) ((G.1 a 37).toInt) ((G.1 a 38).toInt))
    (oq10 : ((G10.1 a 37).toInt) = rn cBl (tM (G.2.1 (F a 35)) ((G.1 a 36).toInt)) ((G.1 a 37).toInt))
    (pd : ∀ j : Int, nS (tM (G.2.1 (F a 35)) ((G.1 a 36).toInt)) ((G10.1 a 37).toInt) ≤ j → j < l5_55.toInt → cDg ((tM (G.2.1 (F a 35)) ((G.1 a 36).toInt)) j))
    (nt0 : 0 ≤ ((G.1 a 36).toInt) ∧ ((G.1 a 36).toInt) ≤ 80)
    (z0 : 0 ≤ ((G.1 a 37).toInt) ∧ ((G.1 a 37).toInt) ≤ ((G.1 a 36).toInt))
    (f10 : ((G.1 a 39).toInt) = 0 ∨ ((G.1 a 39).toInt) = 1)
    (c4 : ((G.1 a 39).toInt) ≠ 0)
    (t10 : -128 ≤ x10.toInt ∧ x10.toInt ≤ 127 ∧ ((0 ≤ x10.toInt ∧ (tM (G.2.1 (F a 35)) ((G.1 a 36).toInt) ((G10.1 a 37).toInt)) = x10.toInt) ∨ (x10.toInt < 0 ∧ (tM (G.2.1 (F a 35)) ((G.1 a 36).toInt) ((G10.1 a 37).toInt)) = x10.toInt + 256)) ∧ ((G.1 a 37).toInt) ≤ ((G10.1 a 37).toInt) ∧ ((G10.1 a 37).toInt) ≤ ((G.1 a 36).toInt))
    (z13 : ((tM (G.2.1 (F a 35)) ((G.1 a 36).toInt) ((G10.1 a 37).toInt)) = 45 ∧ (nS (tM (G.2.1 (F a 35)) ((G.1 a 36).toInt)) ((G10.1 a 37).toInt)) = ((G10.1 a 37).toInt) + 1) ∨ ((tM (G.2.1 (F a 35)) ((G.1 a 36).toInt) ((G10.1 a 37).toInt)) ≠ 45 ∧ (nS (tM (G.2.1 (F a 35)) ((G.1 a 36).toInt)) ((G10.1 a 37).toInt)) = ((G10.1 a 37).toInt)))
    (z13a : (nv (tM (G.2.1 (F a 35)) ((G.1 a 36).toInt)) (nS (tM (G.2.1 (F a 35)) ((G.1 a 36).toInt)) ((G10.1 a 37).toInt)) 0) = 0)
    (c15 : x10.toInt ≠ (45 : Int))
    (I55_0 : l5_55.toInt = (nS (tM (G.2.1 (F a 35)) ((G.1 a 36).toInt)) ((G10.1 a 37).toInt)) + l7_55.toInt)
    (I55_1 : 0 ≤ l7_55.toInt ∧ l5_55.toInt ≤ ((G.1 a 36).toInt) + 1)
    (I55_2 : (l7_55.toInt = 0 ∧ l6_55.toInt = 0) ∨ (l7_55.toInt = 1 ∧ 0 ≤ l6_55.toInt ∧ l6_55.toInt ≤ 9) ∨ (l7_55.toInt = 2 ∧ 0 ≤ l6_55.toInt ∧ l6_55.toInt ≤ 99) ∨ (l7_55.toInt = 3 ∧ 0 ≤ l6_55.toInt ∧ l6_55.toInt ≤ 999) ∨ (l7_55.toInt = 4 ∧ 0 ≤ l6_55.toInt ∧ l6_55.toInt ≤ 9999) ∨ (5 ≤ l7_55.toInt ∧ 0 ≤ l6_55.toInt ∧ l6_55.toInt ≤ 999999))
    (I55_3 : l7_55.toInt ≤ 4 → l6_55.toInt = (nv (tM (G.2.1 (F a 35)) ((G.1 a 36).toInt)) (nS (tM (G.2.1 (F a 35)) ((G.1 a 36).toInt)) ((G10.1 a 37).toInt)) (l7_55.toInt)))
    (I55_4 : l5_55.toInt ≤ ((G.1 a 36).toInt) ∨ l7_55.toInt = 0)
    (hm55 : 200 - l5_55.toInt < (((N55) + 1 : Nat) : Int))
    (z55 : ((0 ≤ l5_55.toInt ∧ l5_55.toInt < ((G.1 a 36).toInt)) ∧ True) ∨ (¬ (0 ≤ l5_55.toInt ∧ l5_55.toInt < ((G.1 a 36).toInt)) ∧ (tM (G.2.1 (F a 35)) ((G.1 a 36).toInt) (l5_55.toInt)) = 0))
    (t58 : -128 ≤ x58.toInt ∧ x58.toInt ≤ 127 ∧ ((0 ≤ x58.toInt ∧ (tM (G.2.1 (F a 35)) ((G.1 a 36).toInt) (l5_55.toInt)) = x58.toInt) ∨ (x58.toInt < 0 ∧ (tM (G.2.1 (F a 35)) ((G.1 a 36).toInt) (l5_55.toInt)) = x58.toInt + 256)))
    (t61 : (x61.toInt = 1 ∧ 48 ≤ x58.toInt ∧ x58.toInt ≤ 57) ∨ (x61.toInt = 0 ∧ (x58.toInt < 48 ∨ 57 < x58.toInt)))
    (c64 : x61.toInt = 0)
    (c122 : ¬ (l7_55.toInt = 0))
    (c128 : ¬ ((4 : Int) < l7_55.toInt))
    (t138 : (x138.toInt = 1 ∧ p0.toInt ≤ l6_55.toInt ∧ l6_55.toInt ≤ p1.toInt) ∨ (x138.toInt = 0 ∧ (l6_55.toInt < p0.toInt ∨ p1.toInt < l6_55.toInt)))
    (c141 : ¬ (x138.toInt ≠ 0))
    (t147 : ((G147.1 a 39).toInt) = 0 ∧ (((G.1 a 39).toInt) ≠ 0 → ((G147.1 a 38).toInt) = ((G10.1 a 37).toInt)) ∧ (((G.1 a 39).toInt) = 0 → ((G147.1 a 38).toInt) = ((G.1 a 38).toInt))) :
    (0 : Int) = (tkN (tM (G.2.1 (F a 35)) ((G.1 a 36).toInt)) p0.toInt p1.toInt r1).1 := by
  have hv6 := num_b I55_2
  clear I55_2 hm55
  have hE : nE (tM (G.2.1 (F a 35)) ((G.1 a 36).toInt)) ((G10.1 a 37).toInt) = l5_55.toInt := by
    unfold nE
    refine rn_eq ⟨by omega, pd, cDg_n ?_⟩
    omega
  have nf := nS_f (tM (G.2.1 (F a 35)) ((G.1 a 36).toInt)) ((G10.1 a 37).toInt)
  have hs2 : r1.1 = 1 ∧ r1.2 = (G10.1 a 37).toInt := by
    have h1 := hrm.2.1.mp (by omega)
    exact ⟨h1, by rw [oq10]; exact hrm.2.2.1 h1⟩
  have hk : l7_55.toInt = nE (tM (G.2.1 (F a 35)) ((G.1 a 36).toInt)) ((G10.1 a 37).toInt) - nS (tM (G.2.1 (F a 35)) ((G.1 a 36).toInt)) ((G10.1 a 37).toInt) := by omega
  have nb : ¬ (r1.1 = 1 ∧ nOk (tM (G.2.1 (F a 35)) ((G.1 a 36).toInt)) r1.2 ∧ p0.toInt ≤ nVl (tM (G.2.1 (F a 35)) ((G.1 a 36).toInt)) r1.2 ∧ nVl (tM (G.2.1 (F a 35)) ((G.1 a 36).toInt)) r1.2 ≤ p1.toInt) := by
    rintro ⟨h1, h2, h3, h4⟩
    rw [hs2.2] at h2 h3 h4
    have h5 := h2.1
    have h6 := h2.2
    rw [hk] at I55_3
    omega
  rw [tkN_f nb]
theorem v_X11_number_151_8 {K : Nat → Nat} {F : Nat → Nat → Nat} (a : Nat) (G : XG) (G10 : XG) (G147 : XG) (r1 : RSt) (l5_55 : Int32) (x10 : Int32) (l7_55 : Int32) (l6_55 : Int32) (N55 : Nat) (x58 : Int32) (x61 : Int32) (x138 : Int32) (p0 : Int32) (p1 : Int32)
    (ha : K a = 13)
    (hrm : RdM (tM (G.2.1 (F a 35)) ((G.1 a 36).toInt)) ((G.1 a 36).toInt) r1 ((G.1 a 39).toInt) ((G.1 a 37).toInt) ((G.1 a 38).toInt))
    (oq10 : ((G10.1 a 37).toInt) = rn cBl (tM (G.2.1 (F a 35)) ((G.1 a 36).toInt)) ((G.1 a 37).toInt))
    (pd : ∀ j : Int, nS (tM (G.2.1 (F a 35)) ((G.1 a 36).toInt)) ((G10.1 a 37).toInt) ≤ j → j < l5_55.toInt → cDg ((tM (G.2.1 (F a 35)) ((G.1 a 36).toInt)) j))
    (nt0 : 0 ≤ ((G.1 a 36).toInt) ∧ ((G.1 a 36).toInt) ≤ 80)
    (z0 : 0 ≤ ((G.1 a 37).toInt) ∧ ((G.1 a 37).toInt) ≤ ((G.1 a 36).toInt))
    (f10 : ((G.1 a 39).toInt) = 0 ∨ ((G.1 a 39).toInt) = 1)
    (c4 : ((G.1 a 39).toInt) ≠ 0)
    (t10 : -128 ≤ x10.toInt ∧ x10.toInt ≤ 127 ∧ ((0 ≤ x10.toInt ∧ (tM (G.2.1 (F a 35)) ((G.1 a 36).toInt) ((G10.1 a 37).toInt)) = x10.toInt) ∨ (x10.toInt < 0 ∧ (tM (G.2.1 (F a 35)) ((G.1 a 36).toInt) ((G10.1 a 37).toInt)) = x10.toInt + 256)) ∧ ((G.1 a 37).toInt) ≤ ((G10.1 a 37).toInt) ∧ ((G10.1 a 37).toInt) ≤ ((G.1 a 36).toInt))
    (z13 : ((tM (G.2.1 (F a 35)) ((G.1 a 36).toInt) ((G10.1 a 37).toInt)) = 45 ∧ (nS (tM (G.2.1 (F a 35)) ((G.1 a 36).toInt)) ((G10.1 a 37).toInt)) = ((G10.1 a 37).toInt) + 1) ∨ ((tM (G.2.1 (F a 35)) ((G.1 a 36).toInt) ((G10.1 a 37).toInt)) ≠ 45 ∧ (nS (tM (G.2.1 (F a 35)) ((G.1 a 36).toInt)) ((G10.1 a 37).toInt)) = ((G10.1 a 37).toInt)))
    (z13a : (nv (tM (G.2.1 (F a 35)) ((G.1 a 36).toInt)) (nS (tM (G.2.1 (F a 35)) ((G.1 a 36).toInt)) ((G10.1 a 37).toInt)) 0) = 0)
    (c15 : x10.toInt ≠ (45 : Int))
    (I55_0 : l5_55.toInt = (nS (tM (G.2.1 (F a 35)) ((G.1 a 36).toInt)) ((G10.1 a 37).toInt)) + l7_55.toInt)
    (I55_1 : 0 ≤ l7_55.toInt ∧ l5_55.toInt ≤ ((G.1 a 36).toInt) + 1)
    (I55_2 : (l7_55.toInt = 0 ∧ l6_55.toInt = 0) ∨ (l7_55.toInt = 1 ∧ 0 ≤ l6_55.toInt ∧ l6_55.toInt ≤ 9) ∨ (l7_55.toInt = 2 ∧ 0 ≤ l6_55.toInt ∧ l6_55.toInt ≤ 99) ∨ (l7_55.toInt = 3 ∧ 0 ≤ l6_55.toInt ∧ l6_55.toInt ≤ 999) ∨ (l7_55.toInt = 4 ∧ 0 ≤ l6_55.toInt ∧ l6_55.toInt ≤ 9999) ∨ (5 ≤ l7_55.toInt ∧ 0 ≤ l6_55.toInt ∧ l6_55.toInt ≤ 999999))
    (I55_3 : l7_55.toInt ≤ 4 → l6_55.toInt = (nv (tM (G.2.1 (F a 35)) ((G.1 a 36).toInt)) (nS (tM (G.2.1 (F a 35)) ((G.1 a 36).toInt)) ((G10.1 a 37).toInt)) (l7_55.toInt)))
    (I55_4 : l5_55.toInt ≤ ((G.1 a 36).toInt) ∨ l7_55.toInt = 0)
    (hm55 : 200 - l5_55.toInt < (((N55) + 1 : Nat) : Int))
    (z55 : ((0 ≤ l5_55.toInt ∧ l5_55.toInt < ((G.1 a 36).toInt)) ∧ True) ∨ (¬ (0 ≤ l5_55.toInt ∧ l5_55.toInt < ((G.1 a 36).toInt)) ∧ (tM (G.2.1 (F a 35)) ((G.1 a 36).toInt) (l5_55.toInt)) = 0))
    (t58 : -128 ≤ x58.toInt ∧ x58.toInt ≤ 127 ∧ ((0 ≤ x58.toInt ∧ (tM (G.2.1 (F a 35)) ((G.1 a 36).toInt) (l5_55.toInt)) = x58.toInt) ∨ (x58.toInt < 0 ∧ (tM (G.2.1 (F a 35)) ((G.1 a 36).toInt) (l5_55.toInt)) = x58.toInt + 256)))
    (t61 : (x61.toInt = 1 ∧ 48 ≤ x58.toInt ∧ x58.toInt ≤ 57) ∨ (x61.toInt = 0 ∧ (x58.toInt < 48 ∨ 57 < x58.toInt)))
    (c64 : x61.toInt = 0)
    (c122 : ¬ (l7_55.toInt = 0))
    (c128 : ¬ ((4 : Int) < l7_55.toInt))
    (t138 : (x138.toInt = 1 ∧ p0.toInt ≤ l6_55.toInt ∧ l6_55.toInt ≤ p1.toInt) ∨ (x138.toInt = 0 ∧ (l6_55.toInt < p0.toInt ∨ p1.toInt < l6_55.toInt)))
    (c141 : ¬ (x138.toInt ≠ 0))
    (t147 : ((G147.1 a 39).toInt) = 0 ∧ (((G.1 a 39).toInt) ≠ 0 → ((G147.1 a 38).toInt) = ((G10.1 a 37).toInt)) ∧ (((G.1 a 39).toInt) = 0 → ((G147.1 a 38).toInt) = ((G.1 a 38).toInt)))
    (d_G147_a_37 : G147.1 a 37 = G10.1 a 37) :
    RdM (tM (G.2.1 (F a 35)) ((G.1 a 36).toInt)) ((G.1 a 36).toInt) (tkN (tM (G.2.1 (F a 35)) ((G.1 a 36).toInt)) p0.toInt p1.toInt r1).2 ((G147.1 a 39).toInt) ((G147.1 a 37).toInt) ((G147.1 a 38).toInt) := by
  have hv6 := num_b I55_2
  clear I55_2 hm55
  have hE : nE (tM (G.2.1 (F a 35)) ((G.1 a 36).toInt)) ((G10.1 a 37).toInt) = l5_55.toInt := by
    unfold nE
    refine rn_eq ⟨by omega, pd, cDg_n ?_⟩
    omega
  have nf := nS_f (tM (G.2.1 (F a 35)) ((G.1 a 36).toInt)) ((G10.1 a 37).toInt)
  have hs2 : r1.1 = 1 ∧ r1.2 = (G10.1 a 37).toInt := by
    have h1 := hrm.2.1.mp (by omega)
    exact ⟨h1, by rw [oq10]; exact hrm.2.2.1 h1⟩
  have hk : l7_55.toInt = nE (tM (G.2.1 (F a 35)) ((G.1 a 36).toInt)) ((G10.1 a 37).toInt) - nS (tM (G.2.1 (F a 35)) ((G.1 a 36).toInt)) ((G10.1 a 37).toInt) := by omega
  have nb : ¬ (r1.1 = 1 ∧ nOk (tM (G.2.1 (F a 35)) ((G.1 a 36).toInt)) r1.2 ∧ p0.toInt ≤ nVl (tM (G.2.1 (F a 35)) ((G.1 a 36).toInt)) r1.2 ∧ nVl (tM (G.2.1 (F a 35)) ((G.1 a 36).toInt)) r1.2 ≤ p1.toInt) := by
    rintro ⟨h1, h2, h3, h4⟩
    rw [hs2.2] at h2 h3 h4
    have h5 := h2.1
    have h6 := h2.2
    rw [hk] at I55_3
    omega
  rw [tkN_f nb, hs2.2, d_G147_a_37]
  exact rdm_bad rfl (by omega) (by omega) (by omega) (by omega)
theorem v_X11_number_103_9 {K : Nat → Nat} {F : Nat → Nat → Nat} (a : Nat) (G : XG) (G10 : XG) (l5_55 : Int32) (l6_55 : Int32) (x88 : Int32) (l7_55 : Int32) (x10 : Int32) (N55 : Nat) (x58 : Int32) (x61 : Int32)
    (ha : K a = 13)
    (oq10 : ((G10.1 a 37).toInt) = rn cBl (tM (G.2.1 (F a 35)) ((G.1 a 36).toInt)) ((G.1 a 37).toInt))
    (pd : ∀ j : Int, nS (tM (G.2.1 (F a 35)) ((G.1 a 36).toInt)) ((G10.1 a 37).toInt) ≤ j → j < l5_55.toInt → cDg ((tM (G.2.1 (F a 35)) ((G.1 a 36).toInt)) j))
    (nt0 : 0 ≤ ((G.1 a 36).toInt) ∧ ((G.1 a 36).toInt) ≤ 80)
    (z0 : 0 ≤ ((G.1 a 37).toInt) ∧ ((G.1 a 37).toInt) ≤ ((G.1 a 36).toInt))
    (f14 : ((G.1 a 39).toInt) = 0 ∨ ((G.1 a 39).toInt) = 1)
    (c4 : ((G.1 a 39).toInt) ≠ 0)
    (t10 : -128 ≤ x10.toInt ∧ x10.toInt ≤ 127 ∧ ((0 ≤ x10.toInt ∧ (tM (G.2.1 (F a 35)) ((G.1 a 36).toInt) ((G10.1 a 37).toInt)) = x10.toInt) ∨ (x10.toInt < 0 ∧ (tM (G.2.1 (F a 35)) ((G.1 a 36).toInt) ((G10.1 a 37).toInt)) = x10.toInt + 256)) ∧ ((G.1 a 37).toInt) ≤ ((G10.1 a 37).toInt) ∧ ((G10.1 a 37).toInt) ≤ ((G.1 a 36).toInt))
    (z13 : ((tM (G.2.1 (F a 35)) ((G.1 a 36).toInt) ((G10.1 a 37).toInt)) = 45 ∧ (nS (tM (G.2.1 (F a 35)) ((G.1 a 36).toInt)) ((G10.1 a 37).toInt)) = ((G10.1 a 37).toInt) + 1) ∨ ((tM (G.2.1 (F a 35)) ((G.1 a 36).toInt) ((G10.1 a 37).toInt)) ≠ 45 ∧ (nS (tM (G.2.1 (F a 35)) ((G.1 a 36).toInt)) ((G10.1 a 37).toInt)) = ((G10.1 a 37).toInt)))
    (z13a : (nv (tM (G.2.1 (F a 35)) ((G.1 a 36).toInt)) (nS (tM (G.2.1 (F a 35)) ((G.1 a 36).toInt)) ((G10.1 a 37).toInt)) 0) = 0)
    (c15 : x10.toInt ≠ (45 : Int))
    (I55_0 : l5_55.toInt = (nS (tM (G.2.1 (F a 35)) ((G.1 a 36).toInt)) ((G10.1 a 37).toInt)) + l7_55.toInt)
    (I55_1 : 0 ≤ l7_55.toInt ∧ l5_55.toInt ≤ ((G.1 a 36).toInt) + 1)
    (I55_2 : (l7_55.toInt = 0 ∧ l6_55.toInt = 0) ∨ (l7_55.toInt = 1 ∧ 0 ≤ l6_55.toInt ∧ l6_55.toInt ≤ 9) ∨ (l7_55.toInt = 2 ∧ 0 ≤ l6_55.toInt ∧ l6_55.toInt ≤ 99) ∨ (l7_55.toInt = 3 ∧ 0 ≤ l6_55.toInt ∧ l6_55.toInt ≤ 999) ∨ (l7_55.toInt = 4 ∧ 0 ≤ l6_55.toInt ∧ l6_55.toInt ≤ 9999) ∨ (5 ≤ l7_55.toInt ∧ 0 ≤ l6_55.toInt ∧ l6_55.toInt ≤ 999999))
    (I55_3 : l7_55.toInt ≤ 4 → l6_55.toInt = (nv (tM (G.2.1 (F a 35)) ((G.1 a 36).toInt)) (nS (tM (G.2.1 (F a 35)) ((G.1 a 36).toInt)) ((G10.1 a 37).toInt)) (l7_55.toInt)))
    (I55_4 : l5_55.toInt ≤ ((G.1 a 36).toInt) ∨ l7_55.toInt = 0)
    (hm55 : 200 - l5_55.toInt < (((N55) + 1 : Nat) : Int))
    (z55 : ((0 ≤ l5_55.toInt ∧ l5_55.toInt < ((G.1 a 36).toInt)) ∧ True) ∨ (¬ (0 ≤ l5_55.toInt ∧ l5_55.toInt < ((G.1 a 36).toInt)) ∧ (tM (G.2.1 (F a 35)) ((G.1 a 36).toInt) (l5_55.toInt)) = 0))
    (t58 : -128 ≤ x58.toInt ∧ x58.toInt ≤ 127 ∧ ((0 ≤ x58.toInt ∧ (tM (G.2.1 (F a 35)) ((G.1 a 36).toInt) (l5_55.toInt)) = x58.toInt) ∨ (x58.toInt < 0 ∧ (tM (G.2.1 (F a 35)) ((G.1 a 36).toInt) (l5_55.toInt)) = x58.toInt + 256)))
    (t61 : (x61.toInt = 1 ∧ 48 ≤ x58.toInt ∧ x58.toInt ≤ 57) ∨ (x61.toInt = 0 ∧ (x58.toInt < 48 ∨ 57 < x58.toInt)))
    (c64 : ¬ (x61.toInt = 0))
    (z67 : (nv (tM (G.2.1 (F a 35)) ((G.1 a 36).toInt)) (nS (tM (G.2.1 (F a 35)) ((G.1 a 36).toInt)) ((G10.1 a 37).toInt)) (l7_55.toInt + 1)) = 10 * (nv (tM (G.2.1 (F a 35)) ((G.1 a 36).toInt)) (nS (tM (G.2.1 (F a 35)) ((G.1 a 36).toInt)) ((G10.1 a 37).toInt)) (l7_55.toInt)) + ((tM (G.2.1 (F a 35)) ((G.1 a 36).toInt) ((nS (tM (G.2.1 (F a 35)) ((G.1 a 36).toInt)) ((G10.1 a 37).toInt)) + l7_55.toInt)) - 48))
    (z67a : l5_55.toInt = (nS (tM (G.2.1 (F a 35)) ((G.1 a 36).toInt)) ((G10.1 a 37).toInt)) + l7_55.toInt → (tM (G.2.1 (F a 35)) ((G.1 a 36).toInt) ((nS (tM (G.2.1 (F a 35)) ((G.1 a 36).toInt)) ((G10.1 a 37).toInt)) + l7_55.toInt)) = (tM (G.2.1 (F a 35)) ((G.1 a 36).toInt) (l5_55.toInt)))
    (c72 : l6_55.toInt ≤ (99999 : Int))
    (t88 : -128 ≤ x88.toInt ∧ x88.toInt ≤ 127 ∧ ((0 ≤ x88.toInt ∧ (tM (G.2.1 (F a 35)) ((G.1 a 36).toInt) (l5_55.toInt)) = x88.toInt) ∨ (x88.toInt < 0 ∧ (tM (G.2.1 (F a 35)) ((G.1 a 36).toInt) (l5_55.toInt)) = x88.toInt + 256))) :
    ∀ j : Int, nS (tM (G.2.1 (F a 35)) ((G.1 a 36).toInt)) ((G10.1 a 37).toInt) ≤ j → j < (l5_55.toInt + 1) → cDg ((tM (G.2.1 (F a 35)) ((G.1 a 36).toInt)) j) := by
  intro j h1 h2
  by_cases e : j = l5_55.toInt
  · rw [e]; unfold cDg; omega
  · exact pd j h1 (by omega)
theorem v_X11_number_103_10 {K : Nat → Nat} {F : Nat → Nat → Nat} (a : Nat) (G : XG) (G10 : XG) (l5_55 : Int32) (l7_55 : Int32) (x10 : Int32) (l6_55 : Int32) (N55 : Nat) (x58 : Int32) (x61 : Int32)
    (ha : K a = 13)
    (oq10 : ((G10.1 a 37).toInt) = rn cBl (tM (G.2.1 (F a 35)) ((G.1 a 36).toInt)) ((G.1 a 37).toInt))
    (pd : ∀ j : Int, nS (tM (G.2.1 (F a 35)) ((G.1 a 36).toInt)) ((G10.1 a 37).toInt) ≤ j → j < l5_55.toInt → cDg ((tM (G.2.1 (F a 35)) ((G.1 a 36).toInt)) j))
    (nt0 : 0 ≤ ((G.1 a 36).toInt) ∧ ((G.1 a 36).toInt) ≤ 80)
    (z0 : 0 ≤ ((G.1 a 37).toInt) ∧ ((G.1 a 37).toInt) ≤ ((G.1 a 36).toInt))
    (f11 : ((G.1 a 39).toInt) = 0 ∨ ((G.1 a 39).toInt) = 1)
    (c4 : ((G.1 a 39).toInt) ≠ 0)
    (t10 : -128 ≤ x10.toInt ∧ x10.toInt ≤ 127 ∧ ((0 ≤ x10.toInt ∧ (tM (G.2.1 (F a 35)) ((G.1 a 36).toInt) ((G10.1 a 37).toInt)) = x10.toInt) ∨ (x10.toInt < 0 ∧ (tM (G.2.1 (F a 35)) ((G.1 a 36).toInt) ((G10.1 a 37).toInt)) = x10.toInt + 256)) ∧ ((G.1 a 37).toInt) ≤ ((G10.1 a 37).toInt) ∧ ((G10.1 a 37).toInt) ≤ ((G.1 a 36).toInt))
    (z13 : ((tM (G.2.1 (F a 35)) ((G.1 a 36).toInt) ((G10.1 a 37).toInt)) = 45 ∧ (nS (tM (G.2.1 (F a 35)) ((G.1 a 36).toInt)) ((G10.1 a 37).toInt)) = ((G10.1 a 37).toInt) + 1) ∨ ((tM (G.2.1 (F a 35)) ((G.1 a 36).toInt) ((G10.1 a 37).toInt)) ≠ 45 ∧ (nS (tM (G.2.1 (F a 35)) ((G.1 a 36).toInt)) ((G10.1 a 37).toInt)) = ((G10.1 a 37).toInt)))
    (z13a : (nv (tM (G.2.1 (F a 35)) ((G.1 a 36).toInt)) (nS (tM (G.2.1 (F a 35)) ((G.1 a 36).toInt)) ((G10.1 a 37).toInt)) 0) = 0)
    (c15 : x10.toInt ≠ (45 : Int))
    (I55_0 : l5_55.toInt = (nS (tM (G.2.1 (F a 35)) ((G.1 a 36).toInt)) ((G10.1 a 37).toInt)) + l7_55.toInt)
    (I55_1 : 0 ≤ l7_55.toInt ∧ l5_55.toInt ≤ ((G.1 a 36).toInt) + 1)
    (I55_2 : (l7_55.toInt = 0 ∧ l6_55.toInt = 0) ∨ (l7_55.toInt = 1 ∧ 0 ≤ l6_55.toInt ∧ l6_55.toInt ≤ 9) ∨ (l7_55.toInt = 2 ∧ 0 ≤ l6_55.toInt ∧ l6_55.toInt ≤ 99) ∨ (l7_55.toInt = 3 ∧ 0 ≤ l6_55.toInt ∧ l6_55.toInt ≤ 999) ∨ (l7_55.toInt = 4 ∧ 0 ≤ l6_55.toInt ∧ l6_55.toInt ≤ 9999) ∨ (5 ≤ l7_55.toInt ∧ 0 ≤ l6_55.toInt ∧ l6_55.toInt ≤ 999999))
    (I55_3 : l7_55.toInt ≤ 4 → l6_55.toInt = (nv (tM (G.2.1 (F a 35)) ((G.1 a 36).toInt)) (nS (tM (G.2.1 (F a 35)) ((G.1 a 36).toInt)) ((G10.1 a 37).toInt)) (l7_55.toInt)))
    (I55_4 : l5_55.toInt ≤ ((G.1 a 36).toInt) ∨ l7_55.toInt = 0)
    (hm55 : 200 - l5_55.toInt < (((N55) + 1 : Nat) : Int))
    (z55 : ((0 ≤ l5_55.toInt ∧ l5_55.toInt < ((G.1 a 36).toInt)) ∧ True) ∨ (¬ (0 ≤ l5_55.toInt ∧ l5_55.toInt < ((G.1 a 36).toInt)) ∧ (tM (G.2.1 (F a 35)) ((G.1 a 36).toInt) (l5_55.toInt)) = 0))
    (t58 : -128 ≤ x58.toInt ∧ x58.toInt ≤ 127 ∧ ((0 ≤ x58.toInt ∧ (tM (G.2.1 (F a 35)) ((G.1 a 36).toInt) (l5_55.toInt)) = x58.toInt) ∨ (x58.toInt < 0 ∧ (tM (G.2.1 (F a 35)) ((G.1 a 36).toInt) (l5_55.toInt)) = x58.toInt + 256)))
    (t61 : (x61.toInt = 1 ∧ 48 ≤ x58.toInt ∧ x58.toInt ≤ 57) ∨ (x61.toInt = 0 ∧ (x58.toInt < 48 ∨ 57 < x58.toInt)))
    (c64 : ¬ (x61.toInt = 0))
    (z67 : (nv (tM (G.2.1 (F a 35)) ((G.1 a 36).toInt)) (nS (tM (G.2.1 (F a 35)) ((G.1 a 36).toInt)) ((G10.1 a 37).toInt)) (l7_55.toInt + 1)) = 10 * (nv (tM (G.2.1 (F a 35)) ((G.1 a 36).toInt)) (nS (tM (G.2.1 (F a 35)) ((G.1 a 36).toInt)) ((G10.1 a 37).toInt)) (l7_55.toInt)) + ((tM (G.2.1 (F a 35)) ((G.1 a 36).toInt) ((nS (tM (G.2.1 (F a 35)) ((G.1 a 36).toInt)) ((G10.1 a 37).toInt)) + l7_55.toInt)) - 48))
    (z67a : l5_55.toInt = (nS (tM (G.2.1 (F a 35)) ((G.1 a 36).toInt)) ((G10.1 a 37).toInt)) + l7_55.toInt → (tM (G.2.1 (F a 35)) ((G.1 a 36).toInt) ((nS (tM (G.2.1 (F a 35)) ((G.1 a 36).toInt)) ((G10.1 a 37).toInt)) + l7_55.toInt)) = (tM (G.2.1 (F a 35)) ((G.1 a 36).toInt) (l5_55.toInt)))
    (c72 : ¬ (l6_55.toInt ≤ (99999 : Int))) :
    ∀ j : Int, nS (tM (G.2.1 (F a 35)) ((G.1 a 36).toInt)) ((G10.1 a 37).toInt) ≤ j → j < (l5_55.toInt + 1) → cDg ((tM (G.2.1 (F a 35)) ((G.1 a 36).toInt)) j) := by
  intro j h1 h2
  by_cases e : j = l5_55.toInt
  · rw [e]; unfold cDg; omega
  · exact pd j h1 (by omega)
theorem v_X11_number_53_11 {K : Nat → Nat} {F : Nat → Nat → Nat} (a : Nat) (G : XG) (G10 : XG) (x10 : Int32)
    (ha : K a = 13)
    (oq10 : ((G10.1 a 37).toInt) = rn cBl (tM (G.2.1 (F a 35)) ((G.1 a 36).toInt)) ((G.1 a 37).toInt))
    (nt0 : 0 ≤ ((G.1 a 36).toInt) ∧ ((G.1 a 36).toInt) ≤ 80)
    (z0 : 0 ≤ ((G.1 a 37).toInt) ∧ ((G.1 a 37).toInt) ≤ ((G.1 a 36).toInt))
    (f8 : ((G.1 a 39).toInt) = 0 ∨ ((G.1 a 39).toInt) = 1)
    (c4 : ((G.1 a 39).toInt) ≠ 0)
    (t10 : -128 ≤ x10.toInt ∧ x10.toInt ≤ 127 ∧ ((0 ≤ x10.toInt ∧ (tM (G.2.1 (F a 35)) ((G.1 a 36).toInt) ((G10.1 a 37).toInt)) = x10.toInt) ∨ (x10.toInt < 0 ∧ (tM (G.2.1 (F a 35)) ((G.1 a 36).toInt) ((G10.1 a 37).toInt)) = x10.toInt + 256)) ∧ ((G.1 a 37).toInt) ≤ ((G10.1 a 37).toInt) ∧ ((G10.1 a 37).toInt) ≤ ((G.1 a 36).toInt))
    (z13 : ((tM (G.2.1 (F a 35)) ((G.1 a 36).toInt) ((G10.1 a 37).toInt)) = 45 ∧ (nS (tM (G.2.1 (F a 35)) ((G.1 a 36).toInt)) ((G10.1 a 37).toInt)) = ((G10.1 a 37).toInt) + 1) ∨ ((tM (G.2.1 (F a 35)) ((G.1 a 36).toInt) ((G10.1 a 37).toInt)) ≠ 45 ∧ (nS (tM (G.2.1 (F a 35)) ((G.1 a 36).toInt)) ((G10.1 a 37).toInt)) = ((G10.1 a 37).toInt)))
    (z13a : (nv (tM (G.2.1 (F a 35)) ((G.1 a 36).toInt)) (nS (tM (G.2.1 (F a 35)) ((G.1 a 36).toInt)) ((G10.1 a 37).toInt)) 0) = 0)
    (c15 : x10.toInt ≠ (45 : Int)) :
    ∀ j : Int, nS (tM (G.2.1 (F a 35)) ((G.1 a 36).toInt)) ((G10.1 a 37).toInt) ≤ j → j < ((G10.1 a 37).toInt) → cDg ((tM (G.2.1 (F a 35)) ((G.1 a 36).toInt)) j) := by
  intro j h1 h2; exact absurd h1 (by omega)
theorem v_X11_number_151_12 {K : Nat → Nat} {F : Nat → Nat → Nat} (a : Nat) (G : XG) (G10 : XG) (G147 : XG) (r1 : RSt) (l5_55 : Int32) (x10 : Int32) (l7_55 : Int32) (l6_55 : Int32) (N55 : Nat) (x58 : Int32) (x61 : Int32) (p0 : Int32) (p1 : Int32)
    (ha : K a = 13)
    (hrm : RdM (tM (G.2.1 (F a 35)) ((G.1 a 36).toInt)) ((G.1 a 36).toInt) r1 ((G.1 a 39).toInt) ((G.1 a 37).toInt) ((G.1 a 38).toInt))
    (oq10 : ((G10.1 a 37).toInt) = rn cBl (tM (G.2.1 (F a 35)) ((G.1 a 36).toInt)) ((G.1 a 37).toInt))
    (pd : ∀ j : Int, nS (tM (G.2.1 (F a 35)) ((G.1 a 36).toInt)) ((G10.1 a 37).toInt) ≤ j → j < l5_55.toInt → cDg ((tM (G.2.1 (F a 35)) ((G.1 a 36).toInt)) j))
    (nt0 : 0 ≤ ((G.1 a 36).toInt) ∧ ((G.1 a 36).toInt) ≤ 80)
    (z0 : 0 ≤ ((G.1 a 37).toInt) ∧ ((G.1 a 37).toInt) ≤ ((G.1 a 36).toInt))
    (f11 : ((G.1 a 39).toInt) = 0 ∨ ((G.1 a 39).toInt) = 1)
    (c4 : ((G.1 a 39).toInt) ≠ 0)
    (t10 : -128 ≤ x10.toInt ∧ x10.toInt ≤ 127 ∧ ((0 ≤ x10.toInt ∧ (tM (G.2.1 (F a 35)) ((G.1 a 36).toInt) ((G10.1 a 37).toInt)) = x10.toInt) ∨ (x10.toInt < 0 ∧ (tM (G.2.1 (F a 35)) ((G.1 a 36).toInt) ((G10.1 a 37).toInt)) = x10.toInt + 256)) ∧ ((G.1 a 37).toInt) ≤ ((G10.1 a 37).toInt) ∧ ((G10.1 a 37).toInt) ≤ ((G.1 a 36).toInt))
    (z13 : ((tM (G.2.1 (F a 35)) ((G.1 a 36).toInt) ((G10.1 a 37).toInt)) = 45 ∧ (nS (tM (G.2.1 (F a 35)) ((G.1 a 36).toInt)) ((G10.1 a 37).toInt)) = ((G10.1 a 37).toInt) + 1) ∨ ((tM (G.2.1 (F a 35)) ((G.1 a 36).toInt) ((G10.1 a 37).toInt)) ≠ 45 ∧ (nS (tM (G.2.1 (F a 35)) ((G.1 a 36).toInt)) ((G10.1 a 37).toInt)) = ((G10.1 a 37).toInt)))
    (z13a : (nv (tM (G.2.1 (F a 35)) ((G.1 a 36).toInt)) (nS (tM (G.2.1 (F a 35)) ((G.1 a 36).toInt)) ((G10.1 a 37).toInt)) 0) = 0)
    (c15 : ¬ (x10.toInt ≠ (45 : Int)))
    (I55_0 : l5_55.toInt = (nS (tM (G.2.1 (F a 35)) ((G.1 a 36).toInt)) ((G10.1 a 37).toInt)) + l7_55.toInt)
    (I55_1 : 0 ≤ l7_55.toInt ∧ l5_55.toInt ≤ ((G.1 a 36).toInt) + 1)
    (I55_2 : (l7_55.toInt = 0 ∧ l6_55.toInt = 0) ∨ (l7_55.toInt = 1 ∧ 0 ≤ l6_55.toInt ∧ l6_55.toInt ≤ 9) ∨ (l7_55.toInt = 2 ∧ 0 ≤ l6_55.toInt ∧ l6_55.toInt ≤ 99) ∨ (l7_55.toInt = 3 ∧ 0 ≤ l6_55.toInt ∧ l6_55.toInt ≤ 999) ∨ (l7_55.toInt = 4 ∧ 0 ≤ l6_55.toInt ∧ l6_55.toInt ≤ 9999) ∨ (5 ≤ l7_55.toInt ∧ 0 ≤ l6_55.toInt ∧ l6_55.toInt ≤ 999999))
    (I55_3 : l7_55.toInt ≤ 4 → l6_55.toInt = (nv (tM (G.2.1 (F a 35)) ((G.1 a 36).toInt)) (nS (tM (G.2.1 (F a 35)) ((G.1 a 36).toInt)) ((G10.1 a 37).toInt)) (l7_55.toInt)))
    (I55_4 : l5_55.toInt ≤ ((G.1 a 36).toInt) ∨ l7_55.toInt = 0)
    (hm55 : 200 - l5_55.toInt < (((N55) + 1 : Nat) : Int))
    (z55 : ((0 ≤ l5_55.toInt ∧ l5_55.toInt < ((G.1 a 36).toInt)) ∧ True) ∨ (¬ (0 ≤ l5_55.toInt ∧ l5_55.toInt < ((G.1 a 36).toInt)) ∧ (tM (G.2.1 (F a 35)) ((G.1 a 36).toInt) (l5_55.toInt)) = 0))
    (t58 : -128 ≤ x58.toInt ∧ x58.toInt ≤ 127 ∧ ((0 ≤ x58.toInt ∧ (tM (G.2.1 (F a 35)) ((G.1 a 36).toInt) (l5_55.toInt)) = x58.toInt) ∨ (x58.toInt < 0 ∧ (tM (G.2.1 (F a 35)) ((G.1 a 36).toInt) (l5_55.toInt)) = x58.toInt + 256)))
    (t61 : (x61.toInt = 1 ∧ 48 ≤ x58.toInt ∧ x58.toInt ≤ 57) ∨ (x61.toInt = 0 ∧ (x58.toInt < 48 ∨ 57 < x58.toInt)))
    (c64 : x61.toInt = 0)
    (c122 : l7_55.toInt = 0)
    (t147 : ((G147.1 a 39).toInt) = 0 ∧ (((G.1 a 39).toInt) ≠ 0 → ((G147.1 a 38).toInt) = ((G10.1 a 37).toInt)) ∧ (((G.1 a 39).toInt) = 0 → ((G147.1 a 38).toInt) = ((G.1 a 38).toInt))) :
    (0 : Int) = (tkN (tM (G.2.1 (F a 35)) ((G.1 a 36).toInt)) p0.toInt p1.toInt r1).1 := by
  have hv6 := num_b I55_2
  clear I55_2 hm55
  have hE : nE (tM (G.2.1 (F a 35)) ((G.1 a 36).toInt)) ((G10.1 a 37).toInt) = l5_55.toInt := by
    unfold nE
    refine rn_eq ⟨by omega, pd, cDg_n ?_⟩
    omega
  have nf := nS_f (tM (G.2.1 (F a 35)) ((G.1 a 36).toInt)) ((G10.1 a 37).toInt)
  have hs2 : r1.1 = 1 ∧ r1.2 = (G10.1 a 37).toInt := by
    have h1 := hrm.2.1.mp (by omega)
    exact ⟨h1, by rw [oq10]; exact hrm.2.2.1 h1⟩
  have hk : l7_55.toInt = nE (tM (G.2.1 (F a 35)) ((G.1 a 36).toInt)) ((G10.1 a 37).toInt) - nS (tM (G.2.1 (F a 35)) ((G.1 a 36).toInt)) ((G10.1 a 37).toInt) := by omega
  have nb : ¬ (r1.1 = 1 ∧ nOk (tM (G.2.1 (F a 35)) ((G.1 a 36).toInt)) r1.2 ∧ p0.toInt ≤ nVl (tM (G.2.1 (F a 35)) ((G.1 a 36).toInt)) r1.2 ∧ nVl (tM (G.2.1 (F a 35)) ((G.1 a 36).toInt)) r1.2 ≤ p1.toInt) := by
    rintro ⟨h1, h2, h3, h4⟩
    rw [hs2.2] at h2 h3 h4
    have h5 := h2.1
    have h6 := h2.2
    rw [hk] at I55_3
    omega
  rw [tkN_f nb]
