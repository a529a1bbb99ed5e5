/-! ===== the text: signs 0 .. 255, 0 behind its end ===== -/
def tC (f : Nat → Int32) (n z : Int) : Int := if 0 ≤ z ∧ z < n then aI f z else 0
theorem tC_f (f : Nat → Int32) (n z : Int) : ((0 ≤ z ∧ z < n) ∧ tC f n z = aI f z) ∨ (¬ (0 ≤ z ∧ z < n) ∧ tC f n z = 0) := by
  unfold tC
  split
  · exact Or.inl ⟨by assumption, rfl⟩
  · exact Or.inr ⟨by assumption, rfl⟩
def tM (f : Nat → Int32) (n z : Int) : Int := if 0 ≤ z ∧ z < n then aI f z % 256 else 0
theorem tM_f (f : Nat → Int32) (n z : Int) : ((0 ≤ z ∧ z < n) ∧ tM f n z = aI f z % 256) ∨ (¬ (0 ≤ z ∧ z < n) ∧ tM f n z = 0) := by
  unfold tM
  split
  · exact Or.inl ⟨by assumption, rfl⟩
  · exact Or.inr ⟨by assumption, rfl⟩
/-- from z to m all are so, and that at m is not -/
def isRn (P : Int → Prop) (t : Int → Int) (z m : Int) : Prop := z ≤ m ∧ (∀ j : Int, z ≤ j → j < m → P (t j)) ∧ ¬ P (t m)
theorem isRn_u {P : Int → Prop} {t : Int → Int} {z m n : Int} (h1 : isRn P t z m) (h2 : isRn P t z n) : m = n := by
  rcases Int.lt_trichotomy m n with h | h | h
  · exact absurd (h2.2.1 m h1.1 h) h1.2.2
  · exact h
  · exact absurd (h1.2.1 n h2.1 h) h2.2.2
theorem rn_ex : ∃ g : (Int → Prop) → (Int → Int) → Int → Int, ∀ P t z m, isRn P t z m → g P t z = m := by
  classical
  refine ⟨fun P t z => if h : ∃ m, isRn P t z m then Classical.choose h else z, fun P t z m hm => ?_⟩
  have h : ∃ m, isRn P t z m := ⟨m, hm⟩
  show (if h : ∃ m, isRn P t z m then Classical.choose h else z) = m
  rw [dif_pos h]
  exact isRn_u (Classical.choose_spec h) hm
noncomputable def rn (P : Int → Prop) (t : Int → Int) (z : Int) : Int := Classical.choose rn_ex P t z
theorem rn_eq {P : Int → Prop} {t : Int → Int} {z m : Int} (h : isRn P t z m) : rn P t z = m := Classical.choose_spec rn_ex P t z m h
theorem rn_id {P : Int → Prop} {t : Int → Int} {z : Int} (h : ¬ P (t z)) : rn P t z = z := rn_eq ⟨Int.le_refl _, fun j h1 h2 => by omega, h⟩
def cBl (c : Int) : Prop := c = 32
def cLt (c : Int) : Prop := 97 ≤ c ∧ c ≤ 122
def cDg (c : Int) : Prop := 48 ≤ c ∧ c ≤ 57
def nvR (t : Int → Int) (z : Int) : Nat → Int
  | 0 => 0
  | k + 1 => 10 * nvR t z k + (t (z + k) - 48)
theorem nv_ex : ∃ g : (Int → Int) → Int → Int → Int, ∀ t z k, g t z k = nvR t z k.toNat := ⟨fun t z k => nvR t z k.toNat, fun _ _ _ => rfl⟩
noncomputable def nv (t : Int → Int) (z k : Int) : Int := Classical.choose nv_ex t z k
theorem nv_eq (t : Int → Int) (z k : Int) : nv t z k = nvR t z k.toNat := Classical.choose_spec nv_ex t z k
theorem nv_0 (t : Int → Int) (z : Int) : nv t z 0 = 0 := by rw [nv_eq]; rfl
theorem nv_s {t : Int → Int} {z k : Int} (h : 0 ≤ k) : nv t z (k + 1) = 10 * nv t z k + (t (z + k) - 48) := by
  have e : (k + 1).toNat = k.toNat + 1 := by omega
  have e2 : ((k.toNat : Nat) : Int) = k := by omega
  rw [nv_eq, nv_eq, e]
  show 10 * nvR t z k.toNat + (t (z + (k.toNat : Nat)) - 48) = _
  rw [e2]
/-- a number at p: where its digits begin and end, whether it is one, which -/
def nS (t : Int → Int) (p : Int) : Int := if t p = 45 then p + 1 else p
noncomputable def nE (t : Int → Int) (p : Int) : Int := rn cDg t (nS t p)
def nOk (t : Int → Int) (p : Int) : Prop := 1 ≤ nE t p - nS t p ∧ nE t p - nS t p ≤ 4
noncomputable def nVl (t : Int → Int) (p : Int) : Int := if t p = 45 then - nv t (nS t p) (nE t p - nS t p) else nv t (nS t p) (nE t p - nS t p)
theorem nS_f (t : Int → Int) (p : Int) : (t p = 45 ∧ nS t p = p + 1 ∧ nVl t p = - nv t (nS t p) (nE t p - nS t p)) ∨ (t p ≠ 45 ∧ nS t p = p ∧ nVl t p = nv t (nS t p) (nE t p - nS t p)) := by
  by_cases h : t p = 45
  · exact Or.inl ⟨h, if_pos h, if_pos h⟩
  · exact Or.inr ⟨h, if_neg h, if_neg h⟩
/-- the word w stands at p, and no letter behind it -/
def wOk (t : Int → Int) (p : Int) (w : List Int) : Prop := rn cLt t p = p + (w.length : Int) ∧ ∀ i : Nat, i < w.length → t (p + (i : Int)) = w.getD i 0
abbrev RSt := Int × Int
/-- a word is taken, if it stands there -/
noncomputable def tkW (t : Int → Int) (w : List Int) (S : RSt) : Int × RSt := by
  classical
  exact if S.1 = 1 ∧ wOk t S.2 w then (1, (1, rn cBl t (S.2 + (w.length : Int)))) else (0, S)
noncomputable def tkN (t : Int → Int) (lo hi : Int) (S : RSt) : Int × RSt := by
  classical
  exact if S.1 = 1 ∧ nOk t S.2 ∧ lo ≤ nVl t S.2 ∧ nVl t S.2 ≤ hi then (nVl t S.2, (1, rn cBl t (nE t S.2))) else (0, (0, S.2))
theorem tkW_t {t : Int → Int} {w : List Int} {S : RSt} (h : S.1 = 1) (h2 : wOk t S.2 w) : tkW t w S = (1, (1, rn cBl t (S.2 + (w.length : Int)))) := by
  unfold tkW
  exact if_pos ⟨h, h2⟩
theorem tkW_f {t : Int → Int} {w : List Int} {S : RSt} (h : ¬ (S.1 = 1 ∧ wOk t S.2 w)) : tkW t w S = (0, S) := by
  unfold tkW
  exact if_neg h
theorem tkN_t {t : Int → Int} {lo hi : Int} {S : RSt} (h : S.1 = 1) (h2 : nOk t S.2) (h3 : lo ≤ nVl t S.2) (h4 : nVl t S.2 ≤ hi) : tkN t lo hi S = (nVl t S.2, (1, rn cBl t (nE t S.2))) := by
  unfold tkN
  exact if_pos ⟨h, h2, h3, h4⟩
theorem tkN_f {t : Int → Int} {lo hi : Int} {S : RSt} (h : ¬ (S.1 = 1 ∧ nOk t S.2 ∧ lo ≤ nVl t S.2 ∧ nVl t S.2 ≤ hi)) : tkN t lo hi S = (0, (0, S.2)) := by
  unfold tkN
  exact if_neg h
/-- the words of kinds: unique, refers, range, sum, count, tree; cascade, clear, late, rank -/
def kwd : List (List Int) := [[117, 110, 105, 113, 117, 101], [114, 101, 102, 101, 114, 115], [114, 97, 110, 103, 101], [115, 117, 109], [99, 111, 117, 110, 116], [116, 114, 101, 101], [99, 97, 115, 99, 97, 100, 101], [99, 108, 101, 97, 114], [108, 97, 116, 101], [114, 97, 110, 107]]
def kw (i : Nat) : List Int := kwd.getD i []
/-- from the n-th kind on: the first that stands there -/
noncomputable def tkKf (t : Int → Int) (S : RSt) : Nat → Nat → Int × RSt
  | 0, _ => (0, (0, S.2))
  | f + 1, n => if (tkW t (kw n) S).1 = 1 then ((n : Int), (tkW t (kw n) S).2) else tkKf t S f (n + 1)
noncomputable def tkK (t : Int → Int) (S : RSt) : Int × RSt := tkKf t S 6 0
/-- what a rule does with rows that refer -/
noncomputable def tkA (t : Int → Int) (S : RSt) : Int × RSt := if (tkW t (kw 6) S).1 = 1 then (1, (tkW t (kw 6) S).2) else if (tkW t (kw 7) S).1 = 1 then (2, (tkW t (kw 7) S).2) else (0, S)
theorem tkW_01 (t : Int → Int) (w : List Int) (S : RSt) : (tkW t w S).1 = 1 ∨ ((tkW t w S).1 = 0 ∧ (tkW t w S).2 = S) := by
  by_cases h : S.1 = 1 ∧ wOk t S.2 w
  · exact Or.inl (by rw [tkW_t h.1 h.2])
  · exact Or.inr (by rw [tkW_f h]; exact ⟨rfl, rfl⟩)
/-- where and what is read: kind, table, column, other, low, high, action, late, rank; at last whether it is well, and the place -/
noncomputable def rS1 (t : Int → Int) : Int × RSt := tkK t (1, rn cBl t 0)
noncomputable def rS2 (t : Int → Int) : Int × RSt := tkN t 0 2 (rS1 t).2
noncomputable def rS3 (t : Int → Int) : Int × RSt := tkN t 0 2 (rS2 t).2
noncomputable def rS4 (t : Int → Int) : Int × RSt := if (rS1 t).1 = 1 ∨ (rS1 t).1 = 3 ∨ (rS1 t).1 = 4 then tkN t 0 2 (rS3 t).2 else (-1, (rS3 t).2)
noncomputable def rS5 (t : Int → Int) : Int × RSt := if (rS1 t).1 = 2 ∨ (rS1 t).1 = 3 ∨ (rS1 t).1 = 4 then tkN t (-9999) 9999 (rS4 t).2 else (0, (rS4 t).2)
noncomputable def rS6 (t : Int → Int) : Int × RSt := if (rS1 t).1 = 2 ∨ (rS1 t).1 = 3 ∨ (rS1 t).1 = 4 then tkN t (rS5 t).1 9999 (rS5 t).2 else (0, (rS5 t).2)
noncomputable def rS7 (t : Int → Int) : Int × RSt := if (rS1 t).1 = 1 then tkA t (rS6 t).2 else (0, (rS6 t).2)
noncomputable def rS8 (t : Int → Int) : Int × RSt := tkW t (kw 8) (rS7 t).2
noncomputable def rS9 (t : Int → Int) : Int × RSt := if (tkW t (kw 9) (rS8 t).2).1 = 1 then tkN t 0 99 (tkW t (kw 9) (rS8 t).2).2 else (50, (tkW t (kw 9) (rS8 t).2).2)
/-- it is a rule: nothing is wrong, and nothing is left -/
def rOk (t : Int → Int) (n : Int) : Prop := (rS9 t).2.1 = 1 ∧ n ≤ (rS9 t).2.2
/-! what the class's reader knows of the token at p: sort, start, stop, number -/
def TokI (t : Int → Int) (n so p e v : Int) : Prop := ¬ cBl (t p) ∧ (n ≤ p → so = 0) ∧ (p < n → cLt (t p) → so = 1 ∧ e = rn cLt t p) ∧ (p < n → ¬ cLt (t p) → e = nE t p ∧ ((nOk t p ∧ so = 2 ∧ v = nVl t p) ∨ (¬ nOk t p ∧ so = 3)))
/-- and of the whole: (g, p) as told above -/
def RdI (t : Int → Int) (n : Int) (S : RSt) (so p e v br : Int) : Prop := (S.1 = 0 ∨ S.1 = 1) ∧ S.2 = p ∧ (br = 0 ↔ S.1 = 1) ∧ (0 ≤ p ∧ p ≤ n) ∧ (S.1 = 1 → TokI t n so p e v)
/-! what holds of the text that the class has -/
def TXe (t : Int → Int) (n : Int) : Prop := ∀ z : Int, n ≤ z → t z = 0
theorem tC_e (f : Nat → Int32) (n : Int) : TXe (tC f n) n := fun z h => if_neg (by omega)
theorem tM_e (f : Nat → Int32) (n : Int) : TXe (tM f n) n := fun z h => if_neg (by omega)
theorem cLt_n {c : Int} (h : c = 0 ∨ c < 97 ∨ 122 < c) : ¬ cLt c := by unfold cLt; omega
theorem cDg_n {c : Int} (h : c = 0 ∨ c < 48 ∨ 57 < c) : ¬ cDg c := by unfold cDg; omega
theorem cBl_n {c : Int} (h : c ≠ 32) : ¬ cBl c := h
/-- a run within the text: it ends there -/
theorem rn_in {P : Int → Prop} {t : Int → Int} {n z : Int} (h0 : ¬ P 0) (hx : TXe t n) (hz : z ≤ n) : isRn P t z (rn P t z) ∧ z ≤ rn P t z ∧ rn P t z ≤ n := by
  have key : ∀ d : Nat, ∀ z : Int, n - z ≤ d → z ≤ n → ∃ m, isRn P t z m ∧ m ≤ n := by
    intro d
    induction d with
    | zero =>
      intro z h1 h2
      exact ⟨z, ⟨Int.le_refl _, fun j a b => by omega, by rw [hx z (by omega)]; exact h0⟩, h2⟩
    | succ d ih =>
      intro z h1 h2
      by_cases e : z = n
      · exact ⟨z, ⟨Int.le_refl _, fun j a b => by omega, by rw [hx z (by omega)]; exact h0⟩, h2⟩
      · by_cases p : P (t z)
        · obtain ⟨m, hm, hn⟩ := ih (z + 1) (by omega) (by omega)
          refine ⟨m, ⟨by have := hm.1; omega, fun j a b => ?_, hm.2.2⟩, hn⟩
          by_cases q : j = z
          · rw [q]; exact p
          · exact hm.2.1 j (by omega) b
        · exact ⟨z, ⟨Int.le_refl _, fun j a b => by omega, p⟩, h2⟩
  obtain ⟨m, hm, hn⟩ := key (n - z).toNat z (by omega) hz
  rw [rn_eq hm]
  exact ⟨hm, hm.1, hn⟩
/-- no word where no letter is -/
theorem wOk_l {t : Int → Int} {p : Int} {w : List Int} (h : ¬ cLt (t p)) (hw : 1 ≤ (w.length : Int)) : ¬ wOk t p w := fun x => by
  have := x.1
  rw [rn_id h] at this
  omega
theorem nOk_l {t : Int → Int} {p : Int} (h : cLt (t p)) : ¬ nOk t p := by
  unfold cLt at h
  have e : nS t p = p := if_neg (by omega)
  have e2 : nE t p = p := by
    unfold nE
    rw [e]
    exact rn_id (cDg_n (by omega))
  unfold nOk
  omega
theorem nOk_0 {t : Int → Int} {p : Int} (h : t p = 0) : ¬ nOk t p := by
  have e : nS t p = p := if_neg (by omega)
  have e2 : nE t p = p := by
    unfold nE
    rw [e]
    exact rn_id (cDg_n (Or.inl h))
  unfold nOk
  omega
/-- the class's reader refuses a word -/
theorem rd_w0 {t : Int → Int} {n : Int} {S : RSt} {so p e v br : Int} {w : List Int} (hx : TXe t n) (h : RdI t n S so p e v br) (hw : 1 ≤ (w.length : Int)) (hr : br ≠ 0 ∨ so ≠ 1 ∨ e - p ≠ (w.length : Int)) : ¬ (S.1 = 1 ∧ wOk t S.2 w) := by
  rintro ⟨h1, h2⟩
  obtain ⟨a1, a2, a3, a4, a5⟩ := h
  obtain ⟨b1, b2, b3, b4⟩ := a5 h1
  rw [a2] at h2
  have hb : br = 0 := a3.mpr h1
  by_cases hp : p < n
  · by_cases hl : cLt (t p)
    · obtain ⟨c1, c2⟩ := b3 hp hl
      have := h2.1
      omega
    · exact wOk_l hl hw h2
  · exact wOk_l (cLt_n (Or.inl (hx p (by omega)))) hw h2
theorem rd_w1 {t : Int → Int} {n : Int} {S : RSt} {so p e v br : Int} {w : List Int} (h : RdI t n S so p e v br) (hb : br = 0) (hs : so = 1) (he : e - p = (w.length : Int)) (hc : ∀ i : Nat, i < w.length → t (p + (i : Int)) = w.getD i 0) : S.1 = 1 ∧ wOk t S.2 w := by
  obtain ⟨a1, a2, a3, a4, a5⟩ := h
  have h1 := a3.mp hb
  obtain ⟨b1, b2, b3, b4⟩ := a5 h1
  have hp : p < n := by
    apply Classical.byContradiction
    intro q
    have := b2 (by omega)
    omega
  have hl : cLt (t p) := by
    apply Classical.byContradiction
    intro q
    rcases (b4 hp q).2 with ⟨-, x, -⟩ | ⟨-, x⟩ <;> omega
  refine ⟨h1, ?_, by rw [a2]; exact hc⟩
  rw [a2]
  have := (b3 hp hl).2
  omega
/-- and behind it -/
theorem rd_st {t : Int → Int} {n so p e v : Int} {S : RSt} {br : Int} (hS : S = (1, p)) (hb : br = 0) (hp : 0 ≤ p ∧ p ≤ n) (h : TokI t n so p e v) : RdI t n S so p e v br := by
  subst hS
  exact ⟨Or.inr rfl, rfl, ⟨fun _ => rfl, fun _ => hb⟩, hp, fun _ => h⟩
theorem rd_n0 {t : Int → Int} {n : Int} {S : RSt} {so p e v br lo hi : Int} (hx : TXe t n) (h : RdI t n S so p e v br) (hr : br ≠ 0 ∨ so ≠ 2 ∨ v < lo ∨ hi < v) : ¬ (S.1 = 1 ∧ nOk t S.2 ∧ lo ≤ nVl t S.2 ∧ nVl t S.2 ≤ hi) := by
  rintro ⟨h1, h2, h3, h4⟩
  obtain ⟨a1, a2, a3, a4, a5⟩ := h
  obtain ⟨b1, b2, b3, b4⟩ := a5 h1
  rw [a2] at h2 h3 h4
  have hb : br = 0 := a3.mpr h1
  by_cases hp : p < n
  · by_cases hl : cLt (t p)
    · exact nOk_l hl h2
    · rcases (b4 hp hl).2 with ⟨-, x, y⟩ | ⟨x, -⟩
      · omega
      · exact x h2
  · exact nOk_0 (hx p (by omega)) h2
theorem rd_n1 {t : Int → Int} {n : Int} {S : RSt} {so p e v br : Int} (h : RdI t n S so p e v br) (hb : br = 0) (hs : so = 2) : S.1 = 1 ∧ S.2 = p ∧ nOk t p ∧ v = nVl t p ∧ e = nE t p := by
  obtain ⟨a1, a2, a3, a4, a5⟩ := h
  have h1 := a3.mp hb
  obtain ⟨b1, b2, b3, b4⟩ := a5 h1
  have hp : p < n := by
    apply Classical.byContradiction
    intro q
    have := b2 (by omega)
    omega
  have hl : ¬ cLt (t p) := fun q => by
    have := (b3 hp q).1
    omega
  rcases b4 hp hl with ⟨x, ⟨y, -, z⟩ | ⟨-, z⟩⟩
  · exact ⟨h1, a2, y, z, x⟩
  · omega
theorem rd_bad {t : Int → Int} {n : Int} {S : RSt} {so p e v br : Int} (h : RdI t n S so p e v br) {br2 : Int} (hb : br2 ≠ 0) : RdI t n (0, S.2) so p e v br2 := ⟨Or.inl rfl, h.2.1, ⟨fun q => absurd q hb, fun q => absurd (show (0 : Int) = 1 from q) (by decide)⟩, h.2.2.2.1, fun q => absurd (show (0 : Int) = 1 from q) (by decide)⟩
theorem tkK_at {t : Int → Int} {S : RSt} {n : Nat} (hn : n < 6) (h : ∀ k : Nat, k < n → (tkW t (kw k) S).1 ≠ 1) (h1 : (tkW t (kw n) S).1 = 1) : tkK t S = ((n : Int), (tkW t (kw n) S).2) := by
  have key : ∀ f m : Nat, m ≤ n → n < m + f → tkKf t S f m = ((n : Int), (tkW t (kw n) S).2) := by
    intro f
    induction f with
    | zero => intro m a b; omega
    | succ f ih =>
      intro m a b
      show (if (tkW t (kw m) S).1 = 1 then ((m : Int), (tkW t (kw m) S).2) else tkKf t S f (m + 1)) = _
      by_cases e : m = n
      · rw [e, if_pos h1]
      · rw [if_neg (h m (by omega))]
        exact ih (m + 1) (by omega) (by omega)
  exact key 6 0 (by omega) (by omega)
theorem tkK_no {t : Int → Int} {S : RSt} (h : ∀ k : Nat, k < 6 → (tkW t (kw k) S).1 ≠ 1) : tkK t S = (0, (0, S.2)) := by
  have key : ∀ f m : Nat, m + f ≤ 6 → tkKf t S f m = (0, (0, S.2)) := by
    intro f
    induction f with
    | zero => intro m a; rfl
    | succ f ih =>
      intro m a
      show (if (tkW t (kw m) S).1 = 1 then ((m : Int), (tkW t (kw m) S).2) else tkKf t S f (m + 1)) = _
      rw [if_neg (h m (by omega))]
      exact ih (m + 1) (by omega)
  exact key 6 0 (by omega)
theorem kw_len : ∀ i : Nat, i < 10 → (kw i).length = [6, 6, 5, 3, 5, 4, 7, 5, 4, 4].getD i 0 := by decide
theorem kw_b : ∀ i : Nat, i < 10 → 3 ≤ (kw i).length ∧ (kw i).length ≤ 7 := by decide
/-! the reference's reader: whether it is well so far, where it reads, the place of the fault -/
def RdM (t : Int → Int) (n : Int) (S : RSt) (g rd pl : Int) : Prop := (S.1 = 0 ∨ S.1 = 1) ∧ (g ≠ 0 ↔ S.1 = 1) ∧ (S.1 = 1 → S.2 = rn cBl t rd) ∧ (S.1 = 0 → S.2 = pl) ∧ (0 ≤ rd ∧ rd ≤ n) ∧ (0 ≤ S.2 ∧ S.2 ≤ n)
theorem rn_idem {t : Int → Int} {n z : Int} (hx : TXe t n) (hz : z ≤ n) : rn cBl t (rn cBl t z) = rn cBl t z := rn_id (rn_in (P := cBl) (by unfold cBl; decide) hx hz).1.2.2
theorem RdM.sk {t : Int → Int} {n : Int} {S : RSt} {g rd rd2 pl : Int} (hx : TXe t n) (h : RdM t n S g rd pl) (e : rd2 = rn cBl t rd) : RdM t n S g rd2 pl := by
  obtain ⟨a1, a2, a3, a4, a5, a6⟩ := h
  have hb := rn_in (P := cBl) (t := t) (n := n) (z := rd) (by unfold cBl; decide) hx a5.2
  exact ⟨a1, a2, fun q => by rw [e, rn_idem hx a5.2]; exact a3 q, a4, by rw [e]; omega, a6⟩
theorem rd_eb {t : Int → Int} {n : Int} {S : RSt} {so p e v br : Int} (hx : TXe t n) (h : RdI t n S so p e v br) (hb : br = 0) (hs : so = 1 ∨ so = 2) : 0 ≤ e ∧ e ≤ n := by
  obtain ⟨a1, a2, a3, a4, a5⟩ := h
  obtain ⟨b1, b2, b3, b4⟩ := a5 (a3.mp hb)
  have hp : p < n := by
    apply Classical.byContradiction
    intro q
    have := b2 (by omega)
    omega
  by_cases hl : cLt (t p)
  · have := rn_in (P := cLt) (t := t) (n := n) (z := p) (by unfold cLt; omega) hx (by omega)
    rw [(b3 hp hl).2]
    omega
  · have hS := nS_f t p
    have hz : nS t p ≤ n ∧ 0 ≤ nS t p := by omega
    have := rn_in (P := cDg) (t := t) (n := n) (z := nS t p) (by unfold cDg; omega) hx hz.1
    rw [(b4 hp hl).1]
    show 0 ≤ rn cDg t (nS t p) ∧ rn cDg t (nS t p) ≤ n
    omega
theorem tkN_b (t : Int → Int) {lo hi : Int} (S : RSt) (h : lo ≤ 0 ∧ 0 ≤ hi) : lo ≤ (tkN t lo hi S).1 ∧ (tkN t lo hi S).1 ≤ hi := by
  by_cases q : S.1 = 1 ∧ nOk t S.2 ∧ lo ≤ nVl t S.2 ∧ nVl t S.2 ≤ hi
  · rw [tkN_t q.1 q.2.1 q.2.2.1 q.2.2.2]; exact q.2.2
  · rw [tkN_f q]; exact h
theorem tkA_a {t : Int → Int} {S : RSt} (h : (tkW t (kw 6) S).1 = 1) : tkA t S = (1, (tkW t (kw 6) S).2) := if_pos h
theorem tkA_b {t : Int → Int} {S : RSt} (h : (tkW t (kw 6) S).1 ≠ 1) (h2 : (tkW t (kw 7) S).1 = 1) : tkA t S = (2, (tkW t (kw 7) S).2) := by
  unfold tkA
  rw [if_neg h, if_pos h2]
theorem tkA_c {t : Int → Int} {S : RSt} (h : (tkW t (kw 6) S).1 ≠ 1) (h2 : (tkW t (kw 7) S).1 ≠ 1) : tkA t S = (0, S) := by
  unfold tkA
  rw [if_neg h, if_neg h2]
theorem tkW_n {t : Int → Int} {w : List Int} {S : RSt} (h : (tkW t w S).1 ≠ 1) : (tkW t w S).2 = S := by
  rcases tkW_01 t w S with q | q
  · exact absurd q h
  · exact q.2
