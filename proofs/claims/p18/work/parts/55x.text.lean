/-! ===== the text: signs 0 .. 255, 0 behind its end ===== -/
def tC (f : Nat → Int32) (n z : Int) : Int := if 0 ≤ z ∧ z < n then aI f z else 0
theorem tC_f (f : Nat → Int32) (n z : Int) : ((0 ≤ z ∧ z < n) ∧ tC f n z = aI f z) ∨ (¬ (0 ≤ z ∧ z < n) ∧ tC f n z = 0) := by
  unfold tC
  split
  · exact Or.inl ⟨by assumption, rfl⟩
  · exact Or.inr ⟨by assumption, rfl⟩
def tM (f : Nat → Int32) (n z : Int) : Int := if 0 ≤ z ∧ z < n then aI f z % 256 else 0
theorem tM_f (f : Nat → Int32) (n z : Int) : ((0 ≤ z ∧ z < n) ∧ tM f n z = aI f z % 256) ∨ (¬ (0 ≤ z ∧ z < n) ∧ tM f n z = 0) := by
  unfold tM
  split
  · exact Or.inl ⟨by assumption, rfl⟩
  · exact Or.inr ⟨by assumption, rfl⟩
/-- from z to m all are so, and that at m is not -/
def isRn (P : Int → Prop) (t : Int → Int) (z m : Int) : Prop := z ≤ m ∧ (∀ j : Int, z ≤ j → j < m → P (t j)) ∧ ¬ P (t m)
theorem isRn_u {P : Int → Prop} {t : Int → Int} {z m n : Int} (h1 : isRn P t z m) (h2 : isRn P t z n) : m = n := by
  rcases Int.lt_trichotomy m n with h | h | h
  · exact absurd (h2.2.1 m h1.1 h) h1.2.2
  · exact h
  · exact absurd (h1.2.1 n h2.1 h) h2.2.2
theorem rn_ex : ∃ g : (Int → Prop) → (Int → Int) → Int → Int, ∀ P t z m, isRn P t z m → g P t z = m := by
  classical
  refine ⟨fun P t z => if h : ∃ m, isRn P t z m then Classical.choose h else z, fun P t z m hm => ?_⟩
  have h : ∃ m, isRn P t z m := ⟨m, hm⟩
  show (if h : ∃ m, isRn P t z m then Classical.choose h else z) = m
  rw [dif_pos h]
  exact isRn_u (Classical.choose_spec h) hm
noncomputable def rn (P : Int → Prop) (t : Int → Int) (z : Int) : Int := Classical.choose rn_ex P t z
theorem rn_eq {P : Int → Prop} {t : Int → Int} {z m : Int} (h : isRn P t z m) : rn P t z = m := Classical.choose_spec rn_ex P t z m h
theorem rn_id {P : Int → Prop} {t : Int → Int} {z : Int} (h : ¬ P (t z)) : rn P t z = z := rn_eq ⟨Int.le_refl _, fun j h1 h2 => by omega, h⟩
def cBl (c : Int) : Prop := c = 32
def cLt (c : Int) : Prop := 97 ≤ c ∧ c ≤ 122
def cDg (c : Int) : Prop := 48 ≤ c ∧ c ≤ 57
def nvR (t : Int → Int) (z : Int) : Nat → Int
  | 0 => 0
  | k + 1 => 10 * nvR t z k + (t (z + k) - 48)
theorem nv_ex : ∃ g : (Int → Int) → Int → Int → Int, ∀ t z k, g t z k = nvR t z k.toNat := ⟨fun t z k => nvR t z k.toNat, fun _ _ _ => rfl⟩
noncomputable def nv (t : Int → Int) (z k : Int) : Int := Classical.choose nv_ex t z k
theorem nv_eq (t : Int → Int) (z k : Int) : nv t z k = nvR t z k.toNat := Classical.choose_spec nv_ex t z k
theorem nv_0 (t : Int → Int) (z : Int) : nv t z 0 = 0 := by rw [nv_eq]; rfl
theorem nv_s {t : Int → Int} {z k : Int} (h : 0 ≤ k) : nv t z (k + 1) = 10 * nv t z k + (t (z + k) - 48) := by
  have e : (k + 1).toNat = k.toNat + 1 := by omega
  have e2 : ((k.toNat : Nat) : Int) = k := by omega
  rw [nv_eq, nv_eq, e]
  show 10 * nvR t z k.toNat + (t (z + (k.toNat : Nat)) - 48) = _
  rw [e2]
/-- a number at p: where its digits begin and end, whether it is one, which -/
def nS (t : Int → Int) (p : Int) : Int := if t p = 45 then p + 1 else p
noncomputable def nE (t : Int → Int) (p : Int) : Int := rn cDg t (nS t p)
def nOk (t : Int → Int) (p : Int) : Prop := 1 ≤ nE t p - nS t p ∧ nE t p - nS t p ≤ 4
noncomputable def nVl (t : Int → Int) (p : Int) : Int := if t p = 45 then - nv t (nS t p) (nE t p - nS t p) else nv t (nS t p) (nE t p - nS t p)
theorem nS_f (t : Int → Int) (p : Int) : (t p = 45 ∧ nS t p = p + 1 ∧ nVl t p = - nv t (nS t p) (nE t p - nS t p)) ∨ (t p ≠ 45 ∧ nS t p = p ∧ nVl t p = nv t (nS t p) (nE t p - nS t p)) := by
  by_cases h : t p = 45
  · exact Or.inl ⟨h, if_pos h, if_pos h⟩
  · exact Or.inr ⟨h, if_neg h, if_neg h⟩
/-- the word w stands at p, and no letter behind it -/
def wOk (t : Int → Int) (p : Int) (w : List Int) : Prop := rn cLt t p = p + (w.length : Int) ∧ ∀ i : Nat, i < w.length → t (p + (i : Int)) = w.getD i 0
abbrev RSt := Int × Int
/-- a word is taken, if it stands there -/
noncomputable def tkW (t : Int → Int) (w : List Int) (S : RSt) : Int × RSt := by
  classical
  exact if S.1 = 1 ∧ wOk t S.2 w then (1, (1, rn cBl t (S.2 + (w.length : Int)))) else (0, S)
noncomputable def tkN (t : Int → Int) (lo hi : Int) (S : RSt) : Int × RSt := by
  classical
  exact if S.1 = 1 ∧ nOk t S.2 ∧ lo ≤ nVl t S.2 ∧ nVl t S.2 ≤ hi then (nVl t S.2, (1, rn cBl t (nE t S.2))) else (0, (0, S.2))
theorem tkW_t {t : Int → Int} {w : List Int} {S : RSt} (h : S.1 = 1) (h2 : wOk t S.2 w) : tkW t w S = (1, (1, rn cBl t (S.2 + (w.length : Int)))) := by
  unfold tkW
  exact if_pos ⟨h, h2⟩
theorem tkW_f {t : Int → Int} {w : List Int} {S : RSt} (h : ¬ (S.1 = 1 ∧ wOk t S.2 w)) : tkW t w S = (0, S) := by
  unfold tkW
  exact if_neg h
theorem tkN_t {t : Int → Int} {lo hi : Int} {S : RSt} (h : S.1 = 1) (h2 : nOk t S.2) (h3 : lo ≤ nVl t S.2) (h4 : nVl t S.2 ≤ hi) : tkN t lo hi S = (nVl t S.2, (1, rn cBl t (nE t S.2))) := by
  unfold tkN
  exact if_pos ⟨h, h2, h3, h4⟩
theorem tkN_f {t : Int → Int} {lo hi : Int} {S : RSt} (h : ¬ (S.1 = 1 ∧ nOk t S.2 ∧ lo ≤ nVl t S.2 ∧ nVl t S.2 ≤ hi)) : tkN t lo hi S = (0, (0, S.2)) := by
  unfold tkN
  exact if_neg h
/-- the words of kinds: unique, refers, range, sum, count, tree; cascade, clear, late, rank -/
def kwd : List (List Int) := [[117, 110, 105, 113, 117, 101], [114, 101, 102, 101, 114, 115], [114, 97, 110, 103, 101], [115, 117, 109], [99, 111, 117, 110, 116], [116, 114, 101, 101], [99, 97, 115, 99, 97, 100, 101], [99, 108, 101, 97, 114], [108, 97, 116, 101], [114, 97, 110, 107]]
def kw (i : Nat) : List Int := kwd.getD i []
/-- from the n-th kind on: the first that stands there -/
noncomputable def tkKf (t : Int → Int) (S : RSt) : Nat → Nat → Int × RSt
  | 0, _ => (0, (0, S.2))
  | f + 1, n => if (tkW t (kw n) S).1 = 1 then ((n : Int), (tkW t (kw n) S).2) else tkKf t S f (n + 1)
noncomputable def tkK (t : Int → Int) (S : RSt) : Int × RSt := tkKf t S 6 0
/-- what a rule does with rows that refer -/
noncomputable def tkA (t : Int → Int) (S : RSt) : Int × RSt := if (tkW t (kw 6) S).1 = 1 then (1, (tkW t (kw 6) S).2) else if (tkW t (kw 7) S).1 = 1 then (2, (tkW t (kw 7) S).2) else (0, S)
theorem tkW_01 (t : Int → Int) (w : List Int) (S : RSt) : (tkW t w S).1 = 1 ∨ ((tkW t w S).1 = 0 ∧ (tkW t w S).2 = S) := by
  by_cases h : S.1 = 1 ∧ wOk t S.2 w
  · exact Or.inl (by rw [tkW_t h.1 h.2])
  · exact Or.inr (by rw [tkW_f h]; exact ⟨rfl, rfl⟩)
/-- where and what is read: kind, table, column, other, low, high, action, late, rank; at last whether it is well, and the place -/
noncomputable def rS1 (t : Int → Int) : Int × RSt := tkK t (1, rn cBl t 0)
noncomputable def rS2 (t : Int → Int) : Int × RSt := tkN t 0 2 (rS1 t).2
noncomputable def rS3 (t : Int → Int) : Int × RSt := tkN t 0 2 (rS2 t).2
noncomputable def rS4 (t : Int → Int) : Int × RSt := if (rS1 t).1 = 1 ∨ (rS1 t).1 = 3 ∨ (rS1 t).1 = 4 then tkN t 0 2 (rS3 t).2 else (-1, (rS3 t).2)
noncomputable def rS5 (t : Int → Int) : Int × RSt := if (rS1 t).1 = 2 ∨ (rS1 t).1 = 3 ∨ (rS1 t).1 = 4 then tkN t (-9999) 9999 (rS4 t).2 else (0, (rS4 t).2)
noncomputable def rS6 (t : Int → Int) : Int × RSt := if (rS1 t).1 = 2 ∨ (rS1 t).1 = 3 ∨ (rS1 t).1 = 4 then tkN t (rS5 t).1 9999 (rS5 t).2 else (0, (rS5 t).2)
noncomputable def rS7 (t : Int → Int) : Int × RSt := if (rS1 t).1 = 1 then tkA t (rS6 t).2 else (0, (rS6 t).2)
noncomputable def rS8 (t : Int → Int) : Int × RSt := tkW t (kw 8) (rS7 t).2
noncomputable def rS9 (t : Int → Int) : Int × RSt := if (tkW t (kw 9) (rS8 t).2).1 = 1 then tkN t 0 99 (tkW t (kw 9) (rS8 t).2).2 else (50, (tkW t (kw 9) (rS8 t).2).2)
/-- it is a rule: nothing is wrong, and nothing is left -/
def rOk (t : Int → Int) (n : Int) : Prop := (rS9 t).2.1 = 1 ∧ n ≤ (rS9 t).2.2
/-! what the class's reader knows of the token at p: sort, start, stop, number -/
def TokI (t : Int → Int) (n so p e v : Int) : Prop := ¬ cBl (t p) ∧ (n ≤ p → so = 0) ∧ (p < n → cLt (t p) → so = 1 ∧ e = rn cLt t p) ∧ (p < n → ¬ cLt (t p) → e = nE t p ∧ ((nOk t p ∧ so = 2 ∧ v = nVl t p) ∨ (¬ nOk t p ∧ so = 3)))
/-- and of the whole: (g, p) as told above -/
def RdI (t : Int → Int) (n : Int) (S : RSt) (so p e v br : Int) : Prop := (S.1 = 0 ∨ S.1 = 1) ∧ S.2 = p ∧ (br = 0 ↔ S.1 = 1) ∧ (0 ≤ p ∧ p ≤ n) ∧ (S.1 = 1 → TokI t n so p e v)
/-! what holds of the text that the class has -/
def TXe (t : Int → Int) (n : Int) : Prop := ∀ z : Int, n ≤ z → t z = 0
theorem tC_e (f : Nat → Int32) (n : Int) : TXe (tC f n) n := fun z h => if_neg (by omega)
theorem tM_e (f : Nat → Int32) (n : Int) : TXe (tM f n) n := fun z h => if_neg (by omega)
theorem cLt_n {c : Int} (h : c = 0 ∨ c < 97 ∨ 122 < c) : ¬ cLt c := by unfold cLt; omega
theorem cDg_n {c : Int} (h : c = 0 ∨ c < 48 ∨ 57 < c) : ¬ cDg c := by unfold cDg; omega
theorem cBl_n {c : Int} (h : c ≠ 32) : ¬ cBl c := h
/-- a run within the text: it ends there -/
theorem rn_in {P : Int → Prop} {t : Int → Int} {n z : Int} (h0 : ¬ P 0) (hx : TXe t n) (hz : z ≤ n) : isRn P t z (rn P t z) ∧ z ≤ rn P t z ∧ rn P t z ≤ n := by
  have key : ∀ d : Nat, ∀ z : Int, n - z ≤ d → z ≤ n → ∃ m, isRn P t z m ∧ m ≤ n := by
    intro d
    induction d with
    | zero =>
      intro z h1 h2
      exact ⟨z, ⟨Int.le_refl _, fun j a b => by omega, by rw [hx z (by omega)]; exact h0⟩, h2⟩
    | succ d ih =>
      intro z h1 h2
      by_cases e : z = n
      · exact ⟨z, ⟨Int.le_refl _, fun j a b => by omega, by rw [hx z (by omega)]; exact h0⟩, h2⟩
      · by_cases p : P (t z)
        · obtain ⟨m, hm, hn⟩ := ih (z + 1) (by omega) (by omega)
          refine ⟨m, ⟨by have := hm.1; omega, fun j a b => ?_, hm.2.2⟩, hn⟩
          by_cases q : j = z
          · rw [q]; exact p
          · exact hm.2.1 j (by omega) b
        · exact ⟨z, ⟨Int.le_refl _, fun j a b => by omega, p⟩, h2⟩
  obtain ⟨m, hm, hn⟩ := key (n - z).toNat z (by omega) hz
  rw [rn_eq hm]
  exact ⟨hm, hm.1, hn⟩
/-- no word where no letter is -/
theorem wOk_l {t : Int → Int} {p : Int} {w : List Int} (h : ¬ cLt (t p)) (hw : 1 ≤ (w.length : Int)) : ¬ wOk t p w := fun x => by
  have := x.1
  rw [rn_id h] at this
  omega
theorem nOk_l {t : Int → Int} {p : Int} (h : cLt (t p)) : ¬ nOk t p := by
  unfold cLt at h
  have e : nS t p = p := if_neg (by omega)
  have e2 : nE t p = p := by
    unfold nE
    rw [e]
    exact rn_id (cDg_n (by omega))
  unfold nOk
  omega
theorem nOk_0 {t : Int → Int} {p : Int} (h : t p = 0) : ¬ nOk t p := by
  have e : nS t p = p := if_neg (by omega)
  have e2 : nE t p = p := by
    unfold nE
    rw [e]
    exact rn_id (cDg_n (Or.inl h))
  unfold nOk
  omega
/-- the class's reader refuses a word -/
theorem rd_w0 {t : Int → Int} {n : Int} {S : RSt} {so p e v br : Int} {w : List Int} (hx : TXe t n) (h : RdI t n S so p e v br) (hw : 1 ≤ (w.length : Int)) (hr : br ≠ 0 ∨ so ≠ 1 ∨ e - p ≠ (w.length : Int)) : ¬ (S.1 = 1 ∧ wOk t S.2 w) := by
  rintro ⟨h1, h2⟩
  obtain ⟨a1, a2, a3, a4, a5⟩ := h
  obtain ⟨b1, b2, b3, b4⟩ := a5 h1
  rw [a2] at h2
  have hb : br = 0 := a3.mpr h1
  by_cases hp : p < n
  · by_cases hl : cLt (t p)
    · obtain ⟨c1, c2⟩ := b3 hp hl
      have := h2.1
      omega
    · exact wOk_l hl hw h2
  · exact wOk_l (cLt_n (Or.inl (hx p (by omega)))) hw h2
theorem rd_w1 {t : Int → Int} {n : Int} {S : RSt} {so p e v br : Int} {w : List Int} (h : RdI t n S so p e v br) (hb : br = 0) (hs : so = 1) (he : e - p = (w.length : Int)) (hc : ∀ i : Nat, i < w.length → t (p + (i : Int)) = w.getD i 0) : S.1 = 1 ∧ wOk t S.2 w := by
  obtain ⟨a1, a2, a3, a4, a5⟩ := h
  have h1 := a3.mp hb
  obtain ⟨b1, b2, b3, b4⟩ := a5 h1
  have hp : p < n := by
    apply Classical.byContradiction
    intro q
    have := b2 (by omega)
    omega
  have hl : cLt (t p) := by
    apply Classical.byContradiction
    intro q
    rcases (b4 hp q).2 with ⟨-, x, -⟩ | ⟨-, x⟩ <;> omega
  refine ⟨h1, ?_, by rw [a2]; exact hc⟩
  rw [a2]
  have := (b3 hp hl).2
  omega
/-- and behind it -/
theorem rd_st {t : Int → Int} {n so p e v : Int} {S : RSt} {br : Int} (hS : S = (1, p)) (hb : br = 0) (hp : 0 ≤ p ∧ p ≤ n) (h : TokI t n so p e v) : RdI t n S so p e v br := by
  subst hS
  exact ⟨Or.inr rfl, rfl, ⟨fun _ => rfl, fun _ => hb⟩, hp, fun _ => h⟩
theorem rd_n0 {t : Int → Int} {n : Int} {S : RSt} {so p e v br lo hi : Int} (hx : TXe t n) (h : RdI t n S so p e v br) (hr : br ≠ 0 ∨ so ≠ 2 ∨ v < lo ∨ hi < v) : ¬ (S.1 = 1 ∧ nOk t S.2 ∧ lo ≤ nVl t S.2 ∧ nVl t S.2 ≤ hi) := by
  rintro ⟨h1, h2, h3, h4⟩
  obtain ⟨a1, a2, a3, a4, a5⟩ := h
  obtain ⟨b1, b2, b3, b4⟩ := a5 h1
  rw [a2] at h2 h3 h4
  have hb : br = 0 := a3.mpr h1
  by_cases hp : p < n
  · by_cases hl : cLt (t p)
    · exact nOk_l hl h2
    · rcases (b4 hp hl).2 with ⟨-, x, y⟩ | ⟨x, -⟩
      · omega
      · exact x h2
  · exact nOk_0 (hx p (by omega)) h2
theorem rd_n1 {t : Int → Int} {n : Int} {S : RSt} {so p e v br : Int} (h : RdI t n S so p e v br) (hb : br = 0) (hs : so = 2) : S.1 = 1 ∧ S.2 = p ∧ nOk t p ∧ v = nVl t p ∧ e = nE t p := by
  obtain ⟨a1, a2, a3, a4, a5⟩ := h
  have h1 := a3.mp hb
  obtain ⟨b1, b2, b3, b4⟩ := a5 h1
  have hp : p < n := by
    apply Classical.byContradiction
    intro q
    have := b2 (by omega)
    omega
  have hl : ¬ cLt (t p) := fun q => by
    have := (b3 hp q).1
    omega
  rcases b4 hp hl with ⟨x, ⟨y, -, z⟩ | ⟨-, z⟩⟩
  · exact ⟨h1, a2, y, z, x⟩
  · omega
theorem rd_bad {t : Int → Int} {n : Int} {S : RSt} {so p e v br : Int} (h : RdI t n S so p e v br) {br2 : Int} (hb : br2 ≠ 0) : RdI t n (0, S.2) so p e v br2 := ⟨Or.inl rfl, h.2.1, ⟨fun q => absurd q hb, fun q => absurd (show (0 : Int) = 1 from q) (by decide)⟩, h.2.2.2.1, fun q => absurd (show (0 : Int) = 1 from q) (by decide)⟩
theorem tkK_at {t : Int → Int} {S : RSt} {n : Nat} (hn : n < 6) (h : ∀ k : Nat, k < n → (tkW t (kw k) S).1 ≠ 1) (h1 : (tkW t (kw n) S).1 = 1) : tkK t S = ((n : Int), (tkW t (kw n) S).2) := by
  have key : ∀ f m : Nat, m ≤ n → n < m + f → tkKf t S f m = ((n : Int), (tkW t (kw n) S).2) := by
    intro f
    induction f with
    | zero => intro m a b; omega
    | succ f ih =>
      intro m a b
      show (if (tkW t (kw m) S).1 = 1 then ((m : Int), (tkW t (kw m) S).2) else tkKf t S f (m + 1)) = _
      by_cases e : m = n
      · rw [e, if_pos h1]
      · rw [if_neg (h m (by omega))]
        exact ih (m + 1) (by omega) (by omega)
  exact key 6 0 (by omega) (by omega)
theorem tkK_no {t : Int → Int} {S : RSt} (h : ∀ k : Nat, k < 6 → (tkW t (kw k) S).1 ≠ 1) : tkK t S = (0, (0, S.2)) := by
  have key : ∀ f m : Nat, m + f ≤ 6 → tkKf t S f m = (0, (0, S.2)) := by
    intro f
    induction f with
    | zero => intro m a; rfl
    | succ f ih =>
      intro m a
      show (if (tkW t (kw m) S).1 = 1 then ((m : Int), (tkW t (kw m) S).2) else tkKf t S f (m + 1)) = _
      rw [if_neg (h m (by omega))]
      exact ih (m + 1) (by omega)
  exact key 6 0 (by omega)
theorem kw_len : ∀ i : Nat, i < 10 → (kw i).length = [6, 6, 5, 3, 5, 4, 7, 5, 4, 4].getD i 0 := by decide
theorem kw_b : ∀ i : Nat, i < 10 → 3 ≤ (kw i).length ∧ (kw i).length ≤ 7 := by decide
/-! the reference's reader: whether it is well so far, where it reads, the place of the fault -/
def RdM (t : Int → Int) (n : Int) (S : RSt) (g rd pl : Int) : Prop := (S.1 = 0 ∨ S.1 = 1) ∧ (g ≠ 0 ↔ S.1 = 1) ∧ (S.1 = 1 → S.2 = rn cBl t rd) ∧ (S.1 = 0 → S.2 = pl) ∧ (0 ≤ rd ∧ rd ≤ n) ∧ (0 ≤ S.2 ∧ S.2 ≤ n)
theorem rn_idem {t : Int → Int} {n z : Int} (hx : TXe t n) (hz : z ≤ n) : rn cBl t (rn cBl t z) = rn cBl t z := rn_id (rn_in (P := cBl) (by unfold cBl; decide) hx hz).1.2.2
theorem RdM.sk {t : Int → Int} {n : Int} {S : RSt} {g rd rd2 pl : Int} (hx : TXe t n) (h : RdM t n S g rd pl) (e : rd2 = rn cBl t rd) : RdM t n S g rd2 pl := by
  obtain ⟨a1, a2, a3, a4, a5, a6⟩ := h
  have hb := rn_in (P := cBl) (t := t) (n := n) (z := rd) (by unfold cBl; decide) hx a5.2
  exact ⟨a1, a2, fun q => by rw [e, rn_idem hx a5.2]; exact a3 q, a4, by rw [e]; omega, a6⟩
theorem rd_eb {t : Int → Int} {n : Int} {S : RSt} {so p e v br : Int} (hx : TXe t n) (h : RdI t n S so p e v br) (hb : br = 0) (hs : so = 1 ∨ so = 2) : 0 ≤ e ∧ e ≤ n := by
  obtain ⟨a1, a2, a3, a4, a5⟩ := h
  obtain ⟨b1, b2, b3, b4⟩ := a5 (a3.mp hb)
  have hp : p < n := by
    apply Classical.byContradiction
    intro q
    have := b2 (by omega)
    omega
  by_cases hl : cLt (t p)
  · have := rn_in (P := cLt) (t := t) (n := n) (z := p) (by unfold cLt; omega) hx (by omega)
    rw [(b3 hp hl).2]
    omega
  · have hS := nS_f t p
    have hz : nS t p ≤ n ∧ 0 ≤ nS t p := by omega
    have := rn_in (P := cDg) (t := t) (n := n) (z := nS t p) (by unfold cDg; omega) hx hz.1
    rw [(b4 hp hl).1]
    show 0 ≤ rn cDg t (nS t p) ∧ rn cDg t (nS t p) ≤ n
    omega
theorem tkN_b (t : Int → Int) {lo hi : Int} (S : RSt) (h : lo ≤ 0 ∧ 0 ≤ hi) : lo ≤ (tkN t lo hi S).1 ∧ (tkN t lo hi S).1 ≤ hi := by
  by_cases q : S.1 = 1 ∧ nOk t S.2 ∧ lo ≤ nVl t S.2 ∧ nVl t S.2 ≤ hi
  · rw [tkN_t q.1 q.2.1 q.2.2.1 q.2.2.2]; exact q.2.2
  · rw [tkN_f q]; exact h
theorem tkA_a {t : Int → Int} {S : RSt} (h : (tkW t (kw 6) S).1 = 1) : tkA t S = (1, (tkW t (kw 6) S).2) := if_pos h
theorem tkA_b {t : Int → Int} {S : RSt} (h : (tkW t (kw 6) S).1 ≠ 1) (h2 : (tkW t (kw 7) S).1 = 1) : tkA t S = (2, (tkW t (kw 7) S).2) := by
  unfold tkA
  rw [if_neg h, if_pos h2]
theorem tkA_c {t : Int → Int} {S : RSt} (h : (tkW t (kw 6) S).1 ≠ 1) (h2 : (tkW t (kw 7) S).1 ≠ 1) : tkA t S = (0, S) := by
  unfold tkA
  rw [if_neg h, if_neg h2]
theorem tkW_n {t : Int → Int} {w : List Int} {S : RSt} (h : (tkW t w S).1 ≠ 1) : (tkW t w S).2 = S := by
  rcases tkW_01 t w S with q | q
  · exact absurd q h
  · exact q.2
/-- the sign at a place of a string -/
def xch (i : Nat) (z : Int) : Int := (((xbyt.getD i []).getD z.toNat 0)).toInt
theorem xch_b : ∀ i : Nat, i < 13 → ∀ b ∈ xbyt.getD i [], ((b &&& 255).toUInt32 % 65536).toInt32.toInt = b.toInt := by decide +kernel
theorem xch_0 : (((0 : Int32) &&& 255).toUInt32 % 65536).toInt32.toInt = (0 : Int32).toInt := by decide +kernel
theorem xch_n (i : Nat) {n9 : Nat} : ((((xbyt.getD i []).getD n9 0) &&& 255).toUInt32 % 65536).toInt32.toInt = ((xbyt.getD i []).getD n9 0).toInt := by
  by_cases h : i < 13
  · by_cases q : n9 < (xbyt.getD i []).length
    · have e : (xbyt.getD i []).getD n9 0 = (xbyt.getD i [])[n9] := by rw [List.getD_eq_getElem?_getD, List.getElem?_eq_getElem q]; rfl
      rw [e]
      exact xch_b i h _ (List.getElem_mem q)
    · have e : (xbyt.getD i []).getD n9 0 = 0 := by rw [List.getD_eq_getElem?_getD, List.getElem?_eq_none (by omega)]; rfl
      rw [e]
      exact xch_0
  · have e : xbyt.getD i [] = [] := by
      rw [List.getD_eq_getElem?_getD, List.getElem?_eq_none (by have : xbyt.length = 13 := by decide
                                                                omega)]
      rfl
    rw [e]
    exact xch_0
theorem xch_c {i : Nat} {p x3 x4 x5 : Int32} (h3 : x3 = (xbyt.getD i []).getD p.toNatClampNeg 0) (h4 : x4 = x3 &&& 255) (h5 : x5 = (x4.toUInt32 % 65536).toInt32) : x5.toInt = xch i p.toInt := by
  subst h3 h4 h5
  exact xch_n i
theorem xch_kw : ∀ i : Nat, i < 10 → ∀ j : Nat, j < 8 → (((xbyt.getD i []).getD j 0)).toInt = (kw i).getD j 0 := by decide +kernel
theorem xch_k {i : Nat} {z : Int} (h : i < 10) (h0 : 0 ≤ z ∧ z < 8) : xch i z = (kw i).getD z.toNat 0 := xch_kw i h z.toNat (by omega)
theorem xlen_k : ∀ i : Nat, i < 10 → xlen.getD i 0 = (kw i).length := by decide
theorem z_J1_charAt_3b067c_1 (a0 : Int) (a1 : Int) (a2 : Nat) (h0 : 0 ≤ a0 ∧ a0 < ((a2 : Nat) : Int)) (h1 : a1 = ((a2 : Nat) : Int)) : 0 ≤ a0 ∧ a0 < a1 := by omega
abbrev rm_J1_charAtc : Room := { frames := 2, cells := 0, slots := 0, locals := 43 }
set_option maxHeartbeats 4000000 in
set_option maxRecDepth 100000 in
theorem c_J1_charAtc (l : Launch) (E : XE) (K : Nat → Nat) (F : Nat → Nat → Nat) (G : XG) (h0 : Heap) (i : Nat) (p1 : Int32) (hi : i < 13) (e0 : 0 ≤ p1.toInt ∧ p1.toInt < ((xlen.getD i 0 : Nat) : Int)) : Met l yJ1_charAt_3b067 (xw yJ1_charAt_3b067 cJ1_charAt_3b067 2 (some .char)) rm_J1_charAtc (va_Pc [.ref (E.2.2.2.2.2 i), .int p1] (XPh E K F G h0)) (XQ E (fun v (u : Unit) => ∃ r : Int32, v = .int r ∧ xok 1 r ∧ r.toInt = xch i p1.toInt) (fun _ H => H = h0)) 0 0 (xA E) := by
  refine x_enter (by decide) (Nat.le_of_ble_eq_true rfl) ?_
  intro p e s m args below meth c Q S hr hlk hnm hQ hP ls hl
  obtain ⟨⟨hz, hK, hT⟩, hh⟩ := hP
  obtain ⟨hx, hb, -, -, -⟩ := id S
  have hS : va_S (xA E) s.heap s.heap [] := va_S.rf
  have hl : lv_has ls 2 [(0, .ref (E.2.2.2.2.2 i)), (1, .int p1)] := hl
  refine lv_iload_n hx hb dJ1_charAt_3b067_0 rfl (lv_at hl 1 rfl) ?_
  refine lv_aload_n hx hb dJ1_charAt_3b067_1 rfl (lv_at hl 0 rfl) ?_
  refine va_tlen hx hb (hK.2.2.2.1.1 i hi).2.2.2 hS rfl dJ1_charAt_3b067_2 (lv_topi (fun x1 t2 => ?_))
  have t2 : x1.toInt = ((xlen.getD i 0 : Nat) : Int) := by rw [t2]; exact nI_toInt (xlen_lt hi)
  refine x_cvp (x_runS (As := [.int p1, .int x1]) (rest := []) S (c_J0_checkIndex_df160 l E K F G s.heap p1 x1 (z_J1_charAt_3b067c_1 p1.toInt x1.toInt (xlen.getD i 0) e0 t2)) ms_J0_checkIndex_df160 km_J1_9 rfl rfl ⟨Nat.le_of_ble_eq_true rfl, Nat.le_of_ble_eq_true rfl⟩ hK (fun _ => XPh.blind) (fun U hU hW => XPh.at hK hz hS hT hU hW) rfl hl.1 (Nat.le_of_ble_eq_true rfl) dJ1_charAt_3b067_3 ⟨Nat.le_of_ble_eq_true rfl, Nat.le_of_ble_eq_true rfl⟩) hS ?_
  rintro _ locs - hS
  refine lv_aload_n hx hb dJ1_charAt_3b067_6 rfl (lv_at hl 0 rfl) ?_
  refine lv_iload_n hx hb dJ1_charAt_3b067_7 rfl (lv_at hl 1 rfl) ?_
  refine va_tb hx hb (hK.2.2.2.1.1 i hi).2.2.2 hS (vp_in_iff.mpr (e0)) rfl dJ1_charAt_3b067_8 (lv_topi (fun x3 hx3 => ?_))
  refine lv_sipush (v := 255) hx hb dJ1_charAt_3b067_9 (by decide) ?_
  refine lv_iand hx hb dJ1_charAt_3b067_12 (lv_topi (fun x4 hx4 => ?_))
  refine lv_i2c hx hb dJ1_charAt_3b067_13 rfl (lv_topi (fun x5 ec6 => ?_))
  exact x_rz hx hb hr (by rw [ec6]; exact pk_nc _) hlk hQ (Nat.le_of_ble_eq_true rfl) (Nat.le_of_ble_eq_true rfl) hS dJ1_charAt_3b067_14 () ⟨_, rfl, (by rw [ec6]; exact pk_nc _), xch_c hx3 hx4 ec6⟩ hh

abbrev rm_J0_charAtc : Room := { frames := 3, cells := 0, slots := 0, locals := 64 }
set_option maxHeartbeats 4000000 in
set_option maxRecDepth 100000 in
theorem c_J0_charAtc (l : Launch) (E : XE) (K : Nat → Nat) (F : Nat → Nat → Nat) (G : XG) (h0 : Heap) (i : Nat) (p0 : Int32) (hi : i < 13) (e0 : 0 ≤ p0.toInt ∧ p0.toInt < ((xlen.getD i 0 : Nat) : Int)) : Met l yJ0_charAt_5068e (xw yJ0_charAt_5068e cJ0_charAt_5068e 2 (some .char)) rm_J0_charAtc (va_Pc [.ref (E.2.2.2.2.1 i), .int p0] (XPh E K F G h0)) (XQ E (fun v (u : Unit) => ∃ r : Int32, v = .int r ∧ xok 1 r ∧ r.toInt = xch i p0.toInt) (fun _ H => H = h0)) 0 0 (xA E) := by
  refine x_enter (by decide) (Nat.le_of_ble_eq_true rfl) ?_
  intro p e s m args below meth c Q S hr hlk hnm hQ hP ls hl
  obtain ⟨⟨hz, hK, hT⟩, hh⟩ := hP
  obtain ⟨hx, hb, -, -, -⟩ := id S
  have hS : va_S (xA E) s.heap s.heap [] := va_S.rf
  have hl : lv_has ls 2 [(0, .ref (E.2.2.2.2.1 i)), (1, .int p0)] := hl
  refine lv_aload_n hx hb dJ0_charAt_5068e_0 rfl (lv_at hl 0 rfl) ?_
  refine x_clp (x_runV (b := (E.2.2.2.2.1 i)) (As := []) (rest := []) S (c_J0_isLatin1_aae02 l E K F G s.heap i hi) mv_J0_isLatin1_aae02 km_J0_492 rfl rfl ⟨Nat.le_of_ble_eq_true rfl, Nat.le_of_ble_eq_true rfl⟩ (vk_recv hK.2.2.2.1 hi hS) hK (fun _ => XPh.blind) (fun U hU hW => XPh.at hK hz hS hT hU hW) rfl hl.1 (Nat.le_of_ble_eq_true rfl) dJ0_charAt_5068e_1 ⟨Nat.le_of_ble_eq_true rfl, Nat.le_of_ble_eq_true rfl⟩) hS ?_
  rintro _ _ locs ⟨_, rfl, rfl⟩ hS
  refine xi_zeq (tgt := 16) hx hb ((by decide) : Int32.toInt 1 = (1 : Int)) dJ0_charAt_5068e_4 (by decide) (fun c => absurd c (show ¬ ((1 : Int) = 0) by decide)) (fun _ => ?_)
  refine lv_aload_n hx hb dJ0_charAt_5068e_7 rfl (lv_at hl 0 rfl) ?_
  refine vk_getf hx hb (hK.2.2.2.1.1 i hi).2.2.1 hS S.2.2.2.1 (S.2.2.2.2 _ (List.mem_cons_of_mem _ kf_J0_9)) (fun _ h => h) dJ0_charAt_5068e_8 ?_
  refine lv_iload_n hx hb dJ0_charAt_5068e_11 rfl (lv_at hl 1 rfl) ?_
  refine x_clp (x_runS (As := [.ref (E.2.2.2.2.2 i), .int p0]) (rest := []) S (c_J1_charAtc l E K F G s.heap i p0 hi (e0)) ms_J1_charAt_3b067 km_J0_495 rfl rfl ⟨Nat.le_of_ble_eq_true rfl, Nat.le_of_ble_eq_true rfl⟩ hK (fun _ => XPh.blind) (fun U hU hW => XPh.at hK hz hS hT hU hW) rfl hl.1 (Nat.le_of_ble_eq_true rfl) dJ0_charAt_5068e_12 ⟨Nat.le_of_ble_eq_true rfl, Nat.le_of_ble_eq_true rfl⟩) hS ?_
  rintro _ _ locs ⟨x1, rfl, o2, o3⟩ hS
  exact x_rz hx hb hr o2 hlk hQ (Nat.le_of_ble_eq_true rfl) (Nat.le_of_ble_eq_true rfl) hS dJ0_charAt_5068e_15 () ⟨_, rfl, o2, o3⟩ hh
theorem xlen_b {i : Nat} (h : i < 10) : 3 ≤ ((xlen.getD i 0 : Nat) : Int) ∧ ((xlen.getD i 0 : Nat) : Int) ≤ 7 := by
  have h1 := kw_b i h
  rw [xlen_k i h]
  omega
theorem xok2b {x : Int32} {z : Int} (h : xok 2 x) (e : x.toInt = z) : -128 ≤ z ∧ z ≤ 127 := by
  have h2 : narrow .byte (.int x) = .int x := h
  have h3 : x.toInt8.toInt32 = x := by
    have h4 : (Value.int x.toInt8.toInt32) = Value.int x := by
      have h5 : narrow .byte (.int x) = .int x.toInt8.toInt32 := by simp [narrow]
      rw [← h5]; exact h2
    exact Value.int.inj h4
  subst e
  rw [← h3, Int8.toInt_toInt32]
  have h6 := Int8.minValue_le_toInt x.toInt8
  have h7 := Int8.toInt_le x.toInt8
  exact ⟨h6, by
    have : Int8.maxValue.toInt = 127 := by decide
    omega⟩
/-- eight bits of v, from bit z on -/
def bqI (v : Int32) (z : Int) : Int := ((v.toUInt32 >>> ((Int32.ofInt z).toUInt32 &&& Int32.toUInt32 31)).toInt32).toInt % 256
theorem bm256 (x : Int) : Int.bmod x 256 % 256 = x % 256 := by
  have := Int.bmod_emod (x := x) (m := 256)
  exact this
theorem bq_b {v s x y : Int32} {z : Int} (hx : x = (Int32.toUInt32 v >>> (Int32.toUInt32 s &&& Int32.toUInt32 31)).toInt32) (hy : y = (Int32.toInt8 x).toInt32) (hs : s.toInt = z) : y.toInt % 256 = bqI v z := by
  subst hs hy
  unfold bqI
  rw [ofI, ← hx, Int8.toInt_toInt32, Int32.toInt_toInt8]
  exact bm256 _
theorem and255 (x : Int32) : (x &&& 255).toInt = x.toInt % 256 := by
  have e2 : x.toInt = x.toBitVec.toInt := rfl
  have h1 : (x &&& 255).toBitVec.toNat = x.toBitVec.toNat % 256 := by
    rw [Int32.toBitVec_and]
    show (x.toBitVec &&& (255#32)).toNat = _
    rw [BitVec.toNat_and]
    exact Nat.and_two_pow_sub_one_eq_mod x.toBitVec.toNat 8
  have h2 : (x &&& 255).toInt = ((x &&& 255).toBitVec.toNat : Int) := by
    show (x &&& 255).toBitVec.toInt = _
    rw [BitVec.toInt_eq_toNat_of_lt (by rw [h1]; have := Nat.mod_lt x.toBitVec.toNat (show 256 > 0 by decide); omega)]
  rw [h2, h1, e2, BitVec.toInt_eq_toNat_cond]
  have hlt := x.toBitVec.isLt
  split <;> omega
theorem i2c_s {x : Int32} (h : 0 ≤ x.toInt ∧ x.toInt < 65536) : ((Int32.toUInt32 x) % 65536).toInt32.toInt = x.toInt := by
  have e : (Int32.toUInt32 x).toNat = x.toInt.toNat := by
    show x.toBitVec.toNat = x.toBitVec.toInt.toNat
    have h2 : 0 ≤ x.toBitVec.toInt := h.1
    rw [BitVec.toInt_eq_toNat_cond] at h2 ⊢
    split at h2
    · rw [if_pos (by assumption)]; omega
    · exfalso
      have := x.toBitVec.isLt
      omega
  have e2 : (Int32.toUInt32 x) % 65536 = Int32.toUInt32 x := by
    apply UInt32.toNat_inj.mp
    rw [UInt32.toNat_mod, e]
    show x.toInt.toNat % 65536 = _
    omega
  rw [e2]
  rfl
theorem bq_c {v s x y w : Int32} {z : Int} (hx : x = (Int32.toUInt32 v >>> (Int32.toUInt32 s &&& Int32.toUInt32 31)).toInt32) (hy : y = x &&& 255) (hw : w = (Int32.toUInt32 y % 65536).toInt32) (hs : s.toInt = z) : w.toInt = bqI v z := by
  subst hs hw
  have h0 : y.toInt = x.toInt % 256 := by rw [hy]; exact and255 x
  rw [i2c_s (by omega), h0]
  unfold bqI
  rw [ofI, ← hx]
theorem v_X8_addFour_70_1 {K : Nat → Nat} {F : Nat → Nat → Nat} (a : Nat) (G : XG) (G_16 : XG) (p0 : Int32) (x5 : Int32) (l2_16 : Int32) (N16 : Nat)
    (ha : K a = 10)
    (pf : ∀ z : Int, 0 ≤ z → aI (G_16.2.1 (F a 0)) z = if (G.1 a 1).toInt ≤ z ∧ z < ((G_16.1 a 1).toInt) then bqI p0 (24 - 8 * (z - (G.1 a 1).toInt)) else aI (G.2.1 (F a 0)) z)
    (n0 : 0 ≤ ((G.1 a 1).toInt) ∧ ((G.1 a 1).toInt) ≤ 80)
    (t5 : x5.toInt = ((G.1 a 1).toInt) + (4 : Int) ∨ ((G.1 a 1).toInt) + (4 : Int) < -2147483648 ∨ 2147483648 ≤ ((G.1 a 1).toInt) + (4 : Int))
    (c8 : x5.toInt ≤ (80 : Int))
    (I16_0 : -8 ≤ l2_16.toInt ∧ l2_16.toInt ≤ 24)
    (I16_1 : 8 * (((G_16.1 a 1).toInt) - ((G.1 a 1).toInt)) = 24 - l2_16.toInt)
    (hm16 : 100 + l2_16.toInt < (((N16) + 1 : Nat) : Int))
    (c17 : l2_16.toInt < 0) :
    ((1 : Int) = 0 ∧ G_16.2.1 (F a 0) = (G.2.1 (F a 0))) ∨ ((1 : Int) = 1 ∧ ∀ z : Int, 0 ≤ z → aI (G_16.2.1 (F a 0)) z = if ((G.1 a 1).toInt) ≤ z ∧ z < ((G.1 a 1).toInt) + 4 then bqI p0 (24 - 8 * (z - ((G.1 a 1).toInt))) else aI (G.2.1 (F a 0)) z) := by
  refine Or.inr ⟨rfl, fun z hz => ?_⟩
  rw [pf z hz, show (G_16.1 a 1).toInt = (G.1 a 1).toInt + 4 from by omega]
theorem v_X8_addFour_66_2 {K : Nat → Nat} {F : Nat → Nat → Nat} (a : Nat) (G : XG) (G_16 : XG) (p0 : Int32) (l2_16 : Int32) (x5 : Int32) (N16 : Nat)
    (ha : K a = 10)
    (n0 : 0 ≤ ((G.1 a 1).toInt) ∧ ((G.1 a 1).toInt) ≤ 80)
    (t5 : x5.toInt = ((G.1 a 1).toInt) + (4 : Int) ∨ ((G.1 a 1).toInt) + (4 : Int) < -2147483648 ∨ 2147483648 ≤ ((G.1 a 1).toInt) + (4 : Int))
    (c8 : x5.toInt ≤ (80 : Int))
    (I16_0 : -8 ≤ l2_16.toInt ∧ l2_16.toInt ≤ 24)
    (I16_1 : 8 * (((G_16.1 a 1).toInt) - ((G.1 a 1).toInt)) = 24 - l2_16.toInt)
    (hm16 : 100 + l2_16.toInt < (((N16) + 1 : Nat) : Int))
    (c17 : ¬ (l2_16.toInt < 0))
    (c24 : ((G_16.1 a 1).toInt) < 0) :
    ∀ z : Int, 0 ≤ z → aI (G_16.2.1 (F a 0)) z = if (G.1 a 1).toInt ≤ z ∧ z < ((G_16.1 a 1).toInt) then bqI p0 (24 - 8 * (z - (G.1 a 1).toInt)) else aI (G.2.1 (F a 0)) z := by
  exfalso; omega
theorem v_X8_addFour_66_3 {K : Nat → Nat} {F : Nat → Nat → Nat} (a : Nat) (G : XG) (G_16 : XG) (p0 : Int32) (l2_16 : Int32) (x5 : Int32) (N16 : Nat)
    (ha : K a = 10)
    (n0 : 0 ≤ ((G.1 a 1).toInt) ∧ ((G.1 a 1).toInt) ≤ 80)
    (t5 : x5.toInt = ((G.1 a 1).toInt) + (4 : Int) ∨ ((G.1 a 1).toInt) + (4 : Int) < -2147483648 ∨ 2147483648 ≤ ((G.1 a 1).toInt) + (4 : Int))
    (c8 : x5.toInt ≤ (80 : Int))
    (I16_0 : -8 ≤ l2_16.toInt ∧ l2_16.toInt ≤ 24)
    (I16_1 : 8 * (((G_16.1 a 1).toInt) - ((G.1 a 1).toInt)) = 24 - l2_16.toInt)
    (hm16 : 100 + l2_16.toInt < (((N16) + 1 : Nat) : Int))
    (c17 : ¬ (l2_16.toInt < 0))
    (c24 : ¬ (((G_16.1 a 1).toInt) < 0))
    (c33 : (80 : Int) ≤ ((G_16.1 a 1).toInt)) :
    ∀ z : Int, 0 ≤ z → aI (G_16.2.1 (F a 0)) z = if (G.1 a 1).toInt ≤ z ∧ z < ((G_16.1 a 1).toInt) then bqI p0 (24 - 8 * (z - (G.1 a 1).toInt)) else aI (G.2.1 (F a 0)) z := by
  exfalso; omega
theorem v_X8_addFour_66_4 {K : Nat → Nat} {F : Nat → Nat → Nat} (a : Nat) (G : XG) (G_16 : XG) (G52 : XG) (x51 : Int32) (p0 : Int32) (x46 : Int32) (l2_16 : Int32) (x50 : Int32) (x5 : Int32) (N16 : Nat)
    (ha : K a = 10)
    (hG52 : G52 = cput G_16 (F a 0) (G_16.1 a 1).toNatClampNeg x51)
    (pf : ∀ z : Int, 0 ≤ z → aI (G_16.2.1 (F a 0)) z = if (G.1 a 1).toInt ≤ z ∧ z < ((G_16.1 a 1).toInt) then bqI p0 (24 - 8 * (z - (G.1 a 1).toInt)) else aI (G.2.1 (F a 0)) z)
    (eb46 : x46 = (Int32.toUInt32 p0 >>> (Int32.toUInt32 l2_16 &&& Int32.toUInt32 31)).toInt32)
    (he50 : x50 = x46 &&& 255)
    (ec51 : x51 = (Int32.toUInt32 x50 % 65536).toInt32)
    (n0 : 0 ≤ ((G.1 a 1).toInt) ∧ ((G.1 a 1).toInt) ≤ 80)
    (t5 : x5.toInt = ((G.1 a 1).toInt) + (4 : Int) ∨ ((G.1 a 1).toInt) + (4 : Int) < -2147483648 ∨ 2147483648 ≤ ((G.1 a 1).toInt) + (4 : Int))
    (c8 : x5.toInt ≤ (80 : Int))
    (I16_0 : -8 ≤ l2_16.toInt ∧ l2_16.toInt ≤ 24)
    (I16_1 : 8 * (((G_16.1 a 1).toInt) - ((G.1 a 1).toInt)) = 24 - l2_16.toInt)
    (hm16 : 100 + l2_16.toInt < (((N16) + 1 : Nat) : Int))
    (c17 : ¬ (l2_16.toInt < 0))
    (c24 : ¬ (((G_16.1 a 1).toInt) < 0))
    (c33 : ¬ ((80 : Int) ≤ ((G_16.1 a 1).toInt))) :
    ∀ z : Int, 0 ≤ z → aI (G52.2.1 (F a 0)) z = if (G.1 a 1).toInt ≤ z ∧ z < (((G_16.1 a 1).toInt) + (1 : Int)) then bqI p0 (24 - 8 * (z - (G.1 a 1).toInt)) else aI (G.2.1 (F a 0)) z := by
  intro z hz
  have u := aI_pu hG52 rfl (rfl : (G_16.1 a 1).toInt = (G_16.1 a 1).toInt) (bq_c eb46 he50 ec51 rfl) (by omega) z hz
  rw [u, pf z hz]
  by_cases e : z = (G_16.1 a 1).toInt
  · rw [if_pos e, if_pos (by omega)]
    congr 1
    omega
  · rw [if_neg e]
    by_cases q : (G.1 a 1).toInt ≤ z ∧ z < (G_16.1 a 1).toInt
    · rw [if_pos q, if_pos (by omega)]
    · rw [if_neg q, if_neg (by omega)]
theorem v_X8_addFour_15_5 {K : Nat → Nat} {F : Nat → Nat → Nat} (a : Nat) (G : XG) (x5 : Int32) (p0 : Int32)
    (ha : K a = 10)
    (n0 : 0 ≤ ((G.1 a 1).toInt) ∧ ((G.1 a 1).toInt) ≤ 80)
    (t5 : x5.toInt = ((G.1 a 1).toInt) + (4 : Int) ∨ ((G.1 a 1).toInt) + (4 : Int) < -2147483648 ∨ 2147483648 ≤ ((G.1 a 1).toInt) + (4 : Int))
    (c8 : x5.toInt ≤ (80 : Int)) :
    ∀ z : Int, 0 ≤ z → aI (G.2.1 (F a 0)) z = if (G.1 a 1).toInt ≤ z ∧ z < ((G.1 a 1).toInt) then bqI p0 (24 - 8 * (z - (G.1 a 1).toInt)) else aI (G.2.1 (F a 0)) z := by
  intro z hz; rw [if_neg (by omega)]
theorem v_X8_addFour_12_6 {F : Nat → Nat → Nat} (a : Nat) (G : XG) (p0 : Int32) :
    ((0 : Int) = 0 ∧ G.2.1 (F a 0) = (G.2.1 (F a 0))) ∨ ((0 : Int) = 1 ∧ ∀ z : Int, 0 ≤ z → aI (G.2.1 (F a 0)) z = if ((G.1 a 1).toInt) ≤ z ∧ z < ((G.1 a 1).toInt) + 4 then bqI p0 (24 - 8 * (z - ((G.1 a 1).toInt))) else aI (G.2.1 (F a 0)) z) := by
  exact Or.inl ⟨rfl, rfl⟩
theorem v_X5_advanceWord_49_1 {K : Nat → Nat} {F : Nat → Nat → Nat} (a : Nat) (G : XG) (G_5 : XG) (N5 : Nat)
    (ha : K a = 7)
    (pr : ∀ j : Int, (G.1 a 3).toInt ≤ j → j < ((G_5.1 a 3).toInt) → cLt ((tC (G.2.1 (F (F a 0) 0)) ((G.1 (F a 0) 1).toInt)) j))
    (n0 : 0 ≤ ((G.1 (F a 0) 1).toInt) ∧ ((G.1 (F a 0) 1).toInt) ≤ 80)
    (s0 : 0 ≤ ((G.1 a 3).toInt) ∧ ((G.1 a 3).toInt) ≤ ((G.1 (F a 0) 1).toInt))
    (I5_0 : ((G.1 a 3).toInt) ≤ ((G_5.1 a 3).toInt) ∧ ((G_5.1 a 3).toInt) ≤ ((G.1 (F a 0) 1).toInt))
    (hm5 : 200 - ((G_5.1 a 3).toInt) < (((N5) + 1 : Nat) : Int))
    (c16 : ((G.1 (F a 0) 1).toInt) ≤ ((G_5.1 a 3).toInt)) :
    ((G_5.1 a 3).toInt) = rn cLt (tC (G.2.1 (F (F a 0) 0)) ((G.1 (F a 0) 1).toInt)) ((G.1 a 3).toInt) := by
  symm
  refine rn_eq ⟨by omega, pr, cLt_n ?_⟩
  rcases tC_f (G.2.1 (F (F a 0) 0)) ((G.1 (F a 0) 1).toInt) ((G_5.1 a 3).toInt) with h | h
  · omega
  · exact Or.inl h.2
theorem v_X5_advanceWord_49_2 {K : Nat → Nat} {F : Nat → Nat → Nat} (a : Nat) (G : XG) (G_5 : XG) (N5 : Nat) (x27 : Int32) (x30 : Int32)
    (ha : K a = 7)
    (pr : ∀ j : Int, (G.1 a 3).toInt ≤ j → j < ((G_5.1 a 3).toInt) → cLt ((tC (G.2.1 (F (F a 0) 0)) ((G.1 (F a 0) 1).toInt)) j))
    (n0 : 0 ≤ ((G.1 (F a 0) 1).toInt) ∧ ((G.1 (F a 0) 1).toInt) ≤ 80)
    (s0 : 0 ≤ ((G.1 a 3).toInt) ∧ ((G.1 a 3).toInt) ≤ ((G.1 (F a 0) 1).toInt))
    (I5_0 : ((G.1 a 3).toInt) ≤ ((G_5.1 a 3).toInt) ∧ ((G_5.1 a 3).toInt) ≤ ((G.1 (F a 0) 1).toInt))
    (hm5 : 200 - ((G_5.1 a 3).toInt) < (((N5) + 1 : Nat) : Int))
    (c16 : ¬ (((G.1 (F a 0) 1).toInt) ≤ ((G_5.1 a 3).toInt)))
    (t27 : x27.toInt = (tC (G.2.1 (F (F a 0) 0)) ((G.1 (F a 0) 1).toInt) ((G_5.1 a 3).toInt)))
    (t30 : (x30.toInt = 1 ∧ 97 ≤ x27.toInt ∧ x27.toInt ≤ 122) ∨ (x30.toInt = 0 ∧ (x27.toInt < 97 ∨ 122 < x27.toInt)))
    (c33 : x30.toInt = 0) :
    ((G_5.1 a 3).toInt) = rn cLt (tC (G.2.1 (F (F a 0) 0)) ((G.1 (F a 0) 1).toInt)) ((G.1 a 3).toInt) := by
  symm
  refine rn_eq ⟨by omega, pr, cLt_n ?_⟩
  rcases tC_f (G.2.1 (F (F a 0) 0)) ((G.1 (F a 0) 1).toInt) ((G_5.1 a 3).toInt) with h | h
  · omega
  · exact Or.inl h.2
theorem v_X5_advanceWord_46_3 {K : Nat → Nat} {F : Nat → Nat → Nat} (a : Nat) (G : XG) (G_5 : XG) (N5 : Nat) (x27 : Int32) (x30 : Int32)
    (ha : K a = 7)
    (pr : ∀ j : Int, (G.1 a 3).toInt ≤ j → j < ((G_5.1 a 3).toInt) → cLt ((tC (G.2.1 (F (F a 0) 0)) ((G.1 (F a 0) 1).toInt)) j))
    (n0 : 0 ≤ ((G.1 (F a 0) 1).toInt) ∧ ((G.1 (F a 0) 1).toInt) ≤ 80)
    (s0 : 0 ≤ ((G.1 a 3).toInt) ∧ ((G.1 a 3).toInt) ≤ ((G.1 (F a 0) 1).toInt))
    (I5_0 : ((G.1 a 3).toInt) ≤ ((G_5.1 a 3).toInt) ∧ ((G_5.1 a 3).toInt) ≤ ((G.1 (F a 0) 1).toInt))
    (hm5 : 200 - ((G_5.1 a 3).toInt) < (((N5) + 1 : Nat) : Int))
    (c16 : ¬ (((G.1 (F a 0) 1).toInt) ≤ ((G_5.1 a 3).toInt)))
    (t27 : x27.toInt = (tC (G.2.1 (F (F a 0) 0)) ((G.1 (F a 0) 1).toInt) ((G_5.1 a 3).toInt)))
    (t30 : (x30.toInt = 1 ∧ 97 ≤ x27.toInt ∧ x27.toInt ≤ 122) ∨ (x30.toInt = 0 ∧ (x27.toInt < 97 ∨ 122 < x27.toInt)))
    (c33 : ¬ (x30.toInt = 0)) :
    ∀ j : Int, (G.1 a 3).toInt ≤ j → j < (((G_5.1 a 3).toInt) + (1 : Int)) → cLt ((tC (G.2.1 (F (F a 0) 0)) ((G.1 (F a 0) 1).toInt)) j) := by
  intro j h1 h2
  by_cases e : j = (G_5.1 a 3).toInt
  · rw [e]; unfold cLt; omega
  · exact pr j h1 (by omega)
theorem v_X5_advanceWord_2_4 {K : Nat → Nat} {F : Nat → Nat → Nat} (a : Nat) (G : XG)
    (ha : K a = 7)
    (n0 : 0 ≤ ((G.1 (F a 0) 1).toInt) ∧ ((G.1 (F a 0) 1).toInt) ≤ 80)
    (s0 : 0 ≤ ((G.1 a 3).toInt) ∧ ((G.1 a 3).toInt) ≤ ((G.1 (F a 0) 1).toInt)) :
    ∀ j : Int, (G.1 a 3).toInt ≤ j → j < ((G.1 a 3).toInt) → cLt ((tC (G.2.1 (F (F a 0) 0)) ((G.1 (F a 0) 1).toInt)) j) := by
  intro j h1 h2; exact absurd h1 (by omega)
theorem v_X5_advanceNumber_152_1 {K : Nat → Nat} {F : Nat → Nat → Nat} (a : Nat) (G : XG) (G_47 : XG) (G149 : XG) (l2_47 : Int32) (x8 : Int32) (l3_47 : Int32) (N47 : Nat)
    (ha : K a = 7)
    (pr : ∀ j : Int, nS (tC (G.2.1 (F (F a 0) 0)) ((G.1 (F a 0) 1).toInt)) ((G.1 a 2).toInt) ≤ j → j < ((G_47.1 a 3).toInt) → cDg ((tC (G.2.1 (F (F a 0) 0)) ((G.1 (F a 0) 1).toInt)) j))
    (n0 : 0 ≤ ((G.1 (F a 0) 1).toInt) ∧ ((G.1 (F a 0) 1).toInt) ≤ 80)
    (s0 : 0 ≤ ((G.1 a 2).toInt) ∧ ((G.1 a 2).toInt) < ((G.1 (F a 0) 1).toInt))
    (z0 : ((tC (G.2.1 (F (F a 0) 0)) ((G.1 (F a 0) 1).toInt) ((G.1 a 2).toInt)) = 45 ∧ (nS (tC (G.2.1 (F (F a 0) 0)) ((G.1 (F a 0) 1).toInt)) ((G.1 a 2).toInt)) = ((G.1 a 2).toInt) + 1) ∨ ((tC (G.2.1 (F (F a 0) 0)) ((G.1 (F a 0) 1).toInt) ((G.1 a 2).toInt)) ≠ 45 ∧ (nS (tC (G.2.1 (F (F a 0) 0)) ((G.1 (F a 0) 1).toInt)) ((G.1 a 2).toInt)) = ((G.1 a 2).toInt)))
    (z0a : (nv (tC (G.2.1 (F (F a 0) 0)) ((G.1 (F a 0) 1).toInt)) (nS (tC (G.2.1 (F (F a 0) 0)) ((G.1 (F a 0) 1).toInt)) ((G.1 a 2).toInt)) 0) = 0)
    (t8 : x8.toInt = (tC (G.2.1 (F (F a 0) 0)) ((G.1 (F a 0) 1).toInt) ((G.1 a 2).toInt)))
    (c13 : x8.toInt ≠ (45 : Int))
    (I47_0 : ((G_47.1 a 3).toInt) = (nS (tC (G.2.1 (F (F a 0) 0)) ((G.1 (F a 0) 1).toInt)) ((G.1 a 2).toInt)) + l3_47.toInt)
    (I47_1 : 0 ≤ l3_47.toInt ∧ ((G_47.1 a 3).toInt) ≤ ((G.1 (F a 0) 1).toInt))
    (I47_2 : (l3_47.toInt = 0 ∧ l2_47.toInt = 0) ∨ (l3_47.toInt = 1 ∧ 0 ≤ l2_47.toInt ∧ l2_47.toInt ≤ 9) ∨ (l3_47.toInt = 2 ∧ 0 ≤ l2_47.toInt ∧ l2_47.toInt ≤ 99) ∨ (l3_47.toInt = 3 ∧ 0 ≤ l2_47.toInt ∧ l2_47.toInt ≤ 999) ∨ (4 ≤ l3_47.toInt ∧ 0 ≤ l2_47.toInt ∧ l2_47.toInt ≤ 9999))
    (I47_3 : l3_47.toInt ≤ 4 → l2_47.toInt = (nv (tC (G.2.1 (F (F a 0) 0)) ((G.1 (F a 0) 1).toInt)) (nS (tC (G.2.1 (F (F a 0) 0)) ((G.1 (F a 0) 1).toInt)) ((G.1 a 2).toInt)) (l3_47.toInt)))
    (hm47 : 200 - ((G_47.1 a 3).toInt) < (((N47) + 1 : Nat) : Int))
    (c58 : ((G.1 (F a 0) 1).toInt) ≤ ((G_47.1 a 3).toInt))
    (c122 : l3_47.toInt < (1 : Int))
    (d_G149_a_1 : G149.1 a 1 = 3)
    (d_G149_a_3 : G149.1 a 3 = G_47.1 a 3)
    (d_G149_a_4 : G149.1 a 4 = l2_47) :
    ((G149.1 a 3).toInt) = nE (tC (G.2.1 (F (F a 0) 0)) ((G.1 (F a 0) 1).toInt)) ((G.1 a 2).toInt) ∧ ((nOk (tC (G.2.1 (F (F a 0) 0)) ((G.1 (F a 0) 1).toInt)) ((G.1 a 2).toInt) ∧ ((G149.1 a 1).toInt) = 2 ∧ ((G149.1 a 4).toInt) = nVl (tC (G.2.1 (F (F a 0) 0)) ((G.1 (F a 0) 1).toInt)) ((G.1 a 2).toInt)) ∨ (¬ nOk (tC (G.2.1 (F (F a 0) 0)) ((G.1 (F a 0) 1).toInt)) ((G.1 a 2).toInt) ∧ ((G149.1 a 1).toInt) = 3)) := by
  have hE : nE (tC (G.2.1 (F (F a 0) 0)) ((G.1 (F a 0) 1).toInt)) ((G.1 a 2).toInt) = (G_47.1 a 3).toInt := by
    unfold nE
    refine rn_eq ⟨by omega, pr, cDg_n ?_⟩
    rcases tC_f (G.2.1 (F (F a 0) 0)) ((G.1 (F a 0) 1).toInt) ((G_47.1 a 3).toInt) with h | h
    · omega
    · exact Or.inl h.2
  have nf := nS_f (tC (G.2.1 (F (F a 0) 0)) ((G.1 (F a 0) 1).toInt)) ((G.1 a 2).toInt)
  have hk : l3_47.toInt = nE (tC (G.2.1 (F (F a 0) 0)) ((G.1 (F a 0) 1).toInt)) ((G.1 a 2).toInt) - nS (tC (G.2.1 (F (F a 0) 0)) ((G.1 (F a 0) 1).toInt)) ((G.1 a 2).toInt) := by omega
  have e3 : (G149.1 a 3).toInt = (G_47.1 a 3).toInt := by rw [d_G149_a_3]
  refine ⟨by omega, ?_⟩
  by_cases q : 1 ≤ l3_47.toInt ∧ l3_47.toInt ≤ 4
  · refine Or.inl ⟨⟨by omega, by omega⟩, ?_, ?_⟩
    · rw [d_G149_a_1]
      first | rfl | decide | (exfalso; omega)
    · rw [hk] at I47_3
      rw [d_G149_a_4]
      omega
  · refine Or.inr ⟨fun h => q (by have h1 := h.1; have h2 := h.2; omega), ?_⟩
    rw [d_G149_a_1]
    first | rfl | decide | (exfalso; omega)
theorem v_X5_advanceNumber_152_2 {K : Nat → Nat} {F : Nat → Nat → Nat} (a : Nat) (G : XG) (G_47 : XG) (G149 : XG) (l2_47 : Int32) (x8 : Int32) (l3_47 : Int32) (N47 : Nat)
    (ha : K a = 7)
    (pr : ∀ j : Int, nS (tC (G.2.1 (F (F a 0) 0)) ((G.1 (F a 0) 1).toInt)) ((G.1 a 2).toInt) ≤ j → j < ((G_47.1 a 3).toInt) → cDg ((tC (G.2.1 (F (F a 0) 0)) ((G.1 (F a 0) 1).toInt)) j))
    (n0 : 0 ≤ ((G.1 (F a 0) 1).toInt) ∧ ((G.1 (F a 0) 1).toInt) ≤ 80)
    (s0 : 0 ≤ ((G.1 a 2).toInt) ∧ ((G.1 a 2).toInt) < ((G.1 (F a 0) 1).toInt))
    (z0 : ((tC (G.2.1 (F (F a 0) 0)) ((G.1 (F a 0) 1).toInt) ((G.1 a 2).toInt)) = 45 ∧ (nS (tC (G.2.1 (F (F a 0) 0)) ((G.1 (F a 0) 1).toInt)) ((G.1 a 2).toInt)) = ((G.1 a 2).toInt) + 1) ∨ ((tC (G.2.1 (F (F a 0) 0)) ((G.1 (F a 0) 1).toInt) ((G.1 a 2).toInt)) ≠ 45 ∧ (nS (tC (G.2.1 (F (F a 0) 0)) ((G.1 (F a 0) 1).toInt)) ((G.1 a 2).toInt)) = ((G.1 a 2).toInt)))
    (z0a : (nv (tC (G.2.1 (F (F a 0) 0)) ((G.1 (F a 0) 1).toInt)) (nS (tC (G.2.1 (F (F a 0) 0)) ((G.1 (F a 0) 1).toInt)) ((G.1 a 2).toInt)) 0) = 0)
    (t8 : x8.toInt = (tC (G.2.1 (F (F a 0) 0)) ((G.1 (F a 0) 1).toInt) ((G.1 a 2).toInt)))
    (c13 : x8.toInt ≠ (45 : Int))
    (I47_0 : ((G_47.1 a 3).toInt) = (nS (tC (G.2.1 (F (F a 0) 0)) ((G.1 (F a 0) 1).toInt)) ((G.1 a 2).toInt)) + l3_47.toInt)
    (I47_1 : 0 ≤ l3_47.toInt ∧ ((G_47.1 a 3).toInt) ≤ ((G.1 (F a 0) 1).toInt))
    (I47_2 : (l3_47.toInt = 0 ∧ l2_47.toInt = 0) ∨ (l3_47.toInt = 1 ∧ 0 ≤ l2_47.toInt ∧ l2_47.toInt ≤ 9) ∨ (l3_47.toInt = 2 ∧ 0 ≤ l2_47.toInt ∧ l2_47.toInt ≤ 99) ∨ (l3_47.toInt = 3 ∧ 0 ≤ l2_47.toInt ∧ l2_47.toInt ≤ 999) ∨ (4 ≤ l3_47.toInt ∧ 0 ≤ l2_47.toInt ∧ l2_47.toInt ≤ 9999))
    (I47_3 : l3_47.toInt ≤ 4 → l2_47.toInt = (nv (tC (G.2.1 (F (F a 0) 0)) ((G.1 (F a 0) 1).toInt)) (nS (tC (G.2.1 (F (F a 0) 0)) ((G.1 (F a 0) 1).toInt)) ((G.1 a 2).toInt)) (l3_47.toInt)))
    (hm47 : 200 - ((G_47.1 a 3).toInt) < (((N47) + 1 : Nat) : Int))
    (c58 : ((G.1 (F a 0) 1).toInt) ≤ ((G_47.1 a 3).toInt))
    (c122 : ¬ (l3_47.toInt < (1 : Int)))
    (c127 : (4 : Int) < l3_47.toInt)
    (d_G149_a_1 : G149.1 a 1 = 3)
    (d_G149_a_3 : G149.1 a 3 = G_47.1 a 3)
    (d_G149_a_4 : G149.1 a 4 = l2_47) :
    ((G149.1 a 3).toInt) = nE (tC (G.2.1 (F (F a 0) 0)) ((G.1 (F a 0) 1).toInt)) ((G.1 a 2).toInt) ∧ ((nOk (tC (G.2.1 (F (F a 0) 0)) ((G.1 (F a 0) 1).toInt)) ((G.1 a 2).toInt) ∧ ((G149.1 a 1).toInt) = 2 ∧ ((G149.1 a 4).toInt) = nVl (tC (G.2.1 (F (F a 0) 0)) ((G.1 (F a 0) 1).toInt)) ((G.1 a 2).toInt)) ∨ (¬ nOk (tC (G.2.1 (F (F a 0) 0)) ((G.1 (F a 0) 1).toInt)) ((G.1 a 2).toInt) ∧ ((G149.1 a 1).toInt) = 3)) := by
  have hE : nE (tC (G.2.1 (F (F a 0) 0)) ((G.1 (F a 0) 1).toInt)) ((G.1 a 2).toInt) = (G_47.1 a 3).toInt := by
    unfold nE
    refine rn_eq ⟨by omega, pr, cDg_n ?_⟩
    rcases tC_f (G.2.1 (F (F a 0) 0)) ((G.1 (F a 0) 1).toInt) ((G_47.1 a 3).toInt) with h | h
    · omega
    · exact Or.inl h.2
  have nf := nS_f (tC (G.2.1 (F (F a 0) 0)) ((G.1 (F a 0) 1).toInt)) ((G.1 a 2).toInt)
  have hk : l3_47.toInt = nE (tC (G.2.1 (F (F a 0) 0)) ((G.1 (F a 0) 1).toInt)) ((G.1 a 2).toInt) - nS (tC (G.2.1 (F (F a 0) 0)) ((G.1 (F a 0) 1).toInt)) ((G.1 a 2).toInt) := by omega
  have e3 : (G149.1 a 3).toInt = (G_47.1 a 3).toInt := by rw [d_G149_a_3]
  refine ⟨by omega, ?_⟩
  by_cases q : 1 ≤ l3_47.toInt ∧ l3_47.toInt ≤ 4
  · refine Or.inl ⟨⟨by omega, by omega⟩, ?_, ?_⟩
    · rw [d_G149_a_1]
      first | rfl | decide | (exfalso; omega)
    · rw [hk] at I47_3
      rw [d_G149_a_4]
      omega
  · refine Or.inr ⟨fun h => q (by have h1 := h.1; have h2 := h.2; omega), ?_⟩
    rw [d_G149_a_1]
    first | rfl | decide | (exfalso; omega)
theorem v_X5_advanceNumber_152_3 {K : Nat → Nat} {F : Nat → Nat → Nat} (a : Nat) (G : XG) (G_47 : XG) (G149 : XG) (l2_47 : Int32) (x8 : Int32) (l3_47 : Int32) (N47 : Nat)
    (ha : K a = 7)
    (pr : ∀ j : Int, nS (tC (G.2.1 (F (F a 0) 0)) ((G.1 (F a 0) 1).toInt)) ((G.1 a 2).toInt) ≤ j → j < ((G_47.1 a 3).toInt) → cDg ((tC (G.2.1 (F (F a 0) 0)) ((G.1 (F a 0) 1).toInt)) j))
    (n0 : 0 ≤ ((G.1 (F a 0) 1).toInt) ∧ ((G.1 (F a 0) 1).toInt) ≤ 80)
    (s0 : 0 ≤ ((G.1 a 2).toInt) ∧ ((G.1 a 2).toInt) < ((G.1 (F a 0) 1).toInt))
    (z0 : ((tC (G.2.1 (F (F a 0) 0)) ((G.1 (F a 0) 1).toInt) ((G.1 a 2).toInt)) = 45 ∧ (nS (tC (G.2.1 (F (F a 0) 0)) ((G.1 (F a 0) 1).toInt)) ((G.1 a 2).toInt)) = ((G.1 a 2).toInt) + 1) ∨ ((tC (G.2.1 (F (F a 0) 0)) ((G.1 (F a 0) 1).toInt) ((G.1 a 2).toInt)) ≠ 45 ∧ (nS (tC (G.2.1 (F (F a 0) 0)) ((G.1 (F a 0) 1).toInt)) ((G.1 a 2).toInt)) = ((G.1 a 2).toInt)))
    (z0a : (nv (tC (G.2.1 (F (F a 0) 0)) ((G.1 (F a 0) 1).toInt)) (nS (tC (G.2.1 (F (F a 0) 0)) ((G.1 (F a 0) 1).toInt)) ((G.1 a 2).toInt)) 0) = 0)
    (t8 : x8.toInt = (tC (G.2.1 (F (F a 0) 0)) ((G.1 (F a 0) 1).toInt) ((G.1 a 2).toInt)))
    (c13 : x8.toInt ≠ (45 : Int))
    (I47_0 : ((G_47.1 a 3).toInt) = (nS (tC (G.2.1 (F (F a 0) 0)) ((G.1 (F a 0) 1).toInt)) ((G.1 a 2).toInt)) + l3_47.toInt)
    (I47_1 : 0 ≤ l3_47.toInt ∧ ((G_47.1 a 3).toInt) ≤ ((G.1 (F a 0) 1).toInt))
    (I47_2 : (l3_47.toInt = 0 ∧ l2_47.toInt = 0) ∨ (l3_47.toInt = 1 ∧ 0 ≤ l2_47.toInt ∧ l2_47.toInt ≤ 9) ∨ (l3_47.toInt = 2 ∧ 0 ≤ l2_47.toInt ∧ l2_47.toInt ≤ 99) ∨ (l3_47.toInt = 3 ∧ 0 ≤ l2_47.toInt ∧ l2_47.toInt ≤ 999) ∨ (4 ≤ l3_47.toInt ∧ 0 ≤ l2_47.toInt ∧ l2_47.toInt ≤ 9999))
    (I47_3 : l3_47.toInt ≤ 4 → l2_47.toInt = (nv (tC (G.2.1 (F (F a 0) 0)) ((G.1 (F a 0) 1).toInt)) (nS (tC (G.2.1 (F (F a 0) 0)) ((G.1 (F a 0) 1).toInt)) ((G.1 a 2).toInt)) (l3_47.toInt)))
    (hm47 : 200 - ((G_47.1 a 3).toInt) < (((N47) + 1 : Nat) : Int))
    (c58 : ((G.1 (F a 0) 1).toInt) ≤ ((G_47.1 a 3).toInt))
    (c122 : ¬ (l3_47.toInt < (1 : Int)))
    (c127 : ¬ ((4 : Int) < l3_47.toInt))
    (d_G149_a_1 : G149.1 a 1 = 2)
    (d_G149_a_3 : G149.1 a 3 = G_47.1 a 3)
    (d_G149_a_4 : G149.1 a 4 = l2_47) :
    ((G149.1 a 3).toInt) = nE (tC (G.2.1 (F (F a 0) 0)) ((G.1 (F a 0) 1).toInt)) ((G.1 a 2).toInt) ∧ ((nOk (tC (G.2.1 (F (F a 0) 0)) ((G.1 (F a 0) 1).toInt)) ((G.1 a 2).toInt) ∧ ((G149.1 a 1).toInt) = 2 ∧ ((G149.1 a 4).toInt) = nVl (tC (G.2.1 (F (F a 0) 0)) ((G.1 (F a 0) 1).toInt)) ((G.1 a 2).toInt)) ∨ (¬ nOk (tC (G.2.1 (F (F a 0) 0)) ((G.1 (F a 0) 1).toInt)) ((G.1 a 2).toInt) ∧ ((G149.1 a 1).toInt) = 3)) := by
  have hE : nE (tC (G.2.1 (F (F a 0) 0)) ((G.1 (F a 0) 1).toInt)) ((G.1 a 2).toInt) = (G_47.1 a 3).toInt := by
    unfold nE
    refine rn_eq ⟨by omega, pr, cDg_n ?_⟩
    rcases tC_f (G.2.1 (F (F a 0) 0)) ((G.1 (F a 0) 1).toInt) ((G_47.1 a 3).toInt) with h | h
    · omega
    · exact Or.inl h.2
  have nf := nS_f (tC (G.2.1 (F (F a 0) 0)) ((G.1 (F a 0) 1).toInt)) ((G.1 a 2).toInt)
  have hk : l3_47.toInt = nE (tC (G.2.1 (F (F a 0) 0)) ((G.1 (F a 0) 1).toInt)) ((G.1 a 2).toInt) - nS (tC (G.2.1 (F (F a 0) 0)) ((G.1 (F a 0) 1).toInt)) ((G.1 a 2).toInt) := by omega
  have e3 : (G149.1 a 3).toInt = (G_47.1 a 3).toInt := by rw [d_G149_a_3]
  refine ⟨by omega, ?_⟩
  by_cases q : 1 ≤ l3_47.toInt ∧ l3_47.toInt ≤ 4
  · refine Or.inl ⟨⟨by omega, by omega⟩, ?_, ?_⟩
    · rw [d_G149_a_1]
      first | rfl | decide | (exfalso; omega)
    · rw [hk] at I47_3
      rw [d_G149_a_4]
      omega
  · refine Or.inr ⟨fun h => q (by have h1 := h.1; have h2 := h.2; omega), ?_⟩
    rw [d_G149_a_1]
    first | rfl | decide | (exfalso; omega)
theorem v_X5_advanceNumber_152_4 {K : Nat → Nat} {F : Nat → Nat → Nat} (a : Nat) (G : XG) (G_47 : XG) (G149 : XG) (l2_47 : Int32) (x8 : Int32) (l3_47 : Int32) (N47 : Nat) (x69 : Int32) (x72 : Int32)
    (ha : K a = 7)
    (pr : ∀ j : Int, nS (tC (G.2.1 (F (F a 0) 0)) ((G.1 (F a 0) 1).toInt)) ((G.1 a 2).toInt) ≤ j → j < ((G_47.1 a 3).toInt) → cDg ((tC (G.2.1 (F (F a 0) 0)) ((G.1 (F a 0) 1).toInt)) j))
    (n0 : 0 ≤ ((G.1 (F a 0) 1).toInt) ∧ ((G.1 (F a 0) 1).toInt) ≤ 80)
    (s0 : 0 ≤ ((G.1 a 2).toInt) ∧ ((G.1 a 2).toInt) < ((G.1 (F a 0) 1).toInt))
    (z0 : ((tC (G.2.1 (F (F a 0) 0)) ((G.1 (F a 0) 1).toInt) ((G.1 a 2).toInt)) = 45 ∧ (nS (tC (G.2.1 (F (F a 0) 0)) ((G.1 (F a 0) 1).toInt)) ((G.1 a 2).toInt)) = ((G.1 a 2).toInt) + 1) ∨ ((tC (G.2.1 (F (F a 0) 0)) ((G.1 (F a 0) 1).toInt) ((G.1 a 2).toInt)) ≠ 45 ∧ (nS (tC (G.2.1 (F (F a 0) 0)) ((G.1 (F a 0) 1).toInt)) ((G.1 a 2).toInt)) = ((G.1 a 2).toInt)))
    (z0a : (nv (tC (G.2.1 (F (F a 0) 0)) ((G.1 (F a 0) 1).toInt)) (nS (tC (G.2.1 (F (F a 0) 0)) ((G.1 (F a 0) 1).toInt)) ((G.1 a 2).toInt)) 0) = 0)
    (t8 : x8.toInt = (tC (G.2.1 (F (F a 0) 0)) ((G.1 (F a 0) 1).toInt) ((G.1 a 2).toInt)))
    (c13 : x8.toInt ≠ (45 : Int))
    (I47_0 : ((G_47.1 a 3).toInt) = (nS (tC (G.2.1 (F (F a 0) 0)) ((G.1 (F a 0) 1).toInt)) ((G.1 a 2).toInt)) + l3_47.toInt)
    (I47_1 : 0 ≤ l3_47.toInt ∧ ((G_47.1 a 3).toInt) ≤ ((G.1 (F a 0) 1).toInt))
    (I47_2 : (l3_47.toInt = 0 ∧ l2_47.toInt = 0) ∨ (l3_47.toInt = 1 ∧ 0 ≤ l2_47.toInt ∧ l2_47.toInt ≤ 9) ∨ (l3_47.toInt = 2 ∧ 0 ≤ l2_47.toInt ∧ l2_47.toInt ≤ 99) ∨ (l3_47.toInt = 3 ∧ 0 ≤ l2_47.toInt ∧ l2_47.toInt ≤ 999) ∨ (4 ≤ l3_47.toInt ∧ 0 ≤ l2_47.toInt ∧ l2_47.toInt ≤ 9999))
    (I47_3 : l3_47.toInt ≤ 4 → l2_47.toInt = (nv (tC (G.2.1 (F (F a 0) 0)) ((G.1 (F a 0) 1).toInt)) (nS (tC (G.2.1 (F (F a 0) 0)) ((G.1 (F a 0) 1).toInt)) ((G.1 a 2).toInt)) (l3_47.toInt)))
    (hm47 : 200 - ((G_47.1 a 3).toInt) < (((N47) + 1 : Nat) : Int))
    (c58 : ¬ (((G.1 (F a 0) 1).toInt) ≤ ((G_47.1 a 3).toInt)))
    (t69 : x69.toInt = (tC (G.2.1 (F (F a 0) 0)) ((G.1 (F a 0) 1).toInt) ((G_47.1 a 3).toInt)))
    (t72 : (x72.toInt = 1 ∧ 48 ≤ x69.toInt ∧ x69.toInt ≤ 57) ∨ (x72.toInt = 0 ∧ (x69.toInt < 48 ∨ 57 < x69.toInt)))
    (c75 : x72.toInt = 0)
    (c122 : l3_47.toInt < (1 : Int))
    (d_G149_a_1 : G149.1 a 1 = 3)
    (d_G149_a_3 : G149.1 a 3 = G_47.1 a 3)
    (d_G149_a_4 : G149.1 a 4 = l2_47) :
    ((G149.1 a 3).toInt) = nE (tC (G.2.1 (F (F a 0) 0)) ((G.1 (F a 0) 1).toInt)) ((G.1 a 2).toInt) ∧ ((nOk (tC (G.2.1 (F (F a 0) 0)) ((G.1 (F a 0) 1).toInt)) ((G.1 a 2).toInt) ∧ ((G149.1 a 1).toInt) = 2 ∧ ((G149.1 a 4).toInt) = nVl (tC (G.2.1 (F (F a 0) 0)) ((G.1 (F a 0) 1).toInt)) ((G.1 a 2).toInt)) ∨ (¬ nOk (tC (G.2.1 (F (F a 0) 0)) ((G.1 (F a 0) 1).toInt)) ((G.1 a 2).toInt) ∧ ((G149.1 a 1).toInt) = 3)) := by
  have hE : nE (tC (G.2.1 (F (F a 0) 0)) ((G.1 (F a 0) 1).toInt)) ((G.1 a 2).toInt) = (G_47.1 a 3).toInt := by
    unfold nE
    refine rn_eq ⟨by omega, pr, cDg_n ?_⟩
    rcases tC_f (G.2.1 (F (F a 0) 0)) ((G.1 (F a 0) 1).toInt) ((G_47.1 a 3).toInt) with h | h
    · omega
    · exact Or.inl h.2
  have nf := nS_f (tC (G.2.1 (F (F a 0) 0)) ((G.1 (F a 0) 1).toInt)) ((G.1 a 2).toInt)
  have hk : l3_47.toInt = nE (tC (G.2.1 (F (F a 0) 0)) ((G.1 (F a 0) 1).toInt)) ((G.1 a 2).toInt) - nS (tC (G.2.1 (F (F a 0) 0)) ((G.1 (F a 0) 1).toInt)) ((G.1 a 2).toInt) := by omega
  have e3 : (G149.1 a 3).toInt = (G_47.1 a 3).toInt := by rw [d_G149_a_3]
  refine ⟨by omega, ?_⟩
  by_cases q : 1 ≤ l3_47.toInt ∧ l3_47.toInt ≤ 4
  · refine Or.inl ⟨⟨by omega, by omega⟩, ?_, ?_⟩
    · rw [d_G149_a_1]
      first | rfl | decide | (exfalso; omega)
    · rw [hk] at I47_3
      rw [d_G149_a_4]
      omega
  · refine Or.inr ⟨fun h => q (by have h1 := h.1; have h2 := h.2; omega), ?_⟩
    rw [d_G149_a_1]
    first | rfl | decide | (exfalso; omega)
theorem v_X5_advanceNumber_152_5 {K : Nat → Nat} {F : Nat → Nat → Nat} (a : Nat) (G : XG) (G_47 : XG) (G149 : XG) (l2_47 : Int32) (x8 : Int32) (l3_47 : Int32) (N47 : Nat) (x69 : Int32) (x72 : Int32)
    (ha : K a = 7)
    (pr : ∀ j : Int, nS (tC (G.2.1 (F (F a 0) 0)) ((G.1 (F a 0) 1).toInt)) ((G.1 a 2).toInt) ≤ j → j < ((G_47.1 a 3).toInt) → cDg ((tC (G.2.1 (F (F a 0) 0)) ((G.1 (F a 0) 1).toInt)) j))
    (n0 : 0 ≤ ((G.1 (F a 0) 1).toInt) ∧ ((G.1 (F a 0) 1).toInt) ≤ 80)
    (s0 : 0 ≤ ((G.1 a 2).toInt) ∧ ((G.1 a 2).toInt) < ((G.1 (F a 0) 1).toInt))
    (z0 : ((tC (G.2.1 (F (F a 0) 0)) ((G.1 (F a 0) 1).toInt) ((G.1 a 2).toInt)) = 45 ∧ (nS (tC (G.2.1 (F (F a 0) 0)) ((G.1 (F a 0) 1).toInt)) ((G.1 a 2).toInt)) = ((G.1 a 2).toInt) + 1) ∨ ((tC (G.2.1 (F (F a 0) 0)) ((G.1 (F a 0) 1).toInt) ((G.1 a 2).toInt)) ≠ 45 ∧ (nS (tC (G.2.1 (F (F a 0) 0)) ((G.1 (F a 0) 1).toInt)) ((G.1 a 2).toInt)) = ((G.1 a 2).toInt)))
    (z0a : (nv (tC (G.2.1 (F (F a 0) 0)) ((G.1 (F a 0) 1).toInt)) (nS (tC (G.2.1 (F (F a 0) 0)) ((G.1 (F a 0) 1).toInt)) ((G.1 a 2).toInt)) 0) = 0)
    (t8 : x8.toInt = (tC (G.2.1 (F (F a 0) 0)) ((G.1 (F a 0) 1).toInt) ((G.1 a 2).toInt)))
    (c13 : x8.toInt ≠ (45 : Int))
    (I47_0 : ((G_47.1 a 3).toInt) = (nS (tC (G.2.1 (F (F a 0) 0)) ((G.1 (F a 0) 1).toInt)) ((G.1 a 2).toInt)) + l3_47.toInt)
    (I47_1 : 0 ≤ l3_47.toInt ∧ ((G_47.1 a 3).toInt) ≤ ((G.1 (F a 0) 1).toInt))
    (I47_2 : (l3_47.toInt = 0 ∧ l2_47.toInt = 0) ∨ (l3_47.toInt = 1 ∧ 0 ≤ l2_47.toInt ∧ l2_47.toInt ≤ 9) ∨ (l3_47.toInt = 2 ∧ 0 ≤ l2_47.toInt ∧ l2_47.toInt ≤ 99) ∨ (l3_47.toInt = 3 ∧ 0 ≤ l2_47.toInt ∧ l2_47.toInt ≤ 999) ∨ (4 ≤ l3_47.toInt ∧ 0 ≤ l2_47.toInt ∧ l2_47.toInt ≤ 9999))
    (I47_3 : l3_47.toInt ≤ 4 → l2_47.toInt = (nv (tC (G.2.1 (F (F a 0) 0)) ((G.1 (F a 0) 1).toInt)) (nS (tC (G.2.1 (F (F a 0) 0)) ((G.1 (F a 0) 1).toInt)) ((G.1 a 2).toInt)) (l3_47.toInt)))
    (hm47 : 200 - ((G_47.1 a 3).toInt) < (((N47) + 1 : Nat) : Int))
    (c58 : ¬ (((G.1 (F a 0) 1).toInt) ≤ ((G_47.1 a 3).toInt)))
    (t69 : x69.toInt = (tC (G.2.1 (F (F a 0) 0)) ((G.1 (F a 0) 1).toInt) ((G_47.1 a 3).toInt)))
    (t72 : (x72.toInt = 1 ∧ 48 ≤ x69.toInt ∧ x69.toInt ≤ 57) ∨ (x72.toInt = 0 ∧ (x69.toInt < 48 ∨ 57 < x69.toInt)))
    (c75 : x72.toInt = 0)
    (c122 : ¬ (l3_47.toInt < (1 : Int)))
    (c127 : (4 : Int) < l3_47.toInt)
    (d_G149_a_1 : G149.1 a 1 = 3)
    (d_G149_a_3 : G149.1 a 3 = G_47.1 a 3)
    (d_G149_a_4 : G149.1 a 4 = l2_47) :
    ((G149.1 a 3).toInt) = nE (tC (G.2.1 (F (F a 0) 0)) ((G.1 (F a 0) 1).toInt)) ((G.1 a 2).toInt) ∧ ((nOk (tC (G.2.1 (F (F a 0) 0)) ((G.1 (F a 0) 1).toInt)) ((G.1 a 2).toInt) ∧ ((G149.1 a 1).toInt) = 2 ∧ ((G149.1 a 4).toInt) = nVl (tC (G.2.1 (F (F a 0) 0)) ((G.1 (F a 0) 1).toInt)) ((G.1 a 2).toInt)) ∨ (¬ nOk (tC (G.2.1 (F (F a 0) 0)) ((G.1 (F a 0) 1).toInt)) ((G.1 a 2).toInt) ∧ ((G149.1 a 1).toInt) = 3)) := by
  have hE : nE (tC (G.2.1 (F (F a 0) 0)) ((G.1 (F a 0) 1).toInt)) ((G.1 a 2).toInt) = (G_47.1 a 3).toInt := by
    unfold nE
    refine rn_eq ⟨by omega, pr, cDg_n ?_⟩
    rcases tC_f (G.2.1 (F (F a 0) 0)) ((G.1 (F a 0) 1).toInt) ((G_47.1 a 3).toInt) with h | h
    · omega
    · exact Or.inl h.2
  have nf := nS_f (tC (G.2.1 (F (F a 0) 0)) ((G.1 (F a 0) 1).toInt)) ((G.1 a 2).toInt)
  have hk : l3_47.toInt = nE (tC (G.2.1 (F (F a 0) 0)) ((G.1 (F a 0) 1).toInt)) ((G.1 a 2).toInt) - nS (tC (G.2.1 (F (F a 0) 0)) ((G.1 (F a 0) 1).toInt)) ((G.1 a 2).toInt) := by omega
  have e3 : (G149.1 a 3).toInt = (G_47.1 a 3).toInt := by rw [d_G149_a_3]
  refine ⟨by omega, ?_⟩
  by_cases q : 1 ≤ l3_47.toInt ∧ l3_47.toInt ≤ 4
  · refine Or.inl ⟨⟨by omega, by omega⟩, ?_, ?_⟩
    · rw [d_G149_a_1]
      first | rfl | decide | (exfalso; omega)
    · rw [hk] at I47_3
      rw [d_G149_a_4]
      omega
  · refine Or.inr ⟨fun h => q (by have h1 := h.1; have h2 := h.2; omega), ?_⟩
    rw [d_G149_a_1]
    first | rfl | decide | (exfalso; omega)
theorem v_X5_advanceNumber_152_6 {K : Nat → Nat} {F : Nat → Nat → Nat} (a : Nat) (G : XG) (G_47 : XG) (G149 : XG) (l2_47 : Int32) (x8 : Int32) (l3_47 : Int32) (N47 : Nat) (x69 : Int32) (x72 : Int32)
    (ha : K a = 7)
    (pr : ∀ j : Int, nS (tC (G.2.1 (F (F a 0) 0)) ((G.1 (F a 0) 1).toInt)) ((G.1 a 2).toInt) ≤ j → j < ((G_47.1 a 3).toInt) → cDg ((tC (G.2.1 (F (F a 0) 0)) ((G.1 (F a 0) 1).toInt)) j))
    (n0 : 0 ≤ ((G.1 (F a 0) 1).toInt) ∧ ((G.1 (F a 0) 1).toInt) ≤ 80)
    (s0 : 0 ≤ ((G.1 a 2).toInt) ∧ ((G.1 a 2).toInt) < ((G.1 (F a 0) 1).toInt))
    (z0 : ((tC (G.2.1 (F (F a 0) 0)) ((G.1 (F a 0) 1).toInt) ((G.1 a 2).toInt)) = 45 ∧ (nS (tC (G.2.1 (F (F a 0) 0)) ((G.1 (F a 0) 1).toInt)) ((G.1 a 2).toInt)) = ((G.1 a 2).toInt) + 1) ∨ ((tC (G.2.1 (F (F a 0) 0)) ((G.1 (F a 0) 1).toInt) ((G.1 a 2).toInt)) ≠ 45 ∧ (nS (tC (G.2.1 (F (F a 0) 0)) ((G.1 (F a 0) 1).toInt)) ((G.1 a 2).toInt)) = ((G.1 a 2).toInt)))
    (z0a : (nv (tC (G.2.1 (F (F a 0) 0)) ((G.1 (F a 0) 1).toInt)) (nS (tC (G.2.1 (F (F a 0) 0)) ((G.1 (F a 0) 1).toInt)) ((G.1 a 2).toInt)) 0) = 0)
    (t8 : x8.toInt = (tC (G.2.1 (F (F a 0) 0)) ((G.1 (F a 0) 1).toInt) ((G.1 a 2).toInt)))
    (c13 : x8.toInt ≠ (45 : Int))
    (I47_0 : ((G_47.1 a 3).toInt) = (nS (tC (G.2.1 (F (F a 0) 0)) ((G.1 (F a 0) 1).toInt)) ((G.1 a 2).toInt)) + l3_47.toInt)
    (I47_1 : 0 ≤ l3_47.toInt ∧ ((G_47.1 a 3).toInt) ≤ ((G.1 (F a 0) 1).toInt))
    (I47_2 : (l3_47.toInt = 0 ∧ l2_47.toInt = 0) ∨ (l3_47.toInt = 1 ∧ 0 ≤ l2_47.toInt ∧ l2_47.toInt ≤ 9) ∨ (l3_47.toInt = 2 ∧ 0 ≤ l2_47.toInt ∧ l2_47.toInt ≤ 99) ∨ (l3_47.toInt = 3 ∧ 0 ≤ l2_47.toInt ∧ l2_47.toInt ≤ 999) ∨ (4 ≤ l3_47.toInt ∧ 0 ≤ l2_47.toInt ∧ l2_47.toInt ≤ 9999))
    (I47_3 : l3_47.toInt ≤ 4 → l2_47.toInt = (nv (tC (G.2.1 (F (F a 0) 0)) ((G.1 (F a 0) 1).toInt)) (nS (tC (G.2.1 (F (F a 0) 0)) ((G.1 (F a 0) 1).toInt)) ((G.1 a 2).toInt)) (l3_47.toInt)))
    (hm47 : 200 - ((G_47.1 a 3).toInt) < (((N47) + 1 : Nat) : Int))
    (c58 : ¬ (((G.1 (F a 0) 1).toInt) ≤ ((G_47.1 a 3).toInt)))
    (t69 : x69.toInt = (tC (G.2.1 (F (F a 0) 0)) ((G.1 (F a 0) 1).toInt) ((G_47.1 a 3).toInt)))
    (t72 : (x72.toInt = 1 ∧ 48 ≤ x69.toInt ∧ x69.toInt ≤ 57) ∨ (x72.toInt = 0 ∧ (x69.toInt < 48 ∨ 57 < x69.toInt)))
    (c75 : x72.toInt = 0)
    (c122 : ¬ (l3_47.toInt < (1 : Int)))
    (c127 : ¬ ((4 : Int) < l3_47.toInt))
    (d_G149_a_1 : G149.1 a 1 = 2)
    (d_G149_a_3 : G149.1 a 3 = G_47.1 a 3)
    (d_G149_a_4 : G149.1 a 4 = l2_47) :
    ((G149.1 a 3).toInt) = nE (tC (G.2.1 (F (F a 0) 0)) ((G.1 (F a 0) 1).toInt)) ((G.1 a 2).toInt) ∧ ((nOk (tC (G.2.1 (F (F a 0) 0)) ((G.1 (F a 0) 1).toInt)) ((G.1 a 2).toInt) ∧ ((G149.1 a 1).toInt) = 2 ∧ ((G149.1 a 4).toInt) = nVl (tC (G.2.1 (F (F a 0) 0)) ((G.1 (F a 0) 1).toInt)) ((G.1 a 2).toInt)) ∨ (¬ nOk (tC (G.2.1 (F (F a 0) 0)) ((G.1 (F a 0) 1).toInt)) ((G.1 a 2).toInt) ∧ ((G149.1 a 1).toInt) = 3)) := by
  have hE : nE (tC (G.2.1 (F (F a 0) 0)) ((G.1 (F a 0) 1).toInt)) ((G.1 a 2).toInt) = (G_47.1 a 3).toInt := by
    unfold nE
    refine rn_eq ⟨by omega, pr, cDg_n ?_⟩
    rcases tC_f (G.2.1 (F (F a 0) 0)) ((G.1 (F a 0) 1).toInt) ((G_47.1 a 3).toInt) with h | h
    · omega
    · exact Or.inl h.2
  have nf := nS_f (tC (G.2.1 (F (F a 0) 0)) ((G.1 (F a 0) 1).toInt)) ((G.1 a 2).toInt)
  have hk : l3_47.toInt = nE (tC (G.2.1 (F (F a 0) 0)) ((G.1 (F a 0) 1).toInt)) ((G.1 a 2).toInt) - nS (tC (G.2.1 (F (F a 0) 0)) ((G.1 (F a 0) 1).toInt)) ((G.1 a 2).toInt) := by omega
  have e3 : (G149.1 a 3).toInt = (G_47.1 a 3).toInt := by rw [d_G149_a_3]
  refine ⟨by omega, ?_⟩
  by_cases q : 1 ≤ l3_47.toInt ∧ l3_47.toInt ≤ 4
  · refine Or.inl ⟨⟨by omega, by omega⟩, ?_, ?_⟩
    · rw [d_G149_a_1]
      first | rfl | decide | (exfalso; omega)
    · rw [hk] at I47_3
      rw [d_G149_a_4]
      omega
  · refine Or.inr ⟨fun h => q (by have h1 := h.1; have h2 := h.2; omega), ?_⟩
    rw [d_G149_a_1]
    first | rfl | decide | (exfalso; omega)
theorem v_X5_advanceNumber_116_7 {K : Nat → Nat} {F : Nat → Nat → Nat} (a : Nat) (G : XG) (G_47 : XG) (l3_47 : Int32) (x8 : Int32) (l2_47 : Int32) (N47 : Nat) (x69 : Int32) (x72 : Int32)
    (ha : K a = 7)
    (pr : ∀ j : Int, nS (tC (G.2.1 (F (F a 0) 0)) ((G.1 (F a 0) 1).toInt)) ((G.1 a 2).toInt) ≤ j → j < ((G_47.1 a 3).toInt) → cDg ((tC (G.2.1 (F (F a 0) 0)) ((G.1 (F a 0) 1).toInt)) j))
    (n0 : 0 ≤ ((G.1 (F a 0) 1).toInt) ∧ ((G.1 (F a 0) 1).toInt) ≤ 80)
    (s0 : 0 ≤ ((G.1 a 2).toInt) ∧ ((G.1 a 2).toInt) < ((G.1 (F a 0) 1).toInt))
    (z0 : ((tC (G.2.1 (F (F a 0) 0)) ((G.1 (F a 0) 1).toInt) ((G.1 a 2).toInt)) = 45 ∧ (nS (tC (G.2.1 (F (F a 0) 0)) ((G.1 (F a 0) 1).toInt)) ((G.1 a 2).toInt)) = ((G.1 a 2).toInt) + 1) ∨ ((tC (G.2.1 (F (F a 0) 0)) ((G.1 (F a 0) 1).toInt) ((G.1 a 2).toInt)) ≠ 45 ∧ (nS (tC (G.2.1 (F (F a 0) 0)) ((G.1 (F a 0) 1).toInt)) ((G.1 a 2).toInt)) = ((G.1 a 2).toInt)))
    (z0a : (nv (tC (G.2.1 (F (F a 0) 0)) ((G.1 (F a 0) 1).toInt)) (nS (tC (G.2.1 (F (F a 0) 0)) ((G.1 (F a 0) 1).toInt)) ((G.1 a 2).toInt)) 0) = 0)
    (t8 : x8.toInt = (tC (G.2.1 (F (F a 0) 0)) ((G.1 (F a 0) 1).toInt) ((G.1 a 2).toInt)))
    (c13 : x8.toInt ≠ (45 : Int))
    (I47_0 : ((G_47.1 a 3).toInt) = (nS (tC (G.2.1 (F (F a 0) 0)) ((G.1 (F a 0) 1).toInt)) ((G.1 a 2).toInt)) + l3_47.toInt)
    (I47_1 : 0 ≤ l3_47.toInt ∧ ((G_47.1 a 3).toInt) ≤ ((G.1 (F a 0) 1).toInt))
    (I47_2 : (l3_47.toInt = 0 ∧ l2_47.toInt = 0) ∨ (l3_47.toInt = 1 ∧ 0 ≤ l2_47.toInt ∧ l2_47.toInt ≤ 9) ∨ (l3_47.toInt = 2 ∧ 0 ≤ l2_47.toInt ∧ l2_47.toInt ≤ 99) ∨ (l3_47.toInt = 3 ∧ 0 ≤ l2_47.toInt ∧ l2_47.toInt ≤ 999) ∨ (4 ≤ l3_47.toInt ∧ 0 ≤ l2_47.toInt ∧ l2_47.toInt ≤ 9999))
    (I47_3 : l3_47.toInt ≤ 4 → l2_47.toInt = (nv (tC (G.2.1 (F (F a 0) 0)) ((G.1 (F a 0) 1).toInt)) (nS (tC (G.2.1 (F (F a 0) 0)) ((G.1 (F a 0) 1).toInt)) ((G.1 a 2).toInt)) (l3_47.toInt)))
    (hm47 : 200 - ((G_47.1 a 3).toInt) < (((N47) + 1 : Nat) : Int))
    (c58 : ¬ (((G.1 (F a 0) 1).toInt) ≤ ((G_47.1 a 3).toInt)))
    (t69 : x69.toInt = (tC (G.2.1 (F (F a 0) 0)) ((G.1 (F a 0) 1).toInt) ((G_47.1 a 3).toInt)))
    (t72 : (x72.toInt = 1 ∧ 48 ≤ x69.toInt ∧ x69.toInt ≤ 57) ∨ (x72.toInt = 0 ∧ (x69.toInt < 48 ∨ 57 < x69.toInt)))
    (c75 : ¬ (x72.toInt = 0))
    (z78 : (nv (tC (G.2.1 (F (F a 0) 0)) ((G.1 (F a 0) 1).toInt)) (nS (tC (G.2.1 (F (F a 0) 0)) ((G.1 (F a 0) 1).toInt)) ((G.1 a 2).toInt)) (l3_47.toInt + 1)) = 10 * (nv (tC (G.2.1 (F (F a 0) 0)) ((G.1 (F a 0) 1).toInt)) (nS (tC (G.2.1 (F (F a 0) 0)) ((G.1 (F a 0) 1).toInt)) ((G.1 a 2).toInt)) (l3_47.toInt)) + ((tC (G.2.1 (F (F a 0) 0)) ((G.1 (F a 0) 1).toInt) ((nS (tC (G.2.1 (F (F a 0) 0)) ((G.1 (F a 0) 1).toInt)) ((G.1 a 2).toInt)) + l3_47.toInt)) - 48))
    (z78a : ((G_47.1 a 3).toInt) = (nS (tC (G.2.1 (F (F a 0) 0)) ((G.1 (F a 0) 1).toInt)) ((G.1 a 2).toInt)) + l3_47.toInt → (tC (G.2.1 (F (F a 0) 0)) ((G.1 (F a 0) 1).toInt) ((nS (tC (G.2.1 (F (F a 0) 0)) ((G.1 (F a 0) 1).toInt)) ((G.1 a 2).toInt)) + l3_47.toInt)) = (tC (G.2.1 (F (F a 0) 0)) ((G.1 (F a 0) 1).toInt) ((G_47.1 a 3).toInt)))
    (c80 : (4 : Int) ≤ l3_47.toInt) :
    ∀ j : Int, nS (tC (G.2.1 (F (F a 0) 0)) ((G.1 (F a 0) 1).toInt)) ((G.1 a 2).toInt) ≤ j → j < (((G_47.1 a 3).toInt) + (1 : Int)) → cDg ((tC (G.2.1 (F (F a 0) 0)) ((G.1 (F a 0) 1).toInt)) j) := by
  intro j h1 h2
  by_cases e : j = (G_47.1 a 3).toInt
  · rw [e]; unfold cDg; omega
  · exact pr j h1 (by omega)
theorem v_X5_advanceNumber_116_8 {K : Nat → Nat} {F : Nat → Nat → Nat} (a : Nat) (G : XG) (G_47 : XG) (l2_47 : Int32) (l3_47 : Int32) (x8 : Int32) (N47 : Nat) (x69 : Int32) (x72 : Int32)
    (ha : K a = 7)
    (pr : ∀ j : Int, nS (tC (G.2.1 (F (F a 0) 0)) ((G.1 (F a 0) 1).toInt)) ((G.1 a 2).toInt) ≤ j → j < ((G_47.1 a 3).toInt) → cDg ((tC (G.2.1 (F (F a 0) 0)) ((G.1 (F a 0) 1).toInt)) j))
    (n0 : 0 ≤ ((G.1 (F a 0) 1).toInt) ∧ ((G.1 (F a 0) 1).toInt) ≤ 80)
    (s0 : 0 ≤ ((G.1 a 2).toInt) ∧ ((G.1 a 2).toInt) < ((G.1 (F a 0) 1).toInt))
    (z0 : ((tC (G.2.1 (F (F a 0) 0)) ((G.1 (F a 0) 1).toInt) ((G.1 a 2).toInt)) = 45 ∧ (nS (tC (G.2.1 (F (F a 0) 0)) ((G.1 (F a 0) 1).toInt)) ((G.1 a 2).toInt)) = ((G.1 a 2).toInt) + 1) ∨ ((tC (G.2.1 (F (F a 0) 0)) ((G.1 (F a 0) 1).toInt) ((G.1 a 2).toInt)) ≠ 45 ∧ (nS (tC (G.2.1 (F (F a 0) 0)) ((G.1 (F a 0) 1).toInt)) ((G.1 a 2).toInt)) = ((G.1 a 2).toInt)))
    (z0a : (nv (tC (G.2.1 (F (F a 0) 0)) ((G.1 (F a 0) 1).toInt)) (nS (tC (G.2.1 (F (F a 0) 0)) ((G.1 (F a 0) 1).toInt)) ((G.1 a 2).toInt)) 0) = 0)
    (t8 : x8.toInt = (tC (G.2.1 (F (F a 0) 0)) ((G.1 (F a 0) 1).toInt) ((G.1 a 2).toInt)))
    (c13 : x8.toInt ≠ (45 : Int))
    (I47_0 : ((G_47.1 a 3).toInt) = (nS (tC (G.2.1 (F (F a 0) 0)) ((G.1 (F a 0) 1).toInt)) ((G.1 a 2).toInt)) + l3_47.toInt)
    (I47_1 : 0 ≤ l3_47.toInt ∧ ((G_47.1 a 3).toInt) ≤ ((G.1 (F a 0) 1).toInt))
    (I47_2 : (l3_47.toInt = 0 ∧ l2_47.toInt = 0) ∨ (l3_47.toInt = 1 ∧ 0 ≤ l2_47.toInt ∧ l2_47.toInt ≤ 9) ∨ (l3_47.toInt = 2 ∧ 0 ≤ l2_47.toInt ∧ l2_47.toInt ≤ 99) ∨ (l3_47.toInt = 3 ∧ 0 ≤ l2_47.toInt ∧ l2_47.toInt ≤ 999) ∨ (4 ≤ l3_47.toInt ∧ 0 ≤ l2_47.toInt ∧ l2_47.toInt ≤ 9999))
    (I47_3 : l3_47.toInt ≤ 4 → l2_47.toInt = (nv (tC (G.2.1 (F (F a 0) 0)) ((G.1 (F a 0) 1).toInt)) (nS (tC (G.2.1 (F (F a 0) 0)) ((G.1 (F a 0) 1).toInt)) ((G.1 a 2).toInt)) (l3_47.toInt)))
    (hm47 : 200 - ((G_47.1 a 3).toInt) < (((N47) + 1 : Nat) : Int))
    (c58 : ¬ (((G.1 (F a 0) 1).toInt) ≤ ((G_47.1 a 3).toInt)))
    (t69 : x69.toInt = (tC (G.2.1 (F (F a 0) 0)) ((G.1 (F a 0) 1).toInt) ((G_47.1 a 3).toInt)))
    (t72 : (x72.toInt = 1 ∧ 48 ≤ x69.toInt ∧ x69.toInt ≤ 57) ∨ (x72.toInt = 0 ∧ (x69.toInt < 48 ∨ 57 < x69.toInt)))
    (c75 : ¬ (x72.toInt = 0))
    (z78 : (nv (tC (G.2.1 (F (F a 0) 0)) ((G.1 (F a 0) 1).toInt)) (nS (tC (G.2.1 (F (F a 0) 0)) ((G.1 (F a 0) 1).toInt)) ((G.1 a 2).toInt)) (l3_47.toInt + 1)) = 10 * (nv (tC (G.2.1 (F (F a 0) 0)) ((G.1 (F a 0) 1).toInt)) (nS (tC (G.2.1 (F (F a 0) 0)) ((G.1 (F a 0) 1).toInt)) ((G.1 a 2).toInt)) (l3_47.toInt)) + ((tC (G.2.1 (F (F a 0) 0)) ((G.1 (F a 0) 1).toInt) ((nS (tC (G.2.1 (F (F a 0) 0)) ((G.1 (F a 0) 1).toInt)) ((G.1 a 2).toInt)) + l3_47.toInt)) - 48))
    (z78a : ((G_47.1 a 3).toInt) = (nS (tC (G.2.1 (F (F a 0) 0)) ((G.1 (F a 0) 1).toInt)) ((G.1 a 2).toInt)) + l3_47.toInt → (tC (G.2.1 (F (F a 0) 0)) ((G.1 (F a 0) 1).toInt) ((nS (tC (G.2.1 (F (F a 0) 0)) ((G.1 (F a 0) 1).toInt)) ((G.1 a 2).toInt)) + l3_47.toInt)) = (tC (G.2.1 (F (F a 0) 0)) ((G.1 (F a 0) 1).toInt) ((G_47.1 a 3).toInt)))
    (c80 : ¬ ((4 : Int) ≤ l3_47.toInt)) :
    ∀ j : Int, nS (tC (G.2.1 (F (F a 0) 0)) ((G.1 (F a 0) 1).toInt)) ((G.1 a 2).toInt) ≤ j → j < (((G_47.1 a 3).toInt) + (1 : Int)) → cDg ((tC (G.2.1 (F (F a 0) 0)) ((G.1 (F a 0) 1).toInt)) j) := by
  intro j h1 h2
  by_cases e : j = (G_47.1 a 3).toInt
  · rw [e]; unfold cDg; omega
  · exact pr j h1 (by omega)
theorem v_X5_advanceNumber_44_9 {K : Nat → Nat} {F : Nat → Nat → Nat} (a : Nat) (G : XG) (x8 : Int32)
    (ha : K a = 7)
    (n0 : 0 ≤ ((G.1 (F a 0) 1).toInt) ∧ ((G.1 (F a 0) 1).toInt) ≤ 80)
    (s0 : 0 ≤ ((G.1 a 2).toInt) ∧ ((G.1 a 2).toInt) < ((G.1 (F a 0) 1).toInt))
    (z0 : ((tC (G.2.1 (F (F a 0) 0)) ((G.1 (F a 0) 1).toInt) ((G.1 a 2).toInt)) = 45 ∧ (nS (tC (G.2.1 (F (F a 0) 0)) ((G.1 (F a 0) 1).toInt)) ((G.1 a 2).toInt)) = ((G.1 a 2).toInt) + 1) ∨ ((tC (G.2.1 (F (F a 0) 0)) ((G.1 (F a 0) 1).toInt) ((G.1 a 2).toInt)) ≠ 45 ∧ (nS (tC (G.2.1 (F (F a 0) 0)) ((G.1 (F a 0) 1).toInt)) ((G.1 a 2).toInt)) = ((G.1 a 2).toInt)))
    (z0a : (nv (tC (G.2.1 (F (F a 0) 0)) ((G.1 (F a 0) 1).toInt)) (nS (tC (G.2.1 (F (F a 0) 0)) ((G.1 (F a 0) 1).toInt)) ((G.1 a 2).toInt)) 0) = 0)
    (t8 : x8.toInt = (tC (G.2.1 (F (F a 0) 0)) ((G.1 (F a 0) 1).toInt) ((G.1 a 2).toInt)))
    (c13 : x8.toInt ≠ (45 : Int)) :
    ∀ j : Int, nS (tC (G.2.1 (F (F a 0) 0)) ((G.1 (F a 0) 1).toInt)) ((G.1 a 2).toInt) ≤ j → j < ((G.1 a 2).toInt) → cDg ((tC (G.2.1 (F (F a 0) 0)) ((G.1 (F a 0) 1).toInt)) j) := by
  intro j h1 h2; exact absurd h1 (by omega)
theorem v_X5_advanceNumber_152_10 {K : Nat → Nat} {F : Nat → Nat → Nat} (a : Nat) (G : XG) (G_47 : XG) (G149 : XG) (x144 : Int32) (x8 : Int32) (l3_47 : Int32) (l2_47 : Int32) (N47 : Nat)
    (ha : K a = 7)
    (pr : ∀ j : Int, nS (tC (G.2.1 (F (F a 0) 0)) ((G.1 (F a 0) 1).toInt)) ((G.1 a 2).toInt) ≤ j → j < ((G_47.1 a 3).toInt) → cDg ((tC (G.2.1 (F (F a 0) 0)) ((G.1 (F a 0) 1).toInt)) j))
    (n0 : 0 ≤ ((G.1 (F a 0) 1).toInt) ∧ ((G.1 (F a 0) 1).toInt) ≤ 80)
    (s0 : 0 ≤ ((G.1 a 2).toInt) ∧ ((G.1 a 2).toInt) < ((G.1 (F a 0) 1).toInt))
    (z0 : ((tC (G.2.1 (F (F a 0) 0)) ((G.1 (F a 0) 1).toInt) ((G.1 a 2).toInt)) = 45 ∧ (nS (tC (G.2.1 (F (F a 0) 0)) ((G.1 (F a 0) 1).toInt)) ((G.1 a 2).toInt)) = ((G.1 a 2).toInt) + 1) ∨ ((tC (G.2.1 (F (F a 0) 0)) ((G.1 (F a 0) 1).toInt) ((G.1 a 2).toInt)) ≠ 45 ∧ (nS (tC (G.2.1 (F (F a 0) 0)) ((G.1 (F a 0) 1).toInt)) ((G.1 a 2).toInt)) = ((G.1 a 2).toInt)))
    (z0a : (nv (tC (G.2.1 (F (F a 0) 0)) ((G.1 (F a 0) 1).toInt)) (nS (tC (G.2.1 (F (F a 0) 0)) ((G.1 (F a 0) 1).toInt)) ((G.1 a 2).toInt)) 0) = 0)
    (t8 : x8.toInt = (tC (G.2.1 (F (F a 0) 0)) ((G.1 (F a 0) 1).toInt) ((G.1 a 2).toInt)))
    (c13 : ¬ (x8.toInt ≠ (45 : Int)))
    (I47_0 : ((G_47.1 a 3).toInt) = (nS (tC (G.2.1 (F (F a 0) 0)) ((G.1 (F a 0) 1).toInt)) ((G.1 a 2).toInt)) + l3_47.toInt)
    (I47_1 : 0 ≤ l3_47.toInt ∧ ((G_47.1 a 3).toInt) ≤ ((G.1 (F a 0) 1).toInt))
    (I47_2 : (l3_47.toInt = 0 ∧ l2_47.toInt = 0) ∨ (l3_47.toInt = 1 ∧ 0 ≤ l2_47.toInt ∧ l2_47.toInt ≤ 9) ∨ (l3_47.toInt = 2 ∧ 0 ≤ l2_47.toInt ∧ l2_47.toInt ≤ 99) ∨ (l3_47.toInt = 3 ∧ 0 ≤ l2_47.toInt ∧ l2_47.toInt ≤ 999) ∨ (4 ≤ l3_47.toInt ∧ 0 ≤ l2_47.toInt ∧ l2_47.toInt ≤ 9999))
    (I47_3 : l3_47.toInt ≤ 4 → l2_47.toInt = (nv (tC (G.2.1 (F (F a 0) 0)) ((G.1 (F a 0) 1).toInt)) (nS (tC (G.2.1 (F (F a 0) 0)) ((G.1 (F a 0) 1).toInt)) ((G.1 a 2).toInt)) (l3_47.toInt)))
    (hm47 : 200 - ((G_47.1 a 3).toInt) < (((N47) + 1 : Nat) : Int))
    (c58 : ((G.1 (F a 0) 1).toInt) ≤ ((G_47.1 a 3).toInt))
    (c122 : l3_47.toInt < (1 : Int))
    (t144 : x144.toInt = -l2_47.toInt ∨ -l2_47.toInt < -2147483648 ∨ 2147483648 ≤ -l2_47.toInt)
    (d_G149_a_1 : G149.1 a 1 = 3)
    (d_G149_a_3 : G149.1 a 3 = G_47.1 a 3)
    (d_G149_a_4 : G149.1 a 4 = x144) :
    ((G149.1 a 3).toInt) = nE (tC (G.2.1 (F (F a 0) 0)) ((G.1 (F a 0) 1).toInt)) ((G.1 a 2).toInt) ∧ ((nOk (tC (G.2.1 (F (F a 0) 0)) ((G.1 (F a 0) 1).toInt)) ((G.1 a 2).toInt) ∧ ((G149.1 a 1).toInt) = 2 ∧ ((G149.1 a 4).toInt) = nVl (tC (G.2.1 (F (F a 0) 0)) ((G.1 (F a 0) 1).toInt)) ((G.1 a 2).toInt)) ∨ (¬ nOk (tC (G.2.1 (F (F a 0) 0)) ((G.1 (F a 0) 1).toInt)) ((G.1 a 2).toInt) ∧ ((G149.1 a 1).toInt) = 3)) := by
  have hE : nE (tC (G.2.1 (F (F a 0) 0)) ((G.1 (F a 0) 1).toInt)) ((G.1 a 2).toInt) = (G_47.1 a 3).toInt := by
    unfold nE
    refine rn_eq ⟨by omega, pr, cDg_n ?_⟩
    rcases tC_f (G.2.1 (F (F a 0) 0)) ((G.1 (F a 0) 1).toInt) ((G_47.1 a 3).toInt) with h | h
    · omega
    · exact Or.inl h.2
  have nf := nS_f (tC (G.2.1 (F (F a 0) 0)) ((G.1 (F a 0) 1).toInt)) ((G.1 a 2).toInt)
  have hk : l3_47.toInt = nE (tC (G.2.1 (F (F a 0) 0)) ((G.1 (F a 0) 1).toInt)) ((G.1 a 2).toInt) - nS (tC (G.2.1 (F (F a 0) 0)) ((G.1 (F a 0) 1).toInt)) ((G.1 a 2).toInt) := by omega
  have e3 : (G149.1 a 3).toInt = (G_47.1 a 3).toInt := by rw [d_G149_a_3]
  refine ⟨by omega, ?_⟩
  by_cases q : 1 ≤ l3_47.toInt ∧ l3_47.toInt ≤ 4
  · refine Or.inl ⟨⟨by omega, by omega⟩, ?_, ?_⟩
    · rw [d_G149_a_1]
      first | rfl | decide | (exfalso; omega)
    · rw [hk] at I47_3
      rw [d_G149_a_4]
      omega
  · refine Or.inr ⟨fun h => q (by have h1 := h.1; have h2 := h.2; omega), ?_⟩
    rw [d_G149_a_1]
    first | rfl | decide | (exfalso; omega)
theorem v_X5_advanceNumber_152_11 {K : Nat → Nat} {F : Nat → Nat → Nat} (a : Nat) (G : XG) (G_47 : XG) (G149 : XG) (x144 : Int32) (x8 : Int32) (l3_47 : Int32) (l2_47 : Int32) (N47 : Nat)
    (ha : K a = 7)
    (pr : ∀ j : Int, nS (tC (G.2.1 (F (F a 0) 0)) ((G.1 (F a 0) 1).toInt)) ((G.1 a 2).toInt) ≤ j → j < ((G_47.1 a 3).toInt) → cDg ((tC (G.2.1 (F (F a 0) 0)) ((G.1 (F a 0) 1).toInt)) j))
    (n0 : 0 ≤ ((G.1 (F a 0) 1).toInt) ∧ ((G.1 (F a 0) 1).toInt) ≤ 80)
    (s0 : 0 ≤ ((G.1 a 2).toInt) ∧ ((G.1 a 2).toInt) < ((G.1 (F a 0) 1).toInt))
    (z0 : ((tC (G.2.1 (F (F a 0) 0)) ((G.1 (F a 0) 1).toInt) ((G.1 a 2).toInt)) = 45 ∧ (nS (tC (G.2.1 (F (F a 0) 0)) ((G.1 (F a 0) 1).toInt)) ((G.1 a 2).toInt)) = ((G.1 a 2).toInt) + 1) ∨ ((tC (G.2.1 (F (F a 0) 0)) ((G.1 (F a 0) 1).toInt) ((G.1 a 2).toInt)) ≠ 45 ∧ (nS (tC (G.2.1 (F (F a 0) 0)) ((G.1 (F a 0) 1).toInt)) ((G.1 a 2).toInt)) = ((G.1 a 2).toInt)))
    (z0a : (nv (tC (G.2.1 (F (F a 0) 0)) ((G.1 (F a 0) 1).toInt)) (nS (tC (G.2.1 (F (F a 0) 0)) ((G.1 (F a 0) 1).toInt)) ((G.1 a 2).toInt)) 0) = 0)
    (t8 : x8.toInt = (tC (G.2.1 (F (F a 0) 0)) ((G.1 (F a 0) 1).toInt) ((G.1 a 2).toInt)))
    (c13 : ¬ (x8.toInt ≠ (45 : Int)))
    (I47_0 : ((G_47.1 a 3).toInt) = (nS (tC (G.2.1 (F (F a 0) 0)) ((G.1 (F a 0) 1).toInt)) ((G.1 a 2).toInt)) + l3_47.toInt)
    (I47_1 : 0 ≤ l3_47.toInt ∧ ((G_47.1 a 3).toInt) ≤ ((G.1 (F a 0) 1).toInt))
    (I47_2 : (l3_47.toInt = 0 ∧ l2_47.toInt = 0) ∨ (l3_47.toInt = 1 ∧ 0 ≤ l2_47.toInt ∧ l2_47.toInt ≤ 9) ∨ (l3_47.toInt = 2 ∧ 0 ≤ l2_47.toInt ∧ l2_47.toInt ≤ 99) ∨ (l3_47.toInt = 3 ∧ 0 ≤ l2_47.toInt ∧ l2_47.toInt ≤ 999) ∨ (4 ≤ l3_47.toInt ∧ 0 ≤ l2_47.toInt ∧ l2_47.toInt ≤ 9999))
    (I47_3 : l3_47.toInt ≤ 4 → l2_47.toInt = (nv (tC (G.2.1 (F (F a 0) 0)) ((G.1 (F a 0) 1).toInt)) (nS (tC (G.2.1 (F (F a 0) 0)) ((G.1 (F a 0) 1).toInt)) ((G.1 a 2).toInt)) (l3_47.toInt)))
    (hm47 : 200 - ((G_47.1 a 3).toInt) < (((N47) + 1 : Nat) : Int))
    (c58 : ((G.1 (F a 0) 1).toInt) ≤ ((G_47.1 a 3).toInt))
    (c122 : ¬ (l3_47.toInt < (1 : Int)))
    (c127 : (4 : Int) < l3_47.toInt)
    (t144 : x144.toInt = -l2_47.toInt ∨ -l2_47.toInt < -2147483648 ∨ 2147483648 ≤ -l2_47.toInt)
    (d_G149_a_1 : G149.1 a 1 = 3)
    (d_G149_a_3 : G149.1 a 3 = G_47.1 a 3)
    (d_G149_a_4 : G149.1 a 4 = x144) :
    ((G149.1 a 3).toInt) = nE (tC (G.2.1 (F (F a 0) 0)) ((G.1 (F a 0) 1).toInt)) ((G.1 a 2).toInt) ∧ ((nOk (tC (G.2.1 (F (F a 0) 0)) ((G.1 (F a 0) 1).toInt)) ((G.1 a 2).toInt) ∧ ((G149.1 a 1).toInt) = 2 ∧ ((G149.1 a 4).toInt) = nVl (tC (G.2.1 (F (F a 0) 0)) ((G.1 (F a 0) 1).toInt)) ((G.1 a 2).toInt)) ∨ (¬ nOk (tC (G.2.1 (F (F a 0) 0)) ((G.1 (F a 0) 1).toInt)) ((G.1 a 2).toInt) ∧ ((G149.1 a 1).toInt) = 3)) := by
  have hE : nE (tC (G.2.1 (F (F a 0) 0)) ((G.1 (F a 0) 1).toInt)) ((G.1 a 2).toInt) = (G_47.1 a 3).toInt := by
    unfold nE
    refine rn_eq ⟨by omega, pr, cDg_n ?_⟩
    rcases tC_f (G.2.1 (F (F a 0) 0)) ((G.1 (F a 0) 1).toInt) ((G_47.1 a 3).toInt) with h | h
    · omega
    · exact Or.inl h.2
  have nf := nS_f (tC (G.2.1 (F (F a 0) 0)) ((G.1 (F a 0) 1).toInt)) ((G.1 a 2).toInt)
  have hk : l3_47.toInt = nE (tC (G.2.1 (F (F a 0) 0)) ((G.1 (F a 0) 1).toInt)) ((G.1 a 2).toInt) - nS (tC (G.2.1 (F (F a 0) 0)) ((G.1 (F a 0) 1).toInt)) ((G.1 a 2).toInt) := by omega
  have e3 : (G149.1 a 3).toInt = (G_47.1 a 3).toInt := by rw [d_G149_a_3]
  refine ⟨by omega, ?_⟩
  by_cases q : 1 ≤ l3_47.toInt ∧ l3_47.toInt ≤ 4
  · refine Or.inl ⟨⟨by omega, by omega⟩, ?_, ?_⟩
    · rw [d_G149_a_1]
      first | rfl | decide | (exfalso; omega)
    · rw [hk] at I47_3
      rw [d_G149_a_4]
      omega
  · refine Or.inr ⟨fun h => q (by have h1 := h.1; have h2 := h.2; omega), ?_⟩
    rw [d_G149_a_1]
    first | rfl | decide | (exfalso; omega)
theorem v_X5_advanceNumber_152_12 {K : Nat → Nat} {F : Nat → Nat → Nat} (a : Nat) (G : XG) (G_47 : XG) (G149 : XG) (x144 : Int32) (x8 : Int32) (l3_47 : Int32) (l2_47 : Int32) (N47 : Nat)
    (ha : K a = 7)
    (pr : ∀ j : Int, nS (tC (G.2.1 (F (F a 0) 0)) ((G.1 (F a 0) 1).toInt)) ((G.1 a 2).toInt) ≤ j → j < ((G_47.1 a 3).toInt) → cDg ((tC (G.2.1 (F (F a 0) 0)) ((G.1 (F a 0) 1).toInt)) j))
    (n0 : 0 ≤ ((G.1 (F a 0) 1).toInt) ∧ ((G.1 (F a 0) 1).toInt) ≤ 80)
    (s0 : 0 ≤ ((G.1 a 2).toInt) ∧ ((G.1 a 2).toInt) < ((G.1 (F a 0) 1).toInt))
    (z0 : ((tC (G.2.1 (F (F a 0) 0)) ((G.1 (F a 0) 1).toInt) ((G.1 a 2).toInt)) = 45 ∧ (nS (tC (G.2.1 (F (F a 0) 0)) ((G.1 (F a 0) 1).toInt)) ((G.1 a 2).toInt)) = ((G.1 a 2).toInt) + 1) ∨ ((tC (G.2.1 (F (F a 0) 0)) ((G.1 (F a 0) 1).toInt) ((G.1 a 2).toInt)) ≠ 45 ∧ (nS (tC (G.2.1 (F (F a 0) 0)) ((G.1 (F a 0) 1).toInt)) ((G.1 a 2).toInt)) = ((G.1 a 2).toInt)))
    (z0a : (nv (tC (G.2.1 (F (F a 0) 0)) ((G.1 (F a 0) 1).toInt)) (nS (tC (G.2.1 (F (F a 0) 0)) ((G.1 (F a 0) 1).toInt)) ((G.1 a 2).toInt)) 0) = 0)
    (t8 : x8.toInt = (tC (G.2.1 (F (F a 0) 0)) ((G.1 (F a 0) 1).toInt) ((G.1 a 2).toInt)))
    (c13 : ¬ (x8.toInt ≠ (45 : Int)))
    (I47_0 : ((G_47.1 a 3).toInt) = (nS (tC (G.2.1 (F (F a 0) 0)) ((G.1 (F a 0) 1).toInt)) ((G.1 a 2).toInt)) + l3_47.toInt)
    (I47_1 : 0 ≤ l3_47.toInt ∧ ((G_47.1 a 3).toInt) ≤ ((G.1 (F a 0) 1).toInt))
    (I47_2 : (l3_47.toInt = 0 ∧ l2_47.toInt = 0) ∨ (l3_47.toInt = 1 ∧ 0 ≤ l2_47.toInt ∧ l2_47.toInt ≤ 9) ∨ (l3_47.toInt = 2 ∧ 0 ≤ l2_47.toInt ∧ l2_47.toInt ≤ 99) ∨ (l3_47.toInt = 3 ∧ 0 ≤ l2_47.toInt ∧ l2_47.toInt ≤ 999) ∨ (4 ≤ l3_47.toInt ∧ 0 ≤ l2_47.toInt ∧ l2_47.toInt ≤ 9999))
    (I47_3 : l3_47.toInt ≤ 4 → l2_47.toInt = (nv (tC (G.2.1 (F (F a 0) 0)) ((G.1 (F a 0) 1).toInt)) (nS (tC (G.2.1 (F (F a 0) 0)) ((G.1 (F a 0) 1).toInt)) ((G.1 a 2).toInt)) (l3_47.toInt)))
    (hm47 : 200 - ((G_47.1 a 3).toInt) < (((N47) + 1 : Nat) : Int))
    (c58 : ((G.1 (F a 0) 1).toInt) ≤ ((G_47.1 a 3).toInt))
    (c122 : ¬ (l3_47.toInt < (1 : Int)))
    (c127 : ¬ ((4 : Int) < l3_47.toInt))
    (t144 : x144.toInt = -l2_47.toInt ∨ -l2_47.toInt < -2147483648 ∨ 2147483648 ≤ -l2_47.toInt)
    (d_G149_a_1 : G149.1 a 1 = 2)
    (d_G149_a_3 : G149.1 a 3 = G_47.1 a 3)
    (d_G149_a_4 : G149.1 a 4 = x144) :
    ((G149.1 a 3).toInt) = nE (tC (G.2.1 (F (F a 0) 0)) ((G.1 (F a 0) 1).toInt)) ((G.1 a 2).toInt) ∧ ((nOk (tC (G.2.1 (F (F a 0) 0)) ((G.1 (F a 0) 1).toInt)) ((G.1 a 2).toInt) ∧ ((G149.1 a 1).toInt) = 2 ∧ ((G149.1 a 4).toInt) = nVl (tC (G.2.1 (F (F a 0) 0)) ((G.1 (F a 0) 1).toInt)) ((G.1 a 2).toInt)) ∨ (¬ nOk (tC (G.2.1 (F (F a 0) 0)) ((G.1 (F a 0) 1).toInt)) ((G.1 a 2).toInt) ∧ ((G149.1 a 1).toInt) = 3)) := by
  have hE : nE (tC (G.2.1 (F (F a 0) 0)) ((G.1 (F a 0) 1).toInt)) ((G.1 a 2).toInt) = (G_47.1 a 3).toInt := by
    unfold nE
    refine rn_eq ⟨by omega, pr, cDg_n ?_⟩
    rcases tC_f (G.2.1 (F (F a 0) 0)) ((G.1 (F a 0) 1).toInt) ((G_47.1 a 3).toInt) with h | h
    · omega
    · exact Or.inl h.2
  have nf := nS_f (tC (G.2.1 (F (F a 0) 0)) ((G.1 (F a 0) 1).toInt)) ((G.1 a 2).toInt)
  have hk : l3_47.toInt = nE (tC (G.2.1 (F (F a 0) 0)) ((G.1 (F a 0) 1).toInt)) ((G.1 a 2).toInt) - nS (tC (G.2.1 (F (F a 0) 0)) ((G.1 (F a 0) 1).toInt)) ((G.1 a 2).toInt) := by omega
  have e3 : (G149.1 a 3).toInt = (G_47.1 a 3).toInt := by rw [d_G149_a_3]
  refine ⟨by omega, ?_⟩
  by_cases q : 1 ≤ l3_47.toInt ∧ l3_47.toInt ≤ 4
  · refine Or.inl ⟨⟨by omega, by omega⟩, ?_, ?_⟩
    · rw [d_G149_a_1]
      first | rfl | decide | (exfalso; omega)
    · rw [hk] at I47_3
      rw [d_G149_a_4]
      omega
  · refine Or.inr ⟨fun h => q (by have h1 := h.1; have h2 := h.2; omega), ?_⟩
    rw [d_G149_a_1]
    first | rfl | decide | (exfalso; omega)
theorem v_X5_advanceNumber_152_13 {K : Nat → Nat} {F : Nat → Nat → Nat} (a : Nat) (G : XG) (G_47 : XG) (G149 : XG) (x144 : Int32) (x8 : Int32) (l3_47 : Int32) (l2_47 : Int32) (N47 : Nat) (x69 : Int32) (x72 : Int32)
    (ha : K a = 7)
    (pr : ∀ j : Int, nS (tC (G.2.1 (F (F a 0) 0)) ((G.1 (F a 0) 1).toInt)) ((G.1 a 2).toInt) ≤ j → j < ((G_47.1 a 3).toInt) → cDg ((tC (G.2.1 (F (F a 0) 0)) ((G.1 (F a 0) 1).toInt)) j))
    (n0 : 0 ≤ ((G.1 (F a 0) 1).toInt) ∧ ((G.1 (F a 0) 1).toInt) ≤ 80)
    (s0 : 0 ≤ ((G.1 a 2).toInt) ∧ ((G.1 a 2).toInt) < ((G.1 (F a 0) 1).toInt))
    (z0 : ((tC (G.2.1 (F (F a 0) 0)) ((G.1 (F a 0) 1).toInt) ((G.1 a 2).toInt)) = 45 ∧ (nS (tC (G.2.1 (F (F a 0) 0)) ((G.1 (F a 0) 1).toInt)) ((G.1 a 2).toInt)) = ((G.1 a 2).toInt) + 1) ∨ ((tC (G.2.1 (F (F a 0) 0)) ((G.1 (F a 0) 1).toInt) ((G.1 a 2).toInt)) ≠ 45 ∧ (nS (tC (G.2.1 (F (F a 0) 0)) ((G.1 (F a 0) 1).toInt)) ((G.1 a 2).toInt)) = ((G.1 a 2).toInt)))
    (z0a : (nv (tC (G.2.1 (F (F a 0) 0)) ((G.1 (F a 0) 1).toInt)) (nS (tC (G.2.1 (F (F a 0) 0)) ((G.1 (F a 0) 1).toInt)) ((G.1 a 2).toInt)) 0) = 0)
    (t8 : x8.toInt = (tC (G.2.1 (F (F a 0) 0)) ((G.1 (F a 0) 1).toInt) ((G.1 a 2).toInt)))
    (c13 : ¬ (x8.toInt ≠ (45 : Int)))
    (I47_0 : ((G_47.1 a 3).toInt) = (nS (tC (G.2.1 (F (F a 0) 0)) ((G.1 (F a 0) 1).toInt)) ((G.1 a 2).toInt)) + l3_47.toInt)
    (I47_1 : 0 ≤ l3_47.toInt ∧ ((G_47.1 a 3).toInt) ≤ ((G.1 (F a 0) 1).toInt))
    (I47_2 : (l3_47.toInt = 0 ∧ l2_47.toInt = 0) ∨ (l3_47.toInt = 1 ∧ 0 ≤ l2_47.toInt ∧ l2_47.toInt ≤ 9) ∨ (l3_47.toInt = 2 ∧ 0 ≤ l2_47.toInt ∧ l2_47.toInt ≤ 99) ∨ (l3_47.toInt = 3 ∧ 0 ≤ l2_47.toInt ∧ l2_47.toInt ≤ 999) ∨ (4 ≤ l3_47.toInt ∧ 0 ≤ l2_47.toInt ∧ l2_47.toInt ≤ 9999))
    (I47_3 : l3_47.toInt ≤ 4 → l2_47.toInt = (nv (tC (G.2.1 (F (F a 0) 0)) ((G.1 (F a 0) 1).toInt)) (nS (tC (G.2.1 (F (F a 0) 0)) ((G.1 (F a 0) 1).toInt)) ((G.1 a 2).toInt)) (l3_47.toInt)))
    (hm47 : 200 - ((G_47.1 a 3).toInt) < (((N47) + 1 : Nat) : Int))
    (c58 : ¬ (((G.1 (F a 0) 1).toInt) ≤ ((G_47.1 a 3).toInt)))
    (t69 : x69.toInt = (tC (G.2.1 (F (F a 0) 0)) ((G.1 (F a 0) 1).toInt) ((G_47.1 a 3).toInt)))
    (t72 : (x72.toInt = 1 ∧ 48 ≤ x69.toInt ∧ x69.toInt ≤ 57) ∨ (x72.toInt = 0 ∧ (x69.toInt < 48 ∨ 57 < x69.toInt)))
    (c75 : x72.toInt = 0)
    (c122 : l3_47.toInt < (1 : Int))
    (t144 : x144.toInt = -l2_47.toInt ∨ -l2_47.toInt < -2147483648 ∨ 2147483648 ≤ -l2_47.toInt)
    (d_G149_a_1 : G149.1 a 1 = 3)
    (d_G149_a_3 : G149.1 a 3 = G_47.1 a 3)
    (d_G149_a_4 : G149.1 a 4 = x144) :
    ((G149.1 a 3).toInt) = nE (tC (G.2.1 (F (F a 0) 0)) ((G.1 (F a 0) 1).toInt)) ((G.1 a 2).toInt) ∧ ((nOk (tC (G.2.1 (F (F a 0) 0)) ((G.1 (F a 0) 1).toInt)) ((G.1 a 2).toInt) ∧ ((G149.1 a 1).toInt) = 2 ∧ ((G149.1 a 4).toInt) = nVl (tC (G.2.1 (F (F a 0) 0)) ((G.1 (F a 0) 1).toInt)) ((G.1 a 2).toInt)) ∨ (¬ nOk (tC (G.2.1 (F (F a 0) 0)) ((G.1 (F a 0) 1).toInt)) ((G.1 a 2).toInt) ∧ ((G149.1 a 1).toInt) = 3)) := by
  have hE : nE (tC (G.2.1 (F (F a 0) 0)) ((G.1 (F a 0) 1).toInt)) ((G.1 a 2).toInt) = (G_47.1 a 3).toInt := by
    unfold nE
    refine rn_eq ⟨by omega, pr, cDg_n ?_⟩
    rcases tC_f (G.2.1 (F (F a 0) 0)) ((G.1 (F a 0) 1).toInt) ((G_47.1 a 3).toInt) with h | h
    · omega
    · exact Or.inl h.2
  have nf := nS_f (tC (G.2.1 (F (F a 0) 0)) ((G.1 (F a 0) 1).toInt)) ((G.1 a 2).toInt)
  have hk : l3_47.toInt = nE (tC (G.2.1 (F (F a 0) 0)) ((G.1 (F a 0) 1).toInt)) ((G.1 a 2).toInt) - nS (tC (G.2.1 (F (F a 0) 0)) ((G.1 (F a 0) 1).toInt)) ((G.1 a 2).toInt) := by omega
  have e3 : (G149.1 a 3).toInt = (G_47.1 a 3).toInt := by rw [d_G149_a_3]
  refine ⟨by omega, ?_⟩
  by_cases q : 1 ≤ l3_47.toInt ∧ l3_47.toInt ≤ 4
  · refine Or.inl ⟨⟨by omega, by omega⟩, ?_, ?_⟩
    · rw [d_G149_a_1]
      first | rfl | decide | (exfalso; omega)
    · rw [hk] at I47_3
      rw [d_G149_a_4]
      omega
  · refine Or.inr ⟨fun h => q (by have h1 := h.1; have h2 := h.2; omega), ?_⟩
    rw [d_G149_a_1]
    first | rfl | decide | (exfalso; omega)
theorem v_X5_advanceNumber_152_14 {K : Nat → Nat} {F : Nat → Nat → Nat} (a : Nat) (G : XG) (G_47 : XG) (G149 : XG) (x144 : Int32) (x8 : Int32) (l3_47 : Int32) (l2_47 : Int32) (N47 : Nat) (x69 : Int32) (x72 : Int32)
    (ha : K a = 7)
    (pr : ∀ j : Int, nS (tC (G.2.1 (F (F a 0) 0)) ((G.1 (F a 0) 1).toInt)) ((G.1 a 2).toInt) ≤ j → j < ((G_47.1 a 3).toInt) → cDg ((tC (G.2.1 (F (F a 0) 0)) ((G.1 (F a 0) 1).toInt)) j))
    (n0 : 0 ≤ ((G.1 (F a 0) 1).toInt) ∧ ((G.1 (F a 0) 1).toInt) ≤ 80)
    (s0 : 0 ≤ ((G.1 a 2).toInt) ∧ ((G.1 a 2).toInt) < ((G.1 (F a 0) 1).toInt))
    (z0 : ((tC (G.2.1 (F (F a 0) 0)) ((G.1 (F a 0) 1).toInt) ((G.1 a 2).toInt)) = 45 ∧ (nS (tC (G.2.1 (F (F a 0) 0)) ((G.1 (F a 0) 1).toInt)) ((G.1 a 2).toInt)) = ((G.1 a 2).toInt) + 1) ∨ ((tC (G.2.1 (F (F a 0) 0)) ((G.1 (F a 0) 1).toInt) ((G.1 a 2).toInt)) ≠ 45 ∧ (nS (tC (G.2.1 (F (F a 0) 0)) ((G.1 (F a 0) 1).toInt)) ((G.1 a 2).toInt)) = ((G.1 a 2).toInt)))
    (z0a : (nv (tC (G.2.1 (F (F a 0) 0)) ((G.1 (F a 0) 1).toInt)) (nS (tC (G.2.1 (F (F a 0) 0)) ((G.1 (F a 0) 1).toInt)) ((G.1 a 2).toInt)) 0) = 0)
    (t8 : x8.toInt = (tC (G.2.1 (F (F a 0) 0)) ((G.1 (F a 0) 1).toInt) ((G.1 a 2).toInt)))
    (c13 : ¬ (x8.toInt ≠ (45 : Int)))
    (I47_0 : ((G_47.1 a 3).toInt) = (nS (tC (G.2.1 (F (F a 0) 0)) ((G.1 (F a 0) 1).toInt)) ((G.1 a 2).toInt)) + l3_47.toInt)
    (I47_1 : 0 ≤ l3_47.toInt ∧ ((G_47.1 a 3).toInt) ≤ ((G.1 (F a 0) 1).toInt))
    (I47_2 : (l3_47.toInt = 0 ∧ l2_47.toInt = 0) ∨ (l3_47.toInt = 1 ∧ 0 ≤ l2_47.toInt ∧ l2_47.toInt ≤ 9) ∨ (l3_47.toInt = 2 ∧ 0 ≤ l2_47.toInt ∧ l2_47.toInt ≤ 99) ∨ (l3_47.toInt = 3 ∧ 0 ≤ l2_47.toInt ∧ l2_47.toInt ≤ 999) ∨ (4 ≤ l3_47.toInt ∧ 0 ≤ l2_47.toInt ∧ l2_47.toInt ≤ 9999))
    (I47_3 : l3_47.toInt ≤ 4 → l2_47.toInt = (nv (tC (G.2.1 (F (F a 0) 0)) ((G.1 (F a 0) 1).toInt)) (nS (tC (G.2.1 (F (F a 0) 0)) ((G.1 (F a 0) 1).toInt)) ((G.1 a 2).toInt)) (l3_47.toInt)))
    (hm47 : 200 - ((G_47.1 a 3).toInt) < (((N47) + 1 : Nat) : Int))
    (c58 : ¬ (((G.1 (F a 0) 1).toInt) ≤ ((G_47.1 a 3).toInt)))
    (t69 : x69.toInt = (tC (G.2.1 (F (F a 0) 0)) ((G.1 (F a 0) 1).toInt) ((G_47.1 a 3).toInt)))
    (t72 : (x72.toInt = 1 ∧ 48 ≤ x69.toInt ∧ x69.toInt ≤ 57) ∨ (x72.toInt = 0 ∧ (x69.toInt < 48 ∨ 57 < x69.toInt)))
    (c75 : x72.toInt = 0)
    (c122 : ¬ (l3_47.toInt < (1 : Int)))
    (c127 : (4 : Int) < l3_47.toInt)
    (t144 : x144.toInt = -l2_47.toInt ∨ -l2_47.toInt < -2147483648 ∨ 2147483648 ≤ -l2_47.toInt)
    (d_G149_a_1 : G149.1 a 1 = 3)
    (d_G149_a_3 : G149.1 a 3 = G_47.1 a 3)
    (d_G149_a_4 : G149.1 a 4 = x144) :
    ((G149.1 a 3).toInt) = nE (tC (G.2.1 (F (F a 0) 0)) ((G.1 (F a 0) 1).toInt)) ((G.1 a 2).toInt) ∧ ((nOk (tC (G.2.1 (F (F a 0) 0)) ((G.1 (F a 0) 1).toInt)) ((G.1 a 2).toInt) ∧ ((G149.1 a 1).toInt) = 2 ∧ ((G149.1 a 4).toInt) = nVl (tC (G.2.1 (F (F a 0) 0)) ((G.1 (F a 0) 1).toInt)) ((G.1 a 2).toInt)) ∨ (¬ nOk (tC (G.2.1 (F (F a 0) 0)) ((G.1 (F a 0) 1).toInt)) ((G.1 a 2).toInt) ∧ ((G149.1 a 1).toInt) = 3)) := by
  have hE : nE (tC (G.2.1 (F (F a 0) 0)) ((G.1 (F a 0) 1).toInt)) ((G.1 a 2).toInt) = (G_47.1 a 3).toInt := by
    unfold nE
    refine rn_eq ⟨by omega, pr, cDg_n ?_⟩
    rcases tC_f (G.2.1 (F (F a 0) 0)) ((G.1 (F a 0) 1).toInt) ((G_47.1 a 3).toInt) with h | h
    · omega
    · exact Or.inl h.2
  have nf := nS_f (tC (G.2.1 (F (F a 0) 0)) ((G.1 (F a 0) 1).toInt)) ((G.1 a 2).toInt)
  have hk : l3_47.toInt = nE (tC (G.2.1 (F (F a 0) 0)) ((G.1 (F a 0) 1).toInt)) ((G.1 a 2).toInt) - nS (tC (G.2.1 (F (F a 0) 0)) ((G.1 (F a 0) 1).toInt)) ((G.1 a 2).toInt) := by omega
  have e3 : (G149.1 a 3).toInt = (G_47.1 a 3).toInt := by rw [d_G149_a_3]
  refine ⟨by omega, ?_⟩
  by_cases q : 1 ≤ l3_47.toInt ∧ l3_47.toInt ≤ 4
  · refine Or.inl ⟨⟨by omega, by omega⟩, ?_, ?_⟩
    · rw [d_G149_a_1]
      first | rfl | decide | (exfalso; omega)
    · rw [hk] at I47_3
      rw [d_G149_a_4]
      omega
  · refine Or.inr ⟨fun h => q (by have h1 := h.1; have h2 := h.2; omega), ?_⟩
    rw [d_G149_a_1]
    first | rfl | decide | (exfalso; omega)
theorem v_X5_advanceNumber_152_15 {K : Nat → Nat} {F : Nat → Nat → Nat} (a : Nat) (G : XG) (G_47 : XG) (G149 : XG) (x144 : Int32) (x8 : Int32) (l3_47 : Int32) (l2_47 : Int32) (N47 : Nat) (x69 : Int32) (x72 : Int32)
    (ha : K a = 7)
    (pr : ∀ j : Int, nS (tC (G.2.1 (F (F a 0) 0)) ((G.1 (F a 0) 1).toInt)) ((G.1 a 2).toInt) ≤ j → j < ((G_47.1 a 3).toInt) → cDg ((tC (G.2.1 (F (F a 0) 0)) ((G.1 (F a 0) 1).toInt)) j))
    (n0 : 0 ≤ ((G.1 (F a 0) 1).toInt) ∧ ((G.1 (F a 0) 1).toInt) ≤ 80)
    (s0 : 0 ≤ ((G.1 a 2).toInt) ∧ ((G.1 a 2).toInt) < ((G.1 (F a 0) 1).toInt))
    (z0 : ((tC (G.2.1 (F (F a 0) 0)) ((G.1 (F a 0) 1).toInt) ((G.1 a 2).toInt)) = 45 ∧ (nS (tC (G.2.1 (F (F a 0) 0)) ((G.1 (F a 0) 1).toInt)) ((G.1 a 2).toInt)) = ((G.1 a 2).toInt) + 1) ∨ ((tC (G.2.1 (F (F a 0) 0)) ((G.1 (F a 0) 1).toInt) ((G.1 a 2).toInt)) ≠ 45 ∧ (nS (tC (G.2.1 (F (F a 0) 0)) ((G.1 (F a 0) 1).toInt)) ((G.1 a 2).toInt)) = ((G.1 a 2).toInt)))
    (z0a : (nv (tC (G.2.1 (F (F a 0) 0)) ((G.1 (F a 0) 1).toInt)) (nS (tC (G.2.1 (F (F a 0) 0)) ((G.1 (F a 0) 1).toInt)) ((G.1 a 2).toInt)) 0) = 0)
    (t8 : x8.toInt = (tC (G.2.1 (F (F a 0) 0)) ((G.1 (F a 0) 1).toInt) ((G.1 a 2).toInt)))
    (c13 : ¬ (x8.toInt ≠ (45 : Int)))
    (I47_0 : ((G_47.1 a 3).toInt) = (nS (tC (G.2.1 (F (F a 0) 0)) ((G.1 (F a 0) 1).toInt)) ((G.1 a 2).toInt)) + l3_47.toInt)
    (I47_1 : 0 ≤ l3_47.toInt ∧ ((G_47.1 a 3).toInt) ≤ ((G.1 (F a 0) 1).toInt))
    (I47_2 : (l3_47.toInt = 0 ∧ l2_47.toInt = 0) ∨ (l3_47.toInt = 1 ∧ 0 ≤ l2_47.toInt ∧ l2_47.toInt ≤ 9) ∨ (l3_47.toInt = 2 ∧ 0 ≤ l2_47.toInt ∧ l2_47.toInt ≤ 99) ∨ (l3_47.toInt = 3 ∧ 0 ≤ l2_47.toInt ∧ l2_47.toInt ≤ 999) ∨ (4 ≤ l3_47.toInt ∧ 0 ≤ l2_47.toInt ∧ l2_47.toInt ≤ 9999))
    (I47_3 : l3_47.toInt ≤ 4 → l2_47.toInt = (nv (tC (G.2.1 (F (F a 0) 0)) ((G.1 (F a 0) 1).toInt)) (nS (tC (G.2.1 (F (F a 0) 0)) ((G.1 (F a 0) 1).toInt)) ((G.1 a 2).toInt)) (l3_47.toInt)))
    (hm47 : 200 - ((G_47.1 a 3).toInt) < (((N47) + 1 : Nat) : Int))
    (c58 : ¬ (((G.1 (F a 0) 1).toInt) ≤ ((G_47.1 a 3).toInt)))
    (t69 : x69.toInt = (tC (G.2.1 (F (F a 0) 0)) ((G.1 (F a 0) 1).toInt) ((G_47.1 a 3).toInt)))
    (t72 : (x72.toInt = 1 ∧ 48 ≤ x69.toInt ∧ x69.toInt ≤ 57) ∨ (x72.toInt = 0 ∧ (x69.toInt < 48 ∨ 57 < x69.toInt)))
    (c75 : x72.toInt = 0)
    (c122 : ¬ (l3_47.toInt < (1 : Int)))
    (c127 : ¬ ((4 : Int) < l3_47.toInt))
    (t144 : x144.toInt = -l2_47.toInt ∨ -l2_47.toInt < -2147483648 ∨ 2147483648 ≤ -l2_47.toInt)
    (d_G149_a_1 : G149.1 a 1 = 2)
    (d_G149_a_3 : G149.1 a 3 = G_47.1 a 3)
    (d_G149_a_4 : G149.1 a 4 = x144) :
    ((G149.1 a 3).toInt) = nE (tC (G.2.1 (F (F a 0) 0)) ((G.1 (F a 0) 1).toInt)) ((G.1 a 2).toInt) ∧ ((nOk (tC (G.2.1 (F (F a 0) 0)) ((G.1 (F a 0) 1).toInt)) ((G.1 a 2).toInt) ∧ ((G149.1 a 1).toInt) = 2 ∧ ((G149.1 a 4).toInt) = nVl (tC (G.2.1 (F (F a 0) 0)) ((G.1 (F a 0) 1).toInt)) ((G.1 a 2).toInt)) ∨ (¬ nOk (tC (G.2.1 (F (F a 0) 0)) ((G.1 (F a 0) 1).toInt)) ((G.1 a 2).toInt) ∧ ((G149.1 a 1).toInt) = 3)) := by
  have hE : nE (tC (G.2.1 (F (F a 0) 0)) ((G.1 (F a 0) 1).toInt)) ((G.1 a 2).toInt) = (G_47.1 a 3).toInt := by
    unfold nE
    refine rn_eq ⟨by omega, pr, cDg_n ?_⟩
    rcases tC_f (G.2.1 (F (F a 0) 0)) ((G.1 (F a 0) 1).toInt) ((G_47.1 a 3).toInt) with h | h
    · omega
    · exact Or.inl h.2
  have nf := nS_f (tC (G.2.1 (F (F a 0) 0)) ((G.1 (F a 0) 1).toInt)) ((G.1 a 2).toInt)
  have hk : l3_47.toInt = nE (tC (G.2.1 (F (F a 0) 0)) ((G.1 (F a 0) 1).toInt)) ((G.1 a 2).toInt) - nS (tC (G.2.1 (F (F a 0) 0)) ((G.1 (F a 0) 1).toInt)) ((G.1 a 2).toInt) := by omega
  have e3 : (G149.1 a 3).toInt = (G_47.1 a 3).toInt := by rw [d_G149_a_3]
  refine ⟨by omega, ?_⟩
  by_cases q : 1 ≤ l3_47.toInt ∧ l3_47.toInt ≤ 4
  · refine Or.inl ⟨⟨by omega, by omega⟩, ?_, ?_⟩
    · rw [d_G149_a_1]
      first | rfl | decide | (exfalso; omega)
    · rw [hk] at I47_3
      rw [d_G149_a_4]
      omega
  · refine Or.inr ⟨fun h => q (by have h1 := h.1; have h2 := h.2; omega), ?_⟩
    rw [d_G149_a_1]
    first | rfl | decide | (exfalso; omega)
theorem v_X5_advanceNumber_116_16 {K : Nat → Nat} {F : Nat → Nat → Nat} (a : Nat) (G : XG) (G_47 : XG) (l3_47 : Int32) (x8 : Int32) (l2_47 : Int32) (N47 : Nat) (x69 : Int32) (x72 : Int32)
    (ha : K a = 7)
    (pr : ∀ j : Int, nS (tC (G.2.1 (F (F a 0) 0)) ((G.1 (F a 0) 1).toInt)) ((G.1 a 2).toInt) ≤ j → j < ((G_47.1 a 3).toInt) → cDg ((tC (G.2.1 (F (F a 0) 0)) ((G.1 (F a 0) 1).toInt)) j))
    (n0 : 0 ≤ ((G.1 (F a 0) 1).toInt) ∧ ((G.1 (F a 0) 1).toInt) ≤ 80)
    (s0 : 0 ≤ ((G.1 a 2).toInt) ∧ ((G.1 a 2).toInt) < ((G.1 (F a 0) 1).toInt))
    (z0 : ((tC (G.2.1 (F (F a 0) 0)) ((G.1 (F a 0) 1).toInt) ((G.1 a 2).toInt)) = 45 ∧ (nS (tC (G.2.1 (F (F a 0) 0)) ((G.1 (F a 0) 1).toInt)) ((G.1 a 2).toInt)) = ((G.1 a 2).toInt) + 1) ∨ ((tC (G.2.1 (F (F a 0) 0)) ((G.1 (F a 0) 1).toInt) ((G.1 a 2).toInt)) ≠ 45 ∧ (nS (tC (G.2.1 (F (F a 0) 0)) ((G.1 (F a 0) 1).toInt)) ((G.1 a 2).toInt)) = ((G.1 a 2).toInt)))
    (z0a : (nv (tC (G.2.1 (F (F a 0) 0)) ((G.1 (F a 0) 1).toInt)) (nS (tC (G.2.1 (F (F a 0) 0)) ((G.1 (F a 0) 1).toInt)) ((G.1 a 2).toInt)) 0) = 0)
    (t8 : x8.toInt = (tC (G.2.1 (F (F a 0) 0)) ((G.1 (F a 0) 1).toInt) ((G.1 a 2).toInt)))
    (c13 : ¬ (x8.toInt ≠ (45 : Int)))
    (I47_0 : ((G_47.1 a 3).toInt) = (nS (tC (G.2.1 (F (F a 0) 0)) ((G.1 (F a 0) 1).toInt)) ((G.1 a 2).toInt)) + l3_47.toInt)
    (I47_1 : 0 ≤ l3_47.toInt ∧ ((G_47.1 a 3).toInt) ≤ ((G.1 (F a 0) 1).toInt))
    (I47_2 : (l3_47.toInt = 0 ∧ l2_47.toInt = 0) ∨ (l3_47.toInt = 1 ∧ 0 ≤ l2_47.toInt ∧ l2_47.toInt ≤ 9) ∨ (l3_47.toInt = 2 ∧ 0 ≤ l2_47.toInt ∧ l2_47.toInt ≤ 99) ∨ (l3_47.toInt = 3 ∧ 0 ≤ l2_47.toInt ∧ l2_47.toInt ≤ 999) ∨ (4 ≤ l3_47.toInt ∧ 0 ≤ l2_47.toInt ∧ l2_47.toInt ≤ 9999))
    (I47_3 : l3_47.toInt ≤ 4 → l2_47.toInt = (nv (tC (G.2.1 (F (F a 0) 0)) ((G.1 (F a 0) 1).toInt)) (nS (tC (G.2.1 (F (F a 0) 0)) ((G.1 (F a 0) 1).toInt)) ((G.1 a 2).toInt)) (l3_47.toInt)))
    (hm47 : 200 - ((G_47.1 a 3).toInt) < (((N47) + 1 : Nat) : Int))
    (c58 : ¬ (((G.1 (F a 0) 1).toInt) ≤ ((G_47.1 a 3).toInt)))
    (t69 : x69.toInt = (tC (G.2.1 (F (F a 0) 0)) ((G.1 (F a 0) 1).toInt) ((G_47.1 a 3).toInt)))
    (t72 : (x72.toInt = 1 ∧ 48 ≤ x69.toInt ∧ x69.toInt ≤ 57) ∨ (x72.toInt = 0 ∧ (x69.toInt < 48 ∨ 57 < x69.toInt)))
    (c75 : ¬ (x72.toInt = 0))
    (z78 : (nv (tC (G.2.1 (F (F a 0) 0)) ((G.1 (F a 0) 1).toInt)) (nS (tC (G.2.1 (F (F a 0) 0)) ((G.1 (F a 0) 1).toInt)) ((G.1 a 2).toInt)) (l3_47.toInt + 1)) = 10 * (nv (tC (G.2.1 (F (F a 0) 0)) ((G.1 (F a 0) 1).toInt)) (nS (tC (G.2.1 (F (F a 0) 0)) ((G.1 (F a 0) 1).toInt)) ((G.1 a 2).toInt)) (l3_47.toInt)) + ((tC (G.2.1 (F (F a 0) 0)) ((G.1 (F a 0) 1).toInt) ((nS (tC (G.2.1 (F (F a 0) 0)) ((G.1 (F a 0) 1).toInt)) ((G.1 a 2).toInt)) + l3_47.toInt)) - 48))
    (z78a : ((G_47.1 a 3).toInt) = (nS (tC (G.2.1 (F (F a 0) 0)) ((G.1 (F a 0) 1).toInt)) ((G.1 a 2).toInt)) + l3_47.toInt → (tC (G.2.1 (F (F a 0) 0)) ((G.1 (F a 0) 1).toInt) ((nS (tC (G.2.1 (F (F a 0) 0)) ((G.1 (F a 0) 1).toInt)) ((G.1 a 2).toInt)) + l3_47.toInt)) = (tC (G.2.1 (F (F a 0) 0)) ((G.1 (F a 0) 1).toInt) ((G_47.1 a 3).toInt)))
    (c80 : (4 : Int) ≤ l3_47.toInt) :
    ∀ j : Int, nS (tC (G.2.1 (F (F a 0) 0)) ((G.1 (F a 0) 1).toInt)) ((G.1 a 2).toInt) ≤ j → j < (((G_47.1 a 3).toInt) + (1 : Int)) → cDg ((tC (G.2.1 (F (F a 0) 0)) ((G.1 (F a 0) 1).toInt)) j) := by
  intro j h1 h2
  by_cases e : j = (G_47.1 a 3).toInt
  · rw [e]; unfold cDg; omega
  · exact pr j h1 (by omega)
theorem v_X5_advanceNumber_116_17 {K : Nat → Nat} {F : Nat → Nat → Nat} (a : Nat) (G : XG) (G_47 : XG) (l2_47 : Int32) (l3_47 : Int32) (x8 : Int32) (N47 : Nat) (x69 : Int32) (x72 : Int32)
    (ha : K a = 7)
    (pr : ∀ j : Int, nS (tC (G.2.1 (F (F a 0) 0)) ((G.1 (F a 0) 1).toInt)) ((G.1 a 2).toInt) ≤ j → j < ((G_47.1 a 3).toInt) → cDg ((tC (G.2.1 (F (F a 0) 0)) ((G.1 (F a 0) 1).toInt)) j))
    (n0 : 0 ≤ ((G.1 (F a 0) 1).toInt) ∧ ((G.1 (F a 0) 1).toInt) ≤ 80)
    (s0 : 0 ≤ ((G.1 a 2).toInt) ∧ ((G.1 a 2).toInt) < ((G.1 (F a 0) 1).toInt))
    (z0 : ((tC (G.2.1 (F (F a 0) 0)) ((G.1 (F a 0) 1).toInt) ((G.1 a 2).toInt)) = 45 ∧ (nS (tC (G.2.1 (F (F a 0) 0)) ((G.1 (F a 0) 1).toInt)) ((G.1 a 2).toInt)) = ((G.1 a 2).toInt) + 1) ∨ ((tC (G.2.1 (F (F a 0) 0)) ((G.1 (F a 0) 1).toInt) ((G.1 a 2).toInt)) ≠ 45 ∧ (nS (tC (G.2.1 (F (F a 0) 0)) ((G.1 (F a 0) 1).toInt)) ((G.1 a 2).toInt)) = ((G.1 a 2).toInt)))
    (z0a : (nv (tC (G.2.1 (F (F a 0) 0)) ((G.1 (F a 0) 1).toInt)) (nS (tC (G.2.1 (F (F a 0) 0)) ((G.1 (F a 0) 1).toInt)) ((G.1 a 2).toInt)) 0) = 0)
    (t8 : x8.toInt = (tC (G.2.1 (F (F a 0) 0)) ((G.1 (F a 0) 1).toInt) ((G.1 a 2).toInt)))
    (c13 : ¬ (x8.toInt ≠ (45 : Int)))
    (I47_0 : ((G_47.1 a 3).toInt) = (nS (tC (G.2.1 (F (F a 0) 0)) ((G.1 (F a 0) 1).toInt)) ((G.1 a 2).toInt)) + l3_47.toInt)
    (I47_1 : 0 ≤ l3_47.toInt ∧ ((G_47.1 a 3).toInt) ≤ ((G.1 (F a 0) 1).toInt))
    (I47_2 : (l3_47.toInt = 0 ∧ l2_47.toInt = 0) ∨ (l3_47.toInt = 1 ∧ 0 ≤ l2_47.toInt ∧ l2_47.toInt ≤ 9) ∨ (l3_47.toInt = 2 ∧ 0 ≤ l2_47.toInt ∧ l2_47.toInt ≤ 99) ∨ (l3_47.toInt = 3 ∧ 0 ≤ l2_47.toInt ∧ l2_47.toInt ≤ 999) ∨ (4 ≤ l3_47.toInt ∧ 0 ≤ l2_47.toInt ∧ l2_47.toInt ≤ 9999))
    (I47_3 : l3_47.toInt ≤ 4 → l2_47.toInt = (nv (tC (G.2.1 (F (F a 0) 0)) ((G.1 (F a 0) 1).toInt)) (nS (tC (G.2.1 (F (F a 0) 0)) ((G.1 (F a 0) 1).toInt)) ((G.1 a 2).toInt)) (l3_47.toInt)))
    (hm47 : 200 - ((G_47.1 a 3).toInt) < (((N47) + 1 : Nat) : Int))
    (c58 : ¬ (((G.1 (F a 0) 1).toInt) ≤ ((G_47.1 a 3).toInt)))
    (t69 : x69.toInt = (tC (G.2.1 (F (F a 0) 0)) ((G.1 (F a 0) 1).toInt) ((G_47.1 a 3).toInt)))
    (t72 : (x72.toInt = 1 ∧ 48 ≤ x69.toInt ∧ x69.toInt ≤ 57) ∨ (x72.toInt = 0 ∧ (x69.toInt < 48 ∨ 57 < x69.toInt)))
    (c75 : ¬ (x72.toInt = 0))
    (z78 : (nv (tC (G.2.1 (F (F a 0) 0)) ((G.1 (F a 0) 1).toInt)) (nS (tC (G.2.1 (F (F a 0) 0)) ((G.1 (F a 0) 1).toInt)) ((G.1 a 2).toInt)) (l3_47.toInt + 1)) = 10 * (nv (tC (G.2.1 (F (F a 0) 0)) ((G.1 (F a 0) 1).toInt)) (nS (tC (G.2.1 (F (F a 0) 0)) ((G.1 (F a 0) 1).toInt)) ((G.1 a 2).toInt)) (l3_47.toInt)) + ((tC (G.2.1 (F (F a 0) 0)) ((G.1 (F a 0) 1).toInt) ((nS (tC (G.2.1 (F (F a 0) 0)) ((G.1 (F a 0) 1).toInt)) ((G.1 a 2).toInt)) + l3_47.toInt)) - 48))
    (z78a : ((G_47.1 a 3).toInt) = (nS (tC (G.2.1 (F (F a 0) 0)) ((G.1 (F a 0) 1).toInt)) ((G.1 a 2).toInt)) + l3_47.toInt → (tC (G.2.1 (F (F a 0) 0)) ((G.1 (F a 0) 1).toInt) ((nS (tC (G.2.1 (F (F a 0) 0)) ((G.1 (F a 0) 1).toInt)) ((G.1 a 2).toInt)) + l3_47.toInt)) = (tC (G.2.1 (F (F a 0) 0)) ((G.1 (F a 0) 1).toInt) ((G_47.1 a 3).toInt)))
    (c80 : ¬ ((4 : Int) ≤ l3_47.toInt)) :
    ∀ j : Int, nS (tC (G.2.1 (F (F a 0) 0)) ((G.1 (F a 0) 1).toInt)) ((G.1 a 2).toInt) ≤ j → j < (((G_47.1 a 3).toInt) + (1 : Int)) → cDg ((tC (G.2.1 (F (F a 0) 0)) ((G.1 (F a 0) 1).toInt)) j) := by
  intro j h1 h2
  by_cases e : j = (G_47.1 a 3).toInt
  · rw [e]; unfold cDg; omega
  · exact pr j h1 (by omega)
theorem v_X5_advanceNumber_44_18 {K : Nat → Nat} {F : Nat → Nat → Nat} (a : Nat) (G : XG) (x8 : Int32)
    (ha : K a = 7)
    (n0 : 0 ≤ ((G.1 (F a 0) 1).toInt) ∧ ((G.1 (F a 0) 1).toInt) ≤ 80)
    (s0 : 0 ≤ ((G.1 a 2).toInt) ∧ ((G.1 a 2).toInt) < ((G.1 (F a 0) 1).toInt))
    (z0 : ((tC (G.2.1 (F (F a 0) 0)) ((G.1 (F a 0) 1).toInt) ((G.1 a 2).toInt)) = 45 ∧ (nS (tC (G.2.1 (F (F a 0) 0)) ((G.1 (F a 0) 1).toInt)) ((G.1 a 2).toInt)) = ((G.1 a 2).toInt) + 1) ∨ ((tC (G.2.1 (F (F a 0) 0)) ((G.1 (F a 0) 1).toInt) ((G.1 a 2).toInt)) ≠ 45 ∧ (nS (tC (G.2.1 (F (F a 0) 0)) ((G.1 (F a 0) 1).toInt)) ((G.1 a 2).toInt)) = ((G.1 a 2).toInt)))
    (z0a : (nv (tC (G.2.1 (F (F a 0) 0)) ((G.1 (F a 0) 1).toInt)) (nS (tC (G.2.1 (F (F a 0) 0)) ((G.1 (F a 0) 1).toInt)) ((G.1 a 2).toInt)) 0) = 0)
    (t8 : x8.toInt = (tC (G.2.1 (F (F a 0) 0)) ((G.1 (F a 0) 1).toInt) ((G.1 a 2).toInt)))
    (c13 : ¬ (x8.toInt ≠ (45 : Int))) :
    ∀ j : Int, nS (tC (G.2.1 (F (F a 0) 0)) ((G.1 (F a 0) 1).toInt)) ((G.1 a 2).toInt) ≤ j → j < (((G.1 a 2).toInt) + (1 : Int)) → cDg ((tC (G.2.1 (F (F a 0) 0)) ((G.1 (F a 0) 1).toInt)) j) := by
  intro j h1 h2; exact absurd h1 (by omega)
theorem v_X5_advance_109_1 {K : Nat → Nat} {F : Nat → Nat → Nat} (a : Nat) (G : XG) (G_8 : XG) (G56 : XG) (G106 : XG) (N8 : Nat) (x89 : Int32) (x92 : Int32)
    (ha : K a = 7)
    (pr : ∀ j : Int, (G.1 a 3).toInt ≤ j → j < ((G_8.1 a 2).toInt) → cBl ((tC (G.2.1 (F (F a 0) 0)) ((G.1 (F a 0) 1).toInt)) j))
    (oq106 : ((G106.1 a 3).toInt) = nE (tC (G.2.1 (F (F a 0) 0)) ((G.1 (F a 0) 1).toInt)) ((G_8.1 a 2).toInt) ∧ ((nOk (tC (G.2.1 (F (F a 0) 0)) ((G.1 (F a 0) 1).toInt)) ((G_8.1 a 2).toInt) ∧ ((G106.1 a 1).toInt) = 2 ∧ ((G106.1 a 4).toInt) = nVl (tC (G.2.1 (F (F a 0) 0)) ((G.1 (F a 0) 1).toInt)) ((G_8.1 a 2).toInt)) ∨ (¬ nOk (tC (G.2.1 (F (F a 0) 0)) ((G.1 (F a 0) 1).toInt)) ((G_8.1 a 2).toInt) ∧ ((G106.1 a 1).toInt) = 3)))
    (n0 : 0 ≤ ((G.1 (F a 0) 1).toInt) ∧ ((G.1 (F a 0) 1).toInt) ≤ 80)
    (s0 : 0 ≤ ((G.1 a 3).toInt) ∧ ((G.1 a 3).toInt) ≤ ((G.1 (F a 0) 1).toInt))
    (I8_0 : ((G.1 a 3).toInt) ≤ ((G_8.1 a 2).toInt) ∧ ((G_8.1 a 2).toInt) ≤ ((G.1 (F a 0) 1).toInt))
    (hm8 : 200 - ((G_8.1 a 2).toInt) < (((N8) + 1 : Nat) : Int))
    (c19 : ((G.1 (F a 0) 1).toInt) ≤ ((G_8.1 a 2).toInt))
    (c70 : ((G_8.1 a 2).toInt) < ((G.1 (F a 0) 1).toInt))
    (t89 : x89.toInt = (tC (G.2.1 (F (F a 0) 0)) ((G.1 (F a 0) 1).toInt) ((G_8.1 a 2).toInt)))
    (t92 : (x92.toInt = 1 ∧ 97 ≤ x89.toInt ∧ x89.toInt ≤ 122) ∨ (x92.toInt = 0 ∧ (x89.toInt < 97 ∨ 122 < x89.toInt)))
    (c95 : x92.toInt = 0)
    (t106 : 0 ≤ ((G106.1 a 3).toInt) ∧ ((G106.1 a 3).toInt) ≤ ((G.1 (F a 0) 1).toInt))
    (d_G106_a_2 : G106.1 a 2 = G_8.1 a 2)
    (d_G56_a_2 : G56.1 a 2 = G_8.1 a 2) :
    ((G106.1 a 2).toInt) = rn cBl (tC (G.2.1 (F (F a 0) 0)) ((G.1 (F a 0) 1).toInt)) ((G.1 a 3).toInt) ∧ TokI (tC (G.2.1 (F (F a 0) 0)) ((G.1 (F a 0) 1).toInt)) ((G.1 (F a 0) 1).toInt) ((G106.1 a 1).toInt) ((G106.1 a 2).toInt) ((G106.1 a 3).toInt) ((G106.1 a 4).toInt) := by
  have hb : ¬ cBl ((tC (G.2.1 (F (F a 0) 0)) ((G.1 (F a 0) 1).toInt)) ((G_8.1 a 2).toInt)) := by
    have := tC_f (G.2.1 (F (F a 0) 0)) ((G.1 (F a 0) 1).toInt) ((G_8.1 a 2).toInt)
    show ¬ (_ = (32 : Int))
    omega
  have hr : (G_8.1 a 2).toInt = rn cBl (tC (G.2.1 (F (F a 0) 0)) ((G.1 (F a 0) 1).toInt)) ((G.1 a 3).toInt) := (rn_eq ⟨by omega, pr, hb⟩).symm
  rw [d_G106_a_2]
  refine ⟨hr, hb, fun h => absurd h (by omega), fun _ h => absurd h (cLt_n (by omega)), fun _ _ => ?_⟩
  first
    | exact oq106
    | (rw [d_G56_a_2] at oq106; exact oq106)
theorem v_X5_advance_109_2 {K : Nat → Nat} {F : Nat → Nat → Nat} (a : Nat) (G : XG) (G_8 : XG) (G56 : XG) (G99 : XG) (N8 : Nat) (x89 : Int32) (x92 : Int32)
    (ha : K a = 7)
    (pr : ∀ j : Int, (G.1 a 3).toInt ≤ j → j < ((G_8.1 a 2).toInt) → cBl ((tC (G.2.1 (F (F a 0) 0)) ((G.1 (F a 0) 1).toInt)) j))
    (oq99 : ((G99.1 a 3).toInt) = rn cLt (tC (G.2.1 (F (F a 0) 0)) ((G.1 (F a 0) 1).toInt)) ((G56.1 a 3).toInt))
    (n0 : 0 ≤ ((G.1 (F a 0) 1).toInt) ∧ ((G.1 (F a 0) 1).toInt) ≤ 80)
    (s0 : 0 ≤ ((G.1 a 3).toInt) ∧ ((G.1 a 3).toInt) ≤ ((G.1 (F a 0) 1).toInt))
    (I8_0 : ((G.1 a 3).toInt) ≤ ((G_8.1 a 2).toInt) ∧ ((G_8.1 a 2).toInt) ≤ ((G.1 (F a 0) 1).toInt))
    (hm8 : 200 - ((G_8.1 a 2).toInt) < (((N8) + 1 : Nat) : Int))
    (c19 : ((G.1 (F a 0) 1).toInt) ≤ ((G_8.1 a 2).toInt))
    (c70 : ((G_8.1 a 2).toInt) < ((G.1 (F a 0) 1).toInt))
    (t89 : x89.toInt = (tC (G.2.1 (F (F a 0) 0)) ((G.1 (F a 0) 1).toInt) ((G_8.1 a 2).toInt)))
    (t92 : (x92.toInt = 1 ∧ 97 ≤ x89.toInt ∧ x89.toInt ≤ 122) ∨ (x92.toInt = 0 ∧ (x89.toInt < 97 ∨ 122 < x89.toInt)))
    (c95 : ¬ (x92.toInt = 0))
    (t99 : ((G99.1 a 1).toInt) = 1 ∧ ((G_8.1 a 2).toInt) ≤ ((G99.1 a 3).toInt) ∧ ((G99.1 a 3).toInt) ≤ ((G.1 (F a 0) 1).toInt))
    (d_G56_a_3 : G56.1 a 3 = (G_8.1 a 2))
    (d_G99_a_2 : G99.1 a 2 = G_8.1 a 2) :
    ((G99.1 a 2).toInt) = rn cBl (tC (G.2.1 (F (F a 0) 0)) ((G.1 (F a 0) 1).toInt)) ((G.1 a 3).toInt) ∧ TokI (tC (G.2.1 (F (F a 0) 0)) ((G.1 (F a 0) 1).toInt)) ((G.1 (F a 0) 1).toInt) ((G99.1 a 1).toInt) ((G99.1 a 2).toInt) ((G99.1 a 3).toInt) ((G99.1 a 4).toInt) := by
  have hb : ¬ cBl ((tC (G.2.1 (F (F a 0) 0)) ((G.1 (F a 0) 1).toInt)) ((G_8.1 a 2).toInt)) := by
    have := tC_f (G.2.1 (F (F a 0) 0)) ((G.1 (F a 0) 1).toInt) ((G_8.1 a 2).toInt)
    show ¬ (_ = (32 : Int))
    omega
  have hr : (G_8.1 a 2).toInt = rn cBl (tC (G.2.1 (F (F a 0) 0)) ((G.1 (F a 0) 1).toInt)) ((G.1 a 3).toInt) := (rn_eq ⟨by omega, pr, hb⟩).symm
  rw [d_G56_a_3] at oq99
  rw [d_G99_a_2]
  exact ⟨hr, hb, fun h => absurd h (by omega), fun _ _ => ⟨by omega, oq99⟩, fun _ h => absurd (show cLt _ from ⟨by omega, by omega⟩) h⟩
theorem v_X5_advance_109_3 {K : Nat → Nat} {F : Nat → Nat → Nat} (a : Nat) (G : XG) (G_8 : XG) (G75 : XG) (N8 : Nat)
    (ha : K a = 7)
    (pr : ∀ j : Int, (G.1 a 3).toInt ≤ j → j < ((G_8.1 a 2).toInt) → cBl ((tC (G.2.1 (F (F a 0) 0)) ((G.1 (F a 0) 1).toInt)) j))
    (n0 : 0 ≤ ((G.1 (F a 0) 1).toInt) ∧ ((G.1 (F a 0) 1).toInt) ≤ 80)
    (s0 : 0 ≤ ((G.1 a 3).toInt) ∧ ((G.1 a 3).toInt) ≤ ((G.1 (F a 0) 1).toInt))
    (I8_0 : ((G.1 a 3).toInt) ≤ ((G_8.1 a 2).toInt) ∧ ((G_8.1 a 2).toInt) ≤ ((G.1 (F a 0) 1).toInt))
    (hm8 : 200 - ((G_8.1 a 2).toInt) < (((N8) + 1 : Nat) : Int))
    (c19 : ((G.1 (F a 0) 1).toInt) ≤ ((G_8.1 a 2).toInt))
    (c70 : ¬ (((G_8.1 a 2).toInt) < ((G.1 (F a 0) 1).toInt)))
    (d_G75_a_1 : G75.1 a 1 = 0)
    (d_G75_a_2 : G75.1 a 2 = G_8.1 a 2) :
    ((G75.1 a 2).toInt) = rn cBl (tC (G.2.1 (F (F a 0) 0)) ((G.1 (F a 0) 1).toInt)) ((G.1 a 3).toInt) ∧ TokI (tC (G.2.1 (F (F a 0) 0)) ((G.1 (F a 0) 1).toInt)) ((G.1 (F a 0) 1).toInt) ((G75.1 a 1).toInt) ((G75.1 a 2).toInt) ((G75.1 a 3).toInt) ((G75.1 a 4).toInt) := by
  have hb : ¬ cBl ((tC (G.2.1 (F (F a 0) 0)) ((G.1 (F a 0) 1).toInt)) ((G_8.1 a 2).toInt)) := by
    have := tC_f (G.2.1 (F (F a 0) 0)) ((G.1 (F a 0) 1).toInt) ((G_8.1 a 2).toInt)
    show ¬ (_ = (32 : Int))
    omega
  have hr : (G_8.1 a 2).toInt = rn cBl (tC (G.2.1 (F (F a 0) 0)) ((G.1 (F a 0) 1).toInt)) ((G.1 a 3).toInt) := (rn_eq ⟨by omega, pr, hb⟩).symm
  rw [d_G75_a_2, d_G75_a_1]
  exact ⟨hr, hb, fun _ => by decide, fun h => absurd h (by omega), fun h => absurd h (by omega)⟩
theorem v_X5_advance_109_4 {K : Nat → Nat} {F : Nat → Nat → Nat} (a : Nat) (G : XG) (G_8 : XG) (G56 : XG) (G106 : XG) (N8 : Nat) (x30 : Int32) (x89 : Int32) (x92 : Int32)
    (ha : K a = 7)
    (pr : ∀ j : Int, (G.1 a 3).toInt ≤ j → j < ((G_8.1 a 2).toInt) → cBl ((tC (G.2.1 (F (F a 0) 0)) ((G.1 (F a 0) 1).toInt)) j))
    (oq106 : ((G106.1 a 3).toInt) = nE (tC (G.2.1 (F (F a 0) 0)) ((G.1 (F a 0) 1).toInt)) ((G_8.1 a 2).toInt) ∧ ((nOk (tC (G.2.1 (F (F a 0) 0)) ((G.1 (F a 0) 1).toInt)) ((G_8.1 a 2).toInt) ∧ ((G106.1 a 1).toInt) = 2 ∧ ((G106.1 a 4).toInt) = nVl (tC (G.2.1 (F (F a 0) 0)) ((G.1 (F a 0) 1).toInt)) ((G_8.1 a 2).toInt)) ∨ (¬ nOk (tC (G.2.1 (F (F a 0) 0)) ((G.1 (F a 0) 1).toInt)) ((G_8.1 a 2).toInt) ∧ ((G106.1 a 1).toInt) = 3)))
    (n0 : 0 ≤ ((G.1 (F a 0) 1).toInt) ∧ ((G.1 (F a 0) 1).toInt) ≤ 80)
    (s0 : 0 ≤ ((G.1 a 3).toInt) ∧ ((G.1 a 3).toInt) ≤ ((G.1 (F a 0) 1).toInt))
    (I8_0 : ((G.1 a 3).toInt) ≤ ((G_8.1 a 2).toInt) ∧ ((G_8.1 a 2).toInt) ≤ ((G.1 (F a 0) 1).toInt))
    (hm8 : 200 - ((G_8.1 a 2).toInt) < (((N8) + 1 : Nat) : Int))
    (c19 : ¬ (((G.1 (F a 0) 1).toInt) ≤ ((G_8.1 a 2).toInt)))
    (t30 : x30.toInt = (tC (G.2.1 (F (F a 0) 0)) ((G.1 (F a 0) 1).toInt) ((G_8.1 a 2).toInt)))
    (c35 : x30.toInt ≠ (32 : Int))
    (c70 : ((G_8.1 a 2).toInt) < ((G.1 (F a 0) 1).toInt))
    (t89 : x89.toInt = (tC (G.2.1 (F (F a 0) 0)) ((G.1 (F a 0) 1).toInt) ((G_8.1 a 2).toInt)))
    (t92 : (x92.toInt = 1 ∧ 97 ≤ x89.toInt ∧ x89.toInt ≤ 122) ∨ (x92.toInt = 0 ∧ (x89.toInt < 97 ∨ 122 < x89.toInt)))
    (c95 : x92.toInt = 0)
    (t106 : 0 ≤ ((G106.1 a 3).toInt) ∧ ((G106.1 a 3).toInt) ≤ ((G.1 (F a 0) 1).toInt))
    (d_G106_a_2 : G106.1 a 2 = G_8.1 a 2)
    (d_G56_a_2 : G56.1 a 2 = G_8.1 a 2) :
    ((G106.1 a 2).toInt) = rn cBl (tC (G.2.1 (F (F a 0) 0)) ((G.1 (F a 0) 1).toInt)) ((G.1 a 3).toInt) ∧ TokI (tC (G.2.1 (F (F a 0) 0)) ((G.1 (F a 0) 1).toInt)) ((G.1 (F a 0) 1).toInt) ((G106.1 a 1).toInt) ((G106.1 a 2).toInt) ((G106.1 a 3).toInt) ((G106.1 a 4).toInt) := by
  have hb : ¬ cBl ((tC (G.2.1 (F (F a 0) 0)) ((G.1 (F a 0) 1).toInt)) ((G_8.1 a 2).toInt)) := by
    have := tC_f (G.2.1 (F (F a 0) 0)) ((G.1 (F a 0) 1).toInt) ((G_8.1 a 2).toInt)
    show ¬ (_ = (32 : Int))
    omega
  have hr : (G_8.1 a 2).toInt = rn cBl (tC (G.2.1 (F (F a 0) 0)) ((G.1 (F a 0) 1).toInt)) ((G.1 a 3).toInt) := (rn_eq ⟨by omega, pr, hb⟩).symm
  rw [d_G106_a_2]
  refine ⟨hr, hb, fun h => absurd h (by omega), fun _ h => absurd h (cLt_n (by omega)), fun _ _ => ?_⟩
  first
    | exact oq106
    | (rw [d_G56_a_2] at oq106; exact oq106)
theorem v_X5_advance_109_5 {K : Nat → Nat} {F : Nat → Nat → Nat} (a : Nat) (G : XG) (G_8 : XG) (G56 : XG) (G99 : XG) (N8 : Nat) (x30 : Int32) (x89 : Int32) (x92 : Int32)
    (ha : K a = 7)
    (pr : ∀ j : Int, (G.1 a 3).toInt ≤ j → j < ((G_8.1 a 2).toInt) → cBl ((tC (G.2.1 (F (F a 0) 0)) ((G.1 (F a 0) 1).toInt)) j))
    (oq99 : ((G99.1 a 3).toInt) = rn cLt (tC (G.2.1 (F (F a 0) 0)) ((G.1 (F a 0) 1).toInt)) ((G56.1 a 3).toInt))
    (n0 : 0 ≤ ((G.1 (F a 0) 1).toInt) ∧ ((G.1 (F a 0) 1).toInt) ≤ 80)
    (s0 : 0 ≤ ((G.1 a 3).toInt) ∧ ((G.1 a 3).toInt) ≤ ((G.1 (F a 0) 1).toInt))
    (I8_0 : ((G.1 a 3).toInt) ≤ ((G_8.1 a 2).toInt) ∧ ((G_8.1 a 2).toInt) ≤ ((G.1 (F a 0) 1).toInt))
    (hm8 : 200 - ((G_8.1 a 2).toInt) < (((N8) + 1 : Nat) : Int))
    (c19 : ¬ (((G.1 (F a 0) 1).toInt) ≤ ((G_8.1 a 2).toInt)))
    (t30 : x30.toInt = (tC (G.2.1 (F (F a 0) 0)) ((G.1 (F a 0) 1).toInt) ((G_8.1 a 2).toInt)))
    (c35 : x30.toInt ≠ (32 : Int))
    (c70 : ((G_8.1 a 2).toInt) < ((G.1 (F a 0) 1).toInt))
    (t89 : x89.toInt = (tC (G.2.1 (F (F a 0) 0)) ((G.1 (F a 0) 1).toInt) ((G_8.1 a 2).toInt)))
    (t92 : (x92.toInt = 1 ∧ 97 ≤ x89.toInt ∧ x89.toInt ≤ 122) ∨ (x92.toInt = 0 ∧ (x89.toInt < 97 ∨ 122 < x89.toInt)))
    (c95 : ¬ (x92.toInt = 0))
    (t99 : ((G99.1 a 1).toInt) = 1 ∧ ((G_8.1 a 2).toInt) ≤ ((G99.1 a 3).toInt) ∧ ((G99.1 a 3).toInt) ≤ ((G.1 (F a 0) 1).toInt))
    (d_G56_a_3 : G56.1 a 3 = (G_8.1 a 2))
    (d_G99_a_2 : G99.1 a 2 = G_8.1 a 2) :
    ((G99.1 a 2).toInt) = rn cBl (tC (G.2.1 (F (F a 0) 0)) ((G.1 (F a 0) 1).toInt)) ((G.1 a 3).toInt) ∧ TokI (tC (G.2.1 (F (F a 0) 0)) ((G.1 (F a 0) 1).toInt)) ((G.1 (F a 0) 1).toInt) ((G99.1 a 1).toInt) ((G99.1 a 2).toInt) ((G99.1 a 3).toInt) ((G99.1 a 4).toInt) := by
  have hb : ¬ cBl ((tC (G.2.1 (F (F a 0) 0)) ((G.1 (F a 0) 1).toInt)) ((G_8.1 a 2).toInt)) := by
    have := tC_f (G.2.1 (F (F a 0) 0)) ((G.1 (F a 0) 1).toInt) ((G_8.1 a 2).toInt)
    show ¬ (_ = (32 : Int))
    omega
  have hr : (G_8.1 a 2).toInt = rn cBl (tC (G.2.1 (F (F a 0) 0)) ((G.1 (F a 0) 1).toInt)) ((G.1 a 3).toInt) := (rn_eq ⟨by omega, pr, hb⟩).symm
  rw [d_G56_a_3] at oq99
  rw [d_G99_a_2]
  exact ⟨hr, hb, fun h => absurd h (by omega), fun _ _ => ⟨by omega, oq99⟩, fun _ h => absurd (show cLt _ from ⟨by omega, by omega⟩) h⟩
theorem v_X5_advance_109_6 {K : Nat → Nat} {F : Nat → Nat → Nat} (a : Nat) (G : XG) (G_8 : XG) (G75 : XG) (N8 : Nat) (x30 : Int32)
    (ha : K a = 7)
    (pr : ∀ j : Int, (G.1 a 3).toInt ≤ j → j < ((G_8.1 a 2).toInt) → cBl ((tC (G.2.1 (F (F a 0) 0)) ((G.1 (F a 0) 1).toInt)) j))
    (n0 : 0 ≤ ((G.1 (F a 0) 1).toInt) ∧ ((G.1 (F a 0) 1).toInt) ≤ 80)
    (s0 : 0 ≤ ((G.1 a 3).toInt) ∧ ((G.1 a 3).toInt) ≤ ((G.1 (F a 0) 1).toInt))
    (I8_0 : ((G.1 a 3).toInt) ≤ ((G_8.1 a 2).toInt) ∧ ((G_8.1 a 2).toInt) ≤ ((G.1 (F a 0) 1).toInt))
    (hm8 : 200 - ((G_8.1 a 2).toInt) < (((N8) + 1 : Nat) : Int))
    (c19 : ¬ (((G.1 (F a 0) 1).toInt) ≤ ((G_8.1 a 2).toInt)))
    (t30 : x30.toInt = (tC (G.2.1 (F (F a 0) 0)) ((G.1 (F a 0) 1).toInt) ((G_8.1 a 2).toInt)))
    (c35 : x30.toInt ≠ (32 : Int))
    (c70 : ¬ (((G_8.1 a 2).toInt) < ((G.1 (F a 0) 1).toInt)))
    (d_G75_a_1 : G75.1 a 1 = 0)
    (d_G75_a_2 : G75.1 a 2 = G_8.1 a 2) :
    ((G75.1 a 2).toInt) = rn cBl (tC (G.2.1 (F (F a 0) 0)) ((G.1 (F a 0) 1).toInt)) ((G.1 a 3).toInt) ∧ TokI (tC (G.2.1 (F (F a 0) 0)) ((G.1 (F a 0) 1).toInt)) ((G.1 (F a 0) 1).toInt) ((G75.1 a 1).toInt) ((G75.1 a 2).toInt) ((G75.1 a 3).toInt) ((G75.1 a 4).toInt) := by
  have hb : ¬ cBl ((tC (G.2.1 (F (F a 0) 0)) ((G.1 (F a 0) 1).toInt)) ((G_8.1 a 2).toInt)) := by
    have := tC_f (G.2.1 (F (F a 0) 0)) ((G.1 (F a 0) 1).toInt) ((G_8.1 a 2).toInt)
    show ¬ (_ = (32 : Int))
    omega
  have hr : (G_8.1 a 2).toInt = rn cBl (tC (G.2.1 (F (F a 0) 0)) ((G.1 (F a 0) 1).toInt)) ((G.1 a 3).toInt) := (rn_eq ⟨by omega, pr, hb⟩).symm
  rw [d_G75_a_2, d_G75_a_1]
  exact ⟨hr, hb, fun _ => by decide, fun h => absurd h (by omega), fun h => absurd h (by omega)⟩
theorem v_X5_advance_48_7 {K : Nat → Nat} {F : Nat → Nat → Nat} (a : Nat) (G : XG) (G_8 : XG) (N8 : Nat) (x30 : Int32)
    (ha : K a = 7)
    (pr : ∀ j : Int, (G.1 a 3).toInt ≤ j → j < ((G_8.1 a 2).toInt) → cBl ((tC (G.2.1 (F (F a 0) 0)) ((G.1 (F a 0) 1).toInt)) j))
    (n0 : 0 ≤ ((G.1 (F a 0) 1).toInt) ∧ ((G.1 (F a 0) 1).toInt) ≤ 80)
    (s0 : 0 ≤ ((G.1 a 3).toInt) ∧ ((G.1 a 3).toInt) ≤ ((G.1 (F a 0) 1).toInt))
    (I8_0 : ((G.1 a 3).toInt) ≤ ((G_8.1 a 2).toInt) ∧ ((G_8.1 a 2).toInt) ≤ ((G.1 (F a 0) 1).toInt))
    (hm8 : 200 - ((G_8.1 a 2).toInt) < (((N8) + 1 : Nat) : Int))
    (c19 : ¬ (((G.1 (F a 0) 1).toInt) ≤ ((G_8.1 a 2).toInt)))
    (t30 : x30.toInt = (tC (G.2.1 (F (F a 0) 0)) ((G.1 (F a 0) 1).toInt) ((G_8.1 a 2).toInt)))
    (c35 : ¬ (x30.toInt ≠ (32 : Int))) :
    ∀ j : Int, (G.1 a 3).toInt ≤ j → j < (((G_8.1 a 2).toInt) + (1 : Int)) → cBl ((tC (G.2.1 (F (F a 0) 0)) ((G.1 (F a 0) 1).toInt)) j) := by
  intro j h1 h2
  by_cases e : j = (G_8.1 a 2).toInt
  · rw [e]; show _ = (32 : Int); omega
  · exact pr j h1 (by omega)
theorem v_X5_advance_5_8 {K : Nat → Nat} {F : Nat → Nat → Nat} (a : Nat) (G : XG)
    (ha : K a = 7)
    (n0 : 0 ≤ ((G.1 (F a 0) 1).toInt) ∧ ((G.1 (F a 0) 1).toInt) ≤ 80)
    (s0 : 0 ≤ ((G.1 a 3).toInt) ∧ ((G.1 a 3).toInt) ≤ ((G.1 (F a 0) 1).toInt)) :
    ∀ j : Int, (G.1 a 3).toInt ≤ j → j < ((G.1 a 3).toInt) → cBl ((tC (G.2.1 (F (F a 0) 0)) ((G.1 (F a 0) 1).toInt)) j) := by
  intro j h1 h2; exact absurd h1 (by omega)
theorem z_X8_length_1 (a0 : Int) : a0 = a0 := by omega
abbrev rm_X8_length : Room := { frames := 0, cells := 0, slots := 0, locals := 0 }
set_option maxHeartbeats 4000000 in
set_option maxRecDepth 100000 in
theorem c_X8_length (l : Launch) (E : XE) (K : Nat → Nat) (F : Nat → Nat → Nat) (G : XG) (h0 : Heap) (a : Nat) (ha : K a = 10) : Met l yX8_length (xw yX8_length cX8_length 1 (some .int)) rm_X8_length (va_Pc [.ref a] (XPh E K F G h0)) (XQ E (fun v (u : Unit) => ∃ r : Int32, v = .int r ∧ (r.toInt = ((G.1 a 1).toInt))) (fun _ H => H = h0)) 0 0 (xA E) := by
  refine x_enter (by decide) (Nat.le_of_ble_eq_true rfl) ?_
  intro p e s m args below meth c Q S hr hlk hnm hQ hP ls hl
  obtain ⟨⟨hz, hK, hT⟩, hh⟩ := hP
  obtain ⟨hx, hb, -, -, -⟩ := id S
  have hS : va_S (xA E) s.heap s.heap [] := va_S.rf
  have hl : lv_has ls 1 [(0, .ref a)] := hl
  refine lv_aload_n hx hb dX8_length_0 rfl (lv_at hl 0 rfl) ?_
  refine gX8_1 S hK hT ha kf_X8_13 dX8_length_1 (v := (G.1 a 1)) rfl (?_)
  exact x_ri hx hb hr hlk hQ (Nat.le_of_ble_eq_true rfl) (Nat.le_of_ble_eq_true rfl) hS dX8_length_4 () ⟨_, rfl, (z_X8_length_1 ((G.1 a 1).toInt))⟩ hh

theorem z_X8_signAt_1 (a0 : Int) (a1 : Int) (a2 : Int) (a3 : Int) (h0 : ((0 ≤ a0 ∧ a0 < a1) ∧ a3 = a2) ∨ (¬ (0 ≤ a0 ∧ a0 < a1) ∧ a3 = 0)) (h1 : a0 < 0) : (0 : Int) = a3 := by omega
theorem z_X8_signAt_2 (a0 : Int) (a1 : Int) (a2 : Int) (a3 : Int) (h0 : ((0 ≤ a0 ∧ a0 < a1) ∧ a3 = a2) ∨ (¬ (0 ≤ a0 ∧ a0 < a1) ∧ a3 = 0)) (h1 : a1 ≤ a0) : (0 : Int) = a3 := by omega
theorem z_X8_signAt_3 (a0 : Int) (a1 : Int) (a2 : Int) (h0 : 0 ≤ a1 ∧ a1 ≤ 80) (h1 : ¬ (a1 ≤ a0)) (h2 : (80 : Int) ≤ a0) : (0 : Int) = a2 := by omega
theorem z_X8_signAt_4 (a0 : Int) (h0 : ¬ (a0 < 0)) (h1 : ¬ ((80 : Int) ≤ a0)) : 0 ≤ a0 ∧ a0 < ((80 : Nat) : Int) := by omega
theorem z_X8_signAt_5 (a0 : Int) (a1 : Int) (a2 : Int) (a3 : Int) (h0 : ((0 ≤ a0 ∧ a0 < a1) ∧ a3 = a2) ∨ (¬ (0 ≤ a0 ∧ a0 < a1) ∧ a3 = 0)) (h1 : ¬ (a0 < 0)) (h2 : ¬ (a1 ≤ a0)) : a2 = a3 := by omega
abbrev rm_X8_signAt : Room := { frames := 0, cells := 0, slots := 0, locals := 0 }
set_option maxHeartbeats 4000000 in
set_option maxRecDepth 100000 in
theorem c_X8_signAt (l : Launch) (E : XE) (K : Nat → Nat) (F : Nat → Nat → Nat) (G : XG) (h0 : Heap) (a : Nat) (p0 : Int32) (ha : K a = 10) (n0 : 0 ≤ ((G.1 a 1).toInt) ∧ ((G.1 a 1).toInt) ≤ 80) : Met l yX8_signAt (xw yX8_signAt cX8_signAt 2 (some .char)) rm_X8_signAt (va_Pc [.ref a, .int p0] (XPh E K F G h0)) (XQ E (fun v (u : Unit) => ∃ r : Int32, v = .int r ∧ xok 1 r ∧ (r.toInt = (tC (G.2.1 (F a 0)) ((G.1 a 1).toInt) (p0.toInt)))) (fun _ H => H = h0)) 0 0 (xA E) := by
  refine x_enter (by decide) (Nat.le_of_ble_eq_true rfl) ?_
  intro p e s m args below meth c Q S hr hlk hnm hQ hP ls hl
  obtain ⟨⟨hz, hK, hT⟩, hh⟩ := hP
  obtain ⟨hx, hb, -, -, -⟩ := id S
  have hS : va_S (xA E) s.heap s.heap [] := va_S.rf
  have hl : lv_has ls 2 [(0, .ref a), (1, .int p0)] := hl
  obtain ⟨hk9999, hj9999⟩ := fkX8_0 hT ha
  have z0 : ((0 ≤ p0.toInt ∧ p0.toInt < ((G.1 a 1).toInt)) ∧ (tC (G.2.1 (F a 0)) ((G.1 a 1).toInt) (p0.toInt)) = (aI (G.2.1 (F a 0)) (p0.toInt))) ∨ (¬ (0 ≤ p0.toInt ∧ p0.toInt < ((G.1 a 1).toInt)) ∧ (tC (G.2.1 (F a 0)) ((G.1 a 1).toInt) (p0.toInt)) = 0) := tC_f _ _ _
  refine lv_iload_n hx hb dX8_signAt_0 rfl (lv_at hl 1 rfl) ?_
  refine xi_zlt (tgt := 27) hx hb (rfl : Int32.toInt p0 = p0.toInt) dX8_signAt_1 (by decide) (fun c1 => ?_) (fun c1 => ?_)
  · refine lv_iconst (v := 0) hx hb dX8_signAt_27 (by decide) ?_
    exact x_rz hx hb hr rfl hlk hQ (Nat.le_of_ble_eq_true rfl) (Nat.le_of_ble_eq_true rfl) hS dX8_signAt_28 () ⟨_, rfl, rfl, (z_X8_signAt_1 p0.toInt ((G.1 a 1).toInt) (aI (G.2.1 (F a 0)) (p0.toInt)) (tC (G.2.1 (F a 0)) ((G.1 a 1).toInt) (p0.toInt)) z0 c1)⟩ hh
  · refine lv_iload_n hx hb dX8_signAt_4 rfl (lv_at hl 1 rfl) ?_
    refine lv_aload_n hx hb dX8_signAt_5 rfl (lv_at hl 0 rfl) ?_
    refine gX8_1 S hK hT ha kf_X8_13 dX8_signAt_6 (v := (G.1 a 1)) rfl (?_)
    refine xi_cge (tgt := 27) hx hb (rfl : Int32.toInt p0 = p0.toInt) (rfl : Int32.toInt (G.1 a 1) = ((G.1 a 1).toInt)) dX8_signAt_9 (by decide) (fun c9 => ?_) (fun c9 => ?_)
    · refine lv_iconst (v := 0) hx hb dX8_signAt_27 (by decide) ?_
      exact x_rz hx hb hr rfl hlk hQ (Nat.le_of_ble_eq_true rfl) (Nat.le_of_ble_eq_true rfl) hS dX8_signAt_28 () ⟨_, rfl, rfl, (z_X8_signAt_2 p0.toInt ((G.1 a 1).toInt) (aI (G.2.1 (F a 0)) (p0.toInt)) (tC (G.2.1 (F a 0)) ((G.1 a 1).toInt) (p0.toInt)) z0 c9)⟩ hh
    · refine lv_iload_n hx hb dX8_signAt_12 rfl (lv_at hl 1 rfl) ?_
      refine lv_bipush (v := 80) hx hb dX8_signAt_13 (by decide) ?_
      refine xi_cge (tgt := 27) hx hb (rfl : Int32.toInt p0 = p0.toInt) ((by decide) : Int32.toInt 80 = (80 : Int)) dX8_signAt_15 (by decide) (fun c15 => ?_) (fun c15 => ?_)
      · refine lv_iconst (v := 0) hx hb dX8_signAt_27 (by decide) ?_
        exact x_rz hx hb hr rfl hlk hQ (Nat.le_of_ble_eq_true rfl) (Nat.le_of_ble_eq_true rfl) hS dX8_signAt_28 () ⟨_, rfl, rfl, (z_X8_signAt_3 p0.toInt ((G.1 a 1).toInt) (tC (G.2.1 (F a 0)) ((G.1 a 1).toInt) (p0.toInt)) n0 c9 c15)⟩ hh
      · refine lv_aload_n hx hb dX8_signAt_18 rfl (lv_at hl 0 rfl) ?_
        refine gX8_0 S hK hT ha kf_X8_9 dX8_signAt_19 (fun _ _ => ?_)
        refine lv_iload_n hx hb dX8_signAt_22 rfl (lv_at hl 1 rfl) ?_
        refine al_1 S hK hT hk9999 ar_25 (by decide) (z_X8_signAt_4 p0.toInt c1 c15) dX8_signAt_23 (fun x23 hv23 o23 => ?_)
        have hv23 : x23.toInt = (aI (G.2.1 (F a 0)) (p0.toInt)) := hv23.trans (by rw [(rfl : Int32.toInt p0 = p0.toInt)])
        refine lv_goto (tgt := 28) hx hb dX8_signAt_24 (by decide) ?_
        exact x_rz hx hb hr o23 hlk hQ (Nat.le_of_ble_eq_true rfl) (Nat.le_of_ble_eq_true rfl) hS dX8_signAt_28 () ⟨_, rfl, o23, (by rw [(hv23 : Int32.toInt x23 = (aI (G.2.1 (F a 0)) (p0.toInt)))] <;> exact (z_X8_signAt_5 p0.toInt ((G.1 a 1).toInt) (aI (G.2.1 (F a 0)) (p0.toInt)) (tC (G.2.1 (F a 0)) ((G.1 a 1).toInt) (p0.toInt)) z0 c1 c9))⟩ hh

theorem z_X8_shorten_1 (a0 : Int) (a1 : Int) (h0 : a0 < 0) : ((a0 < 0 ∨ a1 < a0) ∧ (0 : Int) = 0 ∧ a1 = a1) ∨ ((0 ≤ a0 ∧ a0 ≤ a1) ∧ (0 : Int) = 1 ∧ a1 = a0) := by omega
theorem z_X8_shorten_2 (a0 : Int) (a1 : Int) (h0 : ¬ (a0 < 0)) (h1 : a0 ≤ a1) : ((a0 < 0 ∨ a1 < a0) ∧ (1 : Int) = 0 ∧ a0 = a1) ∨ ((0 ≤ a0 ∧ a0 ≤ a1) ∧ (1 : Int) = 1 ∧ a0 = a0) := by omega
theorem z_X8_shorten_3 (a0 : Int) (a1 : Int) (h0 : ¬ (a0 ≤ a1)) : ((a0 < 0 ∨ a1 < a0) ∧ (0 : Int) = 0 ∧ a1 = a1) ∨ ((0 ≤ a0 ∧ a0 ≤ a1) ∧ (0 : Int) = 1 ∧ a1 = a0) := by omega
abbrev rm_X8_shorten : Room := { frames := 0, cells := 0, slots := 0, locals := 0 }
set_option maxHeartbeats 4000000 in
set_option maxRecDepth 100000 in
theorem c_X8_shorten (l : Launch) (E : XE) (K : Nat → Nat) (F : Nat → Nat → Nat) (G : XG) (a : Nat) (p0 : Int32) (ha : K a = 10) : Met l yX8_shorten (xw yX8_shorten cX8_shorten 2 (some .boolean)) rm_X8_shorten (va_Pc [.ref a, .int p0] (XP E K F G)) (XQ E (fun v (u : XG) => ∃ r : Int32, v = .int r ∧ (r = 0 ∨ r = 1) ∧ XFr [(a, 1)] [] [] G u ∧ (((p0.toInt < 0 ∨ ((G.1 a 1).toInt) < p0.toInt) ∧ r.toInt = 0 ∧ ((u.1 a 1).toInt) = ((G.1 a 1).toInt)) ∨ ((0 ≤ p0.toInt ∧ p0.toInt ≤ ((G.1 a 1).toInt)) ∧ r.toInt = 1 ∧ ((u.1 a 1).toInt) = p0.toInt))) (fun u H => TW E K F u H)) 0 0 (xA E) := by
  refine x_enter (by decide) (Nat.le_of_ble_eq_true rfl) ?_
  intro p e s m args below meth c Q S hr hlk hnm hQ hP ls hl
  obtain ⟨hz, hK, hT⟩ := hP
  obtain ⟨hx, hb, -, -, -⟩ := id S
  obtain ⟨H, hT, hS, hgo⟩ : ∃ H : Heap, TW E K F G H ∧ va_S (xA E) s.heap H [] ∧ H = s.heap := ⟨_, hT, va_S.rf, rfl⟩
  rw [← hgo]
  have hl : lv_has ls 2 [(0, .ref a), (1, .int p0)] := hl
  refine lv_iload_n hx hb dX8_shorten_0 rfl (lv_at hl 1 rfl) ?_
  refine xi_zlt (tgt := 12) hx hb (rfl : Int32.toInt p0 = p0.toInt) dX8_shorten_1 (by decide) (fun c1 => ?_) (fun c1 => ?_)
  · refine lv_iconst (v := 0) hx hb dX8_shorten_12 (by decide) ?_
    exact x_rz hx hb hr (xnz (Or.inl rfl)) hlk hQ (Nat.le_of_ble_eq_true rfl) (Nat.le_of_ble_eq_true rfl) hS dX8_shorten_13 G ⟨_, rfl, (Or.inl rfl), XFr.rf, (z_X8_shorten_1 p0.toInt ((G.1 a 1).toInt) c1)⟩ hT
  · refine lv_iload_n hx hb dX8_shorten_4 rfl (lv_at hl 1 rfl) ?_
    refine lv_aload_n hx hb dX8_shorten_5 rfl (lv_at hl 0 rfl) ?_
    refine gX8_1 S hK hT ha kf_X8_13 dX8_shorten_6 (v := (G.1 a 1)) rfl (?_)
    refine xi_cle (tgt := 14) hx hb (rfl : Int32.toInt p0 = p0.toInt) (rfl : Int32.toInt (G.1 a 1) = ((G.1 a 1).toInt)) dX8_shorten_9 (by decide) (fun c9 => ?_) (fun c9 => ?_)
    · refine lv_aload_n hx hb dX8_shorten_14 rfl (lv_at hl 0 rfl) ?_
      refine lv_iload_n hx hb dX8_shorten_15 rfl (lv_at hl 1 rfl) ?_
      refine pX8_1 (v := p0) S hK hT hS ha kf_X8_13 dX8_shorten_16 (fun H locs hT hS => ?_)
      obtain ⟨G16, hG16⟩ : ∃ GG : XG, GG = dput G a 1 p0 := ⟨_, rfl⟩
      rw [← hG16] at hT
      refine lv_iconst (v := 1) hx hb dX8_shorten_19 (by decide) ?_
      exact x_rz hx hb hr (xnz (Or.inr rfl)) hlk hQ (Nat.le_of_ble_eq_true rfl) (Nat.le_of_ble_eq_true rfl) hS dX8_shorten_20 G16 ⟨_, rfl, (Or.inr rfl), (by rw [hG16]; exact XFr.dput XFr.rf (List.mem_of_getElem? (i := 0) rfl)), (by rw [(show (G16.1 a 1).toInt = p0.toInt from (congrArg Int32.toInt (ld_at hG16)).trans (rfl : Int32.toInt p0 = p0.toInt))] <;> exact (z_X8_shorten_2 p0.toInt ((G.1 a 1).toInt) c1 c9))⟩ hT
    · refine lv_iconst (v := 0) hx hb dX8_shorten_12 (by decide) ?_
      exact x_rz hx hb hr (xnz (Or.inl rfl)) hlk hQ (Nat.le_of_ble_eq_true rfl) (Nat.le_of_ble_eq_true rfl) hS dX8_shorten_13 G ⟨_, rfl, (Or.inl rfl), XFr.rf, (z_X8_shorten_3 p0.toInt ((G.1 a 1).toInt) c9)⟩ hT

theorem z_X8_addFour_1 (a0 : Int) (h0 : -8 ≤ a0 ∧ a0 ≤ 24) : ¬ (100 + a0 < ((0 : Nat) : Int)) := by omega
theorem z_X8_addFour_2 (a0 : Int) (a1 : Int) (a2 : Int) (a3 : Int) (h0 : 0 ≤ a2 ∧ a2 ≤ 80) (h1 : a1 = a2 + (4 : Int) ∨ a2 + (4 : Int) < -2147483648 ∨ 2147483648 ≤ a2 + (4 : Int)) (h2 : a1 ≤ (80 : Int)) (h3 : -8 ≤ a0 ∧ a0 ≤ 24) (h4 : 8 * (a3 - a2) = 24 - a0) (h5 : a0 < 0) : (76 < a2 ∧ (1 : Int) = 0 ∧ a3 = a2) ∨ (a2 ≤ 76 ∧ (1 : Int) = 1 ∧ a3 = a2 + 4) := by omega
theorem z_X8_addFour_3 (a0 : Int) (a1 : Int) (a2 : Int) (a3 : Int) (h0 : 0 ≤ a2 ∧ a2 ≤ 80) (h1 : -8 ≤ a0 ∧ a0 ≤ 24) (h2 : 8 * (a3 - a2) = 24 - a0) (h3 : a3 < 0) : a1 = (a0 + (-8)) := by omega
theorem z_X8_addFour_4 (a0 : Int) (a1 : Int) (a2 : Int) (h0 : 0 ≤ a1 ∧ a1 ≤ 80) (h1 : -8 ≤ a0 ∧ a0 ≤ 24) (h2 : 8 * (a2 - a1) = 24 - a0) (h3 : a2 < 0) : -8 ≤ (a0 + (-8)) ∧ (a0 + (-8)) ≤ 24 := by omega
theorem z_X8_addFour_5 (a0 : Int) (a1 : Int) (a2 : Int) (h0 : 0 ≤ a1 ∧ a1 ≤ 80) (h1 : -8 ≤ a0 ∧ a0 ≤ 24) (h2 : 8 * (a2 - a1) = 24 - a0) (h3 : a2 < 0) : 8 * (a2 - a1) = 24 - (a0 + (-8)) := by omega
theorem z_X8_addFour_6 (a0 : Int) (a1 : Nat) (h0 : 100 + a0 < ((a1 + 1 : Nat) : Int)) : 100 + (a0 + (-8)) < ((a1 : Nat) : Int) := by omega
theorem z_X8_addFour_7 (a0 : Int) (a1 : Int) (a2 : Int) (a3 : Int) (a4 : Int) (h0 : 0 ≤ a3 ∧ a3 ≤ 80) (h1 : a1 = a3 + (4 : Int) ∨ a3 + (4 : Int) < -2147483648 ∨ 2147483648 ≤ a3 + (4 : Int)) (h2 : a1 ≤ (80 : Int)) (h3 : 8 * (a4 - a3) = 24 - a0) (h4 : ¬ (a0 < 0)) (h5 : (80 : Int) ≤ a4) : a2 = (a0 + (-8)) := by omega
theorem z_X8_addFour_8 (a0 : Int) (h0 : -8 ≤ a0 ∧ a0 ≤ 24) (h1 : ¬ (a0 < 0)) : -8 ≤ (a0 + (-8)) ∧ (a0 + (-8)) ≤ 24 := by omega
theorem z_X8_addFour_9 (a0 : Int) (a1 : Int) (a2 : Int) (a3 : Int) (h0 : 0 ≤ a2 ∧ a2 ≤ 80) (h1 : a1 = a2 + (4 : Int) ∨ a2 + (4 : Int) < -2147483648 ∨ 2147483648 ≤ a2 + (4 : Int)) (h2 : a1 ≤ (80 : Int)) (h3 : 8 * (a3 - a2) = 24 - a0) (h4 : ¬ (a0 < 0)) (h5 : (80 : Int) ≤ a3) : 8 * (a3 - a2) = 24 - (a0 + (-8)) := by omega
theorem z_X8_addFour_12 (a0 : Int) (a1 : Int) (h0 : ¬ (a1 < 0)) (h1 : ¬ ((80 : Int) ≤ a1)) (h2 : a0 = (a1 + (1 : Int)) ∨ (a1 + (1 : Int)) < -2147483648 ∨ 2147483648 ≤ (a1 + (1 : Int))) : a0 = (a1 + (1 : Int)) := by omega
theorem z_X8_addFour_13 (a0 : Int) (a1 : Int) (h0 : -8 ≤ a0 ∧ a0 ≤ 24) (h1 : a1 = (a0 + (-8)) ∨ (a0 + (-8)) < -2147483648 ∨ 2147483648 ≤ (a0 + (-8))) : a1 = (a0 + (-8)) := by omega
theorem z_X8_addFour_15 (a0 : Int) (a1 : Int) (a2 : Int) (h0 : 8 * (a2 - a1) = 24 - a0) : 8 * ((a2 + (1 : Int)) - a1) = 24 - (a0 + (-8)) := by omega
theorem z_X8_addFour_17 (a0 : Int) : 8 * (a0 - a0) = 24 - (24 : Int) := by omega
theorem z_X8_addFour_18 (a0 : Int) (a1 : Int) (h0 : 0 ≤ a1 ∧ a1 ≤ 80) (h1 : a0 = a1 + (4 : Int) ∨ a1 + (4 : Int) < -2147483648 ∨ 2147483648 ≤ a1 + (4 : Int)) (h2 : ¬ (a0 ≤ (80 : Int))) : (76 < a1 ∧ (0 : Int) = 0 ∧ a1 = a1) ∨ (a1 ≤ 76 ∧ (0 : Int) = 1 ∧ a1 = a1 + 4) := by omega
abbrev rm_X8_addFour : Room := { frames := 0, cells := 0, slots := 0, locals := 0 }
set_option maxHeartbeats 4000000 in
set_option maxRecDepth 100000 in
theorem c_X8_addFour (l : Launch) (E : XE) (K : Nat → Nat) (F : Nat → Nat → Nat) (G : XG) (a : Nat) (p0 : Int32) (ha : K a = 10) (n0 : 0 ≤ ((G.1 a 1).toInt) ∧ ((G.1 a 1).toInt) ≤ 80) : Met l yX8_addFour (xw yX8_addFour cX8_addFour 3 (some .boolean)) rm_X8_addFour (va_Pc [.ref a, .int p0] (XP E K F G)) (XQ E (fun v (u : XG) => ∃ r : Int32, v = .int r ∧ (r = 0 ∨ r = 1) ∧ XFr [(a, 1)] [F a 0] [] G u ∧ ((76 < ((G.1 a 1).toInt) ∧ r.toInt = 0 ∧ ((u.1 a 1).toInt) = ((G.1 a 1).toInt)) ∨ (((G.1 a 1).toInt) ≤ 76 ∧ r.toInt = 1 ∧ ((u.1 a 1).toInt) = ((G.1 a 1).toInt) + 4)) ∧ ((r.toInt = 0 ∧ u.2.1 (F a 0) = (G.2.1 (F a 0))) ∨ (r.toInt = 1 ∧ ∀ z : Int, 0 ≤ z → aI (u.2.1 (F a 0)) z = if ((G.1 a 1).toInt) ≤ z ∧ z < ((G.1 a 1).toInt) + 4 then bqI p0 (24 - 8 * (z - ((G.1 a 1).toInt))) else aI (G.2.1 (F a 0)) z))) (fun u H => TW E K F u H)) 0 0 (xA E) := by
  refine x_enter (by decide) (Nat.le_of_ble_eq_true rfl) ?_
  intro p e s m args below meth c Q S hr hlk hnm hQ hP ls hl
  obtain ⟨hz, hK, hT⟩ := hP
  obtain ⟨hx, hb, -, -, -⟩ := id S
  obtain ⟨H, hT, hS, hgo⟩ : ∃ H : Heap, TW E K F G H ∧ va_S (xA E) s.heap H [] ∧ H = s.heap := ⟨_, hT, va_S.rf, rfl⟩
  rw [← hgo]
  have hl : lv_has ls 3 [(0, .ref a), (1, .int p0)] := hl
  obtain ⟨hk9999, hj9999⟩ := fkX8_0 hT ha
  refine lv_aload_n hx hb dX8_addFour_0 rfl (lv_at hl 0 rfl) ?_
  refine gX8_1 S hK hT ha kf_X8_13 dX8_addFour_1 (v := (G.1 a 1)) rfl (?_)
  refine lv_iconst (v := 4) hx hb dX8_addFour_4 (by decide) ?_
  refine xi_iadd hx hb (rfl : Int32.toInt (G.1 a 1) = ((G.1 a 1).toInt)) ((by decide) : Int32.toInt 4 = (4 : Int)) dX8_addFour_5 (fun x5 t5 => ?_)
  refine lv_bipush (v := 80) hx hb dX8_addFour_6 (by decide) ?_
  refine xi_cle (tgt := 13) hx hb (rfl : Int32.toInt x5 = x5.toInt) ((by decide) : Int32.toInt 80 = (80 : Int)) dX8_addFour_8 (by decide) (fun c8 => ?_) (fun c8 => ?_)
  · refine lv_bipush (v := 24) hx hb dX8_addFour_13 (by decide) ?_
    refine lv_istore_n (lv' := [(2, .int 24), (0, .ref a), (1, .int p0)]) hx hb dX8_addFour_15 rfl hl (by decide) rfl (fun ls hl => ?_)
    have L16 : ∀ (N16 : Nat) (l2_16 : Int32) (G_16 : XG) (H : Heap) (locs : List Loc) (ls : Array Slot), XFr [(a, 1)] [F a 0] [] G G_16 → (∀ z : Int, 0 ≤ z → aI (G_16.2.1 (F a 0)) z = if (G.1 a 1).toInt ≤ z ∧ z < ((G_16.1 a 1).toInt) then bqI p0 (24 - 8 * (z - (G.1 a 1).toInt)) else aI (G.2.1 (F a 0)) z) → -8 ≤ l2_16.toInt ∧ l2_16.toInt ≤ 24 → 8 * (((G_16.1 a 1).toInt) - ((G.1 a 1).toInt)) = 24 - l2_16.toInt → 100 + l2_16.toInt < ((N16 : Nat) : Int) → TW E K F G_16 H → va_S (xA E) s.heap H locs → lv_has ls 3 [(0, .ref a), (1, .int p0), (2, .int l2_16)] → W p l e rm_X8_addFour s m args below meth c H locs 0 0 Q (F0 m 16 ls []) := by
      intro N16
      induction N16 with
      | zero =>
        intro l2_16 G_16 H locs ls hF_16 pf I16_0 I16_1 hm16
        exact absurd hm16 (z_X8_addFour_1 l2_16.toInt I16_0)
      | succ N16 ih16 =>
        intro l2_16 G_16 H locs ls hF_16 pf I16_0 I16_1 hm16 hT hS hl
        refine lv_iload_n hx hb dX8_addFour_16 rfl (lv_at hl 2 rfl) ?_
        refine xi_zlt (tgt := 69) hx hb (rfl : Int32.toInt l2_16 = l2_16.toInt) dX8_addFour_17 (by decide) (fun c17 => ?_) (fun c17 => ?_)
        · refine lv_iconst (v := 1) hx hb dX8_addFour_69 (by decide) ?_
          exact x_rz hx hb hr (xnz (Or.inr rfl)) hlk hQ (Nat.le_of_ble_eq_true rfl) (Nat.le_of_ble_eq_true rfl) hS dX8_addFour_70 G_16 ⟨_, rfl, (Or.inr rfl), (XFr.call XFr.rf hF_16 (xm1 0 rfl xm0) (xm1 0 rfl xm0) xm0), (z_X8_addFour_2 l2_16.toInt x5.toInt ((G.1 a 1).toInt) ((G_16.1 a 1).toInt) n0 t5 c8 I16_0 I16_1 c17), (v_X8_addFour_70_1 (K := K) (F := F) a G G_16 p0 x5 l2_16 N16 ha pf n0 t5 c8 I16_0 I16_1 hm16 c17)⟩ hT
        · refine lv_aload_n hx hb dX8_addFour_20 rfl (lv_at hl 0 rfl) ?_
          refine gX8_1 S hK hT ha kf_X8_13 dX8_addFour_21 (v := (G_16.1 a 1)) rfl (?_)
          refine xi_zlt (tgt := 63) hx hb (rfl : Int32.toInt (G_16.1 a 1) = ((G_16.1 a 1).toInt)) dX8_addFour_24 (by decide) (fun c24 => ?_) (fun c24 => ?_)
          · refine xi_iinc (n := (-8)) (lv' := fun z9 => [(2, .int z9), (0, .ref a), (1, .int p0)]) (k := 2) hx hb (rfl : Int32.toInt l2_16 = l2_16.toInt) (by decide) dX8_addFour_63 hl rfl (by decide) (fun _ => rfl) (fun x63 ls t63 hl => ?_)
            have e63 : x63.toInt = (l2_16.toInt + (-8)) := (z_X8_addFour_3 l2_16.toInt x63.toInt ((G.1 a 1).toInt) ((G_16.1 a 1).toInt) n0 I16_0 I16_1 c24)
            have hl : lv_has ls 3 [(2, .int x63), (0, .ref a), (1, .int p0)] := hl
            refine lv_goto (tgt := 16) hx hb dX8_addFour_66 (by decide) ?_
            exact ih16 x63 G_16 _ _ _ (XFr.call XFr.rf hF_16 (xm1 0 rfl xm0) (xm1 0 rfl xm0) xm0) (v_X8_addFour_66_2 (K := K) (F := F) a G G_16 p0 l2_16 x5 N16 ha n0 t5 c8 I16_0 I16_1 hm16 c17 c24) (by rw [(e63 : Int32.toInt x63 = (l2_16.toInt + (-8)))] <;> exact (z_X8_addFour_4 l2_16.toInt ((G.1 a 1).toInt) ((G_16.1 a 1).toInt) n0 I16_0 I16_1 c24)) (by rw [(e63 : Int32.toInt x63 = (l2_16.toInt + (-8)))] <;> exact (z_X8_addFour_5 l2_16.toInt ((G.1 a 1).toInt) ((G_16.1 a 1).toInt) n0 I16_0 I16_1 c24)) (by rw [(e63 : Int32.toInt x63 = (l2_16.toInt + (-8)))] <;> exact (z_X8_addFour_6 l2_16.toInt N16 hm16)) hT hS (lv_sub hl [1, 2, 0] rfl)
          · refine lv_aload_n hx hb dX8_addFour_27 rfl (lv_at hl 0 rfl) ?_
            refine gX8_1 S hK hT ha kf_X8_13 dX8_addFour_28 (v := (G_16.1 a 1)) rfl (?_)
            refine lv_bipush (v := 80) hx hb dX8_addFour_31 (by decide) ?_
            refine xi_cge (tgt := 63) hx hb (rfl : Int32.toInt (G_16.1 a 1) = ((G_16.1 a 1).toInt)) ((by decide) : Int32.toInt 80 = (80 : Int)) dX8_addFour_33 (by decide) (fun c33 => ?_) (fun c33 => ?_)
            · refine xi_iinc (n := (-8)) (lv' := fun z9 => [(2, .int z9), (0, .ref a), (1, .int p0)]) (k := 2) hx hb (rfl : Int32.toInt l2_16 = l2_16.toInt) (by decide) dX8_addFour_63 hl rfl (by decide) (fun _ => rfl) (fun x63 ls t63 hl => ?_)
              have e63 : x63.toInt = (l2_16.toInt + (-8)) := (z_X8_addFour_7 l2_16.toInt x5.toInt x63.toInt ((G.1 a 1).toInt) ((G_16.1 a 1).toInt) n0 t5 c8 I16_1 c17 c33)
              have hl : lv_has ls 3 [(2, .int x63), (0, .ref a), (1, .int p0)] := hl
              refine lv_goto (tgt := 16) hx hb dX8_addFour_66 (by decide) ?_
              exact ih16 x63 G_16 _ _ _ (XFr.call XFr.rf hF_16 (xm1 0 rfl xm0) (xm1 0 rfl xm0) xm0) (v_X8_addFour_66_3 (K := K) (F := F) a G G_16 p0 l2_16 x5 N16 ha n0 t5 c8 I16_0 I16_1 hm16 c17 c24 c33) (by rw [(e63 : Int32.toInt x63 = (l2_16.toInt + (-8)))] <;> exact (z_X8_addFour_8 l2_16.toInt I16_0 c17)) (by rw [(e63 : Int32.toInt x63 = (l2_16.toInt + (-8)))] <;> exact (z_X8_addFour_9 l2_16.toInt x5.toInt ((G.1 a 1).toInt) ((G_16.1 a 1).toInt) n0 t5 c8 I16_1 c17 c33)) (by rw [(e63 : Int32.toInt x63 = (l2_16.toInt + (-8)))] <;> exact (z_X8_addFour_6 l2_16.toInt N16 hm16)) hT hS (lv_sub hl [1, 2, 0] rfl)
            · refine lv_aload_n hx hb dX8_addFour_36 rfl (lv_at hl 0 rfl) ?_
              refine gX8_0 S hK hT ha kf_X8_9 dX8_addFour_37 (fun _ _ => ?_)
              refine lv_aload_n hx hb dX8_addFour_40 rfl (lv_at hl 0 rfl) ?_
              refine gX8_1 S hK hT ha kf_X8_13 dX8_addFour_41 (v := (G_16.1 a 1)) rfl (?_)
              refine lv_iload_n hx hb dX8_addFour_44 rfl (lv_at hl 1 rfl) ?_
              refine lv_iload_n hx hb dX8_addFour_45 rfl (lv_at hl 2 rfl) ?_
              refine lv_iushr hx hb dX8_addFour_46 rfl (lv_topi (fun x46 eb46 => ?_))
              refine lv_sipush (v := 255) hx hb dX8_addFour_47 (by decide) ?_
              refine lv_iand hx hb dX8_addFour_50 (lv_topi (fun x50 he50 => ?_))
              refine lv_i2c hx hb dX8_addFour_51 rfl (lv_topi (fun x51 ec51 => ?_))
              refine as_1 (x := x51) S hK hT hS hk9999 ar_25 aw_25 (by decide) (z_X8_signAt_4 ((G_16.1 a 1).toInt) c24 c33) dX8_addFour_52 (fun H locs hT hS => ?_)
              rw [(xnar1 (by rw [ec51]; exact pk_nc _))] at hT
              obtain ⟨G52, hG52⟩ : ∃ GG : XG, GG = cput G_16 (F a 0) (G_16.1 a 1).toNatClampNeg x51 := ⟨_, rfl⟩
              rw [← hG52] at hT
              refine lv_aload_n hx hb dX8_addFour_53 rfl (lv_at hl 0 rfl) ?_
              refine lv_dup hx hb dX8_addFour_54 rfl ?_
              refine gX8_1 S hK hT ha kf_X8_13 dX8_addFour_55 (v := (G_16.1 a 1)) (lc_d hG52) (?_)
              refine lv_iconst (v := 1) hx hb dX8_addFour_58 (by decide) ?_
              refine xi_iadd hx hb (rfl : Int32.toInt (G_16.1 a 1) = ((G_16.1 a 1).toInt)) ((by decide) : Int32.toInt 1 = (1 : Int)) dX8_addFour_59 (fun x59 t59 => ?_)
              have e59 : x59.toInt = (((G_16.1 a 1).toInt) + (1 : Int)) := (z_X8_addFour_12 x59.toInt ((G_16.1 a 1).toInt) c24 c33 t59)
              refine pX8_1 (v := x59) S hK hT hS ha kf_X8_13 dX8_addFour_60 (fun H locs hT hS => ?_)
              obtain ⟨G60, hG60⟩ : ∃ GG : XG, GG = dput G52 a 1 x59 := ⟨_, rfl⟩
              rw [← hG60] at hT
              refine xi_iinc (n := (-8)) (lv' := fun z9 => [(2, .int z9), (0, .ref a), (1, .int p0)]) (k := 2) hx hb (rfl : Int32.toInt l2_16 = l2_16.toInt) (by decide) dX8_addFour_63 hl rfl (by decide) (fun _ => rfl) (fun x63 ls t63 hl => ?_)
              have e63 : x63.toInt = (l2_16.toInt + (-8)) := (z_X8_addFour_13 l2_16.toInt x63.toInt I16_0 t63)
              have hl : lv_has ls 3 [(2, .int x63), (0, .ref a), (1, .int p0)] := hl
              refine lv_goto (tgt := 16) hx hb dX8_addFour_66 (by decide) ?_
              exact ih16 x63 G60 _ _ _ (by rw [hG60]; exact XFr.dput (by rw [hG52]; exact XFr.cput (XFr.call XFr.rf hF_16 (xm1 0 rfl xm0) (xm1 0 rfl xm0) xm0) (List.mem_of_getElem? (i := 0) rfl)) (List.mem_of_getElem? (i := 0) rfl)) (by rw [(show (G60.1 a 1).toInt = (((G_16.1 a 1).toInt) + (1 : Int)) from (congrArg Int32.toInt (ld_at hG60)).trans (e59 : Int32.toInt x59 = (((G_16.1 a 1).toInt) + (1 : Int)))), (show G60.2.1 (F a 0) = G52.2.1 (F a 0) from (ld_c hG60))] <;> exact (v_X8_addFour_66_4 (K := K) (F := F) a G G_16 G52 x51 p0 x46 l2_16 x50 x5 N16 ha hG52 pf eb46 he50 ec51 n0 t5 c8 I16_0 I16_1 hm16 c17 c24 c33)) (by rw [(e63 : Int32.toInt x63 = (l2_16.toInt + (-8)))] <;> exact (z_X8_addFour_8 l2_16.toInt I16_0 c17)) (by rw [(e63 : Int32.toInt x63 = (l2_16.toInt + (-8))), (show (G60.1 a 1).toInt = (((G_16.1 a 1).toInt) + (1 : Int)) from (congrArg Int32.toInt (ld_at hG60)).trans (e59 : Int32.toInt x59 = (((G_16.1 a 1).toInt) + (1 : Int))))] <;> exact (z_X8_addFour_15 l2_16.toInt ((G.1 a 1).toInt) ((G_16.1 a 1).toInt) I16_1)) (by rw [(e63 : Int32.toInt x63 = (l2_16.toInt + (-8)))] <;> exact (z_X8_addFour_6 l2_16.toInt N16 hm16)) hT hS (lv_sub hl [1, 2, 0] rfl)
    exact L16 4294967297 24 G _ _ _ XFr.rf (v_X8_addFour_15_5 (K := K) (F := F) a G x5 p0 ha n0 t5 c8) (by decide) (z_X8_addFour_17 ((G.1 a 1).toInt)) (by decide) hT hS (lv_sub hl [1, 2, 0] rfl)
  · refine lv_iconst (v := 0) hx hb dX8_addFour_11 (by decide) ?_
    exact x_rz hx hb hr (xnz (Or.inl rfl)) hlk hQ (Nat.le_of_ble_eq_true rfl) (Nat.le_of_ble_eq_true rfl) hS dX8_addFour_12 G ⟨_, rfl, (Or.inl rfl), XFr.rf, (z_X8_addFour_18 x5.toInt ((G.1 a 1).toInt) n0 t5 c8), (v_X8_addFour_12_6 (F := F) a G p0)⟩ hT

theorem z_X5_isLetter_1 (a0 : Int) (h0 : a0 < (97 : Int)) : ((0 : Int) = 1 ∧ 97 ≤ a0 ∧ a0 ≤ 122) ∨ ((0 : Int) = 0 ∧ (a0 < 97 ∨ 122 < a0)) := by omega
theorem z_X5_isLetter_2 (a0 : Int) (h0 : (122 : Int) < a0) : ((0 : Int) = 1 ∧ 97 ≤ a0 ∧ a0 ≤ 122) ∨ ((0 : Int) = 0 ∧ (a0 < 97 ∨ 122 < a0)) := by omega
theorem z_X5_isLetter_3 (a0 : Int) (h0 : ¬ (a0 < (97 : Int))) (h1 : ¬ ((122 : Int) < a0)) : ((1 : Int) = 1 ∧ 97 ≤ a0 ∧ a0 ≤ 122) ∨ ((1 : Int) = 0 ∧ (a0 < 97 ∨ 122 < a0)) := by omega
abbrev rm_X5_isLetter : Room := { frames := 0, cells := 0, slots := 0, locals := 0 }
set_option maxHeartbeats 4000000 in
set_option maxRecDepth 100000 in
theorem c_X5_isLetter (l : Launch) (E : XE) (K : Nat → Nat) (F : Nat → Nat → Nat) (G : XG) (h0 : Heap) (p0 : Int32)  : Met l yX5_isLetter (xw yX5_isLetter cX5_isLetter 1 (some .boolean)) rm_X5_isLetter (va_Pc [.int p0] (XPh E K F G h0)) (XQ E (fun v (u : Unit) => ∃ r : Int32, v = .int r ∧ (r = 0 ∨ r = 1) ∧ ((r.toInt = 1 ∧ 97 ≤ p0.toInt ∧ p0.toInt ≤ 122) ∨ (r.toInt = 0 ∧ (p0.toInt < 97 ∨ 122 < p0.toInt)))) (fun _ H => H = h0)) 0 0 (xA E) := by
  refine x_enter (by decide) (Nat.le_of_ble_eq_true rfl) ?_
  intro p e s m args below meth c Q S hr hlk hnm hQ hP ls hl
  obtain ⟨⟨hz, hK, hT⟩, hh⟩ := hP
  obtain ⟨hx, hb, -, -, -⟩ := id S
  have hS : va_S (xA E) s.heap s.heap [] := va_S.rf
  have hl : lv_has ls 1 [(0, .int p0)] := hl
  refine lv_iload_n hx hb dX5_isLetter_0 rfl (lv_at hl 0 rfl) ?_
  refine lv_bipush (v := 97) hx hb dX5_isLetter_1 (by decide) ?_
  refine xi_clt (tgt := 16) hx hb (rfl : Int32.toInt p0 = p0.toInt) ((by decide) : Int32.toInt 97 = (97 : Int)) dX5_isLetter_3 (by decide) (fun c3 => ?_) (fun c3 => ?_)
  · refine lv_iconst (v := 0) hx hb dX5_isLetter_16 (by decide) ?_
    exact x_rz hx hb hr (xnz (Or.inl rfl)) hlk hQ (Nat.le_of_ble_eq_true rfl) (Nat.le_of_ble_eq_true rfl) hS dX5_isLetter_17 () ⟨_, rfl, (Or.inl rfl), (z_X5_isLetter_1 p0.toInt c3)⟩ hh
  · refine lv_iload_n hx hb dX5_isLetter_6 rfl (lv_at hl 0 rfl) ?_
    refine lv_bipush (v := 122) hx hb dX5_isLetter_7 (by decide) ?_
    refine xi_cgt (tgt := 16) hx hb (rfl : Int32.toInt p0 = p0.toInt) ((by decide) : Int32.toInt 122 = (122 : Int)) dX5_isLetter_9 (by decide) (fun c9 => ?_) (fun c9 => ?_)
    · refine lv_iconst (v := 0) hx hb dX5_isLetter_16 (by decide) ?_
      exact x_rz hx hb hr (xnz (Or.inl rfl)) hlk hQ (Nat.le_of_ble_eq_true rfl) (Nat.le_of_ble_eq_true rfl) hS dX5_isLetter_17 () ⟨_, rfl, (Or.inl rfl), (z_X5_isLetter_2 p0.toInt c9)⟩ hh
    · refine lv_iconst (v := 1) hx hb dX5_isLetter_12 (by decide) ?_
      refine lv_goto (tgt := 17) hx hb dX5_isLetter_13 (by decide) ?_
      exact x_rz hx hb hr (xnz (Or.inr rfl)) hlk hQ (Nat.le_of_ble_eq_true rfl) (Nat.le_of_ble_eq_true rfl) hS dX5_isLetter_17 () ⟨_, rfl, (Or.inr rfl), (z_X5_isLetter_3 p0.toInt c3 c9)⟩ hh

theorem z_X5_isDigit_1 (a0 : Int) (h0 : a0 < (48 : Int)) : ((0 : Int) = 1 ∧ 48 ≤ a0 ∧ a0 ≤ 57) ∨ ((0 : Int) = 0 ∧ (a0 < 48 ∨ 57 < a0)) := by omega
theorem z_X5_isDigit_2 (a0 : Int) (h0 : (57 : Int) < a0) : ((0 : Int) = 1 ∧ 48 ≤ a0 ∧ a0 ≤ 57) ∨ ((0 : Int) = 0 ∧ (a0 < 48 ∨ 57 < a0)) := by omega
theorem z_X5_isDigit_3 (a0 : Int) (h0 : ¬ (a0 < (48 : Int))) (h1 : ¬ ((57 : Int) < a0)) : ((1 : Int) = 1 ∧ 48 ≤ a0 ∧ a0 ≤ 57) ∨ ((1 : Int) = 0 ∧ (a0 < 48 ∨ 57 < a0)) := by omega
abbrev rm_X5_isDigit : Room := { frames := 0, cells := 0, slots := 0, locals := 0 }
set_option maxHeartbeats 4000000 in
set_option maxRecDepth 100000 in
theorem c_X5_isDigit (l : Launch) (E : XE) (K : Nat → Nat) (F : Nat → Nat → Nat) (G : XG) (h0 : Heap) (p0 : Int32)  : Met l yX5_isDigit (xw yX5_isDigit cX5_isDigit 1 (some .boolean)) rm_X5_isDigit (va_Pc [.int p0] (XPh E K F G h0)) (XQ E (fun v (u : Unit) => ∃ r : Int32, v = .int r ∧ (r = 0 ∨ r = 1) ∧ ((r.toInt = 1 ∧ 48 ≤ p0.toInt ∧ p0.toInt ≤ 57) ∨ (r.toInt = 0 ∧ (p0.toInt < 48 ∨ 57 < p0.toInt)))) (fun _ H => H = h0)) 0 0 (xA E) := by
  refine x_enter (by decide) (Nat.le_of_ble_eq_true rfl) ?_
  intro p e s m args below meth c Q S hr hlk hnm hQ hP ls hl
  obtain ⟨⟨hz, hK, hT⟩, hh⟩ := hP
  obtain ⟨hx, hb, -, -, -⟩ := id S
  have hS : va_S (xA E) s.heap s.heap [] := va_S.rf
  have hl : lv_has ls 1 [(0, .int p0)] := hl
  refine lv_iload_n hx hb dX5_isDigit_0 rfl (lv_at hl 0 rfl) ?_
  refine lv_bipush (v := 48) hx hb dX5_isDigit_1 (by decide) ?_
  refine xi_clt (tgt := 16) hx hb (rfl : Int32.toInt p0 = p0.toInt) ((by decide) : Int32.toInt 48 = (48 : Int)) dX5_isDigit_3 (by decide) (fun c3 => ?_) (fun c3 => ?_)
  · refine lv_iconst (v := 0) hx hb dX5_isDigit_16 (by decide) ?_
    exact x_rz hx hb hr (xnz (Or.inl rfl)) hlk hQ (Nat.le_of_ble_eq_true rfl) (Nat.le_of_ble_eq_true rfl) hS dX5_isDigit_17 () ⟨_, rfl, (Or.inl rfl), (z_X5_isDigit_1 p0.toInt c3)⟩ hh
  · refine lv_iload_n hx hb dX5_isDigit_6 rfl (lv_at hl 0 rfl) ?_
    refine lv_bipush (v := 57) hx hb dX5_isDigit_7 (by decide) ?_
    refine xi_cgt (tgt := 16) hx hb (rfl : Int32.toInt p0 = p0.toInt) ((by decide) : Int32.toInt 57 = (57 : Int)) dX5_isDigit_9 (by decide) (fun c9 => ?_) (fun c9 => ?_)
    · refine lv_iconst (v := 0) hx hb dX5_isDigit_16 (by decide) ?_
      exact x_rz hx hb hr (xnz (Or.inl rfl)) hlk hQ (Nat.le_of_ble_eq_true rfl) (Nat.le_of_ble_eq_true rfl) hS dX5_isDigit_17 () ⟨_, rfl, (Or.inl rfl), (z_X5_isDigit_2 p0.toInt c9)⟩ hh
    · refine lv_iconst (v := 1) hx hb dX5_isDigit_12 (by decide) ?_
      refine lv_goto (tgt := 17) hx hb dX5_isDigit_13 (by decide) ?_
      exact x_rz hx hb hr (xnz (Or.inr rfl)) hlk hQ (Nat.le_of_ble_eq_true rfl) (Nat.le_of_ble_eq_true rfl) hS dX5_isDigit_17 () ⟨_, rfl, (Or.inr rfl), (z_X5_isDigit_3 p0.toInt c3 c9)⟩ hh

theorem z_X5_advanceWord_1 (a0 : Int) (a1 : Int) (a2 : Int) (h0 : a1 ≤ a2 ∧ a2 ≤ a0) (h1 : 0 ≤ a0 ∧ a0 ≤ 80) : ¬ (200 - a2 < ((0 : Nat) : Int)) := by omega
theorem z_X5_advanceWord_2 (a0 : Int) (a1 : Int) (a2 : Int) (h0 : a1 ≤ a2 ∧ a2 ≤ a0) : (1 : Int) = 1 ∧ a1 ≤ a2 ∧ a2 ≤ a0 := by omega
theorem z_X5_advanceWord_5 (a0 : Int) (a1 : Int) (a2 : Int) (h0 : 0 ≤ a1 ∧ a1 ≤ 80) (h1 : ¬ (a1 ≤ a2)) (h2 : a0 = (a2 + (1 : Int)) ∨ (a2 + (1 : Int)) < -2147483648 ∨ 2147483648 ≤ (a2 + (1 : Int))) (h3 : -2147483648 ≤ a2 ∧ a2 < 2147483648) : a0 = (a2 + (1 : Int)) := by omega
theorem z_X5_advanceWord_6 (a0 : Int) (a1 : Int) (a2 : Int) (h0 : a1 ≤ a2 ∧ a2 ≤ a0) (h1 : ¬ (a0 ≤ a2)) : a1 ≤ (a2 + (1 : Int)) ∧ (a2 + (1 : Int)) ≤ a0 := by omega
theorem z_X5_advanceWord_7 (a0 : Nat) (a1 : Int) (h0 : 200 - a1 < ((a0 + 1 : Nat) : Int)) : 200 - (a1 + (1 : Int)) < ((a0 : Nat) : Int) := by omega
theorem z_X5_advanceWord_8 (a0 : Int) (a1 : Int) (h0 : 0 ≤ a1 ∧ a1 ≤ a0) : a1 ≤ a1 ∧ a1 ≤ a0 := by omega
theorem z_X5_advanceWord_9 (a0 : Int) (a1 : Int) (h0 : 0 ≤ a1 ∧ a1 ≤ a0) : 200 - a1 < ((4294967297 : Nat) : Int) := by omega
abbrev rm_X5_advanceWord : Room := { frames := 1, cells := 0, slots := 0, locals := 21 }
set_option maxHeartbeats 4000000 in
set_option maxRecDepth 100000 in
theorem c_X5_advanceWord (l : Launch) (E : XE) (K : Nat → Nat) (F : Nat → Nat → Nat) (G : XG) (a : Nat) (ha : K a = 7) (n0 : 0 ≤ ((G.1 (F a 0) 1).toInt) ∧ ((G.1 (F a 0) 1).toInt) ≤ 80) (s0 : 0 ≤ ((G.1 a 3).toInt) ∧ ((G.1 a 3).toInt) ≤ ((G.1 (F a 0) 1).toInt)) : Met l yX5_advanceWord (xw yX5_advanceWord cX5_advanceWord 1 none) rm_X5_advanceWord (va_Pc [.ref a] (XP E K F G)) (XQv E (fun (u : XG) => XFr [(a, 1), (a, 3)] [] [] G u ∧ (((u.1 a 1).toInt) = 1 ∧ ((G.1 a 3).toInt) ≤ ((u.1 a 3).toInt) ∧ ((u.1 a 3).toInt) ≤ ((G.1 (F a 0) 1).toInt)) ∧ (((u.1 a 3).toInt) = rn cLt (tC (G.2.1 (F (F a 0) 0)) ((G.1 (F a 0) 1).toInt)) ((G.1 a 3).toInt))) (fun u H => TW E K F u H)) 0 0 (xA E) := by
  refine x_enter (by decide) (Nat.le_of_ble_eq_true rfl) ?_
  intro p e s m args below meth c Q S hr hlk hnm hQ hP ls hl
  obtain ⟨hz, hK, hT⟩ := hP
  obtain ⟨hx, hb, -, -, -⟩ := id S
  obtain ⟨H, hT, hS, hgo⟩ : ∃ H : Heap, TW E K F G H ∧ va_S (xA E) s.heap H [] ∧ H = s.heap := ⟨_, hT, va_S.rf, rfl⟩
  rw [← hgo]
  have hl : lv_has ls 1 [(0, .ref a)] := hl
  obtain ⟨hk9999, hj9999⟩ := fkX5_0 hT ha
  obtain ⟨hk9999a, hj9999a⟩ := fkX8_0 hT hk9999
  refine lv_aload_n hx hb dX5_advanceWord_0 rfl (lv_at hl 0 rfl) ?_
  refine lv_iconst (v := 1) hx hb dX5_advanceWord_1 (by decide) ?_
  refine pX5_1 (v := 1) S hK hT hS ha kf_X5_75 dX5_advanceWord_2 (fun H locs hT hS => ?_)
  obtain ⟨G2, hG2⟩ : ∃ GG : XG, GG = dput G a 1 1 := ⟨_, rfl⟩
  rw [← hG2] at hT
  have L5 : ∀ (N5 : Nat) (G_5 : XG) (H : Heap) (locs : List Loc) (ls : Array Slot), XFr [(a, 3)] [] [] G2 G_5 → (∀ j : Int, (G.1 a 3).toInt ≤ j → j < ((G_5.1 a 3).toInt) → cLt ((tC (G.2.1 (F (F a 0) 0)) ((G.1 (F a 0) 1).toInt)) j)) → ((G.1 a 3).toInt) ≤ ((G_5.1 a 3).toInt) ∧ ((G_5.1 a 3).toInt) ≤ ((G.1 (F a 0) 1).toInt) → 200 - ((G_5.1 a 3).toInt) < ((N5 : Nat) : Int) → TW E K F G_5 H → va_S (xA E) s.heap H locs → lv_has ls 1 [(0, .ref a)] → W p l e rm_X5_advanceWord s m args below meth c H locs 0 0 Q (F0 m 5 ls []) := by
    intro N5
    induction N5 with
    | zero =>
      intro G_5 H locs ls hF_5 pr I5_0 hm5
      exact absurd hm5 (z_X5_advanceWord_1 ((G.1 (F a 0) 1).toInt) ((G.1 a 3).toInt) ((G_5.1 a 3).toInt) I5_0 n0)
    | succ N5 ih5 =>
      intro G_5 H locs ls hF_5 pr I5_0 hm5 hT hS hl
      refine lv_aload_n hx hb dX5_advanceWord_5 rfl (lv_at hl 0 rfl) ?_
      refine gX5_3 S hK hT ha kf_X5_19 dX5_advanceWord_6 (v := (G_5.1 a 3)) rfl (?_)
      refine lv_aload_n hx hb dX5_advanceWord_9 rfl (lv_at hl 0 rfl) ?_
      refine gX5_0 S hK hT ha kf_X5_9 dX5_advanceWord_10 (fun _ _ => ?_)
      refine x_clp (x_runV (b := (F a 0)) (As := []) (rest := [.int (G_5.1 a 3)]) S (c_X8_length l E K F G_5 H (F a 0) hk9999) mv_X8_length km_X5_106 rfl rfl ⟨Nat.le_of_ble_eq_true rfl, Nat.le_of_ble_eq_true rfl⟩ (rc_10 hK hT hk9999) hK (fun _ => XPh.blind) (fun U hU hW => XPh.at hK hz hS hT hU hW) rfl hl.1 (Nat.le_of_ble_eq_true rfl) dX5_advanceWord_13 ⟨Nat.le_of_ble_eq_true rfl, Nat.le_of_ble_eq_true rfl⟩) hS ?_
      rintro _ _ locs ⟨x13, rfl, t13⟩ hS
      have t13 : x13.toInt = ((G.1 (F a 0) 1).toInt) := by rw [(show (G_5.1 (F a 0) 1).toInt = ((G.1 (F a 0) 1).toInt) from (congrArg Int32.toInt ((hF_5.1 _ _ (xnj (by decide) xn0)).trans (ld_a hG2 (xne_k hk9999 ha (by decide))))).trans (rfl : Int32.toInt (G.1 (F a 0) 1) = ((G.1 (F a 0) 1).toInt)))] at t13; exact t13
      refine xi_cge (tgt := 49) hx hb (rfl : Int32.toInt (G_5.1 a 3) = ((G_5.1 a 3).toInt)) (t13 : Int32.toInt x13 = ((G.1 (F a 0) 1).toInt)) dX5_advanceWord_16 (by decide) (fun c16 => ?_) (fun c16 => ?_)
      · exact x_rv hx hb hr hlk hQ (Nat.le_of_ble_eq_true rfl) (Nat.le_of_ble_eq_true rfl) hS dX5_advanceWord_49 G_5 ⟨(XFr.call (by rw [hG2]; exact XFr.dput XFr.rf (List.mem_of_getElem? (i := 0) rfl)) hF_5 (xm1 1 rfl xm0) xm0 xm0), (by rw [(show (G_5.1 a 1).toInt = (1 : Int) from (congrArg Int32.toInt ((hF_5.1 _ _ (xnj (by decide) xn0)).trans (ld_at hG2))).trans ((by decide) : Int32.toInt 1 = (1 : Int)))] <;> exact (z_X5_advanceWord_2 ((G.1 (F a 0) 1).toInt) ((G.1 a 3).toInt) ((G_5.1 a 3).toInt) I5_0)), (v_X5_advanceWord_49_1 (K := K) (F := F) a G G_5 N5 ha pr n0 s0 I5_0 hm5 c16)⟩ hT
      · refine lv_aload_n hx hb dX5_advanceWord_19 rfl (lv_at hl 0 rfl) ?_
        refine gX5_0 S hK hT ha kf_X5_9 dX5_advanceWord_20 (fun _ _ => ?_)
        refine lv_aload_n hx hb dX5_advanceWord_23 rfl (lv_at hl 0 rfl) ?_
        refine gX5_3 S hK hT ha kf_X5_19 dX5_advanceWord_24 (v := (G_5.1 a 3)) rfl (?_)
        refine x_clp (x_runV (b := (F a 0)) (As := [.int (G_5.1 a 3)]) (rest := []) S (c_X8_signAt l E K F G_5 H (F a 0) (G_5.1 a 3) hk9999 (by rw [(show (G_5.1 (F a 0) 1).toInt = ((G.1 (F a 0) 1).toInt) from (congrArg Int32.toInt ((hF_5.1 _ _ (xnj (by decide) xn0)).trans (ld_a hG2 (xne_k hk9999 ha (by decide))))).trans (rfl : Int32.toInt (G.1 (F a 0) 1) = ((G.1 (F a 0) 1).toInt)))] <;> exact (n0))) mv_X8_signAt km_X5_97 rfl rfl ⟨Nat.le_of_ble_eq_true rfl, Nat.le_of_ble_eq_true rfl⟩ (rc_10 hK hT hk9999) hK (fun _ => XPh.blind) (fun U hU hW => XPh.at hK hz hS hT hU hW) rfl hl.1 (Nat.le_of_ble_eq_true rfl) dX5_advanceWord_27 ⟨Nat.le_of_ble_eq_true rfl, Nat.le_of_ble_eq_true rfl⟩) hS ?_
        rintro _ _ locs ⟨x27, rfl, b27, t27⟩ hS
        have t27 : x27.toInt = (tC (G.2.1 (F (F a 0) 0)) ((G.1 (F a 0) 1).toInt) ((G_5.1 a 3).toInt)) := by rw [(show G_5.2.1 (F (F a 0) 0) = G.2.1 (F (F a 0) 0) from ((hF_5.2.1 _ xn0).trans (ld_c hG2)))] at t27; rw [(show (G_5.1 (F a 0) 1).toInt = ((G.1 (F a 0) 1).toInt) from (congrArg Int32.toInt ((hF_5.1 _ _ (xnj (by decide) xn0)).trans (ld_a hG2 (xne_k hk9999 ha (by decide))))).trans (rfl : Int32.toInt (G.1 (F a 0) 1) = ((G.1 (F a 0) 1).toInt)))] at t27; exact t27
        refine x_clp (x_runS (As := [.int x27]) (rest := []) S (c_X5_isLetter l E K F G_5 H x27) ms_X5_isLetter km_X5_107 rfl rfl ⟨Nat.le_of_ble_eq_true rfl, Nat.le_of_ble_eq_true rfl⟩ hK (fun _ => XPh.blind) (fun U hU hW => XPh.at hK hz hS hT hU hW) rfl hl.1 (Nat.le_of_ble_eq_true rfl) dX5_advanceWord_30 ⟨Nat.le_of_ble_eq_true rfl, Nat.le_of_ble_eq_true rfl⟩) hS ?_
        rintro _ _ locs ⟨x30, rfl, b30, t30⟩ hS
        have t30 : (x30.toInt = 1 ∧ 97 ≤ x27.toInt ∧ x27.toInt ≤ 122) ∨ (x30.toInt = 0 ∧ (x27.toInt < 97 ∨ 122 < x27.toInt)) := t30
        refine xi_zeq (tgt := 49) hx hb (rfl : Int32.toInt x30 = x30.toInt) dX5_advanceWord_33 (by decide) (fun c33 => ?_) (fun c33 => ?_)
        · exact x_rv hx hb hr hlk hQ (Nat.le_of_ble_eq_true rfl) (Nat.le_of_ble_eq_true rfl) hS dX5_advanceWord_49 G_5 ⟨(XFr.call (by rw [hG2]; exact XFr.dput XFr.rf (List.mem_of_getElem? (i := 0) rfl)) hF_5 (xm1 1 rfl xm0) xm0 xm0), (by rw [(show (G_5.1 a 1).toInt = (1 : Int) from (congrArg Int32.toInt ((hF_5.1 _ _ (xnj (by decide) xn0)).trans (ld_at hG2))).trans ((by decide) : Int32.toInt 1 = (1 : Int)))] <;> exact (z_X5_advanceWord_2 ((G.1 (F a 0) 1).toInt) ((G.1 a 3).toInt) ((G_5.1 a 3).toInt) I5_0)), (v_X5_advanceWord_49_2 (K := K) (F := F) a G G_5 N5 x27 x30 ha pr n0 s0 I5_0 hm5 c16 t27 t30 c33)⟩ hT
        · refine lv_aload_n hx hb dX5_advanceWord_36 rfl (lv_at hl 0 rfl) ?_
          refine lv_dup hx hb dX5_advanceWord_37 rfl ?_
          refine gX5_3 S hK hT ha kf_X5_19 dX5_advanceWord_38 (v := (G_5.1 a 3)) rfl (?_)
          refine lv_iconst (v := 1) hx hb dX5_advanceWord_41 (by decide) ?_
          refine xi_iadd hx hb (rfl : Int32.toInt (G_5.1 a 3) = ((G_5.1 a 3).toInt)) ((by decide) : Int32.toInt 1 = (1 : Int)) dX5_advanceWord_42 (fun x42 t42 => ?_)
          have e42 : x42.toInt = (((G_5.1 a 3).toInt) + (1 : Int)) := (z_X5_advanceWord_5 x42.toInt ((G.1 (F a 0) 1).toInt) ((G_5.1 a 3).toInt) n0 c16 t42 (xr (G_5.1 a 3)))
          refine pX5_3 (v := x42) S hK hT hS ha kf_X5_19 dX5_advanceWord_43 (fun H locs hT hS => ?_)
          obtain ⟨G43, hG43⟩ : ∃ GG : XG, GG = dput G_5 a 3 x42 := ⟨_, rfl⟩
          rw [← hG43] at hT
          refine lv_goto (tgt := 5) hx hb dX5_advanceWord_46 (by decide) ?_
          exact ih5 G43 _ _ _ (by rw [hG43]; exact XFr.dput (XFr.call XFr.rf hF_5 (xm1 0 rfl xm0) xm0 xm0) (List.mem_of_getElem? (i := 0) rfl)) (by rw [(show (G43.1 a 3).toInt = (((G_5.1 a 3).toInt) + (1 : Int)) from (congrArg Int32.toInt (ld_at hG43)).trans (e42 : Int32.toInt x42 = (((G_5.1 a 3).toInt) + (1 : Int))))] <;> exact (v_X5_advanceWord_46_3 (K := K) (F := F) a G G_5 N5 x27 x30 ha pr n0 s0 I5_0 hm5 c16 t27 t30 c33)) (by rw [(show (G43.1 a 3).toInt = (((G_5.1 a 3).toInt) + (1 : Int)) from (congrArg Int32.toInt (ld_at hG43)).trans (e42 : Int32.toInt x42 = (((G_5.1 a 3).toInt) + (1 : Int))))] <;> exact (z_X5_advanceWord_6 ((G.1 (F a 0) 1).toInt) ((G.1 a 3).toInt) ((G_5.1 a 3).toInt) I5_0 c16)) (by rw [(show (G43.1 a 3).toInt = (((G_5.1 a 3).toInt) + (1 : Int)) from (congrArg Int32.toInt (ld_at hG43)).trans (e42 : Int32.toInt x42 = (((G_5.1 a 3).toInt) + (1 : Int))))] <;> exact (z_X5_advanceWord_7 N5 ((G_5.1 a 3).toInt) hm5)) hT hS (lv_sub hl [0] rfl)
  exact L5 4294967297 G2 _ _ _ XFr.rf (by rw [(show (G2.1 a 3).toInt = ((G.1 a 3).toInt) from (congrArg Int32.toInt (ld_j hG2 (by decide))).trans (rfl : Int32.toInt (G.1 a 3) = ((G.1 a 3).toInt)))] <;> exact (v_X5_advanceWord_2_4 (K := K) (F := F) a G ha n0 s0)) (by rw [(show (G2.1 a 3).toInt = ((G.1 a 3).toInt) from (congrArg Int32.toInt (ld_j hG2 (by decide))).trans (rfl : Int32.toInt (G.1 a 3) = ((G.1 a 3).toInt)))] <;> exact (z_X5_advanceWord_8 ((G.1 (F a 0) 1).toInt) ((G.1 a 3).toInt) s0)) (by rw [(show (G2.1 a 3).toInt = ((G.1 a 3).toInt) from (congrArg Int32.toInt (ld_j hG2 (by decide))).trans (rfl : Int32.toInt (G.1 a 3) = ((G.1 a 3).toInt)))] <;> exact (z_X5_advanceWord_9 ((G.1 (F a 0) 1).toInt) ((G.1 a 3).toInt) s0)) hT hS (lv_sub hl [0] rfl)

theorem z_X5_advanceNumber_2 (a0 : Int) (a1 : Int) (a2 : Int) (h0 : 0 ≤ a0 ∧ a2 ≤ a1) (h1 : 0 ≤ a1 ∧ a1 ≤ 80) : ¬ (200 - a2 < ((0 : Nat) : Int)) := by omega
theorem z_X5_advanceNumber_3 (a0 : Int) (a1 : Int) (a2 : Int) (a3 : Int) (h0 : 0 ≤ a2 ∧ a2 < a1) (h1 : 0 ≤ a0 ∧ a3 ≤ a1) (h2 : a1 ≤ a3) : 0 ≤ a3 ∧ a3 ≤ a1 := by omega
theorem z_X5_advanceNumber_7 (a0 : Int) (a1 : Int) (a2 : Int) (a3 : Int) (a4 : Int) (a5 : Int) (h0 : 0 ≤ a2 ∧ a2 < a1) (h1 : (a5 = 45 ∧ a4 = a2 + 1) ∨ (a5 ≠ 45 ∧ a4 = a2)) (h2 : a3 = a4 + a0) (h3 : 0 ≤ a0 ∧ a3 ≤ a1) : 0 ≤ a3 ∧ a3 ≤ a1 := by omega
theorem z_X5_advanceNumber_8 (a0 : Int) (a1 : Int) (a2 : Int) (a3 : Int) (a4 : Int) (a5 : Int) (h0 : 0 ≤ a2 ∧ a2 < a1) (h1 : (a5 = 45 ∧ a4 = a2 + 1) ∨ (a5 ≠ 45 ∧ a4 = a2)) (h2 : a3 = a4 + a0) (h3 : ¬ (a1 ≤ a3)) (h4 : (4 : Int) < a0) : 0 ≤ a3 ∧ a3 ≤ a1 := by omega
theorem z_X5_advanceNumber_9 (a0 : Int) (a1 : Int) (a2 : Int) (a3 : Int) (a4 : Int) (a5 : Int) (h0 : 0 ≤ a2 ∧ a2 < a1) (h1 : (a5 = 45 ∧ a4 = a2 + 1) ∨ (a5 ≠ 45 ∧ a4 = a2)) (h2 : a3 = a4 + a0) (h3 : ¬ (a1 ≤ a3)) (h4 : ¬ (a0 < (1 : Int))) : 0 ≤ a3 ∧ a3 ≤ a1 := by omega
theorem z_X5_advanceNumber_10 (a0 : Int) (a1 : Int) (a2 : Int) (h0 : 0 ≤ a0 ∧ a2 ≤ a1) : 0 ≤ a0 := by omega
theorem z_X5_advanceNumber_11 (a0 : Int) (a1 : Int) (a2 : Int) (a3 : Int) (a4 : Int) (a5 : Int) (a6 : Int) (h0 : 0 ≤ a2 ∧ a2 ≤ 80) (h1 : 0 ≤ a3 ∧ a3 < a2) (h2 : (a6 = 45 ∧ a5 = a3 + 1) ∨ (a6 ≠ 45 ∧ a5 = a3)) (h3 : a4 = a5 + a0) (h4 : ¬ (a2 ≤ a4)) (h5 : (4 : Int) ≤ a0) (h6 : a1 = (a0 + 1) ∨ (a0 + 1) < -2147483648 ∨ 2147483648 ≤ (a0 + 1)) : a1 = (a0 + 1) := by omega
theorem z_X5_advanceNumber_13 (a0 : Int) (a1 : Int) (a2 : Int) (h0 : a1 = a2 + a0) : (a1 + (1 : Int)) = a2 + (a0 + 1) := by omega
theorem z_X5_advanceNumber_14 (a0 : Int) (a1 : Int) (a2 : Int) (h0 : ¬ (a1 ≤ a2)) (h1 : (4 : Int) ≤ a0) : 0 ≤ (a0 + 1) ∧ (a2 + (1 : Int)) ≤ a1 := by omega
theorem z_X5_advanceNumber_15 (a0 : Int) (a1 : Int) (h0 : (a1 = 0 ∧ a0 = 0) ∨ (a1 = 1 ∧ 0 ≤ a0 ∧ a0 ≤ 9) ∨ (a1 = 2 ∧ 0 ≤ a0 ∧ a0 ≤ 99) ∨ (a1 = 3 ∧ 0 ≤ a0 ∧ a0 ≤ 999) ∨ (4 ≤ a1 ∧ 0 ≤ a0 ∧ a0 ≤ 9999)) : ((a1 + 1) = 0 ∧ a0 = 0) ∨ ((a1 + 1) = 1 ∧ 0 ≤ a0 ∧ a0 ≤ 9) ∨ ((a1 + 1) = 2 ∧ 0 ≤ a0 ∧ a0 ≤ 99) ∨ ((a1 + 1) = 3 ∧ 0 ≤ a0 ∧ a0 ≤ 999) ∨ (4 ≤ (a1 + 1) ∧ 0 ≤ a0 ∧ a0 ≤ 9999) := by omega
theorem z_X5_advanceNumber_16 (a0 : Int) (a1 : Int) (a2 : Int) (h0 : (4 : Int) ≤ a1) : (a1 + 1) ≤ 4 → a0 = a2 := by omega
theorem z_X5_advanceNumber_18 (a0 : Int) (a1 : Int) (a2 : Int) (h0 : (a1 = 0 ∧ a0 = 0) ∨ (a1 = 1 ∧ 0 ≤ a0 ∧ a0 ≤ 9) ∨ (a1 = 2 ∧ 0 ≤ a0 ∧ a0 ≤ 99) ∨ (a1 = 3 ∧ 0 ≤ a0 ∧ a0 ≤ 999) ∨ (4 ≤ a1 ∧ 0 ≤ a0 ∧ a0 ≤ 9999)) (h1 : a2 = (a0 * (10 : Int)) ∨ (a0 * (10 : Int)) < -2147483648 ∨ 2147483648 ≤ (a0 * (10 : Int))) : a2 = (a0 * (10 : Int)) := by omega
theorem z_X5_advanceNumber_20 (a0 : Int) (a1 : Int) (a2 : Int) (a3 : Int) (a4 : Int) (h0 : a1 = a4) (h1 : (a2 = 1 ∧ 48 ≤ a1 ∧ a1 ≤ 57) ∨ (a2 = 0 ∧ (a1 < 48 ∨ 57 < a1))) (h2 : ¬ (a2 = 0)) (h3 : a3 = a4) (h4 : a0 = (a3 - (48 : Int)) ∨ (a3 - (48 : Int)) < -2147483648 ∨ 2147483648 ≤ (a3 - (48 : Int))) : a0 = (a3 - (48 : Int)) := by omega
theorem z_X5_advanceNumber_21 (a0 : Int) (a1 : Int) (a2 : Int) (a3 : Int) (a4 : Int) (a5 : Int) (a6 : Int) (h0 : (a1 = 0 ∧ a0 = 0) ∨ (a1 = 1 ∧ 0 ≤ a0 ∧ a0 ≤ 9) ∨ (a1 = 2 ∧ 0 ≤ a0 ∧ a0 ≤ 99) ∨ (a1 = 3 ∧ 0 ≤ a0 ∧ a0 ≤ 999) ∨ (4 ≤ a1 ∧ 0 ≤ a0 ∧ a0 ≤ 9999)) (h1 : a3 = a6) (h2 : (a4 = 1 ∧ 48 ≤ a3 ∧ a3 ≤ 57) ∨ (a4 = 0 ∧ (a3 < 48 ∨ 57 < a3))) (h3 : ¬ (a4 = 0)) (h4 : a5 = a6) (h5 : a2 = ((a0 * (10 : Int)) + (a5 - (48 : Int))) ∨ ((a0 * (10 : Int)) + (a5 - (48 : Int))) < -2147483648 ∨ 2147483648 ≤ ((a0 * (10 : Int)) + (a5 - (48 : Int)))) : a2 = ((a0 * (10 : Int)) + (a5 - (48 : Int))) := by omega
theorem z_X5_advanceNumber_22 (a0 : Int) (a1 : Int) (a2 : Int) (a3 : Int) (h0 : 0 ≤ a0 ∧ a3 ≤ a2) (h1 : ¬ ((4 : Int) ≤ a0)) (h2 : a1 = (a0 + 1) ∨ (a0 + 1) < -2147483648 ∨ 2147483648 ≤ (a0 + 1)) : a1 = (a0 + 1) := by omega
theorem z_X5_advanceNumber_25 (a0 : Int) (a1 : Int) (a2 : Int) (h0 : 0 ≤ a0 ∧ a2 ≤ a1) (h1 : ¬ (a1 ≤ a2)) : 0 ≤ (a0 + 1) ∧ (a2 + (1 : Int)) ≤ a1 := by omega
theorem z_X5_advanceNumber_26 (a0 : Int) (a1 : Int) (a2 : Int) (a3 : Int) (a4 : Int) (a5 : Int) (h0 : (a1 = 0 ∧ a0 = 0) ∨ (a1 = 1 ∧ 0 ≤ a0 ∧ a0 ≤ 9) ∨ (a1 = 2 ∧ 0 ≤ a0 ∧ a0 ≤ 99) ∨ (a1 = 3 ∧ 0 ≤ a0 ∧ a0 ≤ 999) ∨ (4 ≤ a1 ∧ 0 ≤ a0 ∧ a0 ≤ 9999)) (h1 : a2 = a5) (h2 : (a3 = 1 ∧ 48 ≤ a2 ∧ a2 ≤ 57) ∨ (a3 = 0 ∧ (a2 < 48 ∨ 57 < a2))) (h3 : ¬ (a3 = 0)) (h4 : ¬ ((4 : Int) ≤ a1)) (h5 : a4 = a5) : ((a1 + 1) = 0 ∧ ((a0 * (10 : Int)) + (a4 - (48 : Int))) = 0) ∨ ((a1 + 1) = 1 ∧ 0 ≤ ((a0 * (10 : Int)) + (a4 - (48 : Int))) ∧ ((a0 * (10 : Int)) + (a4 - (48 : Int))) ≤ 9) ∨ ((a1 + 1) = 2 ∧ 0 ≤ ((a0 * (10 : Int)) + (a4 - (48 : Int))) ∧ ((a0 * (10 : Int)) + (a4 - (48 : Int))) ≤ 99) ∨ ((a1 + 1) = 3 ∧ 0 ≤ ((a0 * (10 : Int)) + (a4 - (48 : Int))) ∧ ((a0 * (10 : Int)) + (a4 - (48 : Int))) ≤ 999) ∨ (4 ≤ (a1 + 1) ∧ 0 ≤ ((a0 * (10 : Int)) + (a4 - (48 : Int))) ∧ ((a0 * (10 : Int)) + (a4 - (48 : Int))) ≤ 9999) := by omega
theorem z_X5_advanceNumber_27 (a0 : Int) (a1 : Int) (a2 : Int) (a3 : Int) (a4 : Int) (a5 : Int) (a6 : Int) (a7 : Int) (a8 : Int) (h0 : a3 = a4 + a1) (h1 : a1 ≤ 4 → a0 = a6) (h2 : a5 = 10 * a6 + (a8 - 48)) (h3 : a3 = a4 + a1 → a8 = a7) (h4 : a2 = a7) : (a1 + 1) ≤ 4 → ((a0 * (10 : Int)) + (a2 - (48 : Int))) = a5 := by omega
theorem z_X5_advanceNumber_29 (a0 : Int) (a1 : Int) (a2 : Int) (a3 : Int) (h0 : (a3 = 45 ∧ a2 = a1 + 1) ∨ (a3 ≠ 45 ∧ a2 = a1)) (h1 : a0 = a3) (h2 : a0 ≠ (45 : Int)) : a1 = a2 + (0 : Int) := by omega
theorem z_X5_advanceNumber_30 (a0 : Int) (a1 : Int) (h0 : 0 ≤ a1 ∧ a1 < a0) : 0 ≤ (0 : Int) ∧ a1 ≤ a0 := by omega
theorem z_X5_advanceNumber_31 (a0 : Int) (h0 : a0 = 0) : (0 : Int) ≤ 4 → (0 : Int) = a0 := by omega
theorem z_X5_advanceNumber_32 (a0 : Int) (a1 : Int) (h0 : 0 ≤ a1 ∧ a1 < a0) : 200 - a1 < ((4294967297 : Nat) : Int) := by omega
theorem z_X5_advanceNumber_33 (a0 : Int) (a1 : Int) (a2 : Int) (h0 : 0 ≤ a1 ∧ a1 ≤ 80) (h1 : 0 ≤ a2 ∧ a2 < a1) (h2 : a0 = (a2 + (1 : Int)) ∨ (a2 + (1 : Int)) < -2147483648 ∨ 2147483648 ≤ (a2 + (1 : Int))) : a0 = (a2 + (1 : Int)) := by omega
theorem z_X5_advanceNumber_61 (a0 : Int) (a1 : Int) (a2 : Int) (a3 : Int) (h0 : (a3 = 45 ∧ a2 = a1 + 1) ∨ (a3 ≠ 45 ∧ a2 = a1)) (h1 : a0 = a3) (h2 : ¬ (a0 ≠ (45 : Int))) : (a1 + (1 : Int)) = a2 + (0 : Int) := by omega
theorem z_X5_advanceNumber_62 (a0 : Int) (a1 : Int) (h0 : 0 ≤ a1 ∧ a1 < a0) : 0 ≤ (0 : Int) ∧ (a1 + (1 : Int)) ≤ a0 := by omega
theorem z_X5_advanceNumber_64 (a0 : Int) (a1 : Int) (h0 : 0 ≤ a1 ∧ a1 < a0) : 200 - (a1 + (1 : Int)) < ((4294967297 : Nat) : Int) := by omega
abbrev rm_X5_advanceNumber : Room := { frames := 1, cells := 0, slots := 0, locals := 21 }
set_option maxHeartbeats 4000000 in
set_option maxRecDepth 100000 in
theorem c_X5_advanceNumber (l : Launch) (E : XE) (K : Nat → Nat) (F : Nat → Nat → Nat) (G : XG) (a : Nat) (ha : K a = 7) (n0 : 0 ≤ ((G.1 (F a 0) 1).toInt) ∧ ((G.1 (F a 0) 1).toInt) ≤ 80) (s0 : 0 ≤ ((G.1 a 2).toInt) ∧ ((G.1 a 2).toInt) < ((G.1 (F a 0) 1).toInt)) : Met l yX5_advanceNumber (xw yX5_advanceNumber cX5_advanceNumber 4 none) rm_X5_advanceNumber (va_Pc [.ref a] (XP E K F G)) (XQv E (fun (u : XG) => XFr [(a, 1), (a, 3), (a, 4)] [] [] G u ∧ (0 ≤ ((u.1 a 3).toInt) ∧ ((u.1 a 3).toInt) ≤ ((G.1 (F a 0) 1).toInt)) ∧ (((u.1 a 3).toInt) = nE (tC (G.2.1 (F (F a 0) 0)) ((G.1 (F a 0) 1).toInt)) ((G.1 a 2).toInt) ∧ ((nOk (tC (G.2.1 (F (F a 0) 0)) ((G.1 (F a 0) 1).toInt)) ((G.1 a 2).toInt) ∧ ((u.1 a 1).toInt) = 2 ∧ ((u.1 a 4).toInt) = nVl (tC (G.2.1 (F (F a 0) 0)) ((G.1 (F a 0) 1).toInt)) ((G.1 a 2).toInt)) ∨ (¬ nOk (tC (G.2.1 (F (F a 0) 0)) ((G.1 (F a 0) 1).toInt)) ((G.1 a 2).toInt) ∧ ((u.1 a 1).toInt) = 3)))) (fun u H => TW E K F u H)) 0 0 (xA E) := by
  refine x_enter (by decide) (Nat.le_of_ble_eq_true rfl) ?_
  intro p e s m args below meth c Q S hr hlk hnm hQ hP ls hl
  obtain ⟨hz, hK, hT⟩ := hP
  obtain ⟨hx, hb, -, -, -⟩ := id S
  obtain ⟨H, hT, hS, hgo⟩ : ∃ H : Heap, TW E K F G H ∧ va_S (xA E) s.heap H [] ∧ H = s.heap := ⟨_, hT, va_S.rf, rfl⟩
  rw [← hgo]
  have hl : lv_has ls 4 [(0, .ref a)] := hl
  obtain ⟨hk9999, hj9999⟩ := fkX5_0 hT ha
  obtain ⟨hk9999a, hj9999a⟩ := fkX8_0 hT hk9999
  have z0 : ((tC (G.2.1 (F (F a 0) 0)) ((G.1 (F a 0) 1).toInt) ((G.1 a 2).toInt)) = 45 ∧ (nS (tC (G.2.1 (F (F a 0) 0)) ((G.1 (F a 0) 1).toInt)) ((G.1 a 2).toInt)) = ((G.1 a 2).toInt) + 1) ∨ ((tC (G.2.1 (F (F a 0) 0)) ((G.1 (F a 0) 1).toInt) ((G.1 a 2).toInt)) ≠ 45 ∧ (nS (tC (G.2.1 (F (F a 0) 0)) ((G.1 (F a 0) 1).toInt)) ((G.1 a 2).toInt)) = ((G.1 a 2).toInt)) := (nS_f _ _).imp (fun h => ⟨h.1, h.2.1⟩) (fun h => ⟨h.1, h.2.1⟩)
  have z0a : (nv (tC (G.2.1 (F (F a 0) 0)) ((G.1 (F a 0) 1).toInt)) (nS (tC (G.2.1 (F (F a 0) 0)) ((G.1 (F a 0) 1).toInt)) ((G.1 a 2).toInt)) 0) = 0 := nv_0 _ _
  refine lv_aload_n hx hb dX5_advanceNumber_0 rfl (lv_at hl 0 rfl) ?_
  refine gX5_0 S hK hT ha kf_X5_9 dX5_advanceNumber_1 (fun _ _ => ?_)
  refine lv_aload_n hx hb dX5_advanceNumber_4 rfl (lv_at hl 0 rfl) ?_
  refine gX5_2 S hK hT ha kf_X5_78 dX5_advanceNumber_5 (v := (G.1 a 2)) rfl (?_)
  refine x_clp (x_runV (b := (F a 0)) (As := [.int (G.1 a 2)]) (rest := []) S (c_X8_signAt l E K F G H (F a 0) (G.1 a 2) hk9999 (n0)) mv_X8_signAt km_X5_97 rfl rfl ⟨Nat.le_of_ble_eq_true rfl, Nat.le_of_ble_eq_true rfl⟩ (rc_10 hK hT hk9999) hK (fun _ => XPh.blind) (fun U hU hW => XPh.at hK hz hS hT hU hW) rfl hl.1 (Nat.le_of_ble_eq_true rfl) dX5_advanceNumber_8 ⟨Nat.le_of_ble_eq_true rfl, Nat.le_of_ble_eq_true rfl⟩) hS ?_
  rintro _ _ locs ⟨x8, rfl, b8, t8⟩ hS
  have t8 : x8.toInt = (tC (G.2.1 (F (F a 0) 0)) ((G.1 (F a 0) 1).toInt) ((G.1 a 2).toInt)) := t8
  refine lv_bipush (v := 45) hx hb dX5_advanceNumber_11 (by decide) ?_
  refine xi_cne (tgt := 20) hx hb (rfl : Int32.toInt x8 = x8.toInt) ((by decide) : Int32.toInt 45 = (45 : Int)) dX5_advanceNumber_13 (by decide) (fun c13 => ?_) (fun c13 => ?_)
  · refine lv_iconst (v := 0) hx hb dX5_advanceNumber_20 (by decide) ?_
    refine lv_istore_n (lv' := [(1, .int 0), (0, .ref a)]) hx hb dX5_advanceNumber_21 rfl hl (by decide) rfl (fun ls hl => ?_)
    refine lv_iconst (v := 0) hx hb dX5_advanceNumber_22 (by decide) ?_
    refine lv_istore_n (lv' := [(2, .int 0), (1, .int 0), (0, .ref a)]) hx hb dX5_advanceNumber_23 rfl hl (by decide) rfl (fun ls hl => ?_)
    refine lv_iconst (v := 0) hx hb dX5_advanceNumber_24 (by decide) ?_
    refine lv_istore_n (lv' := [(3, .int 0), (2, .int 0), (1, .int 0), (0, .ref a)]) hx hb dX5_advanceNumber_25 rfl hl (by decide) rfl (fun ls hl => ?_)
    refine lv_aload_n hx hb dX5_advanceNumber_26 rfl (lv_at hl 3 rfl) ?_
    refine lv_iload_n hx hb dX5_advanceNumber_27 rfl (lv_at hl 2 rfl) ?_
    refine xi_zeq (tgt := 40) hx hb ((by decide) : Int32.toInt 0 = (0 : Int)) dX5_advanceNumber_28 (by decide) (fun _ => ?_) (fun c => absurd (show (0 : Int) = 0 by decide) c)
    refine lv_aload_n hx hb dX5_advanceNumber_40 rfl (lv_at hl 3 rfl) ?_
    refine gX5_2 S hK hT ha kf_X5_78 dX5_advanceNumber_41 (v := (G.1 a 2)) rfl (?_)
    refine pX5_3 (v := (G.1 a 2)) S hK hT hS ha kf_X5_19 dX5_advanceNumber_44 (fun H locs hT hS => ?_)
    obtain ⟨G44, hG44⟩ : ∃ GG : XG, GG = dput G a 3 (G.1 a 2) := ⟨_, rfl⟩
    rw [← hG44] at hT
    have L47 : ∀ (N47 : Nat) (l2_47 : Int32) (l3_47 : Int32) (G_47 : XG) (H : Heap) (locs : List Loc) (ls : Array Slot), XFr [(a, 3)] [] [] G44 G_47 → (∀ j : Int, nS (tC (G.2.1 (F (F a 0) 0)) ((G.1 (F a 0) 1).toInt)) ((G.1 a 2).toInt) ≤ j → j < ((G_47.1 a 3).toInt) → cDg ((tC (G.2.1 (F (F a 0) 0)) ((G.1 (F a 0) 1).toInt)) j)) → ((G_47.1 a 3).toInt) = (nS (tC (G.2.1 (F (F a 0) 0)) ((G.1 (F a 0) 1).toInt)) ((G.1 a 2).toInt)) + l3_47.toInt → 0 ≤ l3_47.toInt ∧ ((G_47.1 a 3).toInt) ≤ ((G.1 (F a 0) 1).toInt) → (l3_47.toInt = 0 ∧ l2_47.toInt = 0) ∨ (l3_47.toInt = 1 ∧ 0 ≤ l2_47.toInt ∧ l2_47.toInt ≤ 9) ∨ (l3_47.toInt = 2 ∧ 0 ≤ l2_47.toInt ∧ l2_47.toInt ≤ 99) ∨ (l3_47.toInt = 3 ∧ 0 ≤ l2_47.toInt ∧ l2_47.toInt ≤ 999) ∨ (4 ≤ l3_47.toInt ∧ 0 ≤ l2_47.toInt ∧ l2_47.toInt ≤ 9999) → (l3_47.toInt ≤ 4 → l2_47.toInt = (nv (tC (G.2.1 (F (F a 0) 0)) ((G.1 (F a 0) 1).toInt)) (nS (tC (G.2.1 (F (F a 0) 0)) ((G.1 (F a 0) 1).toInt)) ((G.1 a 2).toInt)) (l3_47.toInt))) → 200 - ((G_47.1 a 3).toInt) < ((N47 : Nat) : Int) → TW E K F G_47 H → va_S (xA E) s.heap H locs → lv_has ls 4 [(0, .ref a), (1, .int 0), (2, .int l2_47), (3, .int l3_47)] → W p l e rm_X5_advanceNumber s m args below meth c H locs 0 0 Q (F0 m 47 ls []) := by
      intro N47
      induction N47 with
      | zero =>
        intro l2_47 l3_47 G_47 H locs ls hF_47 pr I47_0 I47_1 I47_2 I47_3 hm47
        exact absurd hm47 (z_X5_advanceNumber_2 l3_47.toInt ((G.1 (F a 0) 1).toInt) ((G_47.1 a 3).toInt) I47_1 n0)
      | succ N47 ih47 =>
        intro l2_47 l3_47 G_47 H locs ls hF_47 pr I47_0 I47_1 I47_2 I47_3 hm47 hT hS hl
        refine lv_aload_n hx hb dX5_advanceNumber_47 rfl (lv_at hl 0 rfl) ?_
        refine gX5_3 S hK hT ha kf_X5_19 dX5_advanceNumber_48 (v := (G_47.1 a 3)) rfl (?_)
        refine lv_aload_n hx hb dX5_advanceNumber_51 rfl (lv_at hl 0 rfl) ?_
        refine gX5_0 S hK hT ha kf_X5_9 dX5_advanceNumber_52 (fun _ _ => ?_)
        refine x_clp (x_runV (b := (F a 0)) (As := []) (rest := [.int (G_47.1 a 3)]) S (c_X8_length l E K F G_47 H (F a 0) hk9999) mv_X8_length km_X5_106 rfl rfl ⟨Nat.le_of_ble_eq_true rfl, Nat.le_of_ble_eq_true rfl⟩ (rc_10 hK hT hk9999) hK (fun _ => XPh.blind) (fun U hU hW => XPh.at hK hz hS hT hU hW) rfl hl.1 (Nat.le_of_ble_eq_true rfl) dX5_advanceNumber_55 ⟨Nat.le_of_ble_eq_true rfl, Nat.le_of_ble_eq_true rfl⟩) hS ?_
        rintro _ _ locs ⟨x55, rfl, t55⟩ hS
        have t55 : x55.toInt = ((G.1 (F a 0) 1).toInt) := by rw [(show (G_47.1 (F a 0) 1).toInt = ((G.1 (F a 0) 1).toInt) from (congrArg Int32.toInt ((hF_47.1 _ _ (xnj (by decide) xn0)).trans (ld_j hG44 (by decide)))).trans (rfl : Int32.toInt (G.1 (F a 0) 1) = ((G.1 (F a 0) 1).toInt)))] at t55; exact t55
        refine xi_cge (tgt := 119) hx hb (rfl : Int32.toInt (G_47.1 a 3) = ((G_47.1 a 3).toInt)) (t55 : Int32.toInt x55 = ((G.1 (F a 0) 1).toInt)) dX5_advanceNumber_58 (by decide) (fun c58 => ?_) (fun c58 => ?_)
        · refine lv_aload_n hx hb dX5_advanceNumber_119 rfl (lv_at hl 0 rfl) ?_
          refine lv_iload_n hx hb dX5_advanceNumber_120 rfl (lv_at hl 3 rfl) ?_
          refine lv_iconst (v := 1) hx hb dX5_advanceNumber_121 (by decide) ?_
          refine xi_clt (tgt := 134) hx hb (rfl : Int32.toInt l3_47 = l3_47.toInt) ((by decide) : Int32.toInt 1 = (1 : Int)) dX5_advanceNumber_122 (by decide) (fun c122 => ?_) (fun c122 => ?_)
          · refine lv_iconst (v := 3) hx hb dX5_advanceNumber_134 (by decide) ?_
            refine pX5_1 (v := 3) S hK hT hS ha kf_X5_75 dX5_advanceNumber_135 (fun H locs hT hS => ?_)
            obtain ⟨G135, hG135⟩ : ∃ GG : XG, GG = dput G_47 a 1 3 := ⟨_, rfl⟩
            rw [← hG135] at hT
            refine lv_aload_n hx hb dX5_advanceNumber_138 rfl (lv_at hl 0 rfl) ?_
            refine lv_iload_n hx hb dX5_advanceNumber_139 rfl (lv_at hl 1 rfl) ?_
            refine xi_zeq (tgt := 148) hx hb ((by decide) : Int32.toInt 0 = (0 : Int)) dX5_advanceNumber_140 (by decide) (fun _ => ?_) (fun c => absurd (show (0 : Int) = 0 by decide) c)
            refine lv_iload_n hx hb dX5_advanceNumber_148 rfl (lv_at hl 2 rfl) ?_
            refine pX5_4 (v := l2_47) S hK hT hS ha kf_X5_89 dX5_advanceNumber_149 (fun H locs hT hS => ?_)
            obtain ⟨G149, hG149⟩ : ∃ GG : XG, GG = dput G135 a 4 l2_47 := ⟨_, rfl⟩
            rw [← hG149] at hT
            exact x_rv hx hb hr hlk hQ (Nat.le_of_ble_eq_true rfl) (Nat.le_of_ble_eq_true rfl) hS dX5_advanceNumber_152 G149 ⟨(by rw [hG149]; exact XFr.dput (by rw [hG135]; exact XFr.dput (XFr.call (by rw [hG44]; exact XFr.dput XFr.rf (List.mem_of_getElem? (i := 1) rfl)) hF_47 (xm1 1 rfl xm0) xm0 xm0) (List.mem_of_getElem? (i := 0) rfl)) (List.mem_of_getElem? (i := 2) rfl)), (by rw [(show (G149.1 a 3).toInt = ((G_47.1 a 3).toInt) from (congrArg Int32.toInt ((ld_j hG149 (by decide)).trans (ld_j hG135 (by decide)))).trans (rfl : Int32.toInt (G_47.1 a 3) = ((G_47.1 a 3).toInt)))] <;> exact (z_X5_advanceNumber_3 l3_47.toInt ((G.1 (F a 0) 1).toInt) ((G.1 a 2).toInt) ((G_47.1 a 3).toInt) s0 I47_1 c58)), (v_X5_advanceNumber_152_1 (K := K) (F := F) a G G_47 G149 l2_47 x8 l3_47 N47 ha pr n0 s0 z0 z0a t8 c13 I47_0 I47_1 I47_2 I47_3 hm47 c58 c122 ((ld_j hG149 (by decide)).trans (ld_at hG135)) ((ld_j hG149 (by decide)).trans (ld_j hG135 (by decide))) (ld_at hG149))⟩ hT
          · refine lv_iload_n hx hb dX5_advanceNumber_125 rfl (lv_at hl 3 rfl) ?_
            refine lv_iconst (v := 4) hx hb dX5_advanceNumber_126 (by decide) ?_
            refine xi_cgt (tgt := 134) hx hb (rfl : Int32.toInt l3_47 = l3_47.toInt) ((by decide) : Int32.toInt 4 = (4 : Int)) dX5_advanceNumber_127 (by decide) (fun c127 => ?_) (fun c127 => ?_)
            · refine lv_iconst (v := 3) hx hb dX5_advanceNumber_134 (by decide) ?_
              refine pX5_1 (v := 3) S hK hT hS ha kf_X5_75 dX5_advanceNumber_135 (fun H locs hT hS => ?_)
              obtain ⟨G135, hG135⟩ : ∃ GG : XG, GG = dput G_47 a 1 3 := ⟨_, rfl⟩
              rw [← hG135] at hT
              refine lv_aload_n hx hb dX5_advanceNumber_138 rfl (lv_at hl 0 rfl) ?_
              refine lv_iload_n hx hb dX5_advanceNumber_139 rfl (lv_at hl 1 rfl) ?_
              refine xi_zeq (tgt := 148) hx hb ((by decide) : Int32.toInt 0 = (0 : Int)) dX5_advanceNumber_140 (by decide) (fun _ => ?_) (fun c => absurd (show (0 : Int) = 0 by decide) c)
              refine lv_iload_n hx hb dX5_advanceNumber_148 rfl (lv_at hl 2 rfl) ?_
              refine pX5_4 (v := l2_47) S hK hT hS ha kf_X5_89 dX5_advanceNumber_149 (fun H locs hT hS => ?_)
              obtain ⟨G149, hG149⟩ : ∃ GG : XG, GG = dput G135 a 4 l2_47 := ⟨_, rfl⟩
              rw [← hG149] at hT
              exact x_rv hx hb hr hlk hQ (Nat.le_of_ble_eq_true rfl) (Nat.le_of_ble_eq_true rfl) hS dX5_advanceNumber_152 G149 ⟨(by rw [hG149]; exact XFr.dput (by rw [hG135]; exact XFr.dput (XFr.call (by rw [hG44]; exact XFr.dput XFr.rf (List.mem_of_getElem? (i := 1) rfl)) hF_47 (xm1 1 rfl xm0) xm0 xm0) (List.mem_of_getElem? (i := 0) rfl)) (List.mem_of_getElem? (i := 2) rfl)), (by rw [(show (G149.1 a 3).toInt = ((G_47.1 a 3).toInt) from (congrArg Int32.toInt ((ld_j hG149 (by decide)).trans (ld_j hG135 (by decide)))).trans (rfl : Int32.toInt (G_47.1 a 3) = ((G_47.1 a 3).toInt)))] <;> exact (z_X5_advanceNumber_3 l3_47.toInt ((G.1 (F a 0) 1).toInt) ((G.1 a 2).toInt) ((G_47.1 a 3).toInt) s0 I47_1 c58)), (v_X5_advanceNumber_152_2 (K := K) (F := F) a G G_47 G149 l2_47 x8 l3_47 N47 ha pr n0 s0 z0 z0a t8 c13 I47_0 I47_1 I47_2 I47_3 hm47 c58 c122 c127 ((ld_j hG149 (by decide)).trans (ld_at hG135)) ((ld_j hG149 (by decide)).trans (ld_j hG135 (by decide))) (ld_at hG149))⟩ hT
            · refine lv_iconst (v := 2) hx hb dX5_advanceNumber_130 (by decide) ?_
              refine lv_goto (tgt := 135) hx hb dX5_advanceNumber_131 (by decide) ?_
              refine pX5_1 (v := 2) S hK hT hS ha kf_X5_75 dX5_advanceNumber_135 (fun H locs hT hS => ?_)
              obtain ⟨G135, hG135⟩ : ∃ GG : XG, GG = dput G_47 a 1 2 := ⟨_, rfl⟩
              rw [← hG135] at hT
              refine lv_aload_n hx hb dX5_advanceNumber_138 rfl (lv_at hl 0 rfl) ?_
              refine lv_iload_n hx hb dX5_advanceNumber_139 rfl (lv_at hl 1 rfl) ?_
              refine xi_zeq (tgt := 148) hx hb ((by decide) : Int32.toInt 0 = (0 : Int)) dX5_advanceNumber_140 (by decide) (fun _ => ?_) (fun c => absurd (show (0 : Int) = 0 by decide) c)
              refine lv_iload_n hx hb dX5_advanceNumber_148 rfl (lv_at hl 2 rfl) ?_
              refine pX5_4 (v := l2_47) S hK hT hS ha kf_X5_89 dX5_advanceNumber_149 (fun H locs hT hS => ?_)
              obtain ⟨G149, hG149⟩ : ∃ GG : XG, GG = dput G135 a 4 l2_47 := ⟨_, rfl⟩
              rw [← hG149] at hT
              exact x_rv hx hb hr hlk hQ (Nat.le_of_ble_eq_true rfl) (Nat.le_of_ble_eq_true rfl) hS dX5_advanceNumber_152 G149 ⟨(by rw [hG149]; exact XFr.dput (by rw [hG135]; exact XFr.dput (XFr.call (by rw [hG44]; exact XFr.dput XFr.rf (List.mem_of_getElem? (i := 1) rfl)) hF_47 (xm1 1 rfl xm0) xm0 xm0) (List.mem_of_getElem? (i := 0) rfl)) (List.mem_of_getElem? (i := 2) rfl)), (by rw [(show (G149.1 a 3).toInt = ((G_47.1 a 3).toInt) from (congrArg Int32.toInt ((ld_j hG149 (by decide)).trans (ld_j hG135 (by decide)))).trans (rfl : Int32.toInt (G_47.1 a 3) = ((G_47.1 a 3).toInt)))] <;> exact (z_X5_advanceNumber_3 l3_47.toInt ((G.1 (F a 0) 1).toInt) ((G.1 a 2).toInt) ((G_47.1 a 3).toInt) s0 I47_1 c58)), (v_X5_advanceNumber_152_3 (K := K) (F := F) a G G_47 G149 l2_47 x8 l3_47 N47 ha pr n0 s0 z0 z0a t8 c13 I47_0 I47_1 I47_2 I47_3 hm47 c58 c122 c127 ((ld_j hG149 (by decide)).trans (ld_at hG135)) ((ld_j hG149 (by decide)).trans (ld_j hG135 (by decide))) (ld_at hG149))⟩ hT
        · refine lv_aload_n hx hb dX5_advanceNumber_61 rfl (lv_at hl 0 rfl) ?_
          refine gX5_0 S hK hT ha kf_X5_9 dX5_advanceNumber_62 (fun _ _ => ?_)
          refine lv_aload_n hx hb dX5_advanceNumber_65 rfl (lv_at hl 0 rfl) ?_
          refine gX5_3 S hK hT ha kf_X5_19 dX5_advanceNumber_66 (v := (G_47.1 a 3)) rfl (?_)
          refine x_clp (x_runV (b := (F a 0)) (As := [.int (G_47.1 a 3)]) (rest := []) S (c_X8_signAt l E K F G_47 H (F a 0) (G_47.1 a 3) hk9999 (by rw [(show (G_47.1 (F a 0) 1).toInt = ((G.1 (F a 0) 1).toInt) from (congrArg Int32.toInt ((hF_47.1 _ _ (xnj (by decide) xn0)).trans (ld_j hG44 (by decide)))).trans (rfl : Int32.toInt (G.1 (F a 0) 1) = ((G.1 (F a 0) 1).toInt)))] <;> exact (n0))) mv_X8_signAt km_X5_97 rfl rfl ⟨Nat.le_of_ble_eq_true rfl, Nat.le_of_ble_eq_true rfl⟩ (rc_10 hK hT hk9999) hK (fun _ => XPh.blind) (fun U hU hW => XPh.at hK hz hS hT hU hW) rfl hl.1 (Nat.le_of_ble_eq_true rfl) dX5_advanceNumber_69 ⟨Nat.le_of_ble_eq_true rfl, Nat.le_of_ble_eq_true rfl⟩) hS ?_
          rintro _ _ locs ⟨x69, rfl, b69, t69⟩ hS
          have t69 : x69.toInt = (tC (G.2.1 (F (F a 0) 0)) ((G.1 (F a 0) 1).toInt) ((G_47.1 a 3).toInt)) := by rw [(show G_47.2.1 (F (F a 0) 0) = G.2.1 (F (F a 0) 0) from ((hF_47.2.1 _ xn0).trans (ld_c hG44)))] at t69; rw [(show (G_47.1 (F a 0) 1).toInt = ((G.1 (F a 0) 1).toInt) from (congrArg Int32.toInt ((hF_47.1 _ _ (xnj (by decide) xn0)).trans (ld_j hG44 (by decide)))).trans (rfl : Int32.toInt (G.1 (F a 0) 1) = ((G.1 (F a 0) 1).toInt)))] at t69; exact t69
          refine x_clp (x_runS (As := [.int x69]) (rest := []) S (c_X5_isDigit l E K F G_47 H x69) ms_X5_isDigit km_X5_117 rfl rfl ⟨Nat.le_of_ble_eq_true rfl, Nat.le_of_ble_eq_true rfl⟩ hK (fun _ => XPh.blind) (fun U hU hW => XPh.at hK hz hS hT hU hW) rfl hl.1 (Nat.le_of_ble_eq_true rfl) dX5_advanceNumber_72 ⟨Nat.le_of_ble_eq_true rfl, Nat.le_of_ble_eq_true rfl⟩) hS ?_
          rintro _ _ locs ⟨x72, rfl, b72, t72⟩ hS
          have t72 : (x72.toInt = 1 ∧ 48 ≤ x69.toInt ∧ x69.toInt ≤ 57) ∨ (x72.toInt = 0 ∧ (x69.toInt < 48 ∨ 57 < x69.toInt)) := t72
          refine xi_zeq (tgt := 119) hx hb (rfl : Int32.toInt x72 = x72.toInt) dX5_advanceNumber_75 (by decide) (fun c75 => ?_) (fun c75 => ?_)
          · refine lv_aload_n hx hb dX5_advanceNumber_119 rfl (lv_at hl 0 rfl) ?_
            refine lv_iload_n hx hb dX5_advanceNumber_120 rfl (lv_at hl 3 rfl) ?_
            refine lv_iconst (v := 1) hx hb dX5_advanceNumber_121 (by decide) ?_
            refine xi_clt (tgt := 134) hx hb (rfl : Int32.toInt l3_47 = l3_47.toInt) ((by decide) : Int32.toInt 1 = (1 : Int)) dX5_advanceNumber_122 (by decide) (fun c122 => ?_) (fun c122 => ?_)
            · refine lv_iconst (v := 3) hx hb dX5_advanceNumber_134 (by decide) ?_
              refine pX5_1 (v := 3) S hK hT hS ha kf_X5_75 dX5_advanceNumber_135 (fun H locs hT hS => ?_)
              obtain ⟨G135, hG135⟩ : ∃ GG : XG, GG = dput G_47 a 1 3 := ⟨_, rfl⟩
              rw [← hG135] at hT
              refine lv_aload_n hx hb dX5_advanceNumber_138 rfl (lv_at hl 0 rfl) ?_
              refine lv_iload_n hx hb dX5_advanceNumber_139 rfl (lv_at hl 1 rfl) ?_
              refine xi_zeq (tgt := 148) hx hb ((by decide) : Int32.toInt 0 = (0 : Int)) dX5_advanceNumber_140 (by decide) (fun _ => ?_) (fun c => absurd (show (0 : Int) = 0 by decide) c)
              refine lv_iload_n hx hb dX5_advanceNumber_148 rfl (lv_at hl 2 rfl) ?_
              refine pX5_4 (v := l2_47) S hK hT hS ha kf_X5_89 dX5_advanceNumber_149 (fun H locs hT hS => ?_)
              obtain ⟨G149, hG149⟩ : ∃ GG : XG, GG = dput G135 a 4 l2_47 := ⟨_, rfl⟩
              rw [← hG149] at hT
              exact x_rv hx hb hr hlk hQ (Nat.le_of_ble_eq_true rfl) (Nat.le_of_ble_eq_true rfl) hS dX5_advanceNumber_152 G149 ⟨(by rw [hG149]; exact XFr.dput (by rw [hG135]; exact XFr.dput (XFr.call (by rw [hG44]; exact XFr.dput XFr.rf (List.mem_of_getElem? (i := 1) rfl)) hF_47 (xm1 1 rfl xm0) xm0 xm0) (List.mem_of_getElem? (i := 0) rfl)) (List.mem_of_getElem? (i := 2) rfl)), (by rw [(show (G149.1 a 3).toInt = ((G_47.1 a 3).toInt) from (congrArg Int32.toInt ((ld_j hG149 (by decide)).trans (ld_j hG135 (by decide)))).trans (rfl : Int32.toInt (G_47.1 a 3) = ((G_47.1 a 3).toInt)))] <;> exact (z_X5_advanceNumber_7 l3_47.toInt ((G.1 (F a 0) 1).toInt) ((G.1 a 2).toInt) ((G_47.1 a 3).toInt) (nS (tC (G.2.1 (F (F a 0) 0)) ((G.1 (F a 0) 1).toInt)) ((G.1 a 2).toInt)) (tC (G.2.1 (F (F a 0) 0)) ((G.1 (F a 0) 1).toInt) ((G.1 a 2).toInt)) s0 z0 I47_0 I47_1)), (v_X5_advanceNumber_152_4 (K := K) (F := F) a G G_47 G149 l2_47 x8 l3_47 N47 x69 x72 ha pr n0 s0 z0 z0a t8 c13 I47_0 I47_1 I47_2 I47_3 hm47 c58 t69 t72 c75 c122 ((ld_j hG149 (by decide)).trans (ld_at hG135)) ((ld_j hG149 (by decide)).trans (ld_j hG135 (by decide))) (ld_at hG149))⟩ hT
            · refine lv_iload_n hx hb dX5_advanceNumber_125 rfl (lv_at hl 3 rfl) ?_
              refine lv_iconst (v := 4) hx hb dX5_advanceNumber_126 (by decide) ?_
              refine xi_cgt (tgt := 134) hx hb (rfl : Int32.toInt l3_47 = l3_47.toInt) ((by decide) : Int32.toInt 4 = (4 : Int)) dX5_advanceNumber_127 (by decide) (fun c127 => ?_) (fun c127 => ?_)
              · refine lv_iconst (v := 3) hx hb dX5_advanceNumber_134 (by decide) ?_
                refine pX5_1 (v := 3) S hK hT hS ha kf_X5_75 dX5_advanceNumber_135 (fun H locs hT hS => ?_)
                obtain ⟨G135, hG135⟩ : ∃ GG : XG, GG = dput G_47 a 1 3 := ⟨_, rfl⟩
                rw [← hG135] at hT
                refine lv_aload_n hx hb dX5_advanceNumber_138 rfl (lv_at hl 0 rfl) ?_
                refine lv_iload_n hx hb dX5_advanceNumber_139 rfl (lv_at hl 1 rfl) ?_
                refine xi_zeq (tgt := 148) hx hb ((by decide) : Int32.toInt 0 = (0 : Int)) dX5_advanceNumber_140 (by decide) (fun _ => ?_) (fun c => absurd (show (0 : Int) = 0 by decide) c)
                refine lv_iload_n hx hb dX5_advanceNumber_148 rfl (lv_at hl 2 rfl) ?_
                refine pX5_4 (v := l2_47) S hK hT hS ha kf_X5_89 dX5_advanceNumber_149 (fun H locs hT hS => ?_)
                obtain ⟨G149, hG149⟩ : ∃ GG : XG, GG = dput G135 a 4 l2_47 := ⟨_, rfl⟩
                rw [← hG149] at hT
                exact x_rv hx hb hr hlk hQ (Nat.le_of_ble_eq_true rfl) (Nat.le_of_ble_eq_true rfl) hS dX5_advanceNumber_152 G149 ⟨(by rw [hG149]; exact XFr.dput (by rw [hG135]; exact XFr.dput (XFr.call (by rw [hG44]; exact XFr.dput XFr.rf (List.mem_of_getElem? (i := 1) rfl)) hF_47 (xm1 1 rfl xm0) xm0 xm0) (List.mem_of_getElem? (i := 0) rfl)) (List.mem_of_getElem? (i := 2) rfl)), (by rw [(show (G149.1 a 3).toInt = ((G_47.1 a 3).toInt) from (congrArg Int32.toInt ((ld_j hG149 (by decide)).trans (ld_j hG135 (by decide)))).trans (rfl : Int32.toInt (G_47.1 a 3) = ((G_47.1 a 3).toInt)))] <;> exact (z_X5_advanceNumber_8 l3_47.toInt ((G.1 (F a 0) 1).toInt) ((G.1 a 2).toInt) ((G_47.1 a 3).toInt) (nS (tC (G.2.1 (F (F a 0) 0)) ((G.1 (F a 0) 1).toInt)) ((G.1 a 2).toInt)) (tC (G.2.1 (F (F a 0) 0)) ((G.1 (F a 0) 1).toInt) ((G.1 a 2).toInt)) s0 z0 I47_0 c58 c127)), (v_X5_advanceNumber_152_5 (K := K) (F := F) a G G_47 G149 l2_47 x8 l3_47 N47 x69 x72 ha pr n0 s0 z0 z0a t8 c13 I47_0 I47_1 I47_2 I47_3 hm47 c58 t69 t72 c75 c122 c127 ((ld_j hG149 (by decide)).trans (ld_at hG135)) ((ld_j hG149 (by decide)).trans (ld_j hG135 (by decide))) (ld_at hG149))⟩ hT
              · refine lv_iconst (v := 2) hx hb dX5_advanceNumber_130 (by decide) ?_
                refine lv_goto (tgt := 135) hx hb dX5_advanceNumber_131 (by decide) ?_
                refine pX5_1 (v := 2) S hK hT hS ha kf_X5_75 dX5_advanceNumber_135 (fun H locs hT hS => ?_)
                obtain ⟨G135, hG135⟩ : ∃ GG : XG, GG = dput G_47 a 1 2 := ⟨_, rfl⟩
                rw [← hG135] at hT
                refine lv_aload_n hx hb dX5_advanceNumber_138 rfl (lv_at hl 0 rfl) ?_
                refine lv_iload_n hx hb dX5_advanceNumber_139 rfl (lv_at hl 1 rfl) ?_
                refine xi_zeq (tgt := 148) hx hb ((by decide) : Int32.toInt 0 = (0 : Int)) dX5_advanceNumber_140 (by decide) (fun _ => ?_) (fun c => absurd (show (0 : Int) = 0 by decide) c)
                refine lv_iload_n hx hb dX5_advanceNumber_148 rfl (lv_at hl 2 rfl) ?_
                refine pX5_4 (v := l2_47) S hK hT hS ha kf_X5_89 dX5_advanceNumber_149 (fun H locs hT hS => ?_)
                obtain ⟨G149, hG149⟩ : ∃ GG : XG, GG = dput G135 a 4 l2_47 := ⟨_, rfl⟩
                rw [← hG149] at hT
                exact x_rv hx hb hr hlk hQ (Nat.le_of_ble_eq_true rfl) (Nat.le_of_ble_eq_true rfl) hS dX5_advanceNumber_152 G149 ⟨(by rw [hG149]; exact XFr.dput (by rw [hG135]; exact XFr.dput (XFr.call (by rw [hG44]; exact XFr.dput XFr.rf (List.mem_of_getElem? (i := 1) rfl)) hF_47 (xm1 1 rfl xm0) xm0 xm0) (List.mem_of_getElem? (i := 0) rfl)) (List.mem_of_getElem? (i := 2) rfl)), (by rw [(show (G149.1 a 3).toInt = ((G_47.1 a 3).toInt) from (congrArg Int32.toInt ((ld_j hG149 (by decide)).trans (ld_j hG135 (by decide)))).trans (rfl : Int32.toInt (G_47.1 a 3) = ((G_47.1 a 3).toInt)))] <;> exact (z_X5_advanceNumber_9 l3_47.toInt ((G.1 (F a 0) 1).toInt) ((G.1 a 2).toInt) ((G_47.1 a 3).toInt) (nS (tC (G.2.1 (F (F a 0) 0)) ((G.1 (F a 0) 1).toInt)) ((G.1 a 2).toInt)) (tC (G.2.1 (F (F a 0) 0)) ((G.1 (F a 0) 1).toInt) ((G.1 a 2).toInt)) s0 z0 I47_0 c58 c122)), (v_X5_advanceNumber_152_6 (K := K) (F := F) a G G_47 G149 l2_47 x8 l3_47 N47 x69 x72 ha pr n0 s0 z0 z0a t8 c13 I47_0 I47_1 I47_2 I47_3 hm47 c58 t69 t72 c75 c122 c127 ((ld_j hG149 (by decide)).trans (ld_at hG135)) ((ld_j hG149 (by decide)).trans (ld_j hG135 (by decide))) (ld_at hG149))⟩ hT
          · have z78 : (nv (tC (G.2.1 (F (F a 0) 0)) ((G.1 (F a 0) 1).toInt)) (nS (tC (G.2.1 (F (F a 0) 0)) ((G.1 (F a 0) 1).toInt)) ((G.1 a 2).toInt)) (l3_47.toInt + 1)) = 10 * (nv (tC (G.2.1 (F (F a 0) 0)) ((G.1 (F a 0) 1).toInt)) (nS (tC (G.2.1 (F (F a 0) 0)) ((G.1 (F a 0) 1).toInt)) ((G.1 a 2).toInt)) (l3_47.toInt)) + ((tC (G.2.1 (F (F a 0) 0)) ((G.1 (F a 0) 1).toInt) ((nS (tC (G.2.1 (F (F a 0) 0)) ((G.1 (F a 0) 1).toInt)) ((G.1 a 2).toInt)) + l3_47.toInt)) - 48) := nv_s (z_X5_advanceNumber_10 l3_47.toInt ((G.1 (F a 0) 1).toInt) ((G_47.1 a 3).toInt) I47_1)
            have z78a : ((G_47.1 a 3).toInt) = (nS (tC (G.2.1 (F (F a 0) 0)) ((G.1 (F a 0) 1).toInt)) ((G.1 a 2).toInt)) + l3_47.toInt → (tC (G.2.1 (F (F a 0) 0)) ((G.1 (F a 0) 1).toInt) ((nS (tC (G.2.1 (F (F a 0) 0)) ((G.1 (F a 0) 1).toInt)) ((G.1 a 2).toInt)) + l3_47.toInt)) = (tC (G.2.1 (F (F a 0) 0)) ((G.1 (F a 0) 1).toInt) ((G_47.1 a 3).toInt)) := fun h9 => by rw [h9]
            refine lv_iload_n hx hb dX5_advanceNumber_78 rfl (lv_at hl 3 rfl) ?_
            refine lv_iconst (v := 4) hx hb dX5_advanceNumber_79 (by decide) ?_
            refine xi_cge (tgt := 103) hx hb (rfl : Int32.toInt l3_47 = l3_47.toInt) ((by decide) : Int32.toInt 4 = (4 : Int)) dX5_advanceNumber_80 (by decide) (fun c80 => ?_) (fun c80 => ?_)
            · refine xi_iinc (n := 1) (lv' := fun z9 => [(3, .int z9), (0, .ref a), (1, .int 0), (2, .int l2_47)]) (k := 3) hx hb (rfl : Int32.toInt l3_47 = l3_47.toInt) (by decide) dX5_advanceNumber_103 hl rfl (by decide) (fun _ => rfl) (fun x103 ls t103 hl => ?_)
              have e103 : x103.toInt = (l3_47.toInt + 1) := (z_X5_advanceNumber_11 l3_47.toInt x103.toInt ((G.1 (F a 0) 1).toInt) ((G.1 a 2).toInt) ((G_47.1 a 3).toInt) (nS (tC (G.2.1 (F (F a 0) 0)) ((G.1 (F a 0) 1).toInt)) ((G.1 a 2).toInt)) (tC (G.2.1 (F (F a 0) 0)) ((G.1 (F a 0) 1).toInt) ((G.1 a 2).toInt)) n0 s0 z0 I47_0 c58 c80 t103)
              have hl : lv_has ls 4 [(3, .int x103), (0, .ref a), (1, .int 0), (2, .int l2_47)] := hl
              refine lv_aload_n hx hb dX5_advanceNumber_106 rfl (lv_at hl 1 rfl) ?_
              refine lv_dup hx hb dX5_advanceNumber_107 rfl ?_
              refine gX5_3 S hK hT ha kf_X5_19 dX5_advanceNumber_108 (v := (G_47.1 a 3)) rfl (?_)
              refine lv_iconst (v := 1) hx hb dX5_advanceNumber_111 (by decide) ?_
              refine xi_iadd hx hb (rfl : Int32.toInt (G_47.1 a 3) = ((G_47.1 a 3).toInt)) ((by decide) : Int32.toInt 1 = (1 : Int)) dX5_advanceNumber_112 (fun x112 t112 => ?_)
              have e112 : x112.toInt = (((G_47.1 a 3).toInt) + (1 : Int)) := (z_X5_advanceWord_5 x112.toInt ((G.1 (F a 0) 1).toInt) ((G_47.1 a 3).toInt) n0 c58 t112 (xr (G_47.1 a 3)))
              refine pX5_3 (v := x112) S hK hT hS ha kf_X5_19 dX5_advanceNumber_113 (fun H locs hT hS => ?_)
              obtain ⟨G113, hG113⟩ : ∃ GG : XG, GG = dput G_47 a 3 x112 := ⟨_, rfl⟩
              rw [← hG113] at hT
              refine lv_goto (tgt := 47) hx hb dX5_advanceNumber_116 (by decide) ?_
              exact ih47 l2_47 x103 G113 _ _ _ (by rw [hG113]; exact XFr.dput (XFr.call XFr.rf hF_47 (xm1 0 rfl xm0) xm0 xm0) (List.mem_of_getElem? (i := 0) rfl)) (by rw [(show (G113.1 a 3).toInt = (((G_47.1 a 3).toInt) + (1 : Int)) from (congrArg Int32.toInt (ld_at hG113)).trans (e112 : Int32.toInt x112 = (((G_47.1 a 3).toInt) + (1 : Int))))] <;> exact (v_X5_advanceNumber_116_7 (K := K) (F := F) a G G_47 l3_47 x8 l2_47 N47 x69 x72 ha pr n0 s0 z0 z0a t8 c13 I47_0 I47_1 I47_2 I47_3 hm47 c58 t69 t72 c75 z78 z78a c80)) (by rw [(e103 : Int32.toInt x103 = (l3_47.toInt + 1)), (show (G113.1 a 3).toInt = (((G_47.1 a 3).toInt) + (1 : Int)) from (congrArg Int32.toInt (ld_at hG113)).trans (e112 : Int32.toInt x112 = (((G_47.1 a 3).toInt) + (1 : Int))))] <;> exact (z_X5_advanceNumber_13 l3_47.toInt ((G_47.1 a 3).toInt) (nS (tC (G.2.1 (F (F a 0) 0)) ((G.1 (F a 0) 1).toInt)) ((G.1 a 2).toInt)) I47_0)) (by rw [(e103 : Int32.toInt x103 = (l3_47.toInt + 1)), (show (G113.1 a 3).toInt = (((G_47.1 a 3).toInt) + (1 : Int)) from (congrArg Int32.toInt (ld_at hG113)).trans (e112 : Int32.toInt x112 = (((G_47.1 a 3).toInt) + (1 : Int))))] <;> exact (z_X5_advanceNumber_14 l3_47.toInt ((G.1 (F a 0) 1).toInt) ((G_47.1 a 3).toInt) c58 c80)) (by rw [(e103 : Int32.toInt x103 = (l3_47.toInt + 1))] <;> exact (z_X5_advanceNumber_15 l2_47.toInt l3_47.toInt I47_2)) (by rw [(e103 : Int32.toInt x103 = (l3_47.toInt + 1))] <;> exact (z_X5_advanceNumber_16 l2_47.toInt l3_47.toInt (nv (tC (G.2.1 (F (F a 0) 0)) ((G.1 (F a 0) 1).toInt)) (nS (tC (G.2.1 (F (F a 0) 0)) ((G.1 (F a 0) 1).toInt)) ((G.1 a 2).toInt)) (l3_47.toInt + 1)) c80)) (by rw [(show (G113.1 a 3).toInt = (((G_47.1 a 3).toInt) + (1 : Int)) from (congrArg Int32.toInt (ld_at hG113)).trans (e112 : Int32.toInt x112 = (((G_47.1 a 3).toInt) + (1 : Int))))] <;> exact (z_X5_advanceWord_7 N47 ((G_47.1 a 3).toInt) hm47)) hT hS (lv_sub hl [1, 2, 3, 0] rfl)
            · refine lv_iload_n hx hb dX5_advanceNumber_83 rfl (lv_at hl 2 rfl) ?_
              refine lv_bipush (v := 10) hx hb dX5_advanceNumber_84 (by decide) ?_
              refine xi_imul hx hb (rfl : Int32.toInt l2_47 = l2_47.toInt) ((by decide) : Int32.toInt 10 = (10 : Int)) dX5_advanceNumber_86 (fun x86 t86 => ?_)
              have e86 : x86.toInt = (l2_47.toInt * (10 : Int)) := (z_X5_advanceNumber_18 l2_47.toInt l3_47.toInt x86.toInt I47_2 t86)
              refine lv_aload_n hx hb dX5_advanceNumber_87 rfl (lv_at hl 0 rfl) ?_
              refine gX5_0 S hK hT ha kf_X5_9 dX5_advanceNumber_88 (fun _ _ => ?_)
              refine lv_aload_n hx hb dX5_advanceNumber_91 rfl (lv_at hl 0 rfl) ?_
              refine gX5_3 S hK hT ha kf_X5_19 dX5_advanceNumber_92 (v := (G_47.1 a 3)) rfl (?_)
              refine x_clp (x_runV (b := (F a 0)) (As := [.int (G_47.1 a 3)]) (rest := [.int x86]) S (c_X8_signAt l E K F G_47 H (F a 0) (G_47.1 a 3) hk9999 (by rw [(show (G_47.1 (F a 0) 1).toInt = ((G.1 (F a 0) 1).toInt) from (congrArg Int32.toInt ((hF_47.1 _ _ (xnj (by decide) xn0)).trans (ld_j hG44 (by decide)))).trans (rfl : Int32.toInt (G.1 (F a 0) 1) = ((G.1 (F a 0) 1).toInt)))] <;> exact (n0))) mv_X8_signAt km_X5_97 rfl rfl ⟨Nat.le_of_ble_eq_true rfl, Nat.le_of_ble_eq_true rfl⟩ (rc_10 hK hT hk9999) hK (fun _ => XPh.blind) (fun U hU hW => XPh.at hK hz hS hT hU hW) rfl hl.1 (Nat.le_of_ble_eq_true rfl) dX5_advanceNumber_95 ⟨Nat.le_of_ble_eq_true rfl, Nat.le_of_ble_eq_true rfl⟩) hS ?_
              rintro _ _ locs ⟨x95, rfl, b95, t95⟩ hS
              have t95 : x95.toInt = (tC (G.2.1 (F (F a 0) 0)) ((G.1 (F a 0) 1).toInt) ((G_47.1 a 3).toInt)) := by rw [(show G_47.2.1 (F (F a 0) 0) = G.2.1 (F (F a 0) 0) from ((hF_47.2.1 _ xn0).trans (ld_c hG44)))] at t95; rw [(show (G_47.1 (F a 0) 1).toInt = ((G.1 (F a 0) 1).toInt) from (congrArg Int32.toInt ((hF_47.1 _ _ (xnj (by decide) xn0)).trans (ld_j hG44 (by decide)))).trans (rfl : Int32.toInt (G.1 (F a 0) 1) = ((G.1 (F a 0) 1).toInt)))] at t95; exact t95
              refine lv_bipush (v := 48) hx hb dX5_advanceNumber_98 (by decide) ?_
              refine xi_isub hx hb (rfl : Int32.toInt x95 = x95.toInt) ((by decide) : Int32.toInt 48 = (48 : Int)) dX5_advanceNumber_100 (fun x100 t100 => ?_)
              have e100 : x100.toInt = (x95.toInt - (48 : Int)) := (z_X5_advanceNumber_20 x100.toInt x69.toInt x72.toInt x95.toInt (tC (G.2.1 (F (F a 0) 0)) ((G.1 (F a 0) 1).toInt) ((G_47.1 a 3).toInt)) t69 t72 c75 t95 t100)
              refine xi_iadd hx hb (e86 : Int32.toInt x86 = (l2_47.toInt * (10 : Int))) (e100 : Int32.toInt x100 = (x95.toInt - (48 : Int))) dX5_advanceNumber_101 (fun x101 t101 => ?_)
              have e101 : x101.toInt = ((l2_47.toInt * (10 : Int)) + (x95.toInt - (48 : Int))) := (z_X5_advanceNumber_21 l2_47.toInt l3_47.toInt x101.toInt x69.toInt x72.toInt x95.toInt (tC (G.2.1 (F (F a 0) 0)) ((G.1 (F a 0) 1).toInt) ((G_47.1 a 3).toInt)) I47_2 t69 t72 c75 t95 t101)
              refine lv_istore_n (lv' := [(2, .int x101), (0, .ref a), (1, .int 0), (3, .int l3_47)]) hx hb dX5_advanceNumber_102 rfl hl (by decide) rfl (fun ls hl => ?_)
              refine xi_iinc (n := 1) (lv' := fun z9 => [(3, .int z9), (2, .int x101), (0, .ref a), (1, .int 0)]) (k := 3) hx hb (rfl : Int32.toInt l3_47 = l3_47.toInt) (by decide) dX5_advanceNumber_103 hl rfl (by decide) (fun _ => rfl) (fun x103 ls t103 hl => ?_)
              have e103 : x103.toInt = (l3_47.toInt + 1) := (z_X5_advanceNumber_22 l3_47.toInt x103.toInt ((G.1 (F a 0) 1).toInt) ((G_47.1 a 3).toInt) I47_1 c80 t103)
              have hl : lv_has ls 4 [(3, .int x103), (2, .int x101), (0, .ref a), (1, .int 0)] := hl
              refine lv_aload_n hx hb dX5_advanceNumber_106 rfl (lv_at hl 2 rfl) ?_
              refine lv_dup hx hb dX5_advanceNumber_107 rfl ?_
              refine gX5_3 S hK hT ha kf_X5_19 dX5_advanceNumber_108 (v := (G_47.1 a 3)) rfl (?_)
              refine lv_iconst (v := 1) hx hb dX5_advanceNumber_111 (by decide) ?_
              refine xi_iadd hx hb (rfl : Int32.toInt (G_47.1 a 3) = ((G_47.1 a 3).toInt)) ((by decide) : Int32.toInt 1 = (1 : Int)) dX5_advanceNumber_112 (fun x112 t112 => ?_)
              have e112 : x112.toInt = (((G_47.1 a 3).toInt) + (1 : Int)) := (z_X5_advanceWord_5 x112.toInt ((G.1 (F a 0) 1).toInt) ((G_47.1 a 3).toInt) n0 c58 t112 (xr (G_47.1 a 3)))
              refine pX5_3 (v := x112) S hK hT hS ha kf_X5_19 dX5_advanceNumber_113 (fun H locs hT hS => ?_)
              obtain ⟨G113, hG113⟩ : ∃ GG : XG, GG = dput G_47 a 3 x112 := ⟨_, rfl⟩
              rw [← hG113] at hT
              refine lv_goto (tgt := 47) hx hb dX5_advanceNumber_116 (by decide) ?_
              exact ih47 x101 x103 G113 _ _ _ (by rw [hG113]; exact XFr.dput (XFr.call XFr.rf hF_47 (xm1 0 rfl xm0) xm0 xm0) (List.mem_of_getElem? (i := 0) rfl)) (by rw [(show (G113.1 a 3).toInt = (((G_47.1 a 3).toInt) + (1 : Int)) from (congrArg Int32.toInt (ld_at hG113)).trans (e112 : Int32.toInt x112 = (((G_47.1 a 3).toInt) + (1 : Int))))] <;> exact (v_X5_advanceNumber_116_8 (K := K) (F := F) a G G_47 l2_47 l3_47 x8 N47 x69 x72 ha pr n0 s0 z0 z0a t8 c13 I47_0 I47_1 I47_2 I47_3 hm47 c58 t69 t72 c75 z78 z78a c80)) (by rw [(e103 : Int32.toInt x103 = (l3_47.toInt + 1)), (show (G113.1 a 3).toInt = (((G_47.1 a 3).toInt) + (1 : Int)) from (congrArg Int32.toInt (ld_at hG113)).trans (e112 : Int32.toInt x112 = (((G_47.1 a 3).toInt) + (1 : Int))))] <;> exact (z_X5_advanceNumber_13 l3_47.toInt ((G_47.1 a 3).toInt) (nS (tC (G.2.1 (F (F a 0) 0)) ((G.1 (F a 0) 1).toInt)) ((G.1 a 2).toInt)) I47_0)) (by rw [(e103 : Int32.toInt x103 = (l3_47.toInt + 1)), (show (G113.1 a 3).toInt = (((G_47.1 a 3).toInt) + (1 : Int)) from (congrArg Int32.toInt (ld_at hG113)).trans (e112 : Int32.toInt x112 = (((G_47.1 a 3).toInt) + (1 : Int))))] <;> exact (z_X5_advanceNumber_25 l3_47.toInt ((G.1 (F a 0) 1).toInt) ((G_47.1 a 3).toInt) I47_1 c58)) (by rw [(e103 : Int32.toInt x103 = (l3_47.toInt + 1)), (e101 : Int32.toInt x101 = ((l2_47.toInt * (10 : Int)) + (x95.toInt - (48 : Int))))] <;> exact (z_X5_advanceNumber_26 l2_47.toInt l3_47.toInt x69.toInt x72.toInt x95.toInt (tC (G.2.1 (F (F a 0) 0)) ((G.1 (F a 0) 1).toInt) ((G_47.1 a 3).toInt)) I47_2 t69 t72 c75 c80 t95)) (by rw [(e103 : Int32.toInt x103 = (l3_47.toInt + 1)), (e101 : Int32.toInt x101 = ((l2_47.toInt * (10 : Int)) + (x95.toInt - (48 : Int))))] <;> exact (z_X5_advanceNumber_27 l2_47.toInt l3_47.toInt x95.toInt ((G_47.1 a 3).toInt) (nS (tC (G.2.1 (F (F a 0) 0)) ((G.1 (F a 0) 1).toInt)) ((G.1 a 2).toInt)) (nv (tC (G.2.1 (F (F a 0) 0)) ((G.1 (F a 0) 1).toInt)) (nS (tC (G.2.1 (F (F a 0) 0)) ((G.1 (F a 0) 1).toInt)) ((G.1 a 2).toInt)) (l3_47.toInt + 1)) (nv (tC (G.2.1 (F (F a 0) 0)) ((G.1 (F a 0) 1).toInt)) (nS (tC (G.2.1 (F (F a 0) 0)) ((G.1 (F a 0) 1).toInt)) ((G.1 a 2).toInt)) (l3_47.toInt)) (tC (G.2.1 (F (F a 0) 0)) ((G.1 (F a 0) 1).toInt) ((G_47.1 a 3).toInt)) (tC (G.2.1 (F (F a 0) 0)) ((G.1 (F a 0) 1).toInt) ((nS (tC (G.2.1 (F (F a 0) 0)) ((G.1 (F a 0) 1).toInt)) ((G.1 a 2).toInt)) + l3_47.toInt)) I47_0 I47_3 z78 z78a t95)) (by rw [(show (G113.1 a 3).toInt = (((G_47.1 a 3).toInt) + (1 : Int)) from (congrArg Int32.toInt (ld_at hG113)).trans (e112 : Int32.toInt x112 = (((G_47.1 a 3).toInt) + (1 : Int))))] <;> exact (z_X5_advanceWord_7 N47 ((G_47.1 a 3).toInt) hm47)) hT hS (lv_sub hl [2, 3, 1, 0] rfl)
    exact L47 4294967297 0 0 G44 _ _ _ XFr.rf (by rw [(show (G44.1 a 3).toInt = ((G.1 a 2).toInt) from (congrArg Int32.toInt (ld_at hG44)).trans (rfl : Int32.toInt (G.1 a 2) = ((G.1 a 2).toInt)))] <;> exact (v_X5_advanceNumber_44_9 (K := K) (F := F) a G x8 ha n0 s0 z0 z0a t8 c13)) (by rw [(show (G44.1 a 3).toInt = ((G.1 a 2).toInt) from (congrArg Int32.toInt (ld_at hG44)).trans (rfl : Int32.toInt (G.1 a 2) = ((G.1 a 2).toInt)))] <;> exact (z_X5_advanceNumber_29 x8.toInt ((G.1 a 2).toInt) (nS (tC (G.2.1 (F (F a 0) 0)) ((G.1 (F a 0) 1).toInt)) ((G.1 a 2).toInt)) (tC (G.2.1 (F (F a 0) 0)) ((G.1 (F a 0) 1).toInt) ((G.1 a 2).toInt)) z0 t8 c13)) (by rw [(show (G44.1 a 3).toInt = ((G.1 a 2).toInt) from (congrArg Int32.toInt (ld_at hG44)).trans (rfl : Int32.toInt (G.1 a 2) = ((G.1 a 2).toInt)))] <;> exact (z_X5_advanceNumber_30 ((G.1 (F a 0) 1).toInt) ((G.1 a 2).toInt) s0)) (by decide) (z_X5_advanceNumber_31 (nv (tC (G.2.1 (F (F a 0) 0)) ((G.1 (F a 0) 1).toInt)) (nS (tC (G.2.1 (F (F a 0) 0)) ((G.1 (F a 0) 1).toInt)) ((G.1 a 2).toInt)) 0) z0a) (by rw [(show (G44.1 a 3).toInt = ((G.1 a 2).toInt) from (congrArg Int32.toInt (ld_at hG44)).trans (rfl : Int32.toInt (G.1 a 2) = ((G.1 a 2).toInt)))] <;> exact (z_X5_advanceNumber_32 ((G.1 (F a 0) 1).toInt) ((G.1 a 2).toInt) s0)) hT hS (lv_sub hl [3, 2, 1, 0] rfl)
  · refine lv_iconst (v := 1) hx hb dX5_advanceNumber_16 (by decide) ?_
    refine lv_goto (tgt := 21) hx hb dX5_advanceNumber_17 (by decide) ?_
    refine lv_istore_n (lv' := [(1, .int 1), (0, .ref a)]) hx hb dX5_advanceNumber_21 rfl hl (by decide) rfl (fun ls hl => ?_)
    refine lv_iconst (v := 0) hx hb dX5_advanceNumber_22 (by decide) ?_
    refine lv_istore_n (lv' := [(2, .int 0), (1, .int 1), (0, .ref a)]) hx hb dX5_advanceNumber_23 rfl hl (by decide) rfl (fun ls hl => ?_)
    refine lv_iconst (v := 0) hx hb dX5_advanceNumber_24 (by decide) ?_
    refine lv_istore_n (lv' := [(3, .int 0), (2, .int 0), (1, .int 1), (0, .ref a)]) hx hb dX5_advanceNumber_25 rfl hl (by decide) rfl (fun ls hl => ?_)
    refine lv_aload_n hx hb dX5_advanceNumber_26 rfl (lv_at hl 3 rfl) ?_
    refine lv_iload_n hx hb dX5_advanceNumber_27 rfl (lv_at hl 2 rfl) ?_
    refine xi_zeq (tgt := 40) hx hb ((by decide) : Int32.toInt 1 = (1 : Int)) dX5_advanceNumber_28 (by decide) (fun c => absurd c (show ¬ ((1 : Int) = 0) by decide)) (fun _ => ?_)
    refine lv_aload_n hx hb dX5_advanceNumber_31 rfl (lv_at hl 3 rfl) ?_
    refine gX5_2 S hK hT ha kf_X5_78 dX5_advanceNumber_32 (v := (G.1 a 2)) rfl (?_)
    refine lv_iconst (v := 1) hx hb dX5_advanceNumber_35 (by decide) ?_
    refine xi_iadd hx hb (rfl : Int32.toInt (G.1 a 2) = ((G.1 a 2).toInt)) ((by decide) : Int32.toInt 1 = (1 : Int)) dX5_advanceNumber_36 (fun x36 t36 => ?_)
    have e36 : x36.toInt = (((G.1 a 2).toInt) + (1 : Int)) := (z_X5_advanceNumber_33 x36.toInt ((G.1 (F a 0) 1).toInt) ((G.1 a 2).toInt) n0 s0 t36)
    refine lv_goto (tgt := 44) hx hb dX5_advanceNumber_37 (by decide) ?_
    refine pX5_3 (v := x36) S hK hT hS ha kf_X5_19 dX5_advanceNumber_44 (fun H locs hT hS => ?_)
    obtain ⟨G44, hG44⟩ : ∃ GG : XG, GG = dput G a 3 x36 := ⟨_, rfl⟩
    rw [← hG44] at hT
    have L47 : ∀ (N47 : Nat) (l2_47 : Int32) (l3_47 : Int32) (G_47 : XG) (H : Heap) (locs : List Loc) (ls : Array Slot), XFr [(a, 3)] [] [] G44 G_47 → (∀ j : Int, nS (tC (G.2.1 (F (F a 0) 0)) ((G.1 (F a 0) 1).toInt)) ((G.1 a 2).toInt) ≤ j → j < ((G_47.1 a 3).toInt) → cDg ((tC (G.2.1 (F (F a 0) 0)) ((G.1 (F a 0) 1).toInt)) j)) → ((G_47.1 a 3).toInt) = (nS (tC (G.2.1 (F (F a 0) 0)) ((G.1 (F a 0) 1).toInt)) ((G.1 a 2).toInt)) + l3_47.toInt → 0 ≤ l3_47.toInt ∧ ((G_47.1 a 3).toInt) ≤ ((G.1 (F a 0) 1).toInt) → (l3_47.toInt = 0 ∧ l2_47.toInt = 0) ∨ (l3_47.toInt = 1 ∧ 0 ≤ l2_47.toInt ∧ l2_47.toInt ≤ 9) ∨ (l3_47.toInt = 2 ∧ 0 ≤ l2_47.toInt ∧ l2_47.toInt ≤ 99) ∨ (l3_47.toInt = 3 ∧ 0 ≤ l2_47.toInt ∧ l2_47.toInt ≤ 999) ∨ (4 ≤ l3_47.toInt ∧ 0 ≤ l2_47.toInt ∧ l2_47.toInt ≤ 9999) → (l3_47.toInt ≤ 4 → l2_47.toInt = (nv (tC (G.2.1 (F (F a 0) 0)) ((G.1 (F a 0) 1).toInt)) (nS (tC (G.2.1 (F (F a 0) 0)) ((G.1 (F a 0) 1).toInt)) ((G.1 a 2).toInt)) (l3_47.toInt))) → 200 - ((G_47.1 a 3).toInt) < ((N47 : Nat) : Int) → TW E K F G_47 H → va_S (xA E) s.heap H locs → lv_has ls 4 [(0, .ref a), (1, .int 1), (2, .int l2_47), (3, .int l3_47)] → W p l e rm_X5_advanceNumber s m args below meth c H locs 0 0 Q (F0 m 47 ls []) := by
      intro N47
      induction N47 with
      | zero =>
        intro l2_47 l3_47 G_47 H locs ls hF_47 pr I47_0 I47_1 I47_2 I47_3 hm47
        exact absurd hm47 (z_X5_advanceNumber_2 l3_47.toInt ((G.1 (F a 0) 1).toInt) ((G_47.1 a 3).toInt) I47_1 n0)
      | succ N47 ih47 =>
        intro l2_47 l3_47 G_47 H locs ls hF_47 pr I47_0 I47_1 I47_2 I47_3 hm47 hT hS hl
        refine lv_aload_n hx hb dX5_advanceNumber_47 rfl (lv_at hl 0 rfl) ?_
        refine gX5_3 S hK hT ha kf_X5_19 dX5_advanceNumber_48 (v := (G_47.1 a 3)) rfl (?_)
        refine lv_aload_n hx hb dX5_advanceNumber_51 rfl (lv_at hl 0 rfl) ?_
        refine gX5_0 S hK hT ha kf_X5_9 dX5_advanceNumber_52 (fun _ _ => ?_)
        refine x_clp (x_runV (b := (F a 0)) (As := []) (rest := [.int (G_47.1 a 3)]) S (c_X8_length l E K F G_47 H (F a 0) hk9999) mv_X8_length km_X5_106 rfl rfl ⟨Nat.le_of_ble_eq_true rfl, Nat.le_of_ble_eq_true rfl⟩ (rc_10 hK hT hk9999) hK (fun _ => XPh.blind) (fun U hU hW => XPh.at hK hz hS hT hU hW) rfl hl.1 (Nat.le_of_ble_eq_true rfl) dX5_advanceNumber_55 ⟨Nat.le_of_ble_eq_true rfl, Nat.le_of_ble_eq_true rfl⟩) hS ?_
        rintro _ _ locs ⟨x55, rfl, t55⟩ hS
        have t55 : x55.toInt = ((G.1 (F a 0) 1).toInt) := by rw [(show (G_47.1 (F a 0) 1).toInt = ((G.1 (F a 0) 1).toInt) from (congrArg Int32.toInt ((hF_47.1 _ _ (xnj (by decide) xn0)).trans (ld_j hG44 (by decide)))).trans (rfl : Int32.toInt (G.1 (F a 0) 1) = ((G.1 (F a 0) 1).toInt)))] at t55; exact t55
        refine xi_cge (tgt := 119) hx hb (rfl : Int32.toInt (G_47.1 a 3) = ((G_47.1 a 3).toInt)) (t55 : Int32.toInt x55 = ((G.1 (F a 0) 1).toInt)) dX5_advanceNumber_58 (by decide) (fun c58 => ?_) (fun c58 => ?_)
        · refine lv_aload_n hx hb dX5_advanceNumber_119 rfl (lv_at hl 0 rfl) ?_
          refine lv_iload_n hx hb dX5_advanceNumber_120 rfl (lv_at hl 3 rfl) ?_
          refine lv_iconst (v := 1) hx hb dX5_advanceNumber_121 (by decide) ?_
          refine xi_clt (tgt := 134) hx hb (rfl : Int32.toInt l3_47 = l3_47.toInt) ((by decide) : Int32.toInt 1 = (1 : Int)) dX5_advanceNumber_122 (by decide) (fun c122 => ?_) (fun c122 => ?_)
          · refine lv_iconst (v := 3) hx hb dX5_advanceNumber_134 (by decide) ?_
            refine pX5_1 (v := 3) S hK hT hS ha kf_X5_75 dX5_advanceNumber_135 (fun H locs hT hS => ?_)
            obtain ⟨G135, hG135⟩ : ∃ GG : XG, GG = dput G_47 a 1 3 := ⟨_, rfl⟩
            rw [← hG135] at hT
            refine lv_aload_n hx hb dX5_advanceNumber_138 rfl (lv_at hl 0 rfl) ?_
            refine lv_iload_n hx hb dX5_advanceNumber_139 rfl (lv_at hl 1 rfl) ?_
            refine xi_zeq (tgt := 148) hx hb ((by decide) : Int32.toInt 1 = (1 : Int)) dX5_advanceNumber_140 (by decide) (fun c => absurd c (show ¬ ((1 : Int) = 0) by decide)) (fun _ => ?_)
            refine lv_iload_n hx hb dX5_advanceNumber_143 rfl (lv_at hl 2 rfl) ?_
            refine xi_ineg hx hb (rfl : Int32.toInt l2_47 = l2_47.toInt) dX5_advanceNumber_144 (fun x144 t144 => ?_)
            refine lv_goto (tgt := 149) hx hb dX5_advanceNumber_145 (by decide) ?_
            refine pX5_4 (v := x144) S hK hT hS ha kf_X5_89 dX5_advanceNumber_149 (fun H locs hT hS => ?_)
            obtain ⟨G149, hG149⟩ : ∃ GG : XG, GG = dput G135 a 4 x144 := ⟨_, rfl⟩
            rw [← hG149] at hT
            exact x_rv hx hb hr hlk hQ (Nat.le_of_ble_eq_true rfl) (Nat.le_of_ble_eq_true rfl) hS dX5_advanceNumber_152 G149 ⟨(by rw [hG149]; exact XFr.dput (by rw [hG135]; exact XFr.dput (XFr.call (by rw [hG44]; exact XFr.dput XFr.rf (List.mem_of_getElem? (i := 1) rfl)) hF_47 (xm1 1 rfl xm0) xm0 xm0) (List.mem_of_getElem? (i := 0) rfl)) (List.mem_of_getElem? (i := 2) rfl)), (by rw [(show (G149.1 a 3).toInt = ((G_47.1 a 3).toInt) from (congrArg Int32.toInt ((ld_j hG149 (by decide)).trans (ld_j hG135 (by decide)))).trans (rfl : Int32.toInt (G_47.1 a 3) = ((G_47.1 a 3).toInt)))] <;> exact (z_X5_advanceNumber_3 l3_47.toInt ((G.1 (F a 0) 1).toInt) ((G.1 a 2).toInt) ((G_47.1 a 3).toInt) s0 I47_1 c58)), (v_X5_advanceNumber_152_10 (K := K) (F := F) a G G_47 G149 x144 x8 l3_47 l2_47 N47 ha pr n0 s0 z0 z0a t8 c13 I47_0 I47_1 I47_2 I47_3 hm47 c58 c122 t144 ((ld_j hG149 (by decide)).trans (ld_at hG135)) ((ld_j hG149 (by decide)).trans (ld_j hG135 (by decide))) (ld_at hG149))⟩ hT
          · refine lv_iload_n hx hb dX5_advanceNumber_125 rfl (lv_at hl 3 rfl) ?_
            refine lv_iconst (v := 4) hx hb dX5_advanceNumber_126 (by decide) ?_
            refine xi_cgt (tgt := 134) hx hb (rfl : Int32.toInt l3_47 = l3_47.toInt) ((by decide) : Int32.toInt 4 = (4 : Int)) dX5_advanceNumber_127 (by decide) (fun c127 => ?_) (fun c127 => ?_)
            · refine lv_iconst (v := 3) hx hb dX5_advanceNumber_134 (by decide) ?_
              refine pX5_1 (v := 3) S hK hT hS ha kf_X5_75 dX5_advanceNumber_135 (fun H locs hT hS => ?_)
              obtain ⟨G135, hG135⟩ : ∃ GG : XG, GG = dput G_47 a 1 3 := ⟨_, rfl⟩
              rw [← hG135] at hT
              refine lv_aload_n hx hb dX5_advanceNumber_138 rfl (lv_at hl 0 rfl) ?_
              refine lv_iload_n hx hb dX5_advanceNumber_139 rfl (lv_at hl 1 rfl) ?_
              refine xi_zeq (tgt := 148) hx hb ((by decide) : Int32.toInt 1 = (1 : Int)) dX5_advanceNumber_140 (by decide) (fun c => absurd c (show ¬ ((1 : Int) = 0) by decide)) (fun _ => ?_)
              refine lv_iload_n hx hb dX5_advanceNumber_143 rfl (lv_at hl 2 rfl) ?_
              refine xi_ineg hx hb (rfl : Int32.toInt l2_47 = l2_47.toInt) dX5_advanceNumber_144 (fun x144 t144 => ?_)
              refine lv_goto (tgt := 149) hx hb dX5_advanceNumber_145 (by decide) ?_
              refine pX5_4 (v := x144) S hK hT hS ha kf_X5_89 dX5_advanceNumber_149 (fun H locs hT hS => ?_)
              obtain ⟨G149, hG149⟩ : ∃ GG : XG, GG = dput G135 a 4 x144 := ⟨_, rfl⟩
              rw [← hG149] at hT
              exact x_rv hx hb hr hlk hQ (Nat.le_of_ble_eq_true rfl) (Nat.le_of_ble_eq_true rfl) hS dX5_advanceNumber_152 G149 ⟨(by rw [hG149]; exact XFr.dput (by rw [hG135]; exact XFr.dput (XFr.call (by rw [hG44]; exact XFr.dput XFr.rf (List.mem_of_getElem? (i := 1) rfl)) hF_47 (xm1 1 rfl xm0) xm0 xm0) (List.mem_of_getElem? (i := 0) rfl)) (List.mem_of_getElem? (i := 2) rfl)), (by rw [(show (G149.1 a 3).toInt = ((G_47.1 a 3).toInt) from (congrArg Int32.toInt ((ld_j hG149 (by decide)).trans (ld_j hG135 (by decide)))).trans (rfl : Int32.toInt (G_47.1 a 3) = ((G_47.1 a 3).toInt)))] <;> exact (z_X5_advanceNumber_3 l3_47.toInt ((G.1 (F a 0) 1).toInt) ((G.1 a 2).toInt) ((G_47.1 a 3).toInt) s0 I47_1 c58)), (v_X5_advanceNumber_152_11 (K := K) (F := F) a G G_47 G149 x144 x8 l3_47 l2_47 N47 ha pr n0 s0 z0 z0a t8 c13 I47_0 I47_1 I47_2 I47_3 hm47 c58 c122 c127 t144 ((ld_j hG149 (by decide)).trans (ld_at hG135)) ((ld_j hG149 (by decide)).trans (ld_j hG135 (by decide))) (ld_at hG149))⟩ hT
            · refine lv_iconst (v := 2) hx hb dX5_advanceNumber_130 (by decide) ?_
              refine lv_goto (tgt := 135) hx hb dX5_advanceNumber_131 (by decide) ?_
              refine pX5_1 (v := 2) S hK hT hS ha kf_X5_75 dX5_advanceNumber_135 (fun H locs hT hS => ?_)
              obtain ⟨G135, hG135⟩ : ∃ GG : XG, GG = dput G_47 a 1 2 := ⟨_, rfl⟩
              rw [← hG135] at hT
              refine lv_aload_n hx hb dX5_advanceNumber_138 rfl (lv_at hl 0 rfl) ?_
              refine lv_iload_n hx hb dX5_advanceNumber_139 rfl (lv_at hl 1 rfl) ?_
              refine xi_zeq (tgt := 148) hx hb ((by decide) : Int32.toInt 1 = (1 : Int)) dX5_advanceNumber_140 (by decide) (fun c => absurd c (show ¬ ((1 : Int) = 0) by decide)) (fun _ => ?_)
              refine lv_iload_n hx hb dX5_advanceNumber_143 rfl (lv_at hl 2 rfl) ?_
              refine xi_ineg hx hb (rfl : Int32.toInt l2_47 = l2_47.toInt) dX5_advanceNumber_144 (fun x144 t144 => ?_)
              refine lv_goto (tgt := 149) hx hb dX5_advanceNumber_145 (by decide) ?_
              refine pX5_4 (v := x144) S hK hT hS ha kf_X5_89 dX5_advanceNumber_149 (fun H locs hT hS => ?_)
              obtain ⟨G149, hG149⟩ : ∃ GG : XG, GG = dput G135 a 4 x144 := ⟨_, rfl⟩
              rw [← hG149] at hT
              exact x_rv hx hb hr hlk hQ (Nat.le_of_ble_eq_true rfl) (Nat.le_of_ble_eq_true rfl) hS dX5_advanceNumber_152 G149 ⟨(by rw [hG149]; exact XFr.dput (by rw [hG135]; exact XFr.dput (XFr.call (by rw [hG44]; exact XFr.dput XFr.rf (List.mem_of_getElem? (i := 1) rfl)) hF_47 (xm1 1 rfl xm0) xm0 xm0) (List.mem_of_getElem? (i := 0) rfl)) (List.mem_of_getElem? (i := 2) rfl)), (by rw [(show (G149.1 a 3).toInt = ((G_47.1 a 3).toInt) from (congrArg Int32.toInt ((ld_j hG149 (by decide)).trans (ld_j hG135 (by decide)))).trans (rfl : Int32.toInt (G_47.1 a 3) = ((G_47.1 a 3).toInt)))] <;> exact (z_X5_advanceNumber_3 l3_47.toInt ((G.1 (F a 0) 1).toInt) ((G.1 a 2).toInt) ((G_47.1 a 3).toInt) s0 I47_1 c58)), (v_X5_advanceNumber_152_12 (K := K) (F := F) a G G_47 G149 x144 x8 l3_47 l2_47 N47 ha pr n0 s0 z0 z0a t8 c13 I47_0 I47_1 I47_2 I47_3 hm47 c58 c122 c127 t144 ((ld_j hG149 (by decide)).trans (ld_at hG135)) ((ld_j hG149 (by decide)).trans (ld_j hG135 (by decide))) (ld_at hG149))⟩ hT
        · refine lv_aload_n hx hb dX5_advanceNumber_61 rfl (lv_at hl 0 rfl) ?_
          refine gX5_0 S hK hT ha kf_X5_9 dX5_advanceNumber_62 (fun _ _ => ?_)
          refine lv_aload_n hx hb dX5_advanceNumber_65 rfl (lv_at hl 0 rfl) ?_
          refine gX5_3 S hK hT ha kf_X5_19 dX5_advanceNumber_66 (v := (G_47.1 a 3)) rfl (?_)
          refine x_clp (x_runV (b := (F a 0)) (As := [.int (G_47.1 a 3)]) (rest := []) S (c_X8_signAt l E K F G_47 H (F a 0) (G_47.1 a 3) hk9999 (by rw [(show (G_47.1 (F a 0) 1).toInt = ((G.1 (F a 0) 1).toInt) from (congrArg Int32.toInt ((hF_47.1 _ _ (xnj (by decide) xn0)).trans (ld_j hG44 (by decide)))).trans (rfl : Int32.toInt (G.1 (F a 0) 1) = ((G.1 (F a 0) 1).toInt)))] <;> exact (n0))) mv_X8_signAt km_X5_97 rfl rfl ⟨Nat.le_of_ble_eq_true rfl, Nat.le_of_ble_eq_true rfl⟩ (rc_10 hK hT hk9999) hK (fun _ => XPh.blind) (fun U hU hW => XPh.at hK hz hS hT hU hW) rfl hl.1 (Nat.le_of_ble_eq_true rfl) dX5_advanceNumber_69 ⟨Nat.le_of_ble_eq_true rfl, Nat.le_of_ble_eq_true rfl⟩) hS ?_
          rintro _ _ locs ⟨x69, rfl, b69, t69⟩ hS
          have t69 : x69.toInt = (tC (G.2.1 (F (F a 0) 0)) ((G.1 (F a 0) 1).toInt) ((G_47.1 a 3).toInt)) := by rw [(show G_47.2.1 (F (F a 0) 0) = G.2.1 (F (F a 0) 0) from ((hF_47.2.1 _ xn0).trans (ld_c hG44)))] at t69; rw [(show (G_47.1 (F a 0) 1).toInt = ((G.1 (F a 0) 1).toInt) from (congrArg Int32.toInt ((hF_47.1 _ _ (xnj (by decide) xn0)).trans (ld_j hG44 (by decide)))).trans (rfl : Int32.toInt (G.1 (F a 0) 1) = ((G.1 (F a 0) 1).toInt)))] at t69; exact t69
          refine x_clp (x_runS (As := [.int x69]) (rest := []) S (c_X5_isDigit l E K F G_47 H x69) ms_X5_isDigit km_X5_117 rfl rfl ⟨Nat.le_of_ble_eq_true rfl, Nat.le_of_ble_eq_true rfl⟩ hK (fun _ => XPh.blind) (fun U hU hW => XPh.at hK hz hS hT hU hW) rfl hl.1 (Nat.le_of_ble_eq_true rfl) dX5_advanceNumber_72 ⟨Nat.le_of_ble_eq_true rfl, Nat.le_of_ble_eq_true rfl⟩) hS ?_
          rintro _ _ locs ⟨x72, rfl, b72, t72⟩ hS
          have t72 : (x72.toInt = 1 ∧ 48 ≤ x69.toInt ∧ x69.toInt ≤ 57) ∨ (x72.toInt = 0 ∧ (x69.toInt < 48 ∨ 57 < x69.toInt)) := t72
          refine xi_zeq (tgt := 119) hx hb (rfl : Int32.toInt x72 = x72.toInt) dX5_advanceNumber_75 (by decide) (fun c75 => ?_) (fun c75 => ?_)
          · refine lv_aload_n hx hb dX5_advanceNumber_119 rfl (lv_at hl 0 rfl) ?_
            refine lv_iload_n hx hb dX5_advanceNumber_120 rfl (lv_at hl 3 rfl) ?_
            refine lv_iconst (v := 1) hx hb dX5_advanceNumber_121 (by decide) ?_
            refine xi_clt (tgt := 134) hx hb (rfl : Int32.toInt l3_47 = l3_47.toInt) ((by decide) : Int32.toInt 1 = (1 : Int)) dX5_advanceNumber_122 (by decide) (fun c122 => ?_) (fun c122 => ?_)
            · refine lv_iconst (v := 3) hx hb dX5_advanceNumber_134 (by decide) ?_
              refine pX5_1 (v := 3) S hK hT hS ha kf_X5_75 dX5_advanceNumber_135 (fun H locs hT hS => ?_)
              obtain ⟨G135, hG135⟩ : ∃ GG : XG, GG = dput G_47 a 1 3 := ⟨_, rfl⟩
              rw [← hG135] at hT
              refine lv_aload_n hx hb dX5_advanceNumber_138 rfl (lv_at hl 0 rfl) ?_
              refine lv_iload_n hx hb dX5_advanceNumber_139 rfl (lv_at hl 1 rfl) ?_
              refine xi_zeq (tgt := 148) hx hb ((by decide) : Int32.toInt 1 = (1 : Int)) dX5_advanceNumber_140 (by decide) (fun c => absurd c (show ¬ ((1 : Int) = 0) by decide)) (fun _ => ?_)
              refine lv_iload_n hx hb dX5_advanceNumber_143 rfl (lv_at hl 2 rfl) ?_
              refine xi_ineg hx hb (rfl : Int32.toInt l2_47 = l2_47.toInt) dX5_advanceNumber_144 (fun x144 t144 => ?_)
              refine lv_goto (tgt := 149) hx hb dX5_advanceNumber_145 (by decide) ?_
              refine pX5_4 (v := x144) S hK hT hS ha kf_X5_89 dX5_advanceNumber_149 (fun H locs hT hS => ?_)
              obtain ⟨G149, hG149⟩ : ∃ GG : XG, GG = dput G135 a 4 x144 := ⟨_, rfl⟩
              rw [← hG149] at hT
              exact x_rv hx hb hr hlk hQ (Nat.le_of_ble_eq_true rfl) (Nat.le_of_ble_eq_true rfl) hS dX5_advanceNumber_152 G149 ⟨(by rw [hG149]; exact XFr.dput (by rw [hG135]; exact XFr.dput (XFr.call (by rw [hG44]; exact XFr.dput XFr.rf (List.mem_of_getElem? (i := 1) rfl)) hF_47 (xm1 1 rfl xm0) xm0 xm0) (List.mem_of_getElem? (i := 0) rfl)) (List.mem_of_getElem? (i := 2) rfl)), (by rw [(show (G149.1 a 3).toInt = ((G_47.1 a 3).toInt) from (congrArg Int32.toInt ((ld_j hG149 (by decide)).trans (ld_j hG135 (by decide)))).trans (rfl : Int32.toInt (G_47.1 a 3) = ((G_47.1 a 3).toInt)))] <;> exact (z_X5_advanceNumber_7 l3_47.toInt ((G.1 (F a 0) 1).toInt) ((G.1 a 2).toInt) ((G_47.1 a 3).toInt) (nS (tC (G.2.1 (F (F a 0) 0)) ((G.1 (F a 0) 1).toInt)) ((G.1 a 2).toInt)) (tC (G.2.1 (F (F a 0) 0)) ((G.1 (F a 0) 1).toInt) ((G.1 a 2).toInt)) s0 z0 I47_0 I47_1)), (v_X5_advanceNumber_152_13 (K := K) (F := F) a G G_47 G149 x144 x8 l3_47 l2_47 N47 x69 x72 ha pr n0 s0 z0 z0a t8 c13 I47_0 I47_1 I47_2 I47_3 hm47 c58 t69 t72 c75 c122 t144 ((ld_j hG149 (by decide)).trans (ld_at hG135)) ((ld_j hG149 (by decide)).trans (ld_j hG135 (by decide))) (ld_at hG149))⟩ hT
            · refine lv_iload_n hx hb dX5_advanceNumber_125 rfl (lv_at hl 3 rfl) ?_
              refine lv_iconst (v := 4) hx hb dX5_advanceNumber_126 (by decide) ?_
              refine xi_cgt (tgt := 134) hx hb (rfl : Int32.toInt l3_47 = l3_47.toInt) ((by decide) : Int32.toInt 4 = (4 : Int)) dX5_advanceNumber_127 (by decide) (fun c127 => ?_) (fun c127 => ?_)
              · refine lv_iconst (v := 3) hx hb dX5_advanceNumber_134 (by decide) ?_
                refine pX5_1 (v := 3) S hK hT hS ha kf_X5_75 dX5_advanceNumber_135 (fun H locs hT hS => ?_)
                obtain ⟨G135, hG135⟩ : ∃ GG : XG, GG = dput G_47 a 1 3 := ⟨_, rfl⟩
                rw [← hG135] at hT
                refine lv_aload_n hx hb dX5_advanceNumber_138 rfl (lv_at hl 0 rfl) ?_
                refine lv_iload_n hx hb dX5_advanceNumber_139 rfl (lv_at hl 1 rfl) ?_
                refine xi_zeq (tgt := 148) hx hb ((by decide) : Int32.toInt 1 = (1 : Int)) dX5_advanceNumber_140 (by decide) (fun c => absurd c (show ¬ ((1 : Int) = 0) by decide)) (fun _ => ?_)
                refine lv_iload_n hx hb dX5_advanceNumber_143 rfl (lv_at hl 2 rfl) ?_
                refine xi_ineg hx hb (rfl : Int32.toInt l2_47 = l2_47.toInt) dX5_advanceNumber_144 (fun x144 t144 => ?_)
                refine lv_goto (tgt := 149) hx hb dX5_advanceNumber_145 (by decide) ?_
                refine pX5_4 (v := x144) S hK hT hS ha kf_X5_89 dX5_advanceNumber_149 (fun H locs hT hS => ?_)
                obtain ⟨G149, hG149⟩ : ∃ GG : XG, GG = dput G135 a 4 x144 := ⟨_, rfl⟩
                rw [← hG149] at hT
                exact x_rv hx hb hr hlk hQ (Nat.le_of_ble_eq_true rfl) (Nat.le_of_ble_eq_true rfl) hS dX5_advanceNumber_152 G149 ⟨(by rw [hG149]; exact XFr.dput (by rw [hG135]; exact XFr.dput (XFr.call (by rw [hG44]; exact XFr.dput XFr.rf (List.mem_of_getElem? (i := 1) rfl)) hF_47 (xm1 1 rfl xm0) xm0 xm0) (List.mem_of_getElem? (i := 0) rfl)) (List.mem_of_getElem? (i := 2) rfl)), (by rw [(show (G149.1 a 3).toInt = ((G_47.1 a 3).toInt) from (congrArg Int32.toInt ((ld_j hG149 (by decide)).trans (ld_j hG135 (by decide)))).trans (rfl : Int32.toInt (G_47.1 a 3) = ((G_47.1 a 3).toInt)))] <;> exact (z_X5_advanceNumber_8 l3_47.toInt ((G.1 (F a 0) 1).toInt) ((G.1 a 2).toInt) ((G_47.1 a 3).toInt) (nS (tC (G.2.1 (F (F a 0) 0)) ((G.1 (F a 0) 1).toInt)) ((G.1 a 2).toInt)) (tC (G.2.1 (F (F a 0) 0)) ((G.1 (F a 0) 1).toInt) ((G.1 a 2).toInt)) s0 z0 I47_0 c58 c127)), (v_X5_advanceNumber_152_14 (K := K) (F := F) a G G_47 G149 x144 x8 l3_47 l2_47 N47 x69 x72 ha pr n0 s0 z0 z0a t8 c13 I47_0 I47_1 I47_2 I47_3 hm47 c58 t69 t72 c75 c122 c127 t144 ((ld_j hG149 (by decide)).trans (ld_at hG135)) ((ld_j hG149 (by decide)).trans (ld_j hG135 (by decide))) (ld_at hG149))⟩ hT
              · refine lv_iconst (v := 2) hx hb dX5_advanceNumber_130 (by decide) ?_
                refine lv_goto (tgt := 135) hx hb dX5_advanceNumber_131 (by decide) ?_
                refine pX5_1 (v := 2) S hK hT hS ha kf_X5_75 dX5_advanceNumber_135 (fun H locs hT hS => ?_)
                obtain ⟨G135, hG135⟩ : ∃ GG : XG, GG = dput G_47 a 1 2 := ⟨_, rfl⟩
                rw [← hG135] at hT
                refine lv_aload_n hx hb dX5_advanceNumber_138 rfl (lv_at hl 0 rfl) ?_
                refine lv_iload_n hx hb dX5_advanceNumber_139 rfl (lv_at hl 1 rfl) ?_
                refine xi_zeq (tgt := 148) hx hb ((by decide) : Int32.toInt 1 = (1 : Int)) dX5_advanceNumber_140 (by decide) (fun c => absurd c (show ¬ ((1 : Int) = 0) by decide)) (fun _ => ?_)
                refine lv_iload_n hx hb dX5_advanceNumber_143 rfl (lv_at hl 2 rfl) ?_
                refine xi_ineg hx hb (rfl : Int32.toInt l2_47 = l2_47.toInt) dX5_advanceNumber_144 (fun x144 t144 => ?_)
                refine lv_goto (tgt := 149) hx hb dX5_advanceNumber_145 (by decide) ?_
                refine pX5_4 (v := x144) S hK hT hS ha kf_X5_89 dX5_advanceNumber_149 (fun H locs hT hS => ?_)
                obtain ⟨G149, hG149⟩ : ∃ GG : XG, GG = dput G135 a 4 x144 := ⟨_, rfl⟩
                rw [← hG149] at hT
                exact x_rv hx hb hr hlk hQ (Nat.le_of_ble_eq_true rfl) (Nat.le_of_ble_eq_true rfl) hS dX5_advanceNumber_152 G149 ⟨(by rw [hG149]; exact XFr.dput (by rw [hG135]; exact XFr.dput (XFr.call (by rw [hG44]; exact XFr.dput XFr.rf (List.mem_of_getElem? (i := 1) rfl)) hF_47 (xm1 1 rfl xm0) xm0 xm0) (List.mem_of_getElem? (i := 0) rfl)) (List.mem_of_getElem? (i := 2) rfl)), (by rw [(show (G149.1 a 3).toInt = ((G_47.1 a 3).toInt) from (congrArg Int32.toInt ((ld_j hG149 (by decide)).trans (ld_j hG135 (by decide)))).trans (rfl : Int32.toInt (G_47.1 a 3) = ((G_47.1 a 3).toInt)))] <;> exact (z_X5_advanceNumber_9 l3_47.toInt ((G.1 (F a 0) 1).toInt) ((G.1 a 2).toInt) ((G_47.1 a 3).toInt) (nS (tC (G.2.1 (F (F a 0) 0)) ((G.1 (F a 0) 1).toInt)) ((G.1 a 2).toInt)) (tC (G.2.1 (F (F a 0) 0)) ((G.1 (F a 0) 1).toInt) ((G.1 a 2).toInt)) s0 z0 I47_0 c58 c122)), (v_X5_advanceNumber_152_15 (K := K) (F := F) a G G_47 G149 x144 x8 l3_47 l2_47 N47 x69 x72 ha pr n0 s0 z0 z0a t8 c13 I47_0 I47_1 I47_2 I47_3 hm47 c58 t69 t72 c75 c122 c127 t144 ((ld_j hG149 (by decide)).trans (ld_at hG135)) ((ld_j hG149 (by decide)).trans (ld_j hG135 (by decide))) (ld_at hG149))⟩ hT
          · have z78 : (nv (tC (G.2.1 (F (F a 0) 0)) ((G.1 (F a 0) 1).toInt)) (nS (tC (G.2.1 (F (F a 0) 0)) ((G.1 (F a 0) 1).toInt)) ((G.1 a 2).toInt)) (l3_47.toInt + 1)) = 10 * (nv (tC (G.2.1 (F (F a 0) 0)) ((G.1 (F a 0) 1).toInt)) (nS (tC (G.2.1 (F (F a 0) 0)) ((G.1 (F a 0) 1).toInt)) ((G.1 a 2).toInt)) (l3_47.toInt)) + ((tC (G.2.1 (F (F a 0) 0)) ((G.1 (F a 0) 1).toInt) ((nS (tC (G.2.1 (F (F a 0) 0)) ((G.1 (F a 0) 1).toInt)) ((G.1 a 2).toInt)) + l3_47.toInt)) - 48) := nv_s (z_X5_advanceNumber_10 l3_47.toInt ((G.1 (F a 0) 1).toInt) ((G_47.1 a 3).toInt) I47_1)
            have z78a : ((G_47.1 a 3).toInt) = (nS (tC (G.2.1 (F (F a 0) 0)) ((G.1 (F a 0) 1).toInt)) ((G.1 a 2).toInt)) + l3_47.toInt → (tC (G.2.1 (F (F a 0) 0)) ((G.1 (F a 0) 1).toInt) ((nS (tC (G.2.1 (F (F a 0) 0)) ((G.1 (F a 0) 1).toInt)) ((G.1 a 2).toInt)) + l3_47.toInt)) = (tC (G.2.1 (F (F a 0) 0)) ((G.1 (F a 0) 1).toInt) ((G_47.1 a 3).toInt)) := fun h9 => by rw [h9]
            refine lv_iload_n hx hb dX5_advanceNumber_78 rfl (lv_at hl 3 rfl) ?_
            refine lv_iconst (v := 4) hx hb dX5_advanceNumber_79 (by decide) ?_
            refine xi_cge (tgt := 103) hx hb (rfl : Int32.toInt l3_47 = l3_47.toInt) ((by decide) : Int32.toInt 4 = (4 : Int)) dX5_advanceNumber_80 (by decide) (fun c80 => ?_) (fun c80 => ?_)
            · refine xi_iinc (n := 1) (lv' := fun z9 => [(3, .int z9), (0, .ref a), (1, .int 1), (2, .int l2_47)]) (k := 3) hx hb (rfl : Int32.toInt l3_47 = l3_47.toInt) (by decide) dX5_advanceNumber_103 hl rfl (by decide) (fun _ => rfl) (fun x103 ls t103 hl => ?_)
              have e103 : x103.toInt = (l3_47.toInt + 1) := (z_X5_advanceNumber_11 l3_47.toInt x103.toInt ((G.1 (F a 0) 1).toInt) ((G.1 a 2).toInt) ((G_47.1 a 3).toInt) (nS (tC (G.2.1 (F (F a 0) 0)) ((G.1 (F a 0) 1).toInt)) ((G.1 a 2).toInt)) (tC (G.2.1 (F (F a 0) 0)) ((G.1 (F a 0) 1).toInt) ((G.1 a 2).toInt)) n0 s0 z0 I47_0 c58 c80 t103)
              have hl : lv_has ls 4 [(3, .int x103), (0, .ref a), (1, .int 1), (2, .int l2_47)] := hl
              refine lv_aload_n hx hb dX5_advanceNumber_106 rfl (lv_at hl 1 rfl) ?_
              refine lv_dup hx hb dX5_advanceNumber_107 rfl ?_
              refine gX5_3 S hK hT ha kf_X5_19 dX5_advanceNumber_108 (v := (G_47.1 a 3)) rfl (?_)
              refine lv_iconst (v := 1) hx hb dX5_advanceNumber_111 (by decide) ?_
              refine xi_iadd hx hb (rfl : Int32.toInt (G_47.1 a 3) = ((G_47.1 a 3).toInt)) ((by decide) : Int32.toInt 1 = (1 : Int)) dX5_advanceNumber_112 (fun x112 t112 => ?_)
              have e112 : x112.toInt = (((G_47.1 a 3).toInt) + (1 : Int)) := (z_X5_advanceWord_5 x112.toInt ((G.1 (F a 0) 1).toInt) ((G_47.1 a 3).toInt) n0 c58 t112 (xr (G_47.1 a 3)))
              refine pX5_3 (v := x112) S hK hT hS ha kf_X5_19 dX5_advanceNumber_113 (fun H locs hT hS => ?_)
              obtain ⟨G113, hG113⟩ : ∃ GG : XG, GG = dput G_47 a 3 x112 := ⟨_, rfl⟩
              rw [← hG113] at hT
              refine lv_goto (tgt := 47) hx hb dX5_advanceNumber_116 (by decide) ?_
              exact ih47 l2_47 x103 G113 _ _ _ (by rw [hG113]; exact XFr.dput (XFr.call XFr.rf hF_47 (xm1 0 rfl xm0) xm0 xm0) (List.mem_of_getElem? (i := 0) rfl)) (by rw [(show (G113.1 a 3).toInt = (((G_47.1 a 3).toInt) + (1 : Int)) from (congrArg Int32.toInt (ld_at hG113)).trans (e112 : Int32.toInt x112 = (((G_47.1 a 3).toInt) + (1 : Int))))] <;> exact (v_X5_advanceNumber_116_16 (K := K) (F := F) a G G_47 l3_47 x8 l2_47 N47 x69 x72 ha pr n0 s0 z0 z0a t8 c13 I47_0 I47_1 I47_2 I47_3 hm47 c58 t69 t72 c75 z78 z78a c80)) (by rw [(e103 : Int32.toInt x103 = (l3_47.toInt + 1)), (show (G113.1 a 3).toInt = (((G_47.1 a 3).toInt) + (1 : Int)) from (congrArg Int32.toInt (ld_at hG113)).trans (e112 : Int32.toInt x112 = (((G_47.1 a 3).toInt) + (1 : Int))))] <;> exact (z_X5_advanceNumber_13 l3_47.toInt ((G_47.1 a 3).toInt) (nS (tC (G.2.1 (F (F a 0) 0)) ((G.1 (F a 0) 1).toInt)) ((G.1 a 2).toInt)) I47_0)) (by rw [(e103 : Int32.toInt x103 = (l3_47.toInt + 1)), (show (G113.1 a 3).toInt = (((G_47.1 a 3).toInt) + (1 : Int)) from (congrArg Int32.toInt (ld_at hG113)).trans (e112 : Int32.toInt x112 = (((G_47.1 a 3).toInt) + (1 : Int))))] <;> exact (z_X5_advanceNumber_14 l3_47.toInt ((G.1 (F a 0) 1).toInt) ((G_47.1 a 3).toInt) c58 c80)) (by rw [(e103 : Int32.toInt x103 = (l3_47.toInt + 1))] <;> exact (z_X5_advanceNumber_15 l2_47.toInt l3_47.toInt I47_2)) (by rw [(e103 : Int32.toInt x103 = (l3_47.toInt + 1))] <;> exact (z_X5_advanceNumber_16 l2_47.toInt l3_47.toInt (nv (tC (G.2.1 (F (F a 0) 0)) ((G.1 (F a 0) 1).toInt)) (nS (tC (G.2.1 (F (F a 0) 0)) ((G.1 (F a 0) 1).toInt)) ((G.1 a 2).toInt)) (l3_47.toInt + 1)) c80)) (by rw [(show (G113.1 a 3).toInt = (((G_47.1 a 3).toInt) + (1 : Int)) from (congrArg Int32.toInt (ld_at hG113)).trans (e112 : Int32.toInt x112 = (((G_47.1 a 3).toInt) + (1 : Int))))] <;> exact (z_X5_advanceWord_7 N47 ((G_47.1 a 3).toInt) hm47)) hT hS (lv_sub hl [1, 2, 3, 0] rfl)
            · refine lv_iload_n hx hb dX5_advanceNumber_83 rfl (lv_at hl 2 rfl) ?_
              refine lv_bipush (v := 10) hx hb dX5_advanceNumber_84 (by decide) ?_
              refine xi_imul hx hb (rfl : Int32.toInt l2_47 = l2_47.toInt) ((by decide) : Int32.toInt 10 = (10 : Int)) dX5_advanceNumber_86 (fun x86 t86 => ?_)
              have e86 : x86.toInt = (l2_47.toInt * (10 : Int)) := (z_X5_advanceNumber_18 l2_47.toInt l3_47.toInt x86.toInt I47_2 t86)
              refine lv_aload_n hx hb dX5_advanceNumber_87 rfl (lv_at hl 0 rfl) ?_
              refine gX5_0 S hK hT ha kf_X5_9 dX5_advanceNumber_88 (fun _ _ => ?_)
              refine lv_aload_n hx hb dX5_advanceNumber_91 rfl (lv_at hl 0 rfl) ?_
              refine gX5_3 S hK hT ha kf_X5_19 dX5_advanceNumber_92 (v := (G_47.1 a 3)) rfl (?_)
              refine x_clp (x_runV (b := (F a 0)) (As := [.int (G_47.1 a 3)]) (rest := [.int x86]) S (c_X8_signAt l E K F G_47 H (F a 0) (G_47.1 a 3) hk9999 (by rw [(show (G_47.1 (F a 0) 1).toInt = ((G.1 (F a 0) 1).toInt) from (congrArg Int32.toInt ((hF_47.1 _ _ (xnj (by decide) xn0)).trans (ld_j hG44 (by decide)))).trans (rfl : Int32.toInt (G.1 (F a 0) 1) = ((G.1 (F a 0) 1).toInt)))] <;> exact (n0))) mv_X8_signAt km_X5_97 rfl rfl ⟨Nat.le_of_ble_eq_true rfl, Nat.le_of_ble_eq_true rfl⟩ (rc_10 hK hT hk9999) hK (fun _ => XPh.blind) (fun U hU hW => XPh.at hK hz hS hT hU hW) rfl hl.1 (Nat.le_of_ble_eq_true rfl) dX5_advanceNumber_95 ⟨Nat.le_of_ble_eq_true rfl, Nat.le_of_ble_eq_true rfl⟩) hS ?_
              rintro _ _ locs ⟨x95, rfl, b95, t95⟩ hS
              have t95 : x95.toInt = (tC (G.2.1 (F (F a 0) 0)) ((G.1 (F a 0) 1).toInt) ((G_47.1 a 3).toInt)) := by rw [(show G_47.2.1 (F (F a 0) 0) = G.2.1 (F (F a 0) 0) from ((hF_47.2.1 _ xn0).trans (ld_c hG44)))] at t95; rw [(show (G_47.1 (F a 0) 1).toInt = ((G.1 (F a 0) 1).toInt) from (congrArg Int32.toInt ((hF_47.1 _ _ (xnj (by decide) xn0)).trans (ld_j hG44 (by decide)))).trans (rfl : Int32.toInt (G.1 (F a 0) 1) = ((G.1 (F a 0) 1).toInt)))] at t95; exact t95
              refine lv_bipush (v := 48) hx hb dX5_advanceNumber_98 (by decide) ?_
              refine xi_isub hx hb (rfl : Int32.toInt x95 = x95.toInt) ((by decide) : Int32.toInt 48 = (48 : Int)) dX5_advanceNumber_100 (fun x100 t100 => ?_)
              have e100 : x100.toInt = (x95.toInt - (48 : Int)) := (z_X5_advanceNumber_20 x100.toInt x69.toInt x72.toInt x95.toInt (tC (G.2.1 (F (F a 0) 0)) ((G.1 (F a 0) 1).toInt) ((G_47.1 a 3).toInt)) t69 t72 c75 t95 t100)
              refine xi_iadd hx hb (e86 : Int32.toInt x86 = (l2_47.toInt * (10 : Int))) (e100 : Int32.toInt x100 = (x95.toInt - (48 : Int))) dX5_advanceNumber_101 (fun x101 t101 => ?_)
              have e101 : x101.toInt = ((l2_47.toInt * (10 : Int)) + (x95.toInt - (48 : Int))) := (z_X5_advanceNumber_21 l2_47.toInt l3_47.toInt x101.toInt x69.toInt x72.toInt x95.toInt (tC (G.2.1 (F (F a 0) 0)) ((G.1 (F a 0) 1).toInt) ((G_47.1 a 3).toInt)) I47_2 t69 t72 c75 t95 t101)
              refine lv_istore_n (lv' := [(2, .int x101), (0, .ref a), (1, .int 1), (3, .int l3_47)]) hx hb dX5_advanceNumber_102 rfl hl (by decide) rfl (fun ls hl => ?_)
              refine xi_iinc (n := 1) (lv' := fun z9 => [(3, .int z9), (2, .int x101), (0, .ref a), (1, .int 1)]) (k := 3) hx hb (rfl : Int32.toInt l3_47 = l3_47.toInt) (by decide) dX5_advanceNumber_103 hl rfl (by decide) (fun _ => rfl) (fun x103 ls t103 hl => ?_)
              have e103 : x103.toInt = (l3_47.toInt + 1) := (z_X5_advanceNumber_22 l3_47.toInt x103.toInt ((G.1 (F a 0) 1).toInt) ((G_47.1 a 3).toInt) I47_1 c80 t103)
              have hl : lv_has ls 4 [(3, .int x103), (2, .int x101), (0, .ref a), (1, .int 1)] := hl
              refine lv_aload_n hx hb dX5_advanceNumber_106 rfl (lv_at hl 2 rfl) ?_
              refine lv_dup hx hb dX5_advanceNumber_107 rfl ?_
              refine gX5_3 S hK hT ha kf_X5_19 dX5_advanceNumber_108 (v := (G_47.1 a 3)) rfl (?_)
              refine lv_iconst (v := 1) hx hb dX5_advanceNumber_111 (by decide) ?_
              refine xi_iadd hx hb (rfl : Int32.toInt (G_47.1 a 3) = ((G_47.1 a 3).toInt)) ((by decide) : Int32.toInt 1 = (1 : Int)) dX5_advanceNumber_112 (fun x112 t112 => ?_)
              have e112 : x112.toInt = (((G_47.1 a 3).toInt) + (1 : Int)) := (z_X5_advanceWord_5 x112.toInt ((G.1 (F a 0) 1).toInt) ((G_47.1 a 3).toInt) n0 c58 t112 (xr (G_47.1 a 3)))
              refine pX5_3 (v := x112) S hK hT hS ha kf_X5_19 dX5_advanceNumber_113 (fun H locs hT hS => ?_)
              obtain ⟨G113, hG113⟩ : ∃ GG : XG, GG = dput G_47 a 3 x112 := ⟨_, rfl⟩
              rw [← hG113] at hT
              refine lv_goto (tgt := 47) hx hb dX5_advanceNumber_116 (by decide) ?_
              exact ih47 x101 x103 G113 _ _ _ (by rw [hG113]; exact XFr.dput (XFr.call XFr.rf hF_47 (xm1 0 rfl xm0) xm0 xm0) (List.mem_of_getElem? (i := 0) rfl)) (by rw [(show (G113.1 a 3).toInt = (((G_47.1 a 3).toInt) + (1 : Int)) from (congrArg Int32.toInt (ld_at hG113)).trans (e112 : Int32.toInt x112 = (((G_47.1 a 3).toInt) + (1 : Int))))] <;> exact (v_X5_advanceNumber_116_17 (K := K) (F := F) a G G_47 l2_47 l3_47 x8 N47 x69 x72 ha pr n0 s0 z0 z0a t8 c13 I47_0 I47_1 I47_2 I47_3 hm47 c58 t69 t72 c75 z78 z78a c80)) (by rw [(e103 : Int32.toInt x103 = (l3_47.toInt + 1)), (show (G113.1 a 3).toInt = (((G_47.1 a 3).toInt) + (1 : Int)) from (congrArg Int32.toInt (ld_at hG113)).trans (e112 : Int32.toInt x112 = (((G_47.1 a 3).toInt) + (1 : Int))))] <;> exact (z_X5_advanceNumber_13 l3_47.toInt ((G_47.1 a 3).toInt) (nS (tC (G.2.1 (F (F a 0) 0)) ((G.1 (F a 0) 1).toInt)) ((G.1 a 2).toInt)) I47_0)) (by rw [(e103 : Int32.toInt x103 = (l3_47.toInt + 1)), (show (G113.1 a 3).toInt = (((G_47.1 a 3).toInt) + (1 : Int)) from (congrArg Int32.toInt (ld_at hG113)).trans (e112 : Int32.toInt x112 = (((G_47.1 a 3).toInt) + (1 : Int))))] <;> exact (z_X5_advanceNumber_25 l3_47.toInt ((G.1 (F a 0) 1).toInt) ((G_47.1 a 3).toInt) I47_1 c58)) (by rw [(e103 : Int32.toInt x103 = (l3_47.toInt + 1)), (e101 : Int32.toInt x101 = ((l2_47.toInt * (10 : Int)) + (x95.toInt - (48 : Int))))] <;> exact (z_X5_advanceNumber_26 l2_47.toInt l3_47.toInt x69.toInt x72.toInt x95.toInt (tC (G.2.1 (F (F a 0) 0)) ((G.1 (F a 0) 1).toInt) ((G_47.1 a 3).toInt)) I47_2 t69 t72 c75 c80 t95)) (by rw [(e103 : Int32.toInt x103 = (l3_47.toInt + 1)), (e101 : Int32.toInt x101 = ((l2_47.toInt * (10 : Int)) + (x95.toInt - (48 : Int))))] <;> exact (z_X5_advanceNumber_27 l2_47.toInt l3_47.toInt x95.toInt ((G_47.1 a 3).toInt) (nS (tC (G.2.1 (F (F a 0) 0)) ((G.1 (F a 0) 1).toInt)) ((G.1 a 2).toInt)) (nv (tC (G.2.1 (F (F a 0) 0)) ((G.1 (F a 0) 1).toInt)) (nS (tC (G.2.1 (F (F a 0) 0)) ((G.1 (F a 0) 1).toInt)) ((G.1 a 2).toInt)) (l3_47.toInt + 1)) (nv (tC (G.2.1 (F (F a 0) 0)) ((G.1 (F a 0) 1).toInt)) (nS (tC (G.2.1 (F (F a 0) 0)) ((G.1 (F a 0) 1).toInt)) ((G.1 a 2).toInt)) (l3_47.toInt)) (tC (G.2.1 (F (F a 0) 0)) ((G.1 (F a 0) 1).toInt) ((G_47.1 a 3).toInt)) (tC (G.2.1 (F (F a 0) 0)) ((G.1 (F a 0) 1).toInt) ((nS (tC (G.2.1 (F (F a 0) 0)) ((G.1 (F a 0) 1).toInt)) ((G.1 a 2).toInt)) + l3_47.toInt)) I47_0 I47_3 z78 z78a t95)) (by rw [(show (G113.1 a 3).toInt = (((G_47.1 a 3).toInt) + (1 : Int)) from (congrArg Int32.toInt (ld_at hG113)).trans (e112 : Int32.toInt x112 = (((G_47.1 a 3).toInt) + (1 : Int))))] <;> exact (z_X5_advanceWord_7 N47 ((G_47.1 a 3).toInt) hm47)) hT hS (lv_sub hl [2, 3, 1, 0] rfl)
    exact L47 4294967297 0 0 G44 _ _ _ XFr.rf (by rw [(show (G44.1 a 3).toInt = (((G.1 a 2).toInt) + (1 : Int)) from (congrArg Int32.toInt (ld_at hG44)).trans (e36 : Int32.toInt x36 = (((G.1 a 2).toInt) + (1 : Int))))] <;> exact (v_X5_advanceNumber_44_18 (K := K) (F := F) a G x8 ha n0 s0 z0 z0a t8 c13)) (by rw [(show (G44.1 a 3).toInt = (((G.1 a 2).toInt) + (1 : Int)) from (congrArg Int32.toInt (ld_at hG44)).trans (e36 : Int32.toInt x36 = (((G.1 a 2).toInt) + (1 : Int))))] <;> exact (z_X5_advanceNumber_61 x8.toInt ((G.1 a 2).toInt) (nS (tC (G.2.1 (F (F a 0) 0)) ((G.1 (F a 0) 1).toInt)) ((G.1 a 2).toInt)) (tC (G.2.1 (F (F a 0) 0)) ((G.1 (F a 0) 1).toInt) ((G.1 a 2).toInt)) z0 t8 c13)) (by rw [(show (G44.1 a 3).toInt = (((G.1 a 2).toInt) + (1 : Int)) from (congrArg Int32.toInt (ld_at hG44)).trans (e36 : Int32.toInt x36 = (((G.1 a 2).toInt) + (1 : Int))))] <;> exact (z_X5_advanceNumber_62 ((G.1 (F a 0) 1).toInt) ((G.1 a 2).toInt) s0)) (by decide) (z_X5_advanceNumber_31 (nv (tC (G.2.1 (F (F a 0) 0)) ((G.1 (F a 0) 1).toInt)) (nS (tC (G.2.1 (F (F a 0) 0)) ((G.1 (F a 0) 1).toInt)) ((G.1 a 2).toInt)) 0) z0a) (by rw [(show (G44.1 a 3).toInt = (((G.1 a 2).toInt) + (1 : Int)) from (congrArg Int32.toInt (ld_at hG44)).trans (e36 : Int32.toInt x36 = (((G.1 a 2).toInt) + (1 : Int))))] <;> exact (z_X5_advanceNumber_64 ((G.1 (F a 0) 1).toInt) ((G.1 a 2).toInt) s0)) hT hS (lv_sub hl [3, 2, 1, 0] rfl)

theorem z_X5_advance_2 (a0 : Int) (a1 : Int) (h0 : a0 ≤ a1) (h1 : a1 < a0) : 0 ≤ a0 ∧ a0 ≤ 80 := by omega
theorem z_X5_advance_4 (a0 : Int) (a1 : Int) (h0 : a0 ≤ a1) (h1 : a1 < a0) : 0 ≤ a1 ∧ a1 < a0 := by omega
theorem z_X5_advance_5 (a0 : Int) (a1 : Int) (a2 : Int) (h0 : a0 ≤ a2) (h1 : a2 < a0) : (0 ≤ a2 ∧ a2 ≤ a0) ∧ (0 ≤ a1 ∧ a1 ≤ a0) := by omega
theorem z_X5_advance_7 (a0 : Int) (a1 : Int) (h0 : a0 ≤ a1) (h1 : a1 < a0) : 0 ≤ a1 ∧ a1 ≤ a0 := by omega
theorem z_X5_advance_9 (a0 : Int) (a1 : Int) (a2 : Int) (h0 : 0 ≤ a1 ∧ a1 ≤ a0) (h1 : a1 ≤ a2 ∧ a2 ≤ a0) : (0 ≤ a2 ∧ a2 ≤ a0) ∧ (0 ≤ a2 ∧ a2 ≤ a0) := by omega
theorem z_X5_advance_13 (a0 : Int) (a1 : Int) (a2 : Int) (h0 : 0 ≤ a1 ∧ a1 ≤ a0) (h1 : a1 ≤ a2 ∧ a2 ≤ a0) (h2 : ¬ (a0 ≤ a2)) : 0 ≤ a2 ∧ a2 < a0 := by omega
theorem z_X5_advance_14 (a0 : Int) (a1 : Int) (a2 : Int) (a3 : Int) (h0 : 0 ≤ a1 ∧ a1 ≤ a0) (h1 : a1 ≤ a3 ∧ a3 ≤ a0) (h2 : 0 ≤ a2 ∧ a2 ≤ a0) : (0 ≤ a3 ∧ a3 ≤ a0) ∧ (0 ≤ a2 ∧ a2 ≤ a0) := by omega
theorem z_X5_advance_16 (a0 : Int) (a1 : Int) (a2 : Int) (h0 : 0 ≤ a1 ∧ a1 ≤ a0) (h1 : a1 ≤ a2 ∧ a2 ≤ a0) : 0 ≤ a2 ∧ a2 ≤ a0 := by omega
theorem z_X5_advance_17 (a0 : Int) (a1 : Int) (a2 : Int) (a3 : Int) (a4 : Int) (h0 : 0 ≤ a1 ∧ a1 ≤ a0) (h1 : a1 ≤ a4 ∧ a4 ≤ a0) (h2 : a2 = 1 ∧ a4 ≤ a3 ∧ a3 ≤ a0) : (0 ≤ a4 ∧ a4 ≤ a0) ∧ (0 ≤ a3 ∧ a3 ≤ a0) := by omega
theorem z_X5_advance_18 (a0 : Int) (a1 : Int) (h0 : ¬ (a0 ≤ a1)) (h1 : ¬ (a1 < a0)) : (0 ≤ a1 ∧ a1 ≤ a0) ∧ (0 ≤ a1 ∧ a1 ≤ a0) := by omega
abbrev rm_X5_advance : Room := { frames := 2, cells := 0, slots := 0, locals := 44 }
set_option maxHeartbeats 4000000 in
set_option maxRecDepth 100000 in
theorem c_X5_advance (l : Launch) (E : XE) (K : Nat → Nat) (F : Nat → Nat → Nat) (G : XG) (a : Nat) (ha : K a = 7) (n0 : 0 ≤ ((G.1 (F a 0) 1).toInt) ∧ ((G.1 (F a 0) 1).toInt) ≤ 80) (s0 : 0 ≤ ((G.1 a 3).toInt) ∧ ((G.1 a 3).toInt) ≤ ((G.1 (F a 0) 1).toInt)) : Met l yX5_advance (xw yX5_advance cX5_advance 1 none) rm_X5_advance (va_Pc [.ref a] (XP E K F G)) (XQv E (fun (u : XG) => XFr [(a, 1), (a, 2), (a, 3), (a, 4)] [] [] G u ∧ ((0 ≤ ((u.1 a 2).toInt) ∧ ((u.1 a 2).toInt) ≤ ((G.1 (F a 0) 1).toInt)) ∧ (0 ≤ ((u.1 a 3).toInt) ∧ ((u.1 a 3).toInt) ≤ ((G.1 (F a 0) 1).toInt))) ∧ (((u.1 a 2).toInt) = rn cBl (tC (G.2.1 (F (F a 0) 0)) ((G.1 (F a 0) 1).toInt)) ((G.1 a 3).toInt) ∧ TokI (tC (G.2.1 (F (F a 0) 0)) ((G.1 (F a 0) 1).toInt)) ((G.1 (F a 0) 1).toInt) ((u.1 a 1).toInt) ((u.1 a 2).toInt) ((u.1 a 3).toInt) ((u.1 a 4).toInt))) (fun u H => TW E K F u H)) 0 0 (xA E) := by
  refine x_enter (by decide) (Nat.le_of_ble_eq_true rfl) ?_
  intro p e s m args below meth c Q S hr hlk hnm hQ hP ls hl
  obtain ⟨hz, hK, hT⟩ := hP
  obtain ⟨hx, hb, -, -, -⟩ := id S
  obtain ⟨H, hT, hS, hgo⟩ : ∃ H : Heap, TW E K F G H ∧ va_S (xA E) s.heap H [] ∧ H = s.heap := ⟨_, hT, va_S.rf, rfl⟩
  rw [← hgo]
  have hl : lv_has ls 1 [(0, .ref a)] := hl
  obtain ⟨hk9999, hj9999⟩ := fkX5_0 hT ha
  obtain ⟨hk9999a, hj9999a⟩ := fkX8_0 hT hk9999
  refine lv_aload_n hx hb dX5_advance_0 rfl (lv_at hl 0 rfl) ?_
  refine lv_aload_n hx hb dX5_advance_1 rfl (lv_at hl 0 rfl) ?_
  refine gX5_3 S hK hT ha kf_X5_19 dX5_advance_2 (v := (G.1 a 3)) rfl (?_)
  refine pX5_2 (v := (G.1 a 3)) S hK hT hS ha kf_X5_78 dX5_advance_5 (fun H locs hT hS => ?_)
  obtain ⟨G5, hG5⟩ : ∃ GG : XG, GG = dput G a 2 (G.1 a 3) := ⟨_, rfl⟩
  rw [← hG5] at hT
  have L8 : ∀ (N8 : Nat) (G_8 : XG) (H : Heap) (locs : List Loc) (ls : Array Slot), XFr [(a, 2)] [] [] G5 G_8 → (∀ j : Int, (G.1 a 3).toInt ≤ j → j < ((G_8.1 a 2).toInt) → cBl ((tC (G.2.1 (F (F a 0) 0)) ((G.1 (F a 0) 1).toInt)) j)) → ((G.1 a 3).toInt) ≤ ((G_8.1 a 2).toInt) ∧ ((G_8.1 a 2).toInt) ≤ ((G.1 (F a 0) 1).toInt) → 200 - ((G_8.1 a 2).toInt) < ((N8 : Nat) : Int) → TW E K F G_8 H → va_S (xA E) s.heap H locs → lv_has ls 1 [(0, .ref a)] → W p l e rm_X5_advance s m args below meth c H locs 0 0 Q (F0 m 8 ls []) := by
    intro N8
    induction N8 with
    | zero =>
      intro G_8 H locs ls hF_8 pr I8_0 hm8
      exact absurd hm8 (z_X5_advanceWord_1 ((G.1 (F a 0) 1).toInt) ((G.1 a 3).toInt) ((G_8.1 a 2).toInt) I8_0 n0)
    | succ N8 ih8 =>
      intro G_8 H locs ls hF_8 pr I8_0 hm8 hT hS hl
      refine lv_aload_n hx hb dX5_advance_8 rfl (lv_at hl 0 rfl) ?_
      refine gX5_2 S hK hT ha kf_X5_78 dX5_advance_9 (v := (G_8.1 a 2)) rfl (?_)
      refine lv_aload_n hx hb dX5_advance_12 rfl (lv_at hl 0 rfl) ?_
      refine gX5_0 S hK hT ha kf_X5_9 dX5_advance_13 (fun _ _ => ?_)
      refine x_clp (x_runV (b := (F a 0)) (As := []) (rest := [.int (G_8.1 a 2)]) S (c_X8_length l E K F G_8 H (F a 0) hk9999) mv_X8_length km_X5_106 rfl rfl ⟨Nat.le_of_ble_eq_true rfl, Nat.le_of_ble_eq_true rfl⟩ (rc_10 hK hT hk9999) hK (fun _ => XPh.blind) (fun U hU hW => XPh.at hK hz hS hT hU hW) rfl hl.1 (Nat.le_of_ble_eq_true rfl) dX5_advance_16 ⟨Nat.le_of_ble_eq_true rfl, Nat.le_of_ble_eq_true rfl⟩) hS ?_
      rintro _ _ locs ⟨x16, rfl, t16⟩ hS
      have t16 : x16.toInt = ((G.1 (F a 0) 1).toInt) := by rw [(show (G_8.1 (F a 0) 1).toInt = ((G.1 (F a 0) 1).toInt) from (congrArg Int32.toInt ((hF_8.1 _ _ (xnj (by decide) xn0)).trans (ld_j hG5 (by decide)))).trans (rfl : Int32.toInt (G.1 (F a 0) 1) = ((G.1 (F a 0) 1).toInt)))] at t16; exact t16
      refine xi_cge (tgt := 51) hx hb (rfl : Int32.toInt (G_8.1 a 2) = ((G_8.1 a 2).toInt)) (t16 : Int32.toInt x16 = ((G.1 (F a 0) 1).toInt)) dX5_advance_19 (by decide) (fun c19 => ?_) (fun c19 => ?_)
      · refine lv_aload_n hx hb dX5_advance_51 rfl (lv_at hl 0 rfl) ?_
        refine lv_aload_n hx hb dX5_advance_52 rfl (lv_at hl 0 rfl) ?_
        refine gX5_2 S hK hT ha kf_X5_78 dX5_advance_53 (v := (G_8.1 a 2)) rfl (?_)
        refine pX5_3 (v := (G_8.1 a 2)) S hK hT hS ha kf_X5_19 dX5_advance_56 (fun H locs hT hS => ?_)
        obtain ⟨G56, hG56⟩ : ∃ GG : XG, GG = dput G_8 a 3 (G_8.1 a 2) := ⟨_, rfl⟩
        rw [← hG56] at hT
        refine lv_aload_n hx hb dX5_advance_59 rfl (lv_at hl 0 rfl) ?_
        refine gX5_2 S hK hT ha kf_X5_78 dX5_advance_60 (v := (G_8.1 a 2)) (ld_j hG56 (by decide)) (?_)
        refine lv_aload_n hx hb dX5_advance_63 rfl (lv_at hl 0 rfl) ?_
        refine gX5_0 S hK hT ha kf_X5_9 dX5_advance_64 (fun _ _ => ?_)
        refine x_clp (x_runV (b := (F a 0)) (As := []) (rest := [.int (G_8.1 a 2)]) S (c_X8_length l E K F G56 H (F a 0) hk9999) mv_X8_length km_X5_106 rfl rfl ⟨Nat.le_of_ble_eq_true rfl, Nat.le_of_ble_eq_true rfl⟩ (rc_10 hK hT hk9999) hK (fun _ => XPh.blind) (fun U hU hW => XPh.at hK hz hS hT hU hW) rfl hl.1 (Nat.le_of_ble_eq_true rfl) dX5_advance_67 ⟨Nat.le_of_ble_eq_true rfl, Nat.le_of_ble_eq_true rfl⟩) hS ?_
        rintro _ _ locs ⟨x67, rfl, t67⟩ hS
        have t67 : x67.toInt = ((G.1 (F a 0) 1).toInt) := by rw [(show (G56.1 (F a 0) 1).toInt = ((G.1 (F a 0) 1).toInt) from (congrArg Int32.toInt ((ld_j hG56 (by decide)).trans ((hF_8.1 _ _ (xnj (by decide) xn0)).trans (ld_j hG5 (by decide))))).trans (rfl : Int32.toInt (G.1 (F a 0) 1) = ((G.1 (F a 0) 1).toInt)))] at t67; exact t67
        refine xi_clt (tgt := 81) hx hb (rfl : Int32.toInt (G_8.1 a 2) = ((G_8.1 a 2).toInt)) (t67 : Int32.toInt x67 = ((G.1 (F a 0) 1).toInt)) dX5_advance_70 (by decide) (fun c70 => ?_) (fun c70 => ?_)
        · refine lv_aload_n hx hb dX5_advance_81 rfl (lv_at hl 0 rfl) ?_
          refine gX5_0 S hK hT ha kf_X5_9 dX5_advance_82 (fun _ _ => ?_)
          refine lv_aload_n hx hb dX5_advance_85 rfl (lv_at hl 0 rfl) ?_
          refine gX5_2 S hK hT ha kf_X5_78 dX5_advance_86 (v := (G_8.1 a 2)) (ld_j hG56 (by decide)) (?_)
          refine x_clp (x_runV (b := (F a 0)) (As := [.int (G_8.1 a 2)]) (rest := []) S (c_X8_signAt l E K F G56 H (F a 0) (G_8.1 a 2) hk9999 (by rw [(show (G56.1 (F a 0) 1).toInt = ((G.1 (F a 0) 1).toInt) from (congrArg Int32.toInt ((ld_j hG56 (by decide)).trans ((hF_8.1 _ _ (xnj (by decide) xn0)).trans (ld_j hG5 (by decide))))).trans (rfl : Int32.toInt (G.1 (F a 0) 1) = ((G.1 (F a 0) 1).toInt)))] <;> exact (z_X5_advance_2 ((G.1 (F a 0) 1).toInt) ((G_8.1 a 2).toInt) c19 c70))) mv_X8_signAt km_X5_97 rfl rfl ⟨Nat.le_of_ble_eq_true rfl, Nat.le_of_ble_eq_true rfl⟩ (rc_10 hK hT hk9999) hK (fun _ => XPh.blind) (fun U hU hW => XPh.at hK hz hS hT hU hW) rfl hl.1 (Nat.le_of_ble_eq_true rfl) dX5_advance_89 ⟨Nat.le_of_ble_eq_true rfl, Nat.le_of_ble_eq_true rfl⟩) hS ?_
          rintro _ _ locs ⟨x89, rfl, b89, t89⟩ hS
          have t89 : x89.toInt = (tC (G.2.1 (F (F a 0) 0)) ((G.1 (F a 0) 1).toInt) ((G_8.1 a 2).toInt)) := by rw [(show G56.2.1 (F (F a 0) 0) = G.2.1 (F (F a 0) 0) from ((ld_c hG56).trans ((hF_8.2.1 _ xn0).trans (ld_c hG5))))] at t89; rw [(show (G56.1 (F a 0) 1).toInt = ((G.1 (F a 0) 1).toInt) from (congrArg Int32.toInt ((ld_j hG56 (by decide)).trans ((hF_8.1 _ _ (xnj (by decide) xn0)).trans (ld_j hG5 (by decide))))).trans (rfl : Int32.toInt (G.1 (F a 0) 1) = ((G.1 (F a 0) 1).toInt)))] at t89; exact t89
          refine x_clp (x_runS (As := [.int x89]) (rest := []) S (c_X5_isLetter l E K F G56 H x89) ms_X5_isLetter km_X5_107 rfl rfl ⟨Nat.le_of_ble_eq_true rfl, Nat.le_of_ble_eq_true rfl⟩ hK (fun _ => XPh.blind) (fun U hU hW => XPh.at hK hz hS hT hU hW) rfl hl.1 (Nat.le_of_ble_eq_true rfl) dX5_advance_92 ⟨Nat.le_of_ble_eq_true rfl, Nat.le_of_ble_eq_true rfl⟩) hS ?_
          rintro _ _ locs ⟨x92, rfl, b92, t92⟩ hS
          have t92 : (x92.toInt = 1 ∧ 97 ≤ x89.toInt ∧ x89.toInt ≤ 122) ∨ (x92.toInt = 0 ∧ (x89.toInt < 97 ∨ 122 < x89.toInt)) := t92
          refine xi_zeq (tgt := 105) hx hb (rfl : Int32.toInt x92 = x92.toInt) dX5_advance_95 (by decide) (fun c95 => ?_) (fun c95 => ?_)
          · refine lv_aload_n hx hb dX5_advance_105 rfl (lv_at hl 0 rfl) ?_
            refine x_cv0 (x_runV (b := a) (As := []) (rest := []) S (c_X5_advanceNumber l E K F G56 a ha (by rw [(show (G56.1 (F a 0) 1).toInt = ((G.1 (F a 0) 1).toInt) from (congrArg Int32.toInt ((ld_j hG56 (by decide)).trans ((hF_8.1 _ _ (xnj (by decide) xn0)).trans (ld_j hG5 (by decide))))).trans (rfl : Int32.toInt (G.1 (F a 0) 1) = ((G.1 (F a 0) 1).toInt)))] <;> exact (z_X5_advance_2 ((G.1 (F a 0) 1).toInt) ((G_8.1 a 2).toInt) c19 c70)) (by rw [(show (G56.1 a 2).toInt = ((G_8.1 a 2).toInt) from (congrArg Int32.toInt (ld_j hG56 (by decide))).trans (rfl : Int32.toInt (G_8.1 a 2) = ((G_8.1 a 2).toInt))), (show (G56.1 (F a 0) 1).toInt = ((G.1 (F a 0) 1).toInt) from (congrArg Int32.toInt ((ld_j hG56 (by decide)).trans ((hF_8.1 _ _ (xnj (by decide) xn0)).trans (ld_j hG5 (by decide))))).trans (rfl : Int32.toInt (G.1 (F a 0) 1) = ((G.1 (F a 0) 1).toInt)))] <;> exact (z_X5_advance_4 ((G.1 (F a 0) 1).toInt) ((G_8.1 a 2).toInt) c19 c70))) mv_X5_advanceNumber km_X5_114 rfl rfl ⟨Nat.le_of_ble_eq_true rfl, Nat.le_of_ble_eq_true rfl⟩ (rc_7 hK hT ha) hK (fun _ => XP.blind) (fun U hU hW => XP.at hK hz hS hT hU hW) rfl hl.1 (Nat.le_of_ble_eq_true rfl) dX5_advance_106 ⟨Nat.le_of_ble_eq_true rfl, Nat.le_of_ble_eq_true rfl⟩) hS ?_
            rintro G106 H locs ⟨hF106, t106, oq106⟩ hT hS
            have t106 : 0 ≤ ((G106.1 a 3).toInt) ∧ ((G106.1 a 3).toInt) ≤ ((G.1 (F a 0) 1).toInt) := by rw [(show (G56.1 (F a 0) 1).toInt = ((G.1 (F a 0) 1).toInt) from (congrArg Int32.toInt ((ld_j hG56 (by decide)).trans ((hF_8.1 _ _ (xnj (by decide) xn0)).trans (ld_j hG5 (by decide))))).trans (rfl : Int32.toInt (G.1 (F a 0) 1) = ((G.1 (F a 0) 1).toInt)))] at t106; exact t106
            have oq106 : ((G106.1 a 3).toInt) = nE (tC (G.2.1 (F (F a 0) 0)) ((G.1 (F a 0) 1).toInt)) ((G_8.1 a 2).toInt) ∧ ((nOk (tC (G.2.1 (F (F a 0) 0)) ((G.1 (F a 0) 1).toInt)) ((G_8.1 a 2).toInt) ∧ ((G106.1 a 1).toInt) = 2 ∧ ((G106.1 a 4).toInt) = nVl (tC (G.2.1 (F (F a 0) 0)) ((G.1 (F a 0) 1).toInt)) ((G_8.1 a 2).toInt)) ∨ (¬ nOk (tC (G.2.1 (F (F a 0) 0)) ((G.1 (F a 0) 1).toInt)) ((G_8.1 a 2).toInt) ∧ ((G106.1 a 1).toInt) = 3)) := by simp only [(show G56.2.1 (F (F a 0) 0) = G.2.1 (F (F a 0) 0) from ((ld_c hG56).trans ((hF_8.2.1 _ xn0).trans (ld_c hG5)))), (show G56.1 (F a 0) 1 = G.1 (F a 0) 1 from ((ld_j hG56 (by decide)).trans ((hF_8.1 _ _ (xnj (by decide) xn0)).trans (ld_j hG5 (by decide))))), (show G56.1 a 2 = G_8.1 a 2 from (ld_j hG56 (by decide)))] at oq106; exact oq106
            exact x_rv hx hb hr hlk hQ (Nat.le_of_ble_eq_true rfl) (Nat.le_of_ble_eq_true rfl) hS dX5_advance_109 G106 ⟨(XFr.call (by rw [hG56]; exact XFr.dput (XFr.call (by rw [hG5]; exact XFr.dput XFr.rf (List.mem_of_getElem? (i := 1) rfl)) hF_8 (xm1 1 rfl xm0) xm0 xm0) (List.mem_of_getElem? (i := 2) rfl)) hF106 (xm1 0 rfl (xm1 2 rfl (xm1 3 rfl xm0))) xm0 xm0), (by rw [(show (G106.1 a 2).toInt = ((G_8.1 a 2).toInt) from (congrArg Int32.toInt ((hF106.1 _ _ (xnj (by decide) (xnj (by decide) (xnj (by decide) xn0)))).trans (ld_j hG56 (by decide)))).trans (rfl : Int32.toInt (G_8.1 a 2) = ((G_8.1 a 2).toInt)))] <;> exact (z_X5_advance_5 ((G.1 (F a 0) 1).toInt) ((G106.1 a 3).toInt) ((G_8.1 a 2).toInt) c19 c70)), (v_X5_advance_109_1 (K := K) (F := F) a G G_8 G56 G106 N8 x89 x92 ha pr oq106 n0 s0 I8_0 hm8 c19 c70 t89 t92 c95 t106 ((hF106.1 _ _ (xnj (by decide) (xnj (by decide) (xnj (by decide) xn0)))).trans (ld_j hG56 (by decide))) (ld_j hG56 (by decide)))⟩ hT
          · refine lv_aload_n hx hb dX5_advance_98 rfl (lv_at hl 0 rfl) ?_
            refine x_cv0 (x_runV (b := a) (As := []) (rest := []) S (c_X5_advanceWord l E K F G56 a ha (by rw [(show (G56.1 (F a 0) 1).toInt = ((G.1 (F a 0) 1).toInt) from (congrArg Int32.toInt ((ld_j hG56 (by decide)).trans ((hF_8.1 _ _ (xnj (by decide) xn0)).trans (ld_j hG5 (by decide))))).trans (rfl : Int32.toInt (G.1 (F a 0) 1) = ((G.1 (F a 0) 1).toInt)))] <;> exact (z_X5_advance_2 ((G.1 (F a 0) 1).toInt) ((G_8.1 a 2).toInt) c19 c70)) (by rw [(show (G56.1 a 3).toInt = ((G_8.1 a 2).toInt) from (congrArg Int32.toInt (ld_at hG56)).trans (rfl : Int32.toInt (G_8.1 a 2) = ((G_8.1 a 2).toInt))), (show (G56.1 (F a 0) 1).toInt = ((G.1 (F a 0) 1).toInt) from (congrArg Int32.toInt ((ld_j hG56 (by decide)).trans ((hF_8.1 _ _ (xnj (by decide) xn0)).trans (ld_j hG5 (by decide))))).trans (rfl : Int32.toInt (G.1 (F a 0) 1) = ((G.1 (F a 0) 1).toInt)))] <;> exact (z_X5_advance_7 ((G.1 (F a 0) 1).toInt) ((G_8.1 a 2).toInt) c19 c70))) mv_X5_advanceWord km_X5_111 rfl rfl ⟨Nat.le_of_ble_eq_true rfl, Nat.le_of_ble_eq_true rfl⟩ (rc_7 hK hT ha) hK (fun _ => XP.blind) (fun U hU hW => XP.at hK hz hS hT hU hW) rfl hl.1 (Nat.le_of_ble_eq_true rfl) dX5_advance_99 ⟨Nat.le_of_ble_eq_true rfl, Nat.le_of_ble_eq_true rfl⟩) hS ?_
            rintro G99 H locs ⟨hF99, t99, oq99⟩ hT hS
            have t99 : ((G99.1 a 1).toInt) = 1 ∧ ((G_8.1 a 2).toInt) ≤ ((G99.1 a 3).toInt) ∧ ((G99.1 a 3).toInt) ≤ ((G.1 (F a 0) 1).toInt) := by rw [(show (G56.1 a 3).toInt = ((G_8.1 a 2).toInt) from (congrArg Int32.toInt (ld_at hG56)).trans (rfl : Int32.toInt (G_8.1 a 2) = ((G_8.1 a 2).toInt)))] at t99; rw [(show (G56.1 (F a 0) 1).toInt = ((G.1 (F a 0) 1).toInt) from (congrArg Int32.toInt ((ld_j hG56 (by decide)).trans ((hF_8.1 _ _ (xnj (by decide) xn0)).trans (ld_j hG5 (by decide))))).trans (rfl : Int32.toInt (G.1 (F a 0) 1) = ((G.1 (F a 0) 1).toInt)))] at t99; exact t99
            have oq99 : ((G99.1 a 3).toInt) = rn cLt (tC (G.2.1 (F (F a 0) 0)) ((G.1 (F a 0) 1).toInt)) ((G56.1 a 3).toInt) := by simp only [(show G56.2.1 (F (F a 0) 0) = G.2.1 (F (F a 0) 0) from ((ld_c hG56).trans ((hF_8.2.1 _ xn0).trans (ld_c hG5)))), (show G56.1 (F a 0) 1 = G.1 (F a 0) 1 from ((ld_j hG56 (by decide)).trans ((hF_8.1 _ _ (xnj (by decide) xn0)).trans (ld_j hG5 (by decide)))))] at oq99; exact oq99
            refine lv_goto (tgt := 109) hx hb dX5_advance_102 (by decide) ?_
            exact x_rv hx hb hr hlk hQ (Nat.le_of_ble_eq_true rfl) (Nat.le_of_ble_eq_true rfl) hS dX5_advance_109 G99 ⟨(XFr.call (by rw [hG56]; exact XFr.dput (XFr.call (by rw [hG5]; exact XFr.dput XFr.rf (List.mem_of_getElem? (i := 1) rfl)) hF_8 (xm1 1 rfl xm0) xm0 xm0) (List.mem_of_getElem? (i := 2) rfl)) hF99 (xm1 0 rfl (xm1 2 rfl xm0)) xm0 xm0), (by rw [(show (G99.1 a 2).toInt = ((G_8.1 a 2).toInt) from (congrArg Int32.toInt ((hF99.1 _ _ (xnj (by decide) (xnj (by decide) xn0))).trans (ld_j hG56 (by decide)))).trans (rfl : Int32.toInt (G_8.1 a 2) = ((G_8.1 a 2).toInt)))] <;> exact (z_X5_advance_5 ((G.1 (F a 0) 1).toInt) ((G99.1 a 3).toInt) ((G_8.1 a 2).toInt) c19 c70)), (v_X5_advance_109_2 (K := K) (F := F) a G G_8 G56 G99 N8 x89 x92 ha pr oq99 n0 s0 I8_0 hm8 c19 c70 t89 t92 c95 t99 (ld_at hG56) ((hF99.1 _ _ (xnj (by decide) (xnj (by decide) xn0))).trans (ld_j hG56 (by decide))))⟩ hT
        · refine lv_aload_n hx hb dX5_advance_73 rfl (lv_at hl 0 rfl) ?_
          refine lv_iconst (v := 0) hx hb dX5_advance_74 (by decide) ?_
          refine pX5_1 (v := 0) S hK hT hS ha kf_X5_75 dX5_advance_75 (fun H locs hT hS => ?_)
          obtain ⟨G75, hG75⟩ : ∃ GG : XG, GG = dput G56 a 1 0 := ⟨_, rfl⟩
          rw [← hG75] at hT
          refine lv_goto (tgt := 109) hx hb dX5_advance_78 (by decide) ?_
          exact x_rv hx hb hr hlk hQ (Nat.le_of_ble_eq_true rfl) (Nat.le_of_ble_eq_true rfl) hS dX5_advance_109 G75 ⟨(by rw [hG75]; exact XFr.dput (by rw [hG56]; exact XFr.dput (XFr.call (by rw [hG5]; exact XFr.dput XFr.rf (List.mem_of_getElem? (i := 1) rfl)) hF_8 (xm1 1 rfl xm0) xm0 xm0) (List.mem_of_getElem? (i := 2) rfl)) (List.mem_of_getElem? (i := 0) rfl)), (by rw [(show (G75.1 a 2).toInt = ((G_8.1 a 2).toInt) from (congrArg Int32.toInt ((ld_j hG75 (by decide)).trans (ld_j hG56 (by decide)))).trans (rfl : Int32.toInt (G_8.1 a 2) = ((G_8.1 a 2).toInt))), (show (G75.1 a 3).toInt = ((G_8.1 a 2).toInt) from (congrArg Int32.toInt ((ld_j hG75 (by decide)).trans (ld_at hG56))).trans (rfl : Int32.toInt (G_8.1 a 2) = ((G_8.1 a 2).toInt)))] <;> exact (z_X5_advance_9 ((G.1 (F a 0) 1).toInt) ((G.1 a 3).toInt) ((G_8.1 a 2).toInt) s0 I8_0)), (v_X5_advance_109_3 (K := K) (F := F) a G G_8 G75 N8 ha pr n0 s0 I8_0 hm8 c19 c70 (ld_at hG75) ((ld_j hG75 (by decide)).trans (ld_j hG56 (by decide))))⟩ hT
      · refine lv_aload_n hx hb dX5_advance_22 rfl (lv_at hl 0 rfl) ?_
        refine gX5_0 S hK hT ha kf_X5_9 dX5_advance_23 (fun _ _ => ?_)
        refine lv_aload_n hx hb dX5_advance_26 rfl (lv_at hl 0 rfl) ?_
        refine gX5_2 S hK hT ha kf_X5_78 dX5_advance_27 (v := (G_8.1 a 2)) rfl (?_)
        refine x_clp (x_runV (b := (F a 0)) (As := [.int (G_8.1 a 2)]) (rest := []) S (c_X8_signAt l E K F G_8 H (F a 0) (G_8.1 a 2) hk9999 (by rw [(show (G_8.1 (F a 0) 1).toInt = ((G.1 (F a 0) 1).toInt) from (congrArg Int32.toInt ((hF_8.1 _ _ (xnj (by decide) xn0)).trans (ld_j hG5 (by decide)))).trans (rfl : Int32.toInt (G.1 (F a 0) 1) = ((G.1 (F a 0) 1).toInt)))] <;> exact (n0))) mv_X8_signAt km_X5_97 rfl rfl ⟨Nat.le_of_ble_eq_true rfl, Nat.le_of_ble_eq_true rfl⟩ (rc_10 hK hT hk9999) hK (fun _ => XPh.blind) (fun U hU hW => XPh.at hK hz hS hT hU hW) rfl hl.1 (Nat.le_of_ble_eq_true rfl) dX5_advance_30 ⟨Nat.le_of_ble_eq_true rfl, Nat.le_of_ble_eq_true rfl⟩) hS ?_
        rintro _ _ locs ⟨x30, rfl, b30, t30⟩ hS
        have t30 : x30.toInt = (tC (G.2.1 (F (F a 0) 0)) ((G.1 (F a 0) 1).toInt) ((G_8.1 a 2).toInt)) := by rw [(show G_8.2.1 (F (F a 0) 0) = G.2.1 (F (F a 0) 0) from ((hF_8.2.1 _ xn0).trans (ld_c hG5)))] at t30; rw [(show (G_8.1 (F a 0) 1).toInt = ((G.1 (F a 0) 1).toInt) from (congrArg Int32.toInt ((hF_8.1 _ _ (xnj (by decide) xn0)).trans (ld_j hG5 (by decide)))).trans (rfl : Int32.toInt (G.1 (F a 0) 1) = ((G.1 (F a 0) 1).toInt)))] at t30; exact t30
        refine lv_bipush (v := 32) hx hb dX5_advance_33 (by decide) ?_
        refine xi_cne (tgt := 51) hx hb (rfl : Int32.toInt x30 = x30.toInt) ((by decide) : Int32.toInt 32 = (32 : Int)) dX5_advance_35 (by decide) (fun c35 => ?_) (fun c35 => ?_)
        · refine lv_aload_n hx hb dX5_advance_51 rfl (lv_at hl 0 rfl) ?_
          refine lv_aload_n hx hb dX5_advance_52 rfl (lv_at hl 0 rfl) ?_
          refine gX5_2 S hK hT ha kf_X5_78 dX5_advance_53 (v := (G_8.1 a 2)) rfl (?_)
          refine pX5_3 (v := (G_8.1 a 2)) S hK hT hS ha kf_X5_19 dX5_advance_56 (fun H locs hT hS => ?_)
          obtain ⟨G56, hG56⟩ : ∃ GG : XG, GG = dput G_8 a 3 (G_8.1 a 2) := ⟨_, rfl⟩
          rw [← hG56] at hT
          refine lv_aload_n hx hb dX5_advance_59 rfl (lv_at hl 0 rfl) ?_
          refine gX5_2 S hK hT ha kf_X5_78 dX5_advance_60 (v := (G_8.1 a 2)) (ld_j hG56 (by decide)) (?_)
          refine lv_aload_n hx hb dX5_advance_63 rfl (lv_at hl 0 rfl) ?_
          refine gX5_0 S hK hT ha kf_X5_9 dX5_advance_64 (fun _ _ => ?_)
          refine x_clp (x_runV (b := (F a 0)) (As := []) (rest := [.int (G_8.1 a 2)]) S (c_X8_length l E K F G56 H (F a 0) hk9999) mv_X8_length km_X5_106 rfl rfl ⟨Nat.le_of_ble_eq_true rfl, Nat.le_of_ble_eq_true rfl⟩ (rc_10 hK hT hk9999) hK (fun _ => XPh.blind) (fun U hU hW => XPh.at hK hz hS hT hU hW) rfl hl.1 (Nat.le_of_ble_eq_true rfl) dX5_advance_67 ⟨Nat.le_of_ble_eq_true rfl, Nat.le_of_ble_eq_true rfl⟩) hS ?_
          rintro _ _ locs ⟨x67, rfl, t67⟩ hS
          have t67 : x67.toInt = ((G.1 (F a 0) 1).toInt) := by rw [(show (G56.1 (F a 0) 1).toInt = ((G.1 (F a 0) 1).toInt) from (congrArg Int32.toInt ((ld_j hG56 (by decide)).trans ((hF_8.1 _ _ (xnj (by decide) xn0)).trans (ld_j hG5 (by decide))))).trans (rfl : Int32.toInt (G.1 (F a 0) 1) = ((G.1 (F a 0) 1).toInt)))] at t67; exact t67
          refine xi_clt (tgt := 81) hx hb (rfl : Int32.toInt (G_8.1 a 2) = ((G_8.1 a 2).toInt)) (t67 : Int32.toInt x67 = ((G.1 (F a 0) 1).toInt)) dX5_advance_70 (by decide) (fun c70 => ?_) (fun c70 => ?_)
          · refine lv_aload_n hx hb dX5_advance_81 rfl (lv_at hl 0 rfl) ?_
            refine gX5_0 S hK hT ha kf_X5_9 dX5_advance_82 (fun _ _ => ?_)
            refine lv_aload_n hx hb dX5_advance_85 rfl (lv_at hl 0 rfl) ?_
            refine gX5_2 S hK hT ha kf_X5_78 dX5_advance_86 (v := (G_8.1 a 2)) (ld_j hG56 (by decide)) (?_)
            refine x_clp (x_runV (b := (F a 0)) (As := [.int (G_8.1 a 2)]) (rest := []) S (c_X8_signAt l E K F G56 H (F a 0) (G_8.1 a 2) hk9999 (by rw [(show (G56.1 (F a 0) 1).toInt = ((G.1 (F a 0) 1).toInt) from (congrArg Int32.toInt ((ld_j hG56 (by decide)).trans ((hF_8.1 _ _ (xnj (by decide) xn0)).trans (ld_j hG5 (by decide))))).trans (rfl : Int32.toInt (G.1 (F a 0) 1) = ((G.1 (F a 0) 1).toInt)))] <;> exact (n0))) mv_X8_signAt km_X5_97 rfl rfl ⟨Nat.le_of_ble_eq_true rfl, Nat.le_of_ble_eq_true rfl⟩ (rc_10 hK hT hk9999) hK (fun _ => XPh.blind) (fun U hU hW => XPh.at hK hz hS hT hU hW) rfl hl.1 (Nat.le_of_ble_eq_true rfl) dX5_advance_89 ⟨Nat.le_of_ble_eq_true rfl, Nat.le_of_ble_eq_true rfl⟩) hS ?_
            rintro _ _ locs ⟨x89, rfl, b89, t89⟩ hS
            have t89 : x89.toInt = (tC (G.2.1 (F (F a 0) 0)) ((G.1 (F a 0) 1).toInt) ((G_8.1 a 2).toInt)) := by rw [(show G56.2.1 (F (F a 0) 0) = G.2.1 (F (F a 0) 0) from ((ld_c hG56).trans ((hF_8.2.1 _ xn0).trans (ld_c hG5))))] at t89; rw [(show (G56.1 (F a 0) 1).toInt = ((G.1 (F a 0) 1).toInt) from (congrArg Int32.toInt ((ld_j hG56 (by decide)).trans ((hF_8.1 _ _ (xnj (by decide) xn0)).trans (ld_j hG5 (by decide))))).trans (rfl : Int32.toInt (G.1 (F a 0) 1) = ((G.1 (F a 0) 1).toInt)))] at t89; exact t89
            refine x_clp (x_runS (As := [.int x89]) (rest := []) S (c_X5_isLetter l E K F G56 H x89) ms_X5_isLetter km_X5_107 rfl rfl ⟨Nat.le_of_ble_eq_true rfl, Nat.le_of_ble_eq_true rfl⟩ hK (fun _ => XPh.blind) (fun U hU hW => XPh.at hK hz hS hT hU hW) rfl hl.1 (Nat.le_of_ble_eq_true rfl) dX5_advance_92 ⟨Nat.le_of_ble_eq_true rfl, Nat.le_of_ble_eq_true rfl⟩) hS ?_
            rintro _ _ locs ⟨x92, rfl, b92, t92⟩ hS
            have t92 : (x92.toInt = 1 ∧ 97 ≤ x89.toInt ∧ x89.toInt ≤ 122) ∨ (x92.toInt = 0 ∧ (x89.toInt < 97 ∨ 122 < x89.toInt)) := t92
            refine xi_zeq (tgt := 105) hx hb (rfl : Int32.toInt x92 = x92.toInt) dX5_advance_95 (by decide) (fun c95 => ?_) (fun c95 => ?_)
            · refine lv_aload_n hx hb dX5_advance_105 rfl (lv_at hl 0 rfl) ?_
              refine x_cv0 (x_runV (b := a) (As := []) (rest := []) S (c_X5_advanceNumber l E K F G56 a ha (by rw [(show (G56.1 (F a 0) 1).toInt = ((G.1 (F a 0) 1).toInt) from (congrArg Int32.toInt ((ld_j hG56 (by decide)).trans ((hF_8.1 _ _ (xnj (by decide) xn0)).trans (ld_j hG5 (by decide))))).trans (rfl : Int32.toInt (G.1 (F a 0) 1) = ((G.1 (F a 0) 1).toInt)))] <;> exact (n0)) (by rw [(show (G56.1 a 2).toInt = ((G_8.1 a 2).toInt) from (congrArg Int32.toInt (ld_j hG56 (by decide))).trans (rfl : Int32.toInt (G_8.1 a 2) = ((G_8.1 a 2).toInt))), (show (G56.1 (F a 0) 1).toInt = ((G.1 (F a 0) 1).toInt) from (congrArg Int32.toInt ((ld_j hG56 (by decide)).trans ((hF_8.1 _ _ (xnj (by decide) xn0)).trans (ld_j hG5 (by decide))))).trans (rfl : Int32.toInt (G.1 (F a 0) 1) = ((G.1 (F a 0) 1).toInt)))] <;> exact (z_X5_advance_13 ((G.1 (F a 0) 1).toInt) ((G.1 a 3).toInt) ((G_8.1 a 2).toInt) s0 I8_0 c19))) mv_X5_advanceNumber km_X5_114 rfl rfl ⟨Nat.le_of_ble_eq_true rfl, Nat.le_of_ble_eq_true rfl⟩ (rc_7 hK hT ha) hK (fun _ => XP.blind) (fun U hU hW => XP.at hK hz hS hT hU hW) rfl hl.1 (Nat.le_of_ble_eq_true rfl) dX5_advance_106 ⟨Nat.le_of_ble_eq_true rfl, Nat.le_of_ble_eq_true rfl⟩) hS ?_
              rintro G106 H locs ⟨hF106, t106, oq106⟩ hT hS
              have t106 : 0 ≤ ((G106.1 a 3).toInt) ∧ ((G106.1 a 3).toInt) ≤ ((G.1 (F a 0) 1).toInt) := by rw [(show (G56.1 (F a 0) 1).toInt = ((G.1 (F a 0) 1).toInt) from (congrArg Int32.toInt ((ld_j hG56 (by decide)).trans ((hF_8.1 _ _ (xnj (by decide) xn0)).trans (ld_j hG5 (by decide))))).trans (rfl : Int32.toInt (G.1 (F a 0) 1) = ((G.1 (F a 0) 1).toInt)))] at t106; exact t106
              have oq106 : ((G106.1 a 3).toInt) = nE (tC (G.2.1 (F (F a 0) 0)) ((G.1 (F a 0) 1).toInt)) ((G_8.1 a 2).toInt) ∧ ((nOk (tC (G.2.1 (F (F a 0) 0)) ((G.1 (F a 0) 1).toInt)) ((G_8.1 a 2).toInt) ∧ ((G106.1 a 1).toInt) = 2 ∧ ((G106.1 a 4).toInt) = nVl (tC (G.2.1 (F (F a 0) 0)) ((G.1 (F a 0) 1).toInt)) ((G_8.1 a 2).toInt)) ∨ (¬ nOk (tC (G.2.1 (F (F a 0) 0)) ((G.1 (F a 0) 1).toInt)) ((G_8.1 a 2).toInt) ∧ ((G106.1 a 1).toInt) = 3)) := by simp only [(show G56.2.1 (F (F a 0) 0) = G.2.1 (F (F a 0) 0) from ((ld_c hG56).trans ((hF_8.2.1 _ xn0).trans (ld_c hG5)))), (show G56.1 (F a 0) 1 = G.1 (F a 0) 1 from ((ld_j hG56 (by decide)).trans ((hF_8.1 _ _ (xnj (by decide) xn0)).trans (ld_j hG5 (by decide))))), (show G56.1 a 2 = G_8.1 a 2 from (ld_j hG56 (by decide)))] at oq106; exact oq106
              exact x_rv hx hb hr hlk hQ (Nat.le_of_ble_eq_true rfl) (Nat.le_of_ble_eq_true rfl) hS dX5_advance_109 G106 ⟨(XFr.call (by rw [hG56]; exact XFr.dput (XFr.call (by rw [hG5]; exact XFr.dput XFr.rf (List.mem_of_getElem? (i := 1) rfl)) hF_8 (xm1 1 rfl xm0) xm0 xm0) (List.mem_of_getElem? (i := 2) rfl)) hF106 (xm1 0 rfl (xm1 2 rfl (xm1 3 rfl xm0))) xm0 xm0), (by rw [(show (G106.1 a 2).toInt = ((G_8.1 a 2).toInt) from (congrArg Int32.toInt ((hF106.1 _ _ (xnj (by decide) (xnj (by decide) (xnj (by decide) xn0)))).trans (ld_j hG56 (by decide)))).trans (rfl : Int32.toInt (G_8.1 a 2) = ((G_8.1 a 2).toInt)))] <;> exact (z_X5_advance_14 ((G.1 (F a 0) 1).toInt) ((G.1 a 3).toInt) ((G106.1 a 3).toInt) ((G_8.1 a 2).toInt) s0 I8_0 t106)), (v_X5_advance_109_4 (K := K) (F := F) a G G_8 G56 G106 N8 x30 x89 x92 ha pr oq106 n0 s0 I8_0 hm8 c19 t30 c35 c70 t89 t92 c95 t106 ((hF106.1 _ _ (xnj (by decide) (xnj (by decide) (xnj (by decide) xn0)))).trans (ld_j hG56 (by decide))) (ld_j hG56 (by decide)))⟩ hT
            · refine lv_aload_n hx hb dX5_advance_98 rfl (lv_at hl 0 rfl) ?_
              refine x_cv0 (x_runV (b := a) (As := []) (rest := []) S (c_X5_advanceWord l E K F G56 a ha (by rw [(show (G56.1 (F a 0) 1).toInt = ((G.1 (F a 0) 1).toInt) from (congrArg Int32.toInt ((ld_j hG56 (by decide)).trans ((hF_8.1 _ _ (xnj (by decide) xn0)).trans (ld_j hG5 (by decide))))).trans (rfl : Int32.toInt (G.1 (F a 0) 1) = ((G.1 (F a 0) 1).toInt)))] <;> exact (n0)) (by rw [(show (G56.1 a 3).toInt = ((G_8.1 a 2).toInt) from (congrArg Int32.toInt (ld_at hG56)).trans (rfl : Int32.toInt (G_8.1 a 2) = ((G_8.1 a 2).toInt))), (show (G56.1 (F a 0) 1).toInt = ((G.1 (F a 0) 1).toInt) from (congrArg Int32.toInt ((ld_j hG56 (by decide)).trans ((hF_8.1 _ _ (xnj (by decide) xn0)).trans (ld_j hG5 (by decide))))).trans (rfl : Int32.toInt (G.1 (F a 0) 1) = ((G.1 (F a 0) 1).toInt)))] <;> exact (z_X5_advance_16 ((G.1 (F a 0) 1).toInt) ((G.1 a 3).toInt) ((G_8.1 a 2).toInt) s0 I8_0))) mv_X5_advanceWord km_X5_111 rfl rfl ⟨Nat.le_of_ble_eq_true rfl, Nat.le_of_ble_eq_true rfl⟩ (rc_7 hK hT ha) hK (fun _ => XP.blind) (fun U hU hW => XP.at hK hz hS hT hU hW) rfl hl.1 (Nat.le_of_ble_eq_true rfl) dX5_advance_99 ⟨Nat.le_of_ble_eq_true rfl, Nat.le_of_ble_eq_true rfl⟩) hS ?_
              rintro G99 H locs ⟨hF99, t99, oq99⟩ hT hS
              have t99 : ((G99.1 a 1).toInt) = 1 ∧ ((G_8.1 a 2).toInt) ≤ ((G99.1 a 3).toInt) ∧ ((G99.1 a 3).toInt) ≤ ((G.1 (F a 0) 1).toInt) := by rw [(show (G56.1 a 3).toInt = ((G_8.1 a 2).toInt) from (congrArg Int32.toInt (ld_at hG56)).trans (rfl : Int32.toInt (G_8.1 a 2) = ((G_8.1 a 2).toInt)))] at t99; rw [(show (G56.1 (F a 0) 1).toInt = ((G.1 (F a 0) 1).toInt) from (congrArg Int32.toInt ((ld_j hG56 (by decide)).trans ((hF_8.1 _ _ (xnj (by decide) xn0)).trans (ld_j hG5 (by decide))))).trans (rfl : Int32.toInt (G.1 (F a 0) 1) = ((G.1 (F a 0) 1).toInt)))] at t99; exact t99
              have oq99 : ((G99.1 a 3).toInt) = rn cLt (tC (G.2.1 (F (F a 0) 0)) ((G.1 (F a 0) 1).toInt)) ((G56.1 a 3).toInt) := by simp only [(show G56.2.1 (F (F a 0) 0) = G.2.1 (F (F a 0) 0) from ((ld_c hG56).trans ((hF_8.2.1 _ xn0).trans (ld_c hG5)))), (show G56.1 (F a 0) 1 = G.1 (F a 0) 1 from ((ld_j hG56 (by decide)).trans ((hF_8.1 _ _ (xnj (by decide) xn0)).trans (ld_j hG5 (by decide)))))] at oq99; exact oq99
              refine lv_goto (tgt := 109) hx hb dX5_advance_102 (by decide) ?_
              exact x_rv hx hb hr hlk hQ (Nat.le_of_ble_eq_true rfl) (Nat.le_of_ble_eq_true rfl) hS dX5_advance_109 G99 ⟨(XFr.call (by rw [hG56]; exact XFr.dput (XFr.call (by rw [hG5]; exact XFr.dput XFr.rf (List.mem_of_getElem? (i := 1) rfl)) hF_8 (xm1 1 rfl xm0) xm0 xm0) (List.mem_of_getElem? (i := 2) rfl)) hF99 (xm1 0 rfl (xm1 2 rfl xm0)) xm0 xm0), (by rw [(show (G99.1 a 2).toInt = ((G_8.1 a 2).toInt) from (congrArg Int32.toInt ((hF99.1 _ _ (xnj (by decide) (xnj (by decide) xn0))).trans (ld_j hG56 (by decide)))).trans (rfl : Int32.toInt (G_8.1 a 2) = ((G_8.1 a 2).toInt)))] <;> exact (z_X5_advance_17 ((G.1 (F a 0) 1).toInt) ((G.1 a 3).toInt) ((G99.1 a 1).toInt) ((G99.1 a 3).toInt) ((G_8.1 a 2).toInt) s0 I8_0 t99)), (v_X5_advance_109_5 (K := K) (F := F) a G G_8 G56 G99 N8 x30 x89 x92 ha pr oq99 n0 s0 I8_0 hm8 c19 t30 c35 c70 t89 t92 c95 t99 (ld_at hG56) ((hF99.1 _ _ (xnj (by decide) (xnj (by decide) xn0))).trans (ld_j hG56 (by decide))))⟩ hT
          · refine lv_aload_n hx hb dX5_advance_73 rfl (lv_at hl 0 rfl) ?_
            refine lv_iconst (v := 0) hx hb dX5_advance_74 (by decide) ?_
            refine pX5_1 (v := 0) S hK hT hS ha kf_X5_75 dX5_advance_75 (fun H locs hT hS => ?_)
            obtain ⟨G75, hG75⟩ : ∃ GG : XG, GG = dput G56 a 1 0 := ⟨_, rfl⟩
            rw [← hG75] at hT
            refine lv_goto (tgt := 109) hx hb dX5_advance_78 (by decide) ?_
            exact x_rv hx hb hr hlk hQ (Nat.le_of_ble_eq_true rfl) (Nat.le_of_ble_eq_true rfl) hS dX5_advance_109 G75 ⟨(by rw [hG75]; exact XFr.dput (by rw [hG56]; exact XFr.dput (XFr.call (by rw [hG5]; exact XFr.dput XFr.rf (List.mem_of_getElem? (i := 1) rfl)) hF_8 (xm1 1 rfl xm0) xm0 xm0) (List.mem_of_getElem? (i := 2) rfl)) (List.mem_of_getElem? (i := 0) rfl)), (by rw [(show (G75.1 a 2).toInt = ((G_8.1 a 2).toInt) from (congrArg Int32.toInt ((ld_j hG75 (by decide)).trans (ld_j hG56 (by decide)))).trans (rfl : Int32.toInt (G_8.1 a 2) = ((G_8.1 a 2).toInt))), (show (G75.1 a 3).toInt = ((G_8.1 a 2).toInt) from (congrArg Int32.toInt ((ld_j hG75 (by decide)).trans (ld_at hG56))).trans (rfl : Int32.toInt (G_8.1 a 2) = ((G_8.1 a 2).toInt)))] <;> exact (z_X5_advance_18 ((G.1 (F a 0) 1).toInt) ((G_8.1 a 2).toInt) c19 c70)), (v_X5_advance_109_6 (K := K) (F := F) a G G_8 G75 N8 x30 ha pr n0 s0 I8_0 hm8 c19 t30 c35 c70 (ld_at hG75) ((ld_j hG75 (by decide)).trans (ld_j hG56 (by decide))))⟩ hT
        · refine lv_aload_n hx hb dX5_advance_38 rfl (lv_at hl 0 rfl) ?_
          refine lv_dup hx hb dX5_advance_39 rfl ?_
          refine gX5_2 S hK hT ha kf_X5_78 dX5_advance_40 (v := (G_8.1 a 2)) rfl (?_)
          refine lv_iconst (v := 1) hx hb dX5_advance_43 (by decide) ?_
          refine xi_iadd hx hb (rfl : Int32.toInt (G_8.1 a 2) = ((G_8.1 a 2).toInt)) ((by decide) : Int32.toInt 1 = (1 : Int)) dX5_advance_44 (fun x44 t44 => ?_)
          have e44 : x44.toInt = (((G_8.1 a 2).toInt) + (1 : Int)) := (z_X5_advanceWord_5 x44.toInt ((G.1 (F a 0) 1).toInt) ((G_8.1 a 2).toInt) n0 c19 t44 (xr (G_8.1 a 2)))
          refine pX5_2 (v := x44) S hK hT hS ha kf_X5_78 dX5_advance_45 (fun H locs hT hS => ?_)
          obtain ⟨G45, hG45⟩ : ∃ GG : XG, GG = dput G_8 a 2 x44 := ⟨_, rfl⟩
          rw [← hG45] at hT
          refine lv_goto (tgt := 8) hx hb dX5_advance_48 (by decide) ?_
          exact ih8 G45 _ _ _ (by rw [hG45]; exact XFr.dput (XFr.call XFr.rf hF_8 (xm1 0 rfl xm0) xm0 xm0) (List.mem_of_getElem? (i := 0) rfl)) (by rw [(show (G45.1 a 2).toInt = (((G_8.1 a 2).toInt) + (1 : Int)) from (congrArg Int32.toInt (ld_at hG45)).trans (e44 : Int32.toInt x44 = (((G_8.1 a 2).toInt) + (1 : Int))))] <;> exact (v_X5_advance_48_7 (K := K) (F := F) a G G_8 N8 x30 ha pr n0 s0 I8_0 hm8 c19 t30 c35)) (by rw [(show (G45.1 a 2).toInt = (((G_8.1 a 2).toInt) + (1 : Int)) from (congrArg Int32.toInt (ld_at hG45)).trans (e44 : Int32.toInt x44 = (((G_8.1 a 2).toInt) + (1 : Int))))] <;> exact (z_X5_advanceWord_6 ((G.1 (F a 0) 1).toInt) ((G.1 a 3).toInt) ((G_8.1 a 2).toInt) I8_0 c19)) (by rw [(show (G45.1 a 2).toInt = (((G_8.1 a 2).toInt) + (1 : Int)) from (congrArg Int32.toInt (ld_at hG45)).trans (e44 : Int32.toInt x44 = (((G_8.1 a 2).toInt) + (1 : Int))))] <;> exact (z_X5_advanceWord_7 N8 ((G_8.1 a 2).toInt) hm8)) hT hS (lv_sub hl [0] rfl)
  exact L8 4294967297 G5 _ _ _ XFr.rf (by rw [(show (G5.1 a 2).toInt = ((G.1 a 3).toInt) from (congrArg Int32.toInt (ld_at hG5)).trans (rfl : Int32.toInt (G.1 a 3) = ((G.1 a 3).toInt)))] <;> exact (v_X5_advance_5_8 (K := K) (F := F) a G ha n0 s0)) (by rw [(show (G5.1 a 2).toInt = ((G.1 a 3).toInt) from (congrArg Int32.toInt (ld_at hG5)).trans (rfl : Int32.toInt (G.1 a 3) = ((G.1 a 3).toInt)))] <;> exact (z_X5_advanceWord_8 ((G.1 (F a 0) 1).toInt) ((G.1 a 3).toInt) s0)) (by rw [(show (G5.1 a 2).toInt = ((G.1 a 3).toInt) from (congrArg Int32.toInt (ld_at hG5)).trans (rfl : Int32.toInt (G.1 a 3) = ((G.1 a 3).toInt)))] <;> exact (z_X5_advanceWord_9 ((G.1 (F a 0) 1).toInt) ((G.1 a 3).toInt) s0)) hT hS (lv_sub hl [0] rfl)
theorem v_X5_takeWord_32_1 {K : Nat → Nat} {F : Nat → Nat → Nat} (a : Nat) (G : XG) (r1 : RSt) (p0 : Nat)
    (ha : K a = 7)
    (hrd : RdI (tC (G.2.1 (F (F a 0) 0)) ((G.1 (F a 0) 1).toInt)) ((G.1 (F a 0) 1).toInt) r1 ((G.1 a 1).toInt) ((G.1 a 2).toInt) ((G.1 a 3).toInt) ((G.1 a 4).toInt) ((G.1 a 5).toInt))
    (hp0 : p0 < 10)
    (n0 : 0 ≤ ((G.1 (F a 0) 1).toInt) ∧ ((G.1 (F a 0) 1).toInt) ≤ 80)
    (z0 : 0 ≤ ((G.1 a 2).toInt) ∧ ((G.1 a 2).toInt) ≤ ((G.1 (F a 0) 1).toInt))
    (z0a : 3 ≤ (((xlen.getD p0 0) : Nat) : Int) ∧ (((xlen.getD p0 0) : Nat) : Int) ≤ 7)
    (f10 : ((G.1 a 5).toInt) = 0 ∨ ((G.1 a 5).toInt) = 1)
    (c4 : ((G.1 a 5).toInt) ≠ 0) :
    (0 : Int) = (tkW (tC (G.2.1 (F (F a 0) 0)) ((G.1 (F a 0) 1).toInt)) (kw p0) r1).1 := by
  have kl := xlen_k p0 hp0
  rw [tkW_f (rd_w0 (tC_e _ _) hrd (by omega) (by omega))]
theorem v_X5_takeWord_32_2 {K : Nat → Nat} {F : Nat → Nat → Nat} (a : Nat) (G : XG) (r1 : RSt) (p0 : Nat)
    (ha : K a = 7)
    (hrd : RdI (tC (G.2.1 (F (F a 0) 0)) ((G.1 (F a 0) 1).toInt)) ((G.1 (F a 0) 1).toInt) r1 ((G.1 a 1).toInt) ((G.1 a 2).toInt) ((G.1 a 3).toInt) ((G.1 a 4).toInt) ((G.1 a 5).toInt))
    (hp0 : p0 < 10)
    (n0 : 0 ≤ ((G.1 (F a 0) 1).toInt) ∧ ((G.1 (F a 0) 1).toInt) ≤ 80)
    (z0 : 0 ≤ ((G.1 a 2).toInt) ∧ ((G.1 a 2).toInt) ≤ ((G.1 (F a 0) 1).toInt))
    (z0a : 3 ≤ (((xlen.getD p0 0) : Nat) : Int) ∧ (((xlen.getD p0 0) : Nat) : Int) ≤ 7)
    (f10 : ((G.1 a 5).toInt) = 0 ∨ ((G.1 a 5).toInt) = 1)
    (c4 : ((G.1 a 5).toInt) ≠ 0) :
    RdI (tC (G.2.1 (F (F a 0) 0)) ((G.1 (F a 0) 1).toInt)) ((G.1 (F a 0) 1).toInt) (tkW (tC (G.2.1 (F (F a 0) 0)) ((G.1 (F a 0) 1).toInt)) (kw p0) r1).2 ((G.1 a 1).toInt) ((G.1 a 2).toInt) ((G.1 a 3).toInt) ((G.1 a 4).toInt) ((G.1 a 5).toInt) := by
  have kl := xlen_k p0 hp0
  rw [tkW_f (rd_w0 (tC_e _ _) hrd (by omega) (by omega))]
  exact hrd
theorem v_X5_takeWord_32_3 {K : Nat → Nat} {F : Nat → Nat → Nat} (a : Nat) (G : XG) (r1 : RSt) (p0 : Nat)
    (ha : K a = 7)
    (hrd : RdI (tC (G.2.1 (F (F a 0) 0)) ((G.1 (F a 0) 1).toInt)) ((G.1 (F a 0) 1).toInt) r1 ((G.1 a 1).toInt) ((G.1 a 2).toInt) ((G.1 a 3).toInt) ((G.1 a 4).toInt) ((G.1 a 5).toInt))
    (hp0 : p0 < 10)
    (n0 : 0 ≤ ((G.1 (F a 0) 1).toInt) ∧ ((G.1 (F a 0) 1).toInt) ≤ 80)
    (z0 : 0 ≤ ((G.1 a 2).toInt) ∧ ((G.1 a 2).toInt) ≤ ((G.1 (F a 0) 1).toInt))
    (z0a : 3 ≤ (((xlen.getD p0 0) : Nat) : Int) ∧ (((xlen.getD p0 0) : Nat) : Int) ≤ 7)
    (f10 : ((G.1 a 5).toInt) = 0 ∨ ((G.1 a 5).toInt) = 1)
    (c4 : ¬ (((G.1 a 5).toInt) ≠ 0))
    (c12 : ((G.1 a 1).toInt) ≠ (1 : Int)) :
    (0 : Int) = (tkW (tC (G.2.1 (F (F a 0) 0)) ((G.1 (F a 0) 1).toInt)) (kw p0) r1).1 := by
  have kl := xlen_k p0 hp0
  rw [tkW_f (rd_w0 (tC_e _ _) hrd (by omega) (by omega))]
theorem v_X5_takeWord_32_4 {K : Nat → Nat} {F : Nat → Nat → Nat} (a : Nat) (G : XG) (r1 : RSt) (p0 : Nat)
    (ha : K a = 7)
    (hrd : RdI (tC (G.2.1 (F (F a 0) 0)) ((G.1 (F a 0) 1).toInt)) ((G.1 (F a 0) 1).toInt) r1 ((G.1 a 1).toInt) ((G.1 a 2).toInt) ((G.1 a 3).toInt) ((G.1 a 4).toInt) ((G.1 a 5).toInt))
    (hp0 : p0 < 10)
    (n0 : 0 ≤ ((G.1 (F a 0) 1).toInt) ∧ ((G.1 (F a 0) 1).toInt) ≤ 80)
    (z0 : 0 ≤ ((G.1 a 2).toInt) ∧ ((G.1 a 2).toInt) ≤ ((G.1 (F a 0) 1).toInt))
    (z0a : 3 ≤ (((xlen.getD p0 0) : Nat) : Int) ∧ (((xlen.getD p0 0) : Nat) : Int) ≤ 7)
    (f10 : ((G.1 a 5).toInt) = 0 ∨ ((G.1 a 5).toInt) = 1)
    (c4 : ¬ (((G.1 a 5).toInt) ≠ 0))
    (c12 : ((G.1 a 1).toInt) ≠ (1 : Int)) :
    RdI (tC (G.2.1 (F (F a 0) 0)) ((G.1 (F a 0) 1).toInt)) ((G.1 (F a 0) 1).toInt) (tkW (tC (G.2.1 (F (F a 0) 0)) ((G.1 (F a 0) 1).toInt)) (kw p0) r1).2 ((G.1 a 1).toInt) ((G.1 a 2).toInt) ((G.1 a 3).toInt) ((G.1 a 4).toInt) ((G.1 a 5).toInt) := by
  have kl := xlen_k p0 hp0
  rw [tkW_f (rd_w0 (tC_e _ _) hrd (by omega) (by omega))]
  exact hrd
theorem v_X5_takeWord_77_5 {K : Nat → Nat} {F : Nat → Nat → Nat} (a : Nat) (G : XG) (G73 : XG) (r1 : RSt) (p0 : Nat) (l2_35 : Int32) (x25 : Int32) (N35 : Nat) (x37 : Int32)
    (ha : K a = 7)
    (hrd : RdI (tC (G.2.1 (F (F a 0) 0)) ((G.1 (F a 0) 1).toInt)) ((G.1 (F a 0) 1).toInt) r1 ((G.1 a 1).toInt) ((G.1 a 2).toInt) ((G.1 a 3).toInt) ((G.1 a 4).toInt) ((G.1 a 5).toInt))
    (hp0 : p0 < 10)
    (pw : ∀ i : Nat, (i : Int) < l2_35.toInt → (tC (G.2.1 (F (F a 0) 0)) ((G.1 (F a 0) 1).toInt)) ((G.1 a 2).toInt + (i : Int)) = (kw p0).getD i 0)
    (oq73 : ((G73.1 a 2).toInt) = rn cBl (tC (G.2.1 (F (F a 0) 0)) ((G.1 (F a 0) 1).toInt)) ((G.1 a 3).toInt) ∧ TokI (tC (G.2.1 (F (F a 0) 0)) ((G.1 (F a 0) 1).toInt)) ((G.1 (F a 0) 1).toInt) ((G73.1 a 1).toInt) ((G73.1 a 2).toInt) ((G73.1 a 3).toInt) ((G73.1 a 4).toInt))
    (n0 : 0 ≤ ((G.1 (F a 0) 1).toInt) ∧ ((G.1 (F a 0) 1).toInt) ≤ 80)
    (z0 : 0 ≤ ((G.1 a 2).toInt) ∧ ((G.1 a 2).toInt) ≤ ((G.1 (F a 0) 1).toInt))
    (z0a : 3 ≤ (((xlen.getD p0 0) : Nat) : Int) ∧ (((xlen.getD p0 0) : Nat) : Int) ≤ 7)
    (f14 : ((G.1 a 5).toInt) = 0 ∨ ((G.1 a 5).toInt) = 1)
    (c4 : ¬ (((G.1 a 5).toInt) ≠ 0))
    (c12 : ¬ (((G.1 a 1).toInt) ≠ (1 : Int)))
    (z15 : 0 ≤ ((G.1 a 3).toInt) ∧ ((G.1 a 3).toInt) ≤ ((G.1 (F a 0) 1).toInt))
    (t25 : x25.toInt = (((xlen.getD p0 0) : Nat) : Int))
    (c28 : (((G.1 a 3).toInt) - ((G.1 a 2).toInt)) = x25.toInt)
    (I35_0 : 0 ≤ l2_35.toInt ∧ l2_35.toInt ≤ (((xlen.getD p0 0) : Nat) : Int))
    (I35_1 : (0 : Int) ≤ l2_35.toInt)
    (hm35 : 2147483648 - l2_35.toInt < (((N35) + 1 : Nat) : Int))
    (t37 : x37.toInt = (((xlen.getD p0 0) : Nat) : Int))
    (c40 : x37.toInt ≤ l2_35.toInt)
    (t73 : (0 ≤ ((G73.1 a 2).toInt) ∧ ((G73.1 a 2).toInt) ≤ ((G.1 (F a 0) 1).toInt)) ∧ (0 ≤ ((G73.1 a 3).toInt) ∧ ((G73.1 a 3).toInt) ≤ ((G.1 (F a 0) 1).toInt))) :
    (1 : Int) = (tkW (tC (G.2.1 (F (F a 0) 0)) ((G.1 (F a 0) 1).toInt)) (kw p0) r1).1 := by
  have kl := xlen_k p0 hp0
  have wk := rd_w1 hrd (by omega) (by omega) (by omega) (w := kw p0) (fun i hi => pw i (by omega))
  rw [tkW_t wk.1 wk.2]
theorem v_X5_takeWord_77_6 {K : Nat → Nat} {F : Nat → Nat → Nat} (a : Nat) (G : XG) (G73 : XG) (r1 : RSt) (p0 : Nat) (l2_35 : Int32) (x25 : Int32) (N35 : Nat) (x37 : Int32)
    (ha : K a = 7)
    (hrd : RdI (tC (G.2.1 (F (F a 0) 0)) ((G.1 (F a 0) 1).toInt)) ((G.1 (F a 0) 1).toInt) r1 ((G.1 a 1).toInt) ((G.1 a 2).toInt) ((G.1 a 3).toInt) ((G.1 a 4).toInt) ((G.1 a 5).toInt))
    (hp0 : p0 < 10)
    (pw : ∀ i : Nat, (i : Int) < l2_35.toInt → (tC (G.2.1 (F (F a 0) 0)) ((G.1 (F a 0) 1).toInt)) ((G.1 a 2).toInt + (i : Int)) = (kw p0).getD i 0)
    (oq73 : ((G73.1 a 2).toInt) = rn cBl (tC (G.2.1 (F (F a 0) 0)) ((G.1 (F a 0) 1).toInt)) ((G.1 a 3).toInt) ∧ TokI (tC (G.2.1 (F (F a 0) 0)) ((G.1 (F a 0) 1).toInt)) ((G.1 (F a 0) 1).toInt) ((G73.1 a 1).toInt) ((G73.1 a 2).toInt) ((G73.1 a 3).toInt) ((G73.1 a 4).toInt))
    (n0 : 0 ≤ ((G.1 (F a 0) 1).toInt) ∧ ((G.1 (F a 0) 1).toInt) ≤ 80)
    (z0 : 0 ≤ ((G.1 a 2).toInt) ∧ ((G.1 a 2).toInt) ≤ ((G.1 (F a 0) 1).toInt))
    (z0a : 3 ≤ (((xlen.getD p0 0) : Nat) : Int) ∧ (((xlen.getD p0 0) : Nat) : Int) ≤ 7)
    (f14 : ((G.1 a 5).toInt) = 0 ∨ ((G.1 a 5).toInt) = 1)
    (c4 : ¬ (((G.1 a 5).toInt) ≠ 0))
    (c12 : ¬ (((G.1 a 1).toInt) ≠ (1 : Int)))
    (z15 : 0 ≤ ((G.1 a 3).toInt) ∧ ((G.1 a 3).toInt) ≤ ((G.1 (F a 0) 1).toInt))
    (t25 : x25.toInt = (((xlen.getD p0 0) : Nat) : Int))
    (c28 : (((G.1 a 3).toInt) - ((G.1 a 2).toInt)) = x25.toInt)
    (I35_0 : 0 ≤ l2_35.toInt ∧ l2_35.toInt ≤ (((xlen.getD p0 0) : Nat) : Int))
    (I35_1 : (0 : Int) ≤ l2_35.toInt)
    (hm35 : 2147483648 - l2_35.toInt < (((N35) + 1 : Nat) : Int))
    (t37 : x37.toInt = (((xlen.getD p0 0) : Nat) : Int))
    (c40 : x37.toInt ≤ l2_35.toInt)
    (t73 : (0 ≤ ((G73.1 a 2).toInt) ∧ ((G73.1 a 2).toInt) ≤ ((G.1 (F a 0) 1).toInt)) ∧ (0 ≤ ((G73.1 a 3).toInt) ∧ ((G73.1 a 3).toInt) ≤ ((G.1 (F a 0) 1).toInt)))
    (d_G73_a_5 : G73.1 a 5 = G.1 a 5) :
    RdI (tC (G.2.1 (F (F a 0) 0)) ((G.1 (F a 0) 1).toInt)) ((G.1 (F a 0) 1).toInt) (tkW (tC (G.2.1 (F (F a 0) 0)) ((G.1 (F a 0) 1).toInt)) (kw p0) r1).2 ((G73.1 a 1).toInt) ((G73.1 a 2).toInt) ((G73.1 a 3).toInt) ((G73.1 a 4).toInt) ((G73.1 a 5).toInt) := by
  have kl := xlen_k p0 hp0
  have wk := rd_w1 hrd (by omega) (by omega) (by omega) (w := kw p0) (fun i hi => pw i (by omega))
  rw [tkW_t wk.1 wk.2]
  refine rd_st ?_ (by rw [d_G73_a_5]; omega) (by omega) oq73.2
  rw [oq73.1, hrd.2.1, show (G.1 a 2).toInt + (((kw p0).length : Nat) : Int) = (G.1 a 3).toInt from by omega]
theorem v_X5_takeWord_69_7 {K : Nat → Nat} {F : Nat → Nat → Nat} (a : Nat) (G : XG) (p0 : Nat) (l2_35 : Int32) (x25 : Int32) (N35 : Nat) (x37 : Int32) (x53 : Int32) (x58 : Int32)
    (ha : K a = 7)
    (hp0 : p0 < 10)
    (pw : ∀ i : Nat, (i : Int) < l2_35.toInt → (tC (G.2.1 (F (F a 0) 0)) ((G.1 (F a 0) 1).toInt)) ((G.1 a 2).toInt + (i : Int)) = (kw p0).getD i 0)
    (n0 : 0 ≤ ((G.1 (F a 0) 1).toInt) ∧ ((G.1 (F a 0) 1).toInt) ≤ 80)
    (z0 : 0 ≤ ((G.1 a 2).toInt) ∧ ((G.1 a 2).toInt) ≤ ((G.1 (F a 0) 1).toInt))
    (z0a : 3 ≤ (((xlen.getD p0 0) : Nat) : Int) ∧ (((xlen.getD p0 0) : Nat) : Int) ≤ 7)
    (f14 : ((G.1 a 5).toInt) = 0 ∨ ((G.1 a 5).toInt) = 1)
    (c4 : ¬ (((G.1 a 5).toInt) ≠ 0))
    (c12 : ¬ (((G.1 a 1).toInt) ≠ (1 : Int)))
    (z15 : 0 ≤ ((G.1 a 3).toInt) ∧ ((G.1 a 3).toInt) ≤ ((G.1 (F a 0) 1).toInt))
    (t25 : x25.toInt = (((xlen.getD p0 0) : Nat) : Int))
    (c28 : (((G.1 a 3).toInt) - ((G.1 a 2).toInt)) = x25.toInt)
    (I35_0 : 0 ≤ l2_35.toInt ∧ l2_35.toInt ≤ (((xlen.getD p0 0) : Nat) : Int))
    (I35_1 : (0 : Int) ≤ l2_35.toInt)
    (hm35 : 2147483648 - l2_35.toInt < (((N35) + 1 : Nat) : Int))
    (t37 : x37.toInt = (((xlen.getD p0 0) : Nat) : Int))
    (c40 : ¬ (x37.toInt ≤ l2_35.toInt))
    (t53 : x53.toInt = (tC (G.2.1 (F (F a 0) 0)) ((G.1 (F a 0) 1).toInt) (((G.1 a 2).toInt) + l2_35.toInt)))
    (t58 : x58.toInt = (xch p0 (l2_35.toInt)))
    (z61 : (xch p0 (l2_35.toInt)) = ((kw p0).getD (Int.toNat (l2_35.toInt)) 0))
    (c61 : x53.toInt = x58.toInt) :
    ∀ i : Nat, (i : Int) < (l2_35.toInt + 1) → (tC (G.2.1 (F (F a 0) 0)) ((G.1 (F a 0) 1).toInt)) ((G.1 a 2).toInt + (i : Int)) = (kw p0).getD i 0 := by
  intro i h
  by_cases e : (i : Int) = l2_35.toInt
  · have e2 : i = (l2_35.toInt).toNat := by omega
    rw [e, e2]
    omega
  · exact pw i (by omega)
theorem v_X5_takeWord_65_8 {K : Nat → Nat} {F : Nat → Nat → Nat} (a : Nat) (G : XG) (r1 : RSt) (p0 : Nat) (l2_35 : Int32) (x25 : Int32) (N35 : Nat) (x37 : Int32) (x53 : Int32) (x58 : Int32)
    (ha : K a = 7)
    (hrd : RdI (tC (G.2.1 (F (F a 0) 0)) ((G.1 (F a 0) 1).toInt)) ((G.1 (F a 0) 1).toInt) r1 ((G.1 a 1).toInt) ((G.1 a 2).toInt) ((G.1 a 3).toInt) ((G.1 a 4).toInt) ((G.1 a 5).toInt))
    (hp0 : p0 < 10)
    (n0 : 0 ≤ ((G.1 (F a 0) 1).toInt) ∧ ((G.1 (F a 0) 1).toInt) ≤ 80)
    (z0 : 0 ≤ ((G.1 a 2).toInt) ∧ ((G.1 a 2).toInt) ≤ ((G.1 (F a 0) 1).toInt))
    (z0a : 3 ≤ (((xlen.getD p0 0) : Nat) : Int) ∧ (((xlen.getD p0 0) : Nat) : Int) ≤ 7)
    (f13 : ((G.1 a 5).toInt) = 0 ∨ ((G.1 a 5).toInt) = 1)
    (c4 : ¬ (((G.1 a 5).toInt) ≠ 0))
    (c12 : ¬ (((G.1 a 1).toInt) ≠ (1 : Int)))
    (z15 : 0 ≤ ((G.1 a 3).toInt) ∧ ((G.1 a 3).toInt) ≤ ((G.1 (F a 0) 1).toInt))
    (t25 : x25.toInt = (((xlen.getD p0 0) : Nat) : Int))
    (c28 : (((G.1 a 3).toInt) - ((G.1 a 2).toInt)) = x25.toInt)
    (I35_0 : 0 ≤ l2_35.toInt ∧ l2_35.toInt ≤ (((xlen.getD p0 0) : Nat) : Int))
    (I35_1 : (0 : Int) ≤ l2_35.toInt)
    (hm35 : 2147483648 - l2_35.toInt < (((N35) + 1 : Nat) : Int))
    (t37 : x37.toInt = (((xlen.getD p0 0) : Nat) : Int))
    (c40 : ¬ (x37.toInt ≤ l2_35.toInt))
    (t53 : x53.toInt = (tC (G.2.1 (F (F a 0) 0)) ((G.1 (F a 0) 1).toInt) (((G.1 a 2).toInt) + l2_35.toInt)))
    (t58 : x58.toInt = (xch p0 (l2_35.toInt)))
    (z61 : (xch p0 (l2_35.toInt)) = ((kw p0).getD (Int.toNat (l2_35.toInt)) 0))
    (c61 : ¬ (x53.toInt = x58.toInt)) :
    (0 : Int) = (tkW (tC (G.2.1 (F (F a 0) 0)) ((G.1 (F a 0) 1).toInt)) (kw p0) r1).1 := by
  have kl := xlen_k p0 hp0
  rw [tkW_f (fun h => ?_)]
  have h2 := h.2.2 (l2_35.toInt).toNat (by omega)
  rw [hrd.2.1, show (((l2_35.toInt).toNat : Nat) : Int) = l2_35.toInt from by omega] at h2
  omega
theorem v_X5_takeWord_65_9 {K : Nat → Nat} {F : Nat → Nat → Nat} (a : Nat) (G : XG) (r1 : RSt) (p0 : Nat) (l2_35 : Int32) (x25 : Int32) (N35 : Nat) (x37 : Int32) (x53 : Int32) (x58 : Int32)
    (ha : K a = 7)
    (hrd : RdI (tC (G.2.1 (F (F a 0) 0)) ((G.1 (F a 0) 1).toInt)) ((G.1 (F a 0) 1).toInt) r1 ((G.1 a 1).toInt) ((G.1 a 2).toInt) ((G.1 a 3).toInt) ((G.1 a 4).toInt) ((G.1 a 5).toInt))
    (hp0 : p0 < 10)
    (n0 : 0 ≤ ((G.1 (F a 0) 1).toInt) ∧ ((G.1 (F a 0) 1).toInt) ≤ 80)
    (z0 : 0 ≤ ((G.1 a 2).toInt) ∧ ((G.1 a 2).toInt) ≤ ((G.1 (F a 0) 1).toInt))
    (z0a : 3 ≤ (((xlen.getD p0 0) : Nat) : Int) ∧ (((xlen.getD p0 0) : Nat) : Int) ≤ 7)
    (f13 : ((G.1 a 5).toInt) = 0 ∨ ((G.1 a 5).toInt) = 1)
    (c4 : ¬ (((G.1 a 5).toInt) ≠ 0))
    (c12 : ¬ (((G.1 a 1).toInt) ≠ (1 : Int)))
    (z15 : 0 ≤ ((G.1 a 3).toInt) ∧ ((G.1 a 3).toInt) ≤ ((G.1 (F a 0) 1).toInt))
    (t25 : x25.toInt = (((xlen.getD p0 0) : Nat) : Int))
    (c28 : (((G.1 a 3).toInt) - ((G.1 a 2).toInt)) = x25.toInt)
    (I35_0 : 0 ≤ l2_35.toInt ∧ l2_35.toInt ≤ (((xlen.getD p0 0) : Nat) : Int))
    (I35_1 : (0 : Int) ≤ l2_35.toInt)
    (hm35 : 2147483648 - l2_35.toInt < (((N35) + 1 : Nat) : Int))
    (t37 : x37.toInt = (((xlen.getD p0 0) : Nat) : Int))
    (c40 : ¬ (x37.toInt ≤ l2_35.toInt))
    (t53 : x53.toInt = (tC (G.2.1 (F (F a 0) 0)) ((G.1 (F a 0) 1).toInt) (((G.1 a 2).toInt) + l2_35.toInt)))
    (t58 : x58.toInt = (xch p0 (l2_35.toInt)))
    (z61 : (xch p0 (l2_35.toInt)) = ((kw p0).getD (Int.toNat (l2_35.toInt)) 0))
    (c61 : ¬ (x53.toInt = x58.toInt)) :
    RdI (tC (G.2.1 (F (F a 0) 0)) ((G.1 (F a 0) 1).toInt)) ((G.1 (F a 0) 1).toInt) (tkW (tC (G.2.1 (F (F a 0) 0)) ((G.1 (F a 0) 1).toInt)) (kw p0) r1).2 ((G.1 a 1).toInt) ((G.1 a 2).toInt) ((G.1 a 3).toInt) ((G.1 a 4).toInt) ((G.1 a 5).toInt) := by
  have kl := xlen_k p0 hp0
  rw [tkW_f (fun h => ?_)]
  · exact hrd
  · have h2 := h.2.2 (l2_35.toInt).toNat (by omega)
    rw [hrd.2.1, show (((l2_35.toInt).toNat : Nat) : Int) = l2_35.toInt from by omega] at h2
    omega
theorem v_X5_takeWord_34_10 {K : Nat → Nat} {F : Nat → Nat → Nat} (a : Nat) (G : XG) (p0 : Nat) (x25 : Int32)
    (ha : K a = 7)
    (hp0 : p0 < 10)
    (n0 : 0 ≤ ((G.1 (F a 0) 1).toInt) ∧ ((G.1 (F a 0) 1).toInt) ≤ 80)
    (z0 : 0 ≤ ((G.1 a 2).toInt) ∧ ((G.1 a 2).toInt) ≤ ((G.1 (F a 0) 1).toInt))
    (z0a : 3 ≤ (((xlen.getD p0 0) : Nat) : Int) ∧ (((xlen.getD p0 0) : Nat) : Int) ≤ 7)
    (f11 : ((G.1 a 5).toInt) = 0 ∨ ((G.1 a 5).toInt) = 1)
    (c4 : ¬ (((G.1 a 5).toInt) ≠ 0))
    (c12 : ¬ (((G.1 a 1).toInt) ≠ (1 : Int)))
    (z15 : 0 ≤ ((G.1 a 3).toInt) ∧ ((G.1 a 3).toInt) ≤ ((G.1 (F a 0) 1).toInt))
    (t25 : x25.toInt = (((xlen.getD p0 0) : Nat) : Int))
    (c28 : (((G.1 a 3).toInt) - ((G.1 a 2).toInt)) = x25.toInt) :
    ∀ i : Nat, (i : Int) < (0 : Int) → (tC (G.2.1 (F (F a 0) 0)) ((G.1 (F a 0) 1).toInt)) ((G.1 a 2).toInt + (i : Int)) = (kw p0).getD i 0 := by
  intro i h; omega
theorem v_X5_takeWord_32_11 {K : Nat → Nat} {F : Nat → Nat → Nat} (a : Nat) (G : XG) (r1 : RSt) (p0 : Nat) (x25 : Int32)
    (ha : K a = 7)
    (hrd : RdI (tC (G.2.1 (F (F a 0) 0)) ((G.1 (F a 0) 1).toInt)) ((G.1 (F a 0) 1).toInt) r1 ((G.1 a 1).toInt) ((G.1 a 2).toInt) ((G.1 a 3).toInt) ((G.1 a 4).toInt) ((G.1 a 5).toInt))
    (hp0 : p0 < 10)
    (n0 : 0 ≤ ((G.1 (F a 0) 1).toInt) ∧ ((G.1 (F a 0) 1).toInt) ≤ 80)
    (z0 : 0 ≤ ((G.1 a 2).toInt) ∧ ((G.1 a 2).toInt) ≤ ((G.1 (F a 0) 1).toInt))
    (z0a : 3 ≤ (((xlen.getD p0 0) : Nat) : Int) ∧ (((xlen.getD p0 0) : Nat) : Int) ≤ 7)
    (f11 : ((G.1 a 5).toInt) = 0 ∨ ((G.1 a 5).toInt) = 1)
    (c4 : ¬ (((G.1 a 5).toInt) ≠ 0))
    (c12 : ¬ (((G.1 a 1).toInt) ≠ (1 : Int)))
    (z15 : 0 ≤ ((G.1 a 3).toInt) ∧ ((G.1 a 3).toInt) ≤ ((G.1 (F a 0) 1).toInt))
    (t25 : x25.toInt = (((xlen.getD p0 0) : Nat) : Int))
    (c28 : ¬ ((((G.1 a 3).toInt) - ((G.1 a 2).toInt)) = x25.toInt)) :
    (0 : Int) = (tkW (tC (G.2.1 (F (F a 0) 0)) ((G.1 (F a 0) 1).toInt)) (kw p0) r1).1 := by
  have kl := xlen_k p0 hp0
  rw [tkW_f (rd_w0 (tC_e _ _) hrd (by omega) (by omega))]
theorem v_X5_takeWord_32_12 {K : Nat → Nat} {F : Nat → Nat → Nat} (a : Nat) (G : XG) (r1 : RSt) (p0 : Nat) (x25 : Int32)
    (ha : K a = 7)
    (hrd : RdI (tC (G.2.1 (F (F a 0) 0)) ((G.1 (F a 0) 1).toInt)) ((G.1 (F a 0) 1).toInt) r1 ((G.1 a 1).toInt) ((G.1 a 2).toInt) ((G.1 a 3).toInt) ((G.1 a 4).toInt) ((G.1 a 5).toInt))
    (hp0 : p0 < 10)
    (n0 : 0 ≤ ((G.1 (F a 0) 1).toInt) ∧ ((G.1 (F a 0) 1).toInt) ≤ 80)
    (z0 : 0 ≤ ((G.1 a 2).toInt) ∧ ((G.1 a 2).toInt) ≤ ((G.1 (F a 0) 1).toInt))
    (z0a : 3 ≤ (((xlen.getD p0 0) : Nat) : Int) ∧ (((xlen.getD p0 0) : Nat) : Int) ≤ 7)
    (f11 : ((G.1 a 5).toInt) = 0 ∨ ((G.1 a 5).toInt) = 1)
    (c4 : ¬ (((G.1 a 5).toInt) ≠ 0))
    (c12 : ¬ (((G.1 a 1).toInt) ≠ (1 : Int)))
    (z15 : 0 ≤ ((G.1 a 3).toInt) ∧ ((G.1 a 3).toInt) ≤ ((G.1 (F a 0) 1).toInt))
    (t25 : x25.toInt = (((xlen.getD p0 0) : Nat) : Int))
    (c28 : ¬ ((((G.1 a 3).toInt) - ((G.1 a 2).toInt)) = x25.toInt)) :
    RdI (tC (G.2.1 (F (F a 0) 0)) ((G.1 (F a 0) 1).toInt)) ((G.1 (F a 0) 1).toInt) (tkW (tC (G.2.1 (F (F a 0) 0)) ((G.1 (F a 0) 1).toInt)) (kw p0) r1).2 ((G.1 a 1).toInt) ((G.1 a 2).toInt) ((G.1 a 3).toInt) ((G.1 a 4).toInt) ((G.1 a 5).toInt) := by
  have kl := xlen_k p0 hp0
  rw [tkW_f (rd_w0 (tC_e _ _) hrd (by omega) (by omega))]
  exact hrd
theorem v_X5_takeNumber_37_1 {K : Nat → Nat} {F : Nat → Nat → Nat} (a : Nat) (G : XG) (r1 : RSt) (p0 : Int32) (p1 : Int32)
    (ha : K a = 7)
    (hrd : RdI (tC (G.2.1 (F (F a 0) 0)) ((G.1 (F a 0) 1).toInt)) ((G.1 (F a 0) 1).toInt) r1 ((G.1 a 1).toInt) ((G.1 a 2).toInt) ((G.1 a 3).toInt) ((G.1 a 4).toInt) ((G.1 a 5).toInt))
    (n0 : 0 ≤ ((G.1 (F a 0) 1).toInt) ∧ ((G.1 (F a 0) 1).toInt) ≤ 80)
    (z0 : 0 ≤ ((G.1 a 2).toInt) ∧ ((G.1 a 2).toInt) ≤ ((G.1 (F a 0) 1).toInt))
    (f9 : ((G.1 a 5).toInt) = 0 ∨ ((G.1 a 5).toInt) = 1)
    (c4 : ((G.1 a 5).toInt) ≠ 0) :
    (0 : Int) = (tkN (tC (G.2.1 (F (F a 0) 0)) ((G.1 (F a 0) 1).toInt)) p0.toInt p1.toInt r1).1 := by
  rw [tkN_f (rd_n0 (tC_e _ _) hrd (by omega))]
theorem v_X5_takeNumber_37_2 {K : Nat → Nat} {F : Nat → Nat → Nat} (a : Nat) (G33 : XG) (G : XG) (r1 : RSt) (p0 : Int32) (p1 : Int32)
    (ha : K a = 7)
    (hrd : RdI (tC (G.2.1 (F (F a 0) 0)) ((G.1 (F a 0) 1).toInt)) ((G.1 (F a 0) 1).toInt) r1 ((G.1 a 1).toInt) ((G.1 a 2).toInt) ((G.1 a 3).toInt) ((G.1 a 4).toInt) ((G.1 a 5).toInt))
    (n0 : 0 ≤ ((G.1 (F a 0) 1).toInt) ∧ ((G.1 (F a 0) 1).toInt) ≤ 80)
    (z0 : 0 ≤ ((G.1 a 2).toInt) ∧ ((G.1 a 2).toInt) ≤ ((G.1 (F a 0) 1).toInt))
    (f9 : ((G.1 a 5).toInt) = 0 ∨ ((G.1 a 5).toInt) = 1)
    (c4 : ((G.1 a 5).toInt) ≠ 0)
    (d_G33_a_1 : G33.1 a 1 = G.1 a 1)
    (d_G33_a_2 : G33.1 a 2 = G.1 a 2)
    (d_G33_a_3 : G33.1 a 3 = G.1 a 3)
    (d_G33_a_4 : G33.1 a 4 = G.1 a 4)
    (d_G33_a_5 : G33.1 a 5 = 1) :
    RdI (tC (G.2.1 (F (F a 0) 0)) ((G.1 (F a 0) 1).toInt)) ((G.1 (F a 0) 1).toInt) (tkN (tC (G.2.1 (F (F a 0) 0)) ((G.1 (F a 0) 1).toInt)) p0.toInt p1.toInt r1).2 ((G33.1 a 1).toInt) ((G33.1 a 2).toInt) ((G33.1 a 3).toInt) ((G33.1 a 4).toInt) ((G33.1 a 5).toInt) := by
  rw [tkN_f (rd_n0 (tC_e _ _) hrd (by omega)), d_G33_a_1, d_G33_a_2, d_G33_a_3, d_G33_a_4, d_G33_a_5]
  exact rd_bad hrd (by decide)
theorem v_X5_takeNumber_37_3 {K : Nat → Nat} {F : Nat → Nat → Nat} (a : Nat) (G : XG) (r1 : RSt) (p0 : Int32) (p1 : Int32)
    (ha : K a = 7)
    (hrd : RdI (tC (G.2.1 (F (F a 0) 0)) ((G.1 (F a 0) 1).toInt)) ((G.1 (F a 0) 1).toInt) r1 ((G.1 a 1).toInt) ((G.1 a 2).toInt) ((G.1 a 3).toInt) ((G.1 a 4).toInt) ((G.1 a 5).toInt))
    (n0 : 0 ≤ ((G.1 (F a 0) 1).toInt) ∧ ((G.1 (F a 0) 1).toInt) ≤ 80)
    (z0 : 0 ≤ ((G.1 a 2).toInt) ∧ ((G.1 a 2).toInt) ≤ ((G.1 (F a 0) 1).toInt))
    (f9 : ((G.1 a 5).toInt) = 0 ∨ ((G.1 a 5).toInt) = 1)
    (c4 : ¬ (((G.1 a 5).toInt) ≠ 0))
    (c12 : ((G.1 a 1).toInt) ≠ (2 : Int)) :
    (0 : Int) = (tkN (tC (G.2.1 (F (F a 0) 0)) ((G.1 (F a 0) 1).toInt)) p0.toInt p1.toInt r1).1 := by
  rw [tkN_f (rd_n0 (tC_e _ _) hrd (by omega))]
theorem v_X5_takeNumber_37_4 {K : Nat → Nat} {F : Nat → Nat → Nat} (a : Nat) (G33 : XG) (G : XG) (r1 : RSt) (p0 : Int32) (p1 : Int32)
    (ha : K a = 7)
    (hrd : RdI (tC (G.2.1 (F (F a 0) 0)) ((G.1 (F a 0) 1).toInt)) ((G.1 (F a 0) 1).toInt) r1 ((G.1 a 1).toInt) ((G.1 a 2).toInt) ((G.1 a 3).toInt) ((G.1 a 4).toInt) ((G.1 a 5).toInt))
    (n0 : 0 ≤ ((G.1 (F a 0) 1).toInt) ∧ ((G.1 (F a 0) 1).toInt) ≤ 80)
    (z0 : 0 ≤ ((G.1 a 2).toInt) ∧ ((G.1 a 2).toInt) ≤ ((G.1 (F a 0) 1).toInt))
    (f9 : ((G.1 a 5).toInt) = 0 ∨ ((G.1 a 5).toInt) = 1)
    (c4 : ¬ (((G.1 a 5).toInt) ≠ 0))
    (c12 : ((G.1 a 1).toInt) ≠ (2 : Int))
    (d_G33_a_1 : G33.1 a 1 = G.1 a 1)
    (d_G33_a_2 : G33.1 a 2 = G.1 a 2)
    (d_G33_a_3 : G33.1 a 3 = G.1 a 3)
    (d_G33_a_4 : G33.1 a 4 = G.1 a 4)
    (d_G33_a_5 : G33.1 a 5 = 1) :
    RdI (tC (G.2.1 (F (F a 0) 0)) ((G.1 (F a 0) 1).toInt)) ((G.1 (F a 0) 1).toInt) (tkN (tC (G.2.1 (F (F a 0) 0)) ((G.1 (F a 0) 1).toInt)) p0.toInt p1.toInt r1).2 ((G33.1 a 1).toInt) ((G33.1 a 2).toInt) ((G33.1 a 3).toInt) ((G33.1 a 4).toInt) ((G33.1 a 5).toInt) := by
  rw [tkN_f (rd_n0 (tC_e _ _) hrd (by omega)), d_G33_a_1, d_G33_a_2, d_G33_a_3, d_G33_a_4, d_G33_a_5]
  exact rd_bad hrd (by decide)
theorem v_X5_takeNumber_37_5 {K : Nat → Nat} {F : Nat → Nat → Nat} (a : Nat) (G : XG) (r1 : RSt) (p0 : Int32) (p1 : Int32)
    (ha : K a = 7)
    (hrd : RdI (tC (G.2.1 (F (F a 0) 0)) ((G.1 (F a 0) 1).toInt)) ((G.1 (F a 0) 1).toInt) r1 ((G.1 a 1).toInt) ((G.1 a 2).toInt) ((G.1 a 3).toInt) ((G.1 a 4).toInt) ((G.1 a 5).toInt))
    (n0 : 0 ≤ ((G.1 (F a 0) 1).toInt) ∧ ((G.1 (F a 0) 1).toInt) ≤ 80)
    (z0 : 0 ≤ ((G.1 a 2).toInt) ∧ ((G.1 a 2).toInt) ≤ ((G.1 (F a 0) 1).toInt))
    (f9 : ((G.1 a 5).toInt) = 0 ∨ ((G.1 a 5).toInt) = 1)
    (c4 : ¬ (((G.1 a 5).toInt) ≠ 0))
    (c12 : ¬ (((G.1 a 1).toInt) ≠ (2 : Int)))
    (c20 : ((G.1 a 4).toInt) < p0.toInt) :
    (0 : Int) = (tkN (tC (G.2.1 (F (F a 0) 0)) ((G.1 (F a 0) 1).toInt)) p0.toInt p1.toInt r1).1 := by
  rw [tkN_f (rd_n0 (tC_e _ _) hrd (by omega))]
theorem v_X5_takeNumber_37_6 {K : Nat → Nat} {F : Nat → Nat → Nat} (a : Nat) (G33 : XG) (G : XG) (r1 : RSt) (p0 : Int32) (p1 : Int32)
    (ha : K a = 7)
    (hrd : RdI (tC (G.2.1 (F (F a 0) 0)) ((G.1 (F a 0) 1).toInt)) ((G.1 (F a 0) 1).toInt) r1 ((G.1 a 1).toInt) ((G.1 a 2).toInt) ((G.1 a 3).toInt) ((G.1 a 4).toInt) ((G.1 a 5).toInt))
    (n0 : 0 ≤ ((G.1 (F a 0) 1).toInt) ∧ ((G.1 (F a 0) 1).toInt) ≤ 80)
    (z0 : 0 ≤ ((G.1 a 2).toInt) ∧ ((G.1 a 2).toInt) ≤ ((G.1 (F a 0) 1).toInt))
    (f9 : ((G.1 a 5).toInt) = 0 ∨ ((G.1 a 5).toInt) = 1)
    (c4 : ¬ (((G.1 a 5).toInt) ≠ 0))
    (c12 : ¬ (((G.1 a 1).toInt) ≠ (2 : Int)))
    (c20 : ((G.1 a 4).toInt) < p0.toInt)
    (d_G33_a_1 : G33.1 a 1 = G.1 a 1)
    (d_G33_a_2 : G33.1 a 2 = G.1 a 2)
    (d_G33_a_3 : G33.1 a 3 = G.1 a 3)
    (d_G33_a_4 : G33.1 a 4 = G.1 a 4)
    (d_G33_a_5 : G33.1 a 5 = 1) :
    RdI (tC (G.2.1 (F (F a 0) 0)) ((G.1 (F a 0) 1).toInt)) ((G.1 (F a 0) 1).toInt) (tkN (tC (G.2.1 (F (F a 0) 0)) ((G.1 (F a 0) 1).toInt)) p0.toInt p1.toInt r1).2 ((G33.1 a 1).toInt) ((G33.1 a 2).toInt) ((G33.1 a 3).toInt) ((G33.1 a 4).toInt) ((G33.1 a 5).toInt) := by
  rw [tkN_f (rd_n0 (tC_e _ _) hrd (by omega)), d_G33_a_1, d_G33_a_2, d_G33_a_3, d_G33_a_4, d_G33_a_5]
  exact rd_bad hrd (by decide)
theorem v_X5_takeNumber_48_7 {K : Nat → Nat} {F : Nat → Nat → Nat} (a : Nat) (G : XG) (G44 : XG) (r1 : RSt) (p0 : Int32) (p1 : Int32)
    (ha : K a = 7)
    (hrd : RdI (tC (G.2.1 (F (F a 0) 0)) ((G.1 (F a 0) 1).toInt)) ((G.1 (F a 0) 1).toInt) r1 ((G.1 a 1).toInt) ((G.1 a 2).toInt) ((G.1 a 3).toInt) ((G.1 a 4).toInt) ((G.1 a 5).toInt))
    (oq44 : ((G44.1 a 2).toInt) = rn cBl (tC (G.2.1 (F (F a 0) 0)) ((G.1 (F a 0) 1).toInt)) ((G.1 a 3).toInt) ∧ TokI (tC (G.2.1 (F (F a 0) 0)) ((G.1 (F a 0) 1).toInt)) ((G.1 (F a 0) 1).toInt) ((G44.1 a 1).toInt) ((G44.1 a 2).toInt) ((G44.1 a 3).toInt) ((G44.1 a 4).toInt))
    (n0 : 0 ≤ ((G.1 (F a 0) 1).toInt) ∧ ((G.1 (F a 0) 1).toInt) ≤ 80)
    (z0 : 0 ≤ ((G.1 a 2).toInt) ∧ ((G.1 a 2).toInt) ≤ ((G.1 (F a 0) 1).toInt))
    (f10 : ((G.1 a 5).toInt) = 0 ∨ ((G.1 a 5).toInt) = 1)
    (c4 : ¬ (((G.1 a 5).toInt) ≠ 0))
    (c12 : ¬ (((G.1 a 1).toInt) ≠ (2 : Int)))
    (c20 : ¬ (((G.1 a 4).toInt) < p0.toInt))
    (c28 : ((G.1 a 4).toInt) ≤ p1.toInt)
    (z38 : 0 ≤ ((G.1 a 3).toInt) ∧ ((G.1 a 3).toInt) ≤ ((G.1 (F a 0) 1).toInt))
    (t44 : (0 ≤ ((G44.1 a 2).toInt) ∧ ((G44.1 a 2).toInt) ≤ ((G.1 (F a 0) 1).toInt)) ∧ (0 ≤ ((G44.1 a 3).toInt) ∧ ((G44.1 a 3).toInt) ≤ ((G.1 (F a 0) 1).toInt))) :
    ((G.1 a 4).toInt) = (tkN (tC (G.2.1 (F (F a 0) 0)) ((G.1 (F a 0) 1).toInt)) p0.toInt p1.toInt r1).1 := by
  obtain ⟨q1, q2, q3, q4, q5⟩ := rd_n1 hrd (by omega) (by omega)
  rw [tkN_t q1 (by rw [q2]; exact q3) (by rw [q2]; omega) (by rw [q2]; omega), q2]
  exact q4
theorem v_X5_takeNumber_48_8 {K : Nat → Nat} {F : Nat → Nat → Nat} (a : Nat) (G : XG) (G44 : XG) (r1 : RSt) (p0 : Int32) (p1 : Int32)
    (ha : K a = 7)
    (hrd : RdI (tC (G.2.1 (F (F a 0) 0)) ((G.1 (F a 0) 1).toInt)) ((G.1 (F a 0) 1).toInt) r1 ((G.1 a 1).toInt) ((G.1 a 2).toInt) ((G.1 a 3).toInt) ((G.1 a 4).toInt) ((G.1 a 5).toInt))
    (oq44 : ((G44.1 a 2).toInt) = rn cBl (tC (G.2.1 (F (F a 0) 0)) ((G.1 (F a 0) 1).toInt)) ((G.1 a 3).toInt) ∧ TokI (tC (G.2.1 (F (F a 0) 0)) ((G.1 (F a 0) 1).toInt)) ((G.1 (F a 0) 1).toInt) ((G44.1 a 1).toInt) ((G44.1 a 2).toInt) ((G44.1 a 3).toInt) ((G44.1 a 4).toInt))
    (n0 : 0 ≤ ((G.1 (F a 0) 1).toInt) ∧ ((G.1 (F a 0) 1).toInt) ≤ 80)
    (z0 : 0 ≤ ((G.1 a 2).toInt) ∧ ((G.1 a 2).toInt) ≤ ((G.1 (F a 0) 1).toInt))
    (f10 : ((G.1 a 5).toInt) = 0 ∨ ((G.1 a 5).toInt) = 1)
    (c4 : ¬ (((G.1 a 5).toInt) ≠ 0))
    (c12 : ¬ (((G.1 a 1).toInt) ≠ (2 : Int)))
    (c20 : ¬ (((G.1 a 4).toInt) < p0.toInt))
    (c28 : ((G.1 a 4).toInt) ≤ p1.toInt)
    (z38 : 0 ≤ ((G.1 a 3).toInt) ∧ ((G.1 a 3).toInt) ≤ ((G.1 (F a 0) 1).toInt))
    (t44 : (0 ≤ ((G44.1 a 2).toInt) ∧ ((G44.1 a 2).toInt) ≤ ((G.1 (F a 0) 1).toInt)) ∧ (0 ≤ ((G44.1 a 3).toInt) ∧ ((G44.1 a 3).toInt) ≤ ((G.1 (F a 0) 1).toInt)))
    (d_G44_a_5 : G44.1 a 5 = G.1 a 5) :
    RdI (tC (G.2.1 (F (F a 0) 0)) ((G.1 (F a 0) 1).toInt)) ((G.1 (F a 0) 1).toInt) (tkN (tC (G.2.1 (F (F a 0) 0)) ((G.1 (F a 0) 1).toInt)) p0.toInt p1.toInt r1).2 ((G44.1 a 1).toInt) ((G44.1 a 2).toInt) ((G44.1 a 3).toInt) ((G44.1 a 4).toInt) ((G44.1 a 5).toInt) := by
  obtain ⟨q1, q2, q3, q4, q5⟩ := rd_n1 hrd (by omega) (by omega)
  rw [tkN_t q1 (by rw [q2]; exact q3) (by rw [q2]; omega) (by rw [q2]; omega), q2]
  refine rd_st ?_ (by rw [d_G44_a_5]; omega) (by omega) oq44.2
  rw [oq44.1, q5]
theorem v_X5_takeNumber_37_9 {K : Nat → Nat} {F : Nat → Nat → Nat} (a : Nat) (G : XG) (r1 : RSt) (p0 : Int32) (p1 : Int32)
    (ha : K a = 7)
    (hrd : RdI (tC (G.2.1 (F (F a 0) 0)) ((G.1 (F a 0) 1).toInt)) ((G.1 (F a 0) 1).toInt) r1 ((G.1 a 1).toInt) ((G.1 a 2).toInt) ((G.1 a 3).toInt) ((G.1 a 4).toInt) ((G.1 a 5).toInt))
    (n0 : 0 ≤ ((G.1 (F a 0) 1).toInt) ∧ ((G.1 (F a 0) 1).toInt) ≤ 80)
    (z0 : 0 ≤ ((G.1 a 2).toInt) ∧ ((G.1 a 2).toInt) ≤ ((G.1 (F a 0) 1).toInt))
    (f9 : ((G.1 a 5).toInt) = 0 ∨ ((G.1 a 5).toInt) = 1)
    (c4 : ¬ (((G.1 a 5).toInt) ≠ 0))
    (c12 : ¬ (((G.1 a 1).toInt) ≠ (2 : Int)))
    (c20 : ¬ (((G.1 a 4).toInt) < p0.toInt))
    (c28 : ¬ (((G.1 a 4).toInt) ≤ p1.toInt)) :
    (0 : Int) = (tkN (tC (G.2.1 (F (F a 0) 0)) ((G.1 (F a 0) 1).toInt)) p0.toInt p1.toInt r1).1 := by
  rw [tkN_f (rd_n0 (tC_e _ _) hrd (by omega))]
theorem v_X5_takeNumber_37_10 {K : Nat → Nat} {F : Nat → Nat → Nat} (a : Nat) (G33 : XG) (G : XG) (r1 : RSt) (p0 : Int32) (p1 : Int32)
    (ha : K a = 7)
    (hrd : RdI (tC (G.2.1 (F (F a 0) 0)) ((G.1 (F a 0) 1).toInt)) ((G.1 (F a 0) 1).toInt) r1 ((G.1 a 1).toInt) ((G.1 a 2).toInt) ((G.1 a 3).toInt) ((G.1 a 4).toInt) ((G.1 a 5).toInt))
    (n0 : 0 ≤ ((G.1 (F a 0) 1).toInt) ∧ ((G.1 (F a 0) 1).toInt) ≤ 80)
    (z0 : 0 ≤ ((G.1 a 2).toInt) ∧ ((G.1 a 2).toInt) ≤ ((G.1 (F a 0) 1).toInt))
    (f9 : ((G.1 a 5).toInt) = 0 ∨ ((G.1 a 5).toInt) = 1)
    (c4 : ¬ (((G.1 a 5).toInt) ≠ 0))
    (c12 : ¬ (((G.1 a 1).toInt) ≠ (2 : Int)))
    (c20 : ¬ (((G.1 a 4).toInt) < p0.toInt))
    (c28 : ¬ (((G.1 a 4).toInt) ≤ p1.toInt))
    (d_G33_a_1 : G33.1 a 1 = G.1 a 1)
    (d_G33_a_2 : G33.1 a 2 = G.1 a 2)
    (d_G33_a_3 : G33.1 a 3 = G.1 a 3)
    (d_G33_a_4 : G33.1 a 4 = G.1 a 4)
    (d_G33_a_5 : G33.1 a 5 = 1) :
    RdI (tC (G.2.1 (F (F a 0) 0)) ((G.1 (F a 0) 1).toInt)) ((G.1 (F a 0) 1).toInt) (tkN (tC (G.2.1 (F (F a 0) 0)) ((G.1 (F a 0) 1).toInt)) p0.toInt p1.toInt r1).2 ((G33.1 a 1).toInt) ((G33.1 a 2).toInt) ((G33.1 a 3).toInt) ((G33.1 a 4).toInt) ((G33.1 a 5).toInt) := by
  rw [tkN_f (rd_n0 (tC_e _ _) hrd (by omega)), d_G33_a_1, d_G33_a_2, d_G33_a_3, d_G33_a_4, d_G33_a_5]
  exact rd_bad hrd (by decide)
theorem v_X5_takeKind_33_1 {K : Nat → Nat} {F : Nat → Nat → Nat} (a : Nat) (G : XG) (r1 : RSt) (l1_2 : Int32) (N2 : Nat)
    (ha : K a = 7)
    (pk : ∀ k : Nat, (k : Int) < l1_2.toInt → (tkW (tC (G.2.1 (F (F a 0) 0)) ((G.1 (F a 0) 1).toInt)) (kw k) r1).1 ≠ 1)
    (n0 : 0 ≤ ((G.1 (F a 0) 1).toInt) ∧ ((G.1 (F a 0) 1).toInt) ≤ 80)
    (I2_0 : 0 ≤ l1_2.toInt ∧ l1_2.toInt ≤ 6)
    (I2_1 : (0 : Int) ≤ l1_2.toInt)
    (hm2 : 2147483648 - l1_2.toInt < (((N2) + 1 : Nat) : Int))
    (c5 : (6 : Int) ≤ l1_2.toInt) :
    (0 : Int) = (tkK (tC (G.2.1 (F (F a 0) 0)) ((G.1 (F a 0) 1).toInt)) r1).1 := by
  rw [tkK_no (fun k hk => pk k (by omega))]
theorem v_X5_takeKind_33_2 {K : Nat → Nat} {F : Nat → Nat → Nat} (a : Nat) (G : XG) (G_2 : XG) (G29 : XG) (r1 : RSt) (l1_2 : Int32) (N2 : Nat)
    (ha : K a = 7)
    (pk : ∀ k : Nat, (k : Int) < l1_2.toInt → (tkW (tC (G.2.1 (F (F a 0) 0)) ((G.1 (F a 0) 1).toInt)) (kw k) r1).1 ≠ 1)
    (rd : RdI (tC (G.2.1 (F (F a 0) 0)) ((G.1 (F a 0) 1).toInt)) ((G.1 (F a 0) 1).toInt) r1 ((G_2.1 a 1).toInt) ((G_2.1 a 2).toInt) ((G_2.1 a 3).toInt) ((G_2.1 a 4).toInt) ((G.1 a 5).toInt))
    (n0 : 0 ≤ ((G.1 (F a 0) 1).toInt) ∧ ((G.1 (F a 0) 1).toInt) ≤ 80)
    (I2_0 : 0 ≤ l1_2.toInt ∧ l1_2.toInt ≤ 6)
    (I2_1 : (0 : Int) ≤ l1_2.toInt)
    (hm2 : 2147483648 - l1_2.toInt < (((N2) + 1 : Nat) : Int))
    (c5 : (6 : Int) ≤ l1_2.toInt)
    (d_G29_a_1 : G29.1 a 1 = G_2.1 a 1)
    (d_G29_a_2 : G29.1 a 2 = G_2.1 a 2)
    (d_G29_a_3 : G29.1 a 3 = G_2.1 a 3)
    (d_G29_a_4 : G29.1 a 4 = G_2.1 a 4)
    (d_G29_a_5 : G29.1 a 5 = 1) :
    RdI (tC (G.2.1 (F (F a 0) 0)) ((G.1 (F a 0) 1).toInt)) ((G.1 (F a 0) 1).toInt) (tkK (tC (G.2.1 (F (F a 0) 0)) ((G.1 (F a 0) 1).toInt)) r1).2 ((G29.1 a 1).toInt) ((G29.1 a 2).toInt) ((G29.1 a 3).toInt) ((G29.1 a 4).toInt) ((G29.1 a 5).toInt) := by
  rw [tkK_no (fun k hk => pk k (by omega)), d_G29_a_1, d_G29_a_2, d_G29_a_3, d_G29_a_4, d_G29_a_5]
  exact rd_bad rd (by decide)
theorem v_X5_takeKind_13_3 {F : Nat → Nat → Nat} (a : Nat) (G : XG) (G_2 : XG) (r1 : RSt)
    (rd : RdI (tC (G.2.1 (F (F a 0) 0)) ((G.1 (F a 0) 1).toInt)) ((G.1 (F a 0) 1).toInt) r1 ((G_2.1 a 1).toInt) ((G_2.1 a 2).toInt) ((G_2.1 a 3).toInt) ((G_2.1 a 4).toInt) ((G.1 a 5).toInt))
    (c_G_2_F_F_a_0_0 : G_2.2.1 (F (F a 0) 0) = G.2.1 (F (F a 0) 0))
    (d_G_2_F_a_0_1 : G_2.1 (F a 0) 1 = G.1 (F a 0) 1)
    (d_G_2_a_5 : G_2.1 a 5 = G.1 a 5) :
    RdI (tC (G_2.2.1 (F (F a 0) 0)) ((G_2.1 (F a 0) 1).toInt)) ((G_2.1 (F a 0) 1).toInt) r1 ((G_2.1 a 1).toInt) ((G_2.1 a 2).toInt) ((G_2.1 a 3).toInt) ((G_2.1 a 4).toInt) ((G_2.1 a 5).toInt) := by
  rw [c_G_2_F_F_a_0_0, d_G_2_F_a_0_1, d_G_2_a_5]; exact rd
theorem v_X5_takeKind_24_4 {K : Nat → Nat} {F : Nat → Nat → Nat} (a : Nat) (G : XG) (r1 : RSt) (l1_2 : Int32) (x13 : Int32) (q10 : Nat) (N2 : Nat)
    (ha : K a = 7)
    (pk : ∀ k : Nat, (k : Int) < l1_2.toInt → (tkW (tC (G.2.1 (F (F a 0) 0)) ((G.1 (F a 0) 1).toInt)) (kw k) r1).1 ≠ 1)
    (oq13 : x13.toInt = (tkW (tC (G.2.1 (F (F a 0) 0)) ((G.1 (F a 0) 1).toInt)) (kw q10) r1).1)
    (n0 : 0 ≤ ((G.1 (F a 0) 1).toInt) ∧ ((G.1 (F a 0) 1).toInt) ≤ 80)
    (I2_0 : 0 ≤ l1_2.toInt ∧ l1_2.toInt ≤ 6)
    (I2_1 : (0 : Int) ≤ l1_2.toInt)
    (hm2 : 2147483648 - l1_2.toInt < (((N2) + 1 : Nat) : Int))
    (c5 : ¬ ((6 : Int) ≤ l1_2.toInt))
    (hw10 : (0 ≤ l1_2.toInt ∧ l1_2.toInt ≤ 4 ∧ (((q10) : Nat) : Int) = l1_2.toInt) ∨ (¬ (0 ≤ l1_2.toInt ∧ l1_2.toInt ≤ 4) ∧ (((q10) : Nat) : Int) = 5))
    (t13 : 0 ≤ x13.toInt ∧ x13.toInt ≤ 1)
    (f20 : x13.toInt = 0 ∨ x13.toInt = 1)
    (c16 : x13.toInt = 0) :
    ∀ k : Nat, (k : Int) < (l1_2.toInt + 1) → (tkW (tC (G.2.1 (F (F a 0) 0)) ((G.1 (F a 0) 1).toInt)) (kw k) r1).1 ≠ 1 := by
  intro k h
  by_cases e : (k : Int) = l1_2.toInt
  · have e2 : q10 = k := by omega
    rw [← e2, ← oq13]
    omega
  · exact pk k (by omega)
theorem v_X5_takeKind_24_5 {K : Nat → Nat} {F : Nat → Nat → Nat} (a : Nat) (G : XG) (G13 : XG) (r1 : RSt) (l1_2 : Int32) (x13 : Int32) (q10 : Nat) (N2 : Nat)
    (ha : K a = 7)
    (oq13 : x13.toInt = (tkW (tC (G.2.1 (F (F a 0) 0)) ((G.1 (F a 0) 1).toInt)) (kw q10) r1).1)
    (oq13a : RdI (tC (G.2.1 (F (F a 0) 0)) ((G.1 (F a 0) 1).toInt)) ((G.1 (F a 0) 1).toInt) (tkW (tC (G.2.1 (F (F a 0) 0)) ((G.1 (F a 0) 1).toInt)) (kw q10) r1).2 ((G13.1 a 1).toInt) ((G13.1 a 2).toInt) ((G13.1 a 3).toInt) ((G13.1 a 4).toInt) ((G13.1 a 5).toInt))
    (n0 : 0 ≤ ((G.1 (F a 0) 1).toInt) ∧ ((G.1 (F a 0) 1).toInt) ≤ 80)
    (I2_0 : 0 ≤ l1_2.toInt ∧ l1_2.toInt ≤ 6)
    (I2_1 : (0 : Int) ≤ l1_2.toInt)
    (hm2 : 2147483648 - l1_2.toInt < (((N2) + 1 : Nat) : Int))
    (c5 : ¬ ((6 : Int) ≤ l1_2.toInt))
    (hw10 : (0 ≤ l1_2.toInt ∧ l1_2.toInt ≤ 4 ∧ (((q10) : Nat) : Int) = l1_2.toInt) ∨ (¬ (0 ≤ l1_2.toInt ∧ l1_2.toInt ≤ 4) ∧ (((q10) : Nat) : Int) = 5))
    (t13 : 0 ≤ x13.toInt ∧ x13.toInt ≤ 1)
    (f20 : x13.toInt = 0 ∨ x13.toInt = 1)
    (c16 : x13.toInt = 0)
    (d_G13_a_5 : G13.1 a 5 = G.1 a 5) :
    RdI (tC (G.2.1 (F (F a 0) 0)) ((G.1 (F a 0) 1).toInt)) ((G.1 (F a 0) 1).toInt) r1 ((G13.1 a 1).toInt) ((G13.1 a 2).toInt) ((G13.1 a 3).toInt) ((G13.1 a 4).toInt) ((G.1 a 5).toInt) := by
  have w1 : (tkW (tC (G.2.1 (F (F a 0) 0)) ((G.1 (F a 0) 1).toInt)) (kw q10) r1).1 ≠ 1 := by rw [← oq13]; omega
  rw [tkW_n w1, d_G13_a_5] at oq13a
  exact oq13a
theorem v_X5_takeKind_20_6 {K : Nat → Nat} {F : Nat → Nat → Nat} (a : Nat) (G : XG) (r1 : RSt) (l1_2 : Int32) (x13 : Int32) (q10 : Nat) (N2 : Nat)
    (ha : K a = 7)
    (pk : ∀ k : Nat, (k : Int) < l1_2.toInt → (tkW (tC (G.2.1 (F (F a 0) 0)) ((G.1 (F a 0) 1).toInt)) (kw k) r1).1 ≠ 1)
    (oq13 : x13.toInt = (tkW (tC (G.2.1 (F (F a 0) 0)) ((G.1 (F a 0) 1).toInt)) (kw q10) r1).1)
    (n0 : 0 ≤ ((G.1 (F a 0) 1).toInt) ∧ ((G.1 (F a 0) 1).toInt) ≤ 80)
    (I2_0 : 0 ≤ l1_2.toInt ∧ l1_2.toInt ≤ 6)
    (I2_1 : (0 : Int) ≤ l1_2.toInt)
    (hm2 : 2147483648 - l1_2.toInt < (((N2) + 1 : Nat) : Int))
    (c5 : ¬ ((6 : Int) ≤ l1_2.toInt))
    (hw10 : (0 ≤ l1_2.toInt ∧ l1_2.toInt ≤ 4 ∧ (((q10) : Nat) : Int) = l1_2.toInt) ∨ (¬ (0 ≤ l1_2.toInt ∧ l1_2.toInt ≤ 4) ∧ (((q10) : Nat) : Int) = 5))
    (t13 : 0 ≤ x13.toInt ∧ x13.toInt ≤ 1)
    (f19 : x13.toInt = 0 ∨ x13.toInt = 1)
    (c16 : ¬ (x13.toInt = 0)) :
    l1_2.toInt = (tkK (tC (G.2.1 (F (F a 0) 0)) ((G.1 (F a 0) 1).toInt)) r1).1 := by
  have e2 : (l1_2.toInt).toNat = q10 := by omega
  rw [tkK_at (n := q10) (by omega) (fun k hk => pk k (by omega)) (by rw [← oq13]; omega)]
  show l1_2.toInt = (q10 : Int)
  omega
theorem v_X5_takeKind_20_7 {K : Nat → Nat} {F : Nat → Nat → Nat} (a : Nat) (G : XG) (G13 : XG) (r1 : RSt) (l1_2 : Int32) (x13 : Int32) (q10 : Nat) (N2 : Nat)
    (ha : K a = 7)
    (pk : ∀ k : Nat, (k : Int) < l1_2.toInt → (tkW (tC (G.2.1 (F (F a 0) 0)) ((G.1 (F a 0) 1).toInt)) (kw k) r1).1 ≠ 1)
    (oq13 : x13.toInt = (tkW (tC (G.2.1 (F (F a 0) 0)) ((G.1 (F a 0) 1).toInt)) (kw q10) r1).1)
    (oq13a : RdI (tC (G.2.1 (F (F a 0) 0)) ((G.1 (F a 0) 1).toInt)) ((G.1 (F a 0) 1).toInt) (tkW (tC (G.2.1 (F (F a 0) 0)) ((G.1 (F a 0) 1).toInt)) (kw q10) r1).2 ((G13.1 a 1).toInt) ((G13.1 a 2).toInt) ((G13.1 a 3).toInt) ((G13.1 a 4).toInt) ((G13.1 a 5).toInt))
    (n0 : 0 ≤ ((G.1 (F a 0) 1).toInt) ∧ ((G.1 (F a 0) 1).toInt) ≤ 80)
    (I2_0 : 0 ≤ l1_2.toInt ∧ l1_2.toInt ≤ 6)
    (I2_1 : (0 : Int) ≤ l1_2.toInt)
    (hm2 : 2147483648 - l1_2.toInt < (((N2) + 1 : Nat) : Int))
    (c5 : ¬ ((6 : Int) ≤ l1_2.toInt))
    (hw10 : (0 ≤ l1_2.toInt ∧ l1_2.toInt ≤ 4 ∧ (((q10) : Nat) : Int) = l1_2.toInt) ∨ (¬ (0 ≤ l1_2.toInt ∧ l1_2.toInt ≤ 4) ∧ (((q10) : Nat) : Int) = 5))
    (t13 : 0 ≤ x13.toInt ∧ x13.toInt ≤ 1)
    (f19 : x13.toInt = 0 ∨ x13.toInt = 1)
    (c16 : ¬ (x13.toInt = 0)) :
    RdI (tC (G.2.1 (F (F a 0) 0)) ((G.1 (F a 0) 1).toInt)) ((G.1 (F a 0) 1).toInt) (tkK (tC (G.2.1 (F (F a 0) 0)) ((G.1 (F a 0) 1).toInt)) r1).2 ((G13.1 a 1).toInt) ((G13.1 a 2).toInt) ((G13.1 a 3).toInt) ((G13.1 a 4).toInt) ((G13.1 a 5).toInt) := by
  rw [tkK_at (n := q10) (by omega) (fun k hk => pk k (by omega)) (by rw [← oq13]; omega)]
  exact oq13a
theorem v_X5_takeKind_1_8 {K : Nat → Nat} {F : Nat → Nat → Nat} (a : Nat) (G : XG) (r1 : RSt)
    (ha : K a = 7)
    (n0 : 0 ≤ ((G.1 (F a 0) 1).toInt) ∧ ((G.1 (F a 0) 1).toInt) ≤ 80) :
    ∀ k : Nat, (k : Int) < (0 : Int) → (tkW (tC (G.2.1 (F (F a 0) 0)) ((G.1 (F a 0) 1).toInt)) (kw k) r1).1 ≠ 1 := by
  intro k h; omega
theorem v_X5_takeKind_1_9 {F : Nat → Nat → Nat} (a : Nat) (G : XG) (r1 : RSt)
    (hrd : RdI (tC (G.2.1 (F (F a 0) 0)) ((G.1 (F a 0) 1).toInt)) ((G.1 (F a 0) 1).toInt) r1 ((G.1 a 1).toInt) ((G.1 a 2).toInt) ((G.1 a 3).toInt) ((G.1 a 4).toInt) ((G.1 a 5).toInt)) :
    RdI (tC (G.2.1 (F (F a 0) 0)) ((G.1 (F a 0) 1).toInt)) ((G.1 (F a 0) 1).toInt) r1 ((G.1 a 1).toInt) ((G.1 a 2).toInt) ((G.1 a 3).toInt) ((G.1 a 4).toInt) ((G.1 a 5).toInt) := by
  exact hrd
theorem v_X5_takeAction_3_1 {F : Nat → Nat → Nat} (a : Nat) (G : XG) (r1 : RSt)
    (hrd : RdI (tC (G.2.1 (F (F a 0) 0)) ((G.1 (F a 0) 1).toInt)) ((G.1 (F a 0) 1).toInt) r1 ((G.1 a 1).toInt) ((G.1 a 2).toInt) ((G.1 a 3).toInt) ((G.1 a 4).toInt) ((G.1 a 5).toInt)) :
    RdI (tC (G.2.1 (F (F a 0) 0)) ((G.1 (F a 0) 1).toInt)) ((G.1 (F a 0) 1).toInt) r1 ((G.1 a 1).toInt) ((G.1 a 2).toInt) ((G.1 a 3).toInt) ((G.1 a 4).toInt) ((G.1 a 5).toInt) := by exact hrd
theorem v_X5_takeAction_14_2 {K : Nat → Nat} {F : Nat → Nat → Nat} (a : Nat) (G : XG) (G3 : XG) (r1 : RSt) (x3 : Int32)
    (ha : K a = 7)
    (oq3 : x3.toInt = (tkW (tC (G.2.1 (F (F a 0) 0)) ((G.1 (F a 0) 1).toInt)) (kw 6) r1).1)
    (oq3a : RdI (tC (G.2.1 (F (F a 0) 0)) ((G.1 (F a 0) 1).toInt)) ((G.1 (F a 0) 1).toInt) (tkW (tC (G.2.1 (F (F a 0) 0)) ((G.1 (F a 0) 1).toInt)) (kw 6) r1).2 ((G3.1 a 1).toInt) ((G3.1 a 2).toInt) ((G3.1 a 3).toInt) ((G3.1 a 4).toInt) ((G3.1 a 5).toInt))
    (n0 : 0 ≤ ((G.1 (F a 0) 1).toInt) ∧ ((G.1 (F a 0) 1).toInt) ≤ 80)
    (t3 : 0 ≤ x3.toInt ∧ x3.toInt ≤ 1)
    (f11 : x3.toInt = 0 ∨ x3.toInt = 1)
    (c6 : x3.toInt = 0)
    (c_G3_F_F_a_0_0 : G3.2.1 (F (F a 0) 0) = G.2.1 (F (F a 0) 0))
    (d_G3_F_a_0_1 : G3.1 (F a 0) 1 = G.1 (F a 0) 1) :
    RdI (tC (G3.2.1 (F (F a 0) 0)) ((G3.1 (F a 0) 1).toInt)) ((G3.1 (F a 0) 1).toInt) r1 ((G3.1 a 1).toInt) ((G3.1 a 2).toInt) ((G3.1 a 3).toInt) ((G3.1 a 4).toInt) ((G3.1 a 5).toInt) := by
  have w1 : (tkW (tC (G.2.1 (F (F a 0) 0)) ((G.1 (F a 0) 1).toInt)) (kw 6) r1).1 ≠ 1 := by rw [← oq3]; omega
  rw [tkW_n w1] at oq3a
  rw [c_G3_F_F_a_0_0, d_G3_F_a_0_1]
  exact oq3a
theorem v_X5_takeAction_25_3 {K : Nat → Nat} {F : Nat → Nat → Nat} (a : Nat) (G : XG) (r1 : RSt) (x3 : Int32) (x14 : Int32)
    (ha : K a = 7)
    (oq3 : x3.toInt = (tkW (tC (G.2.1 (F (F a 0) 0)) ((G.1 (F a 0) 1).toInt)) (kw 6) r1).1)
    (oq14 : x14.toInt = (tkW (tC (G.2.1 (F (F a 0) 0)) ((G.1 (F a 0) 1).toInt)) (kw 7) r1).1)
    (n0 : 0 ≤ ((G.1 (F a 0) 1).toInt) ∧ ((G.1 (F a 0) 1).toInt) ≤ 80)
    (t3 : 0 ≤ x3.toInt ∧ x3.toInt ≤ 1)
    (f14 : x3.toInt = 0 ∨ x3.toInt = 1)
    (c6 : x3.toInt = 0)
    (t14 : 0 ≤ x14.toInt ∧ x14.toInt ≤ 1)
    (f17 : x14.toInt = 0 ∨ x14.toInt = 1)
    (c17 : x14.toInt = 0) :
    (0 : Int) = (tkA (tC (G.2.1 (F (F a 0) 0)) ((G.1 (F a 0) 1).toInt)) r1).1 := by
  have w1 : (tkW (tC (G.2.1 (F (F a 0) 0)) ((G.1 (F a 0) 1).toInt)) (kw 6) r1).1 ≠ 1 := by rw [← oq3]; omega
  first
    | (rw [tkA_b w1 (by rw [← oq14]; omega)]; done)
    | (rw [tkA_c w1 (by rw [← oq14]; omega)]; done)
theorem v_X5_takeAction_25_4 {K : Nat → Nat} {F : Nat → Nat → Nat} (a : Nat) (G : XG) (G14 : XG) (r1 : RSt) (x3 : Int32) (x14 : Int32)
    (ha : K a = 7)
    (oq3 : x3.toInt = (tkW (tC (G.2.1 (F (F a 0) 0)) ((G.1 (F a 0) 1).toInt)) (kw 6) r1).1)
    (oq14 : x14.toInt = (tkW (tC (G.2.1 (F (F a 0) 0)) ((G.1 (F a 0) 1).toInt)) (kw 7) r1).1)
    (oq14a : RdI (tC (G.2.1 (F (F a 0) 0)) ((G.1 (F a 0) 1).toInt)) ((G.1 (F a 0) 1).toInt) (tkW (tC (G.2.1 (F (F a 0) 0)) ((G.1 (F a 0) 1).toInt)) (kw 7) r1).2 ((G14.1 a 1).toInt) ((G14.1 a 2).toInt) ((G14.1 a 3).toInt) ((G14.1 a 4).toInt) ((G14.1 a 5).toInt))
    (n0 : 0 ≤ ((G.1 (F a 0) 1).toInt) ∧ ((G.1 (F a 0) 1).toInt) ≤ 80)
    (t3 : 0 ≤ x3.toInt ∧ x3.toInt ≤ 1)
    (f14 : x3.toInt = 0 ∨ x3.toInt = 1)
    (c6 : x3.toInt = 0)
    (t14 : 0 ≤ x14.toInt ∧ x14.toInt ≤ 1)
    (f17 : x14.toInt = 0 ∨ x14.toInt = 1)
    (c17 : x14.toInt = 0) :
    RdI (tC (G.2.1 (F (F a 0) 0)) ((G.1 (F a 0) 1).toInt)) ((G.1 (F a 0) 1).toInt) (tkA (tC (G.2.1 (F (F a 0) 0)) ((G.1 (F a 0) 1).toInt)) r1).2 ((G14.1 a 1).toInt) ((G14.1 a 2).toInt) ((G14.1 a 3).toInt) ((G14.1 a 4).toInt) ((G14.1 a 5).toInt) := by
  have w1 : (tkW (tC (G.2.1 (F (F a 0) 0)) ((G.1 (F a 0) 1).toInt)) (kw 6) r1).1 ≠ 1 := by rw [← oq3]; omega
  first
    | (rw [tkA_b w1 (by rw [← oq14]; omega)]; exact oq14a)
    | (have w2 : (tkW (tC (G.2.1 (F (F a 0) 0)) ((G.1 (F a 0) 1).toInt)) (kw 7) r1).1 ≠ 1 := by rw [← oq14]; omega
       rw [tkA_c w1 w2]
       rw [tkW_n w2] at oq14a
       exact oq14a)
theorem v_X5_takeAction_25_5 {K : Nat → Nat} {F : Nat → Nat → Nat} (a : Nat) (G : XG) (r1 : RSt) (x3 : Int32) (x14 : Int32)
    (ha : K a = 7)
    (oq3 : x3.toInt = (tkW (tC (G.2.1 (F (F a 0) 0)) ((G.1 (F a 0) 1).toInt)) (kw 6) r1).1)
    (oq14 : x14.toInt = (tkW (tC (G.2.1 (F (F a 0) 0)) ((G.1 (F a 0) 1).toInt)) (kw 7) r1).1)
    (n0 : 0 ≤ ((G.1 (F a 0) 1).toInt) ∧ ((G.1 (F a 0) 1).toInt) ≤ 80)
    (t3 : 0 ≤ x3.toInt ∧ x3.toInt ≤ 1)
    (f14 : x3.toInt = 0 ∨ x3.toInt = 1)
    (c6 : x3.toInt = 0)
    (t14 : 0 ≤ x14.toInt ∧ x14.toInt ≤ 1)
    (f17 : x14.toInt = 0 ∨ x14.toInt = 1)
    (c17 : ¬ (x14.toInt = 0)) :
    (2 : Int) = (tkA (tC (G.2.1 (F (F a 0) 0)) ((G.1 (F a 0) 1).toInt)) r1).1 := by
  have w1 : (tkW (tC (G.2.1 (F (F a 0) 0)) ((G.1 (F a 0) 1).toInt)) (kw 6) r1).1 ≠ 1 := by rw [← oq3]; omega
  first
    | (rw [tkA_b w1 (by rw [← oq14]; omega)]; done)
    | (rw [tkA_c w1 (by rw [← oq14]; omega)]; done)
theorem v_X5_takeAction_25_6 {K : Nat → Nat} {F : Nat → Nat → Nat} (a : Nat) (G : XG) (G14 : XG) (r1 : RSt) (x3 : Int32) (x14 : Int32)
    (ha : K a = 7)
    (oq3 : x3.toInt = (tkW (tC (G.2.1 (F (F a 0) 0)) ((G.1 (F a 0) 1).toInt)) (kw 6) r1).1)
    (oq14 : x14.toInt = (tkW (tC (G.2.1 (F (F a 0) 0)) ((G.1 (F a 0) 1).toInt)) (kw 7) r1).1)
    (oq14a : RdI (tC (G.2.1 (F (F a 0) 0)) ((G.1 (F a 0) 1).toInt)) ((G.1 (F a 0) 1).toInt) (tkW (tC (G.2.1 (F (F a 0) 0)) ((G.1 (F a 0) 1).toInt)) (kw 7) r1).2 ((G14.1 a 1).toInt) ((G14.1 a 2).toInt) ((G14.1 a 3).toInt) ((G14.1 a 4).toInt) ((G14.1 a 5).toInt))
    (n0 : 0 ≤ ((G.1 (F a 0) 1).toInt) ∧ ((G.1 (F a 0) 1).toInt) ≤ 80)
    (t3 : 0 ≤ x3.toInt ∧ x3.toInt ≤ 1)
    (f14 : x3.toInt = 0 ∨ x3.toInt = 1)
    (c6 : x3.toInt = 0)
    (t14 : 0 ≤ x14.toInt ∧ x14.toInt ≤ 1)
    (f17 : x14.toInt = 0 ∨ x14.toInt = 1)
    (c17 : ¬ (x14.toInt = 0)) :
    RdI (tC (G.2.1 (F (F a 0) 0)) ((G.1 (F a 0) 1).toInt)) ((G.1 (F a 0) 1).toInt) (tkA (tC (G.2.1 (F (F a 0) 0)) ((G.1 (F a 0) 1).toInt)) r1).2 ((G14.1 a 1).toInt) ((G14.1 a 2).toInt) ((G14.1 a 3).toInt) ((G14.1 a 4).toInt) ((G14.1 a 5).toInt) := by
  have w1 : (tkW (tC (G.2.1 (F (F a 0) 0)) ((G.1 (F a 0) 1).toInt)) (kw 6) r1).1 ≠ 1 := by rw [← oq3]; omega
  first
    | (rw [tkA_b w1 (by rw [← oq14]; omega)]; exact oq14a)
    | (have w2 : (tkW (tC (G.2.1 (F (F a 0) 0)) ((G.1 (F a 0) 1).toInt)) (kw 7) r1).1 ≠ 1 := by rw [← oq14]; omega
       rw [tkA_c w1 w2]
       rw [tkW_n w2] at oq14a
       exact oq14a)
theorem v_X5_takeAction_10_7 {K : Nat → Nat} {F : Nat → Nat → Nat} (a : Nat) (G : XG) (r1 : RSt) (x3 : Int32)
    (ha : K a = 7)
    (oq3 : x3.toInt = (tkW (tC (G.2.1 (F (F a 0) 0)) ((G.1 (F a 0) 1).toInt)) (kw 6) r1).1)
    (n0 : 0 ≤ ((G.1 (F a 0) 1).toInt) ∧ ((G.1 (F a 0) 1).toInt) ≤ 80)
    (t3 : 0 ≤ x3.toInt ∧ x3.toInt ≤ 1)
    (f11 : x3.toInt = 0 ∨ x3.toInt = 1)
    (c6 : ¬ (x3.toInt = 0)) :
    (1 : Int) = (tkA (tC (G.2.1 (F (F a 0) 0)) ((G.1 (F a 0) 1).toInt)) r1).1 := by
  rw [tkA_a (by rw [← oq3]; omega)]
theorem v_X5_takeAction_10_8 {K : Nat → Nat} {F : Nat → Nat → Nat} (a : Nat) (G : XG) (G3 : XG) (r1 : RSt) (x3 : Int32)
    (ha : K a = 7)
    (oq3 : x3.toInt = (tkW (tC (G.2.1 (F (F a 0) 0)) ((G.1 (F a 0) 1).toInt)) (kw 6) r1).1)
    (oq3a : RdI (tC (G.2.1 (F (F a 0) 0)) ((G.1 (F a 0) 1).toInt)) ((G.1 (F a 0) 1).toInt) (tkW (tC (G.2.1 (F (F a 0) 0)) ((G.1 (F a 0) 1).toInt)) (kw 6) r1).2 ((G3.1 a 1).toInt) ((G3.1 a 2).toInt) ((G3.1 a 3).toInt) ((G3.1 a 4).toInt) ((G3.1 a 5).toInt))
    (n0 : 0 ≤ ((G.1 (F a 0) 1).toInt) ∧ ((G.1 (F a 0) 1).toInt) ≤ 80)
    (t3 : 0 ≤ x3.toInt ∧ x3.toInt ≤ 1)
    (f11 : x3.toInt = 0 ∨ x3.toInt = 1)
    (c6 : ¬ (x3.toInt = 0)) :
    RdI (tC (G.2.1 (F (F a 0) 0)) ((G.1 (F a 0) 1).toInt)) ((G.1 (F a 0) 1).toInt) (tkA (tC (G.2.1 (F (F a 0) 0)) ((G.1 (F a 0) 1).toInt)) r1).2 ((G3.1 a 1).toInt) ((G3.1 a 2).toInt) ((G3.1 a 3).toInt) ((G3.1 a 4).toInt) ((G3.1 a 5).toInt) := by
  rw [tkA_a (by rw [← oq3]; omega)]; exact oq3a
theorem z_X5_takeWord_1 (a0 : Int) (h0 : ¬ (a0 ≠ 0)) : a0 = 0 := by omega
theorem z_X5_takeWord_2 (a0 : Int) (h0 : ¬ (a0 ≠ (1 : Int))) : a0 = 1 := by omega
theorem z_X5_takeWord_3 (a0 : Int) (a1 : Int) (a2 : Int) (a3 : Int) (h0 : 0 ≤ a1 ∧ a1 ≤ 80) (h1 : 0 ≤ a2 ∧ a2 ≤ a1) (h2 : 0 ≤ a3 ∧ a3 ≤ a1) (h3 : a0 = (a3 - a2) ∨ (a3 - a2) < -2147483648 ∨ 2147483648 ≤ (a3 - a2)) : a0 = (a3 - a2) := by omega
theorem z_X5_takeWord_4 (a0 : Int) (h0 : -2147483648 ≤ a0 ∧ a0 < 2147483648) : ¬ (2147483648 - a0 < ((0 : Nat) : Int)) := by omega
theorem z_X5_takeWord_7 (a0 : Int) (a1 : Int) (a2 : Int) (a3 : Nat) (a4 : Int) (a5 : Int) (a6 : Int) (h0 : 0 ≤ a4 ∧ a4 ≤ 80) (h1 : 0 ≤ a5 ∧ a5 ≤ a4) (h2 : 0 ≤ a6 ∧ a6 ≤ a4) (h3 : a1 = ((a3 : Nat) : Int)) (h4 : (a6 - a5) = a1) (h5 : 0 ≤ a0 ∧ a0 ≤ ((a3 : Nat) : Int)) (h6 : a2 = (a5 + a0) ∨ (a5 + a0) < -2147483648 ∨ 2147483648 ≤ (a5 + a0)) : a2 = (a5 + a0) := by omega
theorem z_X5_takeWord_9 (a0 : Int) (a1 : Int) (a2 : Nat) (h0 : 0 ≤ a0 ∧ a0 ≤ ((a2 : Nat) : Int)) (h1 : a1 = ((a2 : Nat) : Int)) (h2 : ¬ (a1 ≤ a0)) : 0 ≤ a0 ∧ a0 < ((a2 : Nat) : Int) := by omega
theorem z_X5_takeWord_10 (a0 : Int) (a1 : Nat) (h0 : 3 ≤ ((a1 : Nat) : Int) ∧ ((a1 : Nat) : Int) ≤ 7) (h1 : 0 ≤ a0 ∧ a0 ≤ ((a1 : Nat) : Int)) : 0 ≤ a0 ∧ a0 < 8 := by omega
theorem z_X5_takeWord_11 (a0 : Int) (a1 : Int) (a2 : Int) (a3 : Int) (a4 : Nat) (h0 : a1 = ((a4 : Nat) : Int)) (h1 : 0 ≤ a0 ∧ a0 ≤ ((a4 : Nat) : Int)) (h2 : a2 = ((a4 : Nat) : Int)) (h3 : ¬ (a2 ≤ a0)) (h4 : a3 = (a0 + 1) ∨ (a0 + 1) < -2147483648 ∨ 2147483648 ≤ (a0 + 1)) (h5 : -2147483648 ≤ a1 ∧ a1 < 2147483648) : a3 = (a0 + 1) := by omega
theorem z_X5_takeWord_12 (a0 : Int) (a1 : Int) (a2 : Nat) (h0 : 0 ≤ a0 ∧ a0 ≤ ((a2 : Nat) : Int)) (h1 : a1 = ((a2 : Nat) : Int)) (h2 : ¬ (a1 ≤ a0)) : 0 ≤ (a0 + 1) ∧ (a0 + 1) ≤ ((a2 : Nat) : Int) := by omega
theorem z_X5_takeWord_13 (a0 : Int) (a1 : Nat) (h0 : 0 ≤ a0 ∧ a0 ≤ ((a1 : Nat) : Int)) : (0 : Int) ≤ (a0 + 1) := by omega
theorem z_X5_takeWord_14 (a0 : Int) (a1 : Nat) (h0 : 2147483648 - a0 < ((a1 + 1 : Nat) : Int)) : 2147483648 - (a0 + 1) < ((a1 : Nat) : Int) := by omega
theorem z_X5_takeWord_15 (a0 : Nat) : 0 ≤ (0 : Int) ∧ (0 : Int) ≤ ((a0 : Nat) : Int) := by omega
abbrev rm_X5_takeWord : Room := { frames := 4, cells := 0, slots := 0, locals := 85 }
set_option maxHeartbeats 4000000 in
set_option maxRecDepth 100000 in
theorem c_X5_takeWord (l : Launch) (E : XE) (K : Nat → Nat) (F : Nat → Nat → Nat) (G : XG) (a : Nat) (p0 : Nat) (r1 : RSt) (ha : K a = 7) (hp0 : p0 < 10) (n0 : 0 ≤ ((G.1 (F a 0) 1).toInt) ∧ ((G.1 (F a 0) 1).toInt) ≤ 80) (hrd : RdI (tC (G.2.1 (F (F a 0) 0)) ((G.1 (F a 0) 1).toInt)) ((G.1 (F a 0) 1).toInt) r1 ((G.1 a 1).toInt) ((G.1 a 2).toInt) ((G.1 a 3).toInt) ((G.1 a 4).toInt) ((G.1 a 5).toInt)) : Met l yX5_takeWord (xw yX5_takeWord cX5_takeWord 3 (some .boolean)) rm_X5_takeWord (va_Pc [.ref a, .ref (E.2.2.2.2.1 p0)] (XP E K F G)) (XQ E (fun v (u : XG) => ∃ r : Int32, v = .int r ∧ (r = 0 ∨ r = 1) ∧ XFr [(a, 1), (a, 2), (a, 3), (a, 4)] [] [] G u ∧ (0 ≤ r.toInt ∧ r.toInt ≤ 1) ∧ (r.toInt = (tkW (tC (G.2.1 (F (F a 0) 0)) ((G.1 (F a 0) 1).toInt)) (kw p0) r1).1) ∧ (RdI (tC (G.2.1 (F (F a 0) 0)) ((G.1 (F a 0) 1).toInt)) ((G.1 (F a 0) 1).toInt) (tkW (tC (G.2.1 (F (F a 0) 0)) ((G.1 (F a 0) 1).toInt)) (kw p0) r1).2 ((u.1 a 1).toInt) ((u.1 a 2).toInt) ((u.1 a 3).toInt) ((u.1 a 4).toInt) ((u.1 a 5).toInt))) (fun u H => TW E K F u H)) 0 0 (xA E) := by
  refine x_enter (by decide) (Nat.le_of_ble_eq_true rfl) ?_
  intro p e s m args below meth c Q S hr hlk hnm hQ hP ls hl
  obtain ⟨hz, hK, hT⟩ := hP
  obtain ⟨hx, hb, -, -, -⟩ := id S
  obtain ⟨H, hT, hS, hgo⟩ : ∃ H : Heap, TW E K F G H ∧ va_S (xA E) s.heap H [] ∧ H = s.heap := ⟨_, hT, va_S.rf, rfl⟩
  rw [← hgo]
  have hl : lv_has ls 3 [(0, .ref a), (1, .ref (E.2.2.2.2.1 p0))] := hl
  obtain ⟨hk9999, hj9999⟩ := fkX5_0 hT ha
  obtain ⟨hk9999a, hj9999a⟩ := fkX8_0 hT hk9999
  have z0 : 0 ≤ ((G.1 a 2).toInt) ∧ ((G.1 a 2).toInt) ≤ ((G.1 (F a 0) 1).toInt) := hrd.2.2.2.1
  have z0a : 3 ≤ (((xlen.getD p0 0) : Nat) : Int) ∧ (((xlen.getD p0 0) : Nat) : Int) ≤ 7 := xlen_b hp0
  refine lv_aload_n hx hb dX5_takeWord_0 rfl (lv_at hl 0 rfl) ?_
  refine gX5_5 S hK hT ha kf_X5_15 dX5_takeWord_1 (v := (G.1 a 5)) rfl (fun hz1 => ?_)
  refine xi_zne (tgt := 31) hx hb (rfl : Int32.toInt (G.1 a 5) = ((G.1 a 5).toInt)) dX5_takeWord_4 (by decide) (fun c4 => ?_) (fun c4 => ?_)
  · refine lv_iconst (v := 0) hx hb dX5_takeWord_31 (by decide) ?_
    exact x_rz hx hb hr (xnz (Or.inl rfl)) hlk hQ (Nat.le_of_ble_eq_true rfl) (Nat.le_of_ble_eq_true rfl) hS dX5_takeWord_32 G ⟨_, rfl, (Or.inl rfl), XFr.rf, (by decide), (v_X5_takeWord_32_1 (K := K) (F := F) a G r1 p0 ha hrd hp0 n0 z0 z0a (xzi hz1) c4), (v_X5_takeWord_32_2 (K := K) (F := F) a G r1 p0 ha hrd hp0 n0 z0 z0a (xzi hz1) c4)⟩ hT
  · refine lv_aload_n hx hb dX5_takeWord_7 rfl (lv_at hl 0 rfl) ?_
    refine gX5_1 S hK hT ha kf_X5_75 dX5_takeWord_8 (v := (G.1 a 1)) rfl (?_)
    refine lv_iconst (v := 1) hx hb dX5_takeWord_11 (by decide) ?_
    refine xi_cne (tgt := 31) hx hb (rfl : Int32.toInt (G.1 a 1) = ((G.1 a 1).toInt)) ((by decide) : Int32.toInt 1 = (1 : Int)) dX5_takeWord_12 (by decide) (fun c12 => ?_) (fun c12 => ?_)
    · refine lv_iconst (v := 0) hx hb dX5_takeWord_31 (by decide) ?_
      exact x_rz hx hb hr (xnz (Or.inl rfl)) hlk hQ (Nat.le_of_ble_eq_true rfl) (Nat.le_of_ble_eq_true rfl) hS dX5_takeWord_32 G ⟨_, rfl, (Or.inl rfl), XFr.rf, (by decide), (v_X5_takeWord_32_3 (K := K) (F := F) a G r1 p0 ha hrd hp0 n0 z0 z0a (xzi hz1) c4 c12), (v_X5_takeWord_32_4 (K := K) (F := F) a G r1 p0 ha hrd hp0 n0 z0 z0a (xzi hz1) c4 c12)⟩ hT
    · have z15 : 0 ≤ ((G.1 a 3).toInt) ∧ ((G.1 a 3).toInt) ≤ ((G.1 (F a 0) 1).toInt) := rd_eb (tC_e _ _) hrd (z_X5_takeWord_1 ((G.1 a 5).toInt) c4) (Or.inl (z_X5_takeWord_2 ((G.1 a 1).toInt) c12))
      refine lv_aload_n hx hb dX5_takeWord_15 rfl (lv_at hl 0 rfl) ?_
      refine gX5_3 S hK hT ha kf_X5_19 dX5_takeWord_16 (v := (G.1 a 3)) rfl (?_)
      refine lv_aload_n hx hb dX5_takeWord_19 rfl (lv_at hl 0 rfl) ?_
      refine gX5_2 S hK hT ha kf_X5_78 dX5_takeWord_20 (v := (G.1 a 2)) rfl (?_)
      refine xi_isub hx hb (rfl : Int32.toInt (G.1 a 3) = ((G.1 a 3).toInt)) (rfl : Int32.toInt (G.1 a 2) = ((G.1 a 2).toInt)) dX5_takeWord_23 (fun x23 t23 => ?_)
      have e23 : x23.toInt = (((G.1 a 3).toInt) - ((G.1 a 2).toInt)) := (z_X5_takeWord_3 x23.toInt ((G.1 (F a 0) 1).toInt) ((G.1 a 2).toInt) ((G.1 a 3).toInt) n0 z0 z15 t23)
      refine lv_aload_n hx hb dX5_takeWord_24 rfl (lv_at hl 1 rfl) ?_
      refine x_clp (x_runV (b := (E.2.2.2.2.1 p0)) (As := []) (rest := [.int x23]) S (c_J0_length_8abf5 l E K F G H p0 (Nat.lt_of_lt_of_le hp0 (by decide))) mv_J0_length_8abf5 km_X5_92 rfl rfl ⟨Nat.le_of_ble_eq_true rfl, Nat.le_of_ble_eq_true rfl⟩ (vk_recv hK.2.2.2.1 (Nat.lt_of_lt_of_le hp0 (by decide)) hS) hK (fun _ => XPh.blind) (fun U hU hW => XPh.at hK hz hS hT hU hW) rfl hl.1 (Nat.le_of_ble_eq_true rfl) dX5_takeWord_25 ⟨Nat.le_of_ble_eq_true rfl, Nat.le_of_ble_eq_true rfl⟩) hS ?_
      rintro _ _ locs ⟨x25, rfl, t25⟩ hS
      refine xi_ceq (tgt := 33) hx hb (e23 : Int32.toInt x23 = (((G.1 a 3).toInt) - ((G.1 a 2).toInt))) (rfl : Int32.toInt x25 = x25.toInt) dX5_takeWord_28 (by decide) (fun c28 => ?_) (fun c28 => ?_)
      · refine lv_iconst (v := 0) hx hb dX5_takeWord_33 (by decide) ?_
        refine lv_istore_n (lv' := [(2, .int 0), (0, .ref a), (1, .ref (E.2.2.2.2.1 p0))]) hx hb dX5_takeWord_34 rfl hl (by decide) rfl (fun ls hl => ?_)
        have L35 : ∀ (N35 : Nat) (l2_35 : Int32) (H : Heap) (locs : List Loc) (ls : Array Slot), (∀ i : Nat, (i : Int) < l2_35.toInt → (tC (G.2.1 (F (F a 0) 0)) ((G.1 (F a 0) 1).toInt)) ((G.1 a 2).toInt + (i : Int)) = (kw p0).getD i 0) → 0 ≤ l2_35.toInt ∧ l2_35.toInt ≤ (((xlen.getD p0 0) : Nat) : Int) → (0 : Int) ≤ l2_35.toInt → 2147483648 - l2_35.toInt < ((N35 : Nat) : Int) → TW E K F G H → va_S (xA E) s.heap H locs → lv_has ls 3 [(0, .ref a), (1, .ref (E.2.2.2.2.1 p0)), (2, .int l2_35)] → W p l e rm_X5_takeWord s m args below meth c H locs 0 0 Q (F0 m 35 ls []) := by
          intro N35
          induction N35 with
          | zero =>
            intro l2_35 H locs ls pw I35_0 I35_1 hm35
            exact absurd hm35 (z_X5_takeWord_4 l2_35.toInt (xr l2_35))
          | succ N35 ih35 =>
            intro l2_35 H locs ls pw I35_0 I35_1 hm35 hT hS hl
            refine lv_iload_n hx hb dX5_takeWord_35 rfl (lv_at hl 2 rfl) ?_
            refine lv_aload_n hx hb dX5_takeWord_36 rfl (lv_at hl 1 rfl) ?_
            refine x_clp (x_runV (b := (E.2.2.2.2.1 p0)) (As := []) (rest := [.int l2_35]) S (c_J0_length_8abf5 l E K F G H p0 (Nat.lt_of_lt_of_le hp0 (by decide))) mv_J0_length_8abf5 km_X5_92 rfl rfl ⟨Nat.le_of_ble_eq_true rfl, Nat.le_of_ble_eq_true rfl⟩ (vk_recv hK.2.2.2.1 (Nat.lt_of_lt_of_le hp0 (by decide)) hS) hK (fun _ => XPh.blind) (fun U hU hW => XPh.at hK hz hS hT hU hW) rfl hl.1 (Nat.le_of_ble_eq_true rfl) dX5_takeWord_37 ⟨Nat.le_of_ble_eq_true rfl, Nat.le_of_ble_eq_true rfl⟩) hS ?_
            rintro _ _ locs ⟨x37, rfl, t37⟩ hS
            refine xi_cge (tgt := 72) hx hb (rfl : Int32.toInt l2_35 = l2_35.toInt) (rfl : Int32.toInt x37 = x37.toInt) dX5_takeWord_40 (by decide) (fun c40 => ?_) (fun c40 => ?_)
            · refine lv_aload_n hx hb dX5_takeWord_72 rfl (lv_at hl 0 rfl) ?_
              refine x_cv0 (x_runV (b := a) (As := []) (rest := []) S (c_X5_advance l E K F G a ha (n0) (z15)) mv_X5_advance km_X5_23 rfl rfl ⟨Nat.le_of_ble_eq_true rfl, Nat.le_of_ble_eq_true rfl⟩ (rc_7 hK hT ha) hK (fun _ => XP.blind) (fun U hU hW => XP.at hK hz hS hT hU hW) rfl hl.1 (Nat.le_of_ble_eq_true rfl) dX5_takeWord_73 ⟨Nat.le_of_ble_eq_true rfl, Nat.le_of_ble_eq_true rfl⟩) hS ?_
              rintro G73 H locs ⟨hF73, t73, oq73⟩ hT hS
              have t73 : (0 ≤ ((G73.1 a 2).toInt) ∧ ((G73.1 a 2).toInt) ≤ ((G.1 (F a 0) 1).toInt)) ∧ (0 ≤ ((G73.1 a 3).toInt) ∧ ((G73.1 a 3).toInt) ≤ ((G.1 (F a 0) 1).toInt)) := t73
              refine lv_iconst (v := 1) hx hb dX5_takeWord_76 (by decide) ?_
              exact x_rz hx hb hr (xnz (Or.inr rfl)) hlk hQ (Nat.le_of_ble_eq_true rfl) (Nat.le_of_ble_eq_true rfl) hS dX5_takeWord_77 G73 ⟨_, rfl, (Or.inr rfl), (XFr.call XFr.rf hF73 (xm1 0 rfl (xm1 1 rfl (xm1 2 rfl (xm1 3 rfl xm0)))) xm0 xm0), (by decide), (v_X5_takeWord_77_5 (K := K) (F := F) a G G73 r1 p0 l2_35 x25 N35 x37 ha hrd hp0 pw oq73 n0 z0 z0a (xzi hz1) c4 c12 z15 t25 c28 I35_0 I35_1 hm35 t37 c40 t73), (v_X5_takeWord_77_6 (K := K) (F := F) a G G73 r1 p0 l2_35 x25 N35 x37 ha hrd hp0 pw oq73 n0 z0 z0a (xzi hz1) c4 c12 z15 t25 c28 I35_0 I35_1 hm35 t37 c40 t73 (hF73.1 _ _ (xnj (by decide) (xnj (by decide) (xnj (by decide) (xnj (by decide) xn0))))))⟩ hT
            · refine lv_aload_n hx hb dX5_takeWord_43 rfl (lv_at hl 0 rfl) ?_
              refine gX5_0 S hK hT ha kf_X5_9 dX5_takeWord_44 (fun _ _ => ?_)
              refine lv_aload_n hx hb dX5_takeWord_47 rfl (lv_at hl 0 rfl) ?_
              refine gX5_2 S hK hT ha kf_X5_78 dX5_takeWord_48 (v := (G.1 a 2)) rfl (?_)
              refine lv_iload_n hx hb dX5_takeWord_51 rfl (lv_at hl 2 rfl) ?_
              refine xi_iadd hx hb (rfl : Int32.toInt (G.1 a 2) = ((G.1 a 2).toInt)) (rfl : Int32.toInt l2_35 = l2_35.toInt) dX5_takeWord_52 (fun x52 t52 => ?_)
              have e52 : x52.toInt = (((G.1 a 2).toInt) + l2_35.toInt) := (z_X5_takeWord_7 l2_35.toInt x25.toInt x52.toInt (xlen.getD p0 0) ((G.1 (F a 0) 1).toInt) ((G.1 a 2).toInt) ((G.1 a 3).toInt) n0 z0 z15 t25 c28 I35_0 t52)
              refine x_clp (x_runV (b := (F a 0)) (As := [.int x52]) (rest := []) S (c_X8_signAt l E K F G H (F a 0) x52 hk9999 (n0)) mv_X8_signAt km_X5_97 rfl rfl ⟨Nat.le_of_ble_eq_true rfl, Nat.le_of_ble_eq_true rfl⟩ (rc_10 hK hT hk9999) hK (fun _ => XPh.blind) (fun U hU hW => XPh.at hK hz hS hT hU hW) rfl hl.1 (Nat.le_of_ble_eq_true rfl) dX5_takeWord_53 ⟨Nat.le_of_ble_eq_true rfl, Nat.le_of_ble_eq_true rfl⟩) hS ?_
              rintro _ _ locs ⟨x53, rfl, b53, t53⟩ hS
              have t53 : x53.toInt = (tC (G.2.1 (F (F a 0) 0)) ((G.1 (F a 0) 1).toInt) (((G.1 a 2).toInt) + l2_35.toInt)) := by rw [(e52 : Int32.toInt x52 = (((G.1 a 2).toInt) + l2_35.toInt))] at t53; exact t53
              refine lv_aload_n hx hb dX5_takeWord_56 rfl (lv_at hl 1 rfl) ?_
              refine lv_iload_n hx hb dX5_takeWord_57 rfl (lv_at hl 2 rfl) ?_
              refine x_clp (x_runV (b := (E.2.2.2.2.1 p0)) (As := [.int l2_35]) (rest := [.int x53]) S (c_J0_charAtc l E K F G H p0 l2_35 (Nat.lt_of_lt_of_le hp0 (by decide)) (z_X5_takeWord_9 l2_35.toInt x37.toInt (xlen.getD p0 0) I35_0 t37 c40)) mv_J0_charAt_5068e km_X5_103 rfl rfl ⟨Nat.le_of_ble_eq_true rfl, Nat.le_of_ble_eq_true rfl⟩ (vk_recv hK.2.2.2.1 (Nat.lt_of_lt_of_le hp0 (by decide)) hS) hK (fun _ => XPh.blind) (fun U hU hW => XPh.at hK hz hS hT hU hW) rfl hl.1 (Nat.le_of_ble_eq_true rfl) dX5_takeWord_58 ⟨Nat.le_of_ble_eq_true rfl, Nat.le_of_ble_eq_true rfl⟩) hS ?_
              rintro _ _ locs ⟨x58, rfl, o58, t58⟩ hS
              have z61 : (xch p0 (l2_35.toInt)) = ((kw p0).getD (Int.toNat (l2_35.toInt)) 0) := xch_k hp0 (z_X5_takeWord_10 l2_35.toInt (xlen.getD p0 0) z0a I35_0)
              refine xi_ceq (tgt := 66) hx hb (rfl : Int32.toInt x53 = x53.toInt) (rfl : Int32.toInt x58 = x58.toInt) dX5_takeWord_61 (by decide) (fun c61 => ?_) (fun c61 => ?_)
              · refine xi_iinc (n := 1) (lv' := fun z9 => [(2, .int z9), (0, .ref a), (1, .ref (E.2.2.2.2.1 p0))]) (k := 2) hx hb (rfl : Int32.toInt l2_35 = l2_35.toInt) (by decide) dX5_takeWord_66 hl rfl (by decide) (fun _ => rfl) (fun x66 ls t66 hl => ?_)
                have e66 : x66.toInt = (l2_35.toInt + 1) := (z_X5_takeWord_11 l2_35.toInt x25.toInt x37.toInt x66.toInt (xlen.getD p0 0) t25 I35_0 t37 c40 t66 (xr x25))
                have hl : lv_has ls 3 [(2, .int x66), (0, .ref a), (1, .ref (E.2.2.2.2.1 p0))] := hl
                refine lv_goto (tgt := 35) hx hb dX5_takeWord_69 (by decide) ?_
                exact ih35 x66 _ _ _ (by rw [(e66 : Int32.toInt x66 = (l2_35.toInt + 1))] <;> exact (v_X5_takeWord_69_7 (K := K) (F := F) a G p0 l2_35 x25 N35 x37 x53 x58 ha hp0 pw n0 z0 z0a (xzi hz1) c4 c12 z15 t25 c28 I35_0 I35_1 hm35 t37 c40 t53 t58 z61 c61)) (by rw [(e66 : Int32.toInt x66 = (l2_35.toInt + 1))] <;> exact (z_X5_takeWord_12 l2_35.toInt x37.toInt (xlen.getD p0 0) I35_0 t37 c40)) (by rw [(e66 : Int32.toInt x66 = (l2_35.toInt + 1))] <;> exact (z_X5_takeWord_13 l2_35.toInt (xlen.getD p0 0) I35_0)) (by rw [(e66 : Int32.toInt x66 = (l2_35.toInt + 1))] <;> exact (z_X5_takeWord_14 l2_35.toInt N35 hm35)) hT hS (lv_sub hl [1, 2, 0] rfl)
              · refine lv_iconst (v := 0) hx hb dX5_takeWord_64 (by decide) ?_
                exact x_rz hx hb hr (xnz (Or.inl rfl)) hlk hQ (Nat.le_of_ble_eq_true rfl) (Nat.le_of_ble_eq_true rfl) hS dX5_takeWord_65 G ⟨_, rfl, (Or.inl rfl), XFr.rf, (by decide), (v_X5_takeWord_65_8 (K := K) (F := F) a G r1 p0 l2_35 x25 N35 x37 x53 x58 ha hrd hp0 n0 z0 z0a (xzi hz1) c4 c12 z15 t25 c28 I35_0 I35_1 hm35 t37 c40 t53 t58 z61 c61), (v_X5_takeWord_65_9 (K := K) (F := F) a G r1 p0 l2_35 x25 N35 x37 x53 x58 ha hrd hp0 n0 z0 z0a (xzi hz1) c4 c12 z15 t25 c28 I35_0 I35_1 hm35 t37 c40 t53 t58 z61 c61)⟩ hT
        exact L35 4294967297 0 _ _ _ (v_X5_takeWord_34_10 (K := K) (F := F) a G p0 x25 ha hp0 n0 z0 z0a (xzi hz1) c4 c12 z15 t25 c28) (z_X5_takeWord_15 (xlen.getD p0 0)) (by decide) (by decide) hT hS (lv_sub hl [1, 2, 0] rfl)
      · refine lv_iconst (v := 0) hx hb dX5_takeWord_31 (by decide) ?_
        exact x_rz hx hb hr (xnz (Or.inl rfl)) hlk hQ (Nat.le_of_ble_eq_true rfl) (Nat.le_of_ble_eq_true rfl) hS dX5_takeWord_32 G ⟨_, rfl, (Or.inl rfl), XFr.rf, (by decide), (v_X5_takeWord_32_11 (K := K) (F := F) a G r1 p0 x25 ha hrd hp0 n0 z0 z0a (xzi hz1) c4 c12 z15 t25 c28), (v_X5_takeWord_32_12 (K := K) (F := F) a G r1 p0 x25 ha hrd hp0 n0 z0 z0a (xzi hz1) c4 c12 z15 t25 c28)⟩ hT

theorem z_X5_takeNumber_2 (a0 : Int) (h0 : ¬ (a0 ≠ (2 : Int))) : a0 = 2 := by omega
abbrev rm_X5_takeNumber : Room := { frames := 3, cells := 0, slots := 0, locals := 64 }
set_option maxHeartbeats 4000000 in
set_option maxRecDepth 100000 in
theorem c_X5_takeNumber (l : Launch) (E : XE) (K : Nat → Nat) (F : Nat → Nat → Nat) (G : XG) (a : Nat) (p0 : Int32) (p1 : Int32) (r1 : RSt) (ha : K a = 7) (n0 : 0 ≤ ((G.1 (F a 0) 1).toInt) ∧ ((G.1 (F a 0) 1).toInt) ≤ 80) (hrd : RdI (tC (G.2.1 (F (F a 0) 0)) ((G.1 (F a 0) 1).toInt)) ((G.1 (F a 0) 1).toInt) r1 ((G.1 a 1).toInt) ((G.1 a 2).toInt) ((G.1 a 3).toInt) ((G.1 a 4).toInt) ((G.1 a 5).toInt)) : Met l yX5_takeNumber (xw yX5_takeNumber cX5_takeNumber 4 (some .int)) rm_X5_takeNumber (va_Pc [.ref a, .int p0, .int p1] (XP E K F G)) (XQ E (fun v (u : XG) => ∃ r : Int32, v = .int r ∧ XFr [(a, 1), (a, 2), (a, 3), (a, 4), (a, 5)] [] [] G u ∧ (r.toInt = (tkN (tC (G.2.1 (F (F a 0) 0)) ((G.1 (F a 0) 1).toInt)) p0.toInt p1.toInt r1).1) ∧ (RdI (tC (G.2.1 (F (F a 0) 0)) ((G.1 (F a 0) 1).toInt)) ((G.1 (F a 0) 1).toInt) (tkN (tC (G.2.1 (F (F a 0) 0)) ((G.1 (F a 0) 1).toInt)) p0.toInt p1.toInt r1).2 ((u.1 a 1).toInt) ((u.1 a 2).toInt) ((u.1 a 3).toInt) ((u.1 a 4).toInt) ((u.1 a 5).toInt))) (fun u H => TW E K F u H)) 0 0 (xA E) := by
  refine x_enter (by decide) (Nat.le_of_ble_eq_true rfl) ?_
  intro p e s m args below meth c Q S hr hlk hnm hQ hP ls hl
  obtain ⟨hz, hK, hT⟩ := hP
  obtain ⟨hx, hb, -, -, -⟩ := id S
  obtain ⟨H, hT, hS, hgo⟩ : ∃ H : Heap, TW E K F G H ∧ va_S (xA E) s.heap H [] ∧ H = s.heap := ⟨_, hT, va_S.rf, rfl⟩
  rw [← hgo]
  have hl : lv_has ls 4 [(0, .ref a), (1, .int p0), (2, .int p1)] := hl
  obtain ⟨hk9999, hj9999⟩ := fkX5_0 hT ha
  obtain ⟨hk9999a, hj9999a⟩ := fkX8_0 hT hk9999
  have z0 : 0 ≤ ((G.1 a 2).toInt) ∧ ((G.1 a 2).toInt) ≤ ((G.1 (F a 0) 1).toInt) := hrd.2.2.2.1
  refine lv_aload_n hx hb dX5_takeNumber_0 rfl (lv_at hl 0 rfl) ?_
  refine gX5_5 S hK hT ha kf_X5_15 dX5_takeNumber_1 (v := (G.1 a 5)) rfl (fun hz1 => ?_)
  refine xi_zne (tgt := 31) hx hb (rfl : Int32.toInt (G.1 a 5) = ((G.1 a 5).toInt)) dX5_takeNumber_4 (by decide) (fun c4 => ?_) (fun c4 => ?_)
  · refine lv_aload_n hx hb dX5_takeNumber_31 rfl (lv_at hl 0 rfl) ?_
    refine lv_iconst (v := 1) hx hb dX5_takeNumber_32 (by decide) ?_
    refine pX5_5 (v := 1) S hK hT hS ha kf_X5_15 (Or.inr rfl) dX5_takeNumber_33 (fun H locs hT hS => ?_)
    obtain ⟨G33, hG33⟩ : ∃ GG : XG, GG = dput G a 5 1 := ⟨_, rfl⟩
    rw [← hG33] at hT
    refine lv_iconst (v := 0) hx hb dX5_takeNumber_36 (by decide) ?_
    exact x_ri hx hb hr hlk hQ (Nat.le_of_ble_eq_true rfl) (Nat.le_of_ble_eq_true rfl) hS dX5_takeNumber_37 G33 ⟨_, rfl, (by rw [hG33]; exact XFr.dput XFr.rf (List.mem_of_getElem? (i := 4) rfl)), (v_X5_takeNumber_37_1 (K := K) (F := F) a G r1 p0 p1 ha hrd n0 z0 (xzi hz1) c4), (v_X5_takeNumber_37_2 (K := K) (F := F) a G33 G r1 p0 p1 ha hrd n0 z0 (xzi hz1) c4 (ld_j hG33 (by decide)) (ld_j hG33 (by decide)) (ld_j hG33 (by decide)) (ld_j hG33 (by decide)) (ld_at hG33))⟩ hT
  · refine lv_aload_n hx hb dX5_takeNumber_7 rfl (lv_at hl 0 rfl) ?_
    refine gX5_1 S hK hT ha kf_X5_75 dX5_takeNumber_8 (v := (G.1 a 1)) rfl (?_)
    refine lv_iconst (v := 2) hx hb dX5_takeNumber_11 (by decide) ?_
    refine xi_cne (tgt := 31) hx hb (rfl : Int32.toInt (G.1 a 1) = ((G.1 a 1).toInt)) ((by decide) : Int32.toInt 2 = (2 : Int)) dX5_takeNumber_12 (by decide) (fun c12 => ?_) (fun c12 => ?_)
    · refine lv_aload_n hx hb dX5_takeNumber_31 rfl (lv_at hl 0 rfl) ?_
      refine lv_iconst (v := 1) hx hb dX5_takeNumber_32 (by decide) ?_
      refine pX5_5 (v := 1) S hK hT hS ha kf_X5_15 (Or.inr rfl) dX5_takeNumber_33 (fun H locs hT hS => ?_)
      obtain ⟨G33, hG33⟩ : ∃ GG : XG, GG = dput G a 5 1 := ⟨_, rfl⟩
      rw [← hG33] at hT
      refine lv_iconst (v := 0) hx hb dX5_takeNumber_36 (by decide) ?_
      exact x_ri hx hb hr hlk hQ (Nat.le_of_ble_eq_true rfl) (Nat.le_of_ble_eq_true rfl) hS dX5_takeNumber_37 G33 ⟨_, rfl, (by rw [hG33]; exact XFr.dput XFr.rf (List.mem_of_getElem? (i := 4) rfl)), (v_X5_takeNumber_37_3 (K := K) (F := F) a G r1 p0 p1 ha hrd n0 z0 (xzi hz1) c4 c12), (v_X5_takeNumber_37_4 (K := K) (F := F) a G33 G r1 p0 p1 ha hrd n0 z0 (xzi hz1) c4 c12 (ld_j hG33 (by decide)) (ld_j hG33 (by decide)) (ld_j hG33 (by decide)) (ld_j hG33 (by decide)) (ld_at hG33))⟩ hT
    · refine lv_aload_n hx hb dX5_takeNumber_15 rfl (lv_at hl 0 rfl) ?_
      refine gX5_4 S hK hT ha kf_X5_89 dX5_takeNumber_16 (v := (G.1 a 4)) rfl (?_)
      refine lv_iload_n hx hb dX5_takeNumber_19 rfl (lv_at hl 1 rfl) ?_
      refine xi_clt (tgt := 31) hx hb (rfl : Int32.toInt (G.1 a 4) = ((G.1 a 4).toInt)) (rfl : Int32.toInt p0 = p0.toInt) dX5_takeNumber_20 (by decide) (fun c20 => ?_) (fun c20 => ?_)
      · refine lv_aload_n hx hb dX5_takeNumber_31 rfl (lv_at hl 0 rfl) ?_
        refine lv_iconst (v := 1) hx hb dX5_takeNumber_32 (by decide) ?_
        refine pX5_5 (v := 1) S hK hT hS ha kf_X5_15 (Or.inr rfl) dX5_takeNumber_33 (fun H locs hT hS => ?_)
        obtain ⟨G33, hG33⟩ : ∃ GG : XG, GG = dput G a 5 1 := ⟨_, rfl⟩
        rw [← hG33] at hT
        refine lv_iconst (v := 0) hx hb dX5_takeNumber_36 (by decide) ?_
        exact x_ri hx hb hr hlk hQ (Nat.le_of_ble_eq_true rfl) (Nat.le_of_ble_eq_true rfl) hS dX5_takeNumber_37 G33 ⟨_, rfl, (by rw [hG33]; exact XFr.dput XFr.rf (List.mem_of_getElem? (i := 4) rfl)), (v_X5_takeNumber_37_5 (K := K) (F := F) a G r1 p0 p1 ha hrd n0 z0 (xzi hz1) c4 c12 c20), (v_X5_takeNumber_37_6 (K := K) (F := F) a G33 G r1 p0 p1 ha hrd n0 z0 (xzi hz1) c4 c12 c20 (ld_j hG33 (by decide)) (ld_j hG33 (by decide)) (ld_j hG33 (by decide)) (ld_j hG33 (by decide)) (ld_at hG33))⟩ hT
      · refine lv_aload_n hx hb dX5_takeNumber_23 rfl (lv_at hl 0 rfl) ?_
        refine gX5_4 S hK hT ha kf_X5_89 dX5_takeNumber_24 (v := (G.1 a 4)) rfl (?_)
        refine lv_iload_n hx hb dX5_takeNumber_27 rfl (lv_at hl 2 rfl) ?_
        refine xi_cle (tgt := 38) hx hb (rfl : Int32.toInt (G.1 a 4) = ((G.1 a 4).toInt)) (rfl : Int32.toInt p1 = p1.toInt) dX5_takeNumber_28 (by decide) (fun c28 => ?_) (fun c28 => ?_)
        · have z38 : 0 ≤ ((G.1 a 3).toInt) ∧ ((G.1 a 3).toInt) ≤ ((G.1 (F a 0) 1).toInt) := rd_eb (tC_e _ _) hrd (z_X5_takeWord_1 ((G.1 a 5).toInt) c4) (Or.inr (z_X5_takeNumber_2 ((G.1 a 1).toInt) c12))
          refine lv_aload_n hx hb dX5_takeNumber_38 rfl (lv_at hl 0 rfl) ?_
          refine gX5_4 S hK hT ha kf_X5_89 dX5_takeNumber_39 (v := (G.1 a 4)) rfl (?_)
          refine lv_istore_n (lv' := [(3, .int (G.1 a 4)), (0, .ref a), (1, .int p0), (2, .int p1)]) hx hb dX5_takeNumber_42 rfl hl (by decide) rfl (fun ls hl => ?_)
          refine lv_aload_n hx hb dX5_takeNumber_43 rfl (lv_at hl 1 rfl) ?_
          refine x_cv0 (x_runV (b := a) (As := []) (rest := []) S (c_X5_advance l E K F G a ha (n0) (z38)) mv_X5_advance km_X5_23 rfl rfl ⟨Nat.le_of_ble_eq_true rfl, Nat.le_of_ble_eq_true rfl⟩ (rc_7 hK hT ha) hK (fun _ => XP.blind) (fun U hU hW => XP.at hK hz hS hT hU hW) rfl hl.1 (Nat.le_of_ble_eq_true rfl) dX5_takeNumber_44 ⟨Nat.le_of_ble_eq_true rfl, Nat.le_of_ble_eq_true rfl⟩) hS ?_
          rintro G44 H locs ⟨hF44, t44, oq44⟩ hT hS
          have t44 : (0 ≤ ((G44.1 a 2).toInt) ∧ ((G44.1 a 2).toInt) ≤ ((G.1 (F a 0) 1).toInt)) ∧ (0 ≤ ((G44.1 a 3).toInt) ∧ ((G44.1 a 3).toInt) ≤ ((G.1 (F a 0) 1).toInt)) := t44
          refine lv_iload_n hx hb dX5_takeNumber_47 rfl (lv_at hl 0 rfl) ?_
          exact x_ri hx hb hr hlk hQ (Nat.le_of_ble_eq_true rfl) (Nat.le_of_ble_eq_true rfl) hS dX5_takeNumber_48 G44 ⟨_, rfl, (XFr.call XFr.rf hF44 (xm1 0 rfl (xm1 1 rfl (xm1 2 rfl (xm1 3 rfl xm0)))) xm0 xm0), (v_X5_takeNumber_48_7 (K := K) (F := F) a G G44 r1 p0 p1 ha hrd oq44 n0 z0 (xzi hz1) c4 c12 c20 c28 z38 t44), (v_X5_takeNumber_48_8 (K := K) (F := F) a G G44 r1 p0 p1 ha hrd oq44 n0 z0 (xzi hz1) c4 c12 c20 c28 z38 t44 (hF44.1 _ _ (xnj (by decide) (xnj (by decide) (xnj (by decide) (xnj (by decide) xn0))))))⟩ hT
        · refine lv_aload_n hx hb dX5_takeNumber_31 rfl (lv_at hl 0 rfl) ?_
          refine lv_iconst (v := 1) hx hb dX5_takeNumber_32 (by decide) ?_
          refine pX5_5 (v := 1) S hK hT hS ha kf_X5_15 (Or.inr rfl) dX5_takeNumber_33 (fun H locs hT hS => ?_)
          obtain ⟨G33, hG33⟩ : ∃ GG : XG, GG = dput G a 5 1 := ⟨_, rfl⟩
          rw [← hG33] at hT
          refine lv_iconst (v := 0) hx hb dX5_takeNumber_36 (by decide) ?_
          exact x_ri hx hb hr hlk hQ (Nat.le_of_ble_eq_true rfl) (Nat.le_of_ble_eq_true rfl) hS dX5_takeNumber_37 G33 ⟨_, rfl, (by rw [hG33]; exact XFr.dput XFr.rf (List.mem_of_getElem? (i := 4) rfl)), (v_X5_takeNumber_37_9 (K := K) (F := F) a G r1 p0 p1 ha hrd n0 z0 (xzi hz1) c4 c12 c20 c28), (v_X5_takeNumber_37_10 (K := K) (F := F) a G33 G r1 p0 p1 ha hrd n0 z0 (xzi hz1) c4 c12 c20 c28 (ld_j hG33 (by decide)) (ld_j hG33 (by decide)) (ld_j hG33 (by decide)) (ld_j hG33 (by decide)) (ld_at hG33))⟩ hT

theorem z_X5_takeKind_1 (a0 : Int) (h0 : 0 ≤ a0 ∧ a0 ≤ 6) : ¬ (2147483648 - a0 < ((0 : Nat) : Int)) := by omega
theorem z_X5_takeKind_3 (a0 : Int) (a1 : Int) (h0 : 0 ≤ a0 ∧ a0 ≤ 6) (h1 : a1 = (a0 + 1) ∨ (a0 + 1) < -2147483648 ∨ 2147483648 ≤ (a0 + 1)) : a1 = (a0 + 1) := by omega
theorem z_X5_takeKind_4 (a0 : Int) (h0 : 0 ≤ a0 ∧ a0 ≤ 6) (h1 : ¬ ((6 : Int) ≤ a0)) : 0 ≤ (a0 + 1) ∧ (a0 + 1) ≤ 6 := by omega
theorem z_X5_takeKind_5 (a0 : Int) (h0 : 0 ≤ a0 ∧ a0 ≤ 6) : (0 : Int) ≤ (a0 + 1) := by omega
theorem z_X5_takeKind_7 (a0 : Int) (h0 : 0 ≤ a0 ∧ a0 ≤ 6) (h1 : ¬ ((6 : Int) ≤ a0)) : 0 ≤ a0 ∧ a0 ≤ 5 := by omega
abbrev rm_X5_takeKind : Room := { frames := 5, cells := 0, slots := 0, locals := 107 }
set_option maxHeartbeats 4000000 in
set_option maxRecDepth 100000 in
theorem c_X5_takeKind (l : Launch) (E : XE) (K : Nat → Nat) (F : Nat → Nat → Nat) (G : XG) (a : Nat) (r1 : RSt) (ha : K a = 7) (n0 : 0 ≤ ((G.1 (F a 0) 1).toInt) ∧ ((G.1 (F a 0) 1).toInt) ≤ 80) (hrd : RdI (tC (G.2.1 (F (F a 0) 0)) ((G.1 (F a 0) 1).toInt)) ((G.1 (F a 0) 1).toInt) r1 ((G.1 a 1).toInt) ((G.1 a 2).toInt) ((G.1 a 3).toInt) ((G.1 a 4).toInt) ((G.1 a 5).toInt)) : Met l yX5_takeKind (xw yX5_takeKind cX5_takeKind 2 (some .int)) rm_X5_takeKind (va_Pc [.ref a] (XP E K F G)) (XQ E (fun v (u : XG) => ∃ r : Int32, v = .int r ∧ XFr [(a, 1), (a, 2), (a, 3), (a, 4), (a, 5)] [] [] G u ∧ (0 ≤ r.toInt ∧ r.toInt ≤ 5) ∧ (r.toInt = (tkK (tC (G.2.1 (F (F a 0) 0)) ((G.1 (F a 0) 1).toInt)) r1).1) ∧ (RdI (tC (G.2.1 (F (F a 0) 0)) ((G.1 (F a 0) 1).toInt)) ((G.1 (F a 0) 1).toInt) (tkK (tC (G.2.1 (F (F a 0) 0)) ((G.1 (F a 0) 1).toInt)) r1).2 ((u.1 a 1).toInt) ((u.1 a 2).toInt) ((u.1 a 3).toInt) ((u.1 a 4).toInt) ((u.1 a 5).toInt))) (fun u H => TW E K F u H)) 0 0 (xA E) := by
  refine x_enter (by decide) (Nat.le_of_ble_eq_true rfl) ?_
  intro p e s m args below meth c Q S hr hlk hnm hQ hP ls hl
  obtain ⟨hz, hK, hT⟩ := hP
  obtain ⟨hx, hb, -, -, -⟩ := id S
  obtain ⟨H, hT, hS, hgo⟩ : ∃ H : Heap, TW E K F G H ∧ va_S (xA E) s.heap H [] ∧ H = s.heap := ⟨_, hT, va_S.rf, rfl⟩
  rw [← hgo]
  have hl : lv_has ls 2 [(0, .ref a)] := hl
  obtain ⟨hk9999, hj9999⟩ := fkX5_0 hT ha
  obtain ⟨hk9999a, hj9999a⟩ := fkX8_0 hT hk9999
  refine lv_iconst (v := 0) hx hb dX5_takeKind_0 (by decide) ?_
  refine lv_istore_n (lv' := [(1, .int 0), (0, .ref a)]) hx hb dX5_takeKind_1 rfl hl (by decide) rfl (fun ls hl => ?_)
  have L2 : ∀ (N2 : Nat) (l1_2 : Int32) (G_2 : XG) (H : Heap) (locs : List Loc) (ls : Array Slot), XFr [(a, 1), (a, 2), (a, 3), (a, 4)] [] [] G G_2 → (∀ k : Nat, (k : Int) < l1_2.toInt → (tkW (tC (G.2.1 (F (F a 0) 0)) ((G.1 (F a 0) 1).toInt)) (kw k) r1).1 ≠ 1) → RdI (tC (G.2.1 (F (F a 0) 0)) ((G.1 (F a 0) 1).toInt)) ((G.1 (F a 0) 1).toInt) r1 ((G_2.1 a 1).toInt) ((G_2.1 a 2).toInt) ((G_2.1 a 3).toInt) ((G_2.1 a 4).toInt) ((G.1 a 5).toInt) → 0 ≤ l1_2.toInt ∧ l1_2.toInt ≤ 6 → (0 : Int) ≤ l1_2.toInt → 2147483648 - l1_2.toInt < ((N2 : Nat) : Int) → TW E K F G_2 H → va_S (xA E) s.heap H locs → lv_has ls 2 [(0, .ref a), (1, .int l1_2)] → W p l e rm_X5_takeKind s m args below meth c H locs 0 0 Q (F0 m 2 ls []) := by
    intro N2
    induction N2 with
    | zero =>
      intro l1_2 G_2 H locs ls hF_2 pk rd I2_0 I2_1 hm2
      exact absurd hm2 (z_X5_takeKind_1 l1_2.toInt I2_0)
    | succ N2 ih2 =>
      intro l1_2 G_2 H locs ls hF_2 pk rd I2_0 I2_1 hm2 hT hS hl
      refine lv_iload_n hx hb dX5_takeKind_2 rfl (lv_at hl 1 rfl) ?_
      refine lv_bipush (v := 6) hx hb dX5_takeKind_3 (by decide) ?_
      refine xi_cge (tgt := 27) hx hb (rfl : Int32.toInt l1_2 = l1_2.toInt) ((by decide) : Int32.toInt 6 = (6 : Int)) dX5_takeKind_5 (by decide) (fun c5 => ?_) (fun c5 => ?_)
      · refine lv_aload_n hx hb dX5_takeKind_27 rfl (lv_at hl 0 rfl) ?_
        refine lv_iconst (v := 1) hx hb dX5_takeKind_28 (by decide) ?_
        refine pX5_5 (v := 1) S hK hT hS ha kf_X5_15 (Or.inr rfl) dX5_takeKind_29 (fun H locs hT hS => ?_)
        obtain ⟨G29, hG29⟩ : ∃ GG : XG, GG = dput G_2 a 5 1 := ⟨_, rfl⟩
        rw [← hG29] at hT
        refine lv_iconst (v := 0) hx hb dX5_takeKind_32 (by decide) ?_
        exact x_ri hx hb hr hlk hQ (Nat.le_of_ble_eq_true rfl) (Nat.le_of_ble_eq_true rfl) hS dX5_takeKind_33 G29 ⟨_, rfl, (by rw [hG29]; exact XFr.dput (XFr.call XFr.rf hF_2 (xm1 0 rfl (xm1 1 rfl (xm1 2 rfl (xm1 3 rfl xm0)))) xm0 xm0) (List.mem_of_getElem? (i := 4) rfl)), (by decide), (v_X5_takeKind_33_1 (K := K) (F := F) a G r1 l1_2 N2 ha pk n0 I2_0 I2_1 hm2 c5), (v_X5_takeKind_33_2 (K := K) (F := F) a G G_2 G29 r1 l1_2 N2 ha pk rd n0 I2_0 I2_1 hm2 c5 (ld_j hG29 (by decide)) (ld_j hG29 (by decide)) (ld_j hG29 (by decide)) (ld_j hG29 (by decide)) (ld_at hG29))⟩ hT
      · refine lv_aload_n hx hb dX5_takeKind_8 rfl (lv_at hl 0 rfl) ?_
        refine lv_iload_n hx hb dX5_takeKind_9 rfl (lv_at hl 1 rfl) ?_
        refine x_clp (x_runSN (As := [.int l1_2]) (rest := [.ref a]) S (c_X10_wordOf l E K F G_2 H l1_2) ms_X10_wordOf (by decide +kernel) rfl rfl ⟨Nat.le_of_ble_eq_true rfl, Nat.le_of_ble_eq_true rfl⟩ hK (fun _ => XPh.blind) (fun U hU hW => XPh.at hK hz hS hT hU hW) rfl hl.1 (Nat.le_of_ble_eq_true rfl) dX5_takeKind_10 ⟨Nat.le_of_ble_eq_true rfl, Nat.le_of_ble_eq_true rfl⟩) hS ?_
        rintro _ _ locs ⟨q10, hi10, rfl, hw10⟩ hS
        refine x_cl0 (x_runV (b := a) (As := [.ref (E.2.2.2.2.1 q10)]) (rest := []) S (c_X5_takeWord l E K F G_2 a q10 r1 ha (Nat.lt_of_lt_of_le hi10 (by decide)) (by rw [(show (G_2.1 (F a 0) 1).toInt = ((G.1 (F a 0) 1).toInt) from (congrArg Int32.toInt (hF_2.1 _ _ (xna (xne_k hk9999 ha (by decide)) (xnj (by decide) (xnj (by decide) (xnj (by decide) xn0)))))).trans (rfl : Int32.toInt (G.1 (F a 0) 1) = ((G.1 (F a 0) 1).toInt)))] <;> exact (n0)) (v_X5_takeKind_13_3 (F := F) a G G_2 r1 rd (hF_2.2.1 _ xn0) (hF_2.1 _ _ (xna (xne_k hk9999 ha (by decide)) (xnj (by decide) (xnj (by decide) (xnj (by decide) xn0))))) (hF_2.1 _ _ (xnj (by decide) (xnj (by decide) (xnj (by decide) (xnj (by decide) xn0))))))) mv_X5_takeWord km_X5_65 rfl rfl ⟨Nat.le_of_ble_eq_true rfl, Nat.le_of_ble_eq_true rfl⟩ (rc_7 hK hT ha) hK (fun _ => XP.blind) (fun U hU hW => XP.at hK hz hS hT hU hW) rfl hl.1 (Nat.le_of_ble_eq_true rfl) dX5_takeKind_13 ⟨Nat.le_of_ble_eq_true rfl, Nat.le_of_ble_eq_true rfl⟩) hS ?_
        rintro _ G13 H locs ⟨x13, rfl, b13, hF13, t13, oq13, oq13a⟩ hT hS
        have t13 : 0 ≤ x13.toInt ∧ x13.toInt ≤ 1 := t13
        have oq13 : x13.toInt = (tkW (tC (G.2.1 (F (F a 0) 0)) ((G.1 (F a 0) 1).toInt)) (kw q10) r1).1 := by simp only [(show G_2.2.1 (F (F a 0) 0) = G.2.1 (F (F a 0) 0) from (hF_2.2.1 _ xn0)), (show G_2.1 (F a 0) 1 = G.1 (F a 0) 1 from (hF_2.1 _ _ (xna (xne_k hk9999 ha (by decide)) (xnj (by decide) (xnj (by decide) (xnj (by decide) xn0))))))] at oq13; exact oq13
        have oq13a : RdI (tC (G.2.1 (F (F a 0) 0)) ((G.1 (F a 0) 1).toInt)) ((G.1 (F a 0) 1).toInt) (tkW (tC (G.2.1 (F (F a 0) 0)) ((G.1 (F a 0) 1).toInt)) (kw q10) r1).2 ((G13.1 a 1).toInt) ((G13.1 a 2).toInt) ((G13.1 a 3).toInt) ((G13.1 a 4).toInt) ((G13.1 a 5).toInt) := by simp only [(show G_2.2.1 (F (F a 0) 0) = G.2.1 (F (F a 0) 0) from (hF_2.2.1 _ xn0)), (show G_2.1 (F a 0) 1 = G.1 (F a 0) 1 from (hF_2.1 _ _ (xna (xne_k hk9999 ha (by decide)) (xnj (by decide) (xnj (by decide) (xnj (by decide) xn0))))))] at oq13a; exact oq13a
        refine xi_zeq (tgt := 21) hx hb (rfl : Int32.toInt x13 = x13.toInt) dX5_takeKind_16 (by decide) (fun c16 => ?_) (fun c16 => ?_)
        · refine xi_iinc (n := 1) (lv' := fun z9 => [(1, .int z9), (0, .ref a)]) (k := 1) hx hb (rfl : Int32.toInt l1_2 = l1_2.toInt) (by decide) dX5_takeKind_21 hl rfl (by decide) (fun _ => rfl) (fun x21 ls t21 hl => ?_)
          have e21 : x21.toInt = (l1_2.toInt + 1) := (z_X5_takeKind_3 l1_2.toInt x21.toInt I2_0 t21)
          have hl : lv_has ls 2 [(1, .int x21), (0, .ref a)] := hl
          refine lv_goto (tgt := 2) hx hb dX5_takeKind_24 (by decide) ?_
          exact ih2 x21 G13 _ _ _ (XFr.call (XFr.call XFr.rf hF_2 (xm1 0 rfl (xm1 1 rfl (xm1 2 rfl (xm1 3 rfl xm0)))) xm0 xm0) hF13 (xm1 0 rfl (xm1 1 rfl (xm1 2 rfl (xm1 3 rfl xm0)))) xm0 xm0) (by rw [(e21 : Int32.toInt x21 = (l1_2.toInt + 1))] <;> exact (v_X5_takeKind_24_4 (K := K) (F := F) a G r1 l1_2 x13 q10 N2 ha pk oq13 n0 I2_0 I2_1 hm2 c5 hw10 t13 (xzi b13) c16)) (v_X5_takeKind_24_5 (K := K) (F := F) a G G13 r1 l1_2 x13 q10 N2 ha oq13 oq13a n0 I2_0 I2_1 hm2 c5 hw10 t13 (xzi b13) c16 ((hF13.1 _ _ (xnj (by decide) (xnj (by decide) (xnj (by decide) (xnj (by decide) xn0))))).trans (hF_2.1 _ _ (xnj (by decide) (xnj (by decide) (xnj (by decide) (xnj (by decide) xn0))))))) (by rw [(e21 : Int32.toInt x21 = (l1_2.toInt + 1))] <;> exact (z_X5_takeKind_4 l1_2.toInt I2_0 c5)) (by rw [(e21 : Int32.toInt x21 = (l1_2.toInt + 1))] <;> exact (z_X5_takeKind_5 l1_2.toInt I2_0)) (by rw [(e21 : Int32.toInt x21 = (l1_2.toInt + 1))] <;> exact (z_X5_takeWord_14 l1_2.toInt N2 hm2)) hT hS (lv_sub hl [1, 0] rfl)
        · refine lv_iload_n hx hb dX5_takeKind_19 rfl (lv_at hl 1 rfl) ?_
          exact x_ri hx hb hr hlk hQ (Nat.le_of_ble_eq_true rfl) (Nat.le_of_ble_eq_true rfl) hS dX5_takeKind_20 G13 ⟨_, rfl, (XFr.call (XFr.call XFr.rf hF_2 (xm1 0 rfl (xm1 1 rfl (xm1 2 rfl (xm1 3 rfl xm0)))) xm0 xm0) hF13 (xm1 0 rfl (xm1 1 rfl (xm1 2 rfl (xm1 3 rfl xm0)))) xm0 xm0), (z_X5_takeKind_7 l1_2.toInt I2_0 c5), (v_X5_takeKind_20_6 (K := K) (F := F) a G r1 l1_2 x13 q10 N2 ha pk oq13 n0 I2_0 I2_1 hm2 c5 hw10 t13 (xzi b13) c16), (v_X5_takeKind_20_7 (K := K) (F := F) a G G13 r1 l1_2 x13 q10 N2 ha pk oq13 oq13a n0 I2_0 I2_1 hm2 c5 hw10 t13 (xzi b13) c16)⟩ hT
  exact L2 4294967297 0 G _ _ _ XFr.rf (v_X5_takeKind_1_8 (K := K) (F := F) a G r1 ha n0) (v_X5_takeKind_1_9 (F := F) a G r1 hrd) (by decide) (by decide) (by decide) hT hS (lv_sub hl [1, 0] rfl)

abbrev rm_X5_takeAction : Room := { frames := 5, cells := 0, slots := 0, locals := 107 }
set_option maxHeartbeats 4000000 in
set_option maxRecDepth 100000 in
theorem c_X5_takeAction (l : Launch) (E : XE) (K : Nat → Nat) (F : Nat → Nat → Nat) (G : XG) (a : Nat) (r1 : RSt) (ha : K a = 7) (n0 : 0 ≤ ((G.1 (F a 0) 1).toInt) ∧ ((G.1 (F a 0) 1).toInt) ≤ 80) (hrd : RdI (tC (G.2.1 (F (F a 0) 0)) ((G.1 (F a 0) 1).toInt)) ((G.1 (F a 0) 1).toInt) r1 ((G.1 a 1).toInt) ((G.1 a 2).toInt) ((G.1 a 3).toInt) ((G.1 a 4).toInt) ((G.1 a 5).toInt)) : Met l yX5_takeAction (xw yX5_takeAction cX5_takeAction 1 (some .int)) rm_X5_takeAction (va_Pc [.ref a] (XP E K F G)) (XQ E (fun v (u : XG) => ∃ r : Int32, v = .int r ∧ XFr [(a, 1), (a, 2), (a, 3), (a, 4)] [] [] G u ∧ (0 ≤ r.toInt ∧ r.toInt ≤ 2) ∧ (r.toInt = (tkA (tC (G.2.1 (F (F a 0) 0)) ((G.1 (F a 0) 1).toInt)) r1).1) ∧ (RdI (tC (G.2.1 (F (F a 0) 0)) ((G.1 (F a 0) 1).toInt)) ((G.1 (F a 0) 1).toInt) (tkA (tC (G.2.1 (F (F a 0) 0)) ((G.1 (F a 0) 1).toInt)) r1).2 ((u.1 a 1).toInt) ((u.1 a 2).toInt) ((u.1 a 3).toInt) ((u.1 a 4).toInt) ((u.1 a 5).toInt))) (fun u H => TW E K F u H)) 0 0 (xA E) := by
  refine x_enter (by decide) (Nat.le_of_ble_eq_true rfl) ?_
  intro p e s m args below meth c Q S hr hlk hnm hQ hP ls hl
  obtain ⟨hz, hK, hT⟩ := hP
  obtain ⟨hx, hb, -, -, -⟩ := id S
  obtain ⟨H, hT, hS, hgo⟩ : ∃ H : Heap, TW E K F G H ∧ va_S (xA E) s.heap H [] ∧ H = s.heap := ⟨_, hT, va_S.rf, rfl⟩
  rw [← hgo]
  have hl : lv_has ls 1 [(0, .ref a)] := hl
  obtain ⟨hk9999, hj9999⟩ := fkX5_0 hT ha
  obtain ⟨hk9999a, hj9999a⟩ := fkX8_0 hT hk9999
  refine lv_aload_n hx hb dX5_takeAction_0 rfl (lv_at hl 0 rfl) ?_
  refine va_ldcS hx hb S.2.2.2.1 (hK.2.2.1 6 ("LateRules$Reader", 85, "cascade") rfl) dX5_takeAction_1 ?_
  refine x_cl0 (x_runV (b := a) (As := [.ref (E.2.2.2.2.1 6)]) (rest := []) S (c_X5_takeWord l E K F G a 6 r1 ha (show 6 < 10 by decide) (n0) (v_X5_takeAction_3_1 (F := F) a G r1 hrd)) mv_X5_takeWord km_X5_65 rfl rfl ⟨Nat.le_of_ble_eq_true rfl, Nat.le_of_ble_eq_true rfl⟩ (rc_7 hK hT ha) hK (fun _ => XP.blind) (fun U hU hW => XP.at hK hz hS hT hU hW) rfl hl.1 (Nat.le_of_ble_eq_true rfl) dX5_takeAction_3 ⟨Nat.le_of_ble_eq_true rfl, Nat.le_of_ble_eq_true rfl⟩) hS ?_
  rintro _ G3 H locs ⟨x3, rfl, b3, hF3, t3, oq3, oq3a⟩ hT hS
  have t3 : 0 ≤ x3.toInt ∧ x3.toInt ≤ 1 := t3
  refine xi_zeq (tgt := 11) hx hb (rfl : Int32.toInt x3 = x3.toInt) dX5_takeAction_6 (by decide) (fun c6 => ?_) (fun c6 => ?_)
  · refine lv_aload_n hx hb dX5_takeAction_11 rfl (lv_at hl 0 rfl) ?_
    refine va_ldcS hx hb S.2.2.2.1 (hK.2.2.1 7 ("LateRules$Reader", 87, "clear") rfl) dX5_takeAction_12 ?_
    refine x_cl0 (x_runV (b := a) (As := [.ref (E.2.2.2.2.1 7)]) (rest := []) S (c_X5_takeWord l E K F G3 a 7 r1 ha (show 7 < 10 by decide) (by rw [(show (G3.1 (F a 0) 1).toInt = ((G.1 (F a 0) 1).toInt) from (congrArg Int32.toInt (hF3.1 _ _ (xna (xne_k hk9999 ha (by decide)) (xnj (by decide) (xnj (by decide) (xnj (by decide) xn0)))))).trans (rfl : Int32.toInt (G.1 (F a 0) 1) = ((G.1 (F a 0) 1).toInt)))] <;> exact (n0)) (v_X5_takeAction_14_2 (K := K) (F := F) a G G3 r1 x3 ha oq3 oq3a n0 t3 (xzi b3) c6 (hF3.2.1 _ xn0) (hF3.1 _ _ (xna (xne_k hk9999 ha (by decide)) (xnj (by decide) (xnj (by decide) (xnj (by decide) xn0))))))) mv_X5_takeWord km_X5_65 rfl rfl ⟨Nat.le_of_ble_eq_true rfl, Nat.le_of_ble_eq_true rfl⟩ (rc_7 hK hT ha) hK (fun _ => XP.blind) (fun U hU hW => XP.at hK hz hS hT hU hW) rfl hl.1 (Nat.le_of_ble_eq_true rfl) dX5_takeAction_14 ⟨Nat.le_of_ble_eq_true rfl, Nat.le_of_ble_eq_true rfl⟩) hS ?_
    rintro _ G14 H locs ⟨x14, rfl, b14, hF14, t14, oq14, oq14a⟩ hT hS
    have t14 : 0 ≤ x14.toInt ∧ x14.toInt ≤ 1 := t14
    have oq14 : x14.toInt = (tkW (tC (G.2.1 (F (F a 0) 0)) ((G.1 (F a 0) 1).toInt)) (kw 7) r1).1 := by simp only [(show G3.2.1 (F (F a 0) 0) = G.2.1 (F (F a 0) 0) from (hF3.2.1 _ xn0)), (show G3.1 (F a 0) 1 = G.1 (F a 0) 1 from (hF3.1 _ _ (xna (xne_k hk9999 ha (by decide)) (xnj (by decide) (xnj (by decide) (xnj (by decide) xn0))))))] at oq14; exact oq14
    have oq14a : RdI (tC (G.2.1 (F (F a 0) 0)) ((G.1 (F a 0) 1).toInt)) ((G.1 (F a 0) 1).toInt) (tkW (tC (G.2.1 (F (F a 0) 0)) ((G.1 (F a 0) 1).toInt)) (kw 7) r1).2 ((G14.1 a 1).toInt) ((G14.1 a 2).toInt) ((G14.1 a 3).toInt) ((G14.1 a 4).toInt) ((G14.1 a 5).toInt) := by simp only [(show G3.2.1 (F (F a 0) 0) = G.2.1 (F (F a 0) 0) from (hF3.2.1 _ xn0)), (show G3.1 (F a 0) 1 = G.1 (F a 0) 1 from (hF3.1 _ _ (xna (xne_k hk9999 ha (by decide)) (xnj (by decide) (xnj (by decide) (xnj (by decide) xn0))))))] at oq14a; exact oq14a
    refine xi_zeq (tgt := 24) hx hb (rfl : Int32.toInt x14 = x14.toInt) dX5_takeAction_17 (by decide) (fun c17 => ?_) (fun c17 => ?_)
    · refine lv_iconst (v := 0) hx hb dX5_takeAction_24 (by decide) ?_
      exact x_ri hx hb hr hlk hQ (Nat.le_of_ble_eq_true rfl) (Nat.le_of_ble_eq_true rfl) hS dX5_takeAction_25 G14 ⟨_, rfl, (XFr.call (XFr.call XFr.rf hF3 (xm1 0 rfl (xm1 1 rfl (xm1 2 rfl (xm1 3 rfl xm0)))) xm0 xm0) hF14 (xm1 0 rfl (xm1 1 rfl (xm1 2 rfl (xm1 3 rfl xm0)))) xm0 xm0), (by decide), (v_X5_takeAction_25_3 (K := K) (F := F) a G r1 x3 x14 ha oq3 oq14 n0 t3 (xzi b3) c6 t14 (xzi b14) c17), (v_X5_takeAction_25_4 (K := K) (F := F) a G G14 r1 x3 x14 ha oq3 oq14 oq14a n0 t3 (xzi b3) c6 t14 (xzi b14) c17)⟩ hT
    · refine lv_iconst (v := 2) hx hb dX5_takeAction_20 (by decide) ?_
      refine lv_goto (tgt := 25) hx hb dX5_takeAction_21 (by decide) ?_
      exact x_ri hx hb hr hlk hQ (Nat.le_of_ble_eq_true rfl) (Nat.le_of_ble_eq_true rfl) hS dX5_takeAction_25 G14 ⟨_, rfl, (XFr.call (XFr.call XFr.rf hF3 (xm1 0 rfl (xm1 1 rfl (xm1 2 rfl (xm1 3 rfl xm0)))) xm0 xm0) hF14 (xm1 0 rfl (xm1 1 rfl (xm1 2 rfl (xm1 3 rfl xm0)))) xm0 xm0), (by decide), (v_X5_takeAction_25_5 (K := K) (F := F) a G r1 x3 x14 ha oq3 oq14 n0 t3 (xzi b3) c6 t14 (xzi b14) c17), (v_X5_takeAction_25_6 (K := K) (F := F) a G G14 r1 x3 x14 ha oq3 oq14 oq14a n0 t3 (xzi b3) c6 t14 (xzi b14) c17)⟩ hT
  · refine lv_iconst (v := 1) hx hb dX5_takeAction_9 (by decide) ?_
    exact x_ri hx hb hr hlk hQ (Nat.le_of_ble_eq_true rfl) (Nat.le_of_ble_eq_true rfl) hS dX5_takeAction_10 G3 ⟨_, rfl, (XFr.call XFr.rf hF3 (xm1 0 rfl (xm1 1 rfl (xm1 2 rfl (xm1 3 rfl xm0)))) xm0 xm0), (by decide), (v_X5_takeAction_10_7 (K := K) (F := F) a G r1 x3 ha oq3 n0 t3 (xzi b3) c6), (v_X5_takeAction_10_8 (K := K) (F := F) a G G3 r1 x3 ha oq3 oq3a n0 t3 (xzi b3) c6)⟩ hT
section
/-! ===== a new rule ===== -/
theorem kinst7 : Cond.instantiable RX7 10 ∈ GT ∧ Cond.initialized RX7 ∈ GT := ⟨GT_mem 513 (by decide +kernel) rfl, GT_mem 111 (by decide +kernel) rfl⟩
/-- kinds that stay as others come -/
def KM (K K1 : Nat → Nat) : Prop := ∀ (x n : Nat), K x = n → n ≠ 0 → K1 x = n
theorem KM.rf {K : Nat → Nat} : KM K K := fun _ _ h _ => h
theorem KM.tr {K K1 K2 : Nat → Nat} (h : KM K K1) (h2 : KM K1 K2) : KM K K2 := fun x n e z => h2 x n (h x n e z) z
theorem KM.up {K : Nat → Nat} {q k : Nat} (hq : K q = 0) : KM K (va_up K q k) := by
  intro x n h hn
  rw [va_up_ne]
  · exact h
  · intro e
    subst e
    exact hn (h.symm.trans hq)
theorem SHP.mono {E : XE} {K K1 : Nat → Nat} {F : Nat → Nat → Nat} {d c : Nat → Int32} {r : Nat → Option Nat} {l : Nat → Int64} {a k : Nat} {e : va_E} (m : KM K K1) (h : SHP E K F d c r l a k e) : SHP E K1 F d c r l a k e := by
  unfold SHP at h ⊢
  split at h
  · obtain ⟨h0, h1, h2, h3, h4⟩ := h
    exact ⟨h0, m _ _ h1 (by decide), h2, m _ _ h3 (by decide), h4⟩
  · obtain ⟨h0, h1, h2, h3, h4, h5, h6⟩ := h
    exact ⟨h0, m _ _ h1 (by decide), h2, m _ _ h3 (by decide), h4, m _ _ h5 (by decide), h6⟩
  · obtain ⟨h0, h1, h2, h3, h4, h5, h6, h7, h8⟩ := h
    exact ⟨h0, m _ _ h1 (by decide), h2, m _ _ h3 (by decide), h4, m _ _ h5 (by decide), h6, m _ _ h7 (by decide), h8⟩
  · obtain ⟨h0, h1, h2, h3, h4, h5, h6⟩ := h
    exact ⟨h0, m _ _ h1 (by decide), h2, m _ _ h3 (by decide), h4, m _ _ h5 (by decide), h6⟩
  · obtain ⟨h0, h1, h2, h3, h4, h5, h6, h7, h8, h9, h10, h11, h12⟩ := h
    exact ⟨h0, m _ _ h1 (by decide), h2, m _ _ h3 (by decide), h4, m _ _ h5 (by decide), h6, m _ _ h7 (by decide), h8, m _ _ h9 (by decide), h10, m _ _ h11 (by decide), h12⟩
  · obtain ⟨h0, h1, h2, h3⟩ := h
    exact ⟨h0, m _ _ h1 (by decide), h2, h3⟩
  · obtain ⟨h0, h1, h2, h3, h4⟩ := h
    exact ⟨h0, m _ _ h1 (by decide), h2, m _ _ h3 (by decide), h4⟩
  · exact h
  · obtain ⟨h0, h1, h2⟩ := h
    exact ⟨h0, m _ _ h1 (by decide), h2⟩
  · exact h
  · obtain ⟨h0, h1, h2, h3, h4, h5, h6, h7, h8, h9, h10, h11, h12, h13, h14, h15, h16, h17, h18, h19, h20, h21, h22, h23, h24, h25, h26, h27, h28, h29, h30, h31, h32, h33, h34, h35⟩ := h
    exact ⟨h0, m _ _ h1 (by decide), h2, m _ _ h3 (by decide), h4, m _ _ h5 (by decide), h6, m _ _ h7 (by decide), h8, m _ _ h9 (by decide), h10, m _ _ h11 (by decide), h12, m _ _ h13 (by decide), h14, m _ _ h15 (by decide), h16, m _ _ h17 (by decide), h18, m _ _ h19 (by decide), h20, m _ _ h21 (by decide), h22, m _ _ h23 (by decide), h24, m _ _ h25 (by decide), h26, m _ _ h27 (by decide), h28, m _ _ h29 (by decide), h30, m _ _ h31 (by decide), h32, m _ _ h33 (by decide), h34, h35⟩
  · obtain ⟨h0, h1, h2, h3, h4, h5, h6, h7, h8, h9, h10, h11, h12, h13, h14, h15, h16, h17, h18, h19, h20, h21, h22, h23, h24, h25, h26, h27, h28, h29, h30, h31, h32, h33, h34, h35, h36, h37, h38, h39, h40, h41, h42, h43, h44, h45, h46, h47, h48, h49, h50, h51, h52, h53, h54, h55, h56, h57, h58, h59, h60, h61, h62, h63, h64, h65, h66, h67, h68, h69, h70, h71, h72, h73, h74⟩ := h
    exact ⟨h0, m _ _ h1 (by decide), h2, m _ _ h3 (by decide), h4, m _ _ h5 (by decide), h6, m _ _ h7 (by decide), h8, m _ _ h9 (by decide), h10, h11, m _ _ h12 (by decide), h13, m _ _ h14 (by decide), h15, m _ _ h16 (by decide), h17, m _ _ h18 (by decide), h19, m _ _ h20 (by decide), h21, m _ _ h22 (by decide), h23, m _ _ h24 (by decide), h25, m _ _ h26 (by decide), h27, m _ _ h28 (by decide), h29, m _ _ h30 (by decide), h31, m _ _ h32 (by decide), h33, m _ _ h34 (by decide), h35, m _ _ h36 (by decide), h37, m _ _ h38 (by decide), h39, m _ _ h40 (by decide), h41, m _ _ h42 (by decide), h43, m _ _ h44 (by decide), h45, m _ _ h46 (by decide), h47, m _ _ h48 (by decide), h49, m _ _ h50 (by decide), h51, m _ _ h52 (by decide), h53, m _ _ h54 (by decide), h55, m _ _ h56 (by decide), h57, h58, m _ _ h59 (by decide), h60, m _ _ h61 (by decide), h62, m _ _ h63 (by decide), h64, m _ _ h65 (by decide), h66, m _ _ h67 (by decide), h68, m _ _ h69 (by decide), h70, m _ _ h71 (by decide), h72, m _ _ h73 (by decide), h74⟩
  · exact h
  · exact ⟨h.1, fun i q hq => m _ _ (h.2 i q hq) (by decide)⟩
  · refine ⟨h.1, fun i hi => ?_⟩
    obtain ⟨q, h3, h4, h5⟩ := h.2 i hi
    exact ⟨q, h3, m _ _ h4 (by decide), h5⟩
  · first | exact h | (split <;> first | exact h | (exfalso; simp_all; done))
/-- the numbers of a new rule are 0 -/
def znew (G : XG) (q : Nat) : XG := (fun b j => if b = q ∧ j < 10 then 0 else G.1 b j, G.2)
theorem znew_fr (G : XG) (q : Nat) : XFr [(q, 0), (q, 1), (q, 2), (q, 3), (q, 4), (q, 5), (q, 6), (q, 7), (q, 8), (q, 9)] [] [] G (znew G q) := by
  refine ⟨fun b j hb => ?_, fun _ _ => rfl, fun _ _ => rfl⟩
  show (if b = q ∧ j < 10 then 0 else G.1 b j) = _
  rw [if_neg]
  rintro ⟨rfl, hj⟩
  apply hb
  match j, hj with
  | 0, _ => simp
  | 1, _ => simp
  | 2, _ => simp
  | 3, _ => simp
  | 4, _ => simp
  | 5, _ => simp
  | 6, _ => simp
  | 7, _ => simp
  | 8, _ => simp
  | 9, _ => simp
  | j + 10, hj => exact absurd hj (by omega)
theorem znew_0 (G : XG) (q : Nat) {j : Nat} (h : j < 10) : (znew G q).1 q j = 0 := if_pos ⟨rfl, h⟩
theorem TWl.push {E : XE} {K : Nat → Nat} {F : Nat → Nat → Nat} {G : XG} {ws : va_W} {A : Nat → Prop} {q : Nat} {e : va_E} (h : TWl E K F G ws) (hD : va_D A (ws ++ [(q, e)])) (hs : SHQ E (va_up K q 9) F (znew G q) q 9 e) : K q = 0 ∧ TWl E (va_up K q 9) F (znew G q) (ws ++ [(q, e)]) := by
  have hap : ∀ (i : Nat) (x : va_E), ws[i]? = some (q, x) → False := by
    intro i x hi
    have hl := (List.getElem?_eq_some_iff.mp hi).1
    have h1 : (ws ++ [(q, e)])[i]? = some (q, x) := by rw [List.getElem?_append_left hl]; exact hi
    have h2 : (ws ++ [(q, e)])[ws.length]? = some (q, e) := by simp
    have := hD.1 _ _ _ _ h1 h2 rfl
    omega
  have hq : K q = 0 := by
    by_cases z : K q = 0
    · exact z
    · obtain ⟨i, x, h1, -⟩ := h.1 q z
      exact (hap i x h1).elim
  have hm : KM K (va_up K q 9) := KM.up hq
  refine ⟨hq, ?_, ?_⟩
  · intro a ha
    by_cases z : a = q
    · subst z
      exact ⟨ws.length, e, by simp, by rw [va_up_self]; exact hs⟩
    · rw [va_up_ne _ _ z] at ha ⊢
      obtain ⟨i, x, h1, h2⟩ := h.1 a ha
      refine ⟨i, x, by rw [List.getElem?_append_left (List.getElem?_eq_some_iff.mp h1).1]; exact h1, ?_⟩
      have hd : (znew G q).1 a = G.1 a := funext (fun j => if_neg (fun y => z y.1))
      show SHP E (va_up K q 9) F ((znew G q).1 a) (G.2.1 a) (G.2.2.1 a) G.2.2.2 a (K a) x
      rw [hd]
      exact h2.mono hm
  · obtain ⟨i, j, v, n, f, ml, cnt, h1, h2, h3, h4, h5⟩ := h.2
    refine ⟨i, j, v, n, f, ml, cnt, ?_, ?_, ?_, ?_, h5⟩
    · rw [List.getElem?_append_left (List.getElem?_eq_some_iff.mp h1).1]; exact h1
    · rw [List.getElem?_append_left (List.getElem?_eq_some_iff.mp h2).1]; exact h2
    · rw [va_up_ne]
      · exact h3
      · intro z
        rw [z] at h1
        exact hap _ _ h1
    · rw [va_up_ne]
      · exact h4
      · intro z
        rw [z] at h2
        exact hap _ _ h2
section XNR
variable {p : Program} {l : Launch} {e : Env} {R : Room} {s : State} {m : MethodId} {args : Array Value} {below : List Frame} {meth : Method} {c : Code} {H : Heap} {locs : List Loc} {cells slots : Nat} {Q : State → Prop}
variable {pc : Nat} {ls : Array Slot} {rest : List Value} {E : XE} {cc : ByteArray} {nL : Nat} {own : String} {w0 : Cond} {K : Nat → Nat} {F : Nat → Nat → Nat} {G : XG} {idx : Nat}
theorem x_newR (S : CallFix p m c cc nL s args (w0 :: GT) own) (hK : XK E s) (hz : E.2.2.1 ≤ s.heap.size) (hT : TW E K F G H) (hS : va_S (xA E) s.heap H locs) (hl : Cond.classLink own idx RX7 ∈ GT) (hc : cells + 1 ≤ R.cells) (hs : slots + 10 ≤ R.slots) (hdg : decode cc pc = .ok (.new idx, 3)) (kk : ∀ (q : Nat) (K1 : Nat → Nat) (H1 : Heap), KM K K1 → K q = 0 → K1 q = 9 → TW E K1 F (znew G q) H1 → va_S (xA E) s.heap H1 locs → W p l e R s m args below meth c H1 locs (cells + 1) (slots + 10) Q (F0 m (pc + 3) ls (.ref q :: rest))) : W p l e R s m args below meth c H locs cells slots Q (F0 m pc ls rest) := by
  obtain ⟨ws, hw, hP, hD⟩ := hT
  refine va_new (D := E.1) (ci := 8) (fs := [.int 0, .int 0, .int 0, .int 0, .int 0, .int 0, .int 0, .int 0, .int 0, .int 0]) (C := RX7) (T := TX7) (N := 10) S.1 S.2.1 S.2.2.2.2 (fun w h => List.mem_cons_of_mem _ (inX7 w h)) tyX7 tyX7_ok S.2.2.2.1 (S.2.2.2.2 _ (List.mem_cons_of_mem _ hl)) (S.2.2.2.2 _ (List.mem_cons_of_mem _ kinst7.1)) (S.2.2.2.2 _ (List.mem_cons_of_mem _ kinst7.2)) hK.1 hP hD hS (fun q h => Nat.le_trans hz h) rfl (fun j hj => ?_) hc hs hdg (fun q H1 hP1 hD1 hS1 => ?_)
  · match j, hj with
    | 0, _ => rfl
    | 1, _ => rfl
    | 2, _ => rfl
    | 3, _ => rfl
    | 4, _ => rfl
    | 5, _ => rfl
    | 6, _ => rfl
    | 7, _ => rfl
    | 8, _ => rfl
    | 9, _ => rfl
    | j + 10, hj => exact absurd hj (by omega)
  · obtain ⟨hq, hw1⟩ := hw.push hD1 (q := q) ⟨by rw [znew_0 G q (by decide), znew_0 G q (by decide), znew_0 G q (by decide), znew_0 G q (by decide), znew_0 G q (by decide), znew_0 G q (by decide), znew_0 G q (by decide), znew_0 G q (by decide), znew_0 G q (by decide), znew_0 G q (by decide)], Or.inl (znew_0 G q (by decide))⟩
    exact kk q (va_up K q 9) H1 (KM.up hq) hq (va_up_self _ _ _) ⟨_, hw1, hP1, hD1⟩ hS1
variable {y : MethodName} {bytes : ByteArray} {maxL n index mc ms : Nat} {rm : Room} {Qc : Array Value → State → Outcome → State → Prop} {b : Addr} {As : List Value} {P9 : State → Prop}
theorem x_runI (S : CallFix p m c cc nL s args (w0 :: GT) own) (hM : Met l y (xw y bytes maxL none) rm (va_Pc (.ref b :: As) P9) Qc mc ms (xA E)) (hc : (Cond.code y bytes maxL none ∈ GT ∧ Cond.instanceMethod y ∈ GT ∧ Cond.initialized y.cls ∈ GT) ∧ y.cls ≠ "java/lang/invoke/MethodHandle" ∧ y.cls ≠ "java/lang/invoke/VarHandle" ∧ (parseMethodDescriptor y.desc).map (fun d => d.parameters.length) = some n) (hi : y.name = "<init>") (hl : Cond.methodLink own index y ∈ GT) (hrc : rm.cells = mc) (hrs : rm.slots = ms) (hR : rm.frames + 1 ≤ R.frames ∧ 8 + (maxL + 11) + rm.locals ≤ R.locals)
    (hK : XK E s) (hbl : ∀ av : List Value, FrameBlind (va_Pc av P9)) (hp9 : ∀ U : State, U.heap = H → s.WarmedH U.vm → P9 U)
    (hn : As.length = n) (hsize : ls.size = nL) (hW : (rest.map fun v => v.category).sum ≤ 8) (hdg : decode cc pc = .ok (.invokespecial index, 3)) (hf : cells + mc ≤ R.cells ∧ slots + ms ≤ R.slots) :
    va_Run p l e R s m args below meth c H locs cells slots mc ms (F0 m pc ls (As.reverse ++ .ref b :: rest)) rest (Qc (Value.ref b :: As).toArray) (xA E) :=
  va_runI S hM ⟨x_callB S n hc.1.1 hc.1.2.2 hl hrc hrs hc.2 hR, hi, S.2.2.2.2 _ (List.mem_cons_of_mem _ hc.1.2.1)⟩ ⟨hbl _, fun U hU hW => ⟨rfl, hp9 U hU hW⟩⟩ rfl hn hsize rfl (lv_room hW) hdg hf
end XNR
theorem rd_ok {t : Int → Int} {n : Int} {S : RSt} {so p e v br : Int} (h : RdI t n S so p e v br) : (br = 0 ∧ so = 0) ↔ (S.1 = 1 ∧ n ≤ S.2) := by
  obtain ⟨a1, a2, a3, a4, a5⟩ := h
  constructor
  · rintro ⟨h1, h2⟩
    have s1 := a3.mp h1
    obtain ⟨b1, b2, b3, b4⟩ := a5 s1
    refine ⟨s1, ?_⟩
    rw [a2]
    apply Classical.byContradiction
    intro q
    by_cases hl : cLt (t p)
    · have := (b3 (by omega) hl).1
      omega
    · rcases (b4 (by omega) hl).2 with ⟨-, x, -⟩ | ⟨-, x⟩ <;> omega
  · rintro ⟨h1, h2⟩
    obtain ⟨b1, b2, b3, b4⟩ := a5 h1
    exact ⟨a3.mpr h1, b2 (by omega)⟩
end
theorem v_X5_read_19_1 {F : Nat → Nat → Nat} (G11 : XG) (a : Nat) (G : XG) (G7 : XG) (G14 : XG)
    (oq11 : ((G11.1 a 2).toInt) = rn cBl (tC (G.2.1 (F (F a 0) 0)) ((G.1 (F a 0) 1).toInt)) ((G7.1 a 3).toInt) ∧ TokI (tC (G.2.1 (F (F a 0) 0)) ((G.1 (F a 0) 1).toInt)) ((G.1 (F a 0) 1).toInt) ((G11.1 a 1).toInt) ((G11.1 a 2).toInt) ((G11.1 a 3).toInt) ((G11.1 a 4).toInt))
    (n0 : 0 ≤ ((G.1 (F a 0) 1).toInt) ∧ ((G.1 (F a 0) 1).toInt) ≤ 80)
    (t11 : (0 ≤ ((G11.1 a 2).toInt) ∧ ((G11.1 a 2).toInt) ≤ ((G.1 (F a 0) 1).toInt)) ∧ (0 ≤ ((G11.1 a 3).toInt) ∧ ((G11.1 a 3).toInt) ≤ ((G.1 (F a 0) 1).toInt)))
    (c_G14_F_F_a_0_0 : G14.2.1 (F (F a 0) 0) = G.2.1 (F (F a 0) 0))
    (d_G14_F_a_0_1 : G14.1 (F a 0) 1 = G.1 (F a 0) 1)
    (d_G14_a_1 : G14.1 a 1 = G11.1 a 1)
    (d_G14_a_2 : G14.1 a 2 = G11.1 a 2)
    (d_G14_a_3 : G14.1 a 3 = G11.1 a 3)
    (d_G14_a_4 : G14.1 a 4 = G11.1 a 4)
    (d_G14_a_5 : G14.1 a 5 = 0)
    (d_G7_a_3 : G7.1 a 3 = 0) :
    RdI (tC (G14.2.1 (F (F a 0) 0)) ((G14.1 (F a 0) 1).toInt)) ((G14.1 (F a 0) 1).toInt) (1, rn cBl (tC (G.2.1 (F (F a 0) 0)) ((G.1 (F a 0) 1).toInt)) 0) ((G14.1 a 1).toInt) ((G14.1 a 2).toInt) ((G14.1 a 3).toInt) ((G14.1 a 4).toInt) ((G14.1 a 5).toInt) := by
  (try rw [c_G14_F_F_a_0_0])
  (try rw [d_G14_F_a_0_1])
  (try rw [d_G14_a_1])
  (try rw [d_G14_a_2])
  (try rw [d_G14_a_3])
  (try rw [d_G14_a_4])
  (try rw [d_G14_a_5])
  exact rd_st (by rw [oq11.1, d_G7_a_3]; rfl) (by decide) (by omega) oq11.2
theorem v_X5_read_30_2 {F : Nat → Nat → Nat} (G : XG) (a : Nat) (G19 : XG) (G22 : XG)
    (oq19a : RdI (tC (G.2.1 (F (F a 0) 0)) ((G.1 (F a 0) 1).toInt)) ((G.1 (F a 0) 1).toInt) (tkK (tC (G.2.1 (F (F a 0) 0)) ((G.1 (F a 0) 1).toInt)) (1, rn cBl (tC (G.2.1 (F (F a 0) 0)) ((G.1 (F a 0) 1).toInt)) 0)).2 ((G19.1 a 1).toInt) ((G19.1 a 2).toInt) ((G19.1 a 3).toInt) ((G19.1 a 4).toInt) ((G19.1 a 5).toInt))
    (c_G22_F_F_a_0_0 : G22.2.1 (F (F a 0) 0) = G.2.1 (F (F a 0) 0))
    (d_G22_F_a_0_1 : G22.1 (F a 0) 1 = G.1 (F a 0) 1)
    (d_G22_a_1 : G22.1 a 1 = G19.1 a 1)
    (d_G22_a_2 : G22.1 a 2 = G19.1 a 2)
    (d_G22_a_3 : G22.1 a 3 = G19.1 a 3)
    (d_G22_a_4 : G22.1 a 4 = G19.1 a 4)
    (d_G22_a_5 : G22.1 a 5 = G19.1 a 5) :
    RdI (tC (G22.2.1 (F (F a 0) 0)) ((G22.1 (F a 0) 1).toInt)) ((G22.1 (F a 0) 1).toInt) ((rS1 (tC (G.2.1 (F (F a 0) 0)) ((G.1 (F a 0) 1).toInt))).2) ((G22.1 a 1).toInt) ((G22.1 a 2).toInt) ((G22.1 a 3).toInt) ((G22.1 a 4).toInt) ((G22.1 a 5).toInt) := by
  (try rw [c_G22_F_F_a_0_0])
  (try rw [d_G22_F_a_0_1])
  (try rw [d_G22_a_1])
  (try rw [d_G22_a_2])
  (try rw [d_G22_a_3])
  (try rw [d_G22_a_4])
  (try rw [d_G22_a_5])
  exact oq19a
theorem v_X5_read_40_3 {F : Nat → Nat → Nat} (G : XG) (a : Nat) (G30 : XG) (G33 : XG)
    (oq30a : RdI (tC (G.2.1 (F (F a 0) 0)) ((G.1 (F a 0) 1).toInt)) ((G.1 (F a 0) 1).toInt) (tkN (tC (G.2.1 (F (F a 0) 0)) ((G.1 (F a 0) 1).toInt)) (0 : Int) (2 : Int) ((rS1 (tC (G.2.1 (F (F a 0) 0)) ((G.1 (F a 0) 1).toInt))).2)).2 ((G30.1 a 1).toInt) ((G30.1 a 2).toInt) ((G30.1 a 3).toInt) ((G30.1 a 4).toInt) ((G30.1 a 5).toInt))
    (c_G33_F_F_a_0_0 : G33.2.1 (F (F a 0) 0) = G.2.1 (F (F a 0) 0))
    (d_G33_F_a_0_1 : G33.1 (F a 0) 1 = G.1 (F a 0) 1)
    (d_G33_a_1 : G33.1 a 1 = G30.1 a 1)
    (d_G33_a_2 : G33.1 a 2 = G30.1 a 2)
    (d_G33_a_3 : G33.1 a 3 = G30.1 a 3)
    (d_G33_a_4 : G33.1 a 4 = G30.1 a 4)
    (d_G33_a_5 : G33.1 a 5 = G30.1 a 5) :
    RdI (tC (G33.2.1 (F (F a 0) 0)) ((G33.1 (F a 0) 1).toInt)) ((G33.1 (F a 0) 1).toInt) ((rS2 (tC (G.2.1 (F (F a 0) 0)) ((G.1 (F a 0) 1).toInt))).2) ((G33.1 a 1).toInt) ((G33.1 a 2).toInt) ((G33.1 a 3).toInt) ((G33.1 a 4).toInt) ((G33.1 a 5).toInt) := by
  (try rw [c_G33_F_F_a_0_0])
  (try rw [d_G33_F_a_0_1])
  (try rw [d_G33_a_1])
  (try rw [d_G33_a_2])
  (try rw [d_G33_a_3])
  (try rw [d_G33_a_4])
  (try rw [d_G33_a_5])
  exact oq30a
theorem v_X5_read_153_4 {F : Nat → Nat → Nat} (G : XG) (a : Nat) (G_149 : XG) (G_133 : XG)
    (rd7 : RdI (tC (G.2.1 (F (F a 0) 0)) ((G.1 (F a 0) 1).toInt)) (G.1 (F a 0) 1).toInt (rS7 (tC (G.2.1 (F (F a 0) 0)) ((G.1 (F a 0) 1).toInt))).2 ((G_149.1 a 1).toInt) ((G_149.1 a 2).toInt) ((G_149.1 a 3).toInt) ((G_149.1 a 4).toInt) ((G_133.1 a 5).toInt))
    (c_G_149_F_F_a_0_0 : G_149.2.1 (F (F a 0) 0) = G.2.1 (F (F a 0) 0))
    (d_G_149_F_a_0_1 : G_149.1 (F a 0) 1 = G.1 (F a 0) 1)
    (d_G_149_a_5 : G_149.1 a 5 = G_133.1 a 5) :
    RdI (tC (G_149.2.1 (F (F a 0) 0)) ((G_149.1 (F a 0) 1).toInt)) ((G_149.1 (F a 0) 1).toInt) ((rS7 (tC (G.2.1 (F (F a 0) 0)) ((G.1 (F a 0) 1).toInt))).2) ((G_149.1 a 1).toInt) ((G_149.1 a 2).toInt) ((G_149.1 a 3).toInt) ((G_149.1 a 4).toInt) ((G_149.1 a 5).toInt) := by
  (try rw [c_G_149_F_F_a_0_0])
  (try rw [d_G_149_F_a_0_1])
  (try rw [d_G_149_a_1])
  (try rw [d_G_149_a_2])
  (try rw [d_G_149_a_3])
  (try rw [d_G_149_a_4])
  (try rw [d_G_149_a_5])
  exact rd7
theorem v_X5_read_163_5 {F : Nat → Nat → Nat} (G : XG) (a : Nat) (G153 : XG) (G156 : XG) (G_133 : XG)
    (oq153a : RdI (tC (G.2.1 (F (F a 0) 0)) ((G.1 (F a 0) 1).toInt)) ((G.1 (F a 0) 1).toInt) (tkW (tC (G.2.1 (F (F a 0) 0)) ((G.1 (F a 0) 1).toInt)) (kw 8) ((rS7 (tC (G.2.1 (F (F a 0) 0)) ((G.1 (F a 0) 1).toInt))).2)).2 ((G153.1 a 1).toInt) ((G153.1 a 2).toInt) ((G153.1 a 3).toInt) ((G153.1 a 4).toInt) ((G153.1 a 5).toInt))
    (c_G156_F_F_a_0_0 : G156.2.1 (F (F a 0) 0) = G.2.1 (F (F a 0) 0))
    (d_G153_a_5 : G153.1 a 5 = G_133.1 a 5)
    (d_G156_F_a_0_1 : G156.1 (F a 0) 1 = G.1 (F a 0) 1)
    (d_G156_a_1 : G156.1 a 1 = G153.1 a 1)
    (d_G156_a_2 : G156.1 a 2 = G153.1 a 2)
    (d_G156_a_3 : G156.1 a 3 = G153.1 a 3)
    (d_G156_a_4 : G156.1 a 4 = G153.1 a 4)
    (d_G156_a_5 : G156.1 a 5 = G_133.1 a 5) :
    RdI (tC (G156.2.1 (F (F a 0) 0)) ((G156.1 (F a 0) 1).toInt)) ((G156.1 (F a 0) 1).toInt) ((rS8 (tC (G.2.1 (F (F a 0) 0)) ((G.1 (F a 0) 1).toInt))).2) ((G156.1 a 1).toInt) ((G156.1 a 2).toInt) ((G156.1 a 3).toInt) ((G156.1 a 4).toInt) ((G156.1 a 5).toInt) := by
  (try rw [d_G153_a_5] at oq153a)
  (try rw [c_G156_F_F_a_0_0])
  (try rw [d_G156_F_a_0_1])
  (try rw [d_G156_a_1])
  (try rw [d_G156_a_2])
  (try rw [d_G156_a_3])
  (try rw [d_G156_a_4])
  (try rw [d_G156_a_5])
  exact oq153a
theorem v_X5_read_208_6 {F : Nat → Nat → Nat} (G : XG) (a : Nat) (G_181 : XG) (G181 : XG)
    (rd9 : RdI (tC (G.2.1 (F (F a 0) 0)) ((G.1 (F a 0) 1).toInt)) (G.1 (F a 0) 1).toInt (rS9 (tC (G.2.1 (F (F a 0) 0)) ((G.1 (F a 0) 1).toInt))).2 ((G_181.1 a 1).toInt) ((G_181.1 a 2).toInt) ((G_181.1 a 3).toInt) ((G_181.1 a 4).toInt) ((G_181.1 a 5).toInt))
    (d_G181_a_2 : G181.1 a 2 = G_181.1 a 2) :
    (G181.1 a 2).toInt = (rS9 (tC (G.2.1 (F (F a 0) 0)) ((G.1 (F a 0) 1).toInt))).2.2 := by
  (try rw [d_G181_a_2])
  (try rw [d_G193_a_2])
  exact rd9.2.1.symm
theorem v_X5_read_208_7 {F : Nat → Nat → Nat} (G : XG) (a : Nat) (G_181 : XG)
    (rd9 : RdI (tC (G.2.1 (F (F a 0) 0)) ((G.1 (F a 0) 1).toInt)) (G.1 (F a 0) 1).toInt (rS9 (tC (G.2.1 (F (F a 0) 0)) ((G.1 (F a 0) 1).toInt))).2 ((G_181.1 a 1).toInt) ((G_181.1 a 2).toInt) ((G_181.1 a 3).toInt) ((G_181.1 a 4).toInt) ((G_181.1 a 5).toInt))
    (c188 : ((G_181.1 a 1).toInt) = 0)
    (c200 : ((G_181.1 a 5).toInt) = 0) :
    rOk (tC (G.2.1 (F (F a 0) 0)) ((G.1 (F a 0) 1).toInt)) ((G.1 (F a 0) 1).toInt) := by
  exact (rd_ok rd9).mp ⟨by omega, by omega⟩
theorem v_X5_read_208_8 {F : Nat → Nat → Nat} (x19 : Int32) (G : XG) (a : Nat) (x30 : Int32) (x40 : Int32) (G_80 : XG) (q14 : Nat) (G_133 : XG) (G_149 : XG) (x153 : Int32) (k_181 : Int32) (G22 : XG) (G181 : XG)
    (oq19 : x19.toInt = (tkK (tC (G.2.1 (F (F a 0) 0)) ((G.1 (F a 0) 1).toInt)) (1, rn cBl (tC (G.2.1 (F (F a 0) 0)) ((G.1 (F a 0) 1).toInt)) 0)).1)
    (oq30 : x30.toInt = (tkN (tC (G.2.1 (F (F a 0) 0)) ((G.1 (F a 0) 1).toInt)) (0 : Int) (2 : Int) ((rS1 (tC (G.2.1 (F (F a 0) 0)) ((G.1 (F a 0) 1).toInt))).2)).1)
    (oq40 : x40.toInt = (tkN (tC (G.2.1 (F (F a 0) 0)) ((G.1 (F a 0) 1).toInt)) (0 : Int) (2 : Int) ((rS2 (tC (G.2.1 (F (F a 0) 0)) ((G.1 (F a 0) 1).toInt))).2)).1)
    (f4 : ((G_80.1 q14 4).toInt) = (rS4 (tC (G.2.1 (F (F a 0) 0)) ((G.1 (F a 0) 1).toInt))).1)
    (f5 : ((G_133.1 q14 5).toInt) = (rS5 (tC (G.2.1 (F (F a 0) 0)) ((G.1 (F a 0) 1).toInt))).1)
    (f6 : ((G_133.1 q14 6).toInt) = (rS6 (tC (G.2.1 (F (F a 0) 0)) ((G.1 (F a 0) 1).toInt))).1)
    (f7 : ((G_149.1 q14 7).toInt) = (rS7 (tC (G.2.1 (F (F a 0) 0)) ((G.1 (F a 0) 1).toInt))).1)
    (oq153 : x153.toInt = (tkW (tC (G.2.1 (F (F a 0) 0)) ((G.1 (F a 0) 1).toInt)) (kw 8) ((rS7 (tC (G.2.1 (F (F a 0) 0)) ((G.1 (F a 0) 1).toInt))).2)).1)
    (f9 : k_181.toInt = (rS9 (tC (G.2.1 (F (F a 0) 0)) ((G.1 (F a 0) 1).toInt))).1)
    (t19 : 0 ≤ x19.toInt ∧ x19.toInt ≤ 5)
    (t22 : ((G22.1 q14 0).toInt) = x19.toInt ∧ ((G22.1 q14 1).toInt) = -1 ∧ ((G22.1 q14 4).toInt) = -1 ∧ ((G22.1 q14 7).toInt) = 0)
    (d_G181_q14_0 : G181.1 q14 0 = G22.1 q14 0)
    (d_G181_q14_1 : G181.1 q14 1 = G22.1 q14 1)
    (d_G181_q14_2 : G181.1 q14 2 = x30)
    (d_G181_q14_3 : G181.1 q14 3 = x40)
    (d_G181_q14_4 : G181.1 q14 4 = G_80.1 q14 4)
    (d_G181_q14_5 : G181.1 q14 5 = G_133.1 q14 5)
    (d_G181_q14_6 : G181.1 q14 6 = G_133.1 q14 6)
    (d_G181_q14_7 : G181.1 q14 7 = G_149.1 q14 7)
    (d_G181_q14_8 : G181.1 q14 8 = k_181)
    (d_G181_q14_9 : G181.1 q14 9 = x153) :
    (G181.1 q14 1).toInt = -1 ∧ (G181.1 q14 0).toInt = (rS1 (tC (G.2.1 (F (F a 0) 0)) ((G.1 (F a 0) 1).toInt))).1 ∧ (G181.1 q14 2).toInt = (rS2 (tC (G.2.1 (F (F a 0) 0)) ((G.1 (F a 0) 1).toInt))).1 ∧ (G181.1 q14 3).toInt = (rS3 (tC (G.2.1 (F (F a 0) 0)) ((G.1 (F a 0) 1).toInt))).1 ∧ (G181.1 q14 4).toInt = (rS4 (tC (G.2.1 (F (F a 0) 0)) ((G.1 (F a 0) 1).toInt))).1 ∧ (G181.1 q14 5).toInt = (rS5 (tC (G.2.1 (F (F a 0) 0)) ((G.1 (F a 0) 1).toInt))).1 ∧ (G181.1 q14 6).toInt = (rS6 (tC (G.2.1 (F (F a 0) 0)) ((G.1 (F a 0) 1).toInt))).1 ∧ (G181.1 q14 7).toInt = (rS7 (tC (G.2.1 (F (F a 0) 0)) ((G.1 (F a 0) 1).toInt))).1 ∧ (G181.1 q14 9).toInt = (rS8 (tC (G.2.1 (F (F a 0) 0)) ((G.1 (F a 0) 1).toInt))).1 ∧ (G181.1 q14 8).toInt = (rS9 (tC (G.2.1 (F (F a 0) 0)) ((G.1 (F a 0) 1).toInt))).1 := by
  have k19 : (rS1 (tC (G.2.1 (F (F a 0) 0)) ((G.1 (F a 0) 1).toInt))).1 = (G22.1 q14 0).toInt := by have := oq19; show (tkK _ _).1 = _; rw [← this]; omega
  refine ⟨?_, ?_, ?_, ?_, ?_, ?_, ?_, ?_, ?_, ?_⟩
  · rw [d_G181_q14_1]; omega
  · rw [d_G181_q14_0, k19]
  · rw [d_G181_q14_2]; exact oq30
  · rw [d_G181_q14_3]; exact oq40
  · rw [d_G181_q14_4]; exact f4
  · rw [d_G181_q14_5]; exact f5
  · rw [d_G181_q14_6]; exact f6
  · rw [d_G181_q14_7]; exact f7
  · rw [d_G181_q14_9]; exact oq153
  · rw [d_G181_q14_8]; exact f9
theorem v_X5_read_208_9 {F : Nat → Nat → Nat} (G : XG) (a : Nat) (G_181 : XG) (G181 : XG)
    (rd9 : RdI (tC (G.2.1 (F (F a 0) 0)) ((G.1 (F a 0) 1).toInt)) (G.1 (F a 0) 1).toInt (rS9 (tC (G.2.1 (F (F a 0) 0)) ((G.1 (F a 0) 1).toInt))).2 ((G_181.1 a 1).toInt) ((G_181.1 a 2).toInt) ((G_181.1 a 3).toInt) ((G_181.1 a 4).toInt) ((G_181.1 a 5).toInt))
    (d_G181_a_2 : G181.1 a 2 = G_181.1 a 2) :
    (G181.1 a 2).toInt = (rS9 (tC (G.2.1 (F (F a 0) 0)) ((G.1 (F a 0) 1).toInt))).2.2 := by
  (try rw [d_G181_a_2])
  (try rw [d_G193_a_2])
  exact rd9.2.1.symm
theorem v_X5_read_208_10 {F : Nat → Nat → Nat} (G : XG) (a : Nat) (G_181 : XG)
    (rd9 : RdI (tC (G.2.1 (F (F a 0) 0)) ((G.1 (F a 0) 1).toInt)) (G.1 (F a 0) 1).toInt (rS9 (tC (G.2.1 (F (F a 0) 0)) ((G.1 (F a 0) 1).toInt))).2 ((G_181.1 a 1).toInt) ((G_181.1 a 2).toInt) ((G_181.1 a 3).toInt) ((G_181.1 a 4).toInt) ((G_181.1 a 5).toInt))
    (c188 : ((G_181.1 a 1).toInt) = 0)
    (c200 : ¬ (((G_181.1 a 5).toInt) = 0)) :
    ¬ rOk (tC (G.2.1 (F (F a 0) 0)) ((G.1 (F a 0) 1).toInt)) ((G.1 (F a 0) 1).toInt) := by
  intro h
  have := (rd_ok rd9).mpr h
  omega
theorem v_X5_read_208_11 {F : Nat → Nat → Nat} (G : XG) (a : Nat) (G_181 : XG) (G193 : XG)
    (rd9 : RdI (tC (G.2.1 (F (F a 0) 0)) ((G.1 (F a 0) 1).toInt)) (G.1 (F a 0) 1).toInt (rS9 (tC (G.2.1 (F (F a 0) 0)) ((G.1 (F a 0) 1).toInt))).2 ((G_181.1 a 1).toInt) ((G_181.1 a 2).toInt) ((G_181.1 a 3).toInt) ((G_181.1 a 4).toInt) ((G_181.1 a 5).toInt))
    (d_G193_a_2 : G193.1 a 2 = G_181.1 a 2) :
    (G193.1 a 2).toInt = (rS9 (tC (G.2.1 (F (F a 0) 0)) ((G.1 (F a 0) 1).toInt))).2.2 := by
  (try rw [d_G181_a_2])
  (try rw [d_G193_a_2])
  exact rd9.2.1.symm
theorem v_X5_read_208_12 {F : Nat → Nat → Nat} (G : XG) (a : Nat) (G_181 : XG)
    (rd9 : RdI (tC (G.2.1 (F (F a 0) 0)) ((G.1 (F a 0) 1).toInt)) (G.1 (F a 0) 1).toInt (rS9 (tC (G.2.1 (F (F a 0) 0)) ((G.1 (F a 0) 1).toInt))).2 ((G_181.1 a 1).toInt) ((G_181.1 a 2).toInt) ((G_181.1 a 3).toInt) ((G_181.1 a 4).toInt) ((G_181.1 a 5).toInt))
    (c188 : ¬ (((G_181.1 a 1).toInt) = 0)) :
    ¬ rOk (tC (G.2.1 (F (F a 0) 0)) ((G.1 (F a 0) 1).toInt)) ((G.1 (F a 0) 1).toInt) := by
  intro h
  have := (rd_ok rd9).mpr h
  omega
theorem v_X5_read_179_13 {F : Nat → Nat → Nat} (x163 : Int32) (G : XG) (a : Nat) (G163 : XG) (G_133 : XG)
    (oq163 : x163.toInt = (tkW (tC (G.2.1 (F (F a 0) 0)) ((G.1 (F a 0) 1).toInt)) (kw 9) ((rS8 (tC (G.2.1 (F (F a 0) 0)) ((G.1 (F a 0) 1).toInt))).2)).1)
    (oq163a : RdI (tC (G.2.1 (F (F a 0) 0)) ((G.1 (F a 0) 1).toInt)) ((G.1 (F a 0) 1).toInt) (tkW (tC (G.2.1 (F (F a 0) 0)) ((G.1 (F a 0) 1).toInt)) (kw 9) ((rS8 (tC (G.2.1 (F (F a 0) 0)) ((G.1 (F a 0) 1).toInt))).2)).2 ((G163.1 a 1).toInt) ((G163.1 a 2).toInt) ((G163.1 a 3).toInt) ((G163.1 a 4).toInt) ((G163.1 a 5).toInt))
    (t163 : 0 ≤ x163.toInt ∧ x163.toInt ≤ 1)
    (c166 : x163.toInt = 0)
    (d_G163_a_5 : G163.1 a 5 = G_133.1 a 5) :
    RdI (tC (G.2.1 (F (F a 0) 0)) ((G.1 (F a 0) 1).toInt)) (G.1 (F a 0) 1).toInt (rS9 (tC (G.2.1 (F (F a 0) 0)) ((G.1 (F a 0) 1).toInt))).2 ((G163.1 a 1).toInt) ((G163.1 a 2).toInt) ((G163.1 a 3).toInt) ((G163.1 a 4).toInt) ((G_133.1 a 5).toInt) := by
  have e9 : rS9 (tC (G.2.1 (F (F a 0) 0)) ((G.1 (F a 0) 1).toInt)) = (50, (tkW (tC (G.2.1 (F (F a 0) 0)) ((G.1 (F a 0) 1).toInt)) (kw 9) (rS8 (tC (G.2.1 (F (F a 0) 0)) ((G.1 (F a 0) 1).toInt))).2).2) := if_neg (by rw [← oq163]; omega)
  rw [e9]
  (try rw [d_G163_a_5] at oq163a)
  exact oq163a
theorem v_X5_read_179_14 {F : Nat → Nat → Nat} (x163 : Int32) (G : XG) (a : Nat)
    (oq163 : x163.toInt = (tkW (tC (G.2.1 (F (F a 0) 0)) ((G.1 (F a 0) 1).toInt)) (kw 9) ((rS8 (tC (G.2.1 (F (F a 0) 0)) ((G.1 (F a 0) 1).toInt))).2)).1)
    (t163 : 0 ≤ x163.toInt ∧ x163.toInt ≤ 1)
    (c166 : x163.toInt = 0) :
    (50 : Int) = (rS9 (tC (G.2.1 (F (F a 0) 0)) ((G.1 (F a 0) 1).toInt))).1 := by
  have e9 : rS9 (tC (G.2.1 (F (F a 0) 0)) ((G.1 (F a 0) 1).toInt)) = (50, (tkW (tC (G.2.1 (F (F a 0) 0)) ((G.1 (F a 0) 1).toInt)) (kw 9) (rS8 (tC (G.2.1 (F (F a 0) 0)) ((G.1 (F a 0) 1).toInt))).2).2) := if_neg (by rw [← oq163]; omega)
  rw [e9]
theorem v_X5_read_173_15 {F : Nat → Nat → Nat} (G : XG) (a : Nat) (G163 : XG) (G_133 : XG)
    (oq163a : RdI (tC (G.2.1 (F (F a 0) 0)) ((G.1 (F a 0) 1).toInt)) ((G.1 (F a 0) 1).toInt) (tkW (tC (G.2.1 (F (F a 0) 0)) ((G.1 (F a 0) 1).toInt)) (kw 9) ((rS8 (tC (G.2.1 (F (F a 0) 0)) ((G.1 (F a 0) 1).toInt))).2)).2 ((G163.1 a 1).toInt) ((G163.1 a 2).toInt) ((G163.1 a 3).toInt) ((G163.1 a 4).toInt) ((G163.1 a 5).toInt))
    (c_G163_F_F_a_0_0 : G163.2.1 (F (F a 0) 0) = G.2.1 (F (F a 0) 0))
    (d_G163_F_a_0_1 : G163.1 (F a 0) 1 = G.1 (F a 0) 1)
    (d_G163_a_5 : G163.1 a 5 = G_133.1 a 5) :
    RdI (tC (G163.2.1 (F (F a 0) 0)) ((G163.1 (F a 0) 1).toInt)) ((G163.1 (F a 0) 1).toInt) ((tkW (tC (G.2.1 (F (F a 0) 0)) ((G.1 (F a 0) 1).toInt)) (kw 9) (rS8 (tC (G.2.1 (F (F a 0) 0)) ((G.1 (F a 0) 1).toInt))).2).2) ((G163.1 a 1).toInt) ((G163.1 a 2).toInt) ((G163.1 a 3).toInt) ((G163.1 a 4).toInt) ((G163.1 a 5).toInt) := by
  (try rw [d_G163_a_5] at oq163a)
  (try rw [c_G163_F_F_a_0_0])
  (try rw [d_G163_F_a_0_1])
  (try rw [d_G163_a_1])
  (try rw [d_G163_a_2])
  (try rw [d_G163_a_3])
  (try rw [d_G163_a_4])
  (try rw [d_G163_a_5])
  exact oq163a
theorem v_X5_read_176_16 {F : Nat → Nat → Nat} (x163 : Int32) (G : XG) (a : Nat) (G173 : XG)
    (oq163 : x163.toInt = (tkW (tC (G.2.1 (F (F a 0) 0)) ((G.1 (F a 0) 1).toInt)) (kw 9) ((rS8 (tC (G.2.1 (F (F a 0) 0)) ((G.1 (F a 0) 1).toInt))).2)).1)
    (oq173a : RdI (tC (G.2.1 (F (F a 0) 0)) ((G.1 (F a 0) 1).toInt)) ((G.1 (F a 0) 1).toInt) (tkN (tC (G.2.1 (F (F a 0) 0)) ((G.1 (F a 0) 1).toInt)) (0 : Int) (99 : Int) ((tkW (tC (G.2.1 (F (F a 0) 0)) ((G.1 (F a 0) 1).toInt)) (kw 9) (rS8 (tC (G.2.1 (F (F a 0) 0)) ((G.1 (F a 0) 1).toInt))).2).2)).2 ((G173.1 a 1).toInt) ((G173.1 a 2).toInt) ((G173.1 a 3).toInt) ((G173.1 a 4).toInt) ((G173.1 a 5).toInt))
    (t163 : 0 ≤ x163.toInt ∧ x163.toInt ≤ 1)
    (c166 : ¬ (x163.toInt = 0)) :
    RdI (tC (G.2.1 (F (F a 0) 0)) ((G.1 (F a 0) 1).toInt)) (G.1 (F a 0) 1).toInt (rS9 (tC (G.2.1 (F (F a 0) 0)) ((G.1 (F a 0) 1).toInt))).2 ((G173.1 a 1).toInt) ((G173.1 a 2).toInt) ((G173.1 a 3).toInt) ((G173.1 a 4).toInt) ((G173.1 a 5).toInt) := by
  have e9 : rS9 (tC (G.2.1 (F (F a 0) 0)) ((G.1 (F a 0) 1).toInt)) = tkN (tC (G.2.1 (F (F a 0) 0)) ((G.1 (F a 0) 1).toInt)) 0 99 (tkW (tC (G.2.1 (F (F a 0) 0)) ((G.1 (F a 0) 1).toInt)) (kw 9) (rS8 (tC (G.2.1 (F (F a 0) 0)) ((G.1 (F a 0) 1).toInt))).2).2 := if_pos (by rw [← oq163]; omega)
  rw [e9]
  exact oq173a
theorem v_X5_read_176_17 {F : Nat → Nat → Nat} (x163 : Int32) (G : XG) (a : Nat) (x173 : Int32)
    (oq163 : x163.toInt = (tkW (tC (G.2.1 (F (F a 0) 0)) ((G.1 (F a 0) 1).toInt)) (kw 9) ((rS8 (tC (G.2.1 (F (F a 0) 0)) ((G.1 (F a 0) 1).toInt))).2)).1)
    (oq173 : x173.toInt = (tkN (tC (G.2.1 (F (F a 0) 0)) ((G.1 (F a 0) 1).toInt)) (0 : Int) (99 : Int) ((tkW (tC (G.2.1 (F (F a 0) 0)) ((G.1 (F a 0) 1).toInt)) (kw 9) (rS8 (tC (G.2.1 (F (F a 0) 0)) ((G.1 (F a 0) 1).toInt))).2).2)).1)
    (t163 : 0 ≤ x163.toInt ∧ x163.toInt ≤ 1)
    (c166 : ¬ (x163.toInt = 0)) :
    x173.toInt = (rS9 (tC (G.2.1 (F (F a 0) 0)) ((G.1 (F a 0) 1).toInt))).1 := by
  have e9 : rS9 (tC (G.2.1 (F (F a 0) 0)) ((G.1 (F a 0) 1).toInt)) = tkN (tC (G.2.1 (F (F a 0) 0)) ((G.1 (F a 0) 1).toInt)) 0 99 (tkW (tC (G.2.1 (F (F a 0) 0)) ((G.1 (F a 0) 1).toInt)) (kw 9) (rS8 (tC (G.2.1 (F (F a 0) 0)) ((G.1 (F a 0) 1).toInt))).2).2 := if_pos (by rw [← oq163]; omega)
  rw [e9]
  exact oq173
theorem v_X5_read_138_18 {F : Nat → Nat → Nat} (x19 : Int32) (G : XG) (a : Nat) (G_133 : XG) (G22 : XG) (q14 : Nat)
    (oq19 : x19.toInt = (tkK (tC (G.2.1 (F (F a 0) 0)) ((G.1 (F a 0) 1).toInt)) (1, rn cBl (tC (G.2.1 (F (F a 0) 0)) ((G.1 (F a 0) 1).toInt)) 0)).1)
    (rd6 : RdI (tC (G.2.1 (F (F a 0) 0)) ((G.1 (F a 0) 1).toInt)) (G.1 (F a 0) 1).toInt (rS6 (tC (G.2.1 (F (F a 0) 0)) ((G.1 (F a 0) 1).toInt))).2 ((G_133.1 a 1).toInt) ((G_133.1 a 2).toInt) ((G_133.1 a 3).toInt) ((G_133.1 a 4).toInt) ((G_133.1 a 5).toInt))
    (t19 : 0 ≤ x19.toInt ∧ x19.toInt ≤ 5)
    (t22 : ((G22.1 q14 0).toInt) = x19.toInt ∧ ((G22.1 q14 1).toInt) = -1 ∧ ((G22.1 q14 4).toInt) = -1 ∧ ((G22.1 q14 7).toInt) = 0)
    (c138 : ((G22.1 q14 0).toInt) ≠ (1 : Int)) :
    RdI (tC (G.2.1 (F (F a 0) 0)) ((G.1 (F a 0) 1).toInt)) (G.1 (F a 0) 1).toInt (rS7 (tC (G.2.1 (F (F a 0) 0)) ((G.1 (F a 0) 1).toInt))).2 ((G_133.1 a 1).toInt) ((G_133.1 a 2).toInt) ((G_133.1 a 3).toInt) ((G_133.1 a 4).toInt) ((G_133.1 a 5).toInt) := by
  have k19 : (rS1 (tC (G.2.1 (F (F a 0) 0)) ((G.1 (F a 0) 1).toInt))).1 = (G22.1 q14 0).toInt := by have := oq19; show (tkK _ _).1 = _; rw [← this]; omega
  have e7 : rS7 (tC (G.2.1 (F (F a 0) 0)) ((G.1 (F a 0) 1).toInt)) = (0, (rS6 (tC (G.2.1 (F (F a 0) 0)) ((G.1 (F a 0) 1).toInt))).2) := if_neg (by rw [k19]; omega)
  rw [e7]
  exact rd6
theorem v_X5_read_138_19 {F : Nat → Nat → Nat} (x19 : Int32) (G : XG) (a : Nat) (G22 : XG) (q14 : Nat)
    (oq19 : x19.toInt = (tkK (tC (G.2.1 (F (F a 0) 0)) ((G.1 (F a 0) 1).toInt)) (1, rn cBl (tC (G.2.1 (F (F a 0) 0)) ((G.1 (F a 0) 1).toInt)) 0)).1)
    (t19 : 0 ≤ x19.toInt ∧ x19.toInt ≤ 5)
    (t22 : ((G22.1 q14 0).toInt) = x19.toInt ∧ ((G22.1 q14 1).toInt) = -1 ∧ ((G22.1 q14 4).toInt) = -1 ∧ ((G22.1 q14 7).toInt) = 0)
    (c138 : ((G22.1 q14 0).toInt) ≠ (1 : Int)) :
    ((G22.1 q14 7).toInt) = (rS7 (tC (G.2.1 (F (F a 0) 0)) ((G.1 (F a 0) 1).toInt))).1 := by
  have k19 : (rS1 (tC (G.2.1 (F (F a 0) 0)) ((G.1 (F a 0) 1).toInt))).1 = (G22.1 q14 0).toInt := by have := oq19; show (tkK _ _).1 = _; rw [← this]; omega
  have e7 : rS7 (tC (G.2.1 (F (F a 0) 0)) ((G.1 (F a 0) 1).toInt)) = (0, (rS6 (tC (G.2.1 (F (F a 0) 0)) ((G.1 (F a 0) 1).toInt))).2) := if_neg (by rw [k19]; omega)
  rw [e7]
  show _ = (0 : Int)
  omega
theorem v_X5_read_143_20 {F : Nat → Nat → Nat} (G : XG) (a : Nat) (G_133 : XG)
    (rd6 : RdI (tC (G.2.1 (F (F a 0) 0)) ((G.1 (F a 0) 1).toInt)) (G.1 (F a 0) 1).toInt (rS6 (tC (G.2.1 (F (F a 0) 0)) ((G.1 (F a 0) 1).toInt))).2 ((G_133.1 a 1).toInt) ((G_133.1 a 2).toInt) ((G_133.1 a 3).toInt) ((G_133.1 a 4).toInt) ((G_133.1 a 5).toInt))
    (c_G_133_F_F_a_0_0 : G_133.2.1 (F (F a 0) 0) = G.2.1 (F (F a 0) 0))
    (d_G_133_F_a_0_1 : G_133.1 (F a 0) 1 = G.1 (F a 0) 1) :
    RdI (tC (G_133.2.1 (F (F a 0) 0)) ((G_133.1 (F a 0) 1).toInt)) ((G_133.1 (F a 0) 1).toInt) ((rS6 (tC (G.2.1 (F (F a 0) 0)) ((G.1 (F a 0) 1).toInt))).2) ((G_133.1 a 1).toInt) ((G_133.1 a 2).toInt) ((G_133.1 a 3).toInt) ((G_133.1 a 4).toInt) ((G_133.1 a 5).toInt) := by
  (try rw [c_G_133_F_F_a_0_0])
  (try rw [d_G_133_F_a_0_1])
  (try rw [d_G_133_a_1])
  (try rw [d_G_133_a_2])
  (try rw [d_G_133_a_3])
  (try rw [d_G_133_a_4])
  (try rw [d_G_133_a_5])
  exact rd6
theorem v_X5_read_146_21 {F : Nat → Nat → Nat} (x19 : Int32) (G : XG) (a : Nat) (G143 : XG) (G22 : XG) (q14 : Nat) (G_133 : XG)
    (oq19 : x19.toInt = (tkK (tC (G.2.1 (F (F a 0) 0)) ((G.1 (F a 0) 1).toInt)) (1, rn cBl (tC (G.2.1 (F (F a 0) 0)) ((G.1 (F a 0) 1).toInt)) 0)).1)
    (oq143a : RdI (tC (G.2.1 (F (F a 0) 0)) ((G.1 (F a 0) 1).toInt)) ((G.1 (F a 0) 1).toInt) (tkA (tC (G.2.1 (F (F a 0) 0)) ((G.1 (F a 0) 1).toInt)) ((rS6 (tC (G.2.1 (F (F a 0) 0)) ((G.1 (F a 0) 1).toInt))).2)).2 ((G143.1 a 1).toInt) ((G143.1 a 2).toInt) ((G143.1 a 3).toInt) ((G143.1 a 4).toInt) ((G143.1 a 5).toInt))
    (t19 : 0 ≤ x19.toInt ∧ x19.toInt ≤ 5)
    (t22 : ((G22.1 q14 0).toInt) = x19.toInt ∧ ((G22.1 q14 1).toInt) = -1 ∧ ((G22.1 q14 4).toInt) = -1 ∧ ((G22.1 q14 7).toInt) = 0)
    (c138 : ¬ (((G22.1 q14 0).toInt) ≠ (1 : Int)))
    (d_G143_a_5 : G143.1 a 5 = G_133.1 a 5) :
    RdI (tC (G.2.1 (F (F a 0) 0)) ((G.1 (F a 0) 1).toInt)) (G.1 (F a 0) 1).toInt (rS7 (tC (G.2.1 (F (F a 0) 0)) ((G.1 (F a 0) 1).toInt))).2 ((G143.1 a 1).toInt) ((G143.1 a 2).toInt) ((G143.1 a 3).toInt) ((G143.1 a 4).toInt) ((G_133.1 a 5).toInt) := by
  have k19 : (rS1 (tC (G.2.1 (F (F a 0) 0)) ((G.1 (F a 0) 1).toInt))).1 = (G22.1 q14 0).toInt := by have := oq19; show (tkK _ _).1 = _; rw [← this]; omega
  have e7 : rS7 (tC (G.2.1 (F (F a 0) 0)) ((G.1 (F a 0) 1).toInt)) = tkA (tC (G.2.1 (F (F a 0) 0)) ((G.1 (F a 0) 1).toInt)) (rS6 (tC (G.2.1 (F (F a 0) 0)) ((G.1 (F a 0) 1).toInt))).2 := if_pos (by rw [k19]; omega)
  rw [e7]
  (try rw [d_G143_a_5] at oq143a)
  exact oq143a
theorem v_X5_read_146_22 {F : Nat → Nat → Nat} (x19 : Int32) (G : XG) (a : Nat) (x143 : Int32) (G22 : XG) (q14 : Nat)
    (oq19 : x19.toInt = (tkK (tC (G.2.1 (F (F a 0) 0)) ((G.1 (F a 0) 1).toInt)) (1, rn cBl (tC (G.2.1 (F (F a 0) 0)) ((G.1 (F a 0) 1).toInt)) 0)).1)
    (oq143 : x143.toInt = (tkA (tC (G.2.1 (F (F a 0) 0)) ((G.1 (F a 0) 1).toInt)) ((rS6 (tC (G.2.1 (F (F a 0) 0)) ((G.1 (F a 0) 1).toInt))).2)).1)
    (t19 : 0 ≤ x19.toInt ∧ x19.toInt ≤ 5)
    (t22 : ((G22.1 q14 0).toInt) = x19.toInt ∧ ((G22.1 q14 1).toInt) = -1 ∧ ((G22.1 q14 4).toInt) = -1 ∧ ((G22.1 q14 7).toInt) = 0)
    (c138 : ¬ (((G22.1 q14 0).toInt) ≠ (1 : Int))) :
    x143.toInt = (rS7 (tC (G.2.1 (F (F a 0) 0)) ((G.1 (F a 0) 1).toInt))).1 := by
  have k19 : (rS1 (tC (G.2.1 (F (F a 0) 0)) ((G.1 (F a 0) 1).toInt))).1 = (G22.1 q14 0).toInt := by have := oq19; show (tkK _ _).1 = _; rw [← this]; omega
  have e7 : rS7 (tC (G.2.1 (F (F a 0) 0)) ((G.1 (F a 0) 1).toInt)) = tkA (tC (G.2.1 (F (F a 0) 0)) ((G.1 (F a 0) 1).toInt)) (rS6 (tC (G.2.1 (F (F a 0) 0)) ((G.1 (F a 0) 1).toInt))).2 := if_pos (by rw [k19]; omega)
  rw [e7]
  exact oq143
theorem v_X5_read_112_23 {F : Nat → Nat → Nat} (G : XG) (a : Nat) (G_80 : XG)
    (rd4 : RdI (tC (G.2.1 (F (F a 0) 0)) ((G.1 (F a 0) 1).toInt)) (G.1 (F a 0) 1).toInt (rS4 (tC (G.2.1 (F (F a 0) 0)) ((G.1 (F a 0) 1).toInt))).2 ((G_80.1 a 1).toInt) ((G_80.1 a 2).toInt) ((G_80.1 a 3).toInt) ((G_80.1 a 4).toInt) ((G_80.1 a 5).toInt))
    (c_G_80_F_F_a_0_0 : G_80.2.1 (F (F a 0) 0) = G.2.1 (F (F a 0) 0))
    (d_G_80_F_a_0_1 : G_80.1 (F a 0) 1 = G.1 (F a 0) 1) :
    RdI (tC (G_80.2.1 (F (F a 0) 0)) ((G_80.1 (F a 0) 1).toInt)) ((G_80.1 (F a 0) 1).toInt) ((rS4 (tC (G.2.1 (F (F a 0) 0)) ((G.1 (F a 0) 1).toInt))).2) ((G_80.1 a 1).toInt) ((G_80.1 a 2).toInt) ((G_80.1 a 3).toInt) ((G_80.1 a 4).toInt) ((G_80.1 a 5).toInt) := by
  (try rw [c_G_80_F_F_a_0_0])
  (try rw [d_G_80_F_a_0_1])
  (try rw [d_G_80_a_1])
  (try rw [d_G_80_a_2])
  (try rw [d_G_80_a_3])
  (try rw [d_G_80_a_4])
  (try rw [d_G_80_a_5])
  exact rd4
theorem v_X5_read_127_24 {F : Nat → Nat → Nat} (x19 : Int32) (G : XG) (a : Nat) (G112 : XG) (G22 : XG) (q14 : Nat) (G115 : XG)
    (oq19 : x19.toInt = (tkK (tC (G.2.1 (F (F a 0) 0)) ((G.1 (F a 0) 1).toInt)) (1, rn cBl (tC (G.2.1 (F (F a 0) 0)) ((G.1 (F a 0) 1).toInt)) 0)).1)
    (oq112a : RdI (tC (G.2.1 (F (F a 0) 0)) ((G.1 (F a 0) 1).toInt)) ((G.1 (F a 0) 1).toInt) (tkN (tC (G.2.1 (F (F a 0) 0)) ((G.1 (F a 0) 1).toInt)) (-9999 : Int) (9999 : Int) ((rS4 (tC (G.2.1 (F (F a 0) 0)) ((G.1 (F a 0) 1).toInt))).2)).2 ((G112.1 a 1).toInt) ((G112.1 a 2).toInt) ((G112.1 a 3).toInt) ((G112.1 a 4).toInt) ((G112.1 a 5).toInt))
    (t19 : 0 ≤ x19.toInt ∧ x19.toInt ≤ 5)
    (t22 : ((G22.1 q14 0).toInt) = x19.toInt ∧ ((G22.1 q14 1).toInt) = -1 ∧ ((G22.1 q14 4).toInt) = -1 ∧ ((G22.1 q14 7).toInt) = 0)
    (I104_0 : ((G22.1 q14 0).toInt) = 2 ∨ ((G22.1 q14 0).toInt) = 3 ∨ ((G22.1 q14 0).toInt) = 4)
    (c_G115_F_F_a_0_0 : G115.2.1 (F (F a 0) 0) = G.2.1 (F (F a 0) 0))
    (d_G115_F_a_0_1 : G115.1 (F a 0) 1 = G.1 (F a 0) 1)
    (d_G115_a_1 : G115.1 a 1 = G112.1 a 1)
    (d_G115_a_2 : G115.1 a 2 = G112.1 a 2)
    (d_G115_a_3 : G115.1 a 3 = G112.1 a 3)
    (d_G115_a_4 : G115.1 a 4 = G112.1 a 4)
    (d_G115_a_5 : G115.1 a 5 = G112.1 a 5) :
    RdI (tC (G115.2.1 (F (F a 0) 0)) ((G115.1 (F a 0) 1).toInt)) ((G115.1 (F a 0) 1).toInt) ((rS5 (tC (G.2.1 (F (F a 0) 0)) ((G.1 (F a 0) 1).toInt))).2) ((G115.1 a 1).toInt) ((G115.1 a 2).toInt) ((G115.1 a 3).toInt) ((G115.1 a 4).toInt) ((G115.1 a 5).toInt) := by
  have k19 : (rS1 (tC (G.2.1 (F (F a 0) 0)) ((G.1 (F a 0) 1).toInt))).1 = (G22.1 q14 0).toInt := by have := oq19; show (tkK _ _).1 = _; rw [← this]; omega
  have e5 : rS5 (tC (G.2.1 (F (F a 0) 0)) ((G.1 (F a 0) 1).toInt)) = tkN (tC (G.2.1 (F (F a 0) 0)) ((G.1 (F a 0) 1).toInt)) (-9999) 9999 (rS4 (tC (G.2.1 (F (F a 0) 0)) ((G.1 (F a 0) 1).toInt))).2 := if_pos (by rw [k19]; omega)
  (try rw [c_G115_F_F_a_0_0])
  (try rw [d_G115_F_a_0_1])
  (try rw [d_G115_a_1])
  (try rw [d_G115_a_2])
  (try rw [d_G115_a_3])
  (try rw [d_G115_a_4])
  (try rw [d_G115_a_5])
  rw [e5]
  exact oq112a
theorem v_X5_read_130_25 {F : Nat → Nat → Nat} (x19 : Int32) (G : XG) (a : Nat) (x112 : Int32) (G127 : XG) (G22 : XG) (q14 : Nat)
    (oq19 : x19.toInt = (tkK (tC (G.2.1 (F (F a 0) 0)) ((G.1 (F a 0) 1).toInt)) (1, rn cBl (tC (G.2.1 (F (F a 0) 0)) ((G.1 (F a 0) 1).toInt)) 0)).1)
    (oq112 : x112.toInt = (tkN (tC (G.2.1 (F (F a 0) 0)) ((G.1 (F a 0) 1).toInt)) (-9999 : Int) (9999 : Int) ((rS4 (tC (G.2.1 (F (F a 0) 0)) ((G.1 (F a 0) 1).toInt))).2)).1)
    (oq127a : RdI (tC (G.2.1 (F (F a 0) 0)) ((G.1 (F a 0) 1).toInt)) ((G.1 (F a 0) 1).toInt) (tkN (tC (G.2.1 (F (F a 0) 0)) ((G.1 (F a 0) 1).toInt)) x112.toInt (9999 : Int) ((rS5 (tC (G.2.1 (F (F a 0) 0)) ((G.1 (F a 0) 1).toInt))).2)).2 ((G127.1 a 1).toInt) ((G127.1 a 2).toInt) ((G127.1 a 3).toInt) ((G127.1 a 4).toInt) ((G127.1 a 5).toInt))
    (t19 : 0 ≤ x19.toInt ∧ x19.toInt ≤ 5)
    (t22 : ((G22.1 q14 0).toInt) = x19.toInt ∧ ((G22.1 q14 1).toInt) = -1 ∧ ((G22.1 q14 4).toInt) = -1 ∧ ((G22.1 q14 7).toInt) = 0)
    (I104_0 : ((G22.1 q14 0).toInt) = 2 ∨ ((G22.1 q14 0).toInt) = 3 ∨ ((G22.1 q14 0).toInt) = 4) :
    RdI (tC (G.2.1 (F (F a 0) 0)) ((G.1 (F a 0) 1).toInt)) (G.1 (F a 0) 1).toInt (rS6 (tC (G.2.1 (F (F a 0) 0)) ((G.1 (F a 0) 1).toInt))).2 ((G127.1 a 1).toInt) ((G127.1 a 2).toInt) ((G127.1 a 3).toInt) ((G127.1 a 4).toInt) ((G127.1 a 5).toInt) := by
  have k19 : (rS1 (tC (G.2.1 (F (F a 0) 0)) ((G.1 (F a 0) 1).toInt))).1 = (G22.1 q14 0).toInt := by have := oq19; show (tkK _ _).1 = _; rw [← this]; omega
  have e5 : rS5 (tC (G.2.1 (F (F a 0) 0)) ((G.1 (F a 0) 1).toInt)) = tkN (tC (G.2.1 (F (F a 0) 0)) ((G.1 (F a 0) 1).toInt)) (-9999) 9999 (rS4 (tC (G.2.1 (F (F a 0) 0)) ((G.1 (F a 0) 1).toInt))).2 := if_pos (by rw [k19]; omega)
  have e6 : rS6 (tC (G.2.1 (F (F a 0) 0)) ((G.1 (F a 0) 1).toInt)) = tkN (tC (G.2.1 (F (F a 0) 0)) ((G.1 (F a 0) 1).toInt)) (rS5 (tC (G.2.1 (F (F a 0) 0)) ((G.1 (F a 0) 1).toInt))).1 9999 (rS5 (tC (G.2.1 (F (F a 0) 0)) ((G.1 (F a 0) 1).toInt))).2 := if_pos (by rw [k19]; omega)
  rw [e6]
  rw [show x112.toInt = (rS5 (tC (G.2.1 (F (F a 0) 0)) ((G.1 (F a 0) 1).toInt))).1 from by rw [e5]; exact oq112] at oq127a
  exact oq127a
theorem v_X5_read_130_26 {F : Nat → Nat → Nat} (x19 : Int32) (G : XG) (a : Nat) (x112 : Int32) (G22 : XG) (q14 : Nat)
    (oq19 : x19.toInt = (tkK (tC (G.2.1 (F (F a 0) 0)) ((G.1 (F a 0) 1).toInt)) (1, rn cBl (tC (G.2.1 (F (F a 0) 0)) ((G.1 (F a 0) 1).toInt)) 0)).1)
    (oq112 : x112.toInt = (tkN (tC (G.2.1 (F (F a 0) 0)) ((G.1 (F a 0) 1).toInt)) (-9999 : Int) (9999 : Int) ((rS4 (tC (G.2.1 (F (F a 0) 0)) ((G.1 (F a 0) 1).toInt))).2)).1)
    (t19 : 0 ≤ x19.toInt ∧ x19.toInt ≤ 5)
    (t22 : ((G22.1 q14 0).toInt) = x19.toInt ∧ ((G22.1 q14 1).toInt) = -1 ∧ ((G22.1 q14 4).toInt) = -1 ∧ ((G22.1 q14 7).toInt) = 0)
    (I104_0 : ((G22.1 q14 0).toInt) = 2 ∨ ((G22.1 q14 0).toInt) = 3 ∨ ((G22.1 q14 0).toInt) = 4) :
    x112.toInt = (rS5 (tC (G.2.1 (F (F a 0) 0)) ((G.1 (F a 0) 1).toInt))).1 := by
  have k19 : (rS1 (tC (G.2.1 (F (F a 0) 0)) ((G.1 (F a 0) 1).toInt))).1 = (G22.1 q14 0).toInt := by have := oq19; show (tkK _ _).1 = _; rw [← this]; omega
  have e5 : rS5 (tC (G.2.1 (F (F a 0) 0)) ((G.1 (F a 0) 1).toInt)) = tkN (tC (G.2.1 (F (F a 0) 0)) ((G.1 (F a 0) 1).toInt)) (-9999) 9999 (rS4 (tC (G.2.1 (F (F a 0) 0)) ((G.1 (F a 0) 1).toInt))).2 := if_pos (by rw [k19]; omega)
  rw [e5]
  exact oq112
theorem v_X5_read_130_27 {F : Nat → Nat → Nat} (x19 : Int32) (G : XG) (a : Nat) (x112 : Int32) (x127 : Int32) (G22 : XG) (q14 : Nat)
    (oq19 : x19.toInt = (tkK (tC (G.2.1 (F (F a 0) 0)) ((G.1 (F a 0) 1).toInt)) (1, rn cBl (tC (G.2.1 (F (F a 0) 0)) ((G.1 (F a 0) 1).toInt)) 0)).1)
    (oq112 : x112.toInt = (tkN (tC (G.2.1 (F (F a 0) 0)) ((G.1 (F a 0) 1).toInt)) (-9999 : Int) (9999 : Int) ((rS4 (tC (G.2.1 (F (F a 0) 0)) ((G.1 (F a 0) 1).toInt))).2)).1)
    (oq127 : x127.toInt = (tkN (tC (G.2.1 (F (F a 0) 0)) ((G.1 (F a 0) 1).toInt)) x112.toInt (9999 : Int) ((rS5 (tC (G.2.1 (F (F a 0) 0)) ((G.1 (F a 0) 1).toInt))).2)).1)
    (t19 : 0 ≤ x19.toInt ∧ x19.toInt ≤ 5)
    (t22 : ((G22.1 q14 0).toInt) = x19.toInt ∧ ((G22.1 q14 1).toInt) = -1 ∧ ((G22.1 q14 4).toInt) = -1 ∧ ((G22.1 q14 7).toInt) = 0)
    (I104_0 : ((G22.1 q14 0).toInt) = 2 ∨ ((G22.1 q14 0).toInt) = 3 ∨ ((G22.1 q14 0).toInt) = 4) :
    x127.toInt = (rS6 (tC (G.2.1 (F (F a 0) 0)) ((G.1 (F a 0) 1).toInt))).1 := by
  have k19 : (rS1 (tC (G.2.1 (F (F a 0) 0)) ((G.1 (F a 0) 1).toInt))).1 = (G22.1 q14 0).toInt := by have := oq19; show (tkK _ _).1 = _; rw [← this]; omega
  have e5 : rS5 (tC (G.2.1 (F (F a 0) 0)) ((G.1 (F a 0) 1).toInt)) = tkN (tC (G.2.1 (F (F a 0) 0)) ((G.1 (F a 0) 1).toInt)) (-9999) 9999 (rS4 (tC (G.2.1 (F (F a 0) 0)) ((G.1 (F a 0) 1).toInt))).2 := if_pos (by rw [k19]; omega)
  have e6 : rS6 (tC (G.2.1 (F (F a 0) 0)) ((G.1 (F a 0) 1).toInt)) = tkN (tC (G.2.1 (F (F a 0) 0)) ((G.1 (F a 0) 1).toInt)) (rS5 (tC (G.2.1 (F (F a 0) 0)) ((G.1 (F a 0) 1).toInt))).1 9999 (rS5 (tC (G.2.1 (F (F a 0) 0)) ((G.1 (F a 0) 1).toInt))).2 := if_pos (by rw [k19]; omega)
  rw [e6]
  rw [show x112.toInt = (rS5 (tC (G.2.1 (F (F a 0) 0)) ((G.1 (F a 0) 1).toInt))).1 from by rw [e5]; exact oq112] at oq127
  exact oq127
theorem v_X5_read_101_28 {F : Nat → Nat → Nat} (x19 : Int32) (G : XG) (a : Nat) (G_80 : XG) (G22 : XG) (q14 : Nat)
    (oq19 : x19.toInt = (tkK (tC (G.2.1 (F (F a 0) 0)) ((G.1 (F a 0) 1).toInt)) (1, rn cBl (tC (G.2.1 (F (F a 0) 0)) ((G.1 (F a 0) 1).toInt)) 0)).1)
    (rd4 : RdI (tC (G.2.1 (F (F a 0) 0)) ((G.1 (F a 0) 1).toInt)) (G.1 (F a 0) 1).toInt (rS4 (tC (G.2.1 (F (F a 0) 0)) ((G.1 (F a 0) 1).toInt))).2 ((G_80.1 a 1).toInt) ((G_80.1 a 2).toInt) ((G_80.1 a 3).toInt) ((G_80.1 a 4).toInt) ((G_80.1 a 5).toInt))
    (t19 : 0 ≤ x19.toInt ∧ x19.toInt ≤ 5)
    (t22 : ((G22.1 q14 0).toInt) = x19.toInt ∧ ((G22.1 q14 1).toInt) = -1 ∧ ((G22.1 q14 4).toInt) = -1 ∧ ((G22.1 q14 7).toInt) = 0)
    (c85 : ¬ (((G22.1 q14 0).toInt) = (2 : Int)))
    (c93 : ¬ (((G22.1 q14 0).toInt) = (3 : Int)))
    (c101 : ((G22.1 q14 0).toInt) ≠ (4 : Int)) :
    RdI (tC (G.2.1 (F (F a 0) 0)) ((G.1 (F a 0) 1).toInt)) (G.1 (F a 0) 1).toInt (rS6 (tC (G.2.1 (F (F a 0) 0)) ((G.1 (F a 0) 1).toInt))).2 ((G_80.1 a 1).toInt) ((G_80.1 a 2).toInt) ((G_80.1 a 3).toInt) ((G_80.1 a 4).toInt) ((G_80.1 a 5).toInt) := by
  have k19 : (rS1 (tC (G.2.1 (F (F a 0) 0)) ((G.1 (F a 0) 1).toInt))).1 = (G22.1 q14 0).toInt := by have := oq19; show (tkK _ _).1 = _; rw [← this]; omega
  have e5 : rS5 (tC (G.2.1 (F (F a 0) 0)) ((G.1 (F a 0) 1).toInt)) = (0, (rS4 (tC (G.2.1 (F (F a 0) 0)) ((G.1 (F a 0) 1).toInt))).2) := if_neg (by rw [k19]; omega)
  have e6 : rS6 (tC (G.2.1 (F (F a 0) 0)) ((G.1 (F a 0) 1).toInt)) = (0, (rS5 (tC (G.2.1 (F (F a 0) 0)) ((G.1 (F a 0) 1).toInt))).2) := if_neg (by rw [k19]; omega)
  rw [e6, e5]
  exact rd4
theorem v_X5_read_101_29 {F : Nat → Nat → Nat} (x19 : Int32) (G : XG) (a : Nat) (G14 : XG) (q14 : Nat) (G22 : XG)
    (oq19 : x19.toInt = (tkK (tC (G.2.1 (F (F a 0) 0)) ((G.1 (F a 0) 1).toInt)) (1, rn cBl (tC (G.2.1 (F (F a 0) 0)) ((G.1 (F a 0) 1).toInt)) 0)).1)
    (hn14 : ((G14.1 q14 5).toInt) = 0)
    (t19 : 0 ≤ x19.toInt ∧ x19.toInt ≤ 5)
    (t22 : ((G22.1 q14 0).toInt) = x19.toInt ∧ ((G22.1 q14 1).toInt) = -1 ∧ ((G22.1 q14 4).toInt) = -1 ∧ ((G22.1 q14 7).toInt) = 0)
    (c85 : ¬ (((G22.1 q14 0).toInt) = (2 : Int)))
    (c93 : ¬ (((G22.1 q14 0).toInt) = (3 : Int)))
    (c101 : ((G22.1 q14 0).toInt) ≠ (4 : Int)) :
    ((G14.1 q14 5).toInt) = (rS5 (tC (G.2.1 (F (F a 0) 0)) ((G.1 (F a 0) 1).toInt))).1 := by
  have k19 : (rS1 (tC (G.2.1 (F (F a 0) 0)) ((G.1 (F a 0) 1).toInt))).1 = (G22.1 q14 0).toInt := by have := oq19; show (tkK _ _).1 = _; rw [← this]; omega
  have e5 : rS5 (tC (G.2.1 (F (F a 0) 0)) ((G.1 (F a 0) 1).toInt)) = (0, (rS4 (tC (G.2.1 (F (F a 0) 0)) ((G.1 (F a 0) 1).toInt))).2) := if_neg (by rw [k19]; omega)
  rw [e5]
  show _ = (0 : Int)
  omega
theorem v_X5_read_101_30 {F : Nat → Nat → Nat} (x19 : Int32) (G : XG) (a : Nat) (G14 : XG) (q14 : Nat) (G22 : XG)
    (oq19 : x19.toInt = (tkK (tC (G.2.1 (F (F a 0) 0)) ((G.1 (F a 0) 1).toInt)) (1, rn cBl (tC (G.2.1 (F (F a 0) 0)) ((G.1 (F a 0) 1).toInt)) 0)).1)
    (hn14a : ((G14.1 q14 6).toInt) = 0)
    (t19 : 0 ≤ x19.toInt ∧ x19.toInt ≤ 5)
    (t22 : ((G22.1 q14 0).toInt) = x19.toInt ∧ ((G22.1 q14 1).toInt) = -1 ∧ ((G22.1 q14 4).toInt) = -1 ∧ ((G22.1 q14 7).toInt) = 0)
    (c85 : ¬ (((G22.1 q14 0).toInt) = (2 : Int)))
    (c93 : ¬ (((G22.1 q14 0).toInt) = (3 : Int)))
    (c101 : ((G22.1 q14 0).toInt) ≠ (4 : Int)) :
    ((G14.1 q14 6).toInt) = (rS6 (tC (G.2.1 (F (F a 0) 0)) ((G.1 (F a 0) 1).toInt))).1 := by
  have k19 : (rS1 (tC (G.2.1 (F (F a 0) 0)) ((G.1 (F a 0) 1).toInt))).1 = (G22.1 q14 0).toInt := by have := oq19; show (tkK _ _).1 = _; rw [← this]; omega
  have e5 : rS5 (tC (G.2.1 (F (F a 0) 0)) ((G.1 (F a 0) 1).toInt)) = (0, (rS4 (tC (G.2.1 (F (F a 0) 0)) ((G.1 (F a 0) 1).toInt))).2) := if_neg (by rw [k19]; omega)
  have e6 : rS6 (tC (G.2.1 (F (F a 0) 0)) ((G.1 (F a 0) 1).toInt)) = (0, (rS5 (tC (G.2.1 (F (F a 0) 0)) ((G.1 (F a 0) 1).toInt))).2) := if_neg (by rw [k19]; omega)
  rw [e6]
  show _ = (0 : Int)
  omega
theorem v_X5_read_74_31 {F : Nat → Nat → Nat} (G : XG) (a : Nat) (G40 : XG) (G43 : XG)
    (oq40a : RdI (tC (G.2.1 (F (F a 0) 0)) ((G.1 (F a 0) 1).toInt)) ((G.1 (F a 0) 1).toInt) (tkN (tC (G.2.1 (F (F a 0) 0)) ((G.1 (F a 0) 1).toInt)) (0 : Int) (2 : Int) ((rS2 (tC (G.2.1 (F (F a 0) 0)) ((G.1 (F a 0) 1).toInt))).2)).2 ((G40.1 a 1).toInt) ((G40.1 a 2).toInt) ((G40.1 a 3).toInt) ((G40.1 a 4).toInt) ((G40.1 a 5).toInt))
    (c_G43_F_F_a_0_0 : G43.2.1 (F (F a 0) 0) = G.2.1 (F (F a 0) 0))
    (d_G43_F_a_0_1 : G43.1 (F a 0) 1 = G.1 (F a 0) 1)
    (d_G43_a_1 : G43.1 a 1 = G40.1 a 1)
    (d_G43_a_2 : G43.1 a 2 = G40.1 a 2)
    (d_G43_a_3 : G43.1 a 3 = G40.1 a 3)
    (d_G43_a_4 : G43.1 a 4 = G40.1 a 4)
    (d_G43_a_5 : G43.1 a 5 = G40.1 a 5) :
    RdI (tC (G43.2.1 (F (F a 0) 0)) ((G43.1 (F a 0) 1).toInt)) ((G43.1 (F a 0) 1).toInt) ((rS3 (tC (G.2.1 (F (F a 0) 0)) ((G.1 (F a 0) 1).toInt))).2) ((G43.1 a 1).toInt) ((G43.1 a 2).toInt) ((G43.1 a 3).toInt) ((G43.1 a 4).toInt) ((G43.1 a 5).toInt) := by
  (try rw [c_G43_F_F_a_0_0])
  (try rw [d_G43_F_a_0_1])
  (try rw [d_G43_a_1])
  (try rw [d_G43_a_2])
  (try rw [d_G43_a_3])
  (try rw [d_G43_a_4])
  (try rw [d_G43_a_5])
  exact oq40a
theorem v_X5_read_77_32 {F : Nat → Nat → Nat} (x19 : Int32) (G : XG) (a : Nat) (G74 : XG) (G22 : XG) (q14 : Nat)
    (oq19 : x19.toInt = (tkK (tC (G.2.1 (F (F a 0) 0)) ((G.1 (F a 0) 1).toInt)) (1, rn cBl (tC (G.2.1 (F (F a 0) 0)) ((G.1 (F a 0) 1).toInt)) 0)).1)
    (oq74a : RdI (tC (G.2.1 (F (F a 0) 0)) ((G.1 (F a 0) 1).toInt)) ((G.1 (F a 0) 1).toInt) (tkN (tC (G.2.1 (F (F a 0) 0)) ((G.1 (F a 0) 1).toInt)) (0 : Int) (2 : Int) ((rS3 (tC (G.2.1 (F (F a 0) 0)) ((G.1 (F a 0) 1).toInt))).2)).2 ((G74.1 a 1).toInt) ((G74.1 a 2).toInt) ((G74.1 a 3).toInt) ((G74.1 a 4).toInt) ((G74.1 a 5).toInt))
    (t19 : 0 ≤ x19.toInt ∧ x19.toInt ≤ 5)
    (t22 : ((G22.1 q14 0).toInt) = x19.toInt ∧ ((G22.1 q14 1).toInt) = -1 ∧ ((G22.1 q14 4).toInt) = -1 ∧ ((G22.1 q14 7).toInt) = 0)
    (I70_0 : ((G22.1 q14 0).toInt) = 1 ∨ ((G22.1 q14 0).toInt) = 3 ∨ ((G22.1 q14 0).toInt) = 4) :
    RdI (tC (G.2.1 (F (F a 0) 0)) ((G.1 (F a 0) 1).toInt)) (G.1 (F a 0) 1).toInt (rS4 (tC (G.2.1 (F (F a 0) 0)) ((G.1 (F a 0) 1).toInt))).2 ((G74.1 a 1).toInt) ((G74.1 a 2).toInt) ((G74.1 a 3).toInt) ((G74.1 a 4).toInt) ((G74.1 a 5).toInt) := by
  have k19 : (rS1 (tC (G.2.1 (F (F a 0) 0)) ((G.1 (F a 0) 1).toInt))).1 = (G22.1 q14 0).toInt := by have := oq19; show (tkK _ _).1 = _; rw [← this]; omega
  have e4 : rS4 (tC (G.2.1 (F (F a 0) 0)) ((G.1 (F a 0) 1).toInt)) = tkN (tC (G.2.1 (F (F a 0) 0)) ((G.1 (F a 0) 1).toInt)) 0 2 (rS3 (tC (G.2.1 (F (F a 0) 0)) ((G.1 (F a 0) 1).toInt))).2 := if_pos (by rw [k19]; omega)
  rw [e4]
  exact oq74a
theorem v_X5_read_77_33 {F : Nat → Nat → Nat} (x19 : Int32) (G : XG) (a : Nat) (x74 : Int32) (G22 : XG) (q14 : Nat)
    (oq19 : x19.toInt = (tkK (tC (G.2.1 (F (F a 0) 0)) ((G.1 (F a 0) 1).toInt)) (1, rn cBl (tC (G.2.1 (F (F a 0) 0)) ((G.1 (F a 0) 1).toInt)) 0)).1)
    (oq74 : x74.toInt = (tkN (tC (G.2.1 (F (F a 0) 0)) ((G.1 (F a 0) 1).toInt)) (0 : Int) (2 : Int) ((rS3 (tC (G.2.1 (F (F a 0) 0)) ((G.1 (F a 0) 1).toInt))).2)).1)
    (t19 : 0 ≤ x19.toInt ∧ x19.toInt ≤ 5)
    (t22 : ((G22.1 q14 0).toInt) = x19.toInt ∧ ((G22.1 q14 1).toInt) = -1 ∧ ((G22.1 q14 4).toInt) = -1 ∧ ((G22.1 q14 7).toInt) = 0)
    (I70_0 : ((G22.1 q14 0).toInt) = 1 ∨ ((G22.1 q14 0).toInt) = 3 ∨ ((G22.1 q14 0).toInt) = 4) :
    x74.toInt = (rS4 (tC (G.2.1 (F (F a 0) 0)) ((G.1 (F a 0) 1).toInt))).1 := by
  have k19 : (rS1 (tC (G.2.1 (F (F a 0) 0)) ((G.1 (F a 0) 1).toInt))).1 = (G22.1 q14 0).toInt := by have := oq19; show (tkK _ _).1 = _; rw [← this]; omega
  have e4 : rS4 (tC (G.2.1 (F (F a 0) 0)) ((G.1 (F a 0) 1).toInt)) = tkN (tC (G.2.1 (F (F a 0) 0)) ((G.1 (F a 0) 1).toInt)) 0 2 (rS3 (tC (G.2.1 (F (F a 0) 0)) ((G.1 (F a 0) 1).toInt))).2 := if_pos (by rw [k19]; omega)
  rw [e4]
  exact oq74
theorem v_X5_read_67_34 {F : Nat → Nat → Nat} (x19 : Int32) (G : XG) (a : Nat) (G40 : XG) (G22 : XG) (q14 : Nat)
    (oq19 : x19.toInt = (tkK (tC (G.2.1 (F (F a 0) 0)) ((G.1 (F a 0) 1).toInt)) (1, rn cBl (tC (G.2.1 (F (F a 0) 0)) ((G.1 (F a 0) 1).toInt)) 0)).1)
    (oq40a : RdI (tC (G.2.1 (F (F a 0) 0)) ((G.1 (F a 0) 1).toInt)) ((G.1 (F a 0) 1).toInt) (tkN (tC (G.2.1 (F (F a 0) 0)) ((G.1 (F a 0) 1).toInt)) (0 : Int) (2 : Int) ((rS2 (tC (G.2.1 (F (F a 0) 0)) ((G.1 (F a 0) 1).toInt))).2)).2 ((G40.1 a 1).toInt) ((G40.1 a 2).toInt) ((G40.1 a 3).toInt) ((G40.1 a 4).toInt) ((G40.1 a 5).toInt))
    (t19 : 0 ≤ x19.toInt ∧ x19.toInt ≤ 5)
    (t22 : ((G22.1 q14 0).toInt) = x19.toInt ∧ ((G22.1 q14 1).toInt) = -1 ∧ ((G22.1 q14 4).toInt) = -1 ∧ ((G22.1 q14 7).toInt) = 0)
    (c51 : ¬ (((G22.1 q14 0).toInt) = (1 : Int)))
    (c59 : ¬ (((G22.1 q14 0).toInt) = (3 : Int)))
    (c67 : ((G22.1 q14 0).toInt) ≠ (4 : Int)) :
    RdI (tC (G.2.1 (F (F a 0) 0)) ((G.1 (F a 0) 1).toInt)) (G.1 (F a 0) 1).toInt (rS4 (tC (G.2.1 (F (F a 0) 0)) ((G.1 (F a 0) 1).toInt))).2 ((G40.1 a 1).toInt) ((G40.1 a 2).toInt) ((G40.1 a 3).toInt) ((G40.1 a 4).toInt) ((G40.1 a 5).toInt) := by
  have k19 : (rS1 (tC (G.2.1 (F (F a 0) 0)) ((G.1 (F a 0) 1).toInt))).1 = (G22.1 q14 0).toInt := by have := oq19; show (tkK _ _).1 = _; rw [← this]; omega
  have e4 : rS4 (tC (G.2.1 (F (F a 0) 0)) ((G.1 (F a 0) 1).toInt)) = (-1, (rS3 (tC (G.2.1 (F (F a 0) 0)) ((G.1 (F a 0) 1).toInt))).2) := if_neg (by rw [k19]; omega)
  rw [e4]
  exact oq40a
theorem v_X5_read_67_35 {F : Nat → Nat → Nat} (x19 : Int32) (G : XG) (a : Nat) (G22 : XG) (q14 : Nat)
    (oq19 : x19.toInt = (tkK (tC (G.2.1 (F (F a 0) 0)) ((G.1 (F a 0) 1).toInt)) (1, rn cBl (tC (G.2.1 (F (F a 0) 0)) ((G.1 (F a 0) 1).toInt)) 0)).1)
    (t19 : 0 ≤ x19.toInt ∧ x19.toInt ≤ 5)
    (t22 : ((G22.1 q14 0).toInt) = x19.toInt ∧ ((G22.1 q14 1).toInt) = -1 ∧ ((G22.1 q14 4).toInt) = -1 ∧ ((G22.1 q14 7).toInt) = 0)
    (c51 : ¬ (((G22.1 q14 0).toInt) = (1 : Int)))
    (c59 : ¬ (((G22.1 q14 0).toInt) = (3 : Int)))
    (c67 : ((G22.1 q14 0).toInt) ≠ (4 : Int)) :
    ((G22.1 q14 4).toInt) = (rS4 (tC (G.2.1 (F (F a 0) 0)) ((G.1 (F a 0) 1).toInt))).1 := by
  have k19 : (rS1 (tC (G.2.1 (F (F a 0) 0)) ((G.1 (F a 0) 1).toInt))).1 = (G22.1 q14 0).toInt := by have := oq19; show (tkK _ _).1 = _; rw [← this]; omega
  have e4 : rS4 (tC (G.2.1 (F (F a 0) 0)) ((G.1 (F a 0) 1).toInt)) = (-1, (rS3 (tC (G.2.1 (F (F a 0) 0)) ((G.1 (F a 0) 1).toInt))).2) := if_neg (by rw [k19]; omega)
  rw [e4]
  show _ = (-1 : Int)
  omega
