/-! ===== decoding by bytes: a method's code is read once, window by window ===== -/
def dkL : List UInt8 → List Nat → Bool
  | _, [] => true
  | [], _ :: _ => false
  | b :: l, x :: m => decide (b.toNat = x) && dkL l m
def dkW (c : ByteArray) (p : Nat) (m : List Nat) : Bool := dkL (c.data.toList.drop p) m
theorem dk_u1 {c : ByteArray} {p : Nat} (hp : p < c.size) : (Reader.u1 : Decoder Nat) c p = .ok (c[p].toNat, p + 1) := by
  have e : (Reader.u1 : Decoder Nat) c p = (dite (p < c.size) (fun h => (do set (p + 1); pure (c[p]'h).toNat : Decoder Nat)) (fun _ => throw (HasTruncated.truncated p))) c p := rfl
  rw [dif_pos hp] at e
  exact e
theorem dk_1 {c : ByteArray} {p x : Nat} {m : List Nat} (h : dkW c p (x :: m) = true) : (Reader.u1 : Decoder Nat) c p = .ok (x, p + 1) ∧ dkW c (p + 1) m = true := by
  unfold dkW at h ⊢
  by_cases hp : p < c.data.toList.length
  · rw [List.drop_eq_getElem_cons hp] at h
    have h : (decide (c.data.toList[p].toNat = x) && dkL (c.data.toList.drop (p + 1)) m) = true := h
    have h := Bool.and_eq_true_iff.mp h
    have hs : p < c.size := hp
    refine ⟨?_, h.2⟩
    rw [dk_u1 hs]
    exact congrArg (fun y => Except.ok (y, p + 1)) (of_decide_eq_true h.1)
  · rw [List.drop_eq_nil_of_le (Nat.le_of_not_lt hp)] at h
    cases h
theorem dk_l : ∀ (n : Nat) (l : List UInt8) (m : List Nat), dkL l m = true → dkL (l.drop n) (m.drop n) = true
  | 0, l, m, h => h
  | n + 1, l, [], h => by
    rw [List.drop_nil]
    cases l.drop (n + 1) <;> rfl
  | n + 1, [], x :: m, h => by cases h
  | n + 1, b :: l, x :: m, h => by
    have h : (decide (b.toNat = x) && dkL l m) = true := h
    exact dk_l n l m (Bool.and_eq_true_iff.mp h).2
theorem dk_a {c : ByteArray} {p : Nat} {m : List Nat} (n : Nat) (h : dkW c p m = true) : dkW c (p + n) (m.drop n) = true := by
  have q := dk_l n _ _ h
  rw [List.drop_drop] at q
  exact q
theorem dk_t {c : ByteArray} {p : Nat} {m : List Nat} (n q : Nat) (r : List Nat) (h : dkW c p m = true) (hq : p + n = q) (hr : m.drop n = r) : dkW c q r = true := by
  rw [← hq, ← hr]
  exact dk_a n h
theorem dk_b {α β : Type} {x : Decoder α} {f : α → Decoder β} {c : ByteArray} {p q : Nat} {v : α} (h : x c p = .ok (v, q)) : (bind x f : Decoder β) c p = f v c q := by
  show Except.bind (x c p) _ = _
  rw [h]
  rfl
theorem dk_m {α β : Type} {x : Decoder α} {f : α → β} {c : ByteArray} {p q : Nat} {v : α} (h : x c p = .ok (v, q)) : (f <$> x : Decoder β) c p = .ok (f v, q) := by
  first
    | (show Except.bind (x c p) _ = _
       rw [h]
       rfl)
    | (show Except.map _ (x c p) = _
       rw [h]
       rfl)
theorem dk_d {c : ByteArray} {p q : Nat} {x : Instr} (h : Decoder.instr p c p = .ok (x, q)) : decode c p = .ok (x, q - p) := by
  show Except.bind (Decoder.instr p c p) _ = _
  rw [h]
  rfl
theorem dk_u2 {c : ByteArray} {p a b : Nat} (h1 : (Reader.u1 : Decoder Nat) c p = .ok (a, p + 1)) (h2 : (Reader.u1 : Decoder Nat) c (p + 1) = .ok (b, p + 1 + 1)) : (Reader.u2 : Decoder Nat) c p = .ok (a * 256 + b, p + 1 + 1) := by
  have e1 : (Reader.u2 : Decoder Nat) c p = _ := dk_b h1
  have e2 : (Reader.u2 : Decoder Nat) c p = (bind (Reader.u1 : Decoder Nat) (fun lo => pure (a * 256 + lo)) : Decoder Nat) c (p + 1) := e1
  exact e2.trans (dk_b h2)
theorem dk_s1 {c : ByteArray} {p a q : Nat} (h1 : (Reader.u1 : Decoder Nat) c p = .ok (a, q)) : (Reader.s1 : Decoder Int) c p = .ok (Reader.signed 8 a, q) := dk_m h1
theorem dk_s2 {c : ByteArray} {p a q : Nat} (h1 : (Reader.u2 : Decoder Nat) c p = .ok (a, q)) : (Reader.s2 : Decoder Int) c p = .ok (Reader.signed 16 a, q) := dk_m h1
theorem dko_1 {c : ByteArray} {p : Nat} {m : List Nat} (h : dkW c p (1 :: m) = true) : decode c p = .ok (Instr.aconst_null, 1) := by
  obtain ⟨h1, h⟩ := dk_1 h
  have e1 : Decoder.instr p c p = _ := dk_b h1
  have e9 : Decoder.instr p c p = (pure (Instr.aconst_null) : Decoder Instr) c (p + 1) := e1
  have e := dk_d (x := Instr.aconst_null) (q := p + 1) e9
  rw [show p + 1 - p = 1 by omega] at e
  exact e
theorem dko_2 {c : ByteArray} {p : Nat} {m : List Nat} (h : dkW c p (2 :: m) = true) : decode c p = .ok (Instr.iconst (-1), 1) := by
  obtain ⟨h1, h⟩ := dk_1 h
  have e1 : Decoder.instr p c p = _ := dk_b h1
  have e9 : Decoder.instr p c p = (pure (Instr.iconst (-1)) : Decoder Instr) c (p + 1) := e1
  have e := dk_d (x := Instr.iconst (-1)) (q := p + 1) e9
  rw [show p + 1 - p = 1 by omega] at e
  exact e
theorem dko_3 {c : ByteArray} {p : Nat} {m : List Nat} (h : dkW c p (3 :: m) = true) : decode c p = .ok (Instr.iconst 0, 1) := by
  obtain ⟨h1, h⟩ := dk_1 h
  have e1 : Decoder.instr p c p = _ := dk_b h1
  have e9 : Decoder.instr p c p = (pure (Instr.iconst 0) : Decoder Instr) c (p + 1) := e1
  have e := dk_d (x := Instr.iconst 0) (q := p + 1) e9
  rw [show p + 1 - p = 1 by omega] at e
  exact e
theorem dko_4 {c : ByteArray} {p : Nat} {m : List Nat} (h : dkW c p (4 :: m) = true) : decode c p = .ok (Instr.iconst 1, 1) := by
  obtain ⟨h1, h⟩ := dk_1 h
  have e1 : Decoder.instr p c p = _ := dk_b h1
  have e9 : Decoder.instr p c p = (pure (Instr.iconst 1) : Decoder Instr) c (p + 1) := e1
  have e := dk_d (x := Instr.iconst 1) (q := p + 1) e9
  rw [show p + 1 - p = 1 by omega] at e
  exact e
theorem dko_5 {c : ByteArray} {p : Nat} {m : List Nat} (h : dkW c p (5 :: m) = true) : decode c p = .ok (Instr.iconst 2, 1) := by
  obtain ⟨h1, h⟩ := dk_1 h
  have e1 : Decoder.instr p c p = _ := dk_b h1
  have e9 : Decoder.instr p c p = (pure (Instr.iconst 2) : Decoder Instr) c (p + 1) := e1
  have e := dk_d (x := Instr.iconst 2) (q := p + 1) e9
  rw [show p + 1 - p = 1 by omega] at e
  exact e
theorem dko_6 {c : ByteArray} {p : Nat} {m : List Nat} (h : dkW c p (6 :: m) = true) : decode c p = .ok (Instr.iconst 3, 1) := by
  obtain ⟨h1, h⟩ := dk_1 h
  have e1 : Decoder.instr p c p = _ := dk_b h1
  have e9 : Decoder.instr p c p = (pure (Instr.iconst 3) : Decoder Instr) c (p + 1) := e1
  have e := dk_d (x := Instr.iconst 3) (q := p + 1) e9
  rw [show p + 1 - p = 1 by omega] at e
  exact e
theorem dko_7 {c : ByteArray} {p : Nat} {m : List Nat} (h : dkW c p (7 :: m) = true) : decode c p = .ok (Instr.iconst 4, 1) := by
  obtain ⟨h1, h⟩ := dk_1 h
  have e1 : Decoder.instr p c p = _ := dk_b h1
  have e9 : Decoder.instr p c p = (pure (Instr.iconst 4) : Decoder Instr) c (p + 1) := e1
  have e := dk_d (x := Instr.iconst 4) (q := p + 1) e9
  rw [show p + 1 - p = 1 by omega] at e
  exact e
theorem dko_8 {c : ByteArray} {p : Nat} {m : List Nat} (h : dkW c p (8 :: m) = true) : decode c p = .ok (Instr.iconst 5, 1) := by
  obtain ⟨h1, h⟩ := dk_1 h
  have e1 : Decoder.instr p c p = _ := dk_b h1
  have e9 : Decoder.instr p c p = (pure (Instr.iconst 5) : Decoder Instr) c (p + 1) := e1
  have e := dk_d (x := Instr.iconst 5) (q := p + 1) e9
  rw [show p + 1 - p = 1 by omega] at e
  exact e
theorem dko_9 {c : ByteArray} {p : Nat} {m : List Nat} (h : dkW c p (9 :: m) = true) : decode c p = .ok (Instr.lconst 0, 1) := by
  obtain ⟨h1, h⟩ := dk_1 h
  have e1 : Decoder.instr p c p = _ := dk_b h1
  have e9 : Decoder.instr p c p = (pure (Instr.lconst 0) : Decoder Instr) c (p + 1) := e1
  have e := dk_d (x := Instr.lconst 0) (q := p + 1) e9
  rw [show p + 1 - p = 1 by omega] at e
  exact e
theorem dko_10 {c : ByteArray} {p : Nat} {m : List Nat} (h : dkW c p (10 :: m) = true) : decode c p = .ok (Instr.lconst 1, 1) := by
  obtain ⟨h1, h⟩ := dk_1 h
  have e1 : Decoder.instr p c p = _ := dk_b h1
  have e9 : Decoder.instr p c p = (pure (Instr.lconst 1) : Decoder Instr) c (p + 1) := e1
  have e := dk_d (x := Instr.lconst 1) (q := p + 1) e9
  rw [show p + 1 - p = 1 by omega] at e
  exact e
theorem dko_26 {c : ByteArray} {p : Nat} {m : List Nat} (h : dkW c p (26 :: m) = true) : decode c p = .ok (Instr.iload_n 0, 1) := by
  obtain ⟨h1, h⟩ := dk_1 h
  have e1 : Decoder.instr p c p = _ := dk_b h1
  have e9 : Decoder.instr p c p = (pure (Instr.iload_n 0) : Decoder Instr) c (p + 1) := e1
  have e := dk_d (x := Instr.iload_n 0) (q := p + 1) e9
  rw [show p + 1 - p = 1 by omega] at e
  exact e
theorem dko_27 {c : ByteArray} {p : Nat} {m : List Nat} (h : dkW c p (27 :: m) = true) : decode c p = .ok (Instr.iload_n 1, 1) := by
  obtain ⟨h1, h⟩ := dk_1 h
  have e1 : Decoder.instr p c p = _ := dk_b h1
  have e9 : Decoder.instr p c p = (pure (Instr.iload_n 1) : Decoder Instr) c (p + 1) := e1
  have e := dk_d (x := Instr.iload_n 1) (q := p + 1) e9
  rw [show p + 1 - p = 1 by omega] at e
  exact e
theorem dko_28 {c : ByteArray} {p : Nat} {m : List Nat} (h : dkW c p (28 :: m) = true) : decode c p = .ok (Instr.iload_n 2, 1) := by
  obtain ⟨h1, h⟩ := dk_1 h
  have e1 : Decoder.instr p c p = _ := dk_b h1
  have e9 : Decoder.instr p c p = (pure (Instr.iload_n 2) : Decoder Instr) c (p + 1) := e1
  have e := dk_d (x := Instr.iload_n 2) (q := p + 1) e9
  rw [show p + 1 - p = 1 by omega] at e
  exact e
theorem dko_29 {c : ByteArray} {p : Nat} {m : List Nat} (h : dkW c p (29 :: m) = true) : decode c p = .ok (Instr.iload_n 3, 1) := by
  obtain ⟨h1, h⟩ := dk_1 h
  have e1 : Decoder.instr p c p = _ := dk_b h1
  have e9 : Decoder.instr p c p = (pure (Instr.iload_n 3) : Decoder Instr) c (p + 1) := e1
  have e := dk_d (x := Instr.iload_n 3) (q := p + 1) e9
  rw [show p + 1 - p = 1 by omega] at e
  exact e
theorem dko_30 {c : ByteArray} {p : Nat} {m : List Nat} (h : dkW c p (30 :: m) = true) : decode c p = .ok (Instr.lload_n 0, 1) := by
  obtain ⟨h1, h⟩ := dk_1 h
  have e1 : Decoder.instr p c p = _ := dk_b h1
  have e9 : Decoder.instr p c p = (pure (Instr.lload_n 0) : Decoder Instr) c (p + 1) := e1
  have e := dk_d (x := Instr.lload_n 0) (q := p + 1) e9
  rw [show p + 1 - p = 1 by omega] at e
  exact e
theorem dko_31 {c : ByteArray} {p : Nat} {m : List Nat} (h : dkW c p (31 :: m) = true) : decode c p = .ok (Instr.lload_n 1, 1) := by
  obtain ⟨h1, h⟩ := dk_1 h
  have e1 : Decoder.instr p c p = _ := dk_b h1
  have e9 : Decoder.instr p c p = (pure (Instr.lload_n 1) : Decoder Instr) c (p + 1) := e1
  have e := dk_d (x := Instr.lload_n 1) (q := p + 1) e9
  rw [show p + 1 - p = 1 by omega] at e
  exact e
theorem dko_32 {c : ByteArray} {p : Nat} {m : List Nat} (h : dkW c p (32 :: m) = true) : decode c p = .ok (Instr.lload_n 2, 1) := by
  obtain ⟨h1, h⟩ := dk_1 h
  have e1 : Decoder.instr p c p = _ := dk_b h1
  have e9 : Decoder.instr p c p = (pure (Instr.lload_n 2) : Decoder Instr) c (p + 1) := e1
  have e := dk_d (x := Instr.lload_n 2) (q := p + 1) e9
  rw [show p + 1 - p = 1 by omega] at e
  exact e
theorem dko_33 {c : ByteArray} {p : Nat} {m : List Nat} (h : dkW c p (33 :: m) = true) : decode c p = .ok (Instr.lload_n 3, 1) := by
  obtain ⟨h1, h⟩ := dk_1 h
  have e1 : Decoder.instr p c p = _ := dk_b h1
  have e9 : Decoder.instr p c p = (pure (Instr.lload_n 3) : Decoder Instr) c (p + 1) := e1
  have e := dk_d (x := Instr.lload_n 3) (q := p + 1) e9
  rw [show p + 1 - p = 1 by omega] at e
  exact e
theorem dko_42 {c : ByteArray} {p : Nat} {m : List Nat} (h : dkW c p (42 :: m) = true) : decode c p = .ok (Instr.aload_n 0, 1) := by
  obtain ⟨h1, h⟩ := dk_1 h
  have e1 : Decoder.instr p c p = _ := dk_b h1
  have e9 : Decoder.instr p c p = (pure (Instr.aload_n 0) : Decoder Instr) c (p + 1) := e1
  have e := dk_d (x := Instr.aload_n 0) (q := p + 1) e9
  rw [show p + 1 - p = 1 by omega] at e
  exact e
theorem dko_43 {c : ByteArray} {p : Nat} {m : List Nat} (h : dkW c p (43 :: m) = true) : decode c p = .ok (Instr.aload_n 1, 1) := by
  obtain ⟨h1, h⟩ := dk_1 h
  have e1 : Decoder.instr p c p = _ := dk_b h1
  have e9 : Decoder.instr p c p = (pure (Instr.aload_n 1) : Decoder Instr) c (p + 1) := e1
  have e := dk_d (x := Instr.aload_n 1) (q := p + 1) e9
  rw [show p + 1 - p = 1 by omega] at e
  exact e
theorem dko_44 {c : ByteArray} {p : Nat} {m : List Nat} (h : dkW c p (44 :: m) = true) : decode c p = .ok (Instr.aload_n 2, 1) := by
  obtain ⟨h1, h⟩ := dk_1 h
  have e1 : Decoder.instr p c p = _ := dk_b h1
  have e9 : Decoder.instr p c p = (pure (Instr.aload_n 2) : Decoder Instr) c (p + 1) := e1
  have e := dk_d (x := Instr.aload_n 2) (q := p + 1) e9
  rw [show p + 1 - p = 1 by omega] at e
  exact e
theorem dko_45 {c : ByteArray} {p : Nat} {m : List Nat} (h : dkW c p (45 :: m) = true) : decode c p = .ok (Instr.aload_n 3, 1) := by
  obtain ⟨h1, h⟩ := dk_1 h
  have e1 : Decoder.instr p c p = _ := dk_b h1
  have e9 : Decoder.instr p c p = (pure (Instr.aload_n 3) : Decoder Instr) c (p + 1) := e1
  have e := dk_d (x := Instr.aload_n 3) (q := p + 1) e9
  rw [show p + 1 - p = 1 by omega] at e
  exact e
theorem dko_46 {c : ByteArray} {p : Nat} {m : List Nat} (h : dkW c p (46 :: m) = true) : decode c p = .ok (Instr.iaload, 1) := by
  obtain ⟨h1, h⟩ := dk_1 h
  have e1 : Decoder.instr p c p = _ := dk_b h1
  have e9 : Decoder.instr p c p = (pure (Instr.iaload) : Decoder Instr) c (p + 1) := e1
  have e := dk_d (x := Instr.iaload) (q := p + 1) e9
  rw [show p + 1 - p = 1 by omega] at e
  exact e
theorem dko_47 {c : ByteArray} {p : Nat} {m : List Nat} (h : dkW c p (47 :: m) = true) : decode c p = .ok (Instr.laload, 1) := by
  obtain ⟨h1, h⟩ := dk_1 h
  have e1 : Decoder.instr p c p = _ := dk_b h1
  have e9 : Decoder.instr p c p = (pure (Instr.laload) : Decoder Instr) c (p + 1) := e1
  have e := dk_d (x := Instr.laload) (q := p + 1) e9
  rw [show p + 1 - p = 1 by omega] at e
  exact e
theorem dko_50 {c : ByteArray} {p : Nat} {m : List Nat} (h : dkW c p (50 :: m) = true) : decode c p = .ok (Instr.aaload, 1) := by
  obtain ⟨h1, h⟩ := dk_1 h
  have e1 : Decoder.instr p c p = _ := dk_b h1
  have e9 : Decoder.instr p c p = (pure (Instr.aaload) : Decoder Instr) c (p + 1) := e1
  have e := dk_d (x := Instr.aaload) (q := p + 1) e9
  rw [show p + 1 - p = 1 by omega] at e
  exact e
theorem dko_51 {c : ByteArray} {p : Nat} {m : List Nat} (h : dkW c p (51 :: m) = true) : decode c p = .ok (Instr.baload, 1) := by
  obtain ⟨h1, h⟩ := dk_1 h
  have e1 : Decoder.instr p c p = _ := dk_b h1
  have e9 : Decoder.instr p c p = (pure (Instr.baload) : Decoder Instr) c (p + 1) := e1
  have e := dk_d (x := Instr.baload) (q := p + 1) e9
  rw [show p + 1 - p = 1 by omega] at e
  exact e
theorem dko_52 {c : ByteArray} {p : Nat} {m : List Nat} (h : dkW c p (52 :: m) = true) : decode c p = .ok (Instr.caload, 1) := by
  obtain ⟨h1, h⟩ := dk_1 h
  have e1 : Decoder.instr p c p = _ := dk_b h1
  have e9 : Decoder.instr p c p = (pure (Instr.caload) : Decoder Instr) c (p + 1) := e1
  have e := dk_d (x := Instr.caload) (q := p + 1) e9
  rw [show p + 1 - p = 1 by omega] at e
  exact e
theorem dko_59 {c : ByteArray} {p : Nat} {m : List Nat} (h : dkW c p (59 :: m) = true) : decode c p = .ok (Instr.istore_n 0, 1) := by
  obtain ⟨h1, h⟩ := dk_1 h
  have e1 : Decoder.instr p c p = _ := dk_b h1
  have e9 : Decoder.instr p c p = (pure (Instr.istore_n 0) : Decoder Instr) c (p + 1) := e1
  have e := dk_d (x := Instr.istore_n 0) (q := p + 1) e9
  rw [show p + 1 - p = 1 by omega] at e
  exact e
theorem dko_60 {c : ByteArray} {p : Nat} {m : List Nat} (h : dkW c p (60 :: m) = true) : decode c p = .ok (Instr.istore_n 1, 1) := by
  obtain ⟨h1, h⟩ := dk_1 h
  have e1 : Decoder.instr p c p = _ := dk_b h1
  have e9 : Decoder.instr p c p = (pure (Instr.istore_n 1) : Decoder Instr) c (p + 1) := e1
  have e := dk_d (x := Instr.istore_n 1) (q := p + 1) e9
  rw [show p + 1 - p = 1 by omega] at e
  exact e
theorem dko_61 {c : ByteArray} {p : Nat} {m : List Nat} (h : dkW c p (61 :: m) = true) : decode c p = .ok (Instr.istore_n 2, 1) := by
  obtain ⟨h1, h⟩ := dk_1 h
  have e1 : Decoder.instr p c p = _ := dk_b h1
  have e9 : Decoder.instr p c p = (pure (Instr.istore_n 2) : Decoder Instr) c (p + 1) := e1
  have e := dk_d (x := Instr.istore_n 2) (q := p + 1) e9
  rw [show p + 1 - p = 1 by omega] at e
  exact e
theorem dko_62 {c : ByteArray} {p : Nat} {m : List Nat} (h : dkW c p (62 :: m) = true) : decode c p = .ok (Instr.istore_n 3, 1) := by
  obtain ⟨h1, h⟩ := dk_1 h
  have e1 : Decoder.instr p c p = _ := dk_b h1
  have e9 : Decoder.instr p c p = (pure (Instr.istore_n 3) : Decoder Instr) c (p + 1) := e1
  have e := dk_d (x := Instr.istore_n 3) (q := p + 1) e9
  rw [show p + 1 - p = 1 by omega] at e
  exact e
theorem dko_75 {c : ByteArray} {p : Nat} {m : List Nat} (h : dkW c p (75 :: m) = true) : decode c p = .ok (Instr.astore_n 0, 1) := by
  obtain ⟨h1, h⟩ := dk_1 h
  have e1 : Decoder.instr p c p = _ := dk_b h1
  have e9 : Decoder.instr p c p = (pure (Instr.astore_n 0) : Decoder Instr) c (p + 1) := e1
  have e := dk_d (x := Instr.astore_n 0) (q := p + 1) e9
  rw [show p + 1 - p = 1 by omega] at e
  exact e
theorem dko_76 {c : ByteArray} {p : Nat} {m : List Nat} (h : dkW c p (76 :: m) = true) : decode c p = .ok (Instr.astore_n 1, 1) := by
  obtain ⟨h1, h⟩ := dk_1 h
  have e1 : Decoder.instr p c p = _ := dk_b h1
  have e9 : Decoder.instr p c p = (pure (Instr.astore_n 1) : Decoder Instr) c (p + 1) := e1
  have e := dk_d (x := Instr.astore_n 1) (q := p + 1) e9
  rw [show p + 1 - p = 1 by omega] at e
  exact e
theorem dko_77 {c : ByteArray} {p : Nat} {m : List Nat} (h : dkW c p (77 :: m) = true) : decode c p = .ok (Instr.astore_n 2, 1) := by
  obtain ⟨h1, h⟩ := dk_1 h
  have e1 : Decoder.instr p c p = _ := dk_b h1
  have e9 : Decoder.instr p c p = (pure (Instr.astore_n 2) : Decoder Instr) c (p + 1) := e1
  have e := dk_d (x := Instr.astore_n 2) (q := p + 1) e9
  rw [show p + 1 - p = 1 by omega] at e
  exact e
theorem dko_78 {c : ByteArray} {p : Nat} {m : List Nat} (h : dkW c p (78 :: m) = true) : decode c p = .ok (Instr.astore_n 3, 1) := by
  obtain ⟨h1, h⟩ := dk_1 h
  have e1 : Decoder.instr p c p = _ := dk_b h1
  have e9 : Decoder.instr p c p = (pure (Instr.astore_n 3) : Decoder Instr) c (p + 1) := e1
  have e := dk_d (x := Instr.astore_n 3) (q := p + 1) e9
  rw [show p + 1 - p = 1 by omega] at e
  exact e
theorem dko_79 {c : ByteArray} {p : Nat} {m : List Nat} (h : dkW c p (79 :: m) = true) : decode c p = .ok (Instr.iastore, 1) := by
  obtain ⟨h1, h⟩ := dk_1 h
  have e1 : Decoder.instr p c p = _ := dk_b h1
  have e9 : Decoder.instr p c p = (pure (Instr.iastore) : Decoder Instr) c (p + 1) := e1
  have e := dk_d (x := Instr.iastore) (q := p + 1) e9
  rw [show p + 1 - p = 1 by omega] at e
  exact e
theorem dko_80 {c : ByteArray} {p : Nat} {m : List Nat} (h : dkW c p (80 :: m) = true) : decode c p = .ok (Instr.lastore, 1) := by
  obtain ⟨h1, h⟩ := dk_1 h
  have e1 : Decoder.instr p c p = _ := dk_b h1
  have e9 : Decoder.instr p c p = (pure (Instr.lastore) : Decoder Instr) c (p + 1) := e1
  have e := dk_d (x := Instr.lastore) (q := p + 1) e9
  rw [show p + 1 - p = 1 by omega] at e
  exact e
theorem dko_83 {c : ByteArray} {p : Nat} {m : List Nat} (h : dkW c p (83 :: m) = true) : decode c p = .ok (Instr.aastore, 1) := by
  obtain ⟨h1, h⟩ := dk_1 h
  have e1 : Decoder.instr p c p = _ := dk_b h1
  have e9 : Decoder.instr p c p = (pure (Instr.aastore) : Decoder Instr) c (p + 1) := e1
  have e := dk_d (x := Instr.aastore) (q := p + 1) e9
  rw [show p + 1 - p = 1 by omega] at e
  exact e
theorem dko_84 {c : ByteArray} {p : Nat} {m : List Nat} (h : dkW c p (84 :: m) = true) : decode c p = .ok (Instr.bastore, 1) := by
  obtain ⟨h1, h⟩ := dk_1 h
  have e1 : Decoder.instr p c p = _ := dk_b h1
  have e9 : Decoder.instr p c p = (pure (Instr.bastore) : Decoder Instr) c (p + 1) := e1
  have e := dk_d (x := Instr.bastore) (q := p + 1) e9
  rw [show p + 1 - p = 1 by omega] at e
  exact e
theorem dko_85 {c : ByteArray} {p : Nat} {m : List Nat} (h : dkW c p (85 :: m) = true) : decode c p = .ok (Instr.castore, 1) := by
  obtain ⟨h1, h⟩ := dk_1 h
  have e1 : Decoder.instr p c p = _ := dk_b h1
  have e9 : Decoder.instr p c p = (pure (Instr.castore) : Decoder Instr) c (p + 1) := e1
  have e := dk_d (x := Instr.castore) (q := p + 1) e9
  rw [show p + 1 - p = 1 by omega] at e
  exact e
theorem dko_87 {c : ByteArray} {p : Nat} {m : List Nat} (h : dkW c p (87 :: m) = true) : decode c p = .ok (Instr.pop, 1) := by
  obtain ⟨h1, h⟩ := dk_1 h
  have e1 : Decoder.instr p c p = _ := dk_b h1
  have e9 : Decoder.instr p c p = (pure (Instr.pop) : Decoder Instr) c (p + 1) := e1
  have e := dk_d (x := Instr.pop) (q := p + 1) e9
  rw [show p + 1 - p = 1 by omega] at e
  exact e
theorem dko_89 {c : ByteArray} {p : Nat} {m : List Nat} (h : dkW c p (89 :: m) = true) : decode c p = .ok (Instr.dup, 1) := by
  obtain ⟨h1, h⟩ := dk_1 h
  have e1 : Decoder.instr p c p = _ := dk_b h1
  have e9 : Decoder.instr p c p = (pure (Instr.dup) : Decoder Instr) c (p + 1) := e1
  have e := dk_d (x := Instr.dup) (q := p + 1) e9
  rw [show p + 1 - p = 1 by omega] at e
  exact e
theorem dko_90 {c : ByteArray} {p : Nat} {m : List Nat} (h : dkW c p (90 :: m) = true) : decode c p = .ok (Instr.dup_x1, 1) := by
  obtain ⟨h1, h⟩ := dk_1 h
  have e1 : Decoder.instr p c p = _ := dk_b h1
  have e9 : Decoder.instr p c p = (pure (Instr.dup_x1) : Decoder Instr) c (p + 1) := e1
  have e := dk_d (x := Instr.dup_x1) (q := p + 1) e9
  rw [show p + 1 - p = 1 by omega] at e
  exact e
theorem dko_92 {c : ByteArray} {p : Nat} {m : List Nat} (h : dkW c p (92 :: m) = true) : decode c p = .ok (Instr.dup2, 1) := by
  obtain ⟨h1, h⟩ := dk_1 h
  have e1 : Decoder.instr p c p = _ := dk_b h1
  have e9 : Decoder.instr p c p = (pure (Instr.dup2) : Decoder Instr) c (p + 1) := e1
  have e := dk_d (x := Instr.dup2) (q := p + 1) e9
  rw [show p + 1 - p = 1 by omega] at e
  exact e
theorem dko_96 {c : ByteArray} {p : Nat} {m : List Nat} (h : dkW c p (96 :: m) = true) : decode c p = .ok (Instr.iadd, 1) := by
  obtain ⟨h1, h⟩ := dk_1 h
  have e1 : Decoder.instr p c p = _ := dk_b h1
  have e9 : Decoder.instr p c p = (pure (Instr.iadd) : Decoder Instr) c (p + 1) := e1
  have e := dk_d (x := Instr.iadd) (q := p + 1) e9
  rw [show p + 1 - p = 1 by omega] at e
  exact e
theorem dko_100 {c : ByteArray} {p : Nat} {m : List Nat} (h : dkW c p (100 :: m) = true) : decode c p = .ok (Instr.isub, 1) := by
  obtain ⟨h1, h⟩ := dk_1 h
  have e1 : Decoder.instr p c p = _ := dk_b h1
  have e9 : Decoder.instr p c p = (pure (Instr.isub) : Decoder Instr) c (p + 1) := e1
  have e := dk_d (x := Instr.isub) (q := p + 1) e9
  rw [show p + 1 - p = 1 by omega] at e
  exact e
theorem dko_101 {c : ByteArray} {p : Nat} {m : List Nat} (h : dkW c p (101 :: m) = true) : decode c p = .ok (Instr.lsub, 1) := by
  obtain ⟨h1, h⟩ := dk_1 h
  have e1 : Decoder.instr p c p = _ := dk_b h1
  have e9 : Decoder.instr p c p = (pure (Instr.lsub) : Decoder Instr) c (p + 1) := e1
  have e := dk_d (x := Instr.lsub) (q := p + 1) e9
  rw [show p + 1 - p = 1 by omega] at e
  exact e
theorem dko_104 {c : ByteArray} {p : Nat} {m : List Nat} (h : dkW c p (104 :: m) = true) : decode c p = .ok (Instr.imul, 1) := by
  obtain ⟨h1, h⟩ := dk_1 h
  have e1 : Decoder.instr p c p = _ := dk_b h1
  have e9 : Decoder.instr p c p = (pure (Instr.imul) : Decoder Instr) c (p + 1) := e1
  have e := dk_d (x := Instr.imul) (q := p + 1) e9
  rw [show p + 1 - p = 1 by omega] at e
  exact e
theorem dko_108 {c : ByteArray} {p : Nat} {m : List Nat} (h : dkW c p (108 :: m) = true) : decode c p = .ok (Instr.idiv, 1) := by
  obtain ⟨h1, h⟩ := dk_1 h
  have e1 : Decoder.instr p c p = _ := dk_b h1
  have e9 : Decoder.instr p c p = (pure (Instr.idiv) : Decoder Instr) c (p + 1) := e1
  have e := dk_d (x := Instr.idiv) (q := p + 1) e9
  rw [show p + 1 - p = 1 by omega] at e
  exact e
theorem dko_112 {c : ByteArray} {p : Nat} {m : List Nat} (h : dkW c p (112 :: m) = true) : decode c p = .ok (Instr.irem, 1) := by
  obtain ⟨h1, h⟩ := dk_1 h
  have e1 : Decoder.instr p c p = _ := dk_b h1
  have e9 : Decoder.instr p c p = (pure (Instr.irem) : Decoder Instr) c (p + 1) := e1
  have e := dk_d (x := Instr.irem) (q := p + 1) e9
  rw [show p + 1 - p = 1 by omega] at e
  exact e
theorem dko_116 {c : ByteArray} {p : Nat} {m : List Nat} (h : dkW c p (116 :: m) = true) : decode c p = .ok (Instr.ineg, 1) := by
  obtain ⟨h1, h⟩ := dk_1 h
  have e1 : Decoder.instr p c p = _ := dk_b h1
  have e9 : Decoder.instr p c p = (pure (Instr.ineg) : Decoder Instr) c (p + 1) := e1
  have e := dk_d (x := Instr.ineg) (q := p + 1) e9
  rw [show p + 1 - p = 1 by omega] at e
  exact e
theorem dko_120 {c : ByteArray} {p : Nat} {m : List Nat} (h : dkW c p (120 :: m) = true) : decode c p = .ok (Instr.ishl, 1) := by
  obtain ⟨h1, h⟩ := dk_1 h
  have e1 : Decoder.instr p c p = _ := dk_b h1
  have e9 : Decoder.instr p c p = (pure (Instr.ishl) : Decoder Instr) c (p + 1) := e1
  have e := dk_d (x := Instr.ishl) (q := p + 1) e9
  rw [show p + 1 - p = 1 by omega] at e
  exact e
theorem dko_122 {c : ByteArray} {p : Nat} {m : List Nat} (h : dkW c p (122 :: m) = true) : decode c p = .ok (Instr.ishr, 1) := by
  obtain ⟨h1, h⟩ := dk_1 h
  have e1 : Decoder.instr p c p = _ := dk_b h1
  have e9 : Decoder.instr p c p = (pure (Instr.ishr) : Decoder Instr) c (p + 1) := e1
  have e := dk_d (x := Instr.ishr) (q := p + 1) e9
  rw [show p + 1 - p = 1 by omega] at e
  exact e
theorem dko_124 {c : ByteArray} {p : Nat} {m : List Nat} (h : dkW c p (124 :: m) = true) : decode c p = .ok (Instr.iushr, 1) := by
  obtain ⟨h1, h⟩ := dk_1 h
  have e1 : Decoder.instr p c p = _ := dk_b h1
  have e9 : Decoder.instr p c p = (pure (Instr.iushr) : Decoder Instr) c (p + 1) := e1
  have e := dk_d (x := Instr.iushr) (q := p + 1) e9
  rw [show p + 1 - p = 1 by omega] at e
  exact e
theorem dko_126 {c : ByteArray} {p : Nat} {m : List Nat} (h : dkW c p (126 :: m) = true) : decode c p = .ok (Instr.iand, 1) := by
  obtain ⟨h1, h⟩ := dk_1 h
  have e1 : Decoder.instr p c p = _ := dk_b h1
  have e9 : Decoder.instr p c p = (pure (Instr.iand) : Decoder Instr) c (p + 1) := e1
  have e := dk_d (x := Instr.iand) (q := p + 1) e9
  rw [show p + 1 - p = 1 by omega] at e
  exact e
theorem dko_128 {c : ByteArray} {p : Nat} {m : List Nat} (h : dkW c p (128 :: m) = true) : decode c p = .ok (Instr.ior, 1) := by
  obtain ⟨h1, h⟩ := dk_1 h
  have e1 : Decoder.instr p c p = _ := dk_b h1
  have e9 : Decoder.instr p c p = (pure (Instr.ior) : Decoder Instr) c (p + 1) := e1
  have e := dk_d (x := Instr.ior) (q := p + 1) e9
  rw [show p + 1 - p = 1 by omega] at e
  exact e
theorem dko_130 {c : ByteArray} {p : Nat} {m : List Nat} (h : dkW c p (130 :: m) = true) : decode c p = .ok (Instr.ixor, 1) := by
  obtain ⟨h1, h⟩ := dk_1 h
  have e1 : Decoder.instr p c p = _ := dk_b h1
  have e9 : Decoder.instr p c p = (pure (Instr.ixor) : Decoder Instr) c (p + 1) := e1
  have e := dk_d (x := Instr.ixor) (q := p + 1) e9
  rw [show p + 1 - p = 1 by omega] at e
  exact e
theorem dko_133 {c : ByteArray} {p : Nat} {m : List Nat} (h : dkW c p (133 :: m) = true) : decode c p = .ok (Instr.i2l, 1) := by
  obtain ⟨h1, h⟩ := dk_1 h
  have e1 : Decoder.instr p c p = _ := dk_b h1
  have e9 : Decoder.instr p c p = (pure (Instr.i2l) : Decoder Instr) c (p + 1) := e1
  have e := dk_d (x := Instr.i2l) (q := p + 1) e9
  rw [show p + 1 - p = 1 by omega] at e
  exact e
theorem dko_145 {c : ByteArray} {p : Nat} {m : List Nat} (h : dkW c p (145 :: m) = true) : decode c p = .ok (Instr.i2b, 1) := by
  obtain ⟨h1, h⟩ := dk_1 h
  have e1 : Decoder.instr p c p = _ := dk_b h1
  have e9 : Decoder.instr p c p = (pure (Instr.i2b) : Decoder Instr) c (p + 1) := e1
  have e := dk_d (x := Instr.i2b) (q := p + 1) e9
  rw [show p + 1 - p = 1 by omega] at e
  exact e
theorem dko_146 {c : ByteArray} {p : Nat} {m : List Nat} (h : dkW c p (146 :: m) = true) : decode c p = .ok (Instr.i2c, 1) := by
  obtain ⟨h1, h⟩ := dk_1 h
  have e1 : Decoder.instr p c p = _ := dk_b h1
  have e9 : Decoder.instr p c p = (pure (Instr.i2c) : Decoder Instr) c (p + 1) := e1
  have e := dk_d (x := Instr.i2c) (q := p + 1) e9
  rw [show p + 1 - p = 1 by omega] at e
  exact e
theorem dko_148 {c : ByteArray} {p : Nat} {m : List Nat} (h : dkW c p (148 :: m) = true) : decode c p = .ok (Instr.lcmp, 1) := by
  obtain ⟨h1, h⟩ := dk_1 h
  have e1 : Decoder.instr p c p = _ := dk_b h1
  have e9 : Decoder.instr p c p = (pure (Instr.lcmp) : Decoder Instr) c (p + 1) := e1
  have e := dk_d (x := Instr.lcmp) (q := p + 1) e9
  rw [show p + 1 - p = 1 by omega] at e
  exact e
theorem dko_172 {c : ByteArray} {p : Nat} {m : List Nat} (h : dkW c p (172 :: m) = true) : decode c p = .ok (Instr.ireturn, 1) := by
  obtain ⟨h1, h⟩ := dk_1 h
  have e1 : Decoder.instr p c p = _ := dk_b h1
  have e9 : Decoder.instr p c p = (pure (Instr.ireturn) : Decoder Instr) c (p + 1) := e1
  have e := dk_d (x := Instr.ireturn) (q := p + 1) e9
  rw [show p + 1 - p = 1 by omega] at e
  exact e
theorem dko_176 {c : ByteArray} {p : Nat} {m : List Nat} (h : dkW c p (176 :: m) = true) : decode c p = .ok (Instr.areturn, 1) := by
  obtain ⟨h1, h⟩ := dk_1 h
  have e1 : Decoder.instr p c p = _ := dk_b h1
  have e9 : Decoder.instr p c p = (pure (Instr.areturn) : Decoder Instr) c (p + 1) := e1
  have e := dk_d (x := Instr.areturn) (q := p + 1) e9
  rw [show p + 1 - p = 1 by omega] at e
  exact e
theorem dko_177 {c : ByteArray} {p : Nat} {m : List Nat} (h : dkW c p (177 :: m) = true) : decode c p = .ok (Instr.return_, 1) := by
  obtain ⟨h1, h⟩ := dk_1 h
  have e1 : Decoder.instr p c p = _ := dk_b h1
  have e9 : Decoder.instr p c p = (pure (Instr.return_) : Decoder Instr) c (p + 1) := e1
  have e := dk_d (x := Instr.return_) (q := p + 1) e9
  rw [show p + 1 - p = 1 by omega] at e
  exact e
theorem dko_190 {c : ByteArray} {p : Nat} {m : List Nat} (h : dkW c p (190 :: m) = true) : decode c p = .ok (Instr.arraylength, 1) := by
  obtain ⟨h1, h⟩ := dk_1 h
  have e1 : Decoder.instr p c p = _ := dk_b h1
  have e9 : Decoder.instr p c p = (pure (Instr.arraylength) : Decoder Instr) c (p + 1) := e1
  have e := dk_d (x := Instr.arraylength) (q := p + 1) e9
  rw [show p + 1 - p = 1 by omega] at e
  exact e
theorem dko_191 {c : ByteArray} {p : Nat} {m : List Nat} (h : dkW c p (191 :: m) = true) : decode c p = .ok (Instr.athrow, 1) := by
  obtain ⟨h1, h⟩ := dk_1 h
  have e1 : Decoder.instr p c p = _ := dk_b h1
  have e9 : Decoder.instr p c p = (pure (Instr.athrow) : Decoder Instr) c (p + 1) := e1
  have e := dk_d (x := Instr.athrow) (q := p + 1) e9
  rw [show p + 1 - p = 1 by omega] at e
  exact e
theorem dko_18 {c : ByteArray} {p a : Nat} {m : List Nat} (h : dkW c p (18 :: a :: m) = true) : decode c p = .ok (Instr.ldc a, 2) := by
  obtain ⟨h1, h⟩ := dk_1 h
  obtain ⟨h2, h⟩ := dk_1 h
  have e1 : Decoder.instr p c p = _ := dk_b h1
  have e2 : Decoder.instr p c p = (bind (Reader.u1 : Decoder Nat) (fun x => pure (Instr.ldc x)) : Decoder Instr) c (p + 1) := e1
  have e9 := e2.trans (dk_b h2)
  have e := dk_d (x := Instr.ldc a) (q := p + 1 + 1) e9
  rw [show p + 1 + 1 - p = 2 by omega] at e
  exact e
theorem dko_21 {c : ByteArray} {p a : Nat} {m : List Nat} (h : dkW c p (21 :: a :: m) = true) : decode c p = .ok (Instr.iload a, 2) := by
  obtain ⟨h1, h⟩ := dk_1 h
  obtain ⟨h2, h⟩ := dk_1 h
  have e1 : Decoder.instr p c p = _ := dk_b h1
  have e2 : Decoder.instr p c p = (bind (Reader.u1 : Decoder Nat) (fun x => pure (Instr.iload x)) : Decoder Instr) c (p + 1) := e1
  have e9 := e2.trans (dk_b h2)
  have e := dk_d (x := Instr.iload a) (q := p + 1 + 1) e9
  rw [show p + 1 + 1 - p = 2 by omega] at e
  exact e
theorem dko_22 {c : ByteArray} {p a : Nat} {m : List Nat} (h : dkW c p (22 :: a :: m) = true) : decode c p = .ok (Instr.lload a, 2) := by
  obtain ⟨h1, h⟩ := dk_1 h
  obtain ⟨h2, h⟩ := dk_1 h
  have e1 : Decoder.instr p c p = _ := dk_b h1
  have e2 : Decoder.instr p c p = (bind (Reader.u1 : Decoder Nat) (fun x => pure (Instr.lload x)) : Decoder Instr) c (p + 1) := e1
  have e9 := e2.trans (dk_b h2)
  have e := dk_d (x := Instr.lload a) (q := p + 1 + 1) e9
  rw [show p + 1 + 1 - p = 2 by omega] at e
  exact e
theorem dko_25 {c : ByteArray} {p a : Nat} {m : List Nat} (h : dkW c p (25 :: a :: m) = true) : decode c p = .ok (Instr.aload a, 2) := by
  obtain ⟨h1, h⟩ := dk_1 h
  obtain ⟨h2, h⟩ := dk_1 h
  have e1 : Decoder.instr p c p = _ := dk_b h1
  have e2 : Decoder.instr p c p = (bind (Reader.u1 : Decoder Nat) (fun x => pure (Instr.aload x)) : Decoder Instr) c (p + 1) := e1
  have e9 := e2.trans (dk_b h2)
  have e := dk_d (x := Instr.aload a) (q := p + 1 + 1) e9
  rw [show p + 1 + 1 - p = 2 by omega] at e
  exact e
theorem dko_54 {c : ByteArray} {p a : Nat} {m : List Nat} (h : dkW c p (54 :: a :: m) = true) : decode c p = .ok (Instr.istore a, 2) := by
  obtain ⟨h1, h⟩ := dk_1 h
  obtain ⟨h2, h⟩ := dk_1 h
  have e1 : Decoder.instr p c p = _ := dk_b h1
  have e2 : Decoder.instr p c p = (bind (Reader.u1 : Decoder Nat) (fun x => pure (Instr.istore x)) : Decoder Instr) c (p + 1) := e1
  have e9 := e2.trans (dk_b h2)
  have e := dk_d (x := Instr.istore a) (q := p + 1 + 1) e9
  rw [show p + 1 + 1 - p = 2 by omega] at e
  exact e
theorem dko_58 {c : ByteArray} {p a : Nat} {m : List Nat} (h : dkW c p (58 :: a :: m) = true) : decode c p = .ok (Instr.astore a, 2) := by
  obtain ⟨h1, h⟩ := dk_1 h
  obtain ⟨h2, h⟩ := dk_1 h
  have e1 : Decoder.instr p c p = _ := dk_b h1
  have e2 : Decoder.instr p c p = (bind (Reader.u1 : Decoder Nat) (fun x => pure (Instr.astore x)) : Decoder Instr) c (p + 1) := e1
  have e9 := e2.trans (dk_b h2)
  have e := dk_d (x := Instr.astore a) (q := p + 1 + 1) e9
  rw [show p + 1 + 1 - p = 2 by omega] at e
  exact e
theorem dko_16 {c : ByteArray} {p a : Nat} {m : List Nat} (h : dkW c p (16 :: a :: m) = true) : decode c p = .ok (Instr.bipush (Reader.signed 8 a), 2) := by
  obtain ⟨h1, h⟩ := dk_1 h
  obtain ⟨h2, h⟩ := dk_1 h
  have e1 : Decoder.instr p c p = _ := dk_b h1
  have e2 : Decoder.instr p c p = (bind (Reader.s1 : Decoder Int) (fun x => pure (Instr.bipush x)) : Decoder Instr) c (p + 1) := e1
  have e9 := e2.trans (dk_b (dk_s1 h2))
  have e := dk_d (x := Instr.bipush (Reader.signed 8 a)) (q := p + 1 + 1) e9
  rw [show p + 1 + 1 - p = 2 by omega] at e
  exact e
theorem dko_19 {c : ByteArray} {p a b : Nat} {m : List Nat} (h : dkW c p (19 :: a :: b :: m) = true) : decode c p = .ok (Instr.ldc_w (a * 256 + b), 3) := by
  obtain ⟨h1, h⟩ := dk_1 h
  obtain ⟨h2, h⟩ := dk_1 h
  obtain ⟨h3, h⟩ := dk_1 h
  have e1 : Decoder.instr p c p = _ := dk_b h1
  have e2 : Decoder.instr p c p = (bind (Reader.u2 : Decoder Nat) (fun x => pure (Instr.ldc_w x)) : Decoder Instr) c (p + 1) := e1
  have e9 := e2.trans (dk_b (dk_u2 h2 h3))
  have e := dk_d (x := Instr.ldc_w (a * 256 + b)) (q := p + 1 + 1 + 1) e9
  rw [show p + 1 + 1 + 1 - p = 3 by omega] at e
  exact e
theorem dko_20 {c : ByteArray} {p a b : Nat} {m : List Nat} (h : dkW c p (20 :: a :: b :: m) = true) : decode c p = .ok (Instr.ldc2_w (a * 256 + b), 3) := by
  obtain ⟨h1, h⟩ := dk_1 h
  obtain ⟨h2, h⟩ := dk_1 h
  obtain ⟨h3, h⟩ := dk_1 h
  have e1 : Decoder.instr p c p = _ := dk_b h1
  have e2 : Decoder.instr p c p = (bind (Reader.u2 : Decoder Nat) (fun x => pure (Instr.ldc2_w x)) : Decoder Instr) c (p + 1) := e1
  have e9 := e2.trans (dk_b (dk_u2 h2 h3))
  have e := dk_d (x := Instr.ldc2_w (a * 256 + b)) (q := p + 1 + 1 + 1) e9
  rw [show p + 1 + 1 + 1 - p = 3 by omega] at e
  exact e
theorem dko_178 {c : ByteArray} {p a b : Nat} {m : List Nat} (h : dkW c p (178 :: a :: b :: m) = true) : decode c p = .ok (Instr.getstatic (a * 256 + b), 3) := by
  obtain ⟨h1, h⟩ := dk_1 h
  obtain ⟨h2, h⟩ := dk_1 h
  obtain ⟨h3, h⟩ := dk_1 h
  have e1 : Decoder.instr p c p = _ := dk_b h1
  have e2 : Decoder.instr p c p = (bind (Reader.u2 : Decoder Nat) (fun x => pure (Instr.getstatic x)) : Decoder Instr) c (p + 1) := e1
  have e9 := e2.trans (dk_b (dk_u2 h2 h3))
  have e := dk_d (x := Instr.getstatic (a * 256 + b)) (q := p + 1 + 1 + 1) e9
  rw [show p + 1 + 1 + 1 - p = 3 by omega] at e
  exact e
theorem dko_180 {c : ByteArray} {p a b : Nat} {m : List Nat} (h : dkW c p (180 :: a :: b :: m) = true) : decode c p = .ok (Instr.getfield (a * 256 + b), 3) := by
  obtain ⟨h1, h⟩ := dk_1 h
  obtain ⟨h2, h⟩ := dk_1 h
  obtain ⟨h3, h⟩ := dk_1 h
  have e1 : Decoder.instr p c p = _ := dk_b h1
  have e2 : Decoder.instr p c p = (bind (Reader.u2 : Decoder Nat) (fun x => pure (Instr.getfield x)) : Decoder Instr) c (p + 1) := e1
  have e9 := e2.trans (dk_b (dk_u2 h2 h3))
  have e := dk_d (x := Instr.getfield (a * 256 + b)) (q := p + 1 + 1 + 1) e9
  rw [show p + 1 + 1 + 1 - p = 3 by omega] at e
  exact e
theorem dko_181 {c : ByteArray} {p a b : Nat} {m : List Nat} (h : dkW c p (181 :: a :: b :: m) = true) : decode c p = .ok (Instr.putfield (a * 256 + b), 3) := by
  obtain ⟨h1, h⟩ := dk_1 h
  obtain ⟨h2, h⟩ := dk_1 h
  obtain ⟨h3, h⟩ := dk_1 h
  have e1 : Decoder.instr p c p = _ := dk_b h1
  have e2 : Decoder.instr p c p = (bind (Reader.u2 : Decoder Nat) (fun x => pure (Instr.putfield x)) : Decoder Instr) c (p + 1) := e1
  have e9 := e2.trans (dk_b (dk_u2 h2 h3))
  have e := dk_d (x := Instr.putfield (a * 256 + b)) (q := p + 1 + 1 + 1) e9
  rw [show p + 1 + 1 + 1 - p = 3 by omega] at e
  exact e
theorem dko_182 {c : ByteArray} {p a b : Nat} {m : List Nat} (h : dkW c p (182 :: a :: b :: m) = true) : decode c p = .ok (Instr.invokevirtual (a * 256 + b), 3) := by
  obtain ⟨h1, h⟩ := dk_1 h
  obtain ⟨h2, h⟩ := dk_1 h
  obtain ⟨h3, h⟩ := dk_1 h
  have e1 : Decoder.instr p c p = _ := dk_b h1
  have e2 : Decoder.instr p c p = (bind (Reader.u2 : Decoder Nat) (fun x => pure (Instr.invokevirtual x)) : Decoder Instr) c (p + 1) := e1
  have e9 := e2.trans (dk_b (dk_u2 h2 h3))
  have e := dk_d (x := Instr.invokevirtual (a * 256 + b)) (q := p + 1 + 1 + 1) e9
  rw [show p + 1 + 1 + 1 - p = 3 by omega] at e
  exact e
theorem dko_183 {c : ByteArray} {p a b : Nat} {m : List Nat} (h : dkW c p (183 :: a :: b :: m) = true) : decode c p = .ok (Instr.invokespecial (a * 256 + b), 3) := by
  obtain ⟨h1, h⟩ := dk_1 h
  obtain ⟨h2, h⟩ := dk_1 h
  obtain ⟨h3, h⟩ := dk_1 h
  have e1 : Decoder.instr p c p = _ := dk_b h1
  have e2 : Decoder.instr p c p = (bind (Reader.u2 : Decoder Nat) (fun x => pure (Instr.invokespecial x)) : Decoder Instr) c (p + 1) := e1
  have e9 := e2.trans (dk_b (dk_u2 h2 h3))
  have e := dk_d (x := Instr.invokespecial (a * 256 + b)) (q := p + 1 + 1 + 1) e9
  rw [show p + 1 + 1 + 1 - p = 3 by omega] at e
  exact e
theorem dko_184 {c : ByteArray} {p a b : Nat} {m : List Nat} (h : dkW c p (184 :: a :: b :: m) = true) : decode c p = .ok (Instr.invokestatic (a * 256 + b), 3) := by
  obtain ⟨h1, h⟩ := dk_1 h
  obtain ⟨h2, h⟩ := dk_1 h
  obtain ⟨h3, h⟩ := dk_1 h
  have e1 : Decoder.instr p c p = _ := dk_b h1
  have e2 : Decoder.instr p c p = (bind (Reader.u2 : Decoder Nat) (fun x => pure (Instr.invokestatic x)) : Decoder Instr) c (p + 1) := e1
  have e9 := e2.trans (dk_b (dk_u2 h2 h3))
  have e := dk_d (x := Instr.invokestatic (a * 256 + b)) (q := p + 1 + 1 + 1) e9
  rw [show p + 1 + 1 + 1 - p = 3 by omega] at e
  exact e
theorem dko_187 {c : ByteArray} {p a b : Nat} {m : List Nat} (h : dkW c p (187 :: a :: b :: m) = true) : decode c p = .ok (Instr.new (a * 256 + b), 3) := by
  obtain ⟨h1, h⟩ := dk_1 h
  obtain ⟨h2, h⟩ := dk_1 h
  obtain ⟨h3, h⟩ := dk_1 h
  have e1 : Decoder.instr p c p = _ := dk_b h1
  have e2 : Decoder.instr p c p = (bind (Reader.u2 : Decoder Nat) (fun x => pure (Instr.new x)) : Decoder Instr) c (p + 1) := e1
  have e9 := e2.trans (dk_b (dk_u2 h2 h3))
  have e := dk_d (x := Instr.new (a * 256 + b)) (q := p + 1 + 1 + 1) e9
  rw [show p + 1 + 1 + 1 - p = 3 by omega] at e
  exact e
theorem dko_189 {c : ByteArray} {p a b : Nat} {m : List Nat} (h : dkW c p (189 :: a :: b :: m) = true) : decode c p = .ok (Instr.anewarray (a * 256 + b), 3) := by
  obtain ⟨h1, h⟩ := dk_1 h
  obtain ⟨h2, h⟩ := dk_1 h
  obtain ⟨h3, h⟩ := dk_1 h
  have e1 : Decoder.instr p c p = _ := dk_b h1
  have e2 : Decoder.instr p c p = (bind (Reader.u2 : Decoder Nat) (fun x => pure (Instr.anewarray x)) : Decoder Instr) c (p + 1) := e1
  have e9 := e2.trans (dk_b (dk_u2 h2 h3))
  have e := dk_d (x := Instr.anewarray (a * 256 + b)) (q := p + 1 + 1 + 1) e9
  rw [show p + 1 + 1 + 1 - p = 3 by omega] at e
  exact e
theorem dko_192 {c : ByteArray} {p a b : Nat} {m : List Nat} (h : dkW c p (192 :: a :: b :: m) = true) : decode c p = .ok (Instr.checkcast (a * 256 + b), 3) := by
  obtain ⟨h1, h⟩ := dk_1 h
  obtain ⟨h2, h⟩ := dk_1 h
  obtain ⟨h3, h⟩ := dk_1 h
  have e1 : Decoder.instr p c p = _ := dk_b h1
  have e2 : Decoder.instr p c p = (bind (Reader.u2 : Decoder Nat) (fun x => pure (Instr.checkcast x)) : Decoder Instr) c (p + 1) := e1
  have e9 := e2.trans (dk_b (dk_u2 h2 h3))
  have e := dk_d (x := Instr.checkcast (a * 256 + b)) (q := p + 1 + 1 + 1) e9
  rw [show p + 1 + 1 + 1 - p = 3 by omega] at e
  exact e
theorem dko_17 {c : ByteArray} {p a b : Nat} {m : List Nat} (h : dkW c p (17 :: a :: b :: m) = true) : decode c p = .ok (Instr.sipush (Reader.signed 16 (a * 256 + b)), 3) := by
  obtain ⟨h1, h⟩ := dk_1 h
  obtain ⟨h2, h⟩ := dk_1 h
  obtain ⟨h3, h⟩ := dk_1 h
  have e1 : Decoder.instr p c p = _ := dk_b h1
  have e2 : Decoder.instr p c p = (bind (Reader.s2 : Decoder Int) (fun x => pure (Instr.sipush x)) : Decoder Instr) c (p + 1) := e1
  have e9 := e2.trans (dk_b (dk_s2 (dk_u2 h2 h3)))
  have e := dk_d (x := Instr.sipush (Reader.signed 16 (a * 256 + b))) (q := p + 1 + 1 + 1) e9
  rw [show p + 1 + 1 + 1 - p = 3 by omega] at e
  exact e
theorem dko_153 {c : ByteArray} {p a b : Nat} {m : List Nat} (h : dkW c p (153 :: a :: b :: m) = true) : decode c p = .ok (Instr.ifCond .eq (Reader.signed 16 (a * 256 + b)), 3) := by
  obtain ⟨h1, h⟩ := dk_1 h
  obtain ⟨h2, h⟩ := dk_1 h
  obtain ⟨h3, h⟩ := dk_1 h
  have e1 : Decoder.instr p c p = _ := dk_b h1
  have e2 : Decoder.instr p c p = (bind (Reader.s2 : Decoder Int) (fun x => pure (Instr.ifCond .eq x)) : Decoder Instr) c (p + 1) := e1
  have e9 := e2.trans (dk_b (dk_s2 (dk_u2 h2 h3)))
  have e := dk_d (x := Instr.ifCond .eq (Reader.signed 16 (a * 256 + b))) (q := p + 1 + 1 + 1) e9
  rw [show p + 1 + 1 + 1 - p = 3 by omega] at e
  exact e
theorem dko_154 {c : ByteArray} {p a b : Nat} {m : List Nat} (h : dkW c p (154 :: a :: b :: m) = true) : decode c p = .ok (Instr.ifCond .ne (Reader.signed 16 (a * 256 + b)), 3) := by
  obtain ⟨h1, h⟩ := dk_1 h
  obtain ⟨h2, h⟩ := dk_1 h
  obtain ⟨h3, h⟩ := dk_1 h
  have e1 : Decoder.instr p c p = _ := dk_b h1
  have e2 : Decoder.instr p c p = (bind (Reader.s2 : Decoder Int) (fun x => pure (Instr.ifCond .ne x)) : Decoder Instr) c (p + 1) := e1
  have e9 := e2.trans (dk_b (dk_s2 (dk_u2 h2 h3)))
  have e := dk_d (x := Instr.ifCond .ne (Reader.signed 16 (a * 256 + b))) (q := p + 1 + 1 + 1) e9
  rw [show p + 1 + 1 + 1 - p = 3 by omega] at e
  exact e
theorem dko_155 {c : ByteArray} {p a b : Nat} {m : List Nat} (h : dkW c p (155 :: a :: b :: m) = true) : decode c p = .ok (Instr.ifCond .lt (Reader.signed 16 (a * 256 + b)), 3) := by
  obtain ⟨h1, h⟩ := dk_1 h
  obtain ⟨h2, h⟩ := dk_1 h
  obtain ⟨h3, h⟩ := dk_1 h
  have e1 : Decoder.instr p c p = _ := dk_b h1
  have e2 : Decoder.instr p c p = (bind (Reader.s2 : Decoder Int) (fun x => pure (Instr.ifCond .lt x)) : Decoder Instr) c (p + 1) := e1
  have e9 := e2.trans (dk_b (dk_s2 (dk_u2 h2 h3)))
  have e := dk_d (x := Instr.ifCond .lt (Reader.signed 16 (a * 256 + b))) (q := p + 1 + 1 + 1) e9
  rw [show p + 1 + 1 + 1 - p = 3 by omega] at e
  exact e
theorem dko_156 {c : ByteArray} {p a b : Nat} {m : List Nat} (h : dkW c p (156 :: a :: b :: m) = true) : decode c p = .ok (Instr.ifCond .ge (Reader.signed 16 (a * 256 + b)), 3) := by
  obtain ⟨h1, h⟩ := dk_1 h
  obtain ⟨h2, h⟩ := dk_1 h
  obtain ⟨h3, h⟩ := dk_1 h
  have e1 : Decoder.instr p c p = _ := dk_b h1
  have e2 : Decoder.instr p c p = (bind (Reader.s2 : Decoder Int) (fun x => pure (Instr.ifCond .ge x)) : Decoder Instr) c (p + 1) := e1
  have e9 := e2.trans (dk_b (dk_s2 (dk_u2 h2 h3)))
  have e := dk_d (x := Instr.ifCond .ge (Reader.signed 16 (a * 256 + b))) (q := p + 1 + 1 + 1) e9
  rw [show p + 1 + 1 + 1 - p = 3 by omega] at e
  exact e
theorem dko_157 {c : ByteArray} {p a b : Nat} {m : List Nat} (h : dkW c p (157 :: a :: b :: m) = true) : decode c p = .ok (Instr.ifCond .gt (Reader.signed 16 (a * 256 + b)), 3) := by
  obtain ⟨h1, h⟩ := dk_1 h
  obtain ⟨h2, h⟩ := dk_1 h
  obtain ⟨h3, h⟩ := dk_1 h
  have e1 : Decoder.instr p c p = _ := dk_b h1
  have e2 : Decoder.instr p c p = (bind (Reader.s2 : Decoder Int) (fun x => pure (Instr.ifCond .gt x)) : Decoder Instr) c (p + 1) := e1
  have e9 := e2.trans (dk_b (dk_s2 (dk_u2 h2 h3)))
  have e := dk_d (x := Instr.ifCond .gt (Reader.signed 16 (a * 256 + b))) (q := p + 1 + 1 + 1) e9
  rw [show p + 1 + 1 + 1 - p = 3 by omega] at e
  exact e
theorem dko_158 {c : ByteArray} {p a b : Nat} {m : List Nat} (h : dkW c p (158 :: a :: b :: m) = true) : decode c p = .ok (Instr.ifCond .le (Reader.signed 16 (a * 256 + b)), 3) := by
  obtain ⟨h1, h⟩ := dk_1 h
  obtain ⟨h2, h⟩ := dk_1 h
  obtain ⟨h3, h⟩ := dk_1 h
  have e1 : Decoder.instr p c p = _ := dk_b h1
  have e2 : Decoder.instr p c p = (bind (Reader.s2 : Decoder Int) (fun x => pure (Instr.ifCond .le x)) : Decoder Instr) c (p + 1) := e1
  have e9 := e2.trans (dk_b (dk_s2 (dk_u2 h2 h3)))
  have e := dk_d (x := Instr.ifCond .le (Reader.signed 16 (a * 256 + b))) (q := p + 1 + 1 + 1) e9
  rw [show p + 1 + 1 + 1 - p = 3 by omega] at e
  exact e
theorem dko_159 {c : ByteArray} {p a b : Nat} {m : List Nat} (h : dkW c p (159 :: a :: b :: m) = true) : decode c p = .ok (Instr.if_icmp .eq (Reader.signed 16 (a * 256 + b)), 3) := by
  obtain ⟨h1, h⟩ := dk_1 h
  obtain ⟨h2, h⟩ := dk_1 h
  obtain ⟨h3, h⟩ := dk_1 h
  have e1 : Decoder.instr p c p = _ := dk_b h1
  have e2 : Decoder.instr p c p = (bind (Reader.s2 : Decoder Int) (fun x => pure (Instr.if_icmp .eq x)) : Decoder Instr) c (p + 1) := e1
  have e9 := e2.trans (dk_b (dk_s2 (dk_u2 h2 h3)))
  have e := dk_d (x := Instr.if_icmp .eq (Reader.signed 16 (a * 256 + b))) (q := p + 1 + 1 + 1) e9
  rw [show p + 1 + 1 + 1 - p = 3 by omega] at e
  exact e
theorem dko_160 {c : ByteArray} {p a b : Nat} {m : List Nat} (h : dkW c p (160 :: a :: b :: m) = true) : decode c p = .ok (Instr.if_icmp .ne (Reader.signed 16 (a * 256 + b)), 3) := by
  obtain ⟨h1, h⟩ := dk_1 h
  obtain ⟨h2, h⟩ := dk_1 h
  obtain ⟨h3, h⟩ := dk_1 h
  have e1 : Decoder.instr p c p = _ := dk_b h1
  have e2 : Decoder.instr p c p = (bind (Reader.s2 : Decoder Int) (fun x => pure (Instr.if_icmp .ne x)) : Decoder Instr) c (p + 1) := e1
  have e9 := e2.trans (dk_b (dk_s2 (dk_u2 h2 h3)))
  have e := dk_d (x := Instr.if_icmp .ne (Reader.signed 16 (a * 256 + b))) (q := p + 1 + 1 + 1) e9
  rw [show p + 1 + 1 + 1 - p = 3 by omega] at e
  exact e
theorem dko_161 {c : ByteArray} {p a b : Nat} {m : List Nat} (h : dkW c p (161 :: a :: b :: m) = true) : decode c p = .ok (Instr.if_icmp .lt (Reader.signed 16 (a * 256 + b)), 3) := by
  obtain ⟨h1, h⟩ := dk_1 h
  obtain ⟨h2, h⟩ := dk_1 h
  obtain ⟨h3, h⟩ := dk_1 h
  have e1 : Decoder.instr p c p = _ := dk_b h1
  have e2 : Decoder.instr p c p = (bind (Reader.s2 : Decoder Int) (fun x => pure (Instr.if_icmp .lt x)) : Decoder Instr) c (p + 1) := e1
  have e9 := e2.trans (dk_b (dk_s2 (dk_u2 h2 h3)))
  have e := dk_d (x := Instr.if_icmp .lt (Reader.signed 16 (a * 256 + b))) (q := p + 1 + 1 + 1) e9
  rw [show p + 1 + 1 + 1 - p = 3 by omega] at e
  exact e
theorem dko_162 {c : ByteArray} {p a b : Nat} {m : List Nat} (h : dkW c p (162 :: a :: b :: m) = true) : decode c p = .ok (Instr.if_icmp .ge (Reader.signed 16 (a * 256 + b)), 3) := by
  obtain ⟨h1, h⟩ := dk_1 h
  obtain ⟨h2, h⟩ := dk_1 h
  obtain ⟨h3, h⟩ := dk_1 h
  have e1 : Decoder.instr p c p = _ := dk_b h1
  have e2 : Decoder.instr p c p = (bind (Reader.s2 : Decoder Int) (fun x => pure (Instr.if_icmp .ge x)) : Decoder Instr) c (p + 1) := e1
  have e9 := e2.trans (dk_b (dk_s2 (dk_u2 h2 h3)))
  have e := dk_d (x := Instr.if_icmp .ge (Reader.signed 16 (a * 256 + b))) (q := p + 1 + 1 + 1) e9
  rw [show p + 1 + 1 + 1 - p = 3 by omega] at e
  exact e
theorem dko_163 {c : ByteArray} {p a b : Nat} {m : List Nat} (h : dkW c p (163 :: a :: b :: m) = true) : decode c p = .ok (Instr.if_icmp .gt (Reader.signed 16 (a * 256 + b)), 3) := by
  obtain ⟨h1, h⟩ := dk_1 h
  obtain ⟨h2, h⟩ := dk_1 h
  obtain ⟨h3, h⟩ := dk_1 h
  have e1 : Decoder.instr p c p = _ := dk_b h1
  have e2 : Decoder.instr p c p = (bind (Reader.s2 : Decoder Int) (fun x => pure (Instr.if_icmp .gt x)) : Decoder Instr) c (p + 1) := e1
  have e9 := e2.trans (dk_b (dk_s2 (dk_u2 h2 h3)))
  have e := dk_d (x := Instr.if_icmp .gt (Reader.signed 16 (a * 256 + b))) (q := p + 1 + 1 + 1) e9
  rw [show p + 1 + 1 + 1 - p = 3 by omega] at e
  exact e
theorem dko_164 {c : ByteArray} {p a b : Nat} {m : List Nat} (h : dkW c p (164 :: a :: b :: m) = true) : decode c p = .ok (Instr.if_icmp .le (Reader.signed 16 (a * 256 + b)), 3) := by
  obtain ⟨h1, h⟩ := dk_1 h
  obtain ⟨h2, h⟩ := dk_1 h
  obtain ⟨h3, h⟩ := dk_1 h
  have e1 : Decoder.instr p c p = _ := dk_b h1
  have e2 : Decoder.instr p c p = (bind (Reader.s2 : Decoder Int) (fun x => pure (Instr.if_icmp .le x)) : Decoder Instr) c (p + 1) := e1
  have e9 := e2.trans (dk_b (dk_s2 (dk_u2 h2 h3)))
  have e := dk_d (x := Instr.if_icmp .le (Reader.signed 16 (a * 256 + b))) (q := p + 1 + 1 + 1) e9
  rw [show p + 1 + 1 + 1 - p = 3 by omega] at e
  exact e
theorem dko_167 {c : ByteArray} {p a b : Nat} {m : List Nat} (h : dkW c p (167 :: a :: b :: m) = true) : decode c p = .ok (Instr.goto (Reader.signed 16 (a * 256 + b)), 3) := by
  obtain ⟨h1, h⟩ := dk_1 h
  obtain ⟨h2, h⟩ := dk_1 h
  obtain ⟨h3, h⟩ := dk_1 h
  have e1 : Decoder.instr p c p = _ := dk_b h1
  have e2 : Decoder.instr p c p = (bind (Reader.s2 : Decoder Int) (fun x => pure (Instr.goto x)) : Decoder Instr) c (p + 1) := e1
  have e9 := e2.trans (dk_b (dk_s2 (dk_u2 h2 h3)))
  have e := dk_d (x := Instr.goto (Reader.signed 16 (a * 256 + b))) (q := p + 1 + 1 + 1) e9
  rw [show p + 1 + 1 + 1 - p = 3 by omega] at e
  exact e
theorem dko_198 {c : ByteArray} {p a b : Nat} {m : List Nat} (h : dkW c p (198 :: a :: b :: m) = true) : decode c p = .ok (Instr.ifnull (Reader.signed 16 (a * 256 + b)), 3) := by
  obtain ⟨h1, h⟩ := dk_1 h
  obtain ⟨h2, h⟩ := dk_1 h
  obtain ⟨h3, h⟩ := dk_1 h
  have e1 : Decoder.instr p c p = _ := dk_b h1
  have e2 : Decoder.instr p c p = (bind (Reader.s2 : Decoder Int) (fun x => pure (Instr.ifnull x)) : Decoder Instr) c (p + 1) := e1
  have e9 := e2.trans (dk_b (dk_s2 (dk_u2 h2 h3)))
  have e := dk_d (x := Instr.ifnull (Reader.signed 16 (a * 256 + b))) (q := p + 1 + 1 + 1) e9
  rw [show p + 1 + 1 + 1 - p = 3 by omega] at e
  exact e
theorem dko_199 {c : ByteArray} {p a b : Nat} {m : List Nat} (h : dkW c p (199 :: a :: b :: m) = true) : decode c p = .ok (Instr.ifnonnull (Reader.signed 16 (a * 256 + b)), 3) := by
  obtain ⟨h1, h⟩ := dk_1 h
  obtain ⟨h2, h⟩ := dk_1 h
  obtain ⟨h3, h⟩ := dk_1 h
  have e1 : Decoder.instr p c p = _ := dk_b h1
  have e2 : Decoder.instr p c p = (bind (Reader.s2 : Decoder Int) (fun x => pure (Instr.ifnonnull x)) : Decoder Instr) c (p + 1) := e1
  have e9 := e2.trans (dk_b (dk_s2 (dk_u2 h2 h3)))
  have e := dk_d (x := Instr.ifnonnull (Reader.signed 16 (a * 256 + b))) (q := p + 1 + 1 + 1) e9
  rw [show p + 1 + 1 + 1 - p = 3 by omega] at e
  exact e
theorem dko_132 {c : ByteArray} {p a b : Nat} {m : List Nat} (h : dkW c p (132 :: a :: b :: m) = true) : decode c p = .ok (Instr.iinc a (Reader.signed 8 b), 3) := by
  obtain ⟨h1, h⟩ := dk_1 h
  obtain ⟨h2, h⟩ := dk_1 h
  obtain ⟨h3, h⟩ := dk_1 h
  have e1 : Decoder.instr p c p = _ := dk_b h1
  have e2 : Decoder.instr p c p = (bind (Reader.u1 : Decoder Nat) (fun x => bind (Reader.s1 : Decoder Int) (fun y => pure (Instr.iinc x y))) : Decoder Instr) c (p + 1) := e1
  have e3 : Decoder.instr p c p = (bind (Reader.s1 : Decoder Int) (fun y => pure (Instr.iinc a y)) : Decoder Instr) c (p + 1 + 1) := e2.trans (dk_b h2)
  have e9 := e3.trans (dk_b (dk_s1 h3))
  have e := dk_d (x := Instr.iinc a (Reader.signed 8 b)) (q := p + 1 + 1 + 1) e9
  rw [show p + 1 + 1 + 1 - p = 3 by omega] at e
  exact e
theorem dko_188_4 {c : ByteArray} {p : Nat} {m : List Nat} (h : dkW c p (188 :: 4 :: m) = true) : decode c p = .ok (Instr.newarray .boolean, 2) := by
  obtain ⟨h1, h⟩ := dk_1 h
  obtain ⟨h2, h⟩ := dk_1 h
  have e1 : Decoder.instr p c p = _ := dk_b h1
  have e2 : Decoder.instr p c p = Decoder.newarray p c (p + 1) := e1
  have e3 : Decoder.newarray p c (p + 1) = _ := dk_b h2
  have e4 : Decoder.newarray p c (p + 1) = (pure (Instr.newarray .boolean) : Decoder Instr) c (p + 1 + 1) := e3
  have e9 := e2.trans e4
  have e := dk_d (x := Instr.newarray .boolean) (q := p + 1 + 1) e9
  rw [show p + 1 + 1 - p = 2 by omega] at e
  exact e
theorem dko_188_5 {c : ByteArray} {p : Nat} {m : List Nat} (h : dkW c p (188 :: 5 :: m) = true) : decode c p = .ok (Instr.newarray .char, 2) := by
  obtain ⟨h1, h⟩ := dk_1 h
  obtain ⟨h2, h⟩ := dk_1 h
  have e1 : Decoder.instr p c p = _ := dk_b h1
  have e2 : Decoder.instr p c p = Decoder.newarray p c (p + 1) := e1
  have e3 : Decoder.newarray p c (p + 1) = _ := dk_b h2
  have e4 : Decoder.newarray p c (p + 1) = (pure (Instr.newarray .char) : Decoder Instr) c (p + 1 + 1) := e3
  have e9 := e2.trans e4
  have e := dk_d (x := Instr.newarray .char) (q := p + 1 + 1) e9
  rw [show p + 1 + 1 - p = 2 by omega] at e
  exact e
theorem dko_188_8 {c : ByteArray} {p : Nat} {m : List Nat} (h : dkW c p (188 :: 8 :: m) = true) : decode c p = .ok (Instr.newarray .byte, 2) := by
  obtain ⟨h1, h⟩ := dk_1 h
  obtain ⟨h2, h⟩ := dk_1 h
  have e1 : Decoder.instr p c p = _ := dk_b h1
  have e2 : Decoder.instr p c p = Decoder.newarray p c (p + 1) := e1
  have e3 : Decoder.newarray p c (p + 1) = _ := dk_b h2
  have e4 : Decoder.newarray p c (p + 1) = (pure (Instr.newarray .byte) : Decoder Instr) c (p + 1 + 1) := e3
  have e9 := e2.trans e4
  have e := dk_d (x := Instr.newarray .byte) (q := p + 1 + 1) e9
  rw [show p + 1 + 1 - p = 2 by omega] at e
  exact e
theorem dko_188_10 {c : ByteArray} {p : Nat} {m : List Nat} (h : dkW c p (188 :: 10 :: m) = true) : decode c p = .ok (Instr.newarray .int, 2) := by
  obtain ⟨h1, h⟩ := dk_1 h
  obtain ⟨h2, h⟩ := dk_1 h
  have e1 : Decoder.instr p c p = _ := dk_b h1
  have e2 : Decoder.instr p c p = Decoder.newarray p c (p + 1) := e1
  have e3 : Decoder.newarray p c (p + 1) = _ := dk_b h2
  have e4 : Decoder.newarray p c (p + 1) = (pure (Instr.newarray .int) : Decoder Instr) c (p + 1 + 1) := e3
  have e9 := e2.trans e4
  have e := dk_d (x := Instr.newarray .int) (q := p + 1 + 1) e9
  rw [show p + 1 + 1 - p = 2 by omega] at e
  exact e
theorem dko_188_11 {c : ByteArray} {p : Nat} {m : List Nat} (h : dkW c p (188 :: 11 :: m) = true) : decode c p = .ok (Instr.newarray .long, 2) := by
  obtain ⟨h1, h⟩ := dk_1 h
  obtain ⟨h2, h⟩ := dk_1 h
  have e1 : Decoder.instr p c p = _ := dk_b h1
  have e2 : Decoder.instr p c p = Decoder.newarray p c (p + 1) := e1
  have e3 : Decoder.newarray p c (p + 1) = _ := dk_b h2
  have e4 : Decoder.newarray p c (p + 1) = (pure (Instr.newarray .long) : Decoder Instr) c (p + 1 + 1) := e3
  have e9 := e2.trans e4
  have e := dk_d (x := Instr.newarray .long) (q := p + 1 + 1) e9
  rw [show p + 1 + 1 - p = 2 by omega] at e
  exact e
