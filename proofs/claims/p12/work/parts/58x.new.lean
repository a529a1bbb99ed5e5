/-! ===== a new rule ===== -/
theorem kinst7 : Cond.instantiable RX7 10 ∈ GT ∧ Cond.initialized RX7 ∈ GT := ⟨GT_mem 513 (by decide +kernel) rfl, GT_mem 111 (by decide +kernel) rfl⟩
/-- kinds that stay as others come -/
def KM (K K1 : Nat → Nat) : Prop := ∀ (x n : Nat), K x = n → n ≠ 0 → K1 x = n
theorem KM.rf {K : Nat → Nat} : KM K K := fun _ _ h _ => h
theorem KM.tr {K K1 K2 : Nat → Nat} (h : KM K K1) (h2 : KM K1 K2) : KM K K2 := fun x n e z => h2 x n (h x n e z) z
theorem KM.up {K : Nat → Nat} {q k : Nat} (hq : K q = 0) : KM K (va_up K q k) := by
  intro x n h hn
  rw [va_up_ne]
  · exact h
  · intro e
    subst e
    exact hn (h.symm.trans hq)
theorem SHP.mono {E : XE} {K K1 : Nat → Nat} {F : Nat → Nat → Nat} {d c : Nat → Int32} {r : Nat → Option Nat} {l : Nat → Int64} {a k : Nat} {e : va_E} (m : KM K K1) (h : SHP E K F d c r l a k e) : SHP E K1 F d c r l a k e := by
  unfold SHP at h ⊢
  split at h
  · obtain ⟨h0, h1, h2, h3, h4⟩ := h
    exact ⟨h0, m _ _ h1 (by decide), h2, m _ _ h3 (by decide), h4⟩
  · obtain ⟨h0, h1, h2, h3, h4, h5, h6⟩ := h
    exact ⟨h0, m _ _ h1 (by decide), h2, m _ _ h3 (by decide), h4, m _ _ h5 (by decide), h6⟩
  · obtain ⟨h0, h1, h2, h3, h4, h5, h6, h7, h8⟩ := h
    exact ⟨h0, m _ _ h1 (by decide), h2, m _ _ h3 (by decide), h4, m _ _ h5 (by decide), h6, m _ _ h7 (by decide), h8⟩
  · obtain ⟨h0, h1, h2, h3, h4, h5, h6⟩ := h
    exact ⟨h0, m _ _ h1 (by decide), h2, m _ _ h3 (by decide), h4, m _ _ h5 (by decide), h6⟩
  · obtain ⟨h0, h1, h2, h3, h4, h5, h6, h7, h8, h9, h10, h11, h12⟩ := h
    exact ⟨h0, m _ _ h1 (by decide), h2, m _ _ h3 (by decide), h4, m _ _ h5 (by decide), h6, m _ _ h7 (by decide), h8, m _ _ h9 (by decide), h10, m _ _ h11 (by decide), h12⟩
  · obtain ⟨h0, h1, h2, h3⟩ := h
    exact ⟨h0, m _ _ h1 (by decide), h2, h3⟩
  · obtain ⟨h0, h1, h2, h3, h4⟩ := h
    exact ⟨h0, m _ _ h1 (by decide), h2, m _ _ h3 (by decide), h4⟩
  · exact h
  · obtain ⟨h0, h1, h2⟩ := h
    exact ⟨h0, m _ _ h1 (by decide), h2⟩
  · exact h
  · obtain ⟨h0, h1, h2, h3, h4, h5, h6, h7, h8, h9, h10, h11, h12, h13, h14, h15, h16, h17, h18, h19, h20, h21, h22, h23, h24, h25, h26, h27, h28, h29, h30, h31, h32, h33, h34, h35⟩ := h
    exact ⟨h0, m _ _ h1 (by decide), h2, m _ _ h3 (by decide), h4, m _ _ h5 (by decide), h6, m _ _ h7 (by decide), h8, m _ _ h9 (by decide), h10, m _ _ h11 (by decide), h12, m _ _ h13 (by decide), h14, m _ _ h15 (by decide), h16, m _ _ h17 (by decide), h18, m _ _ h19 (by decide), h20, m _ _ h21 (by decide), h22, m _ _ h23 (by decide), h24, m _ _ h25 (by decide), h26, m _ _ h27 (by decide), h28, m _ _ h29 (by decide), h30, m _ _ h31 (by decide), h32, m _ _ h33 (by decide), h34, h35⟩
  · obtain ⟨h0, h1, h2, h3, h4, h5, h6, h7, h8, h9, h10, h11, h12, h13, h14, h15, h16, h17, h18, h19, h20, h21, h22, h23, h24, h25, h26, h27, h28, h29, h30, h31, h32, h33, h34, h35, h36, h37, h38, h39, h40, h41, h42, h43, h44, h45, h46, h47, h48, h49, h50, h51, h52, h53, h54, h55, h56, h57, h58, h59, h60, h61, h62, h63, h64, h65, h66, h67, h68, h69, h70, h71, h72, h73, h74⟩ := h
    exact ⟨h0, m _ _ h1 (by decide), h2, m _ _ h3 (by decide), h4, m _ _ h5 (by decide), h6, m _ _ h7 (by decide), h8, m _ _ h9 (by decide), h10, h11, m _ _ h12 (by decide), h13, m _ _ h14 (by decide), h15, m _ _ h16 (by decide), h17, m _ _ h18 (by decide), h19, m _ _ h20 (by decide), h21, m _ _ h22 (by decide), h23, m _ _ h24 (by decide), h25, m _ _ h26 (by decide), h27, m _ _ h28 (by decide), h29, m _ _ h30 (by decide), h31, m _ _ h32 (by decide), h33, m _ _ h34 (by decide), h35, m _ _ h36 (by decide), h37, m _ _ h38 (by decide), h39, m _ _ h40 (by decide), h41, m _ _ h42 (by decide), h43, m _ _ h44 (by decide), h45, m _ _ h46 (by decide), h47, m _ _ h48 (by decide), h49, m _ _ h50 (by decide), h51, m _ _ h52 (by decide), h53, m _ _ h54 (by decide), h55, m _ _ h56 (by decide), h57, h58, m _ _ h59 (by decide), h60, m _ _ h61 (by decide), h62, m _ _ h63 (by decide), h64, m _ _ h65 (by decide), h66, m _ _ h67 (by decide), h68, m _ _ h69 (by decide), h70, m _ _ h71 (by decide), h72, m _ _ h73 (by decide), h74⟩
  · exact h
  · exact ⟨h.1, fun i q hq => m _ _ (h.2 i q hq) (by decide)⟩
  · refine ⟨h.1, fun i hi => ?_⟩
    obtain ⟨q, h3, h4, h5⟩ := h.2 i hi
    exact ⟨q, h3, m _ _ h4 (by decide), h5⟩
  · first | exact h | (split <;> first | exact h | (exfalso; simp_all; done))
/-- the numbers of a new rule are 0 -/
def znew (G : XG) (q : Nat) : XG := (fun b j => if b = q ∧ j < 10 then 0 else G.1 b j, G.2)
theorem znew_fr (G : XG) (q : Nat) : XFr [(q, 0), (q, 1), (q, 2), (q, 3), (q, 4), (q, 5), (q, 6), (q, 7), (q, 8), (q, 9)] [] [] G (znew G q) := by
  refine ⟨fun b j hb => ?_, fun _ _ => rfl, fun _ _ => rfl⟩
  show (if b = q ∧ j < 10 then 0 else G.1 b j) = _
  rw [if_neg]
  rintro ⟨rfl, hj⟩
  apply hb
  match j, hj with
  | 0, _ => simp
  | 1, _ => simp
  | 2, _ => simp
  | 3, _ => simp
  | 4, _ => simp
  | 5, _ => simp
  | 6, _ => simp
  | 7, _ => simp
  | 8, _ => simp
  | 9, _ => simp
  | j + 10, hj => exact absurd hj (by omega)
theorem znew_0 (G : XG) (q : Nat) {j : Nat} (h : j < 10) : (znew G q).1 q j = 0 := if_pos ⟨rfl, h⟩
theorem TWl.push {E : XE} {K : Nat → Nat} {F : Nat → Nat → Nat} {G : XG} {ws : va_W} {A : Nat → Prop} {q : Nat} {e : va_E} (h : TWl E K F G ws) (hD : va_D A (ws ++ [(q, e)])) (hs : SHQ E (va_up K q 9) F (znew G q) q 9 e) : K q = 0 ∧ TWl E (va_up K q 9) F (znew G q) (ws ++ [(q, e)]) := by
  have hap : ∀ (i : Nat) (x : va_E), ws[i]? = some (q, x) → False := by
    intro i x hi
    have hl := (List.getElem?_eq_some_iff.mp hi).1
    have h1 : (ws ++ [(q, e)])[i]? = some (q, x) := by rw [List.getElem?_append_left hl]; exact hi
    have h2 : (ws ++ [(q, e)])[ws.length]? = some (q, e) := by simp
    have := hD.1 _ _ _ _ h1 h2 rfl
    omega
  have hq : K q = 0 := by
    by_cases z : K q = 0
    · exact z
    · obtain ⟨i, x, h1, -⟩ := h.1 q z
      exact (hap i x h1).elim
  have hm : KM K (va_up K q 9) := KM.up hq
  refine ⟨hq, ?_, ?_⟩
  · intro a ha
    by_cases z : a = q
    · subst z
      exact ⟨ws.length, e, by simp, by rw [va_up_self]; exact hs⟩
    · rw [va_up_ne _ _ z] at ha ⊢
      obtain ⟨i, x, h1, h2⟩ := h.1 a ha
      refine ⟨i, x, by rw [List.getElem?_append_left (List.getElem?_eq_some_iff.mp h1).1]; exact h1, ?_⟩
      have hd : (znew G q).1 a = G.1 a := funext (fun j => if_neg (fun y => z y.1))
      show SHP E (va_up K q 9) F ((znew G q).1 a) (G.2.1 a) (G.2.2.1 a) G.2.2.2 a (K a) x
      rw [hd]
      exact h2.mono hm
  · obtain ⟨i, j, v, n, f, ml, cnt, h1, h2, h3, h4, h5⟩ := h.2
    refine ⟨i, j, v, n, f, ml, cnt, ?_, ?_, ?_, ?_, h5⟩
    · rw [List.getElem?_append_left (List.getElem?_eq_some_iff.mp h1).1]; exact h1
    · rw [List.getElem?_append_left (List.getElem?_eq_some_iff.mp h2).1]; exact h2
    · rw [va_up_ne]
      · exact h3
      · intro z
        rw [z] at h1
        exact hap _ _ h1
    · rw [va_up_ne]
      · exact h4
      · intro z
        rw [z] at h2
        exact hap _ _ h2
section XNR
variable {p : Program} {l : Launch} {e : Env} {R : Room} {s : State} {m : MethodId} {args : Array Value} {below : List Frame} {meth : Method} {c : Code} {H : Heap} {locs : List Loc} {cells slots : Nat} {Q : State → Prop}
variable {pc : Nat} {ls : Array Slot} {rest : List Value} {E : XE} {cc : ByteArray} {nL : Nat} {own : String} {w0 : Cond} {K : Nat → Nat} {F : Nat → Nat → Nat} {G : XG} {idx : Nat}
theorem x_newR (S : CallFix p m c cc nL s args (w0 :: GT) own) (hK : XK E s) (hz : E.2.2.1 ≤ s.heap.size) (hT : TW E K F G H) (hS : va_S (xA E) s.heap H locs) (hl : Cond.classLink own idx RX7 ∈ GT) (hc : cells + 1 ≤ R.cells) (hs : slots + 10 ≤ R.slots) (hdg : decode cc pc = .ok (.new idx, 3)) (kk : ∀ (q : Nat) (K1 : Nat → Nat) (H1 : Heap), KM K K1 → K q = 0 → K1 q = 9 → TW E K1 F (znew G q) H1 → va_S (xA E) s.heap H1 locs → W p l e R s m args below meth c H1 locs (cells + 1) (slots + 10) Q (F0 m (pc + 3) ls (.ref q :: rest))) : W p l e R s m args below meth c H locs cells slots Q (F0 m pc ls rest) := by
  obtain ⟨ws, hw, hP, hD⟩ := hT
  refine va_new (D := E.1) (ci := 8) (fs := [.int 0, .int 0, .int 0, .int 0, .int 0, .int 0, .int 0, .int 0, .int 0, .int 0]) (C := RX7) (T := TX7) (N := 10) S.1 S.2.1 S.2.2.2.2 (fun w h => List.mem_cons_of_mem _ (inX7 w h)) tyX7 tyX7_ok S.2.2.2.1 (S.2.2.2.2 _ (List.mem_cons_of_mem _ hl)) (S.2.2.2.2 _ (List.mem_cons_of_mem _ kinst7.1)) (S.2.2.2.2 _ (List.mem_cons_of_mem _ kinst7.2)) hK.1 hP hD hS (fun q h => Nat.le_trans hz h) rfl (fun j hj => ?_) hc hs hdg (fun q H1 hP1 hD1 hS1 => ?_)
  · match j, hj with
    | 0, _ => rfl
    | 1, _ => rfl
    | 2, _ => rfl
    | 3, _ => rfl
    | 4, _ => rfl
    | 5, _ => rfl
    | 6, _ => rfl
    | 7, _ => rfl
    | 8, _ => rfl
    | 9, _ => rfl
    | j + 10, hj => exact absurd hj (by omega)
  · obtain ⟨hq, hw1⟩ := hw.push hD1 (q := q) ⟨by rw [znew_0 G q (by decide), znew_0 G q (by decide), znew_0 G q (by decide), znew_0 G q (by decide), znew_0 G q (by decide), znew_0 G q (by decide), znew_0 G q (by decide), znew_0 G q (by decide), znew_0 G q (by decide), znew_0 G q (by decide)], Or.inl (znew_0 G q (by decide))⟩
    exact kk q (va_up K q 9) H1 (KM.up hq) hq (va_up_self _ _ _) ⟨_, hw1, hP1, hD1⟩ hS1
variable {y : MethodName} {bytes : ByteArray} {maxL n index mc ms : Nat} {rm : Room} {Qc : Array Value → State → Outcome → State → Prop} {b : Addr} {As : List Value} {P9 : State → Prop}
theorem x_runI (S : CallFix p m c cc nL s args (w0 :: GT) own) (hM : Met l y (xw y bytes maxL none) rm (va_Pc (.ref b :: As) P9) Qc mc ms (xA E)) (hc : (Cond.code y bytes maxL none ∈ GT ∧ Cond.instanceMethod y ∈ GT ∧ Cond.initialized y.cls ∈ GT) ∧ y.cls ≠ "java/lang/invoke/MethodHandle" ∧ y.cls ≠ "java/lang/invoke/VarHandle" ∧ (parseMethodDescriptor y.desc).map (fun d => d.parameters.length) = some n) (hi : y.name = "<init>") (hl : Cond.methodLink own index y ∈ GT) (hrc : rm.cells = mc) (hrs : rm.slots = ms) (hR : rm.frames + 1 ≤ R.frames ∧ 8 + (maxL + 11) + rm.locals ≤ R.locals)
    (hK : XK E s) (hbl : ∀ av : List Value, FrameBlind (va_Pc av P9)) (hp9 : ∀ U : State, U.heap = H → s.WarmedH U.vm → P9 U)
    (hn : As.length = n) (hsize : ls.size = nL) (hW : (rest.map fun v => v.category).sum ≤ 8) (hdg : decode cc pc = .ok (.invokespecial index, 3)) (hf : cells + mc ≤ R.cells ∧ slots + ms ≤ R.slots) :
    va_Run p l e R s m args below meth c H locs cells slots mc ms (F0 m pc ls (As.reverse ++ .ref b :: rest)) rest (Qc (Value.ref b :: As).toArray) (xA E) :=
  va_runI S hM ⟨x_callB S n hc.1.1 hc.1.2.2 hl hrc hrs hc.2 hR, hi, S.2.2.2.2 _ (List.mem_cons_of_mem _ hc.1.2.1)⟩ ⟨hbl _, fun U hU hW => ⟨rfl, hp9 U hU hW⟩⟩ rfl hn hsize rfl (lv_room hW) hdg hf
end XNR
theorem rd_ok {t : Int → Int} {n : Int} {S : RSt} {so p e v br : Int} (h : RdI t n S so p e v br) : (br = 0 ∧ so = 0) ↔ (S.1 = 1 ∧ n ≤ S.2) := by
  obtain ⟨a1, a2, a3, a4, a5⟩ := h
  constructor
  · rintro ⟨h1, h2⟩
    have s1 := a3.mp h1
    obtain ⟨b1, b2, b3, b4⟩ := a5 s1
    refine ⟨s1, ?_⟩
    rw [a2]
    apply Classical.byContradiction
    intro q
    by_cases hl : cLt (t p)
    · have := (b3 (by omega) hl).1
      omega
    · rcases (b4 (by omega) hl).2 with ⟨-, x, -⟩ | ⟨-, x⟩ <;> omega
  · rintro ⟨h1, h2⟩
    obtain ⟨b1, b2, b3, b4⟩ := a5 h1
    exact ⟨a3.mpr h1, b2 (by omega)⟩
