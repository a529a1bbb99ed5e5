section XM
variable {p : Program} {l : Launch} {e : Env} {R : Room} {s : State} {m : MethodId} {args : Array Value} {below : List Frame} {meth : Method} {c : Code} {H : Heap} {locs : List Loc} {cells slots : Nat} {Q : State → Prop}
variable {pc : Nat} {ls : Array Slot} {rest : List Value} {H0 : Heap} {E : XE} {cc : ByteArray} {nL : Nat} {own : String} {w0 : Cond} {K : Nat → Nat} {F : Nat → Nat → Nat} {G : XG} {a : Nat} {X Y : Int}
theorem ast_o (S : CallFix p m c cc nL s args (w0 :: GT) own) (hK : XK E s) (hT : TW E K F G H) (hS : va_S (xA E) H0 H locs) {fr : Int} (ha : XO K a fr) {i x : Int32} (hin : 0 ≤ i.toInt ∧ i.toInt < fr + 360) (hdg : decode cc pc = .ok (.iastore, 1)) (kk : ∀ (H1 : Heap) (locs1 : List Loc), TW E K F (cput G a i.toNatClampNeg x) H1 → va_S (xA E) H0 H1 locs1 → W p l e R s m args below meth c H1 locs1 cells slots Q (F0 m (pc + 1) ls rest)) : W p l e R s m args below meth c H locs cells slots Q (F0 m pc ls (.int x :: .int i :: .ref a :: rest)) := by
  rcases ha with ⟨h | h, rfl⟩ | ⟨h, h0, h1⟩
  · exact as_0 S hK hT hS h ar_30 aw_30 (by decide) (by omega) hdg kk
  · exact as_0 S hK hT hS h ar_31 aw_31 (by decide) (by omega) hdg kk
  · exact as_0 S hK hT hS h ar_32 aw_32 (by decide) (by omega) hdg kk
end XM
/-- 360 numbers are copied -/
def CPd (f g g2 : Nat → Int32) (b b2 n : Int) : Prop := ∀ z : Int, 0 ≤ z → aI g2 z = if b2 ≤ z ∧ z < b2 + n then aI f (z - b2 + b) else aI g z
theorem CPd.vwm {f g g2 : Nat → Int32} {b b2 : Int} (h : CPd f g g2 b b2 360) (h2 : 0 ≤ b2) : mw g2 b2 = mw f b := by
  funext z
  unfold mw
  by_cases hz : 0 ≤ z ∧ z < 270
  · have e1 : aI g2 (b2 + 4 * (30 * (z / 90) + z % 30)) = aI f (b + 4 * (30 * (z / 90) + z % 30)) := by rw [h _ (by omega), if_pos (by omega)]; congr 1; omega
    have e2 : aI g2 (b2 + 4 * (30 * (z / 90) + z % 30) + 1 + z / 30 % 3) = aI f (b + 4 * (30 * (z / 90) + z % 30) + 1 + z / 30 % 3) := by rw [h _ (by omega), if_pos (by omega)]; congr 1; omega
    rw [if_pos hz, if_pos hz, e1, e2]
  · rw [if_neg hz, if_neg hz]
theorem CPd.rm {f g g2 : Nat → Int32} {b b2 : Int} (h : CPd f g g2 b b2 360) (h2 : 0 ≤ b2) (hr : RM f b) : RM g2 b2 := by
  intro t k a1 a2 a3 a4
  have e1 : aI g2 (b2 + 4 * (30 * t + k)) = aI f (b + 4 * (30 * t + k)) := by rw [h _ (by omega), if_pos (by omega)]; congr 1; omega
  have e2 : ∀ c : Int, 0 ≤ c → c < 3 → aI g2 (b2 + 4 * (30 * t + k) + 1 + c) = aI f (b + 4 * (30 * t + k) + 1 + c) := fun c c0 c1 => by rw [h _ (by omega), if_pos (by omega)]; congr 1; omega
  rw [e1]
  rcases hr t k a1 a2 a3 a4 with q | ⟨q, q2⟩
  · exact Or.inl q
  · exact Or.inr ⟨q, fun c c0 c1 => by rw [e2 c c0 c1]; exact q2 c c0 c1⟩
theorem CPd.far {f g g2 : Nat → Int32} {b b2 b3 : Int} (h : CPd f g g2 b b2 360) (h3 : 0 ≤ b3) (hf : b3 + 360 ≤ b2 ∨ b2 + 360 ≤ b3) : mw g2 b3 = mw g b3 ∧ (RM g b3 → RM g2 b3) := by
  have e : ∀ z : Int, b3 ≤ z → z < b3 + 360 → aI g2 z = aI g z := fun z z0 z1 => by rw [h z (by omega), if_neg (by omega)]
  constructor
  · funext z
    unfold mw
    by_cases hz : 0 ≤ z ∧ z < 270
    · rw [if_pos hz, if_pos hz, e _ (by omega) (by omega), e _ (by omega) (by omega)]
    · rw [if_neg hz, if_neg hz]
  · intro hr t k a1 a2 a3 a4
    rw [e _ (by omega) (by omega)]
    rcases hr t k a1 a2 a3 a4 with q | ⟨q, q2⟩
    · exact Or.inl q
    · exact Or.inr ⟨q, fun c c0 c1 => by rw [e _ (by omega) (by omega)]; exact q2 c c0 c1⟩
/-- the states of the rules below n are laid down -/
def LSt (f g : Nat → Int32) (r : Int → Int) (n : Int) : Prop := ∀ q s : Int, 0 ≤ q → q < n → aI f (10 * q + 0) ≠ -1 → sbj (aI f (10 * q + 0)) s → aI g (199 * q + s + 99) = stt r (aI f (10 * q + 0)) (aI f (10 * q + 1)) (aI f (10 * q + 2)) (aI f (10 * q + 3)) s
/-- the reference's order -/
def prM (f : Nat → Int32) (i : Nat) : Bool := decide (aI f (10 * (i : Int) + 0) ≠ -1)
def rkM (f : Nat → Int32) (i : Nat) : Int := aI f (10 * (i : Int) + 7)
def ORm (f g : Nat → Int32) (sz : Int) (n : Nat) : Prop := sz = ((ordN (prM f) (rkM f) n).1 : Int) ∧ ∀ i : Nat, i < (ordN (prM f) (rkM f) n).1 → (g i).toInt = (((ordN (prM f) (rkM f) n).2 i : Nat) : Int)
theorem ORm.ent {f g : Nat → Int32} {sz : Int} {n : Nat} (h : ORm f g sz n) (hn : n ≤ 12) {z : Int} (hz : 0 ≤ z ∧ z < sz) : 0 ≤ aI g z ∧ aI g z ≤ 11 ∧ aI f (10 * aI g z + 0) ≠ -1 := by
  have h1 := h.1
  have h2 := h.2 z.toNat (by omega)
  have h3 := ordN_in (prM f) (rkM f) n z.toNat (by omega)
  have e : aI g z = (((ordN (prM f) (rkM f) n).2 z.toNat : Nat) : Int) := h2
  rw [e]
  exact ⟨by omega, by omega, of_decide_eq_true h3.2⟩
theorem ORm.skip {f g : Nat → Int32} {sz : Int} {n : Nat} (h : ORm f g sz n) (hn : aI f (10 * (n : Int) + 0) = -1) : ORm f g sz (n + 1) := by
  unfold ORm at h ⊢
  rw [ordN_f (show prM f n = false from decide_eq_false (fun q => q hn))]
  exact h
theorem ORm.step {f g g2 : Nat → Int32} {sz sz2 : Int} {n p : Nat} {xv : Int32} (h : ORm f g sz n) (hn : aI f (10 * (n : Int) + 0) ≠ -1) (hx : xv.toInt = (n : Int)) (hs : sz2 = sz + 1) (hp : p = posR (fun j => aI f (10 * (g j).toInt + 7)) (aI f (10 * (n : Int) + 7)) sz.toNat) (hg : ∀ i : Nat, (i : Int) ≤ sz → g2 i = insF g p xv i) : ORm f g2 sz2 (n + 1) := by
  obtain ⟨h1, h2⟩ := h
  unfold ORm
  rw [ordN_t (show prM f n = true from decide_eq_true hn)]
  have hp2 : p = posR (fun i => rkM f ((ordN (prM f) (rkM f) n).2 i)) (rkM f n) (ordN (prM f) (rkM f) n).1 := by
    rw [hp, show sz.toNat = (ordN (prM f) (rkM f) n).1 from by omega]
    exact posR_congr (fun i hi => by show aI f (10 * (g i).toInt + 7) = aI f (10 * (((ordN (prM f) (rkM f) n).2 i : Nat) : Int) + 7); rw [h2 i hi])
  rw [← hp2]
  refine ⟨by rw [hs, h1]; rfl, fun i hi => ?_⟩
  have hi2 : i < (ordN (prM f) (rkM f) n).1 + 1 := hi
  have hl := posR_le (fun i => rkM f ((ordN (prM f) (rkM f) n).2 i)) (rkM f n) (ordN (prM f) (rkM f) n).1
  rw [← hp2] at hl
  rw [hg i (by omega)]
  show (insF g p xv i).toInt = ((insF _ p n i : Nat) : Int)
  unfold insF
  by_cases e1 : i < p
  · rw [if_pos e1, if_pos e1]
    exact h2 i (by omega)
  · rw [if_neg e1, if_neg e1]
    by_cases e2 : i = p
    · rw [if_pos e2, if_pos e2, hx]
    · rw [if_neg e2, if_neg e2]
      exact h2 (i - 1) (by omega)
/-- unlike questions of a rule of the reference -/
noncomputable def fu1 (f : Nat → Int32) (r1 r2 : Int → Int) (q s : Int) : Option (Int × Int) := if stt r1 (aI f (10 * q + 0)) (aI f (10 * q + 1)) (aI f (10 * q + 2)) (aI f (10 * q + 3)) s ≠ stt r2 (aI f (10 * q + 0)) (aI f (10 * q + 1)) (aI f (10 * q + 2)) (aI f (10 * q + 3)) s then some (q, s) else none
noncomputable def fus (f : Nat → Int32) (r1 r2 : Int → Int) (late q : Int) : List (Int × Int) := if late = 2 ∨ aI f (10 * q + 6) = late then (subs (aI f (10 * q + 0))).filterMap (fu1 f r1 r2 q) else []
noncomputable def fuL (f : Nat → Int32) (r1 r2 : Int → Int) (late : Int) (o : Nat → Nat) : Nat → List (Int × Int)
  | 0 => []
  | n + 1 => fuL f r1 r2 late o n ++ fus f r1 r2 late ((o n : Nat) : Int)
theorem subs_lst (kd : Int) : subs kd = lst (fun i : Nat => (i : Int) + sF kd) (sL kd - sF kd + 1).toNat := by
  unfold subs sF sL lst
  split
  · rfl
  · rfl
/-- what was found, in order -/
def pL (G : XG) (F : Nat → Nat → Nat) (a : Nat) : List (Int × Int) := lst (fun i => ((G.2.1 (F a 17) i).toInt, (G.2.1 (F a 18) i).toInt)) (G.1 a 19).toInt.toNat
theorem pL_push {G u : XG} {F : Nat → Nat → Nat} {a : Nat} {n : Nat} {x0 x1 : Int32} (hn : (G.1 a 19).toInt = n) (hu : (u.1 a 19).toInt = (n : Int) + 1) (h0 : ∀ j, u.2.1 (F a 17) j = if j = n then x0 else G.2.1 (F a 17) j) (h1 : ∀ j, u.2.1 (F a 18) j = if j = n then x1 else G.2.1 (F a 18) j) : pL u F a = pL G F a ++ [(x0.toInt, x1.toInt)] := by
  unfold pL
  rw [hn, hu, show ((n : Int) + 1).toNat = n + 1 from by omega, show (n : Int).toNat = n from by omega]
  refine lst_push (fun i hi => ?_) ?_
  · have e : ¬ (i = n) := by omega
    rw [h0, h1, if_neg e, if_neg e]
  · rw [h0, h1, if_pos rfl, if_pos rfl]
theorem pL_cg {G u : XG} {F : Nat → Nat → Nat} {a : Nat} (hn : u.1 a 19 = G.1 a 19) (h0 : u.2.1 (F a 17) = G.2.1 (F a 17)) (h1 : u.2.1 (F a 18) = G.2.1 (F a 18)) : pL u F a = pL G F a := by
  unfold pL
  rw [hn, h0, h1]
theorem lo_ent {f g g2 : Nat → Int32} {sz k l : Int} (po : ORm f g sz l.toNat) (ps : shf g g2 k.toNat sz.toNat) (h : 0 ≤ l ∧ l ≤ 12 ∧ 1 ≤ k ∧ k ≤ sz) : (0 ≤ aI g2 (k - 1) ∧ aI g2 (k - 1) ≤ 11) ∧ aI g2 (k - 1) = aI g (k - 1) := by
  have e : aI g2 (k - 1) = aI g (k - 1) := congrArg Int32.toInt (ps.1 (k - 1).toNat (by omega))
  have := po.ent (by omega) (z := k - 1) (by omega)
  rw [e]
  exact ⟨⟨this.1, this.2.1⟩, rfl⟩
