section
section XM
variable {p : Program} {l : Launch} {e : Env} {R : Room} {s : State} {m : MethodId} {args : Array Value} {below : List Frame} {meth : Method} {c : Code} {H : Heap} {locs : List Loc} {cells slots : Nat} {Q : State → Prop}
variable {pc : Nat} {ls : Array Slot} {rest : List Value} {H0 : Heap} {E : XE} {cc : ByteArray} {nL : Nat} {own : String} {w0 : Cond} {K : Nat → Nat} {F : Nat → Nat → Nat} {G : XG} {a : Nat} {X Y : Int}
theorem ast_o (S : CallFix p m c cc nL s args (w0 :: GT) own) (hK : XK E s) (hT : TW E K F G H) (hS : va_S (xA E) H0 H locs) {fr : Int} (ha : XO K a fr) {i x : Int32} (hin : 0 ≤ i.toInt ∧ i.toInt < fr + 360) (hdg : decode cc pc = .ok (.iastore, 1)) (kk : ∀ (H1 : Heap) (locs1 : List Loc), TW E K F (cput G a i.toNatClampNeg x) H1 → va_S (xA E) H0 H1 locs1 → W p l e R s m args below meth c H1 locs1 cells slots Q (F0 m (pc + 1) ls rest)) : W p l e R s m args below meth c H locs cells slots Q (F0 m pc ls (.int x :: .int i :: .ref a :: rest)) := by
  rcases ha with ⟨h | h, rfl⟩ | ⟨h, h0, h1⟩
  · exact as_0 S hK hT hS h ar_30 aw_30 (by decide) (by omega) hdg kk
  · exact as_0 S hK hT hS h ar_31 aw_31 (by decide) (by omega) hdg kk
  · exact as_0 S hK hT hS h ar_32 aw_32 (by decide) (by omega) hdg kk
end XM
/-- 360 numbers are copied -/
def CPd (f g g2 : Nat → Int32) (b b2 n : Int) : Prop := ∀ z : Int, 0 ≤ z → aI g2 z = if b2 ≤ z ∧ z < b2 + n then aI f (z - b2 + b) else aI g z
theorem CPd.vwm {f g g2 : Nat → Int32} {b b2 : Int} (h : CPd f g g2 b b2 360) (h2 : 0 ≤ b2) : mw g2 b2 = mw f b := by
  funext z
  unfold mw
  by_cases hz : 0 ≤ z ∧ z < 270
  · have e1 : aI g2 (b2 + 4 * (30 * (z / 90) + z % 30)) = aI f (b + 4 * (30 * (z / 90) + z % 30)) := by rw [h _ (by omega), if_pos (by omega)]; congr 1; omega
    have e2 : aI g2 (b2 + 4 * (30 * (z / 90) + z % 30) + 1 + z / 30 % 3) = aI f (b + 4 * (30 * (z / 90) + z % 30) + 1 + z / 30 % 3) := by rw [h _ (by omega), if_pos (by omega)]; congr 1; omega
    rw [if_pos hz, if_pos hz, e1, e2]
  · rw [if_neg hz, if_neg hz]
theorem CPd.rm {f g g2 : Nat → Int32} {b b2 : Int} (h : CPd f g g2 b b2 360) (h2 : 0 ≤ b2) (hr : RM f b) : RM g2 b2 := by
  intro t k a1 a2 a3 a4
  have e1 : aI g2 (b2 + 4 * (30 * t + k)) = aI f (b + 4 * (30 * t + k)) := by rw [h _ (by omega), if_pos (by omega)]; congr 1; omega
  have e2 : ∀ c : Int, 0 ≤ c → c < 3 → aI g2 (b2 + 4 * (30 * t + k) + 1 + c) = aI f (b + 4 * (30 * t + k) + 1 + c) := fun c c0 c1 => by rw [h _ (by omega), if_pos (by omega)]; congr 1; omega
  rw [e1]
  rcases hr t k a1 a2 a3 a4 with q | ⟨q, q2⟩
  · exact Or.inl q
  · exact Or.inr ⟨q, fun c c0 c1 => by rw [e2 c c0 c1]; exact q2 c c0 c1⟩
theorem CPd.far {f g g2 : Nat → Int32} {b b2 b3 : Int} (h : CPd f g g2 b b2 360) (h3 : 0 ≤ b3) (hf : b3 + 360 ≤ b2 ∨ b2 + 360 ≤ b3) : mw g2 b3 = mw g b3 ∧ (RM g b3 → RM g2 b3) := by
  have e : ∀ z : Int, b3 ≤ z → z < b3 + 360 → aI g2 z = aI g z := fun z z0 z1 => by rw [h z (by omega), if_neg (by omega)]
  constructor
  · funext z
    unfold mw
    by_cases hz : 0 ≤ z ∧ z < 270
    · rw [if_pos hz, if_pos hz, e _ (by omega) (by omega), e _ (by omega) (by omega)]
    · rw [if_neg hz, if_neg hz]
  · intro hr t k a1 a2 a3 a4
    rw [e _ (by omega) (by omega)]
    rcases hr t k a1 a2 a3 a4 with q | ⟨q, q2⟩
    · exact Or.inl q
    · exact Or.inr ⟨q, fun c c0 c1 => by rw [e _ (by omega) (by omega)]; exact q2 c c0 c1⟩
/-- the states of the rules below n are laid down -/
def LSt (f g : Nat → Int32) (r : Int → Int) (n : Int) : Prop := ∀ q s : Int, 0 ≤ q → q < n → aI f (10 * q + 0) ≠ -1 → sbj (aI f (10 * q + 0)) s → aI g (199 * q + s + 99) = stt r (aI f (10 * q + 0)) (aI f (10 * q + 1)) (aI f (10 * q + 2)) (aI f (10 * q + 3)) s
/-- the reference's order -/
def prM (f : Nat → Int32) (i : Nat) : Bool := decide (aI f (10 * (i : Int) + 0) ≠ -1)
def rkM (f : Nat → Int32) (i : Nat) : Int := aI f (10 * (i : Int) + 7)
def ORm (f g : Nat → Int32) (sz : Int) (n : Nat) : Prop := sz = ((ordN (prM f) (rkM f) n).1 : Int) ∧ ∀ i : Nat, i < (ordN (prM f) (rkM f) n).1 → (g i).toInt = (((ordN (prM f) (rkM f) n).2 i : Nat) : Int)
theorem ORm.ent {f g : Nat → Int32} {sz : Int} {n : Nat} (h : ORm f g sz n) (hn : n ≤ 12) {z : Int} (hz : 0 ≤ z ∧ z < sz) : 0 ≤ aI g z ∧ aI g z ≤ 11 ∧ aI f (10 * aI g z + 0) ≠ -1 := by
  have h1 := h.1
  have h2 := h.2 z.toNat (by omega)
  have h3 := ordN_in (prM f) (rkM f) n z.toNat (by omega)
  have e : aI g z = (((ordN (prM f) (rkM f) n).2 z.toNat : Nat) : Int) := h2
  rw [e]
  exact ⟨by omega, by omega, of_decide_eq_true h3.2⟩
theorem ORm.skip {f g : Nat → Int32} {sz : Int} {n : Nat} (h : ORm f g sz n) (hn : aI f (10 * (n : Int) + 0) = -1) : ORm f g sz (n + 1) := by
  unfold ORm at h ⊢
  rw [ordN_f (show prM f n = false from decide_eq_false (fun q => q hn))]
  exact h
theorem ORm.step {f g g2 : Nat → Int32} {sz sz2 : Int} {n p : Nat} {xv : Int32} (h : ORm f g sz n) (hn : aI f (10 * (n : Int) + 0) ≠ -1) (hx : xv.toInt = (n : Int)) (hs : sz2 = sz + 1) (hp : p = posR (fun j => aI f (10 * (g j).toInt + 7)) (aI f (10 * (n : Int) + 7)) sz.toNat) (hg : ∀ i : Nat, (i : Int) ≤ sz → g2 i = insF g p xv i) : ORm f g2 sz2 (n + 1) := by
  obtain ⟨h1, h2⟩ := h
  unfold ORm
  rw [ordN_t (show prM f n = true from decide_eq_true hn)]
  have hp2 : p = posR (fun i => rkM f ((ordN (prM f) (rkM f) n).2 i)) (rkM f n) (ordN (prM f) (rkM f) n).1 := by
    rw [hp, show sz.toNat = (ordN (prM f) (rkM f) n).1 from by omega]
    exact posR_congr (fun i hi => by show aI f (10 * (g i).toInt + 7) = aI f (10 * (((ordN (prM f) (rkM f) n).2 i : Nat) : Int) + 7); rw [h2 i hi])
  rw [← hp2]
  refine ⟨by rw [hs, h1]; rfl, fun i hi => ?_⟩
  have hi2 : i < (ordN (prM f) (rkM f) n).1 + 1 := hi
  have hl := posR_le (fun i => rkM f ((ordN (prM f) (rkM f) n).2 i)) (rkM f n) (ordN (prM f) (rkM f) n).1
  rw [← hp2] at hl
  rw [hg i (by omega)]
  show (insF g p xv i).toInt = ((insF _ p n i : Nat) : Int)
  unfold insF
  by_cases e1 : i < p
  · rw [if_pos e1, if_pos e1]
    exact h2 i (by omega)
  · rw [if_neg e1, if_neg e1]
    by_cases e2 : i = p
    · rw [if_pos e2, if_pos e2, hx]
    · rw [if_neg e2, if_neg e2]
      exact h2 (i - 1) (by omega)
/-- unlike questions of a rule of the reference -/
noncomputable def fu1 (f : Nat → Int32) (r1 r2 : Int → Int) (q s : Int) : Option (Int × Int) := if stt r1 (aI f (10 * q + 0)) (aI f (10 * q + 1)) (aI f (10 * q + 2)) (aI f (10 * q + 3)) s ≠ stt r2 (aI f (10 * q + 0)) (aI f (10 * q + 1)) (aI f (10 * q + 2)) (aI f (10 * q + 3)) s then some (q, s) else none
noncomputable def fus (f : Nat → Int32) (r1 r2 : Int → Int) (late q : Int) : List (Int × Int) := if late = 2 ∨ aI f (10 * q + 6) = late then (subs (aI f (10 * q + 0))).filterMap (fu1 f r1 r2 q) else []
noncomputable def fuL (f : Nat → Int32) (r1 r2 : Int → Int) (late : Int) (o : Nat → Nat) : Nat → List (Int × Int)
  | 0 => []
  | n + 1 => fuL f r1 r2 late o n ++ fus f r1 r2 late ((o n : Nat) : Int)
theorem subs_lst (kd : Int) : subs kd = lst (fun i : Nat => (i : Int) + sF kd) (sL kd - sF kd + 1).toNat := by
  unfold subs sF sL lst
  split
  · rfl
  · rfl
/-- what was found, in order -/
def pL (G : XG) (F : Nat → Nat → Nat) (a : Nat) : List (Int × Int) := lst (fun i => ((G.2.1 (F a 17) i).toInt, (G.2.1 (F a 18) i).toInt)) (G.1 a 19).toInt.toNat
theorem pL_push {G u : XG} {F : Nat → Nat → Nat} {a : Nat} {n : Nat} {x0 x1 : Int32} (hn : (G.1 a 19).toInt = n) (hu : (u.1 a 19).toInt = (n : Int) + 1) (h0 : ∀ j, u.2.1 (F a 17) j = if j = n then x0 else G.2.1 (F a 17) j) (h1 : ∀ j, u.2.1 (F a 18) j = if j = n then x1 else G.2.1 (F a 18) j) : pL u F a = pL G F a ++ [(x0.toInt, x1.toInt)] := by
  unfold pL
  rw [hn, hu, show ((n : Int) + 1).toNat = n + 1 from by omega, show (n : Int).toNat = n from by omega]
  refine lst_push (fun i hi => ?_) ?_
  · have e : ¬ (i = n) := by omega
    rw [h0, h1, if_neg e, if_neg e]
  · rw [h0, h1, if_pos rfl, if_pos rfl]
theorem pL_cg {G u : XG} {F : Nat → Nat → Nat} {a : Nat} (hn : u.1 a 19 = G.1 a 19) (h0 : u.2.1 (F a 17) = G.2.1 (F a 17)) (h1 : u.2.1 (F a 18) = G.2.1 (F a 18)) : pL u F a = pL G F a := by
  unfold pL
  rw [hn, h0, h1]
theorem lo_ent {f g g2 : Nat → Int32} {sz k l : Int} (po : ORm f g sz l.toNat) (ps : shf g g2 k.toNat sz.toNat) (h : 0 ≤ l ∧ l ≤ 12 ∧ 1 ≤ k ∧ k ≤ sz) : (0 ≤ aI g2 (k - 1) ∧ aI g2 (k - 1) ≤ 11) ∧ aI g2 (k - 1) = aI g (k - 1) := by
  have e : aI g2 (k - 1) = aI g (k - 1) := congrArg Int32.toInt (ps.1 (k - 1).toNat (by omega))
  have := po.ent (by omega) (z := k - 1) (by omega)
  rw [e]
  exact ⟨⟨this.1, this.2.1⟩, rfl⟩
end
theorem v_X11_copy_29_1 (p2 : Nat) (G : XG) (G_3 : XG) (p0 : Nat) (p1 : Int32) (p3 : Int32) (l4_3 : Int32) (N3 : Nat)
    (hne : p0 ≠ p2)
    (pc : CPd (G.2.1 p0) (G.2.1 p2) (G_3.2.1 p2) (p1.toInt) (p3.toInt) l4_3.toInt)
    (f3 : 0 ≤ p1.toInt ∧ p1.toInt ≤ 2520)
    (f4 : 0 ≤ p3.toInt ∧ p3.toInt ≤ 2520)
    (I3_0 : 0 ≤ l4_3.toInt ∧ l4_3.toInt ≤ 360)
    (I3_1 : (0 : Int) ≤ l4_3.toInt)
    (hm3 : 2147483648 - l4_3.toInt < (((N3) + 1 : Nat) : Int))
    (c8 : (360 : Int) ≤ l4_3.toInt) :
    CPd (G.2.1 p0) (G.2.1 p2) (G_3.2.1 p2) (p1.toInt) (p3.toInt) 360 := by
  rw [show (360 : Int) = l4_3.toInt from by omega]; exact pc
theorem v_X11_copy_26_2 (p2 : Nat) (G : XG) (G_3 : XG) (G22 : XG) (x15 : Int32) (x21 : Int32) (p0 : Nat) (p1 : Int32) (p3 : Int32) (l4_3 : Int32) (N3 : Nat)
    (hG22 : G22 = cput G_3 p2 x15.toNatClampNeg x21)
    (hne : p0 ≠ p2)
    (pc : CPd (G.2.1 p0) (G.2.1 p2) (G_3.2.1 p2) (p1.toInt) (p3.toInt) l4_3.toInt)
    (e15 : x15.toInt = (p3.toInt + l4_3.toInt))
    (hv21 : x21.toInt = (aI (G.2.1 p0) (p1.toInt + l4_3.toInt)))
    (f8 : 0 ≤ p1.toInt ∧ p1.toInt ≤ 2520)
    (f9 : 0 ≤ p3.toInt ∧ p3.toInt ≤ 2520)
    (I3_0 : 0 ≤ l4_3.toInt ∧ l4_3.toInt ≤ 360)
    (I3_1 : (0 : Int) ≤ l4_3.toInt)
    (hm3 : 2147483648 - l4_3.toInt < (((N3) + 1 : Nat) : Int))
    (c8 : ¬ ((360 : Int) ≤ l4_3.toInt)) :
    CPd (G.2.1 p0) (G.2.1 p2) (G22.2.1 p2) (p1.toInt) (p3.toInt) (l4_3.toInt + 1) := by
  intro z hz
  rw [hG22, aI_put (by omega) z hz, pc z hz]
  by_cases e : z = x15.toInt
  · rw [if_pos e, if_pos (by omega), hv21]
    congr 1
    omega
  · rw [if_neg e]
    by_cases g : p3.toInt ≤ z ∧ z < p3.toInt + l4_3.toInt
    · rw [if_pos g, if_pos (by omega)]
    · rw [if_neg g, if_neg (by omega)]
theorem v_X11_copy_1_3 (p0 : Nat) (p2 : Nat) (p1 : Int32) (p3 : Int32) (G : XG)
    (hne : p0 ≠ p2)
    (f1 : 0 ≤ p1.toInt ∧ p1.toInt ≤ 2520)
    (f2 : 0 ≤ p3.toInt ∧ p3.toInt ≤ 2520) :
    CPd (G.2.1 p0) (G.2.1 p2) (G.2.1 p2) (p1.toInt) (p3.toInt) (0 : Int) := by
  intro z hz; rw [if_neg (by omega)]
theorem v_X11_layStates_69_1 {K : Nat → Nat} {F : Nat → Nat → Nat} (a : Nat) (p0 : Nat) (G : XG) (G_3 : XG) (p1 : Nat) (p2 : Int32) (l4_3 : Int32) (N3 : Nat)
    (ha : K a = 13)
    (hp0 : K p0 = 38)
    (pl : LSt (G.2.1 (F a 10)) (G_3.2.1 p0) (mw (G.2.1 p1) (p2.toInt)) l4_3.toInt)
    (lo : G_3.2.2.2 = G.2.2.2)
    (f9 : 0 ≤ p2.toInt ∧ p2.toInt ≤ 2520)
    (I3_0 : 0 ≤ l4_3.toInt ∧ l4_3.toInt ≤ 12)
    (I3_1 : (0 : Int) ≤ l4_3.toInt)
    (hm3 : 2147483648 - l4_3.toInt < (((N3) + 1 : Nat) : Int))
    (c7 : (12 : Int) ≤ l4_3.toInt) :
    LSt (G.2.1 (F a 10)) (G_3.2.1 p0) (mw (G.2.1 p1) (p2.toInt)) 12 := by
  rw [show (12 : Int) = l4_3.toInt from by omega]; exact pl
theorem v_X11_layStates_69_2 (G : XG) (G_3 : XG)
    (lo : G_3.2.2.2 = G.2.2.2) :
    G_3.2.2.2 = G.2.2.2 := by
  first
    | exact lo
    | rfl
    | (rw [hG56]; exact lo)
theorem v_X11_layStates_66_3 {K : Nat → Nat} {F : Nat → Nat → Nat} (a : Nat) (p0 : Nat) (G : XG) (G_3 : XG) (p1 : Nat) (p2 : Int32) (l4_3 : Int32) (N3 : Nat) (x13 : Int32)
    (ha : K a = 13)
    (hp0 : K p0 = 38)
    (pl : LSt (G.2.1 (F a 10)) (G_3.2.1 p0) (mw (G.2.1 p1) (p2.toInt)) l4_3.toInt)
    (lo : G_3.2.2.2 = G.2.2.2)
    (f10 : 0 ≤ p2.toInt ∧ p2.toInt ≤ 2520)
    (I3_0 : 0 ≤ l4_3.toInt ∧ l4_3.toInt ≤ 12)
    (I3_1 : (0 : Int) ≤ l4_3.toInt)
    (hm3 : 2147483648 - l4_3.toInt < (((N3) + 1 : Nat) : Int))
    (c7 : ¬ ((12 : Int) ≤ l4_3.toInt))
    (t13 : (x13.toInt = 1 ∧ 0 ≤ l4_3.toInt ∧ l4_3.toInt ≤ 11 ∧ (aI (G.2.1 (F a 10)) (10 * l4_3.toInt + 0)) ≠ -1) ∨ (x13.toInt = 0 ∧ (¬ (0 ≤ l4_3.toInt ∧ l4_3.toInt ≤ 11) ∨ (aI (G.2.1 (F a 10)) (10 * l4_3.toInt + 0)) = -1)))
    (c16 : x13.toInt = 0) :
    LSt (G.2.1 (F a 10)) (G_3.2.1 p0) (mw (G.2.1 p1) (p2.toInt)) (l4_3.toInt + 1) := by
  intro q s h1 h2 h3 h4
  by_cases e : q = l4_3.toInt
  · subst e
    first
      | exact absurd h3 (by omega)
      | (have h5 := sbj_FL.mp h4
         exact pi s h5.1 (by omega))
  · exact pl q s h1 (by omega) h3 h4
theorem v_X11_layStates_66_4 (G : XG) (G_3 : XG)
    (lo : G_3.2.2.2 = G.2.2.2) :
    G_3.2.2.2 = G.2.2.2 := by
  exact lo
theorem v_X11_layStates_66_5 {K : Nat → Nat} {F : Nat → Nat → Nat} (a : Nat) (p0 : Nat) (G : XG) (G_27 : XG) (p1 : Nat) (p2 : Int32) (l4_3 : Int32) (l5_27 : Int32) (N3 : Nat) (x13 : Int32) (N27 : Nat)
    (ha : K a = 13)
    (hp0 : K p0 = 38)
    (lo : G_27.2.2.2 = G.2.2.2)
    (pl : LSt (G.2.1 (F a 10)) (G_27.2.1 p0) (mw (G.2.1 p1) (p2.toInt)) l4_3.toInt)
    (pi : ∀ s : Int, sF (aI (G.2.1 (F a 10)) (10 * l4_3.toInt + 0)) ≤ s → s < l5_27.toInt → aI (G_27.2.1 p0) (199 * l4_3.toInt + s + 99) = stt (mw (G.2.1 p1) (p2.toInt)) (aI (G.2.1 (F a 10)) (10 * l4_3.toInt + 0)) (aI (G.2.1 (F a 10)) (10 * l4_3.toInt + 1)) (aI (G.2.1 (F a 10)) (10 * l4_3.toInt + 2)) (aI (G.2.1 (F a 10)) (10 * l4_3.toInt + 3)) (s))
    (f14 : 0 ≤ p2.toInt ∧ p2.toInt ≤ 2520)
    (I3_0 : 0 ≤ l4_3.toInt ∧ l4_3.toInt ≤ 12)
    (I3_1 : (0 : Int) ≤ l4_3.toInt)
    (hm3 : 2147483648 - l4_3.toInt < (((N3) + 1 : Nat) : Int))
    (c7 : ¬ ((12 : Int) ≤ l4_3.toInt))
    (t13 : (x13.toInt = 1 ∧ 0 ≤ l4_3.toInt ∧ l4_3.toInt ≤ 11 ∧ (aI (G.2.1 (F a 10)) (10 * l4_3.toInt + 0)) ≠ -1) ∨ (x13.toInt = 0 ∧ (¬ (0 ≤ l4_3.toInt ∧ l4_3.toInt ≤ 11) ∨ (aI (G.2.1 (F a 10)) (10 * l4_3.toInt + 0)) = -1)))
    (c16 : ¬ (x13.toInt = 0))
    (z19 : (-1 ≤ (aI (G.2.1 (F a 10)) (10 * l4_3.toInt + 0)) ∧ (aI (G.2.1 (F a 10)) (10 * l4_3.toInt + 0)) ≤ 5) ∧ (0 ≤ (aI (G.2.1 (F a 10)) (10 * l4_3.toInt + 1)) ∧ (aI (G.2.1 (F a 10)) (10 * l4_3.toInt + 1)) ≤ 2) ∧ (0 ≤ (aI (G.2.1 (F a 10)) (10 * l4_3.toInt + 2)) ∧ (aI (G.2.1 (F a 10)) (10 * l4_3.toInt + 2)) ≤ 2) ∧ (-1 ≤ (aI (G.2.1 (F a 10)) (10 * l4_3.toInt + 3)) ∧ (aI (G.2.1 (F a 10)) (10 * l4_3.toInt + 3)) ≤ 2) ∧ ((aI (G.2.1 (F a 10)) (10 * l4_3.toInt + 0)) = 1 ∨ (aI (G.2.1 (F a 10)) (10 * l4_3.toInt + 0)) = 3 ∨ (aI (G.2.1 (F a 10)) (10 * l4_3.toInt + 0)) = 4 → 0 ≤ (aI (G.2.1 (F a 10)) (10 * l4_3.toInt + 3))))
    (z19a : (((aI (G.2.1 (F a 10)) (10 * l4_3.toInt + 0)) = 2 ∨ (aI (G.2.1 (F a 10)) (10 * l4_3.toInt + 0)) = 4 ∨ (aI (G.2.1 (F a 10)) (10 * l4_3.toInt + 0)) = 5) ∧ (sF (aI (G.2.1 (F a 10)) (10 * l4_3.toInt + 0))) = 0 ∧ (sL (aI (G.2.1 (F a 10)) (10 * l4_3.toInt + 0))) = 29) ∨ (¬ ((aI (G.2.1 (F a 10)) (10 * l4_3.toInt + 0)) = 2 ∨ (aI (G.2.1 (F a 10)) (10 * l4_3.toInt + 0)) = 4 ∨ (aI (G.2.1 (F a 10)) (10 * l4_3.toInt + 0)) = 5) ∧ (sF (aI (G.2.1 (F a 10)) (10 * l4_3.toInt + 0))) = -99 ∧ (sL (aI (G.2.1 (F a 10)) (10 * l4_3.toInt + 0))) = 99))
    (I27_0 : (sF (aI (G.2.1 (F a 10)) (10 * l4_3.toInt + 0))) ≤ l5_27.toInt ∧ l5_27.toInt ≤ (sL (aI (G.2.1 (F a 10)) (10 * l4_3.toInt + 0))) + 1)
    (hm27 : 2147483648 - l5_27.toInt < (((N27) + 1 : Nat) : Int))
    (c35 : (sL (aI (G.2.1 (F a 10)) (10 * l4_3.toInt + 0))) < l5_27.toInt) :
    LSt (G.2.1 (F a 10)) (G_27.2.1 p0) (mw (G.2.1 p1) (p2.toInt)) (l4_3.toInt + 1) := by
  intro q s h1 h2 h3 h4
  by_cases e : q = l4_3.toInt
  · subst e
    first
      | exact absurd h3 (by omega)
      | (have h5 := sbj_FL.mp h4
         exact pi s h5.1 (by omega))
  · exact pl q s h1 (by omega) h3 h4
theorem v_X11_layStates_66_6 (G : XG) (G_27 : XG)
    (lo : G_27.2.2.2 = G.2.2.2) :
    G_27.2.2.2 = G.2.2.2 := by
  exact lo
theorem v_X11_layStates_53_7 {F : Nat → Nat → Nat} (a : Nat) (G : XG) (G_27 : XG)
    (hR : RV (G.2.1 (F a 10)))
    (c_G_27_F_a_10 : G_27.2.1 (F a 10) = G.2.1 (F a 10)) :
    RV (G_27.2.1 (F a 10)) := by simp only [c_G_27_F_a_10]; assumption
theorem v_X11_layStates_53_8 (G : XG) (G_27 : XG) (p1 : Nat) (p2 : Int32)
    (hM : RM (G.2.1 p1) (p2.toInt))
    (c_G_27_p1 : G_27.2.1 p1 = G.2.1 p1) :
    RM (G_27.2.1 p1) (p2.toInt) := by simp only [c_G_27_p1]; assumption
theorem v_X11_layStates_60_9 (p0 : Nat) (G : XG) (G_27 : XG) (G56 : XG) (x43 : Int32) (x53 : Int32)
    (hG56 : G56 = cput G_27 p0 x43.toNatClampNeg x53)
    (lo : G_27.2.2.2 = G.2.2.2) :
    G56.2.2.2 = G.2.2.2 := by
  first
    | exact lo
    | rfl
    | (rw [hG56]; exact lo)
theorem v_X11_layStates_60_10 {K : Nat → Nat} {F : Nat → Nat → Nat} (a : Nat) (p0 : Nat) (G : XG) (G_27 : XG) (G56 : XG) (x43 : Int32) (x53 : Int32) (p1 : Nat) (p2 : Int32) (l4_3 : Int32) (l5_27 : Int32) (N3 : Nat) (x13 : Int32) (N27 : Nat)
    (ha : K a = 13)
    (hp0 : K p0 = 38)
    (hG56 : G56 = cput G_27 p0 x43.toNatClampNeg x53)
    (lo : G_27.2.2.2 = G.2.2.2)
    (pl : LSt (G.2.1 (F a 10)) (G_27.2.1 p0) (mw (G.2.1 p1) (p2.toInt)) l4_3.toInt)
    (t43 : x43.toInt = 199 * l4_3.toInt + l5_27.toInt + 99)
    (t53 : x53.toInt = (stt (mw (G.2.1 p1) (p2.toInt)) (aI (G.2.1 (F a 10)) (10 * l4_3.toInt + 0)) (aI (G.2.1 (F a 10)) (10 * l4_3.toInt + 1)) (aI (G.2.1 (F a 10)) (10 * l4_3.toInt + 2)) (aI (G.2.1 (F a 10)) (10 * l4_3.toInt + 3)) (l5_27.toInt)))
    (f17 : 0 ≤ p2.toInt ∧ p2.toInt ≤ 2520)
    (I3_0 : 0 ≤ l4_3.toInt ∧ l4_3.toInt ≤ 12)
    (I3_1 : (0 : Int) ≤ l4_3.toInt)
    (hm3 : 2147483648 - l4_3.toInt < (((N3) + 1 : Nat) : Int))
    (c7 : ¬ ((12 : Int) ≤ l4_3.toInt))
    (t13 : (x13.toInt = 1 ∧ 0 ≤ l4_3.toInt ∧ l4_3.toInt ≤ 11 ∧ (aI (G.2.1 (F a 10)) (10 * l4_3.toInt + 0)) ≠ -1) ∨ (x13.toInt = 0 ∧ (¬ (0 ≤ l4_3.toInt ∧ l4_3.toInt ≤ 11) ∨ (aI (G.2.1 (F a 10)) (10 * l4_3.toInt + 0)) = -1)))
    (c16 : ¬ (x13.toInt = 0))
    (z19 : (-1 ≤ (aI (G.2.1 (F a 10)) (10 * l4_3.toInt + 0)) ∧ (aI (G.2.1 (F a 10)) (10 * l4_3.toInt + 0)) ≤ 5) ∧ (0 ≤ (aI (G.2.1 (F a 10)) (10 * l4_3.toInt + 1)) ∧ (aI (G.2.1 (F a 10)) (10 * l4_3.toInt + 1)) ≤ 2) ∧ (0 ≤ (aI (G.2.1 (F a 10)) (10 * l4_3.toInt + 2)) ∧ (aI (G.2.1 (F a 10)) (10 * l4_3.toInt + 2)) ≤ 2) ∧ (-1 ≤ (aI (G.2.1 (F a 10)) (10 * l4_3.toInt + 3)) ∧ (aI (G.2.1 (F a 10)) (10 * l4_3.toInt + 3)) ≤ 2) ∧ ((aI (G.2.1 (F a 10)) (10 * l4_3.toInt + 0)) = 1 ∨ (aI (G.2.1 (F a 10)) (10 * l4_3.toInt + 0)) = 3 ∨ (aI (G.2.1 (F a 10)) (10 * l4_3.toInt + 0)) = 4 → 0 ≤ (aI (G.2.1 (F a 10)) (10 * l4_3.toInt + 3))))
    (z19a : (((aI (G.2.1 (F a 10)) (10 * l4_3.toInt + 0)) = 2 ∨ (aI (G.2.1 (F a 10)) (10 * l4_3.toInt + 0)) = 4 ∨ (aI (G.2.1 (F a 10)) (10 * l4_3.toInt + 0)) = 5) ∧ (sF (aI (G.2.1 (F a 10)) (10 * l4_3.toInt + 0))) = 0 ∧ (sL (aI (G.2.1 (F a 10)) (10 * l4_3.toInt + 0))) = 29) ∨ (¬ ((aI (G.2.1 (F a 10)) (10 * l4_3.toInt + 0)) = 2 ∨ (aI (G.2.1 (F a 10)) (10 * l4_3.toInt + 0)) = 4 ∨ (aI (G.2.1 (F a 10)) (10 * l4_3.toInt + 0)) = 5) ∧ (sF (aI (G.2.1 (F a 10)) (10 * l4_3.toInt + 0))) = -99 ∧ (sL (aI (G.2.1 (F a 10)) (10 * l4_3.toInt + 0))) = 99))
    (I27_0 : (sF (aI (G.2.1 (F a 10)) (10 * l4_3.toInt + 0))) ≤ l5_27.toInt ∧ l5_27.toInt ≤ (sL (aI (G.2.1 (F a 10)) (10 * l4_3.toInt + 0))) + 1)
    (hm27 : 2147483648 - l5_27.toInt < (((N27) + 1 : Nat) : Int))
    (c35 : ¬ ((sL (aI (G.2.1 (F a 10)) (10 * l4_3.toInt + 0))) < l5_27.toInt)) :
    LSt (G.2.1 (F a 10)) (G56.2.1 p0) (mw (G.2.1 p1) (p2.toInt)) l4_3.toInt := by
  intro q s h1 h2 h3 h4
  have h5 := sbj_FL.mp h4
  have h6 := sFL (aI (G.2.1 (F a 10)) (10 * q + 0))
  rw [hG56, aI_put (by omega) _ (by omega), if_neg (by omega)]
  exact pl q s h1 h2 h3 h4
theorem v_X11_layStates_60_11 {K : Nat → Nat} {F : Nat → Nat → Nat} (a : Nat) (p0 : Nat) (G : XG) (G_27 : XG) (G56 : XG) (x43 : Int32) (x53 : Int32) (p1 : Nat) (p2 : Int32) (l4_3 : Int32) (l5_27 : Int32) (N3 : Nat) (x13 : Int32) (N27 : Nat)
    (ha : K a = 13)
    (hp0 : K p0 = 38)
    (hk9999 : K (F a 10) = 37)
    (hj9999 : F (F a 10) 99 = 10)
    (hG56 : G56 = cput G_27 p0 x43.toNatClampNeg x53)
    (lo : G_27.2.2.2 = G.2.2.2)
    (pi : ∀ s : Int, sF (aI (G.2.1 (F a 10)) (10 * l4_3.toInt + 0)) ≤ s → s < l5_27.toInt → aI (G_27.2.1 p0) (199 * l4_3.toInt + s + 99) = stt (mw (G.2.1 p1) (p2.toInt)) (aI (G.2.1 (F a 10)) (10 * l4_3.toInt + 0)) (aI (G.2.1 (F a 10)) (10 * l4_3.toInt + 1)) (aI (G.2.1 (F a 10)) (10 * l4_3.toInt + 2)) (aI (G.2.1 (F a 10)) (10 * l4_3.toInt + 3)) (s))
    (t43 : x43.toInt = 199 * l4_3.toInt + l5_27.toInt + 99)
    (t53 : x53.toInt = (stt (mw (G.2.1 p1) (p2.toInt)) (aI (G.2.1 (F a 10)) (10 * l4_3.toInt + 0)) (aI (G.2.1 (F a 10)) (10 * l4_3.toInt + 1)) (aI (G.2.1 (F a 10)) (10 * l4_3.toInt + 2)) (aI (G.2.1 (F a 10)) (10 * l4_3.toInt + 3)) (l5_27.toInt)))
    (f17 : 0 ≤ p2.toInt ∧ p2.toInt ≤ 2520)
    (I3_0 : 0 ≤ l4_3.toInt ∧ l4_3.toInt ≤ 12)
    (I3_1 : (0 : Int) ≤ l4_3.toInt)
    (hm3 : 2147483648 - l4_3.toInt < (((N3) + 1 : Nat) : Int))
    (c7 : ¬ ((12 : Int) ≤ l4_3.toInt))
    (t13 : (x13.toInt = 1 ∧ 0 ≤ l4_3.toInt ∧ l4_3.toInt ≤ 11 ∧ (aI (G.2.1 (F a 10)) (10 * l4_3.toInt + 0)) ≠ -1) ∨ (x13.toInt = 0 ∧ (¬ (0 ≤ l4_3.toInt ∧ l4_3.toInt ≤ 11) ∨ (aI (G.2.1 (F a 10)) (10 * l4_3.toInt + 0)) = -1)))
    (c16 : ¬ (x13.toInt = 0))
    (z19 : (-1 ≤ (aI (G.2.1 (F a 10)) (10 * l4_3.toInt + 0)) ∧ (aI (G.2.1 (F a 10)) (10 * l4_3.toInt + 0)) ≤ 5) ∧ (0 ≤ (aI (G.2.1 (F a 10)) (10 * l4_3.toInt + 1)) ∧ (aI (G.2.1 (F a 10)) (10 * l4_3.toInt + 1)) ≤ 2) ∧ (0 ≤ (aI (G.2.1 (F a 10)) (10 * l4_3.toInt + 2)) ∧ (aI (G.2.1 (F a 10)) (10 * l4_3.toInt + 2)) ≤ 2) ∧ (-1 ≤ (aI (G.2.1 (F a 10)) (10 * l4_3.toInt + 3)) ∧ (aI (G.2.1 (F a 10)) (10 * l4_3.toInt + 3)) ≤ 2) ∧ ((aI (G.2.1 (F a 10)) (10 * l4_3.toInt + 0)) = 1 ∨ (aI (G.2.1 (F a 10)) (10 * l4_3.toInt + 0)) = 3 ∨ (aI (G.2.1 (F a 10)) (10 * l4_3.toInt + 0)) = 4 → 0 ≤ (aI (G.2.1 (F a 10)) (10 * l4_3.toInt + 3))))
    (z19a : (((aI (G.2.1 (F a 10)) (10 * l4_3.toInt + 0)) = 2 ∨ (aI (G.2.1 (F a 10)) (10 * l4_3.toInt + 0)) = 4 ∨ (aI (G.2.1 (F a 10)) (10 * l4_3.toInt + 0)) = 5) ∧ (sF (aI (G.2.1 (F a 10)) (10 * l4_3.toInt + 0))) = 0 ∧ (sL (aI (G.2.1 (F a 10)) (10 * l4_3.toInt + 0))) = 29) ∨ (¬ ((aI (G.2.1 (F a 10)) (10 * l4_3.toInt + 0)) = 2 ∨ (aI (G.2.1 (F a 10)) (10 * l4_3.toInt + 0)) = 4 ∨ (aI (G.2.1 (F a 10)) (10 * l4_3.toInt + 0)) = 5) ∧ (sF (aI (G.2.1 (F a 10)) (10 * l4_3.toInt + 0))) = -99 ∧ (sL (aI (G.2.1 (F a 10)) (10 * l4_3.toInt + 0))) = 99))
    (I27_0 : (sF (aI (G.2.1 (F a 10)) (10 * l4_3.toInt + 0))) ≤ l5_27.toInt ∧ l5_27.toInt ≤ (sL (aI (G.2.1 (F a 10)) (10 * l4_3.toInt + 0))) + 1)
    (hm27 : 2147483648 - l5_27.toInt < (((N27) + 1 : Nat) : Int))
    (c35 : ¬ ((sL (aI (G.2.1 (F a 10)) (10 * l4_3.toInt + 0))) < l5_27.toInt)) :
    ∀ s : Int, sF (aI (G.2.1 (F a 10)) (10 * l4_3.toInt + 0)) ≤ s → s < (l5_27.toInt + 1) → aI (G56.2.1 p0) (199 * l4_3.toInt + s + 99) = stt (mw (G.2.1 p1) (p2.toInt)) (aI (G.2.1 (F a 10)) (10 * l4_3.toInt + 0)) (aI (G.2.1 (F a 10)) (10 * l4_3.toInt + 1)) (aI (G.2.1 (F a 10)) (10 * l4_3.toInt + 2)) (aI (G.2.1 (F a 10)) (10 * l4_3.toInt + 3)) (s) := by
  intro s h1 h2
  have h6 := sFL (aI (G.2.1 (F a 10)) (10 * l4_3.toInt + 0))
  rw [hG56, aI_put (by omega) _ (by omega)]
  by_cases e : s = l5_27.toInt
  · rw [if_pos (by omega), e]
    omega
  · rw [if_neg (by omega)]
    exact pi s h1 (by omega)
theorem v_X11_layStates_25_12 (G : XG) (G_3 : XG)
    (lo : G_3.2.2.2 = G.2.2.2) :
    G_3.2.2.2 = G.2.2.2 := by
  exact lo
theorem v_X11_layStates_25_13 {F : Nat → Nat → Nat} (a : Nat) (p0 : Nat) (G : XG) (G_3 : XG) (p1 : Nat) (p2 : Int32) (l4_3 : Int32)
    (pl : LSt (G.2.1 (F a 10)) (G_3.2.1 p0) (mw (G.2.1 p1) (p2.toInt)) l4_3.toInt) :
    LSt (G.2.1 (F a 10)) (G_3.2.1 p0) (mw (G.2.1 p1) (p2.toInt)) l4_3.toInt := by
  exact pl
theorem v_X11_layStates_25_14 {K : Nat → Nat} {F : Nat → Nat → Nat} (a : Nat) (p0 : Nat) (G : XG) (G_3 : XG) (p1 : Nat) (p2 : Int32) (l4_3 : Int32) (N3 : Nat) (x13 : Int32)
    (ha : K a = 13)
    (hp0 : K p0 = 38)
    (hk9999 : K (F a 10) = 37)
    (hj9999 : F (F a 10) 99 = 10)
    (lo : G_3.2.2.2 = G.2.2.2)
    (f10 : 0 ≤ p2.toInt ∧ p2.toInt ≤ 2520)
    (I3_0 : 0 ≤ l4_3.toInt ∧ l4_3.toInt ≤ 12)
    (I3_1 : (0 : Int) ≤ l4_3.toInt)
    (hm3 : 2147483648 - l4_3.toInt < (((N3) + 1 : Nat) : Int))
    (c7 : ¬ ((12 : Int) ≤ l4_3.toInt))
    (t13 : (x13.toInt = 1 ∧ 0 ≤ l4_3.toInt ∧ l4_3.toInt ≤ 11 ∧ (aI (G.2.1 (F a 10)) (10 * l4_3.toInt + 0)) ≠ -1) ∨ (x13.toInt = 0 ∧ (¬ (0 ≤ l4_3.toInt ∧ l4_3.toInt ≤ 11) ∨ (aI (G.2.1 (F a 10)) (10 * l4_3.toInt + 0)) = -1)))
    (c16 : ¬ (x13.toInt = 0))
    (z19 : (-1 ≤ (aI (G.2.1 (F a 10)) (10 * l4_3.toInt + 0)) ∧ (aI (G.2.1 (F a 10)) (10 * l4_3.toInt + 0)) ≤ 5) ∧ (0 ≤ (aI (G.2.1 (F a 10)) (10 * l4_3.toInt + 1)) ∧ (aI (G.2.1 (F a 10)) (10 * l4_3.toInt + 1)) ≤ 2) ∧ (0 ≤ (aI (G.2.1 (F a 10)) (10 * l4_3.toInt + 2)) ∧ (aI (G.2.1 (F a 10)) (10 * l4_3.toInt + 2)) ≤ 2) ∧ (-1 ≤ (aI (G.2.1 (F a 10)) (10 * l4_3.toInt + 3)) ∧ (aI (G.2.1 (F a 10)) (10 * l4_3.toInt + 3)) ≤ 2) ∧ ((aI (G.2.1 (F a 10)) (10 * l4_3.toInt + 0)) = 1 ∨ (aI (G.2.1 (F a 10)) (10 * l4_3.toInt + 0)) = 3 ∨ (aI (G.2.1 (F a 10)) (10 * l4_3.toInt + 0)) = 4 → 0 ≤ (aI (G.2.1 (F a 10)) (10 * l4_3.toInt + 3))))
    (z19a : (((aI (G.2.1 (F a 10)) (10 * l4_3.toInt + 0)) = 2 ∨ (aI (G.2.1 (F a 10)) (10 * l4_3.toInt + 0)) = 4 ∨ (aI (G.2.1 (F a 10)) (10 * l4_3.toInt + 0)) = 5) ∧ (sF (aI (G.2.1 (F a 10)) (10 * l4_3.toInt + 0))) = 0 ∧ (sL (aI (G.2.1 (F a 10)) (10 * l4_3.toInt + 0))) = 29) ∨ (¬ ((aI (G.2.1 (F a 10)) (10 * l4_3.toInt + 0)) = 2 ∨ (aI (G.2.1 (F a 10)) (10 * l4_3.toInt + 0)) = 4 ∨ (aI (G.2.1 (F a 10)) (10 * l4_3.toInt + 0)) = 5) ∧ (sF (aI (G.2.1 (F a 10)) (10 * l4_3.toInt + 0))) = -99 ∧ (sL (aI (G.2.1 (F a 10)) (10 * l4_3.toInt + 0))) = 99)) :
    ∀ s : Int, sF (aI (G.2.1 (F a 10)) (10 * l4_3.toInt + 0)) ≤ s → s < (sF (aI (G.2.1 (F a 10)) (10 * l4_3.toInt + 0))) → aI (G_3.2.1 p0) (199 * l4_3.toInt + s + 99) = stt (mw (G.2.1 p1) (p2.toInt)) (aI (G.2.1 (F a 10)) (10 * l4_3.toInt + 0)) (aI (G.2.1 (F a 10)) (10 * l4_3.toInt + 1)) (aI (G.2.1 (F a 10)) (10 * l4_3.toInt + 2)) (aI (G.2.1 (F a 10)) (10 * l4_3.toInt + 3)) (s) := by
  intro s h1 h2; exact absurd h1 (by omega)
theorem v_X11_layStates_1_15 {K : Nat → Nat} {F : Nat → Nat → Nat} (a : Nat) (p0 : Nat) (G : XG) (p1 : Nat) (p2 : Int32)
    (ha : K a = 13)
    (hp0 : K p0 = 38)
    (f6 : 0 ≤ p2.toInt ∧ p2.toInt ≤ 2520) :
    LSt (G.2.1 (F a 10)) (G.2.1 p0) (mw (G.2.1 p1) (p2.toInt)) (0 : Int) := by
  intro q s h1 h2; exact absurd h1 (by omega)
theorem v_X11_layStates_1_16 (G : XG) :
    G.2.2.2 = G.2.2.2 := by
  rfl
theorem v_X11_layOrder_97_1 {K : Nat → Nat} {F : Nat → Nat → Nat} (a : Nat) (G : XG) (G_7 : XG) (l1_7 : Int32) (N7 : Nat)
    (ha : K a = 13)
    (po : ORm (G.2.1 (F a 10)) (G_7.2.1 (F a 15)) ((G_7.1 a 16).toInt) (l1_7.toInt).toNat)
    (lo : G_7.2.2.2 = G.2.2.2)
    (I7_0 : 0 ≤ l1_7.toInt ∧ l1_7.toInt ≤ 12)
    (I7_1 : 0 ≤ ((G_7.1 a 16).toInt) ∧ ((G_7.1 a 16).toInt) ≤ l1_7.toInt)
    (I7_2 : (0 : Int) ≤ l1_7.toInt)
    (hm7 : 2147483648 - l1_7.toInt < (((N7) + 1 : Nat) : Int))
    (c10 : (12 : Int) ≤ l1_7.toInt) :
    ORm (G.2.1 (F a 10)) (G_7.2.1 (F a 15)) ((G_7.1 a 16).toInt) 12 := by
  have e : l1_7.toInt.toNat = 12 := by omega
  rw [e] at po
  exact po
theorem v_X11_layOrder_97_2 (G : XG) (G_7 : XG)
    (lo : G_7.2.2.2 = G.2.2.2) :
    G_7.2.2.2 = G.2.2.2 := by
  exact lo
theorem v_X11_layOrder_94_3 {K : Nat → Nat} {F : Nat → Nat → Nat} (a : Nat) (G : XG) (G_7 : XG) (l1_7 : Int32) (N7 : Nat) (x15 : Int32)
    (ha : K a = 13)
    (po : ORm (G.2.1 (F a 10)) (G_7.2.1 (F a 15)) ((G_7.1 a 16).toInt) (l1_7.toInt).toNat)
    (lo : G_7.2.2.2 = G.2.2.2)
    (I7_0 : 0 ≤ l1_7.toInt ∧ l1_7.toInt ≤ 12)
    (I7_1 : 0 ≤ ((G_7.1 a 16).toInt) ∧ ((G_7.1 a 16).toInt) ≤ l1_7.toInt)
    (I7_2 : (0 : Int) ≤ l1_7.toInt)
    (hm7 : 2147483648 - l1_7.toInt < (((N7) + 1 : Nat) : Int))
    (c10 : ¬ ((12 : Int) ≤ l1_7.toInt))
    (t15 : (x15.toInt = 1 ∧ 0 ≤ l1_7.toInt ∧ l1_7.toInt ≤ 11 ∧ (aI (G.2.1 (F a 10)) (10 * l1_7.toInt + 0)) ≠ -1) ∨ (x15.toInt = 0 ∧ (¬ (0 ≤ l1_7.toInt ∧ l1_7.toInt ≤ 11) ∨ (aI (G.2.1 (F a 10)) (10 * l1_7.toInt + 0)) = -1)))
    (c18 : x15.toInt = 0) :
    ORm (G.2.1 (F a 10)) (G_7.2.1 (F a 15)) ((G_7.1 a 16).toInt) (l1_7.toInt + 1).toNat := by
  have e : (l1_7.toInt + 1).toNat = l1_7.toInt.toNat + 1 := by omega
  have e1 : ((l1_7.toInt.toNat : Nat) : Int) = l1_7.toInt := by omega
  rw [e]
  first
    | exact po.skip (by rw [e1]; omega)
    | (have key : posR (fun j => aI (G.2.1 (F a 10)) (10 * (G_7.2.1 (F a 15) j).toInt + 7)) (aI (G.2.1 (F a 10)) (10 * l1_7.toInt + 7)) l2_26.toInt.toNat = l2_26.toInt.toNat := by
         first
           | (have e5 : l2_26.toInt.toNat = 0 := by omega
              rw [e5]; rfl)
           | (have e5 : l2_26.toInt.toNat = (l2_26.toInt - 1).toNat + 1 := by omega
              rw [e5, posR_here]
              have e3 : aI (G_7.2.1 (F a 15)) (l2_26.toInt - 1) = (G_7.2.1 (F a 15) (l2_26.toInt - 1).toNat).toInt := rfl
              rw [← e3, ← z39.2]
              omega)
       have e4 : l2_26.toNatClampNeg = l2_26.toInt.toNat := rfl
       have hg := shf_ins (g2 := G88.2.1 (F a 15)) (x := l1_7) ps (by rw [c_G88_F_a_15, cput_j hG80, e4, if_pos rfl]) (fun j hj => by rw [c_G88_F_a_15, cput_j hG80, e4, if_neg hj])
       exact po.step (by rw [e1]; omega) e1.symm (by omega) (by rw [e1, ← pp, key]) (fun i hi => hg i (by omega)))
theorem v_X11_layOrder_94_4 (G : XG) (G_7 : XG)
    (lo : G_7.2.2.2 = G.2.2.2) :
    G_7.2.2.2 = G.2.2.2 := by
  first
    | exact lo
    | (rw [hG88, hG80]; exact lo)
theorem v_X11_layOrder_94_5 {K : Nat → Nat} {F : Nat → Nat → Nat} (a : Nat) (G : XG) (G_7 : XG) (G_26 : XG) (G80 : XG) (l2_26 : Int32) (l1_7 : Int32) (G88 : XG) (N7 : Nat) (x15 : Int32) (N26 : Nat)
    (ha : K a = 13)
    (hG80 : G80 = cput G_26 (F a 15) l2_26.toNatClampNeg l1_7)
    (po : ORm (G.2.1 (F a 10)) (G_7.2.1 (F a 15)) ((G_7.1 a 16).toInt) (l1_7.toInt).toNat)
    (lo : G_26.2.2.2 = G.2.2.2)
    (ps : shf (G_7.2.1 (F a 15)) (G_26.2.1 (F a 15)) (l2_26.toInt).toNat ((G_7.1 a 16).toInt).toNat)
    (pp : posR (fun j => aI (G.2.1 (F a 10)) (10 * (G_7.2.1 (F a 15) j).toInt + 7)) (aI (G.2.1 (F a 10)) (10 * l1_7.toInt + 7)) (l2_26.toInt).toNat = posR (fun j => aI (G.2.1 (F a 10)) (10 * (G_7.2.1 (F a 15) j).toInt + 7)) (aI (G.2.1 (F a 10)) (10 * l1_7.toInt + 7)) ((G_7.1 a 16).toInt).toNat)
    (I7_0 : 0 ≤ l1_7.toInt ∧ l1_7.toInt ≤ 12)
    (I7_1 : 0 ≤ ((G_7.1 a 16).toInt) ∧ ((G_7.1 a 16).toInt) ≤ l1_7.toInt)
    (I7_2 : (0 : Int) ≤ l1_7.toInt)
    (hm7 : 2147483648 - l1_7.toInt < (((N7) + 1 : Nat) : Int))
    (c10 : ¬ ((12 : Int) ≤ l1_7.toInt))
    (t15 : (x15.toInt = 1 ∧ 0 ≤ l1_7.toInt ∧ l1_7.toInt ≤ 11 ∧ (aI (G.2.1 (F a 10)) (10 * l1_7.toInt + 0)) ≠ -1) ∨ (x15.toInt = 0 ∧ (¬ (0 ≤ l1_7.toInt ∧ l1_7.toInt ≤ 11) ∨ (aI (G.2.1 (F a 10)) (10 * l1_7.toInt + 0)) = -1)))
    (c18 : ¬ (x15.toInt = 0))
    (I26_0 : 0 ≤ l2_26.toInt ∧ l2_26.toInt ≤ ((G_7.1 a 16).toInt))
    (hm26 : l2_26.toInt + 1 < (((N26) + 1 : Nat) : Int))
    (c27 : l2_26.toInt ≤ 0)
    (c_G88_F_a_15 : G88.2.1 (F a 15) = G80.2.1 (F a 15)) :
    ORm (G.2.1 (F a 10)) (G88.2.1 (F a 15)) (((G_7.1 a 16).toInt) + (1 : Int)) (l1_7.toInt + 1).toNat := by
  have e : (l1_7.toInt + 1).toNat = l1_7.toInt.toNat + 1 := by omega
  have e1 : ((l1_7.toInt.toNat : Nat) : Int) = l1_7.toInt := by omega
  rw [e]
  first
    | exact po.skip (by rw [e1]; omega)
    | (have key : posR (fun j => aI (G.2.1 (F a 10)) (10 * (G_7.2.1 (F a 15) j).toInt + 7)) (aI (G.2.1 (F a 10)) (10 * l1_7.toInt + 7)) l2_26.toInt.toNat = l2_26.toInt.toNat := by
         first
           | (have e5 : l2_26.toInt.toNat = 0 := by omega
              rw [e5]; rfl)
           | (have e5 : l2_26.toInt.toNat = (l2_26.toInt - 1).toNat + 1 := by omega
              rw [e5, posR_here]
              have e3 : aI (G_7.2.1 (F a 15)) (l2_26.toInt - 1) = (G_7.2.1 (F a 15) (l2_26.toInt - 1).toNat).toInt := rfl
              rw [← e3, ← z39.2]
              omega)
       have e4 : l2_26.toNatClampNeg = l2_26.toInt.toNat := rfl
       have hg := shf_ins (g2 := G88.2.1 (F a 15)) (x := l1_7) ps (by rw [c_G88_F_a_15, cput_j hG80, e4, if_pos rfl]) (fun j hj => by rw [c_G88_F_a_15, cput_j hG80, e4, if_neg hj])
       exact po.step (by rw [e1]; omega) e1.symm (by omega) (by rw [e1, ← pp, key]) (fun i hi => hg i (by omega)))
theorem v_X11_layOrder_94_6 {F : Nat → Nat → Nat} (a : Nat) (G : XG) (G_26 : XG) (G80 : XG) (l2_26 : Int32) (l1_7 : Int32) (G88 : XG) (x87 : Int32)
    (hG80 : G80 = cput G_26 (F a 15) l2_26.toNatClampNeg l1_7)
    (hG88 : G88 = dput G80 a 16 x87)
    (lo : G_26.2.2.2 = G.2.2.2) :
    G88.2.2.2 = G.2.2.2 := by
  first
    | exact lo
    | (rw [hG88, hG80]; exact lo)
theorem v_X11_layOrder_94_7 {K : Nat → Nat} {F : Nat → Nat → Nat} (a : Nat) (G : XG) (G_7 : XG) (G_26 : XG) (G80 : XG) (l2_26 : Int32) (l1_7 : Int32) (G88 : XG) (N7 : Nat) (x15 : Int32) (N26 : Nat)
    (ha : K a = 13)
    (hG80 : G80 = cput G_26 (F a 15) l2_26.toNatClampNeg l1_7)
    (po : ORm (G.2.1 (F a 10)) (G_7.2.1 (F a 15)) ((G_7.1 a 16).toInt) (l1_7.toInt).toNat)
    (lo : G_26.2.2.2 = G.2.2.2)
    (ps : shf (G_7.2.1 (F a 15)) (G_26.2.1 (F a 15)) (l2_26.toInt).toNat ((G_7.1 a 16).toInt).toNat)
    (pp : posR (fun j => aI (G.2.1 (F a 10)) (10 * (G_7.2.1 (F a 15) j).toInt + 7)) (aI (G.2.1 (F a 10)) (10 * l1_7.toInt + 7)) (l2_26.toInt).toNat = posR (fun j => aI (G.2.1 (F a 10)) (10 * (G_7.2.1 (F a 15) j).toInt + 7)) (aI (G.2.1 (F a 10)) (10 * l1_7.toInt + 7)) ((G_7.1 a 16).toInt).toNat)
    (I7_0 : 0 ≤ l1_7.toInt ∧ l1_7.toInt ≤ 12)
    (I7_1 : 0 ≤ ((G_7.1 a 16).toInt) ∧ ((G_7.1 a 16).toInt) ≤ l1_7.toInt)
    (I7_2 : (0 : Int) ≤ l1_7.toInt)
    (hm7 : 2147483648 - l1_7.toInt < (((N7) + 1 : Nat) : Int))
    (c10 : ¬ ((12 : Int) ≤ l1_7.toInt))
    (t15 : (x15.toInt = 1 ∧ 0 ≤ l1_7.toInt ∧ l1_7.toInt ≤ 11 ∧ (aI (G.2.1 (F a 10)) (10 * l1_7.toInt + 0)) ≠ -1) ∨ (x15.toInt = 0 ∧ (¬ (0 ≤ l1_7.toInt ∧ l1_7.toInt ≤ 11) ∨ (aI (G.2.1 (F a 10)) (10 * l1_7.toInt + 0)) = -1)))
    (c18 : ¬ (x15.toInt = 0))
    (I26_0 : 0 ≤ l2_26.toInt ∧ l2_26.toInt ≤ ((G_7.1 a 16).toInt))
    (hm26 : l2_26.toInt + 1 < (((N26) + 1 : Nat) : Int))
    (c27 : ¬ (l2_26.toInt ≤ 0))
    (z39 : (0 ≤ (aI (G_26.2.1 (F a 15)) (l2_26.toInt - 1)) ∧ (aI (G_26.2.1 (F a 15)) (l2_26.toInt - 1)) ≤ 11) ∧ (aI (G_26.2.1 (F a 15)) (l2_26.toInt - 1)) = (aI (G_7.2.1 (F a 15)) (l2_26.toInt - 1)))
    (c51 : (aI (G.2.1 (F a 10)) (10 * (aI (G_26.2.1 (F a 15)) (l2_26.toInt - 1)) + 7)) ≤ (aI (G.2.1 (F a 10)) (10 * l1_7.toInt + 7)))
    (c_G88_F_a_15 : G88.2.1 (F a 15) = G80.2.1 (F a 15)) :
    ORm (G.2.1 (F a 10)) (G88.2.1 (F a 15)) (((G_7.1 a 16).toInt) + (1 : Int)) (l1_7.toInt + 1).toNat := by
  have e : (l1_7.toInt + 1).toNat = l1_7.toInt.toNat + 1 := by omega
  have e1 : ((l1_7.toInt.toNat : Nat) : Int) = l1_7.toInt := by omega
  rw [e]
  first
    | exact po.skip (by rw [e1]; omega)
    | (have key : posR (fun j => aI (G.2.1 (F a 10)) (10 * (G_7.2.1 (F a 15) j).toInt + 7)) (aI (G.2.1 (F a 10)) (10 * l1_7.toInt + 7)) l2_26.toInt.toNat = l2_26.toInt.toNat := by
         first
           | (have e5 : l2_26.toInt.toNat = 0 := by omega
              rw [e5]; rfl)
           | (have e5 : l2_26.toInt.toNat = (l2_26.toInt - 1).toNat + 1 := by omega
              rw [e5, posR_here]
              have e3 : aI (G_7.2.1 (F a 15)) (l2_26.toInt - 1) = (G_7.2.1 (F a 15) (l2_26.toInt - 1).toNat).toInt := rfl
              rw [← e3, ← z39.2]
              omega)
       have e4 : l2_26.toNatClampNeg = l2_26.toInt.toNat := rfl
       have hg := shf_ins (g2 := G88.2.1 (F a 15)) (x := l1_7) ps (by rw [c_G88_F_a_15, cput_j hG80, e4, if_pos rfl]) (fun j hj => by rw [c_G88_F_a_15, cput_j hG80, e4, if_neg hj])
       exact po.step (by rw [e1]; omega) e1.symm (by omega) (by rw [e1, ← pp, key]) (fun i hi => hg i (by omega)))
theorem v_X11_layOrder_94_8 {F : Nat → Nat → Nat} (a : Nat) (G : XG) (G_26 : XG) (G80 : XG) (l2_26 : Int32) (l1_7 : Int32) (G88 : XG) (x87 : Int32)
    (hG80 : G80 = cput G_26 (F a 15) l2_26.toNatClampNeg l1_7)
    (hG88 : G88 = dput G80 a 16 x87)
    (lo : G_26.2.2.2 = G.2.2.2) :
    G88.2.2.2 = G.2.2.2 := by
  first
    | exact lo
    | (rw [hG88, hG80]; exact lo)
theorem v_X11_layOrder_71_9 {F : Nat → Nat → Nat} (a : Nat) (G : XG) (G_26 : XG) (G67 : XG) (l2_26 : Int32) (x66 : Int32)
    (hG67 : G67 = cput G_26 (F a 15) l2_26.toNatClampNeg x66)
    (lo : G_26.2.2.2 = G.2.2.2) :
    G67.2.2.2 = G.2.2.2 := by
  rw [hG67]; exact lo
theorem v_X11_layOrder_71_10 {K : Nat → Nat} {F : Nat → Nat → Nat} (a : Nat) (G : XG) (G_7 : XG) (G_26 : XG) (G67 : XG) (l2_26 : Int32) (x66 : Int32) (l1_7 : Int32) (N7 : Nat) (x15 : Int32) (N26 : Nat)
    (ha : K a = 13)
    (hG67 : G67 = cput G_26 (F a 15) l2_26.toNatClampNeg x66)
    (lo : G_26.2.2.2 = G.2.2.2)
    (ps : shf (G_7.2.1 (F a 15)) (G_26.2.1 (F a 15)) (l2_26.toInt).toNat ((G_7.1 a 16).toInt).toNat)
    (pp : posR (fun j => aI (G.2.1 (F a 10)) (10 * (G_7.2.1 (F a 15) j).toInt + 7)) (aI (G.2.1 (F a 10)) (10 * l1_7.toInt + 7)) (l2_26.toInt).toNat = posR (fun j => aI (G.2.1 (F a 10)) (10 * (G_7.2.1 (F a 15) j).toInt + 7)) (aI (G.2.1 (F a 10)) (10 * l1_7.toInt + 7)) ((G_7.1 a 16).toInt).toNat)
    (hv66 : x66.toInt = (aI (G_26.2.1 (F a 15)) (l2_26.toInt - 1)))
    (I7_0 : 0 ≤ l1_7.toInt ∧ l1_7.toInt ≤ 12)
    (I7_1 : 0 ≤ ((G_7.1 a 16).toInt) ∧ ((G_7.1 a 16).toInt) ≤ l1_7.toInt)
    (I7_2 : (0 : Int) ≤ l1_7.toInt)
    (hm7 : 2147483648 - l1_7.toInt < (((N7) + 1 : Nat) : Int))
    (c10 : ¬ ((12 : Int) ≤ l1_7.toInt))
    (t15 : (x15.toInt = 1 ∧ 0 ≤ l1_7.toInt ∧ l1_7.toInt ≤ 11 ∧ (aI (G.2.1 (F a 10)) (10 * l1_7.toInt + 0)) ≠ -1) ∨ (x15.toInt = 0 ∧ (¬ (0 ≤ l1_7.toInt ∧ l1_7.toInt ≤ 11) ∨ (aI (G.2.1 (F a 10)) (10 * l1_7.toInt + 0)) = -1)))
    (c18 : ¬ (x15.toInt = 0))
    (I26_0 : 0 ≤ l2_26.toInt ∧ l2_26.toInt ≤ ((G_7.1 a 16).toInt))
    (hm26 : l2_26.toInt + 1 < (((N26) + 1 : Nat) : Int))
    (c27 : ¬ (l2_26.toInt ≤ 0))
    (z39 : (0 ≤ (aI (G_26.2.1 (F a 15)) (l2_26.toInt - 1)) ∧ (aI (G_26.2.1 (F a 15)) (l2_26.toInt - 1)) ≤ 11) ∧ (aI (G_26.2.1 (F a 15)) (l2_26.toInt - 1)) = (aI (G_7.2.1 (F a 15)) (l2_26.toInt - 1)))
    (c51 : ¬ ((aI (G.2.1 (F a 10)) (10 * (aI (G_26.2.1 (F a 15)) (l2_26.toInt - 1)) + 7)) ≤ (aI (G.2.1 (F a 10)) (10 * l1_7.toInt + 7)))) :
    shf (G_7.2.1 (F a 15)) (G67.2.1 (F a 15)) (l2_26.toInt + (-1)).toNat ((G_7.1 a 16).toInt).toNat := by
  have e : l2_26.toInt.toNat = (l2_26.toInt + -1).toNat + 1 := by omega
  have e4 : l2_26.toNatClampNeg = l2_26.toInt.toNat := rfl
  refine shf_s (g := G_26.2.1 (F a 15)) (by rw [← e]; exact ps) ?_ (fun i hi => ?_)
  · rw [cput_j hG67, e4, if_pos e.symm]
    apply Int32.toInt_inj.mp
    rw [hv66]
    show (G_26.2.1 (F a 15) (l2_26.toInt - 1).toNat).toInt = _
    rw [show (l2_26.toInt - 1).toNat = (l2_26.toInt + -1).toNat from by omega]
  · rw [cput_j hG67, e4, if_neg (by omega)]
theorem v_X11_layOrder_71_11 {K : Nat → Nat} {F : Nat → Nat → Nat} (a : Nat) (G : XG) (G_7 : XG) (G_26 : XG) (l2_26 : Int32) (l1_7 : Int32) (N7 : Nat) (x15 : Int32) (N26 : Nat)
    (ha : K a = 13)
    (lo : G_26.2.2.2 = G.2.2.2)
    (ps : shf (G_7.2.1 (F a 15)) (G_26.2.1 (F a 15)) (l2_26.toInt).toNat ((G_7.1 a 16).toInt).toNat)
    (pp : posR (fun j => aI (G.2.1 (F a 10)) (10 * (G_7.2.1 (F a 15) j).toInt + 7)) (aI (G.2.1 (F a 10)) (10 * l1_7.toInt + 7)) (l2_26.toInt).toNat = posR (fun j => aI (G.2.1 (F a 10)) (10 * (G_7.2.1 (F a 15) j).toInt + 7)) (aI (G.2.1 (F a 10)) (10 * l1_7.toInt + 7)) ((G_7.1 a 16).toInt).toNat)
    (I7_0 : 0 ≤ l1_7.toInt ∧ l1_7.toInt ≤ 12)
    (I7_1 : 0 ≤ ((G_7.1 a 16).toInt) ∧ ((G_7.1 a 16).toInt) ≤ l1_7.toInt)
    (I7_2 : (0 : Int) ≤ l1_7.toInt)
    (hm7 : 2147483648 - l1_7.toInt < (((N7) + 1 : Nat) : Int))
    (c10 : ¬ ((12 : Int) ≤ l1_7.toInt))
    (t15 : (x15.toInt = 1 ∧ 0 ≤ l1_7.toInt ∧ l1_7.toInt ≤ 11 ∧ (aI (G.2.1 (F a 10)) (10 * l1_7.toInt + 0)) ≠ -1) ∨ (x15.toInt = 0 ∧ (¬ (0 ≤ l1_7.toInt ∧ l1_7.toInt ≤ 11) ∨ (aI (G.2.1 (F a 10)) (10 * l1_7.toInt + 0)) = -1)))
    (c18 : ¬ (x15.toInt = 0))
    (I26_0 : 0 ≤ l2_26.toInt ∧ l2_26.toInt ≤ ((G_7.1 a 16).toInt))
    (hm26 : l2_26.toInt + 1 < (((N26) + 1 : Nat) : Int))
    (c27 : ¬ (l2_26.toInt ≤ 0))
    (z39 : (0 ≤ (aI (G_26.2.1 (F a 15)) (l2_26.toInt - 1)) ∧ (aI (G_26.2.1 (F a 15)) (l2_26.toInt - 1)) ≤ 11) ∧ (aI (G_26.2.1 (F a 15)) (l2_26.toInt - 1)) = (aI (G_7.2.1 (F a 15)) (l2_26.toInt - 1)))
    (c51 : ¬ ((aI (G.2.1 (F a 10)) (10 * (aI (G_26.2.1 (F a 15)) (l2_26.toInt - 1)) + 7)) ≤ (aI (G.2.1 (F a 10)) (10 * l1_7.toInt + 7)))) :
    posR (fun j => aI (G.2.1 (F a 10)) (10 * (G_7.2.1 (F a 15) j).toInt + 7)) (aI (G.2.1 (F a 10)) (10 * l1_7.toInt + 7)) (l2_26.toInt + (-1)).toNat = posR (fun j => aI (G.2.1 (F a 10)) (10 * (G_7.2.1 (F a 15) j).toInt + 7)) (aI (G.2.1 (F a 10)) (10 * l1_7.toInt + 7)) ((G_7.1 a 16).toInt).toNat := by
  have e : l2_26.toInt.toNat = (l2_26.toInt + -1).toNat + 1 := by omega
  rw [← pp, e, posR_up]
  have e3 : aI (G_7.2.1 (F a 15)) (l2_26.toInt - 1) = (G_7.2.1 (F a 15) (l2_26.toInt + -1).toNat).toInt := by show (G_7.2.1 (F a 15) (l2_26.toInt - 1).toNat).toInt = _; rw [show (l2_26.toInt - 1).toNat = (l2_26.toInt + -1).toNat from by omega]
  rw [← e3, ← z39.2]
  omega
theorem v_X11_layOrder_25_12 (G : XG) (G_7 : XG)
    (lo : G_7.2.2.2 = G.2.2.2) :
    G_7.2.2.2 = G.2.2.2 := by
  exact lo
theorem v_X11_layOrder_25_13 {F : Nat → Nat → Nat} (a : Nat) (G_7 : XG) :
    shf (G_7.2.1 (F a 15)) (G_7.2.1 (F a 15)) (((G_7.1 a 16).toInt)).toNat ((G_7.1 a 16).toInt).toNat := by
  exact shf_0 _ _
theorem v_X11_layOrder_25_14 {F : Nat → Nat → Nat} (a : Nat) (G : XG) (G_7 : XG) (l1_7 : Int32) :
    posR (fun j => aI (G.2.1 (F a 10)) (10 * (G_7.2.1 (F a 15) j).toInt + 7)) (aI (G.2.1 (F a 10)) (10 * l1_7.toInt + 7)) (((G_7.1 a 16).toInt)).toNat = posR (fun j => aI (G.2.1 (F a 10)) (10 * (G_7.2.1 (F a 15) j).toInt + 7)) (aI (G.2.1 (F a 10)) (10 * l1_7.toInt + 7)) ((G_7.1 a 16).toInt).toNat := by
  rfl
theorem v_X11_layOrder_6_15 {F : Nat → Nat → Nat} (a : Nat) (G2 : XG) (G : XG) :
    ORm (G.2.1 (F a 10)) (G2.2.1 (F a 15)) (0 : Int) (0 : Int).toNat := by
  exact ⟨rfl, fun i hi => absurd hi (Nat.not_lt_zero i)⟩
theorem v_X11_layOrder_6_16 (a : Nat) (G2 : XG) (G : XG)
    (hG2 : G2 = dput G a 16 0) :
    G2.2.2.2 = G.2.2.2 := by
  rw [hG2]; rfl
theorem z_X11_copy_1 (a0 : Int) (h0 : 0 ≤ a0 ∧ a0 ≤ 360) : ¬ (2147483648 - a0 < ((0 : Nat) : Int)) := by omega
theorem z_X11_copy_2 (a0 : Int) (a1 : Int) (a2 : Int) (h0 : 0 ≤ a1 ∧ a1 ≤ 2520) (h1 : 0 ≤ a0 ∧ a0 ≤ 360) (h2 : a2 = (a1 + a0) ∨ (a1 + a0) < -2147483648 ∨ 2147483648 ≤ (a1 + a0)) : a2 = (a1 + a0) := by omega
theorem z_X11_copy_4 (a0 : Int) (a1 : Int) (h0 : 0 ≤ a1 ∧ a1 ≤ 2520) (h1 : 0 ≤ a0 ∧ a0 ≤ 360) (h2 : ¬ ((360 : Int) ≤ a0)) : 0 ≤ (a1 + a0) ∧ (a1 + a0) < a1 + 360 := by omega
theorem z_X11_copy_6 (a0 : Int) (a1 : Int) (h0 : 0 ≤ a0 ∧ a0 ≤ 360) (h1 : a1 = (a0 + 1) ∨ (a0 + 1) < -2147483648 ∨ 2147483648 ≤ (a0 + 1)) : a1 = (a0 + 1) := by omega
theorem z_X11_copy_7 (a0 : Int) (h0 : 0 ≤ a0 ∧ a0 ≤ 360) (h1 : ¬ ((360 : Int) ≤ a0)) : 0 ≤ (a0 + 1) ∧ (a0 + 1) ≤ 360 := by omega
theorem z_X11_copy_8 (a0 : Int) (h0 : 0 ≤ a0 ∧ a0 ≤ 360) : (0 : Int) ≤ (a0 + 1) := by omega
theorem z_X11_copy_9 (a0 : Int) (a1 : Nat) (h0 : 2147483648 - a0 < ((a1 + 1 : Nat) : Int)) : 2147483648 - (a0 + 1) < ((a1 : Nat) : Int) := by omega
abbrev rm_X11_copy : Room := { frames := 0, cells := 0, slots := 0, locals := 0 }
set_option maxHeartbeats 4000000 in
set_option maxRecDepth 100000 in
theorem c_X11_copy (l : Launch) (E : XE) (K : Nat → Nat) (F : Nat → Nat → Nat) (G : XG) (p0 : Nat) (p1 : Int32) (p2 : Nat) (p3 : Int32) (hp0 : XO K p0 p1.toInt) (hp2 : XO K p2 p3.toInt) (hne : p0 ≠ p2) : Met l yX11_copy (xw yX11_copy cX11_copy 5 none) rm_X11_copy (va_Pc [.ref p0, .int p1, .ref p2, .int p3] (XP E K F G)) (XQv E (fun (u : XG) => XFr [] [p2] [] G u ∧ (CPd (G.2.1 p0) (G.2.1 p2) (u.2.1 p2) (p1.toInt) (p3.toInt) 360)) (fun u H => TW E K F u H)) 0 0 (xA E) := by
  refine x_enter (by decide) (Nat.le_of_ble_eq_true rfl) ?_
  intro p e s m args below meth c Q S hr hlk hnm hQ hP ls hl
  obtain ⟨hz, hK, hT⟩ := hP
  obtain ⟨hx, hb, -, -, -⟩ := id S
  obtain ⟨H, hT, hS, hgo⟩ : ∃ H : Heap, TW E K F G H ∧ va_S (xA E) s.heap H [] ∧ H = s.heap := ⟨_, hT, va_S.rf, rfl⟩
  rw [← hgo]
  have hl : lv_has ls 5 [(0, .ref p0), (1, .int p1), (2, .ref p2), (3, .int p3)] := hl
  refine lv_iconst (v := 0) hx hb dX11_copy_0 (by decide) ?_
  refine lv_istore (lv' := [(4, .int 0), (0, .ref p0), (1, .int p1), (2, .ref p2), (3, .int p3)]) hx hb dX11_copy_1 hl (by decide) rfl (fun ls hl => ?_)
  have L3 : ∀ (N3 : Nat) (l4_3 : Int32) (G_3 : XG) (H : Heap) (locs : List Loc) (ls : Array Slot), XFr [] [p2] [] G G_3 → CPd (G.2.1 p0) (G.2.1 p2) (G_3.2.1 p2) (p1.toInt) (p3.toInt) l4_3.toInt → 0 ≤ l4_3.toInt ∧ l4_3.toInt ≤ 360 → (0 : Int) ≤ l4_3.toInt → 2147483648 - l4_3.toInt < ((N3 : Nat) : Int) → TW E K F G_3 H → va_S (xA E) s.heap H locs → lv_has ls 5 [(0, .ref p0), (1, .int p1), (2, .ref p2), (3, .int p3), (4, .int l4_3)] → W p l e rm_X11_copy s m args below meth c H locs 0 0 Q (F0 m 3 ls []) := by
    intro N3
    induction N3 with
    | zero =>
      intro l4_3 G_3 H locs ls hF_3 pc I3_0 I3_1 hm3
      exact absurd hm3 (z_X11_copy_1 l4_3.toInt I3_0)
    | succ N3 ih3 =>
      intro l4_3 G_3 H locs ls hF_3 pc I3_0 I3_1 hm3 hT hS hl
      refine lv_iload hx hb dX11_copy_3 (lv_at hl 4 rfl) ?_
      refine lv_sipush (v := 360) hx hb dX11_copy_5 (by decide) ?_
      refine xi_cge (tgt := 29) hx hb (rfl : Int32.toInt l4_3 = l4_3.toInt) ((by decide) : Int32.toInt 360 = (360 : Int)) dX11_copy_8 (by decide) (fun c8 => ?_) (fun c8 => ?_)
      · exact x_rv hx hb hr hlk hQ (Nat.le_of_ble_eq_true rfl) (Nat.le_of_ble_eq_true rfl) hS dX11_copy_29 G_3 ⟨(XFr.call XFr.rf hF_3 xm0 (xm1 0 rfl xm0) xm0), (v_X11_copy_29_1 p2 G G_3 p0 p1 p3 l4_3 N3 hne pc (XO.lim hp0) (XO.lim hp2) I3_0 I3_1 hm3 c8)⟩ hT
      · refine lv_aload_n hx hb dX11_copy_11 rfl (lv_at hl 2 rfl) ?_
        refine lv_iload_n hx hb dX11_copy_12 rfl (lv_at hl 3 rfl) ?_
        refine lv_iload hx hb dX11_copy_13 (lv_at hl 4 rfl) ?_
        refine xi_iadd hx hb (rfl : Int32.toInt p3 = p3.toInt) (rfl : Int32.toInt l4_3 = l4_3.toInt) dX11_copy_15 (fun x15 t15 => ?_)
        have e15 : x15.toInt = (p3.toInt + l4_3.toInt) := (z_X11_copy_2 l4_3.toInt p3.toInt x15.toInt (XO.lim hp2) I3_0 t15)
        refine lv_aload_n hx hb dX11_copy_16 rfl (lv_at hl 0 rfl) ?_
        refine lv_iload_n hx hb dX11_copy_17 rfl (lv_at hl 1 rfl) ?_
        refine lv_iload hx hb dX11_copy_18 (lv_at hl 4 rfl) ?_
        refine xi_iadd hx hb (rfl : Int32.toInt p1 = p1.toInt) (rfl : Int32.toInt l4_3 = l4_3.toInt) dX11_copy_20 (fun x20 t20 => ?_)
        have e20 : x20.toInt = (p1.toInt + l4_3.toInt) := (z_X11_copy_2 l4_3.toInt p1.toInt x20.toInt (XO.lim hp0) I3_0 t20)
        refine ald_of S hK hT hp0 (by rw [(e20 : Int32.toInt x20 = (p1.toInt + l4_3.toInt))]; exact (z_X11_copy_4 l4_3.toInt p1.toInt (XO.lim hp0) I3_0 c8)) dX11_copy_21 (fun x21 hv21 => ?_)
        have hv21 : x21.toInt = (aI (G.2.1 p0) (p1.toInt + l4_3.toInt)) := hv21.trans (by rw [(e20 : Int32.toInt x20 = (p1.toInt + l4_3.toInt)), ((hF_3.2.1 _ (xn1 hne xn0)) : G_3.2.1 p0 = G.2.1 p0)])
        refine ast_o (x := x21) S hK hT hS hp2 (by rw [(e15 : Int32.toInt x15 = (p3.toInt + l4_3.toInt))]; exact (z_X11_copy_4 l4_3.toInt p3.toInt (XO.lim hp2) I3_0 c8)) dX11_copy_22 (fun H locs hT hS => ?_)
        obtain ⟨G22, hG22⟩ : ∃ GG : XG, GG = cput G_3 p2 x15.toNatClampNeg x21 := ⟨_, rfl⟩
        rw [← hG22] at hT
        refine xi_iinc (n := 1) (lv' := fun z9 => [(4, .int z9), (0, .ref p0), (1, .int p1), (2, .ref p2), (3, .int p3)]) (k := 4) hx hb (rfl : Int32.toInt l4_3 = l4_3.toInt) (by decide) dX11_copy_23 hl rfl (by decide) (fun _ => rfl) (fun x23 ls t23 hl => ?_)
        have e23 : x23.toInt = (l4_3.toInt + 1) := (z_X11_copy_6 l4_3.toInt x23.toInt I3_0 t23)
        have hl : lv_has ls 5 [(4, .int x23), (0, .ref p0), (1, .int p1), (2, .ref p2), (3, .int p3)] := hl
        refine lv_goto (tgt := 3) hx hb dX11_copy_26 (by decide) ?_
        exact ih3 x23 G22 _ _ _ (by rw [hG22]; exact XFr.cput (XFr.call XFr.rf hF_3 xm0 (xm1 0 rfl xm0) xm0) (List.mem_of_getElem? (i := 0) rfl)) (by rw [(e23 : Int32.toInt x23 = (l4_3.toInt + 1))] <;> exact (v_X11_copy_26_2 p2 G G_3 G22 x15 x21 p0 p1 p3 l4_3 N3 hG22 hne pc e15 hv21 (XO.lim hp0) (XO.lim hp2) I3_0 I3_1 hm3 c8)) (by rw [(e23 : Int32.toInt x23 = (l4_3.toInt + 1))] <;> exact (z_X11_copy_7 l4_3.toInt I3_0 c8)) (by rw [(e23 : Int32.toInt x23 = (l4_3.toInt + 1))] <;> exact (z_X11_copy_8 l4_3.toInt I3_0)) (by rw [(e23 : Int32.toInt x23 = (l4_3.toInt + 1))] <;> exact (z_X11_copy_9 l4_3.toInt N3 hm3)) hT hS (lv_sub hl [1, 2, 3, 4, 0] rfl)
  exact L3 4294967297 0 G _ _ _ XFr.rf (v_X11_copy_1_3 p0 p2 p1 p3 G hne (XO.lim hp0) (XO.lim hp2)) (by decide) (by decide) (by decide) hT hS (lv_sub hl [1, 2, 3, 4, 0] rfl)

theorem z_X11_layStates_1 (a0 : Int) (h0 : 0 ≤ a0 ∧ a0 ≤ 12) : ¬ (2147483648 - a0 < ((0 : Nat) : Int)) := by omega
theorem z_X11_layStates_2 (a0 : Int) (a1 : Int) (h0 : 0 ≤ a0 ∧ a0 ≤ 12) (h1 : a1 = (a0 + 1) ∨ (a0 + 1) < -2147483648 ∨ 2147483648 ≤ (a0 + 1)) : a1 = (a0 + 1) := by omega
theorem z_X11_layStates_3 (a0 : Int) (h0 : 0 ≤ a0 ∧ a0 ≤ 12) (h1 : ¬ ((12 : Int) ≤ a0)) : 0 ≤ (a0 + 1) ∧ (a0 + 1) ≤ 12 := by omega
theorem z_X11_layStates_4 (a0 : Int) (h0 : 0 ≤ a0 ∧ a0 ≤ 12) : (0 : Int) ≤ (a0 + 1) := by omega
theorem z_X11_layStates_6 (a0 : Int) (h0 : 0 ≤ a0 ∧ a0 ≤ 12) (h1 : ¬ ((12 : Int) ≤ a0)) : 0 ≤ a0 ∧ a0 ≤ 11 := by omega
theorem z_X11_layStates_8 (a0 : Int) (h0 : -2147483648 ≤ a0 ∧ a0 < 2147483648) : ¬ (2147483648 - a0 < ((0 : Nat) : Int)) := by omega
theorem z_X11_layStates_14 (a0 : Int) (a1 : Int) (a2 : Int) (a3 : Int) (a4 : Int) (h0 : 0 ≤ a0 ∧ a0 ≤ 12) (h1 : ¬ ((12 : Int) ≤ a0)) (h2 : ((a2 = 2 ∨ a2 = 4 ∨ a2 = 5) ∧ a3 = 0 ∧ a4 = 29) ∨ (¬ (a2 = 2 ∨ a2 = 4 ∨ a2 = 5) ∧ a3 = -99 ∧ a4 = 99)) (h3 : a3 ≤ a1 ∧ a1 ≤ a4 + 1) (h4 : ¬ (a4 < a1)) : 0 ≤ a0 ∧ a0 ≤ 11 ∧ -99 ≤ a1 ∧ a1 ≤ 99 := by omega
theorem z_X11_layStates_16 (a0 : Int) (a1 : Int) (a2 : Int) (h0 : (a1 = 1 ∧ 0 ≤ a0 ∧ a0 ≤ 11 ∧ a2 ≠ -1) ∨ (a1 = 0 ∧ (¬ (0 ≤ a0 ∧ a0 ≤ 11) ∨ a2 = -1))) (h1 : ¬ (a1 = 0)) : a2 ≠ -1 := by omega
theorem z_X11_layStates_17 (a0 : Int) (a1 : Int) (a2 : Int) (h0 : a1 ≤ a0 ∧ a0 ≤ a2 + 1) (h1 : ¬ (a2 < a0)) : a1 ≤ a0 ∧ a0 ≤ a2 := by omega
theorem z_X11_layStates_18 (a0 : Int) (a1 : Int) (a2 : Int) (a3 : Int) (a4 : Int) (h0 : 0 ≤ a0 ∧ a0 ≤ 12) (h1 : ¬ ((12 : Int) ≤ a0)) (h2 : ((a2 = 2 ∨ a2 = 4 ∨ a2 = 5) ∧ a3 = 0 ∧ a4 = 29) ∨ (¬ (a2 = 2 ∨ a2 = 4 ∨ a2 = 5) ∧ a3 = -99 ∧ a4 = 99)) (h3 : a3 ≤ a1 ∧ a1 ≤ a4 + 1) (h4 : ¬ (a4 < a1)) : 0 ≤ 199 * a0 + a1 + 99 ∧ 199 * a0 + a1 + 99 < ((2388 : Nat) : Int) := by omega
theorem z_X11_layStates_19 (a0 : Int) (a1 : Int) (a2 : Int) (a3 : Int) (a4 : Int) (h0 : ((a2 = 2 ∨ a2 = 4 ∨ a2 = 5) ∧ a3 = 0 ∧ a4 = 29) ∨ (¬ (a2 = 2 ∨ a2 = 4 ∨ a2 = 5) ∧ a3 = -99 ∧ a4 = 99)) (h1 : ¬ (a4 < a0)) (h2 : a1 = (a0 + 1) ∨ (a0 + 1) < -2147483648 ∨ 2147483648 ≤ (a0 + 1)) (h3 : -2147483648 ≤ a0 ∧ a0 < 2147483648) : a1 = (a0 + 1) := by omega
theorem z_X11_layStates_20 (a0 : Int) (a1 : Int) (a2 : Int) (h0 : a1 ≤ a0 ∧ a0 ≤ a2 + 1) (h1 : ¬ (a2 < a0)) : a1 ≤ (a0 + 1) ∧ (a0 + 1) ≤ a2 + 1 := by omega
theorem z_X11_layStates_22 (a0 : Int) (a1 : Int) (a2 : Int) (h0 : ((a0 = 2 ∨ a0 = 4 ∨ a0 = 5) ∧ a1 = 0 ∧ a2 = 29) ∨ (¬ (a0 = 2 ∨ a0 = 4 ∨ a0 = 5) ∧ a1 = -99 ∧ a2 = 99)) : a1 ≤ a1 ∧ a1 ≤ a2 + 1 := by omega
theorem z_X11_layStates_23 (a0 : Int) (a1 : Int) (a2 : Int) (h0 : ((a0 = 2 ∨ a0 = 4 ∨ a0 = 5) ∧ a1 = 0 ∧ a2 = 29) ∨ (¬ (a0 = 2 ∨ a0 = 4 ∨ a0 = 5) ∧ a1 = -99 ∧ a2 = 99)) : 2147483648 - a1 < ((4294967297 : Nat) : Int) := by omega
abbrev rm_X11_layStates : Room := { frames := 3, cells := 0, slots := 0, locals := 77 }
set_option maxHeartbeats 4000000 in
set_option maxRecDepth 100000 in
theorem c_X11_layStates (l : Launch) (E : XE) (K : Nat → Nat) (F : Nat → Nat → Nat) (G : XG) (a : Nat) (p0 : Nat) (p1 : Nat) (p2 : Int32) (ha : K a = 13) (hp0 : K p0 = 38) (hp1 : XO K p1 p2.toInt) (hR : RV (G.2.1 (F a 10))) (hM : RM (G.2.1 p1) (p2.toInt)) : Met l yX11_layStates (xw yX11_layStates cX11_layStates 6 none) rm_X11_layStates (va_Pc [.ref a, .ref p0, .ref p1, .int p2] (XP E K F G)) (XQv E (fun (u : XG) => XFr [] [p0] [] G u ∧ (LSt (G.2.1 (F a 10)) (u.2.1 p0) (mw (G.2.1 p1) (p2.toInt)) 12) ∧ (u.2.2.2 = G.2.2.2)) (fun u H => TW E K F u H)) 0 0 (xA E) := by
  refine x_enter (by decide) (Nat.le_of_ble_eq_true rfl) ?_
  intro p e s m args below meth c Q S hr hlk hnm hQ hP ls hl
  obtain ⟨hz, hK, hT⟩ := hP
  obtain ⟨hx, hb, -, -, -⟩ := id S
  obtain ⟨H, hT, hS, hgo⟩ : ∃ H : Heap, TW E K F G H ∧ va_S (xA E) s.heap H [] ∧ H = s.heap := ⟨_, hT, va_S.rf, rfl⟩
  rw [← hgo]
  have hl : lv_has ls 6 [(0, .ref a), (1, .ref p0), (2, .ref p1), (3, .int p2)] := hl
  obtain ⟨hk9999, hj9999⟩ := fkX11_10 hT ha
  refine lv_iconst (v := 0) hx hb dX11_layStates_0 (by decide) ?_
  refine lv_istore (lv' := [(4, .int 0), (0, .ref a), (1, .ref p0), (2, .ref p1), (3, .int p2)]) hx hb dX11_layStates_1 hl (by decide) rfl (fun ls hl => ?_)
  have L3 : ∀ (N3 : Nat) (l4_3 : Int32) (G_3 : XG) (H : Heap) (locs : List Loc) (ls : Array Slot), XFr [] [p0] [] G G_3 → LSt (G.2.1 (F a 10)) (G_3.2.1 p0) (mw (G.2.1 p1) (p2.toInt)) l4_3.toInt → G_3.2.2.2 = G.2.2.2 → 0 ≤ l4_3.toInt ∧ l4_3.toInt ≤ 12 → (0 : Int) ≤ l4_3.toInt → 2147483648 - l4_3.toInt < ((N3 : Nat) : Int) → TW E K F G_3 H → va_S (xA E) s.heap H locs → lv_has ls 6 [(0, .ref a), (1, .ref p0), (2, .ref p1), (3, .int p2), (4, .int l4_3)] → W p l e rm_X11_layStates s m args below meth c H locs 0 0 Q (F0 m 3 ls []) := by
    intro N3
    induction N3 with
    | zero =>
      intro l4_3 G_3 H locs ls hF_3 pl lo I3_0 I3_1 hm3
      exact absurd hm3 (z_X11_layStates_1 l4_3.toInt I3_0)
    | succ N3 ih3 =>
      intro l4_3 G_3 H locs ls hF_3 pl lo I3_0 I3_1 hm3 hT hS hl
      refine lv_iload hx hb dX11_layStates_3 (lv_at hl 4 rfl) ?_
      refine lv_bipush (v := 12) hx hb dX11_layStates_5 (by decide) ?_
      refine xi_cge (tgt := 69) hx hb (rfl : Int32.toInt l4_3 = l4_3.toInt) ((by decide) : Int32.toInt 12 = (12 : Int)) dX11_layStates_7 (by decide) (fun c7 => ?_) (fun c7 => ?_)
      · exact x_rv hx hb hr hlk hQ (Nat.le_of_ble_eq_true rfl) (Nat.le_of_ble_eq_true rfl) hS dX11_layStates_69 G_3 ⟨(XFr.call XFr.rf hF_3 xm0 (xm1 0 rfl xm0) xm0), (v_X11_layStates_69_1 (K := K) (F := F) a p0 G G_3 p1 p2 l4_3 N3 ha hp0 pl lo (XO.lim hp1) I3_0 I3_1 hm3 c7), (v_X11_layStates_69_2 G G_3 lo)⟩ hT
      · refine lv_aload_n hx hb dX11_layStates_10 rfl (lv_at hl 0 rfl) ?_
        refine lv_iload hx hb dX11_layStates_11 (lv_at hl 4 rfl) ?_
        refine x_clp (x_runV (b := a) (As := [.int l4_3]) (rest := []) S (c_X11_isRule l E K F G_3 H a l4_3 ha) mv_X11_isRule km_X11_162 rfl rfl ⟨Nat.le_of_ble_eq_true rfl, Nat.le_of_ble_eq_true rfl⟩ (rc_13 hK hT ha) hK (fun _ => XPh.blind) (fun U hU hW => XPh.at hK hz hS hT hU hW) rfl hl.1 (Nat.le_of_ble_eq_true rfl) dX11_layStates_13 ⟨Nat.le_of_ble_eq_true rfl, Nat.le_of_ble_eq_true rfl⟩) hS ?_
        rintro _ _ locs ⟨x13, rfl, b13, t13⟩ hS
        have t13 : (x13.toInt = 1 ∧ 0 ≤ l4_3.toInt ∧ l4_3.toInt ≤ 11 ∧ (aI (G.2.1 (F a 10)) (10 * l4_3.toInt + 0)) ≠ -1) ∨ (x13.toInt = 0 ∧ (¬ (0 ≤ l4_3.toInt ∧ l4_3.toInt ≤ 11) ∨ (aI (G.2.1 (F a 10)) (10 * l4_3.toInt + 0)) = -1)) := by rw [(show G_3.2.1 (F a 10) = G.2.1 (F a 10) from (hF_3.2.1 _ (xn1 (xne_k hk9999 hp0 (by decide)) xn0)))] at t13; exact t13
        refine xi_zeq (tgt := 63) hx hb (rfl : Int32.toInt x13 = x13.toInt) dX11_layStates_16 (by decide) (fun c16 => ?_) (fun c16 => ?_)
        · refine xi_iinc (n := 1) (lv' := fun z9 => [(4, .int z9), (0, .ref a), (1, .ref p0), (2, .ref p1), (3, .int p2)]) (k := 4) hx hb (rfl : Int32.toInt l4_3 = l4_3.toInt) (by decide) dX11_layStates_63 hl rfl (by decide) (fun _ => rfl) (fun x63 ls t63 hl => ?_)
          have e63 : x63.toInt = (l4_3.toInt + 1) := (z_X11_layStates_2 l4_3.toInt x63.toInt I3_0 t63)
          have hl : lv_has ls 6 [(4, .int x63), (0, .ref a), (1, .ref p0), (2, .ref p1), (3, .int p2)] := hl
          refine lv_goto (tgt := 3) hx hb dX11_layStates_66 (by decide) ?_
          exact ih3 x63 G_3 _ _ _ (XFr.call XFr.rf hF_3 xm0 (xm1 0 rfl xm0) xm0) (by rw [(e63 : Int32.toInt x63 = (l4_3.toInt + 1))] <;> exact (v_X11_layStates_66_3 (K := K) (F := F) a p0 G G_3 p1 p2 l4_3 N3 x13 ha hp0 pl lo (XO.lim hp1) I3_0 I3_1 hm3 c7 t13 c16)) (v_X11_layStates_66_4 G G_3 lo) (by rw [(e63 : Int32.toInt x63 = (l4_3.toInt + 1))] <;> exact (z_X11_layStates_3 l4_3.toInt I3_0 c7)) (by rw [(e63 : Int32.toInt x63 = (l4_3.toInt + 1))] <;> exact (z_X11_layStates_4 l4_3.toInt I3_0)) (by rw [(e63 : Int32.toInt x63 = (l4_3.toInt + 1))] <;> exact (z_X11_copy_9 l4_3.toInt N3 hm3)) hT hS (lv_sub hl [1, 2, 3, 4, 0] rfl)
        · have z19 : (-1 ≤ (aI (G.2.1 (F a 10)) (10 * l4_3.toInt + 0)) ∧ (aI (G.2.1 (F a 10)) (10 * l4_3.toInt + 0)) ≤ 5) ∧ (0 ≤ (aI (G.2.1 (F a 10)) (10 * l4_3.toInt + 1)) ∧ (aI (G.2.1 (F a 10)) (10 * l4_3.toInt + 1)) ≤ 2) ∧ (0 ≤ (aI (G.2.1 (F a 10)) (10 * l4_3.toInt + 2)) ∧ (aI (G.2.1 (F a 10)) (10 * l4_3.toInt + 2)) ≤ 2) ∧ (-1 ≤ (aI (G.2.1 (F a 10)) (10 * l4_3.toInt + 3)) ∧ (aI (G.2.1 (F a 10)) (10 * l4_3.toInt + 3)) ≤ 2) ∧ ((aI (G.2.1 (F a 10)) (10 * l4_3.toInt + 0)) = 1 ∨ (aI (G.2.1 (F a 10)) (10 * l4_3.toInt + 0)) = 3 ∨ (aI (G.2.1 (F a 10)) (10 * l4_3.toInt + 0)) = 4 → 0 ≤ (aI (G.2.1 (F a 10)) (10 * l4_3.toInt + 3))) := RV.row hR (z_X11_layStates_6 l4_3.toInt I3_0 c7)
          have z19a : (((aI (G.2.1 (F a 10)) (10 * l4_3.toInt + 0)) = 2 ∨ (aI (G.2.1 (F a 10)) (10 * l4_3.toInt + 0)) = 4 ∨ (aI (G.2.1 (F a 10)) (10 * l4_3.toInt + 0)) = 5) ∧ (sF (aI (G.2.1 (F a 10)) (10 * l4_3.toInt + 0))) = 0 ∧ (sL (aI (G.2.1 (F a 10)) (10 * l4_3.toInt + 0))) = 29) ∨ (¬ ((aI (G.2.1 (F a 10)) (10 * l4_3.toInt + 0)) = 2 ∨ (aI (G.2.1 (F a 10)) (10 * l4_3.toInt + 0)) = 4 ∨ (aI (G.2.1 (F a 10)) (10 * l4_3.toInt + 0)) = 5) ∧ (sF (aI (G.2.1 (F a 10)) (10 * l4_3.toInt + 0))) = -99 ∧ (sL (aI (G.2.1 (F a 10)) (10 * l4_3.toInt + 0))) = 99) := sFL _
          refine lv_aload_n hx hb dX11_layStates_19 rfl (lv_at hl 0 rfl) ?_
          refine lv_iload hx hb dX11_layStates_20 (lv_at hl 4 rfl) ?_
          refine x_clp (x_runV (b := a) (As := [.int l4_3]) (rest := []) S (c_X11_firstSubject l E K F G_3 H a l4_3 ha (z_X11_layStates_6 l4_3.toInt I3_0 c7)) mv_X11_firstSubject km_X11_179 rfl rfl ⟨Nat.le_of_ble_eq_true rfl, Nat.le_of_ble_eq_true rfl⟩ (rc_13 hK hT ha) hK (fun _ => XPh.blind) (fun U hU hW => XPh.at hK hz hS hT hU hW) rfl hl.1 (Nat.le_of_ble_eq_true rfl) dX11_layStates_22 ⟨Nat.le_of_ble_eq_true rfl, Nat.le_of_ble_eq_true rfl⟩) hS ?_
          rintro _ _ locs ⟨x22, rfl, t22⟩ hS
          have t22 : x22.toInt = (sF (aI (G.2.1 (F a 10)) (10 * l4_3.toInt + 0))) := by rw [(show G_3.2.1 (F a 10) = G.2.1 (F a 10) from (hF_3.2.1 _ (xn1 (xne_k hk9999 hp0 (by decide)) xn0)))] at t22; exact t22
          refine lv_istore (lv' := [(5, .int x22), (0, .ref a), (1, .ref p0), (2, .ref p1), (3, .int p2), (4, .int l4_3)]) hx hb dX11_layStates_25 hl (by decide) rfl (fun ls hl => ?_)
          have L27 : ∀ (N27 : Nat) (l5_27 : Int32) (G_27 : XG) (H : Heap) (locs : List Loc) (ls : Array Slot), XFr [] [p0] [] G_3 G_27 → G_27.2.2.2 = G.2.2.2 → LSt (G.2.1 (F a 10)) (G_27.2.1 p0) (mw (G.2.1 p1) (p2.toInt)) l4_3.toInt → (∀ s : Int, sF (aI (G.2.1 (F a 10)) (10 * l4_3.toInt + 0)) ≤ s → s < l5_27.toInt → aI (G_27.2.1 p0) (199 * l4_3.toInt + s + 99) = stt (mw (G.2.1 p1) (p2.toInt)) (aI (G.2.1 (F a 10)) (10 * l4_3.toInt + 0)) (aI (G.2.1 (F a 10)) (10 * l4_3.toInt + 1)) (aI (G.2.1 (F a 10)) (10 * l4_3.toInt + 2)) (aI (G.2.1 (F a 10)) (10 * l4_3.toInt + 3)) (s)) → (sF (aI (G.2.1 (F a 10)) (10 * l4_3.toInt + 0))) ≤ l5_27.toInt ∧ l5_27.toInt ≤ (sL (aI (G.2.1 (F a 10)) (10 * l4_3.toInt + 0))) + 1 → 2147483648 - l5_27.toInt < ((N27 : Nat) : Int) → TW E K F G_27 H → va_S (xA E) s.heap H locs → lv_has ls 6 [(0, .ref a), (1, .ref p0), (2, .ref p1), (3, .int p2), (4, .int l4_3), (5, .int l5_27)] → W p l e rm_X11_layStates s m args below meth c H locs 0 0 Q (F0 m 27 ls []) := by
            intro N27
            induction N27 with
            | zero =>
              intro l5_27 G_27 H locs ls hF_27 lo pl pi I27_0 hm27
              exact absurd hm27 (z_X11_layStates_8 l5_27.toInt (xr l5_27))
            | succ N27 ih27 =>
              intro l5_27 G_27 H locs ls hF_27 lo pl pi I27_0 hm27 hT hS hl
              refine lv_iload hx hb dX11_layStates_27 (lv_at hl 5 rfl) ?_
              refine lv_aload_n hx hb dX11_layStates_29 rfl (lv_at hl 0 rfl) ?_
              refine lv_iload hx hb dX11_layStates_30 (lv_at hl 4 rfl) ?_
              refine x_clp (x_runV (b := a) (As := [.int l4_3]) (rest := [.int l5_27]) S (c_X11_lastSubject l E K F G_27 H a l4_3 ha (z_X11_layStates_6 l4_3.toInt I3_0 c7)) mv_X11_lastSubject km_X11_183 rfl rfl ⟨Nat.le_of_ble_eq_true rfl, Nat.le_of_ble_eq_true rfl⟩ (rc_13 hK hT ha) hK (fun _ => XPh.blind) (fun U hU hW => XPh.at hK hz hS hT hU hW) rfl hl.1 (Nat.le_of_ble_eq_true rfl) dX11_layStates_32 ⟨Nat.le_of_ble_eq_true rfl, Nat.le_of_ble_eq_true rfl⟩) hS ?_
              rintro _ _ locs ⟨x32, rfl, t32⟩ hS
              have t32 : x32.toInt = (sL (aI (G.2.1 (F a 10)) (10 * l4_3.toInt + 0))) := by rw [(show G_27.2.1 (F a 10) = G.2.1 (F a 10) from ((hF_27.2.1 _ (xn1 (xne_k hk9999 hp0 (by decide)) xn0)).trans (hF_3.2.1 _ (xn1 (xne_k hk9999 hp0 (by decide)) xn0))))] at t32; exact t32
              refine xi_cgt (tgt := 63) hx hb (rfl : Int32.toInt l5_27 = l5_27.toInt) (t32 : Int32.toInt x32 = (sL (aI (G.2.1 (F a 10)) (10 * l4_3.toInt + 0)))) dX11_layStates_35 (by decide) (fun c35 => ?_) (fun c35 => ?_)
              · refine xi_iinc (n := 1) (lv' := fun z9 => [(4, .int z9), (0, .ref a), (1, .ref p0), (2, .ref p1), (3, .int p2), (5, .int l5_27)]) (k := 4) hx hb (rfl : Int32.toInt l4_3 = l4_3.toInt) (by decide) dX11_layStates_63 hl rfl (by decide) (fun _ => rfl) (fun x63 ls t63 hl => ?_)
                have e63 : x63.toInt = (l4_3.toInt + 1) := (z_X11_layStates_2 l4_3.toInt x63.toInt I3_0 t63)
                have hl : lv_has ls 6 [(4, .int x63), (0, .ref a), (1, .ref p0), (2, .ref p1), (3, .int p2), (5, .int l5_27)] := hl
                refine lv_goto (tgt := 3) hx hb dX11_layStates_66 (by decide) ?_
                exact ih3 x63 G_27 _ _ _ (XFr.call (XFr.call XFr.rf hF_3 xm0 (xm1 0 rfl xm0) xm0) hF_27 xm0 (xm1 0 rfl xm0) xm0) (by rw [(e63 : Int32.toInt x63 = (l4_3.toInt + 1))] <;> exact (v_X11_layStates_66_5 (K := K) (F := F) a p0 G G_27 p1 p2 l4_3 l5_27 N3 x13 N27 ha hp0 lo pl pi (XO.lim hp1) I3_0 I3_1 hm3 c7 t13 c16 z19 z19a I27_0 hm27 c35)) (v_X11_layStates_66_6 G G_27 lo) (by rw [(e63 : Int32.toInt x63 = (l4_3.toInt + 1))] <;> exact (z_X11_layStates_3 l4_3.toInt I3_0 c7)) (by rw [(e63 : Int32.toInt x63 = (l4_3.toInt + 1))] <;> exact (z_X11_layStates_4 l4_3.toInt I3_0)) (by rw [(e63 : Int32.toInt x63 = (l4_3.toInt + 1))] <;> exact (z_X11_copy_9 l4_3.toInt N3 hm3)) hT hS (lv_sub hl [1, 2, 3, 4, 0] rfl)
              · refine lv_aload_n hx hb dX11_layStates_38 rfl (lv_at hl 1 rfl) ?_
                refine lv_iload hx hb dX11_layStates_39 (lv_at hl 4 rfl) ?_
                refine lv_iload hx hb dX11_layStates_41 (lv_at hl 5 rfl) ?_
                refine x_clp (x_runS (As := [.int l4_3, .int l5_27]) (rest := [.ref p0]) S (c_X11_placeOf l E K F G_27 H l4_3 l5_27 (z_X11_layStates_14 l4_3.toInt l5_27.toInt (aI (G.2.1 (F a 10)) (10 * l4_3.toInt + 0)) (sF (aI (G.2.1 (F a 10)) (10 * l4_3.toInt + 0))) (sL (aI (G.2.1 (F a 10)) (10 * l4_3.toInt + 0))) I3_0 c7 z19a I27_0 c35)) ms_X11_placeOf km_X11_186 rfl rfl ⟨Nat.le_of_ble_eq_true rfl, Nat.le_of_ble_eq_true rfl⟩ hK (fun _ => XPh.blind) (fun U hU hW => XPh.at hK hz hS hT hU hW) rfl hl.1 (Nat.le_of_ble_eq_true rfl) dX11_layStates_43 ⟨Nat.le_of_ble_eq_true rfl, Nat.le_of_ble_eq_true rfl⟩) hS ?_
                rintro _ _ locs ⟨x43, rfl, t43⟩ hS
                have t43 : x43.toInt = 199 * l4_3.toInt + l5_27.toInt + 99 := t43
                refine lv_aload_n hx hb dX11_layStates_46 rfl (lv_at hl 0 rfl) ?_
                refine lv_iload hx hb dX11_layStates_47 (lv_at hl 4 rfl) ?_
                refine lv_iload hx hb dX11_layStates_49 (lv_at hl 5 rfl) ?_
                refine lv_aload_n hx hb dX11_layStates_51 rfl (lv_at hl 2 rfl) ?_
                refine lv_iload_n hx hb dX11_layStates_52 rfl (lv_at hl 3 rfl) ?_
                refine x_clp (x_runV (b := a) (As := [.int l4_3, .int l5_27, .ref p1, .int p2]) (rest := [.int x43, .ref p0]) S (c_X11_stateOf l E K F G_27 H a l4_3 l5_27 p1 p2 ha hp1 (z_X11_layStates_6 l4_3.toInt I3_0 c7) (by rw [(show G_27.2.1 (F a 10) = G.2.1 (F a 10) from ((hF_27.2.1 _ (xn1 (xne_k hk9999 hp0 (by decide)) xn0)).trans (hF_3.2.1 _ (xn1 (xne_k hk9999 hp0 (by decide)) xn0))))] <;> exact (z_X11_layStates_16 l4_3.toInt x13.toInt (aI (G.2.1 (F a 10)) (10 * l4_3.toInt + 0)) t13 c16)) (by rw [(show G_27.2.1 (F a 10) = G.2.1 (F a 10) from ((hF_27.2.1 _ (xn1 (xne_k hk9999 hp0 (by decide)) xn0)).trans (hF_3.2.1 _ (xn1 (xne_k hk9999 hp0 (by decide)) xn0))))] <;> exact (z_X11_layStates_17 l5_27.toInt (sF (aI (G.2.1 (F a 10)) (10 * l4_3.toInt + 0))) (sL (aI (G.2.1 (F a 10)) (10 * l4_3.toInt + 0))) I27_0 c35)) (v_X11_layStates_53_7 (F := F) a G G_27 hR ((hF_27.2.1 _ (xn1 (xne_k hk9999 hp0 (by decide)) xn0)).trans (hF_3.2.1 _ (xn1 (xne_k hk9999 hp0 (by decide)) xn0)))) (v_X11_layStates_53_8 G G_27 p1 p2 hM ((hF_27.2.1 _ (xn1 (XO.ne hp1 hp0 (by decide)) xn0)).trans (hF_3.2.1 _ (xn1 (XO.ne hp1 hp0 (by decide)) xn0))))) mv_X11_stateOf km_X11_189 rfl rfl ⟨Nat.le_of_ble_eq_true rfl, Nat.le_of_ble_eq_true rfl⟩ (rc_13 hK hT ha) hK (fun _ => XPh.blind) (fun U hU hW => XPh.at hK hz hS hT hU hW) rfl hl.1 (Nat.le_of_ble_eq_true rfl) dX11_layStates_53 ⟨Nat.le_of_ble_eq_true rfl, Nat.le_of_ble_eq_true rfl⟩) hS ?_
                rintro _ _ locs ⟨x53, rfl, t53⟩ hS
                have t53 : x53.toInt = (stt (mw (G.2.1 p1) (p2.toInt)) (aI (G.2.1 (F a 10)) (10 * l4_3.toInt + 0)) (aI (G.2.1 (F a 10)) (10 * l4_3.toInt + 1)) (aI (G.2.1 (F a 10)) (10 * l4_3.toInt + 2)) (aI (G.2.1 (F a 10)) (10 * l4_3.toInt + 3)) (l5_27.toInt)) := by rw [(show G_27.2.1 p1 = G.2.1 p1 from ((hF_27.2.1 _ (xn1 (XO.ne hp1 hp0 (by decide)) xn0)).trans (hF_3.2.1 _ (xn1 (XO.ne hp1 hp0 (by decide)) xn0))))] at t53; rw [(show G_27.2.1 (F a 10) = G.2.1 (F a 10) from ((hF_27.2.1 _ (xn1 (xne_k hk9999 hp0 (by decide)) xn0)).trans (hF_3.2.1 _ (xn1 (xne_k hk9999 hp0 (by decide)) xn0))))] at t53; exact t53
                refine as_0 (x := x53) S hK hT hS hp0 ar_38 aw_38 (by decide) (by rw [(t43 : Int32.toInt x43 = 199 * l4_3.toInt + l5_27.toInt + 99)]; exact (z_X11_layStates_18 l4_3.toInt l5_27.toInt (aI (G.2.1 (F a 10)) (10 * l4_3.toInt + 0)) (sF (aI (G.2.1 (F a 10)) (10 * l4_3.toInt + 0))) (sL (aI (G.2.1 (F a 10)) (10 * l4_3.toInt + 0))) I3_0 c7 z19a I27_0 c35)) dX11_layStates_56 (fun H locs hT hS => ?_)
                obtain ⟨G56, hG56⟩ : ∃ GG : XG, GG = cput G_27 p0 x43.toNatClampNeg x53 := ⟨_, rfl⟩
                rw [← hG56] at hT
                refine xi_iinc (n := 1) (lv' := fun z9 => [(5, .int z9), (0, .ref a), (1, .ref p0), (2, .ref p1), (3, .int p2), (4, .int l4_3)]) (k := 5) hx hb (rfl : Int32.toInt l5_27 = l5_27.toInt) (by decide) dX11_layStates_57 hl rfl (by decide) (fun _ => rfl) (fun x57 ls t57 hl => ?_)
                have e57 : x57.toInt = (l5_27.toInt + 1) := (z_X11_layStates_19 l5_27.toInt x57.toInt (aI (G.2.1 (F a 10)) (10 * l4_3.toInt + 0)) (sF (aI (G.2.1 (F a 10)) (10 * l4_3.toInt + 0))) (sL (aI (G.2.1 (F a 10)) (10 * l4_3.toInt + 0))) z19a c35 t57 (xr l5_27))
                have hl : lv_has ls 6 [(5, .int x57), (0, .ref a), (1, .ref p0), (2, .ref p1), (3, .int p2), (4, .int l4_3)] := hl
                refine lv_goto (tgt := 27) hx hb dX11_layStates_60 (by decide) ?_
                exact ih27 x57 G56 _ _ _ (by rw [hG56]; exact XFr.cput (XFr.call XFr.rf hF_27 xm0 (xm1 0 rfl xm0) xm0) (List.mem_of_getElem? (i := 0) rfl)) (v_X11_layStates_60_9 p0 G G_27 G56 x43 x53 hG56 lo) (v_X11_layStates_60_10 (K := K) (F := F) a p0 G G_27 G56 x43 x53 p1 p2 l4_3 l5_27 N3 x13 N27 ha hp0 hG56 lo pl t43 t53 (XO.lim hp1) I3_0 I3_1 hm3 c7 t13 c16 z19 z19a I27_0 hm27 c35) (by rw [(e57 : Int32.toInt x57 = (l5_27.toInt + 1))] <;> exact (v_X11_layStates_60_11 (K := K) (F := F) a p0 G G_27 G56 x43 x53 p1 p2 l4_3 l5_27 N3 x13 N27 ha hp0 hk9999 hj9999 hG56 lo pi t43 t53 (XO.lim hp1) I3_0 I3_1 hm3 c7 t13 c16 z19 z19a I27_0 hm27 c35)) (by rw [(e57 : Int32.toInt x57 = (l5_27.toInt + 1))] <;> exact (z_X11_layStates_20 l5_27.toInt (sF (aI (G.2.1 (F a 10)) (10 * l4_3.toInt + 0))) (sL (aI (G.2.1 (F a 10)) (10 * l4_3.toInt + 0))) I27_0 c35)) (by rw [(e57 : Int32.toInt x57 = (l5_27.toInt + 1))] <;> exact (z_X11_copy_9 l5_27.toInt N27 hm27)) hT hS (lv_sub hl [1, 2, 3, 4, 5, 0] rfl)
          exact L27 4294967297 x22 G_3 _ _ _ XFr.rf (v_X11_layStates_25_12 G G_3 lo) (v_X11_layStates_25_13 (F := F) a p0 G G_3 p1 p2 l4_3 pl) (by rw [(t22 : Int32.toInt x22 = (sF (aI (G.2.1 (F a 10)) (10 * l4_3.toInt + 0))))] <;> exact (v_X11_layStates_25_14 (K := K) (F := F) a p0 G G_3 p1 p2 l4_3 N3 x13 ha hp0 hk9999 hj9999 lo (XO.lim hp1) I3_0 I3_1 hm3 c7 t13 c16 z19 z19a)) (by rw [(t22 : Int32.toInt x22 = (sF (aI (G.2.1 (F a 10)) (10 * l4_3.toInt + 0))))] <;> exact (z_X11_layStates_22 (aI (G.2.1 (F a 10)) (10 * l4_3.toInt + 0)) (sF (aI (G.2.1 (F a 10)) (10 * l4_3.toInt + 0))) (sL (aI (G.2.1 (F a 10)) (10 * l4_3.toInt + 0))) z19a)) (by rw [(t22 : Int32.toInt x22 = (sF (aI (G.2.1 (F a 10)) (10 * l4_3.toInt + 0))))] <;> exact (z_X11_layStates_23 (aI (G.2.1 (F a 10)) (10 * l4_3.toInt + 0)) (sF (aI (G.2.1 (F a 10)) (10 * l4_3.toInt + 0))) (sL (aI (G.2.1 (F a 10)) (10 * l4_3.toInt + 0))) z19a)) hT hS (lv_sub hl [1, 2, 3, 4, 5, 0] rfl)
  exact L3 4294967297 0 G _ _ _ XFr.rf (v_X11_layStates_1_15 (K := K) (F := F) a p0 G p1 p2 ha hp0 (XO.lim hp1)) (v_X11_layStates_1_16 G) (by decide) (by decide) (by decide) hT hS (lv_sub hl [1, 2, 3, 4, 0] rfl)

theorem z_X11_layOrder_4 (a0 : Int) (a1 : Int) (h0 : 0 ≤ a1 ∧ a1 ≤ a0) : 0 ≤ a1 ∧ a1 ≤ (a0 + 1) := by omega
theorem z_X11_layOrder_7 (a0 : Int) (a1 : Int) (h0 : 0 ≤ a0 ∧ a0 ≤ a1) : ¬ (a0 + 1 < ((0 : Nat) : Int)) := by omega
theorem z_X11_layOrder_8 (a0 : Int) (a1 : Int) (h0 : 0 ≤ a0 ∧ a0 ≤ a1) (h1 : a0 ≤ 0) : 0 ≤ a0 ∧ a0 < ((12 : Nat) : Int) := by omega
theorem z_X11_layOrder_9 (a0 : Int) (a1 : Int) (a2 : Int) (h0 : 0 ≤ a2 ∧ a2 ≤ a0) (h1 : ¬ ((12 : Int) ≤ a0)) (h2 : a1 = (a2 + (1 : Int)) ∨ (a2 + (1 : Int)) < -2147483648 ∨ 2147483648 ≤ (a2 + (1 : Int))) : a1 = (a2 + (1 : Int)) := by omega
theorem z_X11_layOrder_12 (a0 : Int) (a1 : Int) (h0 : 0 ≤ a1 ∧ a1 ≤ a0) : 0 ≤ (a1 + (1 : Int)) ∧ (a1 + (1 : Int)) ≤ (a0 + 1) := by omega
theorem z_X11_layOrder_15 (a0 : Int) (a1 : Int) (h0 : ¬ (a0 ≤ 0)) (h1 : a1 = (a0 - (1 : Int)) ∨ (a0 - (1 : Int)) < -2147483648 ∨ 2147483648 ≤ (a0 - (1 : Int))) (h2 : -2147483648 ≤ a0 ∧ a0 < 2147483648) : a1 = (a0 - (1 : Int)) := by omega
theorem z_X11_layOrder_16 (a0 : Int) (a1 : Int) (a2 : Int) (h0 : 0 ≤ a2 ∧ a2 ≤ a0) (h1 : ¬ ((12 : Int) ≤ a0)) (h2 : 0 ≤ a1 ∧ a1 ≤ a2) (h3 : ¬ (a1 ≤ 0)) : 0 ≤ (a1 - (1 : Int)) ∧ (a1 - (1 : Int)) < ((12 : Nat) : Int) := by omega
theorem z_X11_layOrder_17 (a0 : Int) (a1 : Int) (a2 : Int) (h0 : 0 ≤ a0 ∧ a0 ≤ 12) (h1 : 0 ≤ a1 ∧ a1 ≤ a2) (h2 : ¬ (a1 ≤ 0)) : 0 ≤ a0 ∧ a0 ≤ 12 ∧ 1 ≤ a1 ∧ a1 ≤ a2 := by omega
theorem z_X11_layOrder_18 (a0 : Int) (a1 : Int) (h0 : (0 ≤ a0 ∧ a0 ≤ 11) ∧ a0 = a1) : 0 ≤ a0 ∧ a0 ≤ 11 := by omega
theorem z_X11_layOrder_20 (a0 : Int) (a1 : Int) (a2 : Int) (h0 : 0 ≤ a2 ∧ a2 ≤ a0) (h1 : ¬ ((12 : Int) ≤ a0)) (h2 : 0 ≤ a1 ∧ a1 ≤ a2) : 0 ≤ a1 ∧ a1 < ((12 : Nat) : Int) := by omega
theorem z_X11_layOrder_30 (a0 : Int) (a1 : Int) (h0 : ¬ (a0 ≤ 0)) (h1 : a1 = (a0 + (-1)) ∨ (a0 + (-1)) < -2147483648 ∨ 2147483648 ≤ (a0 + (-1))) (h2 : -2147483648 ≤ a0 ∧ a0 < 2147483648) : a1 = (a0 + (-1)) := by omega
theorem z_X11_layOrder_31 (a0 : Int) (a1 : Int) (h0 : 0 ≤ a0 ∧ a0 ≤ a1) (h1 : ¬ (a0 ≤ 0)) : 0 ≤ (a0 + (-1)) ∧ (a0 + (-1)) ≤ a1 := by omega
theorem z_X11_layOrder_32 (a0 : Int) (a1 : Nat) (h0 : a0 + 1 < ((a1 + 1 : Nat) : Int)) : (a0 + (-1)) + 1 < ((a1 : Nat) : Int) := by omega
theorem z_X11_layOrder_33 (a0 : Int) (a1 : Int) (h0 : 0 ≤ a1 ∧ a1 ≤ a0) : 0 ≤ a1 ∧ a1 ≤ a1 := by omega
theorem z_X11_layOrder_34 (a0 : Int) (h0 : -2147483648 ≤ a0 ∧ a0 < 2147483648) : a0 + 1 < ((4294967297 : Nat) : Int) := by omega
abbrev rm_X11_layOrder : Room := { frames := 2, cells := 0, slots := 0, locals := 46 }
set_option maxHeartbeats 4000000 in
set_option maxRecDepth 100000 in
theorem c_X11_layOrder (l : Launch) (E : XE) (K : Nat → Nat) (F : Nat → Nat → Nat) (G : XG) (a : Nat) (ha : K a = 13) (hR : RV (G.2.1 (F a 10))) : Met l yX11_layOrder (xw yX11_layOrder cX11_layOrder 3 none) rm_X11_layOrder (va_Pc [.ref a] (XP E K F G)) (XQv E (fun (u : XG) => XFr [(a, 16)] [F a 15] [] G u ∧ (ORm (G.2.1 (F a 10)) (u.2.1 (F a 15)) ((u.1 a 16).toInt) 12) ∧ (u.2.2.2 = G.2.2.2)) (fun u H => TW E K F u H)) 0 0 (xA E) := by
  refine x_enter (by decide) (Nat.le_of_ble_eq_true rfl) ?_
  intro p e s m args below meth c Q S hr hlk hnm hQ hP ls hl
  obtain ⟨hz, hK, hT⟩ := hP
  obtain ⟨hx, hb, -, -, -⟩ := id S
  obtain ⟨H, hT, hS, hgo⟩ : ∃ H : Heap, TW E K F G H ∧ va_S (xA E) s.heap H [] ∧ H = s.heap := ⟨_, hT, va_S.rf, rfl⟩
  rw [← hgo]
  have hl : lv_has ls 3 [(0, .ref a)] := hl
  obtain ⟨hk9999, hj9999⟩ := fkX11_15 hT ha
  obtain ⟨hk9999a, hj9999a⟩ := fkX11_10 hT ha
  refine lv_aload_n hx hb dX11_layOrder_0 rfl (lv_at hl 0 rfl) ?_
  refine lv_iconst (v := 0) hx hb dX11_layOrder_1 (by decide) ?_
  refine pX11_16 (v := 0) S hK hT hS ha kf_X11_197 dX11_layOrder_2 (fun H locs hT hS => ?_)
  obtain ⟨G2, hG2⟩ : ∃ GG : XG, GG = dput G a 16 0 := ⟨_, rfl⟩
  rw [← hG2] at hT
  refine lv_iconst (v := 0) hx hb dX11_layOrder_5 (by decide) ?_
  refine lv_istore_n (lv' := [(1, .int 0), (0, .ref a)]) hx hb dX11_layOrder_6 rfl hl (by decide) rfl (fun ls hl => ?_)
  have L7 : ∀ (N7 : Nat) (l1_7 : Int32) (G_7 : XG) (H : Heap) (locs : List Loc) (ls : Array Slot), XFr [(a, 16)] [F a 15] [] G2 G_7 → ORm (G.2.1 (F a 10)) (G_7.2.1 (F a 15)) ((G_7.1 a 16).toInt) (l1_7.toInt).toNat → G_7.2.2.2 = G.2.2.2 → 0 ≤ l1_7.toInt ∧ l1_7.toInt ≤ 12 → 0 ≤ ((G_7.1 a 16).toInt) ∧ ((G_7.1 a 16).toInt) ≤ l1_7.toInt → (0 : Int) ≤ l1_7.toInt → 2147483648 - l1_7.toInt < ((N7 : Nat) : Int) → TW E K F G_7 H → va_S (xA E) s.heap H locs → lv_has ls 3 [(0, .ref a), (1, .int l1_7)] → W p l e rm_X11_layOrder s m args below meth c H locs 0 0 Q (F0 m 7 ls []) := by
    intro N7
    induction N7 with
    | zero =>
      intro l1_7 G_7 H locs ls hF_7 po lo I7_0 I7_1 I7_2 hm7
      exact absurd hm7 (z_X11_layStates_1 l1_7.toInt I7_0)
    | succ N7 ih7 =>
      intro l1_7 G_7 H locs ls hF_7 po lo I7_0 I7_1 I7_2 hm7 hT hS hl
      refine lv_iload_n hx hb dX11_layOrder_7 rfl (lv_at hl 1 rfl) ?_
      refine lv_bipush (v := 12) hx hb dX11_layOrder_8 (by decide) ?_
      refine xi_cge (tgt := 97) hx hb (rfl : Int32.toInt l1_7 = l1_7.toInt) ((by decide) : Int32.toInt 12 = (12 : Int)) dX11_layOrder_10 (by decide) (fun c10 => ?_) (fun c10 => ?_)
      · exact x_rv hx hb hr hlk hQ (Nat.le_of_ble_eq_true rfl) (Nat.le_of_ble_eq_true rfl) hS dX11_layOrder_97 G_7 ⟨(XFr.call (by rw [hG2]; exact XFr.dput XFr.rf (List.mem_of_getElem? (i := 0) rfl)) hF_7 (xm1 0 rfl xm0) (xm1 0 rfl xm0) xm0), (v_X11_layOrder_97_1 (K := K) (F := F) a G G_7 l1_7 N7 ha po lo I7_0 I7_1 I7_2 hm7 c10), (v_X11_layOrder_97_2 G G_7 lo)⟩ hT
      · refine lv_aload_n hx hb dX11_layOrder_13 rfl (lv_at hl 0 rfl) ?_
        refine lv_iload_n hx hb dX11_layOrder_14 rfl (lv_at hl 1 rfl) ?_
        refine x_clp (x_runV (b := a) (As := [.int l1_7]) (rest := []) S (c_X11_isRule l E K F G_7 H a l1_7 ha) mv_X11_isRule km_X11_162 rfl rfl ⟨Nat.le_of_ble_eq_true rfl, Nat.le_of_ble_eq_true rfl⟩ (rc_13 hK hT ha) hK (fun _ => XPh.blind) (fun U hU hW => XPh.at hK hz hS hT hU hW) rfl hl.1 (Nat.le_of_ble_eq_true rfl) dX11_layOrder_15 ⟨Nat.le_of_ble_eq_true rfl, Nat.le_of_ble_eq_true rfl⟩) hS ?_
        rintro _ _ locs ⟨x15, rfl, b15, t15⟩ hS
        have t15 : (x15.toInt = 1 ∧ 0 ≤ l1_7.toInt ∧ l1_7.toInt ≤ 11 ∧ (aI (G.2.1 (F a 10)) (10 * l1_7.toInt + 0)) ≠ -1) ∨ (x15.toInt = 0 ∧ (¬ (0 ≤ l1_7.toInt ∧ l1_7.toInt ≤ 11) ∨ (aI (G.2.1 (F a 10)) (10 * l1_7.toInt + 0)) = -1)) := by rw [(show G_7.2.1 (F a 10) = G.2.1 (F a 10) from ((hF_7.2.1 _ (xn1 (xne_k hk9999a hk9999 (by decide)) xn0)).trans (ld_c hG2)))] at t15; exact t15
        refine xi_zeq (tgt := 91) hx hb (rfl : Int32.toInt x15 = x15.toInt) dX11_layOrder_18 (by decide) (fun c18 => ?_) (fun c18 => ?_)
        · refine xi_iinc (n := 1) (lv' := fun z9 => [(1, .int z9), (0, .ref a)]) (k := 1) hx hb (rfl : Int32.toInt l1_7 = l1_7.toInt) (by decide) dX11_layOrder_91 hl rfl (by decide) (fun _ => rfl) (fun x91 ls t91 hl => ?_)
          have e91 : x91.toInt = (l1_7.toInt + 1) := (z_X11_layStates_2 l1_7.toInt x91.toInt I7_0 t91)
          have hl : lv_has ls 3 [(1, .int x91), (0, .ref a)] := hl
          refine lv_goto (tgt := 7) hx hb dX11_layOrder_94 (by decide) ?_
          exact ih7 x91 G_7 _ _ _ (XFr.call XFr.rf hF_7 (xm1 0 rfl xm0) (xm1 0 rfl xm0) xm0) (by rw [(e91 : Int32.toInt x91 = (l1_7.toInt + 1))] <;> exact (v_X11_layOrder_94_3 (K := K) (F := F) a G G_7 l1_7 N7 x15 ha po lo I7_0 I7_1 I7_2 hm7 c10 t15 c18)) (v_X11_layOrder_94_4 G G_7 lo) (by rw [(e91 : Int32.toInt x91 = (l1_7.toInt + 1))] <;> exact (z_X11_layStates_3 l1_7.toInt I7_0 c10)) (by rw [(e91 : Int32.toInt x91 = (l1_7.toInt + 1))] <;> exact (z_X11_layOrder_4 l1_7.toInt ((G_7.1 a 16).toInt) I7_1)) (by rw [(e91 : Int32.toInt x91 = (l1_7.toInt + 1))] <;> exact (z_X11_layStates_4 l1_7.toInt I7_0)) (by rw [(e91 : Int32.toInt x91 = (l1_7.toInt + 1))] <;> exact (z_X11_copy_9 l1_7.toInt N7 hm7)) hT hS (lv_sub hl [1, 0] rfl)
        · refine lv_aload_n hx hb dX11_layOrder_21 rfl (lv_at hl 0 rfl) ?_
          refine gX11_16 S hK hT ha kf_X11_197 dX11_layOrder_22 (v := (G_7.1 a 16)) rfl (?_)
          refine lv_istore_n (lv' := [(2, .int (G_7.1 a 16)), (0, .ref a), (1, .int l1_7)]) hx hb dX11_layOrder_25 rfl hl (by decide) rfl (fun ls hl => ?_)
          have L26 : ∀ (N26 : Nat) (l2_26 : Int32) (G_26 : XG) (H : Heap) (locs : List Loc) (ls : Array Slot), XFr [] [F a 15] [] G_7 G_26 → G_26.2.2.2 = G.2.2.2 → shf (G_7.2.1 (F a 15)) (G_26.2.1 (F a 15)) (l2_26.toInt).toNat ((G_7.1 a 16).toInt).toNat → posR (fun j => aI (G.2.1 (F a 10)) (10 * (G_7.2.1 (F a 15) j).toInt + 7)) (aI (G.2.1 (F a 10)) (10 * l1_7.toInt + 7)) (l2_26.toInt).toNat = posR (fun j => aI (G.2.1 (F a 10)) (10 * (G_7.2.1 (F a 15) j).toInt + 7)) (aI (G.2.1 (F a 10)) (10 * l1_7.toInt + 7)) ((G_7.1 a 16).toInt).toNat → 0 ≤ l2_26.toInt ∧ l2_26.toInt ≤ ((G_7.1 a 16).toInt) → l2_26.toInt + 1 < ((N26 : Nat) : Int) → TW E K F G_26 H → va_S (xA E) s.heap H locs → lv_has ls 3 [(0, .ref a), (1, .int l1_7), (2, .int l2_26)] → W p l e rm_X11_layOrder s m args below meth c H locs 0 0 Q (F0 m 26 ls []) := by
            intro N26
            induction N26 with
            | zero =>
              intro l2_26 G_26 H locs ls hF_26 lo ps pp I26_0 hm26
              exact absurd hm26 (z_X11_layOrder_7 l2_26.toInt ((G_7.1 a 16).toInt) I26_0)
            | succ N26 ih26 =>
              intro l2_26 G_26 H locs ls hF_26 lo ps pp I26_0 hm26 hT hS hl
              refine lv_iload_n hx hb dX11_layOrder_26 rfl (lv_at hl 2 rfl) ?_
              refine xi_zle (tgt := 74) hx hb (rfl : Int32.toInt l2_26 = l2_26.toInt) dX11_layOrder_27 (by decide) (fun c27 => ?_) (fun c27 => ?_)
              · refine lv_aload_n hx hb dX11_layOrder_74 rfl (lv_at hl 0 rfl) ?_
                refine gX11_15 S hK hT ha kf_X11_48 dX11_layOrder_75 (fun _ _ => ?_)
                refine lv_iload_n hx hb dX11_layOrder_78 rfl (lv_at hl 2 rfl) ?_
                refine lv_iload_n hx hb dX11_layOrder_79 rfl (lv_at hl 1 rfl) ?_
                refine as_0 (x := l1_7) S hK hT hS hk9999 ar_42 aw_42 (by decide) (z_X11_layOrder_8 l2_26.toInt ((G_7.1 a 16).toInt) I26_0 c27) dX11_layOrder_80 (fun H locs hT hS => ?_)
                obtain ⟨G80, hG80⟩ : ∃ GG : XG, GG = cput G_26 (F a 15) l2_26.toNatClampNeg l1_7 := ⟨_, rfl⟩
                rw [← hG80] at hT
                refine lv_aload_n hx hb dX11_layOrder_81 rfl (lv_at hl 0 rfl) ?_
                refine lv_dup hx hb dX11_layOrder_82 rfl ?_
                refine gX11_16 S hK hT ha kf_X11_197 dX11_layOrder_83 (v := (G_7.1 a 16)) ((lc_d hG80).trans (hF_26.1 _ _ xn0)) (?_)
                refine lv_iconst (v := 1) hx hb dX11_layOrder_86 (by decide) ?_
                refine xi_iadd hx hb (rfl : Int32.toInt (G_7.1 a 16) = ((G_7.1 a 16).toInt)) ((by decide) : Int32.toInt 1 = (1 : Int)) dX11_layOrder_87 (fun x87 t87 => ?_)
                have e87 : x87.toInt = (((G_7.1 a 16).toInt) + (1 : Int)) := (z_X11_layOrder_9 l1_7.toInt x87.toInt ((G_7.1 a 16).toInt) I7_1 c10 t87)
                refine pX11_16 (v := x87) S hK hT hS ha kf_X11_197 dX11_layOrder_88 (fun H locs hT hS => ?_)
                obtain ⟨G88, hG88⟩ : ∃ GG : XG, GG = dput G80 a 16 x87 := ⟨_, rfl⟩
                rw [← hG88] at hT
                refine xi_iinc (n := 1) (lv' := fun z9 => [(1, .int z9), (0, .ref a), (2, .int l2_26)]) (k := 1) hx hb (rfl : Int32.toInt l1_7 = l1_7.toInt) (by decide) dX11_layOrder_91 hl rfl (by decide) (fun _ => rfl) (fun x91 ls t91 hl => ?_)
                have e91 : x91.toInt = (l1_7.toInt + 1) := (z_X11_layStates_2 l1_7.toInt x91.toInt I7_0 t91)
                have hl : lv_has ls 3 [(1, .int x91), (0, .ref a), (2, .int l2_26)] := hl
                refine lv_goto (tgt := 7) hx hb dX11_layOrder_94 (by decide) ?_
                exact ih7 x91 G88 _ _ _ (by rw [hG88]; exact XFr.dput (by rw [hG80]; exact XFr.cput (XFr.call (XFr.call XFr.rf hF_7 (xm1 0 rfl xm0) (xm1 0 rfl xm0) xm0) hF_26 xm0 (xm1 0 rfl xm0) xm0) (List.mem_of_getElem? (i := 0) rfl)) (List.mem_of_getElem? (i := 0) rfl)) (by rw [(e91 : Int32.toInt x91 = (l1_7.toInt + 1)), (show (G88.1 a 16).toInt = (((G_7.1 a 16).toInt) + (1 : Int)) from (congrArg Int32.toInt (ld_at hG88)).trans (e87 : Int32.toInt x87 = (((G_7.1 a 16).toInt) + (1 : Int))))] <;> exact (v_X11_layOrder_94_5 (K := K) (F := F) a G G_7 G_26 G80 l2_26 l1_7 G88 N7 x15 N26 ha hG80 po lo ps pp I7_0 I7_1 I7_2 hm7 c10 t15 c18 I26_0 hm26 c27 (ld_c hG88))) (v_X11_layOrder_94_6 (F := F) a G G_26 G80 l2_26 l1_7 G88 x87 hG80 hG88 lo) (by rw [(e91 : Int32.toInt x91 = (l1_7.toInt + 1))] <;> exact (z_X11_layStates_3 l1_7.toInt I7_0 c10)) (by rw [(e91 : Int32.toInt x91 = (l1_7.toInt + 1)), (show (G88.1 a 16).toInt = (((G_7.1 a 16).toInt) + (1 : Int)) from (congrArg Int32.toInt (ld_at hG88)).trans (e87 : Int32.toInt x87 = (((G_7.1 a 16).toInt) + (1 : Int))))] <;> exact (z_X11_layOrder_12 l1_7.toInt ((G_7.1 a 16).toInt) I7_1)) (by rw [(e91 : Int32.toInt x91 = (l1_7.toInt + 1))] <;> exact (z_X11_layStates_4 l1_7.toInt I7_0)) (by rw [(e91 : Int32.toInt x91 = (l1_7.toInt + 1))] <;> exact (z_X11_copy_9 l1_7.toInt N7 hm7)) hT hS (lv_sub hl [1, 0] rfl)
              · refine lv_aload_n hx hb dX11_layOrder_30 rfl (lv_at hl 0 rfl) ?_
                refine lv_aload_n hx hb dX11_layOrder_31 rfl (lv_at hl 0 rfl) ?_
                refine gX11_15 S hK hT ha kf_X11_48 dX11_layOrder_32 (fun _ _ => ?_)
                refine lv_iload_n hx hb dX11_layOrder_35 rfl (lv_at hl 2 rfl) ?_
                refine lv_iconst (v := 1) hx hb dX11_layOrder_36 (by decide) ?_
                refine xi_isub hx hb (rfl : Int32.toInt l2_26 = l2_26.toInt) ((by decide) : Int32.toInt 1 = (1 : Int)) dX11_layOrder_37 (fun x37 t37 => ?_)
                have e37 : x37.toInt = (l2_26.toInt - (1 : Int)) := (z_X11_layOrder_15 l2_26.toInt x37.toInt c27 t37 (xr l2_26))
                refine al_0 S hK hT hk9999 ar_42 (by decide) (by rw [(e37 : Int32.toInt x37 = (l2_26.toInt - (1 : Int)))]; exact (z_X11_layOrder_16 l1_7.toInt l2_26.toInt ((G_7.1 a 16).toInt) I7_1 c10 I26_0 c27)) dX11_layOrder_38 (fun x38 hv38 o38 => ?_)
                have hv38 : x38.toInt = (aI (G_26.2.1 (F a 15)) (l2_26.toInt - 1)) := hv38.trans (by rw [(e37 : Int32.toInt x37 = (l2_26.toInt - (1 : Int)))])
                have z39 : (0 ≤ (aI (G_26.2.1 (F a 15)) (l2_26.toInt - 1)) ∧ (aI (G_26.2.1 (F a 15)) (l2_26.toInt - 1)) ≤ 11) ∧ (aI (G_26.2.1 (F a 15)) (l2_26.toInt - 1)) = (aI (G_7.2.1 (F a 15)) (l2_26.toInt - 1)) := lo_ent po ps (z_X11_layOrder_17 l1_7.toInt l2_26.toInt ((G_7.1 a 16).toInt) I7_0 I26_0 c27)
                refine lv_bipush (v := 7) hx hb dX11_layOrder_39 (by decide) ?_
                refine x_clp (x_runV (b := a) (As := [.int x38, .int 7]) (rest := []) S (c_X11_of l E K F G_26 H a x38 7 ha (by rw [(hv38 : Int32.toInt x38 = (aI (G_26.2.1 (F a 15)) (l2_26.toInt - 1)))] <;> exact (z_X11_layOrder_18 (aI (G_26.2.1 (F a 15)) (l2_26.toInt - 1)) (aI (G_7.2.1 (F a 15)) (l2_26.toInt - 1)) z39)) (by decide)) mv_X11_of km_X11_165 rfl rfl ⟨Nat.le_of_ble_eq_true rfl, Nat.le_of_ble_eq_true rfl⟩ (rc_13 hK hT ha) hK (fun _ => XPh.blind) (fun U hU hW => XPh.at hK hz hS hT hU hW) rfl hl.1 (Nat.le_of_ble_eq_true rfl) dX11_layOrder_41 ⟨Nat.le_of_ble_eq_true rfl, Nat.le_of_ble_eq_true rfl⟩) hS ?_
                rintro _ _ locs ⟨x41, rfl, t41⟩ hS
                have t41 : x41.toInt = (aI (G.2.1 (F a 10)) (10 * (aI (G_26.2.1 (F a 15)) (l2_26.toInt - 1)) + 7)) := by rw [(hv38 : Int32.toInt x38 = (aI (G_26.2.1 (F a 15)) (l2_26.toInt - 1)))] at t41; rw [(show G_26.2.1 (F a 10) = G.2.1 (F a 10) from ((hF_26.2.1 _ (xn1 (xne_k hk9999a hk9999 (by decide)) xn0)).trans ((hF_7.2.1 _ (xn1 (xne_k hk9999a hk9999 (by decide)) xn0)).trans (ld_c hG2))))] at t41; exact t41
                refine lv_aload_n hx hb dX11_layOrder_44 rfl (lv_at hl 0 rfl) ?_
                refine lv_iload_n hx hb dX11_layOrder_45 rfl (lv_at hl 1 rfl) ?_
                refine lv_bipush (v := 7) hx hb dX11_layOrder_46 (by decide) ?_
                refine x_clp (x_runV (b := a) (As := [.int l1_7, .int 7]) (rest := [.int x41]) S (c_X11_of l E K F G_26 H a l1_7 7 ha (z_X11_layStates_6 l1_7.toInt I7_0 c10) (by decide)) mv_X11_of km_X11_165 rfl rfl ⟨Nat.le_of_ble_eq_true rfl, Nat.le_of_ble_eq_true rfl⟩ (rc_13 hK hT ha) hK (fun _ => XPh.blind) (fun U hU hW => XPh.at hK hz hS hT hU hW) rfl hl.1 (Nat.le_of_ble_eq_true rfl) dX11_layOrder_48 ⟨Nat.le_of_ble_eq_true rfl, Nat.le_of_ble_eq_true rfl⟩) hS ?_
                rintro _ _ locs ⟨x48, rfl, t48⟩ hS
                have t48 : x48.toInt = (aI (G.2.1 (F a 10)) (10 * l1_7.toInt + 7)) := by rw [(show G_26.2.1 (F a 10) = G.2.1 (F a 10) from ((hF_26.2.1 _ (xn1 (xne_k hk9999a hk9999 (by decide)) xn0)).trans ((hF_7.2.1 _ (xn1 (xne_k hk9999a hk9999 (by decide)) xn0)).trans (ld_c hG2))))] at t48; exact t48
                refine xi_cle (tgt := 74) hx hb (t41 : Int32.toInt x41 = (aI (G.2.1 (F a 10)) (10 * (aI (G_26.2.1 (F a 15)) (l2_26.toInt - 1)) + 7))) (t48 : Int32.toInt x48 = (aI (G.2.1 (F a 10)) (10 * l1_7.toInt + 7))) dX11_layOrder_51 (by decide) (fun c51 => ?_) (fun c51 => ?_)
                · refine lv_aload_n hx hb dX11_layOrder_74 rfl (lv_at hl 0 rfl) ?_
                  refine gX11_15 S hK hT ha kf_X11_48 dX11_layOrder_75 (fun _ _ => ?_)
                  refine lv_iload_n hx hb dX11_layOrder_78 rfl (lv_at hl 2 rfl) ?_
                  refine lv_iload_n hx hb dX11_layOrder_79 rfl (lv_at hl 1 rfl) ?_
                  refine as_0 (x := l1_7) S hK hT hS hk9999 ar_42 aw_42 (by decide) (z_X11_layOrder_20 l1_7.toInt l2_26.toInt ((G_7.1 a 16).toInt) I7_1 c10 I26_0) dX11_layOrder_80 (fun H locs hT hS => ?_)
                  obtain ⟨G80, hG80⟩ : ∃ GG : XG, GG = cput G_26 (F a 15) l2_26.toNatClampNeg l1_7 := ⟨_, rfl⟩
                  rw [← hG80] at hT
                  refine lv_aload_n hx hb dX11_layOrder_81 rfl (lv_at hl 0 rfl) ?_
                  refine lv_dup hx hb dX11_layOrder_82 rfl ?_
                  refine gX11_16 S hK hT ha kf_X11_197 dX11_layOrder_83 (v := (G_7.1 a 16)) ((lc_d hG80).trans (hF_26.1 _ _ xn0)) (?_)
                  refine lv_iconst (v := 1) hx hb dX11_layOrder_86 (by decide) ?_
                  refine xi_iadd hx hb (rfl : Int32.toInt (G_7.1 a 16) = ((G_7.1 a 16).toInt)) ((by decide) : Int32.toInt 1 = (1 : Int)) dX11_layOrder_87 (fun x87 t87 => ?_)
                  have e87 : x87.toInt = (((G_7.1 a 16).toInt) + (1 : Int)) := (z_X11_layOrder_9 l1_7.toInt x87.toInt ((G_7.1 a 16).toInt) I7_1 c10 t87)
                  refine pX11_16 (v := x87) S hK hT hS ha kf_X11_197 dX11_layOrder_88 (fun H locs hT hS => ?_)
                  obtain ⟨G88, hG88⟩ : ∃ GG : XG, GG = dput G80 a 16 x87 := ⟨_, rfl⟩
                  rw [← hG88] at hT
                  refine xi_iinc (n := 1) (lv' := fun z9 => [(1, .int z9), (0, .ref a), (2, .int l2_26)]) (k := 1) hx hb (rfl : Int32.toInt l1_7 = l1_7.toInt) (by decide) dX11_layOrder_91 hl rfl (by decide) (fun _ => rfl) (fun x91 ls t91 hl => ?_)
                  have e91 : x91.toInt = (l1_7.toInt + 1) := (z_X11_layStates_2 l1_7.toInt x91.toInt I7_0 t91)
                  have hl : lv_has ls 3 [(1, .int x91), (0, .ref a), (2, .int l2_26)] := hl
                  refine lv_goto (tgt := 7) hx hb dX11_layOrder_94 (by decide) ?_
                  exact ih7 x91 G88 _ _ _ (by rw [hG88]; exact XFr.dput (by rw [hG80]; exact XFr.cput (XFr.call (XFr.call XFr.rf hF_7 (xm1 0 rfl xm0) (xm1 0 rfl xm0) xm0) hF_26 xm0 (xm1 0 rfl xm0) xm0) (List.mem_of_getElem? (i := 0) rfl)) (List.mem_of_getElem? (i := 0) rfl)) (by rw [(e91 : Int32.toInt x91 = (l1_7.toInt + 1)), (show (G88.1 a 16).toInt = (((G_7.1 a 16).toInt) + (1 : Int)) from (congrArg Int32.toInt (ld_at hG88)).trans (e87 : Int32.toInt x87 = (((G_7.1 a 16).toInt) + (1 : Int))))] <;> exact (v_X11_layOrder_94_7 (K := K) (F := F) a G G_7 G_26 G80 l2_26 l1_7 G88 N7 x15 N26 ha hG80 po lo ps pp I7_0 I7_1 I7_2 hm7 c10 t15 c18 I26_0 hm26 c27 z39 c51 (ld_c hG88))) (v_X11_layOrder_94_8 (F := F) a G G_26 G80 l2_26 l1_7 G88 x87 hG80 hG88 lo) (by rw [(e91 : Int32.toInt x91 = (l1_7.toInt + 1))] <;> exact (z_X11_layStates_3 l1_7.toInt I7_0 c10)) (by rw [(e91 : Int32.toInt x91 = (l1_7.toInt + 1)), (show (G88.1 a 16).toInt = (((G_7.1 a 16).toInt) + (1 : Int)) from (congrArg Int32.toInt (ld_at hG88)).trans (e87 : Int32.toInt x87 = (((G_7.1 a 16).toInt) + (1 : Int))))] <;> exact (z_X11_layOrder_12 l1_7.toInt ((G_7.1 a 16).toInt) I7_1)) (by rw [(e91 : Int32.toInt x91 = (l1_7.toInt + 1))] <;> exact (z_X11_layStates_4 l1_7.toInt I7_0)) (by rw [(e91 : Int32.toInt x91 = (l1_7.toInt + 1))] <;> exact (z_X11_copy_9 l1_7.toInt N7 hm7)) hT hS (lv_sub hl [1, 0] rfl)
                · refine lv_aload_n hx hb dX11_layOrder_54 rfl (lv_at hl 0 rfl) ?_
                  refine gX11_15 S hK hT ha kf_X11_48 dX11_layOrder_55 (fun _ _ => ?_)
                  refine lv_iload_n hx hb dX11_layOrder_58 rfl (lv_at hl 2 rfl) ?_
                  refine lv_aload_n hx hb dX11_layOrder_59 rfl (lv_at hl 0 rfl) ?_
                  refine gX11_15 S hK hT ha kf_X11_48 dX11_layOrder_60 (fun _ _ => ?_)
                  refine lv_iload_n hx hb dX11_layOrder_63 rfl (lv_at hl 2 rfl) ?_
                  refine lv_iconst (v := 1) hx hb dX11_layOrder_64 (by decide) ?_
                  refine xi_isub hx hb (rfl : Int32.toInt l2_26 = l2_26.toInt) ((by decide) : Int32.toInt 1 = (1 : Int)) dX11_layOrder_65 (fun x65 t65 => ?_)
                  have e65 : x65.toInt = (l2_26.toInt - (1 : Int)) := (z_X11_layOrder_15 l2_26.toInt x65.toInt c27 t65 (xr l2_26))
                  refine al_0 S hK hT hk9999 ar_42 (by decide) (by rw [(e65 : Int32.toInt x65 = (l2_26.toInt - (1 : Int)))]; exact (z_X11_layOrder_16 l1_7.toInt l2_26.toInt ((G_7.1 a 16).toInt) I7_1 c10 I26_0 c27)) dX11_layOrder_66 (fun x66 hv66 o66 => ?_)
                  have hv66 : x66.toInt = (aI (G_26.2.1 (F a 15)) (l2_26.toInt - 1)) := hv66.trans (by rw [(e65 : Int32.toInt x65 = (l2_26.toInt - (1 : Int)))])
                  refine as_0 (x := x66) S hK hT hS hk9999 ar_42 aw_42 (by decide) (z_X11_layOrder_20 l1_7.toInt l2_26.toInt ((G_7.1 a 16).toInt) I7_1 c10 I26_0) dX11_layOrder_67 (fun H locs hT hS => ?_)
                  obtain ⟨G67, hG67⟩ : ∃ GG : XG, GG = cput G_26 (F a 15) l2_26.toNatClampNeg x66 := ⟨_, rfl⟩
                  rw [← hG67] at hT
                  refine xi_iinc (n := (-1)) (lv' := fun z9 => [(2, .int z9), (0, .ref a), (1, .int l1_7)]) (k := 2) hx hb (rfl : Int32.toInt l2_26 = l2_26.toInt) (by decide) dX11_layOrder_68 hl rfl (by decide) (fun _ => rfl) (fun x68 ls t68 hl => ?_)
                  have e68 : x68.toInt = (l2_26.toInt + (-1)) := (z_X11_layOrder_30 l2_26.toInt x68.toInt c27 t68 (xr l2_26))
                  have hl : lv_has ls 3 [(2, .int x68), (0, .ref a), (1, .int l1_7)] := hl
                  refine lv_goto (tgt := 26) hx hb dX11_layOrder_71 (by decide) ?_
                  exact ih26 x68 G67 _ _ _ (by rw [hG67]; exact XFr.cput (XFr.call XFr.rf hF_26 xm0 (xm1 0 rfl xm0) xm0) (List.mem_of_getElem? (i := 0) rfl)) (v_X11_layOrder_71_9 (F := F) a G G_26 G67 l2_26 x66 hG67 lo) (by rw [(e68 : Int32.toInt x68 = (l2_26.toInt + (-1)))] <;> exact (v_X11_layOrder_71_10 (K := K) (F := F) a G G_7 G_26 G67 l2_26 x66 l1_7 N7 x15 N26 ha hG67 lo ps pp hv66 I7_0 I7_1 I7_2 hm7 c10 t15 c18 I26_0 hm26 c27 z39 c51)) (by rw [(e68 : Int32.toInt x68 = (l2_26.toInt + (-1)))] <;> exact (v_X11_layOrder_71_11 (K := K) (F := F) a G G_7 G_26 l2_26 l1_7 N7 x15 N26 ha lo ps pp I7_0 I7_1 I7_2 hm7 c10 t15 c18 I26_0 hm26 c27 z39 c51)) (by rw [(e68 : Int32.toInt x68 = (l2_26.toInt + (-1)))] <;> exact (z_X11_layOrder_31 l2_26.toInt ((G_7.1 a 16).toInt) I26_0 c27)) (by rw [(e68 : Int32.toInt x68 = (l2_26.toInt + (-1)))] <;> exact (z_X11_layOrder_32 l2_26.toInt N26 hm26)) hT hS (lv_sub hl [1, 2, 0] rfl)
          exact L26 4294967297 (G_7.1 a 16) G_7 _ _ _ XFr.rf (v_X11_layOrder_25_12 G G_7 lo) (v_X11_layOrder_25_13 (F := F) a G_7) (v_X11_layOrder_25_14 (F := F) a G G_7 l1_7) (z_X11_layOrder_33 l1_7.toInt ((G_7.1 a 16).toInt) I7_1) (z_X11_layOrder_34 ((G_7.1 a 16).toInt) (xr (G_7.1 a 16))) hT hS (lv_sub hl [1, 2, 0] rfl)
  exact L7 4294967297 0 G2 _ _ _ XFr.rf (by rw [(show (G2.1 a 16).toInt = (0 : Int) from (congrArg Int32.toInt (ld_at hG2)).trans ((by decide) : Int32.toInt 0 = (0 : Int)))] <;> exact (v_X11_layOrder_6_15 (F := F) a G2 G)) (v_X11_layOrder_6_16 a G2 G hG2) (by decide) (by rw [(show (G2.1 a 16).toInt = (0 : Int) from (congrArg Int32.toInt (ld_at hG2)).trans ((by decide) : Int32.toInt 0 = (0 : Int)))] <;> exact (by decide)) (by decide) (by decide) hT hS (lv_sub hl [1, 0] rfl)
theorem fuL_s (f : Nat → Int32) (r1 r2 : Int → Int) (late : Int) (o : Nat → Nat) (n : Nat) : fuL f r1 r2 late o (n + 1) = fuL f r1 r2 late o n ++ fus f r1 r2 late ((o n : Nat) : Int) := rfl
/-- the questions found for the rule q with subjects below s -/
noncomputable def fup (f : Nat → Int32) (r1 r2 : Int → Int) (q s : Int) : List (Int × Int) := (lst (fun i : Nat => (i : Int) + sF (aI f (10 * q + 0))) (s - sF (aI f (10 * q + 0))).toNat).filterMap (fu1 f r1 r2 q)
theorem fup_0 {f : Nat → Int32} {r1 r2 : Int → Int} {q s : Int} (h : s = sF (aI f (10 * q + 0))) : fup f r1 r2 q s = [] := by
  unfold fup
  rw [h, Int.sub_self]
  rfl
theorem fup_s {f : Nat → Int32} {r1 r2 : Int → Int} {q s : Int} (h : sF (aI f (10 * q + 0)) ≤ s) : fup f r1 r2 q (s + 1) = fup f r1 r2 q s ++ [s].filterMap (fu1 f r1 r2 q) := by
  unfold fup
  rw [show (s + 1 - sF (aI f (10 * q + 0))).toNat = (s - sF (aI f (10 * q + 0))).toNat + 1 from by omega, lst_s, List.filterMap_append]
  congr 2
  congr 1
  omega
theorem fup_l {f : Nat → Int32} {r1 r2 : Int → Int} {q s late : Int} (h : s = sL (aI f (10 * q + 0)) + 1) (hl : late = 2 ∨ aI f (10 * q + 6) = late) : fup f r1 r2 q s = fus f r1 r2 late q := by
  unfold fup fus
  rw [if_pos hl, subs_lst, h]
  congr 3
  omega
theorem fus_no {f : Nat → Int32} {r1 r2 : Int → Int} {q late : Int} (hl : ¬ (late = 2 ∨ aI f (10 * q + 6) = late)) : fus f r1 r2 late q = [] := if_neg hl
theorem filterMap_1n2 {α : Type} {g : Int → Option α} {x : Int} (h : g x = none) : [x].filterMap g = [] := by rw [List.filterMap_cons_none h]; rfl
theorem fuL_le (f : Nat → Int32) (r1 r2 : Int → Int) (late : Int) (o : Nat → Nat) (n : Nat) : (fuL f r1 r2 late o n).length ≤ 199 * n := by
  induction n with
  | zero => exact Nat.le_refl _
  | succ n ih =>
    rw [fuL_s, List.length_append]
    have : (fus f r1 r2 late ((o n : Nat) : Int)).length ≤ 199 := by
      unfold fus
      split
      · refine Nat.le_trans (List.length_filterMap_le _ _) ?_
        unfold subs
        split
        · rw [List.length_map, List.length_range]; omega
        · rw [List.length_map, List.length_range]; omega
      · exact Nat.zero_le _
    omega
theorem or_le {f g : Nat → Int32} {sz : Int} (h : ORm f g sz 12) : 0 ≤ sz ∧ sz ≤ 12 := by
  have := ordN_le (prM f) (rkM f) 12
  have := h.1
  omega
theorem or_ent {f g : Nat → Int32} {sz z : Int} (h : ORm f g sz 12) (hz : 0 ≤ z ∧ z < sz) : (0 ≤ aI g z ∧ aI g z ≤ 11) ∧ aI f (10 * aI g z + 0) ≠ -1 := by
  have := h.ent (by omega) hz
  exact ⟨⟨this.1, this.2.1⟩, this.2.2⟩
theorem or_nth {f g : Nat → Int32} {sz z : Int} (h : ORm f g sz 12) (hz : 0 ≤ z ∧ z < sz) : (((ordN (prM f) (rkM f) 12).2 z.toNat : Nat) : Int) = aI g z := by
  have h1 := h.1
  exact (h.2 z.toNat (by omega)).symm
theorem v_X11_findUnlike_1_1 {F : Nat → Nat → Nat} (a : Nat) (G : XG)
    (hR : RV (G.2.1 (F a 10))) :
    RV (G.2.1 (F a 10)) := by exact hR
theorem v_X11_findUnlike_131_2 {K : Nat → Nat} {F : Nat → Nat → Nat} (a : Nat) (p1 : Nat) (p2 : Nat) (G : XG) (G1 : XG) (G_12 : XG) (r1 : Int → Int) (r2 : Int → Int) (p0 : Int32) (l4_12 : Int32) (N12 : Nat)
    (ha : K a = 13)
    (hp1 : K p1 = 38)
    (hp2 : K p2 = 38)
    (oq1 : ORm (G.2.1 (F a 10)) (G1.2.1 (F a 15)) ((G1.1 a 16).toInt) 12)
    (oq1a : G1.2.2.2 = G.2.2.2)
    (pu : pL G_12 F a = fuL (G.2.1 (F a 10)) r1 r2 p0.toInt (ordN (prM (G.2.1 (F a 10))) (rkM (G.2.1 (F a 10))) 12).2 (l4_12.toInt).toNat)
    (lo : G_12.2.2.2 = G.2.2.2)
    (z10 : 0 ≤ ((G1.1 a 16).toInt) ∧ ((G1.1 a 16).toInt) ≤ 12)
    (I12_0 : 0 ≤ l4_12.toInt ∧ l4_12.toInt ≤ ((G1.1 a 16).toInt))
    (I12_1 : 0 ≤ ((G_12.1 a 19).toInt) ∧ ((G_12.1 a 19).toInt) ≤ 199 * l4_12.toInt)
    (I12_2 : (0 : Int) ≤ l4_12.toInt)
    (hm12 : 2147483648 - l4_12.toInt < (((N12) + 1 : Nat) : Int))
    (c18 : ((G1.1 a 16).toInt) ≤ l4_12.toInt) :
    pL G_12 F a = fuL (G.2.1 (F a 10)) r1 r2 p0.toInt (ordN (prM (G.2.1 (F a 10))) (rkM (G.2.1 (F a 10))) 12).2 (ordN (prM (G.2.1 (F a 10))) (rkM (G.2.1 (F a 10))) 12).1 := by
  have e := oq1.1
  rw [pu, show l4_12.toInt.toNat = (ordN (prM (G.2.1 (F a 10))) (rkM (G.2.1 (F a 10))) 12).1 from by omega]
theorem v_X11_findUnlike_131_3 {F : Nat → Nat → Nat} (a : Nat) (G : XG) (G1 : XG) (G_12 : XG)
    (oq1 : ORm (G.2.1 (F a 10)) (G1.2.1 (F a 15)) ((G1.1 a 16).toInt) 12)
    (c_G_12_F_a_15 : G_12.2.1 (F a 15) = G1.2.1 (F a 15))
    (d_G_12_a_16 : G_12.1 a 16 = G1.1 a 16) :
    ORm (G.2.1 (F a 10)) (G_12.2.1 (F a 15)) ((G_12.1 a 16).toInt) 12 := by
  rw [c_G_12_F_a_15, d_G_12_a_16]; exact oq1
theorem v_X11_findUnlike_131_4 (G : XG) (G_12 : XG)
    (lo : G_12.2.2.2 = G.2.2.2) :
    G_12.2.2.2 = G.2.2.2 := by
  exact lo
theorem v_X11_findUnlike_128_5 {K : Nat → Nat} {F : Nat → Nat → Nat} (a : Nat) (p1 : Nat) (p2 : Nat) (G : XG) (G1 : XG) (G_12 : XG) (G_38 : XG) (r1 : Int → Int) (r2 : Int → Int) (p0 : Int32) (l4_12 : Int32) (l6_38 : Int32) (N12 : Nat) (N38 : Nat)
    (ha : K a = 13)
    (hp1 : K p1 = 38)
    (hp2 : K p2 = 38)
    (oq1 : ORm (G.2.1 (F a 10)) (G1.2.1 (F a 15)) ((G1.1 a 16).toInt) 12)
    (oq1a : G1.2.2.2 = G.2.2.2)
    (pu : pL G_12 F a = fuL (G.2.1 (F a 10)) r1 r2 p0.toInt (ordN (prM (G.2.1 (F a 10))) (rkM (G.2.1 (F a 10))) 12).2 (l4_12.toInt).toNat)
    (pi : pL G_38 F a = pL G_12 F a ++ fup (G.2.1 (F a 10)) r1 r2 (aI (G1.2.1 (F a 15)) (l4_12.toInt)) l6_38.toInt)
    (lo : G_38.2.2.2 = G.2.2.2)
    (z10 : 0 ≤ ((G1.1 a 16).toInt) ∧ ((G1.1 a 16).toInt) ≤ 12)
    (I12_0 : 0 ≤ l4_12.toInt ∧ l4_12.toInt ≤ ((G1.1 a 16).toInt))
    (I12_1 : 0 ≤ ((G_12.1 a 19).toInt) ∧ ((G_12.1 a 19).toInt) ≤ 199 * l4_12.toInt)
    (I12_2 : (0 : Int) ≤ l4_12.toInt)
    (hm12 : 2147483648 - l4_12.toInt < (((N12) + 1 : Nat) : Int))
    (c18 : ¬ (((G1.1 a 16).toInt) ≤ l4_12.toInt))
    (z28 : (0 ≤ (aI (G1.2.1 (F a 15)) (l4_12.toInt)) ∧ (aI (G1.2.1 (F a 15)) (l4_12.toInt)) ≤ 11) ∧ (aI (G.2.1 (F a 10)) (10 * (aI (G1.2.1 (F a 15)) (l4_12.toInt)) + 0)) ≠ -1)
    (z30 : (-1 ≤ (aI (G.2.1 (F a 10)) (10 * (aI (G1.2.1 (F a 15)) (l4_12.toInt)) + 0)) ∧ (aI (G.2.1 (F a 10)) (10 * (aI (G1.2.1 (F a 15)) (l4_12.toInt)) + 0)) ≤ 5) ∧ (0 ≤ (aI (G.2.1 (F a 10)) (10 * (aI (G1.2.1 (F a 15)) (l4_12.toInt)) + 1)) ∧ (aI (G.2.1 (F a 10)) (10 * (aI (G1.2.1 (F a 15)) (l4_12.toInt)) + 1)) ≤ 2) ∧ (0 ≤ (aI (G.2.1 (F a 10)) (10 * (aI (G1.2.1 (F a 15)) (l4_12.toInt)) + 2)) ∧ (aI (G.2.1 (F a 10)) (10 * (aI (G1.2.1 (F a 15)) (l4_12.toInt)) + 2)) ≤ 2) ∧ (-1 ≤ (aI (G.2.1 (F a 10)) (10 * (aI (G1.2.1 (F a 15)) (l4_12.toInt)) + 3)) ∧ (aI (G.2.1 (F a 10)) (10 * (aI (G1.2.1 (F a 15)) (l4_12.toInt)) + 3)) ≤ 2) ∧ ((aI (G.2.1 (F a 10)) (10 * (aI (G1.2.1 (F a 15)) (l4_12.toInt)) + 0)) = 1 ∨ (aI (G.2.1 (F a 10)) (10 * (aI (G1.2.1 (F a 15)) (l4_12.toInt)) + 0)) = 3 ∨ (aI (G.2.1 (F a 10)) (10 * (aI (G1.2.1 (F a 15)) (l4_12.toInt)) + 0)) = 4 → 0 ≤ (aI (G.2.1 (F a 10)) (10 * (aI (G1.2.1 (F a 15)) (l4_12.toInt)) + 3))))
    (z30a : (((aI (G.2.1 (F a 10)) (10 * (aI (G1.2.1 (F a 15)) (l4_12.toInt)) + 0)) = 2 ∨ (aI (G.2.1 (F a 10)) (10 * (aI (G1.2.1 (F a 15)) (l4_12.toInt)) + 0)) = 4 ∨ (aI (G.2.1 (F a 10)) (10 * (aI (G1.2.1 (F a 15)) (l4_12.toInt)) + 0)) = 5) ∧ (sF (aI (G.2.1 (F a 10)) (10 * (aI (G1.2.1 (F a 15)) (l4_12.toInt)) + 0))) = 0 ∧ (sL (aI (G.2.1 (F a 10)) (10 * (aI (G1.2.1 (F a 15)) (l4_12.toInt)) + 0))) = 29) ∨ (¬ ((aI (G.2.1 (F a 10)) (10 * (aI (G1.2.1 (F a 15)) (l4_12.toInt)) + 0)) = 2 ∨ (aI (G.2.1 (F a 10)) (10 * (aI (G1.2.1 (F a 15)) (l4_12.toInt)) + 0)) = 4 ∨ (aI (G.2.1 (F a 10)) (10 * (aI (G1.2.1 (F a 15)) (l4_12.toInt)) + 0)) = 5) ∧ (sF (aI (G.2.1 (F a 10)) (10 * (aI (G1.2.1 (F a 15)) (l4_12.toInt)) + 0))) = -99 ∧ (sL (aI (G.2.1 (F a 10)) (10 * (aI (G1.2.1 (F a 15)) (l4_12.toInt)) + 0))) = 99))
    (I38_0 : (sF (aI (G.2.1 (F a 10)) (10 * (aI (G1.2.1 (F a 15)) (l4_12.toInt)) + 0))) ≤ l6_38.toInt ∧ l6_38.toInt ≤ (sL (aI (G.2.1 (F a 10)) (10 * (aI (G1.2.1 (F a 15)) (l4_12.toInt)) + 0))) + 1)
    (I38_1 : 0 ≤ ((G_38.1 a 19).toInt) ∧ ((G_38.1 a 19).toInt) ≤ 199 * l4_12.toInt + (l6_38.toInt - (sF (aI (G.2.1 (F a 10)) (10 * (aI (G1.2.1 (F a 15)) (l4_12.toInt)) + 0)))))
    (I38_2 : l6_38.toInt = (sF (aI (G.2.1 (F a 10)) (10 * (aI (G1.2.1 (F a 15)) (l4_12.toInt)) + 0))) ∨ p0.toInt = 2 ∨ (aI (G.2.1 (F a 10)) (10 * (aI (G1.2.1 (F a 15)) (l4_12.toInt)) + 6)) = p0.toInt)
    (hm38 : 2147483648 - l6_38.toInt < (((N38) + 1 : Nat) : Int))
    (c46 : (sL (aI (G.2.1 (F a 10)) (10 * (aI (G1.2.1 (F a 15)) (l4_12.toInt)) + 0))) < l6_38.toInt) :
    pL G_38 F a = fuL (G.2.1 (F a 10)) r1 r2 p0.toInt (ordN (prM (G.2.1 (F a 10))) (rkM (G.2.1 (F a 10))) 12).2 (l4_12.toInt + 1).toNat := by
  have e0 := sFL (aI (G.2.1 (F a 10)) (10 * aI (G1.2.1 (F a 15)) l4_12.toInt + 0))
  rw [show (l4_12.toInt + 1).toNat = l4_12.toInt.toNat + 1 from by omega, fuL_s, ← pu, or_nth oq1 (by omega), pi]
  congr 1
  first
    | exact fup_l (by omega) (by omega)
    | rw [fup_0 (by omega), fus_no (by omega)]
theorem v_X11_findUnlike_128_6 (G : XG) (G_38 : XG)
    (lo : G_38.2.2.2 = G.2.2.2) :
    G_38.2.2.2 = G.2.2.2 := by
  exact lo
theorem v_X11_findUnlike_122_7 {K : Nat → Nat} {F : Nat → Nat → Nat} (a : Nat) (p1 : Nat) (p2 : Nat) (G : XG) (G1 : XG) (G_12 : XG) (G_38 : XG) (r1 : Int → Int) (r2 : Int → Int) (p0 : Int32) (l4_12 : Int32) (x27 : Int32) (l6_38 : Int32) (N12 : Nat) (N38 : Nat)
    (ha : K a = 13)
    (hp1 : K p1 = 38)
    (hp2 : K p2 = 38)
    (h1 : LSt (G.2.1 (F a 10)) (G.2.1 p1) r1 12)
    (h2 : LSt (G.2.1 (F a 10)) (G.2.1 p2) r2 12)
    (oq1a : G1.2.2.2 = G.2.2.2)
    (hv27 : x27.toInt = (aI (G1.2.1 (F a 15)) (l4_12.toInt)))
    (pi : pL G_38 F a = pL G_12 F a ++ fup (G.2.1 (F a 10)) r1 r2 (aI (G1.2.1 (F a 15)) (l4_12.toInt)) l6_38.toInt)
    (lo : G_38.2.2.2 = G.2.2.2)
    (z10 : 0 ≤ ((G1.1 a 16).toInt) ∧ ((G1.1 a 16).toInt) ≤ 12)
    (I12_0 : 0 ≤ l4_12.toInt ∧ l4_12.toInt ≤ ((G1.1 a 16).toInt))
    (I12_1 : 0 ≤ ((G_12.1 a 19).toInt) ∧ ((G_12.1 a 19).toInt) ≤ 199 * l4_12.toInt)
    (I12_2 : (0 : Int) ≤ l4_12.toInt)
    (hm12 : 2147483648 - l4_12.toInt < (((N12) + 1 : Nat) : Int))
    (c18 : ¬ (((G1.1 a 16).toInt) ≤ l4_12.toInt))
    (z28 : (0 ≤ (aI (G1.2.1 (F a 15)) (l4_12.toInt)) ∧ (aI (G1.2.1 (F a 15)) (l4_12.toInt)) ≤ 11) ∧ (aI (G.2.1 (F a 10)) (10 * (aI (G1.2.1 (F a 15)) (l4_12.toInt)) + 0)) ≠ -1)
    (z30 : (-1 ≤ (aI (G.2.1 (F a 10)) (10 * (aI (G1.2.1 (F a 15)) (l4_12.toInt)) + 0)) ∧ (aI (G.2.1 (F a 10)) (10 * (aI (G1.2.1 (F a 15)) (l4_12.toInt)) + 0)) ≤ 5) ∧ (0 ≤ (aI (G.2.1 (F a 10)) (10 * (aI (G1.2.1 (F a 15)) (l4_12.toInt)) + 1)) ∧ (aI (G.2.1 (F a 10)) (10 * (aI (G1.2.1 (F a 15)) (l4_12.toInt)) + 1)) ≤ 2) ∧ (0 ≤ (aI (G.2.1 (F a 10)) (10 * (aI (G1.2.1 (F a 15)) (l4_12.toInt)) + 2)) ∧ (aI (G.2.1 (F a 10)) (10 * (aI (G1.2.1 (F a 15)) (l4_12.toInt)) + 2)) ≤ 2) ∧ (-1 ≤ (aI (G.2.1 (F a 10)) (10 * (aI (G1.2.1 (F a 15)) (l4_12.toInt)) + 3)) ∧ (aI (G.2.1 (F a 10)) (10 * (aI (G1.2.1 (F a 15)) (l4_12.toInt)) + 3)) ≤ 2) ∧ ((aI (G.2.1 (F a 10)) (10 * (aI (G1.2.1 (F a 15)) (l4_12.toInt)) + 0)) = 1 ∨ (aI (G.2.1 (F a 10)) (10 * (aI (G1.2.1 (F a 15)) (l4_12.toInt)) + 0)) = 3 ∨ (aI (G.2.1 (F a 10)) (10 * (aI (G1.2.1 (F a 15)) (l4_12.toInt)) + 0)) = 4 → 0 ≤ (aI (G.2.1 (F a 10)) (10 * (aI (G1.2.1 (F a 15)) (l4_12.toInt)) + 3))))
    (z30a : (((aI (G.2.1 (F a 10)) (10 * (aI (G1.2.1 (F a 15)) (l4_12.toInt)) + 0)) = 2 ∨ (aI (G.2.1 (F a 10)) (10 * (aI (G1.2.1 (F a 15)) (l4_12.toInt)) + 0)) = 4 ∨ (aI (G.2.1 (F a 10)) (10 * (aI (G1.2.1 (F a 15)) (l4_12.toInt)) + 0)) = 5) ∧ (sF (aI (G.2.1 (F a 10)) (10 * (aI (G1.2.1 (F a 15)) (l4_12.toInt)) + 0))) = 0 ∧ (sL (aI (G.2.1 (F a 10)) (10 * (aI (G1.2.1 (F a 15)) (l4_12.toInt)) + 0))) = 29) ∨ (¬ ((aI (G.2.1 (F a 10)) (10 * (aI (G1.2.1 (F a 15)) (l4_12.toInt)) + 0)) = 2 ∨ (aI (G.2.1 (F a 10)) (10 * (aI (G1.2.1 (F a 15)) (l4_12.toInt)) + 0)) = 4 ∨ (aI (G.2.1 (F a 10)) (10 * (aI (G1.2.1 (F a 15)) (l4_12.toInt)) + 0)) = 5) ∧ (sF (aI (G.2.1 (F a 10)) (10 * (aI (G1.2.1 (F a 15)) (l4_12.toInt)) + 0))) = -99 ∧ (sL (aI (G.2.1 (F a 10)) (10 * (aI (G1.2.1 (F a 15)) (l4_12.toInt)) + 0))) = 99))
    (I38_0 : (sF (aI (G.2.1 (F a 10)) (10 * (aI (G1.2.1 (F a 15)) (l4_12.toInt)) + 0))) ≤ l6_38.toInt ∧ l6_38.toInt ≤ (sL (aI (G.2.1 (F a 10)) (10 * (aI (G1.2.1 (F a 15)) (l4_12.toInt)) + 0))) + 1)
    (I38_1 : 0 ≤ ((G_38.1 a 19).toInt) ∧ ((G_38.1 a 19).toInt) ≤ 199 * l4_12.toInt + (l6_38.toInt - (sF (aI (G.2.1 (F a 10)) (10 * (aI (G1.2.1 (F a 15)) (l4_12.toInt)) + 0)))))
    (I38_2 : l6_38.toInt = (sF (aI (G.2.1 (F a 10)) (10 * (aI (G1.2.1 (F a 15)) (l4_12.toInt)) + 0))) ∨ p0.toInt = 2 ∨ (aI (G.2.1 (F a 10)) (10 * (aI (G1.2.1 (F a 15)) (l4_12.toInt)) + 6)) = p0.toInt)
    (hm38 : 2147483648 - l6_38.toInt < (((N38) + 1 : Nat) : Int))
    (c46 : ¬ ((sL (aI (G.2.1 (F a 10)) (10 * (aI (G1.2.1 (F a 15)) (l4_12.toInt)) + 0))) < l6_38.toInt))
    (c51 : p0.toInt = (2 : Int))
    (c84 : (aI (G.2.1 p1) (199 * (aI (G1.2.1 (F a 15)) (l4_12.toInt)) + l6_38.toInt + 99)) = (aI (G.2.1 p2) (199 * (aI (G1.2.1 (F a 15)) (l4_12.toInt)) + l6_38.toInt + 99))) :
    pL G_38 F a = pL G_12 F a ++ fup (G.2.1 (F a 10)) r1 r2 (aI (G1.2.1 (F a 15)) (l4_12.toInt)) (l6_38.toInt + 1) := by
  have e0 := sFL (aI (G.2.1 (F a 10)) (10 * aI (G1.2.1 (F a 15)) l4_12.toInt + 0))
  have e1 := h1 (aI (G1.2.1 (F a 15)) l4_12.toInt) l6_38.toInt (by omega) (by omega) (by omega) (sbj_FL.mpr (by omega))
  have e2 := h2 (aI (G1.2.1 (F a 15)) l4_12.toInt) l6_38.toInt (by omega) (by omega) (by omega) (sbj_FL.mpr (by omega))
  rw [fup_s (by omega), ← List.append_assoc, ← pi]
  by_cases hq : stt r1 (aI (G.2.1 (F a 10)) (10 * aI (G1.2.1 (F a 15)) l4_12.toInt + 0)) (aI (G.2.1 (F a 10)) (10 * aI (G1.2.1 (F a 15)) l4_12.toInt + 1)) (aI (G.2.1 (F a 10)) (10 * aI (G1.2.1 (F a 15)) l4_12.toInt + 2)) (aI (G.2.1 (F a 10)) (10 * aI (G1.2.1 (F a 15)) l4_12.toInt + 3)) l6_38.toInt = stt r2 (aI (G.2.1 (F a 10)) (10 * aI (G1.2.1 (F a 15)) l4_12.toInt + 0)) (aI (G.2.1 (F a 10)) (10 * aI (G1.2.1 (F a 15)) l4_12.toInt + 1)) (aI (G.2.1 (F a 10)) (10 * aI (G1.2.1 (F a 15)) l4_12.toInt + 2)) (aI (G.2.1 (F a 10)) (10 * aI (G1.2.1 (F a 15)) l4_12.toInt + 3)) l6_38.toInt
  · first
      | (exfalso; omega)
      | (have hn : fu1 (G.2.1 (F a 10)) r1 r2 (aI (G1.2.1 (F a 15)) l4_12.toInt) l6_38.toInt = none := if_neg (fun z => z hq)
         rw [filterMap_1n2 hn, List.append_nil])
  · first
      | (exfalso; omega)
      | (have hs : fu1 (G.2.1 (F a 10)) r1 r2 (aI (G1.2.1 (F a 15)) l4_12.toInt) l6_38.toInt = some _ := if_pos hq
         rw [filterMap_1s hs, ← hv27]
         have e9 : (G_38.1 a 19).toNatClampNeg = (G_38.1 a 19).toInt.toNat := rfl
         refine pL_push (n := (G_38.1 a 19).toInt.toNat) (by omega) (by rw [d_G116_a_19, e115]; omega) ?_ ?_
         · intro j; rw [c_G116_F_a_17, cput_j hG97, e9]
         · intro j; rw [c_G116_F_a_18, cput_j hG108, c_G97_F_a_18, e9])
theorem v_X11_findUnlike_122_8 (G : XG) (G_38 : XG)
    (lo : G_38.2.2.2 = G.2.2.2) :
    G_38.2.2.2 = G.2.2.2 := by
  first
    | exact lo
    | (rw [hG116, hG108, hG97]; exact lo)
theorem v_X11_findUnlike_122_9 {K : Nat → Nat} {F : Nat → Nat → Nat} (a : Nat) (p1 : Nat) (p2 : Nat) (G : XG) (G1 : XG) (G_12 : XG) (G_38 : XG) (G97 : XG) (x27 : Int32) (G108 : XG) (l6_38 : Int32) (G116 : XG) (x115 : Int32) (r1 : Int → Int) (r2 : Int → Int) (p0 : Int32) (l4_12 : Int32) (N12 : Nat) (N38 : Nat)
    (ha : K a = 13)
    (hp1 : K p1 = 38)
    (hp2 : K p2 = 38)
    (hG97 : G97 = cput G_38 (F a 17) (G_38.1 a 19).toNatClampNeg x27)
    (hG108 : G108 = cput G97 (F a 18) (G_38.1 a 19).toNatClampNeg l6_38)
    (h1 : LSt (G.2.1 (F a 10)) (G.2.1 p1) r1 12)
    (h2 : LSt (G.2.1 (F a 10)) (G.2.1 p2) r2 12)
    (oq1a : G1.2.2.2 = G.2.2.2)
    (hv27 : x27.toInt = (aI (G1.2.1 (F a 15)) (l4_12.toInt)))
    (pi : pL G_38 F a = pL G_12 F a ++ fup (G.2.1 (F a 10)) r1 r2 (aI (G1.2.1 (F a 15)) (l4_12.toInt)) l6_38.toInt)
    (lo : G_38.2.2.2 = G.2.2.2)
    (e115 : x115.toInt = (((G_38.1 a 19).toInt) + (1 : Int)))
    (z10 : 0 ≤ ((G1.1 a 16).toInt) ∧ ((G1.1 a 16).toInt) ≤ 12)
    (I12_0 : 0 ≤ l4_12.toInt ∧ l4_12.toInt ≤ ((G1.1 a 16).toInt))
    (I12_1 : 0 ≤ ((G_12.1 a 19).toInt) ∧ ((G_12.1 a 19).toInt) ≤ 199 * l4_12.toInt)
    (I12_2 : (0 : Int) ≤ l4_12.toInt)
    (hm12 : 2147483648 - l4_12.toInt < (((N12) + 1 : Nat) : Int))
    (c18 : ¬ (((G1.1 a 16).toInt) ≤ l4_12.toInt))
    (z28 : (0 ≤ (aI (G1.2.1 (F a 15)) (l4_12.toInt)) ∧ (aI (G1.2.1 (F a 15)) (l4_12.toInt)) ≤ 11) ∧ (aI (G.2.1 (F a 10)) (10 * (aI (G1.2.1 (F a 15)) (l4_12.toInt)) + 0)) ≠ -1)
    (z30 : (-1 ≤ (aI (G.2.1 (F a 10)) (10 * (aI (G1.2.1 (F a 15)) (l4_12.toInt)) + 0)) ∧ (aI (G.2.1 (F a 10)) (10 * (aI (G1.2.1 (F a 15)) (l4_12.toInt)) + 0)) ≤ 5) ∧ (0 ≤ (aI (G.2.1 (F a 10)) (10 * (aI (G1.2.1 (F a 15)) (l4_12.toInt)) + 1)) ∧ (aI (G.2.1 (F a 10)) (10 * (aI (G1.2.1 (F a 15)) (l4_12.toInt)) + 1)) ≤ 2) ∧ (0 ≤ (aI (G.2.1 (F a 10)) (10 * (aI (G1.2.1 (F a 15)) (l4_12.toInt)) + 2)) ∧ (aI (G.2.1 (F a 10)) (10 * (aI (G1.2.1 (F a 15)) (l4_12.toInt)) + 2)) ≤ 2) ∧ (-1 ≤ (aI (G.2.1 (F a 10)) (10 * (aI (G1.2.1 (F a 15)) (l4_12.toInt)) + 3)) ∧ (aI (G.2.1 (F a 10)) (10 * (aI (G1.2.1 (F a 15)) (l4_12.toInt)) + 3)) ≤ 2) ∧ ((aI (G.2.1 (F a 10)) (10 * (aI (G1.2.1 (F a 15)) (l4_12.toInt)) + 0)) = 1 ∨ (aI (G.2.1 (F a 10)) (10 * (aI (G1.2.1 (F a 15)) (l4_12.toInt)) + 0)) = 3 ∨ (aI (G.2.1 (F a 10)) (10 * (aI (G1.2.1 (F a 15)) (l4_12.toInt)) + 0)) = 4 → 0 ≤ (aI (G.2.1 (F a 10)) (10 * (aI (G1.2.1 (F a 15)) (l4_12.toInt)) + 3))))
    (z30a : (((aI (G.2.1 (F a 10)) (10 * (aI (G1.2.1 (F a 15)) (l4_12.toInt)) + 0)) = 2 ∨ (aI (G.2.1 (F a 10)) (10 * (aI (G1.2.1 (F a 15)) (l4_12.toInt)) + 0)) = 4 ∨ (aI (G.2.1 (F a 10)) (10 * (aI (G1.2.1 (F a 15)) (l4_12.toInt)) + 0)) = 5) ∧ (sF (aI (G.2.1 (F a 10)) (10 * (aI (G1.2.1 (F a 15)) (l4_12.toInt)) + 0))) = 0 ∧ (sL (aI (G.2.1 (F a 10)) (10 * (aI (G1.2.1 (F a 15)) (l4_12.toInt)) + 0))) = 29) ∨ (¬ ((aI (G.2.1 (F a 10)) (10 * (aI (G1.2.1 (F a 15)) (l4_12.toInt)) + 0)) = 2 ∨ (aI (G.2.1 (F a 10)) (10 * (aI (G1.2.1 (F a 15)) (l4_12.toInt)) + 0)) = 4 ∨ (aI (G.2.1 (F a 10)) (10 * (aI (G1.2.1 (F a 15)) (l4_12.toInt)) + 0)) = 5) ∧ (sF (aI (G.2.1 (F a 10)) (10 * (aI (G1.2.1 (F a 15)) (l4_12.toInt)) + 0))) = -99 ∧ (sL (aI (G.2.1 (F a 10)) (10 * (aI (G1.2.1 (F a 15)) (l4_12.toInt)) + 0))) = 99))
    (I38_0 : (sF (aI (G.2.1 (F a 10)) (10 * (aI (G1.2.1 (F a 15)) (l4_12.toInt)) + 0))) ≤ l6_38.toInt ∧ l6_38.toInt ≤ (sL (aI (G.2.1 (F a 10)) (10 * (aI (G1.2.1 (F a 15)) (l4_12.toInt)) + 0))) + 1)
    (I38_1 : 0 ≤ ((G_38.1 a 19).toInt) ∧ ((G_38.1 a 19).toInt) ≤ 199 * l4_12.toInt + (l6_38.toInt - (sF (aI (G.2.1 (F a 10)) (10 * (aI (G1.2.1 (F a 15)) (l4_12.toInt)) + 0)))))
    (I38_2 : l6_38.toInt = (sF (aI (G.2.1 (F a 10)) (10 * (aI (G1.2.1 (F a 15)) (l4_12.toInt)) + 0))) ∨ p0.toInt = 2 ∨ (aI (G.2.1 (F a 10)) (10 * (aI (G1.2.1 (F a 15)) (l4_12.toInt)) + 6)) = p0.toInt)
    (hm38 : 2147483648 - l6_38.toInt < (((N38) + 1 : Nat) : Int))
    (c46 : ¬ ((sL (aI (G.2.1 (F a 10)) (10 * (aI (G1.2.1 (F a 15)) (l4_12.toInt)) + 0))) < l6_38.toInt))
    (c51 : p0.toInt = (2 : Int))
    (c84 : ¬ ((aI (G.2.1 p1) (199 * (aI (G1.2.1 (F a 15)) (l4_12.toInt)) + l6_38.toInt + 99)) = (aI (G.2.1 p2) (199 * (aI (G1.2.1 (F a 15)) (l4_12.toInt)) + l6_38.toInt + 99))))
    (c_G116_F_a_17 : G116.2.1 (F a 17) = G97.2.1 (F a 17))
    (c_G116_F_a_18 : G116.2.1 (F a 18) = G108.2.1 (F a 18))
    (c_G97_F_a_18 : G97.2.1 (F a 18) = G_38.2.1 (F a 18))
    (d_G116_a_19 : G116.1 a 19 = x115) :
    pL G116 F a = pL G_12 F a ++ fup (G.2.1 (F a 10)) r1 r2 (aI (G1.2.1 (F a 15)) (l4_12.toInt)) (l6_38.toInt + 1) := by
  have e0 := sFL (aI (G.2.1 (F a 10)) (10 * aI (G1.2.1 (F a 15)) l4_12.toInt + 0))
  have e1 := h1 (aI (G1.2.1 (F a 15)) l4_12.toInt) l6_38.toInt (by omega) (by omega) (by omega) (sbj_FL.mpr (by omega))
  have e2 := h2 (aI (G1.2.1 (F a 15)) l4_12.toInt) l6_38.toInt (by omega) (by omega) (by omega) (sbj_FL.mpr (by omega))
  rw [fup_s (by omega), ← List.append_assoc, ← pi]
  by_cases hq : stt r1 (aI (G.2.1 (F a 10)) (10 * aI (G1.2.1 (F a 15)) l4_12.toInt + 0)) (aI (G.2.1 (F a 10)) (10 * aI (G1.2.1 (F a 15)) l4_12.toInt + 1)) (aI (G.2.1 (F a 10)) (10 * aI (G1.2.1 (F a 15)) l4_12.toInt + 2)) (aI (G.2.1 (F a 10)) (10 * aI (G1.2.1 (F a 15)) l4_12.toInt + 3)) l6_38.toInt = stt r2 (aI (G.2.1 (F a 10)) (10 * aI (G1.2.1 (F a 15)) l4_12.toInt + 0)) (aI (G.2.1 (F a 10)) (10 * aI (G1.2.1 (F a 15)) l4_12.toInt + 1)) (aI (G.2.1 (F a 10)) (10 * aI (G1.2.1 (F a 15)) l4_12.toInt + 2)) (aI (G.2.1 (F a 10)) (10 * aI (G1.2.1 (F a 15)) l4_12.toInt + 3)) l6_38.toInt
  · first
      | (exfalso; omega)
      | (have hn : fu1 (G.2.1 (F a 10)) r1 r2 (aI (G1.2.1 (F a 15)) l4_12.toInt) l6_38.toInt = none := if_neg (fun z => z hq)
         rw [filterMap_1n2 hn, List.append_nil])
  · first
      | (exfalso; omega)
      | (have hs : fu1 (G.2.1 (F a 10)) r1 r2 (aI (G1.2.1 (F a 15)) l4_12.toInt) l6_38.toInt = some _ := if_pos hq
         rw [filterMap_1s hs, ← hv27]
         have e9 : (G_38.1 a 19).toNatClampNeg = (G_38.1 a 19).toInt.toNat := rfl
         refine pL_push (n := (G_38.1 a 19).toInt.toNat) (by omega) (by rw [d_G116_a_19, e115]; omega) ?_ ?_
         · intro j; rw [c_G116_F_a_17, cput_j hG97, e9]
         · intro j; rw [c_G116_F_a_18, cput_j hG108, c_G97_F_a_18, e9])
theorem v_X11_findUnlike_122_10 {F : Nat → Nat → Nat} (a : Nat) (G : XG) (G_38 : XG) (G97 : XG) (x27 : Int32) (G108 : XG) (l6_38 : Int32) (G116 : XG) (x115 : Int32)
    (hG97 : G97 = cput G_38 (F a 17) (G_38.1 a 19).toNatClampNeg x27)
    (hG108 : G108 = cput G97 (F a 18) (G_38.1 a 19).toNatClampNeg l6_38)
    (hG116 : G116 = dput G108 a 19 x115)
    (lo : G_38.2.2.2 = G.2.2.2) :
    G116.2.2.2 = G.2.2.2 := by
  first
    | exact lo
    | (rw [hG116, hG108, hG97]; exact lo)
theorem v_X11_findUnlike_128_11 {K : Nat → Nat} {F : Nat → Nat → Nat} (a : Nat) (p1 : Nat) (p2 : Nat) (G : XG) (G1 : XG) (G_12 : XG) (G_38 : XG) (r1 : Int → Int) (r2 : Int → Int) (p0 : Int32) (l4_12 : Int32) (l6_38 : Int32) (N12 : Nat) (N38 : Nat)
    (ha : K a = 13)
    (hp1 : K p1 = 38)
    (hp2 : K p2 = 38)
    (oq1 : ORm (G.2.1 (F a 10)) (G1.2.1 (F a 15)) ((G1.1 a 16).toInt) 12)
    (oq1a : G1.2.2.2 = G.2.2.2)
    (pu : pL G_12 F a = fuL (G.2.1 (F a 10)) r1 r2 p0.toInt (ordN (prM (G.2.1 (F a 10))) (rkM (G.2.1 (F a 10))) 12).2 (l4_12.toInt).toNat)
    (pi : pL G_38 F a = pL G_12 F a ++ fup (G.2.1 (F a 10)) r1 r2 (aI (G1.2.1 (F a 15)) (l4_12.toInt)) l6_38.toInt)
    (lo : G_38.2.2.2 = G.2.2.2)
    (z10 : 0 ≤ ((G1.1 a 16).toInt) ∧ ((G1.1 a 16).toInt) ≤ 12)
    (I12_0 : 0 ≤ l4_12.toInt ∧ l4_12.toInt ≤ ((G1.1 a 16).toInt))
    (I12_1 : 0 ≤ ((G_12.1 a 19).toInt) ∧ ((G_12.1 a 19).toInt) ≤ 199 * l4_12.toInt)
    (I12_2 : (0 : Int) ≤ l4_12.toInt)
    (hm12 : 2147483648 - l4_12.toInt < (((N12) + 1 : Nat) : Int))
    (c18 : ¬ (((G1.1 a 16).toInt) ≤ l4_12.toInt))
    (z28 : (0 ≤ (aI (G1.2.1 (F a 15)) (l4_12.toInt)) ∧ (aI (G1.2.1 (F a 15)) (l4_12.toInt)) ≤ 11) ∧ (aI (G.2.1 (F a 10)) (10 * (aI (G1.2.1 (F a 15)) (l4_12.toInt)) + 0)) ≠ -1)
    (z30 : (-1 ≤ (aI (G.2.1 (F a 10)) (10 * (aI (G1.2.1 (F a 15)) (l4_12.toInt)) + 0)) ∧ (aI (G.2.1 (F a 10)) (10 * (aI (G1.2.1 (F a 15)) (l4_12.toInt)) + 0)) ≤ 5) ∧ (0 ≤ (aI (G.2.1 (F a 10)) (10 * (aI (G1.2.1 (F a 15)) (l4_12.toInt)) + 1)) ∧ (aI (G.2.1 (F a 10)) (10 * (aI (G1.2.1 (F a 15)) (l4_12.toInt)) + 1)) ≤ 2) ∧ (0 ≤ (aI (G.2.1 (F a 10)) (10 * (aI (G1.2.1 (F a 15)) (l4_12.toInt)) + 2)) ∧ (aI (G.2.1 (F a 10)) (10 * (aI (G1.2.1 (F a 15)) (l4_12.toInt)) + 2)) ≤ 2) ∧ (-1 ≤ (aI (G.2.1 (F a 10)) (10 * (aI (G1.2.1 (F a 15)) (l4_12.toInt)) + 3)) ∧ (aI (G.2.1 (F a 10)) (10 * (aI (G1.2.1 (F a 15)) (l4_12.toInt)) + 3)) ≤ 2) ∧ ((aI (G.2.1 (F a 10)) (10 * (aI (G1.2.1 (F a 15)) (l4_12.toInt)) + 0)) = 1 ∨ (aI (G.2.1 (F a 10)) (10 * (aI (G1.2.1 (F a 15)) (l4_12.toInt)) + 0)) = 3 ∨ (aI (G.2.1 (F a 10)) (10 * (aI (G1.2.1 (F a 15)) (l4_12.toInt)) + 0)) = 4 → 0 ≤ (aI (G.2.1 (F a 10)) (10 * (aI (G1.2.1 (F a 15)) (l4_12.toInt)) + 3))))
    (z30a : (((aI (G.2.1 (F a 10)) (10 * (aI (G1.2.1 (F a 15)) (l4_12.toInt)) + 0)) = 2 ∨ (aI (G.2.1 (F a 10)) (10 * (aI (G1.2.1 (F a 15)) (l4_12.toInt)) + 0)) = 4 ∨ (aI (G.2.1 (F a 10)) (10 * (aI (G1.2.1 (F a 15)) (l4_12.toInt)) + 0)) = 5) ∧ (sF (aI (G.2.1 (F a 10)) (10 * (aI (G1.2.1 (F a 15)) (l4_12.toInt)) + 0))) = 0 ∧ (sL (aI (G.2.1 (F a 10)) (10 * (aI (G1.2.1 (F a 15)) (l4_12.toInt)) + 0))) = 29) ∨ (¬ ((aI (G.2.1 (F a 10)) (10 * (aI (G1.2.1 (F a 15)) (l4_12.toInt)) + 0)) = 2 ∨ (aI (G.2.1 (F a 10)) (10 * (aI (G1.2.1 (F a 15)) (l4_12.toInt)) + 0)) = 4 ∨ (aI (G.2.1 (F a 10)) (10 * (aI (G1.2.1 (F a 15)) (l4_12.toInt)) + 0)) = 5) ∧ (sF (aI (G.2.1 (F a 10)) (10 * (aI (G1.2.1 (F a 15)) (l4_12.toInt)) + 0))) = -99 ∧ (sL (aI (G.2.1 (F a 10)) (10 * (aI (G1.2.1 (F a 15)) (l4_12.toInt)) + 0))) = 99))
    (I38_0 : (sF (aI (G.2.1 (F a 10)) (10 * (aI (G1.2.1 (F a 15)) (l4_12.toInt)) + 0))) ≤ l6_38.toInt ∧ l6_38.toInt ≤ (sL (aI (G.2.1 (F a 10)) (10 * (aI (G1.2.1 (F a 15)) (l4_12.toInt)) + 0))) + 1)
    (I38_1 : 0 ≤ ((G_38.1 a 19).toInt) ∧ ((G_38.1 a 19).toInt) ≤ 199 * l4_12.toInt + (l6_38.toInt - (sF (aI (G.2.1 (F a 10)) (10 * (aI (G1.2.1 (F a 15)) (l4_12.toInt)) + 0)))))
    (I38_2 : l6_38.toInt = (sF (aI (G.2.1 (F a 10)) (10 * (aI (G1.2.1 (F a 15)) (l4_12.toInt)) + 0))) ∨ p0.toInt = 2 ∨ (aI (G.2.1 (F a 10)) (10 * (aI (G1.2.1 (F a 15)) (l4_12.toInt)) + 6)) = p0.toInt)
    (hm38 : 2147483648 - l6_38.toInt < (((N38) + 1 : Nat) : Int))
    (c46 : ¬ ((sL (aI (G.2.1 (F a 10)) (10 * (aI (G1.2.1 (F a 15)) (l4_12.toInt)) + 0))) < l6_38.toInt))
    (c51 : ¬ (p0.toInt = (2 : Int)))
    (c63 : (aI (G.2.1 (F a 10)) (10 * (aI (G1.2.1 (F a 15)) (l4_12.toInt)) + 6)) ≠ p0.toInt) :
    pL G_38 F a = fuL (G.2.1 (F a 10)) r1 r2 p0.toInt (ordN (prM (G.2.1 (F a 10))) (rkM (G.2.1 (F a 10))) 12).2 (l4_12.toInt + 1).toNat := by
  have e0 := sFL (aI (G.2.1 (F a 10)) (10 * aI (G1.2.1 (F a 15)) l4_12.toInt + 0))
  rw [show (l4_12.toInt + 1).toNat = l4_12.toInt.toNat + 1 from by omega, fuL_s, ← pu, or_nth oq1 (by omega), pi]
  congr 1
  first
    | exact fup_l (by omega) (by omega)
    | rw [fup_0 (by omega), fus_no (by omega)]
theorem v_X11_findUnlike_128_12 (G : XG) (G_38 : XG)
    (lo : G_38.2.2.2 = G.2.2.2) :
    G_38.2.2.2 = G.2.2.2 := by
  exact lo
theorem v_X11_findUnlike_122_13 {K : Nat → Nat} {F : Nat → Nat → Nat} (a : Nat) (p1 : Nat) (p2 : Nat) (G : XG) (G1 : XG) (G_12 : XG) (G_38 : XG) (r1 : Int → Int) (r2 : Int → Int) (p0 : Int32) (l4_12 : Int32) (x27 : Int32) (l6_38 : Int32) (N12 : Nat) (N38 : Nat)
    (ha : K a = 13)
    (hp1 : K p1 = 38)
    (hp2 : K p2 = 38)
    (h1 : LSt (G.2.1 (F a 10)) (G.2.1 p1) r1 12)
    (h2 : LSt (G.2.1 (F a 10)) (G.2.1 p2) r2 12)
    (oq1a : G1.2.2.2 = G.2.2.2)
    (hv27 : x27.toInt = (aI (G1.2.1 (F a 15)) (l4_12.toInt)))
    (pi : pL G_38 F a = pL G_12 F a ++ fup (G.2.1 (F a 10)) r1 r2 (aI (G1.2.1 (F a 15)) (l4_12.toInt)) l6_38.toInt)
    (lo : G_38.2.2.2 = G.2.2.2)
    (z10 : 0 ≤ ((G1.1 a 16).toInt) ∧ ((G1.1 a 16).toInt) ≤ 12)
    (I12_0 : 0 ≤ l4_12.toInt ∧ l4_12.toInt ≤ ((G1.1 a 16).toInt))
    (I12_1 : 0 ≤ ((G_12.1 a 19).toInt) ∧ ((G_12.1 a 19).toInt) ≤ 199 * l4_12.toInt)
    (I12_2 : (0 : Int) ≤ l4_12.toInt)
    (hm12 : 2147483648 - l4_12.toInt < (((N12) + 1 : Nat) : Int))
    (c18 : ¬ (((G1.1 a 16).toInt) ≤ l4_12.toInt))
    (z28 : (0 ≤ (aI (G1.2.1 (F a 15)) (l4_12.toInt)) ∧ (aI (G1.2.1 (F a 15)) (l4_12.toInt)) ≤ 11) ∧ (aI (G.2.1 (F a 10)) (10 * (aI (G1.2.1 (F a 15)) (l4_12.toInt)) + 0)) ≠ -1)
    (z30 : (-1 ≤ (aI (G.2.1 (F a 10)) (10 * (aI (G1.2.1 (F a 15)) (l4_12.toInt)) + 0)) ∧ (aI (G.2.1 (F a 10)) (10 * (aI (G1.2.1 (F a 15)) (l4_12.toInt)) + 0)) ≤ 5) ∧ (0 ≤ (aI (G.2.1 (F a 10)) (10 * (aI (G1.2.1 (F a 15)) (l4_12.toInt)) + 1)) ∧ (aI (G.2.1 (F a 10)) (10 * (aI (G1.2.1 (F a 15)) (l4_12.toInt)) + 1)) ≤ 2) ∧ (0 ≤ (aI (G.2.1 (F a 10)) (10 * (aI (G1.2.1 (F a 15)) (l4_12.toInt)) + 2)) ∧ (aI (G.2.1 (F a 10)) (10 * (aI (G1.2.1 (F a 15)) (l4_12.toInt)) + 2)) ≤ 2) ∧ (-1 ≤ (aI (G.2.1 (F a 10)) (10 * (aI (G1.2.1 (F a 15)) (l4_12.toInt)) + 3)) ∧ (aI (G.2.1 (F a 10)) (10 * (aI (G1.2.1 (F a 15)) (l4_12.toInt)) + 3)) ≤ 2) ∧ ((aI (G.2.1 (F a 10)) (10 * (aI (G1.2.1 (F a 15)) (l4_12.toInt)) + 0)) = 1 ∨ (aI (G.2.1 (F a 10)) (10 * (aI (G1.2.1 (F a 15)) (l4_12.toInt)) + 0)) = 3 ∨ (aI (G.2.1 (F a 10)) (10 * (aI (G1.2.1 (F a 15)) (l4_12.toInt)) + 0)) = 4 → 0 ≤ (aI (G.2.1 (F a 10)) (10 * (aI (G1.2.1 (F a 15)) (l4_12.toInt)) + 3))))
    (z30a : (((aI (G.2.1 (F a 10)) (10 * (aI (G1.2.1 (F a 15)) (l4_12.toInt)) + 0)) = 2 ∨ (aI (G.2.1 (F a 10)) (10 * (aI (G1.2.1 (F a 15)) (l4_12.toInt)) + 0)) = 4 ∨ (aI (G.2.1 (F a 10)) (10 * (aI (G1.2.1 (F a 15)) (l4_12.toInt)) + 0)) = 5) ∧ (sF (aI (G.2.1 (F a 10)) (10 * (aI (G1.2.1 (F a 15)) (l4_12.toInt)) + 0))) = 0 ∧ (sL (aI (G.2.1 (F a 10)) (10 * (aI (G1.2.1 (F a 15)) (l4_12.toInt)) + 0))) = 29) ∨ (¬ ((aI (G.2.1 (F a 10)) (10 * (aI (G1.2.1 (F a 15)) (l4_12.toInt)) + 0)) = 2 ∨ (aI (G.2.1 (F a 10)) (10 * (aI (G1.2.1 (F a 15)) (l4_12.toInt)) + 0)) = 4 ∨ (aI (G.2.1 (F a 10)) (10 * (aI (G1.2.1 (F a 15)) (l4_12.toInt)) + 0)) = 5) ∧ (sF (aI (G.2.1 (F a 10)) (10 * (aI (G1.2.1 (F a 15)) (l4_12.toInt)) + 0))) = -99 ∧ (sL (aI (G.2.1 (F a 10)) (10 * (aI (G1.2.1 (F a 15)) (l4_12.toInt)) + 0))) = 99))
    (I38_0 : (sF (aI (G.2.1 (F a 10)) (10 * (aI (G1.2.1 (F a 15)) (l4_12.toInt)) + 0))) ≤ l6_38.toInt ∧ l6_38.toInt ≤ (sL (aI (G.2.1 (F a 10)) (10 * (aI (G1.2.1 (F a 15)) (l4_12.toInt)) + 0))) + 1)
    (I38_1 : 0 ≤ ((G_38.1 a 19).toInt) ∧ ((G_38.1 a 19).toInt) ≤ 199 * l4_12.toInt + (l6_38.toInt - (sF (aI (G.2.1 (F a 10)) (10 * (aI (G1.2.1 (F a 15)) (l4_12.toInt)) + 0)))))
    (I38_2 : l6_38.toInt = (sF (aI (G.2.1 (F a 10)) (10 * (aI (G1.2.1 (F a 15)) (l4_12.toInt)) + 0))) ∨ p0.toInt = 2 ∨ (aI (G.2.1 (F a 10)) (10 * (aI (G1.2.1 (F a 15)) (l4_12.toInt)) + 6)) = p0.toInt)
    (hm38 : 2147483648 - l6_38.toInt < (((N38) + 1 : Nat) : Int))
    (c46 : ¬ ((sL (aI (G.2.1 (F a 10)) (10 * (aI (G1.2.1 (F a 15)) (l4_12.toInt)) + 0))) < l6_38.toInt))
    (c51 : ¬ (p0.toInt = (2 : Int)))
    (c63 : ¬ ((aI (G.2.1 (F a 10)) (10 * (aI (G1.2.1 (F a 15)) (l4_12.toInt)) + 6)) ≠ p0.toInt))
    (c84 : (aI (G.2.1 p1) (199 * (aI (G1.2.1 (F a 15)) (l4_12.toInt)) + l6_38.toInt + 99)) = (aI (G.2.1 p2) (199 * (aI (G1.2.1 (F a 15)) (l4_12.toInt)) + l6_38.toInt + 99))) :
    pL G_38 F a = pL G_12 F a ++ fup (G.2.1 (F a 10)) r1 r2 (aI (G1.2.1 (F a 15)) (l4_12.toInt)) (l6_38.toInt + 1) := by
  have e0 := sFL (aI (G.2.1 (F a 10)) (10 * aI (G1.2.1 (F a 15)) l4_12.toInt + 0))
  have e1 := h1 (aI (G1.2.1 (F a 15)) l4_12.toInt) l6_38.toInt (by omega) (by omega) (by omega) (sbj_FL.mpr (by omega))
  have e2 := h2 (aI (G1.2.1 (F a 15)) l4_12.toInt) l6_38.toInt (by omega) (by omega) (by omega) (sbj_FL.mpr (by omega))
  rw [fup_s (by omega), ← List.append_assoc, ← pi]
  by_cases hq : stt r1 (aI (G.2.1 (F a 10)) (10 * aI (G1.2.1 (F a 15)) l4_12.toInt + 0)) (aI (G.2.1 (F a 10)) (10 * aI (G1.2.1 (F a 15)) l4_12.toInt + 1)) (aI (G.2.1 (F a 10)) (10 * aI (G1.2.1 (F a 15)) l4_12.toInt + 2)) (aI (G.2.1 (F a 10)) (10 * aI (G1.2.1 (F a 15)) l4_12.toInt + 3)) l6_38.toInt = stt r2 (aI (G.2.1 (F a 10)) (10 * aI (G1.2.1 (F a 15)) l4_12.toInt + 0)) (aI (G.2.1 (F a 10)) (10 * aI (G1.2.1 (F a 15)) l4_12.toInt + 1)) (aI (G.2.1 (F a 10)) (10 * aI (G1.2.1 (F a 15)) l4_12.toInt + 2)) (aI (G.2.1 (F a 10)) (10 * aI (G1.2.1 (F a 15)) l4_12.toInt + 3)) l6_38.toInt
  · first
      | (exfalso; omega)
      | (have hn : fu1 (G.2.1 (F a 10)) r1 r2 (aI (G1.2.1 (F a 15)) l4_12.toInt) l6_38.toInt = none := if_neg (fun z => z hq)
         rw [filterMap_1n2 hn, List.append_nil])
  · first
      | (exfalso; omega)
      | (have hs : fu1 (G.2.1 (F a 10)) r1 r2 (aI (G1.2.1 (F a 15)) l4_12.toInt) l6_38.toInt = some _ := if_pos hq
         rw [filterMap_1s hs, ← hv27]
         have e9 : (G_38.1 a 19).toNatClampNeg = (G_38.1 a 19).toInt.toNat := rfl
         refine pL_push (n := (G_38.1 a 19).toInt.toNat) (by omega) (by rw [d_G116_a_19, e115]; omega) ?_ ?_
         · intro j; rw [c_G116_F_a_17, cput_j hG97, e9]
         · intro j; rw [c_G116_F_a_18, cput_j hG108, c_G97_F_a_18, e9])
theorem v_X11_findUnlike_122_14 (G : XG) (G_38 : XG)
    (lo : G_38.2.2.2 = G.2.2.2) :
    G_38.2.2.2 = G.2.2.2 := by
  first
    | exact lo
    | (rw [hG116, hG108, hG97]; exact lo)
theorem v_X11_findUnlike_122_15 {K : Nat → Nat} {F : Nat → Nat → Nat} (a : Nat) (p1 : Nat) (p2 : Nat) (G : XG) (G1 : XG) (G_12 : XG) (G_38 : XG) (G97 : XG) (x27 : Int32) (G108 : XG) (l6_38 : Int32) (G116 : XG) (x115 : Int32) (r1 : Int → Int) (r2 : Int → Int) (p0 : Int32) (l4_12 : Int32) (N12 : Nat) (N38 : Nat)
    (ha : K a = 13)
    (hp1 : K p1 = 38)
    (hp2 : K p2 = 38)
    (hG97 : G97 = cput G_38 (F a 17) (G_38.1 a 19).toNatClampNeg x27)
    (hG108 : G108 = cput G97 (F a 18) (G_38.1 a 19).toNatClampNeg l6_38)
    (h1 : LSt (G.2.1 (F a 10)) (G.2.1 p1) r1 12)
    (h2 : LSt (G.2.1 (F a 10)) (G.2.1 p2) r2 12)
    (oq1a : G1.2.2.2 = G.2.2.2)
    (hv27 : x27.toInt = (aI (G1.2.1 (F a 15)) (l4_12.toInt)))
    (pi : pL G_38 F a = pL G_12 F a ++ fup (G.2.1 (F a 10)) r1 r2 (aI (G1.2.1 (F a 15)) (l4_12.toInt)) l6_38.toInt)
    (lo : G_38.2.2.2 = G.2.2.2)
    (e115 : x115.toInt = (((G_38.1 a 19).toInt) + (1 : Int)))
    (z10 : 0 ≤ ((G1.1 a 16).toInt) ∧ ((G1.1 a 16).toInt) ≤ 12)
    (I12_0 : 0 ≤ l4_12.toInt ∧ l4_12.toInt ≤ ((G1.1 a 16).toInt))
    (I12_1 : 0 ≤ ((G_12.1 a 19).toInt) ∧ ((G_12.1 a 19).toInt) ≤ 199 * l4_12.toInt)
    (I12_2 : (0 : Int) ≤ l4_12.toInt)
    (hm12 : 2147483648 - l4_12.toInt < (((N12) + 1 : Nat) : Int))
    (c18 : ¬ (((G1.1 a 16).toInt) ≤ l4_12.toInt))
    (z28 : (0 ≤ (aI (G1.2.1 (F a 15)) (l4_12.toInt)) ∧ (aI (G1.2.1 (F a 15)) (l4_12.toInt)) ≤ 11) ∧ (aI (G.2.1 (F a 10)) (10 * (aI (G1.2.1 (F a 15)) (l4_12.toInt)) + 0)) ≠ -1)
    (z30 : (-1 ≤ (aI (G.2.1 (F a 10)) (10 * (aI (G1.2.1 (F a 15)) (l4_12.toInt)) + 0)) ∧ (aI (G.2.1 (F a 10)) (10 * (aI (G1.2.1 (F a 15)) (l4_12.toInt)) + 0)) ≤ 5) ∧ (0 ≤ (aI (G.2.1 (F a 10)) (10 * (aI (G1.2.1 (F a 15)) (l4_12.toInt)) + 1)) ∧ (aI (G.2.1 (F a 10)) (10 * (aI (G1.2.1 (F a 15)) (l4_12.toInt)) + 1)) ≤ 2) ∧ (0 ≤ (aI (G.2.1 (F a 10)) (10 * (aI (G1.2.1 (F a 15)) (l4_12.toInt)) + 2)) ∧ (aI (G.2.1 (F a 10)) (10 * (aI (G1.2.1 (F a 15)) (l4_12.toInt)) + 2)) ≤ 2) ∧ (-1 ≤ (aI (G.2.1 (F a 10)) (10 * (aI (G1.2.1 (F a 15)) (l4_12.toInt)) + 3)) ∧ (aI (G.2.1 (F a 10)) (10 * (aI (G1.2.1 (F a 15)) (l4_12.toInt)) + 3)) ≤ 2) ∧ ((aI (G.2.1 (F a 10)) (10 * (aI (G1.2.1 (F a 15)) (l4_12.toInt)) + 0)) = 1 ∨ (aI (G.2.1 (F a 10)) (10 * (aI (G1.2.1 (F a 15)) (l4_12.toInt)) + 0)) = 3 ∨ (aI (G.2.1 (F a 10)) (10 * (aI (G1.2.1 (F a 15)) (l4_12.toInt)) + 0)) = 4 → 0 ≤ (aI (G.2.1 (F a 10)) (10 * (aI (G1.2.1 (F a 15)) (l4_12.toInt)) + 3))))
    (z30a : (((aI (G.2.1 (F a 10)) (10 * (aI (G1.2.1 (F a 15)) (l4_12.toInt)) + 0)) = 2 ∨ (aI (G.2.1 (F a 10)) (10 * (aI (G1.2.1 (F a 15)) (l4_12.toInt)) + 0)) = 4 ∨ (aI (G.2.1 (F a 10)) (10 * (aI (G1.2.1 (F a 15)) (l4_12.toInt)) + 0)) = 5) ∧ (sF (aI (G.2.1 (F a 10)) (10 * (aI (G1.2.1 (F a 15)) (l4_12.toInt)) + 0))) = 0 ∧ (sL (aI (G.2.1 (F a 10)) (10 * (aI (G1.2.1 (F a 15)) (l4_12.toInt)) + 0))) = 29) ∨ (¬ ((aI (G.2.1 (F a 10)) (10 * (aI (G1.2.1 (F a 15)) (l4_12.toInt)) + 0)) = 2 ∨ (aI (G.2.1 (F a 10)) (10 * (aI (G1.2.1 (F a 15)) (l4_12.toInt)) + 0)) = 4 ∨ (aI (G.2.1 (F a 10)) (10 * (aI (G1.2.1 (F a 15)) (l4_12.toInt)) + 0)) = 5) ∧ (sF (aI (G.2.1 (F a 10)) (10 * (aI (G1.2.1 (F a 15)) (l4_12.toInt)) + 0))) = -99 ∧ (sL (aI (G.2.1 (F a 10)) (10 * (aI (G1.2.1 (F a 15)) (l4_12.toInt)) + 0))) = 99))
    (I38_0 : (sF (aI (G.2.1 (F a 10)) (10 * (aI (G1.2.1 (F a 15)) (l4_12.toInt)) + 0))) ≤ l6_38.toInt ∧ l6_38.toInt ≤ (sL (aI (G.2.1 (F a 10)) (10 * (aI (G1.2.1 (F a 15)) (l4_12.toInt)) + 0))) + 1)
    (I38_1 : 0 ≤ ((G_38.1 a 19).toInt) ∧ ((G_38.1 a 19).toInt) ≤ 199 * l4_12.toInt + (l6_38.toInt - (sF (aI (G.2.1 (F a 10)) (10 * (aI (G1.2.1 (F a 15)) (l4_12.toInt)) + 0)))))
    (I38_2 : l6_38.toInt = (sF (aI (G.2.1 (F a 10)) (10 * (aI (G1.2.1 (F a 15)) (l4_12.toInt)) + 0))) ∨ p0.toInt = 2 ∨ (aI (G.2.1 (F a 10)) (10 * (aI (G1.2.1 (F a 15)) (l4_12.toInt)) + 6)) = p0.toInt)
    (hm38 : 2147483648 - l6_38.toInt < (((N38) + 1 : Nat) : Int))
    (c46 : ¬ ((sL (aI (G.2.1 (F a 10)) (10 * (aI (G1.2.1 (F a 15)) (l4_12.toInt)) + 0))) < l6_38.toInt))
    (c51 : ¬ (p0.toInt = (2 : Int)))
    (c63 : ¬ ((aI (G.2.1 (F a 10)) (10 * (aI (G1.2.1 (F a 15)) (l4_12.toInt)) + 6)) ≠ p0.toInt))
    (c84 : ¬ ((aI (G.2.1 p1) (199 * (aI (G1.2.1 (F a 15)) (l4_12.toInt)) + l6_38.toInt + 99)) = (aI (G.2.1 p2) (199 * (aI (G1.2.1 (F a 15)) (l4_12.toInt)) + l6_38.toInt + 99))))
    (c_G116_F_a_17 : G116.2.1 (F a 17) = G97.2.1 (F a 17))
    (c_G116_F_a_18 : G116.2.1 (F a 18) = G108.2.1 (F a 18))
    (c_G97_F_a_18 : G97.2.1 (F a 18) = G_38.2.1 (F a 18))
    (d_G116_a_19 : G116.1 a 19 = x115) :
    pL G116 F a = pL G_12 F a ++ fup (G.2.1 (F a 10)) r1 r2 (aI (G1.2.1 (F a 15)) (l4_12.toInt)) (l6_38.toInt + 1) := by
  have e0 := sFL (aI (G.2.1 (F a 10)) (10 * aI (G1.2.1 (F a 15)) l4_12.toInt + 0))
  have e1 := h1 (aI (G1.2.1 (F a 15)) l4_12.toInt) l6_38.toInt (by omega) (by omega) (by omega) (sbj_FL.mpr (by omega))
  have e2 := h2 (aI (G1.2.1 (F a 15)) l4_12.toInt) l6_38.toInt (by omega) (by omega) (by omega) (sbj_FL.mpr (by omega))
  rw [fup_s (by omega), ← List.append_assoc, ← pi]
  by_cases hq : stt r1 (aI (G.2.1 (F a 10)) (10 * aI (G1.2.1 (F a 15)) l4_12.toInt + 0)) (aI (G.2.1 (F a 10)) (10 * aI (G1.2.1 (F a 15)) l4_12.toInt + 1)) (aI (G.2.1 (F a 10)) (10 * aI (G1.2.1 (F a 15)) l4_12.toInt + 2)) (aI (G.2.1 (F a 10)) (10 * aI (G1.2.1 (F a 15)) l4_12.toInt + 3)) l6_38.toInt = stt r2 (aI (G.2.1 (F a 10)) (10 * aI (G1.2.1 (F a 15)) l4_12.toInt + 0)) (aI (G.2.1 (F a 10)) (10 * aI (G1.2.1 (F a 15)) l4_12.toInt + 1)) (aI (G.2.1 (F a 10)) (10 * aI (G1.2.1 (F a 15)) l4_12.toInt + 2)) (aI (G.2.1 (F a 10)) (10 * aI (G1.2.1 (F a 15)) l4_12.toInt + 3)) l6_38.toInt
  · first
      | (exfalso; omega)
      | (have hn : fu1 (G.2.1 (F a 10)) r1 r2 (aI (G1.2.1 (F a 15)) l4_12.toInt) l6_38.toInt = none := if_neg (fun z => z hq)
         rw [filterMap_1n2 hn, List.append_nil])
  · first
      | (exfalso; omega)
      | (have hs : fu1 (G.2.1 (F a 10)) r1 r2 (aI (G1.2.1 (F a 15)) l4_12.toInt) l6_38.toInt = some _ := if_pos hq
         rw [filterMap_1s hs, ← hv27]
         have e9 : (G_38.1 a 19).toNatClampNeg = (G_38.1 a 19).toInt.toNat := rfl
         refine pL_push (n := (G_38.1 a 19).toInt.toNat) (by omega) (by rw [d_G116_a_19, e115]; omega) ?_ ?_
         · intro j; rw [c_G116_F_a_17, cput_j hG97, e9]
         · intro j; rw [c_G116_F_a_18, cput_j hG108, c_G97_F_a_18, e9])
theorem v_X11_findUnlike_122_16 {F : Nat → Nat → Nat} (a : Nat) (G : XG) (G_38 : XG) (G97 : XG) (x27 : Int32) (G108 : XG) (l6_38 : Int32) (G116 : XG) (x115 : Int32)
    (hG97 : G97 = cput G_38 (F a 17) (G_38.1 a 19).toNatClampNeg x27)
    (hG108 : G108 = cput G97 (F a 18) (G_38.1 a 19).toNatClampNeg l6_38)
    (hG116 : G116 = dput G108 a 19 x115)
    (lo : G_38.2.2.2 = G.2.2.2) :
    G116.2.2.2 = G.2.2.2 := by
  first
    | exact lo
    | (rw [hG116, hG108, hG97]; exact lo)
theorem v_X11_findUnlike_36_17 {F : Nat → Nat → Nat} (a : Nat) (G : XG) (G1 : XG) (G_12 : XG) (r1 : Int → Int) (r2 : Int → Int) (l4_12 : Int32) :
    pL G_12 F a = pL G_12 F a ++ fup (G.2.1 (F a 10)) r1 r2 (aI (G1.2.1 (F a 15)) (l4_12.toInt)) (sF (aI (G.2.1 (F a 10)) (10 * (aI (G1.2.1 (F a 15)) (l4_12.toInt)) + 0))) := by
  rw [fup_0 rfl, List.append_nil]
theorem v_X11_findUnlike_36_18 (G : XG) (G_12 : XG)
    (lo : G_12.2.2.2 = G.2.2.2) :
    G_12.2.2.2 = G.2.2.2 := by
  exact lo
theorem v_X11_findUnlike_10_19 {F : Nat → Nat → Nat} (a : Nat) (G : XG) (G6 : XG) (r1 : Int → Int) (r2 : Int → Int) (p0 : Int32)
    (d_G6_a_19 : G6.1 a 19 = 0) :
    pL G6 F a = fuL (G.2.1 (F a 10)) r1 r2 p0.toInt (ordN (prM (G.2.1 (F a 10))) (rkM (G.2.1 (F a 10))) 12).2 (0 : Int).toNat := by
  show lst _ (G6.1 a 19).toInt.toNat = []
  rw [d_G6_a_19]
  rfl
theorem v_X11_findUnlike_10_20 (a : Nat) (G : XG) (G1 : XG) (G6 : XG)
    (hG6 : G6 = dput G1 a 19 0)
    (oq1a : G1.2.2.2 = G.2.2.2) :
    G6.2.2.2 = G.2.2.2 := by
  rw [hG6]; exact oq1a
theorem z_X11_findUnlike_1 (a0 : Int) (h0 : -2147483648 ≤ a0 ∧ a0 < 2147483648) : ¬ (2147483648 - a0 < ((0 : Nat) : Int)) := by omega
theorem z_X11_findUnlike_2 (a0 : Int) (a1 : Int) (a2 : Int) (h0 : 0 ≤ a1 ∧ a1 ≤ 12) (h1 : 0 ≤ a0 ∧ a0 ≤ a1) (h2 : 0 ≤ a2 ∧ a2 ≤ 199 * a0) : 0 ≤ a2 ∧ a2 ≤ 2388 := by omega
theorem z_X11_findUnlike_3 (a0 : Int) (a1 : Int) (h0 : 0 ≤ a1 ∧ a1 ≤ 12) (h1 : 0 ≤ a0 ∧ a0 ≤ a1) (h2 : ¬ (a1 ≤ a0)) : 0 ≤ a0 ∧ a0 < ((12 : Nat) : Int) := by omega
theorem z_X11_findUnlike_4 (a0 : Int) (a1 : Int) (h0 : 0 ≤ a0 ∧ a0 ≤ a1) (h1 : ¬ (a1 ≤ a0)) : 0 ≤ a0 ∧ a0 < a1 := by omega
theorem z_X11_findUnlike_9 (a0 : Int) (a1 : Int) (a2 : Int) (h0 : 0 ≤ a2 ∧ a2 ≤ 12) (h1 : 0 ≤ a0 ∧ a0 ≤ a2) (h2 : a1 = (a0 + 1) ∨ (a0 + 1) < -2147483648 ∨ 2147483648 ≤ (a0 + 1)) : a1 = (a0 + 1) := by omega
theorem z_X11_findUnlike_10 (a0 : Int) (a1 : Int) (h0 : 0 ≤ a0 ∧ a0 ≤ a1) (h1 : ¬ (a1 ≤ a0)) : 0 ≤ (a0 + 1) ∧ (a0 + 1) ≤ a1 := by omega
theorem z_X11_findUnlike_11 (a0 : Int) (a1 : Int) (a2 : Int) (a3 : Int) (a4 : Int) (a5 : Int) (h0 : ((a3 = 2 ∨ a3 = 4 ∨ a3 = 5) ∧ a4 = 0 ∧ a5 = 29) ∨ (¬ (a3 = 2 ∨ a3 = 4 ∨ a3 = 5) ∧ a4 = -99 ∧ a5 = 99)) (h1 : a4 ≤ a1 ∧ a1 ≤ a5 + 1) (h2 : 0 ≤ a2 ∧ a2 ≤ 199 * a0 + (a1 - a4)) : 0 ≤ a2 ∧ a2 ≤ 199 * (a0 + 1) := by omega
theorem z_X11_findUnlike_12 (a0 : Int) (a1 : Int) (h0 : 0 ≤ a0 ∧ a0 ≤ a1) : (0 : Int) ≤ (a0 + 1) := by omega
theorem z_X11_findUnlike_13 (a0 : Int) (a1 : Nat) (h0 : 2147483648 - a0 < ((a1 + 1 : Nat) : Int)) : 2147483648 - (a0 + 1) < ((a1 : Nat) : Int) := by omega
theorem z_X11_findUnlike_14 (a0 : Int) (a1 : Int) (a2 : Int) (a3 : Int) (a4 : Int) (h0 : 0 ≤ a2 ∧ a2 ≤ 11) (h1 : ((a1 = 2 ∨ a1 = 4 ∨ a1 = 5) ∧ a3 = 0 ∧ a4 = 29) ∨ (¬ (a1 = 2 ∨ a1 = 4 ∨ a1 = 5) ∧ a3 = -99 ∧ a4 = 99)) (h2 : a3 ≤ a0 ∧ a0 ≤ a4 + 1) (h3 : ¬ (a4 < a0)) : 0 ≤ a2 ∧ a2 ≤ 11 ∧ -99 ≤ a0 ∧ a0 ≤ 99 := by omega
theorem z_X11_findUnlike_15 (a0 : Int) (a1 : Int) (a2 : Int) (a3 : Int) (a4 : Int) (h0 : 0 ≤ a2 ∧ a2 ≤ 11) (h1 : ((a1 = 2 ∨ a1 = 4 ∨ a1 = 5) ∧ a3 = 0 ∧ a4 = 29) ∨ (¬ (a1 = 2 ∨ a1 = 4 ∨ a1 = 5) ∧ a3 = -99 ∧ a4 = 99)) (h2 : a3 ≤ a0 ∧ a0 ≤ a4 + 1) (h3 : ¬ (a4 < a0)) : 0 ≤ 199 * a2 + a0 + 99 ∧ 199 * a2 + a0 + 99 < ((2388 : Nat) : Int) := by omega
theorem z_X11_findUnlike_18 (a0 : Int) (a1 : Int) (a2 : Int) (a3 : Int) (a4 : Int) (h0 : ((a2 = 2 ∨ a2 = 4 ∨ a2 = 5) ∧ a3 = 0 ∧ a4 = 29) ∨ (¬ (a2 = 2 ∨ a2 = 4 ∨ a2 = 5) ∧ a3 = -99 ∧ a4 = 99)) (h1 : ¬ (a4 < a0)) (h2 : a1 = (a0 + 1) ∨ (a0 + 1) < -2147483648 ∨ 2147483648 ≤ (a0 + 1)) (h3 : -2147483648 ≤ a0 ∧ a0 < 2147483648) : a1 = (a0 + 1) := by omega
theorem z_X11_findUnlike_19 (a0 : Int) (a1 : Int) (a2 : Int) (h0 : a1 ≤ a0 ∧ a0 ≤ a2 + 1) (h1 : ¬ (a2 < a0)) : a1 ≤ (a0 + 1) ∧ (a0 + 1) ≤ a2 + 1 := by omega
theorem z_X11_findUnlike_20 (a0 : Int) (a1 : Int) (a2 : Int) (a3 : Int) (h0 : 0 ≤ a2 ∧ a2 ≤ 199 * a0 + (a1 - a3)) : 0 ≤ a2 ∧ a2 ≤ 199 * a0 + ((a1 + 1) - a3) := by omega
theorem z_X11_findUnlike_21 (a0 : Int) (a1 : Int) (a2 : Int) (a3 : Int) (h0 : a1 = (2 : Int)) : (a0 + 1) = a3 ∨ a1 = 2 ∨ a2 = a1 := by omega
theorem z_X11_findUnlike_23 (a0 : Int) (a1 : Int) (a2 : Int) (a3 : Int) (a4 : Int) (a5 : Int) (a6 : Int) (h0 : 0 ≤ a2 ∧ a2 ≤ 12) (h1 : ¬ (a2 ≤ a0)) (h2 : ((a4 = 2 ∨ a4 = 4 ∨ a4 = 5) ∧ a5 = 0 ∧ a6 = 29) ∨ (¬ (a4 = 2 ∨ a4 = 4 ∨ a4 = 5) ∧ a5 = -99 ∧ a6 = 99)) (h3 : 0 ≤ a3 ∧ a3 ≤ 199 * a0 + (a1 - a5)) (h4 : ¬ (a6 < a1)) : 0 ≤ a3 ∧ a3 < ((2400 : Nat) : Int) := by omega
theorem z_X11_findUnlike_25 (a0 : Int) (a1 : Int) (a2 : Int) (a3 : Int) (a4 : Int) (a5 : Int) (a6 : Int) (a7 : Int) (h0 : 0 ≤ a3 ∧ a3 ≤ 12) (h1 : ¬ (a3 ≤ a0)) (h2 : ((a5 = 2 ∨ a5 = 4 ∨ a5 = 5) ∧ a6 = 0 ∧ a7 = 29) ∨ (¬ (a5 = 2 ∨ a5 = 4 ∨ a5 = 5) ∧ a6 = -99 ∧ a7 = 99)) (h3 : 0 ≤ a4 ∧ a4 ≤ 199 * a0 + (a1 - a6)) (h4 : ¬ (a7 < a1)) (h5 : a2 = (a4 + (1 : Int)) ∨ (a4 + (1 : Int)) < -2147483648 ∨ 2147483648 ≤ (a4 + (1 : Int))) : a2 = (a4 + (1 : Int)) := by omega
theorem z_X11_findUnlike_28 (a0 : Int) (a1 : Int) (a2 : Int) (a3 : Int) (h0 : 0 ≤ a2 ∧ a2 ≤ 199 * a0 + (a1 - a3)) : 0 ≤ (a2 + (1 : Int)) ∧ (a2 + (1 : Int)) ≤ 199 * a0 + ((a1 + 1) - a3) := by omega
theorem z_X11_findUnlike_34 (a0 : Int) (a1 : Int) (a2 : Int) (a3 : Int) (a4 : Int) (a5 : Int) (h0 : ((a3 = 2 ∨ a3 = 4 ∨ a3 = 5) ∧ a4 = 0 ∧ a5 = 29) ∨ (¬ (a3 = 2 ∨ a3 = 4 ∨ a3 = 5) ∧ a4 = -99 ∧ a5 = 99)) (h1 : 0 ≤ a2 ∧ a2 ≤ 199 * a0 + (a1 - a4)) (h2 : ¬ (a5 < a1)) : 0 ≤ a2 ∧ a2 ≤ 199 * (a0 + 1) := by omega
theorem z_X11_findUnlike_44 (a0 : Int) (a1 : Int) (a2 : Int) (a3 : Int) (h0 : ¬ (a2 ≠ a1)) : (a0 + 1) = a3 ∨ a1 = 2 ∨ a2 = a1 := by omega
theorem z_X11_findUnlike_54 (a0 : Int) (a1 : Int) (a2 : Int) (h0 : ((a0 = 2 ∨ a0 = 4 ∨ a0 = 5) ∧ a1 = 0 ∧ a2 = 29) ∨ (¬ (a0 = 2 ∨ a0 = 4 ∨ a0 = 5) ∧ a1 = -99 ∧ a2 = 99)) : a1 ≤ a1 ∧ a1 ≤ a2 + 1 := by omega
theorem z_X11_findUnlike_55 (a0 : Int) (a1 : Int) (a2 : Int) (h0 : 0 ≤ a1 ∧ a1 ≤ 199 * a0) : 0 ≤ a1 ∧ a1 ≤ 199 * a0 + (a2 - a2) := by omega
theorem z_X11_findUnlike_56 (a0 : Int) (a1 : Int) (a2 : Int) : a2 = a2 ∨ a0 = 2 ∨ a1 = a0 := by omega
theorem z_X11_findUnlike_57 (a0 : Int) (a1 : Int) (a2 : Int) (h0 : ((a0 = 2 ∨ a0 = 4 ∨ a0 = 5) ∧ a1 = 0 ∧ a2 = 29) ∨ (¬ (a0 = 2 ∨ a0 = 4 ∨ a0 = 5) ∧ a1 = -99 ∧ a2 = 99)) : 2147483648 - a1 < ((4294967297 : Nat) : Int) := by omega
theorem z_X11_findUnlike_58 (a0 : Int) (h0 : 0 ≤ a0 ∧ a0 ≤ 12) : 0 ≤ (0 : Int) ∧ (0 : Int) ≤ a0 := by omega
abbrev rm_X11_findUnlike : Room := { frames := 3, cells := 0, slots := 0, locals := 68 }
set_option maxHeartbeats 4000000 in
set_option maxRecDepth 100000 in
theorem c_X11_findUnlike (l : Launch) (E : XE) (K : Nat → Nat) (F : Nat → Nat → Nat) (G : XG) (a : Nat) (p0 : Int32) (p1 : Nat) (p2 : Nat) (r1 : Int → Int) (r2 : Int → Int) (ha : K a = 13) (hp1 : K p1 = 38) (hp2 : K p2 = 38) (hR : RV (G.2.1 (F a 10))) (h1 : LSt (G.2.1 (F a 10)) (G.2.1 p1) r1 12) (h2 : LSt (G.2.1 (F a 10)) (G.2.1 p2) r2 12) : Met l yX11_findUnlike (xw yX11_findUnlike cX11_findUnlike 7 none) rm_X11_findUnlike (va_Pc [.ref a, .int p0, .ref p1, .ref p2] (XP E K F G)) (XQv E (fun (u : XG) => XFr [(a, 16), (a, 19)] [F a 15, F a 17, F a 18] [] G u ∧ (0 ≤ ((u.1 a 19).toInt) ∧ ((u.1 a 19).toInt) ≤ 2388) ∧ (pL u F a = fuL (G.2.1 (F a 10)) r1 r2 p0.toInt (ordN (prM (G.2.1 (F a 10))) (rkM (G.2.1 (F a 10))) 12).2 (ordN (prM (G.2.1 (F a 10))) (rkM (G.2.1 (F a 10))) 12).1) ∧ (ORm (G.2.1 (F a 10)) (u.2.1 (F a 15)) ((u.1 a 16).toInt) 12) ∧ (u.2.2.2 = G.2.2.2)) (fun u H => TW E K F u H)) 0 0 (xA E) := by
  refine x_enter (by decide) (Nat.le_of_ble_eq_true rfl) ?_
  intro p e s m args below meth c Q S hr hlk hnm hQ hP ls hl
  obtain ⟨hz, hK, hT⟩ := hP
  obtain ⟨hx, hb, -, -, -⟩ := id S
  obtain ⟨H, hT, hS, hgo⟩ : ∃ H : Heap, TW E K F G H ∧ va_S (xA E) s.heap H [] ∧ H = s.heap := ⟨_, hT, va_S.rf, rfl⟩
  rw [← hgo]
  have hl : lv_has ls 7 [(0, .ref a), (1, .int p0), (2, .ref p1), (3, .ref p2)] := hl
  obtain ⟨hk9999, hj9999⟩ := fkX11_15 hT ha
  obtain ⟨hk9999a, hj9999a⟩ := fkX11_17 hT ha
  obtain ⟨hk9999b, hj9999b⟩ := fkX11_18 hT ha
  obtain ⟨hk9999c, hj9999c⟩ := fkX11_10 hT ha
  refine lv_aload_n hx hb dX11_findUnlike_0 rfl (lv_at hl 0 rfl) ?_
  refine x_cv0 (x_runV (b := a) (As := []) (rest := []) S (c_X11_layOrder l E K F G a ha (v_X11_findUnlike_1_1 (F := F) a G hR)) mv_X11_layOrder km_X11_200 rfl rfl ⟨Nat.le_of_ble_eq_true rfl, Nat.le_of_ble_eq_true rfl⟩ (rc_13 hK hT ha) hK (fun _ => XP.blind) (fun U hU hW => XP.at hK hz hS hT hU hW) rfl hl.1 (Nat.le_of_ble_eq_true rfl) dX11_findUnlike_1 ⟨Nat.le_of_ble_eq_true rfl, Nat.le_of_ble_eq_true rfl⟩) hS ?_
  rintro G1 H locs ⟨hF1, oq1, oq1a⟩ hT hS
  refine lv_aload_n hx hb dX11_findUnlike_4 rfl (lv_at hl 0 rfl) ?_
  refine lv_iconst (v := 0) hx hb dX11_findUnlike_5 (by decide) ?_
  refine pX11_19 (v := 0) S hK hT hS ha kf_X11_203 dX11_findUnlike_6 (fun H locs hT hS => ?_)
  obtain ⟨G6, hG6⟩ : ∃ GG : XG, GG = dput G1 a 19 0 := ⟨_, rfl⟩
  rw [← hG6] at hT
  refine lv_iconst (v := 0) hx hb dX11_findUnlike_9 (by decide) ?_
  have z10 : 0 ≤ ((G1.1 a 16).toInt) ∧ ((G1.1 a 16).toInt) ≤ 12 := or_le oq1
  refine lv_istore (lv' := [(4, .int 0), (0, .ref a), (1, .int p0), (2, .ref p1), (3, .ref p2)]) hx hb dX11_findUnlike_10 hl (by decide) rfl (fun ls hl => ?_)
  have L12 : ∀ (N12 : Nat) (l4_12 : Int32) (G_12 : XG) (H : Heap) (locs : List Loc) (ls : Array Slot), XFr [(a, 19)] [F a 17, F a 18] [] G6 G_12 → pL G_12 F a = fuL (G.2.1 (F a 10)) r1 r2 p0.toInt (ordN (prM (G.2.1 (F a 10))) (rkM (G.2.1 (F a 10))) 12).2 (l4_12.toInt).toNat → G_12.2.2.2 = G.2.2.2 → 0 ≤ l4_12.toInt ∧ l4_12.toInt ≤ ((G1.1 a 16).toInt) → 0 ≤ ((G_12.1 a 19).toInt) ∧ ((G_12.1 a 19).toInt) ≤ 199 * l4_12.toInt → (0 : Int) ≤ l4_12.toInt → 2147483648 - l4_12.toInt < ((N12 : Nat) : Int) → TW E K F G_12 H → va_S (xA E) s.heap H locs → lv_has ls 7 [(0, .ref a), (1, .int p0), (2, .ref p1), (3, .ref p2), (4, .int l4_12)] → W p l e rm_X11_findUnlike s m args below meth c H locs 0 0 Q (F0 m 12 ls []) := by
    intro N12
    induction N12 with
    | zero =>
      intro l4_12 G_12 H locs ls hF_12 pu lo I12_0 I12_1 I12_2 hm12
      exact absurd hm12 (z_X11_findUnlike_1 l4_12.toInt (xr l4_12))
    | succ N12 ih12 =>
      intro l4_12 G_12 H locs ls hF_12 pu lo I12_0 I12_1 I12_2 hm12 hT hS hl
      refine lv_iload hx hb dX11_findUnlike_12 (lv_at hl 4 rfl) ?_
      refine lv_aload_n hx hb dX11_findUnlike_14 rfl (lv_at hl 0 rfl) ?_
      refine gX11_16 S hK hT ha kf_X11_197 dX11_findUnlike_15 (v := (G1.1 a 16)) ((hF_12.1 _ _ (xnj (by decide) xn0)).trans (ld_j hG6 (by decide))) (?_)
      refine xi_cge (tgt := 131) hx hb (rfl : Int32.toInt l4_12 = l4_12.toInt) (rfl : Int32.toInt (G1.1 a 16) = ((G1.1 a 16).toInt)) dX11_findUnlike_18 (by decide) (fun c18 => ?_) (fun c18 => ?_)
      · exact x_rv hx hb hr hlk hQ (Nat.le_of_ble_eq_true rfl) (Nat.le_of_ble_eq_true rfl) hS dX11_findUnlike_131 G_12 ⟨(XFr.call (by rw [hG6]; exact XFr.dput (XFr.call XFr.rf hF1 (xm1 0 rfl xm0) (xm1 0 rfl xm0) xm0) (List.mem_of_getElem? (i := 1) rfl)) hF_12 (xm1 1 rfl xm0) (xm1 1 rfl (xm1 2 rfl xm0)) xm0), (z_X11_findUnlike_2 l4_12.toInt ((G1.1 a 16).toInt) ((G_12.1 a 19).toInt) z10 I12_0 I12_1), (v_X11_findUnlike_131_2 (K := K) (F := F) a p1 p2 G G1 G_12 r1 r2 p0 l4_12 N12 ha hp1 hp2 oq1 oq1a pu lo z10 I12_0 I12_1 I12_2 hm12 c18), (v_X11_findUnlike_131_3 (F := F) a G G1 G_12 oq1 ((hF_12.2.1 _ (xn1 (xne_k hk9999 hk9999a (by decide)) (xn1 (xne_k hk9999 hk9999b (by decide)) xn0))).trans (ld_c hG6)) ((hF_12.1 _ _ (xnj (by decide) xn0)).trans (ld_j hG6 (by decide)))), (v_X11_findUnlike_131_4 G G_12 lo)⟩ hT
      · refine lv_aload_n hx hb dX11_findUnlike_21 rfl (lv_at hl 0 rfl) ?_
        refine gX11_15 S hK hT ha kf_X11_48 dX11_findUnlike_22 (fun _ _ => ?_)
        refine lv_iload hx hb dX11_findUnlike_25 (lv_at hl 4 rfl) ?_
        refine al_0 S hK hT hk9999 ar_42 (by decide) (z_X11_findUnlike_3 l4_12.toInt ((G1.1 a 16).toInt) z10 I12_0 c18) dX11_findUnlike_27 (fun x27 hv27 o27 => ?_)
        have hv27 : x27.toInt = (aI (G1.2.1 (F a 15)) (l4_12.toInt)) := hv27.trans (by rw [(rfl : Int32.toInt l4_12 = l4_12.toInt), (((hF_12.2.1 _ (xn1 (xne_k hk9999 hk9999a (by decide)) (xn1 (xne_k hk9999 hk9999b (by decide)) xn0))).trans (ld_c hG6)) : G_12.2.1 (F a 15) = G1.2.1 (F a 15))])
        have z28 : (0 ≤ (aI (G1.2.1 (F a 15)) (l4_12.toInt)) ∧ (aI (G1.2.1 (F a 15)) (l4_12.toInt)) ≤ 11) ∧ (aI (G.2.1 (F a 10)) (10 * (aI (G1.2.1 (F a 15)) (l4_12.toInt)) + 0)) ≠ -1 := or_ent oq1 (z_X11_findUnlike_4 l4_12.toInt ((G1.1 a 16).toInt) I12_0 c18)
        refine lv_istore (lv' := [(5, .int x27), (0, .ref a), (1, .int p0), (2, .ref p1), (3, .ref p2), (4, .int l4_12)]) hx hb dX11_findUnlike_28 hl (by decide) rfl (fun ls hl => ?_)
        have z30 : (-1 ≤ (aI (G.2.1 (F a 10)) (10 * (aI (G1.2.1 (F a 15)) (l4_12.toInt)) + 0)) ∧ (aI (G.2.1 (F a 10)) (10 * (aI (G1.2.1 (F a 15)) (l4_12.toInt)) + 0)) ≤ 5) ∧ (0 ≤ (aI (G.2.1 (F a 10)) (10 * (aI (G1.2.1 (F a 15)) (l4_12.toInt)) + 1)) ∧ (aI (G.2.1 (F a 10)) (10 * (aI (G1.2.1 (F a 15)) (l4_12.toInt)) + 1)) ≤ 2) ∧ (0 ≤ (aI (G.2.1 (F a 10)) (10 * (aI (G1.2.1 (F a 15)) (l4_12.toInt)) + 2)) ∧ (aI (G.2.1 (F a 10)) (10 * (aI (G1.2.1 (F a 15)) (l4_12.toInt)) + 2)) ≤ 2) ∧ (-1 ≤ (aI (G.2.1 (F a 10)) (10 * (aI (G1.2.1 (F a 15)) (l4_12.toInt)) + 3)) ∧ (aI (G.2.1 (F a 10)) (10 * (aI (G1.2.1 (F a 15)) (l4_12.toInt)) + 3)) ≤ 2) ∧ ((aI (G.2.1 (F a 10)) (10 * (aI (G1.2.1 (F a 15)) (l4_12.toInt)) + 0)) = 1 ∨ (aI (G.2.1 (F a 10)) (10 * (aI (G1.2.1 (F a 15)) (l4_12.toInt)) + 0)) = 3 ∨ (aI (G.2.1 (F a 10)) (10 * (aI (G1.2.1 (F a 15)) (l4_12.toInt)) + 0)) = 4 → 0 ≤ (aI (G.2.1 (F a 10)) (10 * (aI (G1.2.1 (F a 15)) (l4_12.toInt)) + 3))) := RV.row hR ((z28).1)
        have z30a : (((aI (G.2.1 (F a 10)) (10 * (aI (G1.2.1 (F a 15)) (l4_12.toInt)) + 0)) = 2 ∨ (aI (G.2.1 (F a 10)) (10 * (aI (G1.2.1 (F a 15)) (l4_12.toInt)) + 0)) = 4 ∨ (aI (G.2.1 (F a 10)) (10 * (aI (G1.2.1 (F a 15)) (l4_12.toInt)) + 0)) = 5) ∧ (sF (aI (G.2.1 (F a 10)) (10 * (aI (G1.2.1 (F a 15)) (l4_12.toInt)) + 0))) = 0 ∧ (sL (aI (G.2.1 (F a 10)) (10 * (aI (G1.2.1 (F a 15)) (l4_12.toInt)) + 0))) = 29) ∨ (¬ ((aI (G.2.1 (F a 10)) (10 * (aI (G1.2.1 (F a 15)) (l4_12.toInt)) + 0)) = 2 ∨ (aI (G.2.1 (F a 10)) (10 * (aI (G1.2.1 (F a 15)) (l4_12.toInt)) + 0)) = 4 ∨ (aI (G.2.1 (F a 10)) (10 * (aI (G1.2.1 (F a 15)) (l4_12.toInt)) + 0)) = 5) ∧ (sF (aI (G.2.1 (F a 10)) (10 * (aI (G1.2.1 (F a 15)) (l4_12.toInt)) + 0))) = -99 ∧ (sL (aI (G.2.1 (F a 10)) (10 * (aI (G1.2.1 (F a 15)) (l4_12.toInt)) + 0))) = 99) := sFL _
        refine lv_aload_n hx hb dX11_findUnlike_30 rfl (lv_at hl 1 rfl) ?_
        refine lv_iload hx hb dX11_findUnlike_31 (lv_at hl 0 rfl) ?_
        refine x_clp (x_runV (b := a) (As := [.int x27]) (rest := []) S (c_X11_firstSubject l E K F G_12 H a x27 ha (by rw [(hv27 : Int32.toInt x27 = (aI (G1.2.1 (F a 15)) (l4_12.toInt)))] <;> exact ((z28).1))) mv_X11_firstSubject km_X11_179 rfl rfl ⟨Nat.le_of_ble_eq_true rfl, Nat.le_of_ble_eq_true rfl⟩ (rc_13 hK hT ha) hK (fun _ => XPh.blind) (fun U hU hW => XPh.at hK hz hS hT hU hW) rfl hl.1 (Nat.le_of_ble_eq_true rfl) dX11_findUnlike_33 ⟨Nat.le_of_ble_eq_true rfl, Nat.le_of_ble_eq_true rfl⟩) hS ?_
        rintro _ _ locs ⟨x33, rfl, t33⟩ hS
        have t33 : x33.toInt = (sF (aI (G.2.1 (F a 10)) (10 * (aI (G1.2.1 (F a 15)) (l4_12.toInt)) + 0))) := by rw [(hv27 : Int32.toInt x27 = (aI (G1.2.1 (F a 15)) (l4_12.toInt)))] at t33; rw [(show G_12.2.1 (F a 10) = G.2.1 (F a 10) from ((hF_12.2.1 _ (xn1 (xne_k hk9999c hk9999a (by decide)) (xn1 (xne_k hk9999c hk9999b (by decide)) xn0))).trans ((ld_c hG6).trans (hF1.2.1 _ (xn1 (xne_k hk9999c hk9999 (by decide)) xn0)))))] at t33; exact t33
        refine lv_istore (lv' := [(6, .int x33), (5, .int x27), (0, .ref a), (1, .int p0), (2, .ref p1), (3, .ref p2), (4, .int l4_12)]) hx hb dX11_findUnlike_36 hl (by decide) rfl (fun ls hl => ?_)
        have L38 : ∀ (N38 : Nat) (l6_38 : Int32) (G_38 : XG) (H : Heap) (locs : List Loc) (ls : Array Slot), XFr [(a, 19)] [F a 17, F a 18] [] G_12 G_38 → pL G_38 F a = pL G_12 F a ++ fup (G.2.1 (F a 10)) r1 r2 (aI (G1.2.1 (F a 15)) (l4_12.toInt)) l6_38.toInt → G_38.2.2.2 = G.2.2.2 → (sF (aI (G.2.1 (F a 10)) (10 * (aI (G1.2.1 (F a 15)) (l4_12.toInt)) + 0))) ≤ l6_38.toInt ∧ l6_38.toInt ≤ (sL (aI (G.2.1 (F a 10)) (10 * (aI (G1.2.1 (F a 15)) (l4_12.toInt)) + 0))) + 1 → 0 ≤ ((G_38.1 a 19).toInt) ∧ ((G_38.1 a 19).toInt) ≤ 199 * l4_12.toInt + (l6_38.toInt - (sF (aI (G.2.1 (F a 10)) (10 * (aI (G1.2.1 (F a 15)) (l4_12.toInt)) + 0)))) → l6_38.toInt = (sF (aI (G.2.1 (F a 10)) (10 * (aI (G1.2.1 (F a 15)) (l4_12.toInt)) + 0))) ∨ p0.toInt = 2 ∨ (aI (G.2.1 (F a 10)) (10 * (aI (G1.2.1 (F a 15)) (l4_12.toInt)) + 6)) = p0.toInt → 2147483648 - l6_38.toInt < ((N38 : Nat) : Int) → TW E K F G_38 H → va_S (xA E) s.heap H locs → lv_has ls 7 [(0, .ref a), (1, .int p0), (2, .ref p1), (3, .ref p2), (4, .int l4_12), (5, .int x27), (6, .int l6_38)] → W p l e rm_X11_findUnlike s m args below meth c H locs 0 0 Q (F0 m 38 ls []) := by
          intro N38
          induction N38 with
          | zero =>
            intro l6_38 G_38 H locs ls hF_38 pi lo I38_0 I38_1 I38_2 hm38
            exact absurd hm38 (z_X11_findUnlike_1 l6_38.toInt (xr l6_38))
          | succ N38 ih38 =>
            intro l6_38 G_38 H locs ls hF_38 pi lo I38_0 I38_1 I38_2 hm38 hT hS hl
            refine lv_iload hx hb dX11_findUnlike_38 (lv_at hl 6 rfl) ?_
            refine lv_aload_n hx hb dX11_findUnlike_40 rfl (lv_at hl 0 rfl) ?_
            refine lv_iload hx hb dX11_findUnlike_41 (lv_at hl 5 rfl) ?_
            refine x_clp (x_runV (b := a) (As := [.int x27]) (rest := [.int l6_38]) S (c_X11_lastSubject l E K F G_38 H a x27 ha (by rw [(hv27 : Int32.toInt x27 = (aI (G1.2.1 (F a 15)) (l4_12.toInt)))] <;> exact ((z28).1))) mv_X11_lastSubject km_X11_183 rfl rfl ⟨Nat.le_of_ble_eq_true rfl, Nat.le_of_ble_eq_true rfl⟩ (rc_13 hK hT ha) hK (fun _ => XPh.blind) (fun U hU hW => XPh.at hK hz hS hT hU hW) rfl hl.1 (Nat.le_of_ble_eq_true rfl) dX11_findUnlike_43 ⟨Nat.le_of_ble_eq_true rfl, Nat.le_of_ble_eq_true rfl⟩) hS ?_
            rintro _ _ locs ⟨x43, rfl, t43⟩ hS
            have t43 : x43.toInt = (sL (aI (G.2.1 (F a 10)) (10 * (aI (G1.2.1 (F a 15)) (l4_12.toInt)) + 0))) := by rw [(hv27 : Int32.toInt x27 = (aI (G1.2.1 (F a 15)) (l4_12.toInt)))] at t43; rw [(show G_38.2.1 (F a 10) = G.2.1 (F a 10) from ((hF_38.2.1 _ (xn1 (xne_k hk9999c hk9999a (by decide)) (xn1 (xne_k hk9999c hk9999b (by decide)) xn0))).trans ((hF_12.2.1 _ (xn1 (xne_k hk9999c hk9999a (by decide)) (xn1 (xne_k hk9999c hk9999b (by decide)) xn0))).trans ((ld_c hG6).trans (hF1.2.1 _ (xn1 (xne_k hk9999c hk9999 (by decide)) xn0))))))] at t43; exact t43
            refine xi_cgt (tgt := 125) hx hb (rfl : Int32.toInt l6_38 = l6_38.toInt) (t43 : Int32.toInt x43 = (sL (aI (G.2.1 (F a 10)) (10 * (aI (G1.2.1 (F a 15)) (l4_12.toInt)) + 0)))) dX11_findUnlike_46 (by decide) (fun c46 => ?_) (fun c46 => ?_)
            · refine xi_iinc (n := 1) (lv' := fun z9 => [(4, .int z9), (0, .ref a), (1, .int p0), (2, .ref p1), (3, .ref p2), (5, .int x27), (6, .int l6_38)]) (k := 4) hx hb (rfl : Int32.toInt l4_12 = l4_12.toInt) (by decide) dX11_findUnlike_125 hl rfl (by decide) (fun _ => rfl) (fun x125 ls t125 hl => ?_)
              have e125 : x125.toInt = (l4_12.toInt + 1) := (z_X11_findUnlike_9 l4_12.toInt x125.toInt ((G1.1 a 16).toInt) z10 I12_0 t125)
              have hl : lv_has ls 7 [(4, .int x125), (0, .ref a), (1, .int p0), (2, .ref p1), (3, .ref p2), (5, .int x27), (6, .int l6_38)] := hl
              refine lv_goto (tgt := 12) hx hb dX11_findUnlike_128 (by decide) ?_
              exact ih12 x125 G_38 _ _ _ (XFr.call (XFr.call XFr.rf hF_12 (xm1 0 rfl xm0) (xm1 0 rfl (xm1 1 rfl xm0)) xm0) hF_38 (xm1 0 rfl xm0) (xm1 0 rfl (xm1 1 rfl xm0)) xm0) (by rw [(e125 : Int32.toInt x125 = (l4_12.toInt + 1))] <;> exact (v_X11_findUnlike_128_5 (K := K) (F := F) a p1 p2 G G1 G_12 G_38 r1 r2 p0 l4_12 l6_38 N12 N38 ha hp1 hp2 oq1 oq1a pu pi lo z10 I12_0 I12_1 I12_2 hm12 c18 z28 z30 z30a I38_0 I38_1 I38_2 hm38 c46)) (v_X11_findUnlike_128_6 G G_38 lo) (by rw [(e125 : Int32.toInt x125 = (l4_12.toInt + 1))] <;> exact (z_X11_findUnlike_10 l4_12.toInt ((G1.1 a 16).toInt) I12_0 c18)) (by rw [(e125 : Int32.toInt x125 = (l4_12.toInt + 1))] <;> exact (z_X11_findUnlike_11 l4_12.toInt l6_38.toInt ((G_38.1 a 19).toInt) (aI (G.2.1 (F a 10)) (10 * (aI (G1.2.1 (F a 15)) (l4_12.toInt)) + 0)) (sF (aI (G.2.1 (F a 10)) (10 * (aI (G1.2.1 (F a 15)) (l4_12.toInt)) + 0))) (sL (aI (G.2.1 (F a 10)) (10 * (aI (G1.2.1 (F a 15)) (l4_12.toInt)) + 0))) z30a I38_0 I38_1)) (by rw [(e125 : Int32.toInt x125 = (l4_12.toInt + 1))] <;> exact (z_X11_findUnlike_12 l4_12.toInt ((G1.1 a 16).toInt) I12_0)) (by rw [(e125 : Int32.toInt x125 = (l4_12.toInt + 1))] <;> exact (z_X11_findUnlike_13 l4_12.toInt N12 hm12)) hT hS (lv_sub hl [1, 2, 3, 4, 0] rfl)
            · refine lv_iload_n hx hb dX11_findUnlike_49 rfl (lv_at hl 1 rfl) ?_
              refine lv_iconst (v := 2) hx hb dX11_findUnlike_50 (by decide) ?_
              refine xi_ceq (tgt := 66) hx hb (rfl : Int32.toInt p0 = p0.toInt) ((by decide) : Int32.toInt 2 = (2 : Int)) dX11_findUnlike_51 (by decide) (fun c51 => ?_) (fun c51 => ?_)
              · refine lv_aload_n hx hb dX11_findUnlike_66 rfl (lv_at hl 2 rfl) ?_
                refine lv_iload hx hb dX11_findUnlike_67 (lv_at hl 5 rfl) ?_
                refine lv_iload hx hb dX11_findUnlike_69 (lv_at hl 6 rfl) ?_
                refine x_clp (x_runS (As := [.int x27, .int l6_38]) (rest := [.ref p1]) S (c_X11_placeOf l E K F G_38 H x27 l6_38 (by rw [(hv27 : Int32.toInt x27 = (aI (G1.2.1 (F a 15)) (l4_12.toInt)))] <;> exact (z_X11_findUnlike_14 l6_38.toInt (aI (G.2.1 (F a 10)) (10 * (aI (G1.2.1 (F a 15)) (l4_12.toInt)) + 0)) (aI (G1.2.1 (F a 15)) (l4_12.toInt)) (sF (aI (G.2.1 (F a 10)) (10 * (aI (G1.2.1 (F a 15)) (l4_12.toInt)) + 0))) (sL (aI (G.2.1 (F a 10)) (10 * (aI (G1.2.1 (F a 15)) (l4_12.toInt)) + 0))) (z28).1 z30a I38_0 c46))) ms_X11_placeOf km_X11_186 rfl rfl ⟨Nat.le_of_ble_eq_true rfl, Nat.le_of_ble_eq_true rfl⟩ hK (fun _ => XPh.blind) (fun U hU hW => XPh.at hK hz hS hT hU hW) rfl hl.1 (Nat.le_of_ble_eq_true rfl) dX11_findUnlike_71 ⟨Nat.le_of_ble_eq_true rfl, Nat.le_of_ble_eq_true rfl⟩) hS ?_
                rintro _ _ locs ⟨x71, rfl, t71⟩ hS
                have t71 : x71.toInt = 199 * (aI (G1.2.1 (F a 15)) (l4_12.toInt)) + l6_38.toInt + 99 := by rw [(hv27 : Int32.toInt x27 = (aI (G1.2.1 (F a 15)) (l4_12.toInt)))] at t71; exact t71
                refine al_0 S hK hT hp1 ar_38 (by decide) (by rw [(t71 : Int32.toInt x71 = 199 * (aI (G1.2.1 (F a 15)) (l4_12.toInt)) + l6_38.toInt + 99)]; exact (z_X11_findUnlike_15 l6_38.toInt (aI (G.2.1 (F a 10)) (10 * (aI (G1.2.1 (F a 15)) (l4_12.toInt)) + 0)) (aI (G1.2.1 (F a 15)) (l4_12.toInt)) (sF (aI (G.2.1 (F a 10)) (10 * (aI (G1.2.1 (F a 15)) (l4_12.toInt)) + 0))) (sL (aI (G.2.1 (F a 10)) (10 * (aI (G1.2.1 (F a 15)) (l4_12.toInt)) + 0))) (z28).1 z30a I38_0 c46)) dX11_findUnlike_74 (fun x74 hv74 o74 => ?_)
                have hv74 : x74.toInt = (aI (G.2.1 p1) (199 * (aI (G1.2.1 (F a 15)) (l4_12.toInt)) + l6_38.toInt + 99)) := hv74.trans (by rw [(t71 : Int32.toInt x71 = 199 * (aI (G1.2.1 (F a 15)) (l4_12.toInt)) + l6_38.toInt + 99), (((hF_38.2.1 _ (xn1 (xne_k hp1 hk9999a (by decide)) (xn1 (xne_k hp1 hk9999b (by decide)) xn0))).trans ((hF_12.2.1 _ (xn1 (xne_k hp1 hk9999a (by decide)) (xn1 (xne_k hp1 hk9999b (by decide)) xn0))).trans ((ld_c hG6).trans (hF1.2.1 _ (xn1 (xne_k hp1 hk9999 (by decide)) xn0))))) : G_38.2.1 p1 = G.2.1 p1)])
                refine lv_aload_n hx hb dX11_findUnlike_75 rfl (lv_at hl 3 rfl) ?_
                refine lv_iload hx hb dX11_findUnlike_76 (lv_at hl 5 rfl) ?_
                refine lv_iload hx hb dX11_findUnlike_78 (lv_at hl 6 rfl) ?_
                refine x_clp (x_runS (As := [.int x27, .int l6_38]) (rest := [.ref p2, .int x74]) S (c_X11_placeOf l E K F G_38 H x27 l6_38 (by rw [(hv27 : Int32.toInt x27 = (aI (G1.2.1 (F a 15)) (l4_12.toInt)))] <;> exact (z_X11_findUnlike_14 l6_38.toInt (aI (G.2.1 (F a 10)) (10 * (aI (G1.2.1 (F a 15)) (l4_12.toInt)) + 0)) (aI (G1.2.1 (F a 15)) (l4_12.toInt)) (sF (aI (G.2.1 (F a 10)) (10 * (aI (G1.2.1 (F a 15)) (l4_12.toInt)) + 0))) (sL (aI (G.2.1 (F a 10)) (10 * (aI (G1.2.1 (F a 15)) (l4_12.toInt)) + 0))) (z28).1 z30a I38_0 c46))) ms_X11_placeOf km_X11_186 rfl rfl ⟨Nat.le_of_ble_eq_true rfl, Nat.le_of_ble_eq_true rfl⟩ hK (fun _ => XPh.blind) (fun U hU hW => XPh.at hK hz hS hT hU hW) rfl hl.1 (Nat.le_of_ble_eq_true rfl) dX11_findUnlike_80 ⟨Nat.le_of_ble_eq_true rfl, Nat.le_of_ble_eq_true rfl⟩) hS ?_
                rintro _ _ locs ⟨x80, rfl, t80⟩ hS
                have t80 : x80.toInt = 199 * (aI (G1.2.1 (F a 15)) (l4_12.toInt)) + l6_38.toInt + 99 := by rw [(hv27 : Int32.toInt x27 = (aI (G1.2.1 (F a 15)) (l4_12.toInt)))] at t80; exact t80
                refine al_0 S hK hT hp2 ar_38 (by decide) (by rw [(t80 : Int32.toInt x80 = 199 * (aI (G1.2.1 (F a 15)) (l4_12.toInt)) + l6_38.toInt + 99)]; exact (z_X11_findUnlike_15 l6_38.toInt (aI (G.2.1 (F a 10)) (10 * (aI (G1.2.1 (F a 15)) (l4_12.toInt)) + 0)) (aI (G1.2.1 (F a 15)) (l4_12.toInt)) (sF (aI (G.2.1 (F a 10)) (10 * (aI (G1.2.1 (F a 15)) (l4_12.toInt)) + 0))) (sL (aI (G.2.1 (F a 10)) (10 * (aI (G1.2.1 (F a 15)) (l4_12.toInt)) + 0))) (z28).1 z30a I38_0 c46)) dX11_findUnlike_83 (fun x83 hv83 o83 => ?_)
                have hv83 : x83.toInt = (aI (G.2.1 p2) (199 * (aI (G1.2.1 (F a 15)) (l4_12.toInt)) + l6_38.toInt + 99)) := hv83.trans (by rw [(t80 : Int32.toInt x80 = 199 * (aI (G1.2.1 (F a 15)) (l4_12.toInt)) + l6_38.toInt + 99), (((hF_38.2.1 _ (xn1 (xne_k hp2 hk9999a (by decide)) (xn1 (xne_k hp2 hk9999b (by decide)) xn0))).trans ((hF_12.2.1 _ (xn1 (xne_k hp2 hk9999a (by decide)) (xn1 (xne_k hp2 hk9999b (by decide)) xn0))).trans ((ld_c hG6).trans (hF1.2.1 _ (xn1 (xne_k hp2 hk9999 (by decide)) xn0))))) : G_38.2.1 p2 = G.2.1 p2)])
                refine xi_ceq (tgt := 119) hx hb (hv74 : Int32.toInt x74 = (aI (G.2.1 p1) (199 * (aI (G1.2.1 (F a 15)) (l4_12.toInt)) + l6_38.toInt + 99))) (hv83 : Int32.toInt x83 = (aI (G.2.1 p2) (199 * (aI (G1.2.1 (F a 15)) (l4_12.toInt)) + l6_38.toInt + 99))) dX11_findUnlike_84 (by decide) (fun c84 => ?_) (fun c84 => ?_)
                · refine xi_iinc (n := 1) (lv' := fun z9 => [(6, .int z9), (0, .ref a), (1, .int p0), (2, .ref p1), (3, .ref p2), (4, .int l4_12), (5, .int x27)]) (k := 6) hx hb (rfl : Int32.toInt l6_38 = l6_38.toInt) (by decide) dX11_findUnlike_119 hl rfl (by decide) (fun _ => rfl) (fun x119 ls t119 hl => ?_)
                  have e119 : x119.toInt = (l6_38.toInt + 1) := (z_X11_findUnlike_18 l6_38.toInt x119.toInt (aI (G.2.1 (F a 10)) (10 * (aI (G1.2.1 (F a 15)) (l4_12.toInt)) + 0)) (sF (aI (G.2.1 (F a 10)) (10 * (aI (G1.2.1 (F a 15)) (l4_12.toInt)) + 0))) (sL (aI (G.2.1 (F a 10)) (10 * (aI (G1.2.1 (F a 15)) (l4_12.toInt)) + 0))) z30a c46 t119 (xr l6_38))
                  have hl : lv_has ls 7 [(6, .int x119), (0, .ref a), (1, .int p0), (2, .ref p1), (3, .ref p2), (4, .int l4_12), (5, .int x27)] := hl
                  refine lv_goto (tgt := 38) hx hb dX11_findUnlike_122 (by decide) ?_
                  exact ih38 x119 G_38 _ _ _ (XFr.call XFr.rf hF_38 (xm1 0 rfl xm0) (xm1 0 rfl (xm1 1 rfl xm0)) xm0) (by rw [(e119 : Int32.toInt x119 = (l6_38.toInt + 1))] <;> exact (v_X11_findUnlike_122_7 (K := K) (F := F) a p1 p2 G G1 G_12 G_38 r1 r2 p0 l4_12 x27 l6_38 N12 N38 ha hp1 hp2 h1 h2 oq1a hv27 pi lo z10 I12_0 I12_1 I12_2 hm12 c18 z28 z30 z30a I38_0 I38_1 I38_2 hm38 c46 c51 c84)) (v_X11_findUnlike_122_8 G G_38 lo) (by rw [(e119 : Int32.toInt x119 = (l6_38.toInt + 1))] <;> exact (z_X11_findUnlike_19 l6_38.toInt (sF (aI (G.2.1 (F a 10)) (10 * (aI (G1.2.1 (F a 15)) (l4_12.toInt)) + 0))) (sL (aI (G.2.1 (F a 10)) (10 * (aI (G1.2.1 (F a 15)) (l4_12.toInt)) + 0))) I38_0 c46)) (by rw [(e119 : Int32.toInt x119 = (l6_38.toInt + 1))] <;> exact (z_X11_findUnlike_20 l4_12.toInt l6_38.toInt ((G_38.1 a 19).toInt) (sF (aI (G.2.1 (F a 10)) (10 * (aI (G1.2.1 (F a 15)) (l4_12.toInt)) + 0))) I38_1)) (by rw [(e119 : Int32.toInt x119 = (l6_38.toInt + 1))] <;> exact (z_X11_findUnlike_21 l6_38.toInt p0.toInt (aI (G.2.1 (F a 10)) (10 * (aI (G1.2.1 (F a 15)) (l4_12.toInt)) + 6)) (sF (aI (G.2.1 (F a 10)) (10 * (aI (G1.2.1 (F a 15)) (l4_12.toInt)) + 0))) c51)) (by rw [(e119 : Int32.toInt x119 = (l6_38.toInt + 1))] <;> exact (z_X11_findUnlike_13 l6_38.toInt N38 hm38)) hT hS (lv_sub hl [1, 2, 3, 4, 5, 6, 0] rfl)
                · refine lv_aload_n hx hb dX11_findUnlike_87 rfl (lv_at hl 0 rfl) ?_
                  refine gX11_17 S hK hT ha kf_X11_51 dX11_findUnlike_88 (fun _ _ => ?_)
                  refine lv_aload_n hx hb dX11_findUnlike_91 rfl (lv_at hl 0 rfl) ?_
                  refine gX11_19 S hK hT ha kf_X11_203 dX11_findUnlike_92 (v := (G_38.1 a 19)) rfl (?_)
                  refine lv_iload hx hb dX11_findUnlike_95 (lv_at hl 5 rfl) ?_
                  refine as_0 (x := x27) S hK hT hS hk9999a ar_43 aw_43 (by decide) (z_X11_findUnlike_23 l4_12.toInt l6_38.toInt ((G1.1 a 16).toInt) ((G_38.1 a 19).toInt) (aI (G.2.1 (F a 10)) (10 * (aI (G1.2.1 (F a 15)) (l4_12.toInt)) + 0)) (sF (aI (G.2.1 (F a 10)) (10 * (aI (G1.2.1 (F a 15)) (l4_12.toInt)) + 0))) (sL (aI (G.2.1 (F a 10)) (10 * (aI (G1.2.1 (F a 15)) (l4_12.toInt)) + 0))) z10 c18 z30a I38_1 c46) dX11_findUnlike_97 (fun H locs hT hS => ?_)
                  obtain ⟨G97, hG97⟩ : ∃ GG : XG, GG = cput G_38 (F a 17) (G_38.1 a 19).toNatClampNeg x27 := ⟨_, rfl⟩
                  rw [← hG97] at hT
                  refine lv_aload_n hx hb dX11_findUnlike_98 rfl (lv_at hl 0 rfl) ?_
                  refine gX11_18 S hK hT ha kf_X11_54 dX11_findUnlike_99 (fun _ _ => ?_)
                  refine lv_aload_n hx hb dX11_findUnlike_102 rfl (lv_at hl 0 rfl) ?_
                  refine gX11_19 S hK hT ha kf_X11_203 dX11_findUnlike_103 (v := (G_38.1 a 19)) (lc_d hG97) (?_)
                  refine lv_iload hx hb dX11_findUnlike_106 (lv_at hl 6 rfl) ?_
                  refine as_0 (x := l6_38) S hK hT hS hk9999b ar_44 aw_44 (by decide) (z_X11_findUnlike_23 l4_12.toInt l6_38.toInt ((G1.1 a 16).toInt) ((G_38.1 a 19).toInt) (aI (G.2.1 (F a 10)) (10 * (aI (G1.2.1 (F a 15)) (l4_12.toInt)) + 0)) (sF (aI (G.2.1 (F a 10)) (10 * (aI (G1.2.1 (F a 15)) (l4_12.toInt)) + 0))) (sL (aI (G.2.1 (F a 10)) (10 * (aI (G1.2.1 (F a 15)) (l4_12.toInt)) + 0))) z10 c18 z30a I38_1 c46) dX11_findUnlike_108 (fun H locs hT hS => ?_)
                  obtain ⟨G108, hG108⟩ : ∃ GG : XG, GG = cput G97 (F a 18) (G_38.1 a 19).toNatClampNeg l6_38 := ⟨_, rfl⟩
                  rw [← hG108] at hT
                  refine lv_aload_n hx hb dX11_findUnlike_109 rfl (lv_at hl 0 rfl) ?_
                  refine lv_dup hx hb dX11_findUnlike_110 rfl ?_
                  refine gX11_19 S hK hT ha kf_X11_203 dX11_findUnlike_111 (v := (G_38.1 a 19)) ((lc_d hG108).trans (lc_d hG97)) (?_)
                  refine lv_iconst (v := 1) hx hb dX11_findUnlike_114 (by decide) ?_
                  refine xi_iadd hx hb (rfl : Int32.toInt (G_38.1 a 19) = ((G_38.1 a 19).toInt)) ((by decide) : Int32.toInt 1 = (1 : Int)) dX11_findUnlike_115 (fun x115 t115 => ?_)
                  have e115 : x115.toInt = (((G_38.1 a 19).toInt) + (1 : Int)) := (z_X11_findUnlike_25 l4_12.toInt l6_38.toInt x115.toInt ((G1.1 a 16).toInt) ((G_38.1 a 19).toInt) (aI (G.2.1 (F a 10)) (10 * (aI (G1.2.1 (F a 15)) (l4_12.toInt)) + 0)) (sF (aI (G.2.1 (F a 10)) (10 * (aI (G1.2.1 (F a 15)) (l4_12.toInt)) + 0))) (sL (aI (G.2.1 (F a 10)) (10 * (aI (G1.2.1 (F a 15)) (l4_12.toInt)) + 0))) z10 c18 z30a I38_1 c46 t115)
                  refine pX11_19 (v := x115) S hK hT hS ha kf_X11_203 dX11_findUnlike_116 (fun H locs hT hS => ?_)
                  obtain ⟨G116, hG116⟩ : ∃ GG : XG, GG = dput G108 a 19 x115 := ⟨_, rfl⟩
                  rw [← hG116] at hT
                  refine xi_iinc (n := 1) (lv' := fun z9 => [(6, .int z9), (0, .ref a), (1, .int p0), (2, .ref p1), (3, .ref p2), (4, .int l4_12), (5, .int x27)]) (k := 6) hx hb (rfl : Int32.toInt l6_38 = l6_38.toInt) (by decide) dX11_findUnlike_119 hl rfl (by decide) (fun _ => rfl) (fun x119 ls t119 hl => ?_)
                  have e119 : x119.toInt = (l6_38.toInt + 1) := (z_X11_findUnlike_18 l6_38.toInt x119.toInt (aI (G.2.1 (F a 10)) (10 * (aI (G1.2.1 (F a 15)) (l4_12.toInt)) + 0)) (sF (aI (G.2.1 (F a 10)) (10 * (aI (G1.2.1 (F a 15)) (l4_12.toInt)) + 0))) (sL (aI (G.2.1 (F a 10)) (10 * (aI (G1.2.1 (F a 15)) (l4_12.toInt)) + 0))) z30a c46 t119 (xr l6_38))
                  have hl : lv_has ls 7 [(6, .int x119), (0, .ref a), (1, .int p0), (2, .ref p1), (3, .ref p2), (4, .int l4_12), (5, .int x27)] := hl
                  refine lv_goto (tgt := 38) hx hb dX11_findUnlike_122 (by decide) ?_
                  exact ih38 x119 G116 _ _ _ (by rw [hG116]; exact XFr.dput (by rw [hG108]; exact XFr.cput (by rw [hG97]; exact XFr.cput (XFr.call XFr.rf hF_38 (xm1 0 rfl xm0) (xm1 0 rfl (xm1 1 rfl xm0)) xm0) (List.mem_of_getElem? (i := 0) rfl)) (List.mem_of_getElem? (i := 1) rfl)) (List.mem_of_getElem? (i := 0) rfl)) (by rw [(e119 : Int32.toInt x119 = (l6_38.toInt + 1))] <;> exact (v_X11_findUnlike_122_9 (K := K) (F := F) a p1 p2 G G1 G_12 G_38 G97 x27 G108 l6_38 G116 x115 r1 r2 p0 l4_12 N12 N38 ha hp1 hp2 hG97 hG108 h1 h2 oq1a hv27 pi lo e115 z10 I12_0 I12_1 I12_2 hm12 c18 z28 z30 z30a I38_0 I38_1 I38_2 hm38 c46 c51 c84 ((ld_c hG116).trans (lc_c hG108 (xne_k hk9999a hk9999b (by decide)))) (ld_c hG116) (lc_c hG97 (xne_k hk9999b hk9999a (by decide))) (ld_at hG116))) (v_X11_findUnlike_122_10 (F := F) a G G_38 G97 x27 G108 l6_38 G116 x115 hG97 hG108 hG116 lo) (by rw [(e119 : Int32.toInt x119 = (l6_38.toInt + 1))] <;> exact (z_X11_findUnlike_19 l6_38.toInt (sF (aI (G.2.1 (F a 10)) (10 * (aI (G1.2.1 (F a 15)) (l4_12.toInt)) + 0))) (sL (aI (G.2.1 (F a 10)) (10 * (aI (G1.2.1 (F a 15)) (l4_12.toInt)) + 0))) I38_0 c46)) (by rw [(e119 : Int32.toInt x119 = (l6_38.toInt + 1)), (show (G116.1 a 19).toInt = (((G_38.1 a 19).toInt) + (1 : Int)) from (congrArg Int32.toInt (ld_at hG116)).trans (e115 : Int32.toInt x115 = (((G_38.1 a 19).toInt) + (1 : Int))))] <;> exact (z_X11_findUnlike_28 l4_12.toInt l6_38.toInt ((G_38.1 a 19).toInt) (sF (aI (G.2.1 (F a 10)) (10 * (aI (G1.2.1 (F a 15)) (l4_12.toInt)) + 0))) I38_1)) (by rw [(e119 : Int32.toInt x119 = (l6_38.toInt + 1))] <;> exact (z_X11_findUnlike_21 l6_38.toInt p0.toInt (aI (G.2.1 (F a 10)) (10 * (aI (G1.2.1 (F a 15)) (l4_12.toInt)) + 6)) (sF (aI (G.2.1 (F a 10)) (10 * (aI (G1.2.1 (F a 15)) (l4_12.toInt)) + 0))) c51)) (by rw [(e119 : Int32.toInt x119 = (l6_38.toInt + 1))] <;> exact (z_X11_findUnlike_13 l6_38.toInt N38 hm38)) hT hS (lv_sub hl [1, 2, 3, 4, 5, 6, 0] rfl)
              · refine lv_aload_n hx hb dX11_findUnlike_54 rfl (lv_at hl 0 rfl) ?_
                refine lv_iload hx hb dX11_findUnlike_55 (lv_at hl 5 rfl) ?_
                refine lv_bipush (v := 6) hx hb dX11_findUnlike_57 (by decide) ?_
                refine x_clp (x_runV (b := a) (As := [.int x27, .int 6]) (rest := []) S (c_X11_of l E K F G_38 H a x27 6 ha (by rw [(hv27 : Int32.toInt x27 = (aI (G1.2.1 (F a 15)) (l4_12.toInt)))] <;> exact ((z28).1)) (by decide)) mv_X11_of km_X11_165 rfl rfl ⟨Nat.le_of_ble_eq_true rfl, Nat.le_of_ble_eq_true rfl⟩ (rc_13 hK hT ha) hK (fun _ => XPh.blind) (fun U hU hW => XPh.at hK hz hS hT hU hW) rfl hl.1 (Nat.le_of_ble_eq_true rfl) dX11_findUnlike_59 ⟨Nat.le_of_ble_eq_true rfl, Nat.le_of_ble_eq_true rfl⟩) hS ?_
                rintro _ _ locs ⟨x59, rfl, t59⟩ hS
                have t59 : x59.toInt = (aI (G.2.1 (F a 10)) (10 * (aI (G1.2.1 (F a 15)) (l4_12.toInt)) + 6)) := by rw [(hv27 : Int32.toInt x27 = (aI (G1.2.1 (F a 15)) (l4_12.toInt)))] at t59; rw [(show G_38.2.1 (F a 10) = G.2.1 (F a 10) from ((hF_38.2.1 _ (xn1 (xne_k hk9999c hk9999a (by decide)) (xn1 (xne_k hk9999c hk9999b (by decide)) xn0))).trans ((hF_12.2.1 _ (xn1 (xne_k hk9999c hk9999a (by decide)) (xn1 (xne_k hk9999c hk9999b (by decide)) xn0))).trans ((ld_c hG6).trans (hF1.2.1 _ (xn1 (xne_k hk9999c hk9999 (by decide)) xn0))))))] at t59; exact t59
                refine lv_iload_n hx hb dX11_findUnlike_62 rfl (lv_at hl 1 rfl) ?_
                refine xi_cne (tgt := 125) hx hb (t59 : Int32.toInt x59 = (aI (G.2.1 (F a 10)) (10 * (aI (G1.2.1 (F a 15)) (l4_12.toInt)) + 6))) (rfl : Int32.toInt p0 = p0.toInt) dX11_findUnlike_63 (by decide) (fun c63 => ?_) (fun c63 => ?_)
                · refine xi_iinc (n := 1) (lv' := fun z9 => [(4, .int z9), (0, .ref a), (1, .int p0), (2, .ref p1), (3, .ref p2), (5, .int x27), (6, .int l6_38)]) (k := 4) hx hb (rfl : Int32.toInt l4_12 = l4_12.toInt) (by decide) dX11_findUnlike_125 hl rfl (by decide) (fun _ => rfl) (fun x125 ls t125 hl => ?_)
                  have e125 : x125.toInt = (l4_12.toInt + 1) := (z_X11_findUnlike_9 l4_12.toInt x125.toInt ((G1.1 a 16).toInt) z10 I12_0 t125)
                  have hl : lv_has ls 7 [(4, .int x125), (0, .ref a), (1, .int p0), (2, .ref p1), (3, .ref p2), (5, .int x27), (6, .int l6_38)] := hl
                  refine lv_goto (tgt := 12) hx hb dX11_findUnlike_128 (by decide) ?_
                  exact ih12 x125 G_38 _ _ _ (XFr.call (XFr.call XFr.rf hF_12 (xm1 0 rfl xm0) (xm1 0 rfl (xm1 1 rfl xm0)) xm0) hF_38 (xm1 0 rfl xm0) (xm1 0 rfl (xm1 1 rfl xm0)) xm0) (by rw [(e125 : Int32.toInt x125 = (l4_12.toInt + 1))] <;> exact (v_X11_findUnlike_128_11 (K := K) (F := F) a p1 p2 G G1 G_12 G_38 r1 r2 p0 l4_12 l6_38 N12 N38 ha hp1 hp2 oq1 oq1a pu pi lo z10 I12_0 I12_1 I12_2 hm12 c18 z28 z30 z30a I38_0 I38_1 I38_2 hm38 c46 c51 c63)) (v_X11_findUnlike_128_12 G G_38 lo) (by rw [(e125 : Int32.toInt x125 = (l4_12.toInt + 1))] <;> exact (z_X11_findUnlike_10 l4_12.toInt ((G1.1 a 16).toInt) I12_0 c18)) (by rw [(e125 : Int32.toInt x125 = (l4_12.toInt + 1))] <;> exact (z_X11_findUnlike_34 l4_12.toInt l6_38.toInt ((G_38.1 a 19).toInt) (aI (G.2.1 (F a 10)) (10 * (aI (G1.2.1 (F a 15)) (l4_12.toInt)) + 0)) (sF (aI (G.2.1 (F a 10)) (10 * (aI (G1.2.1 (F a 15)) (l4_12.toInt)) + 0))) (sL (aI (G.2.1 (F a 10)) (10 * (aI (G1.2.1 (F a 15)) (l4_12.toInt)) + 0))) z30a I38_1 c46)) (by rw [(e125 : Int32.toInt x125 = (l4_12.toInt + 1))] <;> exact (z_X11_findUnlike_12 l4_12.toInt ((G1.1 a 16).toInt) I12_0)) (by rw [(e125 : Int32.toInt x125 = (l4_12.toInt + 1))] <;> exact (z_X11_findUnlike_13 l4_12.toInt N12 hm12)) hT hS (lv_sub hl [1, 2, 3, 4, 0] rfl)
                · refine lv_aload_n hx hb dX11_findUnlike_66 rfl (lv_at hl 2 rfl) ?_
                  refine lv_iload hx hb dX11_findUnlike_67 (lv_at hl 5 rfl) ?_
                  refine lv_iload hx hb dX11_findUnlike_69 (lv_at hl 6 rfl) ?_
                  refine x_clp (x_runS (As := [.int x27, .int l6_38]) (rest := [.ref p1]) S (c_X11_placeOf l E K F G_38 H x27 l6_38 (by rw [(hv27 : Int32.toInt x27 = (aI (G1.2.1 (F a 15)) (l4_12.toInt)))] <;> exact (z_X11_findUnlike_14 l6_38.toInt (aI (G.2.1 (F a 10)) (10 * (aI (G1.2.1 (F a 15)) (l4_12.toInt)) + 0)) (aI (G1.2.1 (F a 15)) (l4_12.toInt)) (sF (aI (G.2.1 (F a 10)) (10 * (aI (G1.2.1 (F a 15)) (l4_12.toInt)) + 0))) (sL (aI (G.2.1 (F a 10)) (10 * (aI (G1.2.1 (F a 15)) (l4_12.toInt)) + 0))) (z28).1 z30a I38_0 c46))) ms_X11_placeOf km_X11_186 rfl rfl ⟨Nat.le_of_ble_eq_true rfl, Nat.le_of_ble_eq_true rfl⟩ hK (fun _ => XPh.blind) (fun U hU hW => XPh.at hK hz hS hT hU hW) rfl hl.1 (Nat.le_of_ble_eq_true rfl) dX11_findUnlike_71 ⟨Nat.le_of_ble_eq_true rfl, Nat.le_of_ble_eq_true rfl⟩) hS ?_
                  rintro _ _ locs ⟨x71, rfl, t71⟩ hS
                  have t71 : x71.toInt = 199 * (aI (G1.2.1 (F a 15)) (l4_12.toInt)) + l6_38.toInt + 99 := by rw [(hv27 : Int32.toInt x27 = (aI (G1.2.1 (F a 15)) (l4_12.toInt)))] at t71; exact t71
                  refine al_0 S hK hT hp1 ar_38 (by decide) (by rw [(t71 : Int32.toInt x71 = 199 * (aI (G1.2.1 (F a 15)) (l4_12.toInt)) + l6_38.toInt + 99)]; exact (z_X11_findUnlike_15 l6_38.toInt (aI (G.2.1 (F a 10)) (10 * (aI (G1.2.1 (F a 15)) (l4_12.toInt)) + 0)) (aI (G1.2.1 (F a 15)) (l4_12.toInt)) (sF (aI (G.2.1 (F a 10)) (10 * (aI (G1.2.1 (F a 15)) (l4_12.toInt)) + 0))) (sL (aI (G.2.1 (F a 10)) (10 * (aI (G1.2.1 (F a 15)) (l4_12.toInt)) + 0))) (z28).1 z30a I38_0 c46)) dX11_findUnlike_74 (fun x74 hv74 o74 => ?_)
                  have hv74 : x74.toInt = (aI (G.2.1 p1) (199 * (aI (G1.2.1 (F a 15)) (l4_12.toInt)) + l6_38.toInt + 99)) := hv74.trans (by rw [(t71 : Int32.toInt x71 = 199 * (aI (G1.2.1 (F a 15)) (l4_12.toInt)) + l6_38.toInt + 99), (((hF_38.2.1 _ (xn1 (xne_k hp1 hk9999a (by decide)) (xn1 (xne_k hp1 hk9999b (by decide)) xn0))).trans ((hF_12.2.1 _ (xn1 (xne_k hp1 hk9999a (by decide)) (xn1 (xne_k hp1 hk9999b (by decide)) xn0))).trans ((ld_c hG6).trans (hF1.2.1 _ (xn1 (xne_k hp1 hk9999 (by decide)) xn0))))) : G_38.2.1 p1 = G.2.1 p1)])
                  refine lv_aload_n hx hb dX11_findUnlike_75 rfl (lv_at hl 3 rfl) ?_
                  refine lv_iload hx hb dX11_findUnlike_76 (lv_at hl 5 rfl) ?_
                  refine lv_iload hx hb dX11_findUnlike_78 (lv_at hl 6 rfl) ?_
                  refine x_clp (x_runS (As := [.int x27, .int l6_38]) (rest := [.ref p2, .int x74]) S (c_X11_placeOf l E K F G_38 H x27 l6_38 (by rw [(hv27 : Int32.toInt x27 = (aI (G1.2.1 (F a 15)) (l4_12.toInt)))] <;> exact (z_X11_findUnlike_14 l6_38.toInt (aI (G.2.1 (F a 10)) (10 * (aI (G1.2.1 (F a 15)) (l4_12.toInt)) + 0)) (aI (G1.2.1 (F a 15)) (l4_12.toInt)) (sF (aI (G.2.1 (F a 10)) (10 * (aI (G1.2.1 (F a 15)) (l4_12.toInt)) + 0))) (sL (aI (G.2.1 (F a 10)) (10 * (aI (G1.2.1 (F a 15)) (l4_12.toInt)) + 0))) (z28).1 z30a I38_0 c46))) ms_X11_placeOf km_X11_186 rfl rfl ⟨Nat.le_of_ble_eq_true rfl, Nat.le_of_ble_eq_true rfl⟩ hK (fun _ => XPh.blind) (fun U hU hW => XPh.at hK hz hS hT hU hW) rfl hl.1 (Nat.le_of_ble_eq_true rfl) dX11_findUnlike_80 ⟨Nat.le_of_ble_eq_true rfl, Nat.le_of_ble_eq_true rfl⟩) hS ?_
                  rintro _ _ locs ⟨x80, rfl, t80⟩ hS
                  have t80 : x80.toInt = 199 * (aI (G1.2.1 (F a 15)) (l4_12.toInt)) + l6_38.toInt + 99 := by rw [(hv27 : Int32.toInt x27 = (aI (G1.2.1 (F a 15)) (l4_12.toInt)))] at t80; exact t80
                  refine al_0 S hK hT hp2 ar_38 (by decide) (by rw [(t80 : Int32.toInt x80 = 199 * (aI (G1.2.1 (F a 15)) (l4_12.toInt)) + l6_38.toInt + 99)]; exact (z_X11_findUnlike_15 l6_38.toInt (aI (G.2.1 (F a 10)) (10 * (aI (G1.2.1 (F a 15)) (l4_12.toInt)) + 0)) (aI (G1.2.1 (F a 15)) (l4_12.toInt)) (sF (aI (G.2.1 (F a 10)) (10 * (aI (G1.2.1 (F a 15)) (l4_12.toInt)) + 0))) (sL (aI (G.2.1 (F a 10)) (10 * (aI (G1.2.1 (F a 15)) (l4_12.toInt)) + 0))) (z28).1 z30a I38_0 c46)) dX11_findUnlike_83 (fun x83 hv83 o83 => ?_)
                  have hv83 : x83.toInt = (aI (G.2.1 p2) (199 * (aI (G1.2.1 (F a 15)) (l4_12.toInt)) + l6_38.toInt + 99)) := hv83.trans (by rw [(t80 : Int32.toInt x80 = 199 * (aI (G1.2.1 (F a 15)) (l4_12.toInt)) + l6_38.toInt + 99), (((hF_38.2.1 _ (xn1 (xne_k hp2 hk9999a (by decide)) (xn1 (xne_k hp2 hk9999b (by decide)) xn0))).trans ((hF_12.2.1 _ (xn1 (xne_k hp2 hk9999a (by decide)) (xn1 (xne_k hp2 hk9999b (by decide)) xn0))).trans ((ld_c hG6).trans (hF1.2.1 _ (xn1 (xne_k hp2 hk9999 (by decide)) xn0))))) : G_38.2.1 p2 = G.2.1 p2)])
                  refine xi_ceq (tgt := 119) hx hb (hv74 : Int32.toInt x74 = (aI (G.2.1 p1) (199 * (aI (G1.2.1 (F a 15)) (l4_12.toInt)) + l6_38.toInt + 99))) (hv83 : Int32.toInt x83 = (aI (G.2.1 p2) (199 * (aI (G1.2.1 (F a 15)) (l4_12.toInt)) + l6_38.toInt + 99))) dX11_findUnlike_84 (by decide) (fun c84 => ?_) (fun c84 => ?_)
                  · refine xi_iinc (n := 1) (lv' := fun z9 => [(6, .int z9), (0, .ref a), (1, .int p0), (2, .ref p1), (3, .ref p2), (4, .int l4_12), (5, .int x27)]) (k := 6) hx hb (rfl : Int32.toInt l6_38 = l6_38.toInt) (by decide) dX11_findUnlike_119 hl rfl (by decide) (fun _ => rfl) (fun x119 ls t119 hl => ?_)
                    have e119 : x119.toInt = (l6_38.toInt + 1) := (z_X11_findUnlike_18 l6_38.toInt x119.toInt (aI (G.2.1 (F a 10)) (10 * (aI (G1.2.1 (F a 15)) (l4_12.toInt)) + 0)) (sF (aI (G.2.1 (F a 10)) (10 * (aI (G1.2.1 (F a 15)) (l4_12.toInt)) + 0))) (sL (aI (G.2.1 (F a 10)) (10 * (aI (G1.2.1 (F a 15)) (l4_12.toInt)) + 0))) z30a c46 t119 (xr l6_38))
                    have hl : lv_has ls 7 [(6, .int x119), (0, .ref a), (1, .int p0), (2, .ref p1), (3, .ref p2), (4, .int l4_12), (5, .int x27)] := hl
                    refine lv_goto (tgt := 38) hx hb dX11_findUnlike_122 (by decide) ?_
                    exact ih38 x119 G_38 _ _ _ (XFr.call XFr.rf hF_38 (xm1 0 rfl xm0) (xm1 0 rfl (xm1 1 rfl xm0)) xm0) (by rw [(e119 : Int32.toInt x119 = (l6_38.toInt + 1))] <;> exact (v_X11_findUnlike_122_13 (K := K) (F := F) a p1 p2 G G1 G_12 G_38 r1 r2 p0 l4_12 x27 l6_38 N12 N38 ha hp1 hp2 h1 h2 oq1a hv27 pi lo z10 I12_0 I12_1 I12_2 hm12 c18 z28 z30 z30a I38_0 I38_1 I38_2 hm38 c46 c51 c63 c84)) (v_X11_findUnlike_122_14 G G_38 lo) (by rw [(e119 : Int32.toInt x119 = (l6_38.toInt + 1))] <;> exact (z_X11_findUnlike_19 l6_38.toInt (sF (aI (G.2.1 (F a 10)) (10 * (aI (G1.2.1 (F a 15)) (l4_12.toInt)) + 0))) (sL (aI (G.2.1 (F a 10)) (10 * (aI (G1.2.1 (F a 15)) (l4_12.toInt)) + 0))) I38_0 c46)) (by rw [(e119 : Int32.toInt x119 = (l6_38.toInt + 1))] <;> exact (z_X11_findUnlike_20 l4_12.toInt l6_38.toInt ((G_38.1 a 19).toInt) (sF (aI (G.2.1 (F a 10)) (10 * (aI (G1.2.1 (F a 15)) (l4_12.toInt)) + 0))) I38_1)) (by rw [(e119 : Int32.toInt x119 = (l6_38.toInt + 1))] <;> exact (z_X11_findUnlike_44 l6_38.toInt p0.toInt (aI (G.2.1 (F a 10)) (10 * (aI (G1.2.1 (F a 15)) (l4_12.toInt)) + 6)) (sF (aI (G.2.1 (F a 10)) (10 * (aI (G1.2.1 (F a 15)) (l4_12.toInt)) + 0))) c63)) (by rw [(e119 : Int32.toInt x119 = (l6_38.toInt + 1))] <;> exact (z_X11_findUnlike_13 l6_38.toInt N38 hm38)) hT hS (lv_sub hl [1, 2, 3, 4, 5, 6, 0] rfl)
                  · refine lv_aload_n hx hb dX11_findUnlike_87 rfl (lv_at hl 0 rfl) ?_
                    refine gX11_17 S hK hT ha kf_X11_51 dX11_findUnlike_88 (fun _ _ => ?_)
                    refine lv_aload_n hx hb dX11_findUnlike_91 rfl (lv_at hl 0 rfl) ?_
                    refine gX11_19 S hK hT ha kf_X11_203 dX11_findUnlike_92 (v := (G_38.1 a 19)) rfl (?_)
                    refine lv_iload hx hb dX11_findUnlike_95 (lv_at hl 5 rfl) ?_
                    refine as_0 (x := x27) S hK hT hS hk9999a ar_43 aw_43 (by decide) (z_X11_findUnlike_23 l4_12.toInt l6_38.toInt ((G1.1 a 16).toInt) ((G_38.1 a 19).toInt) (aI (G.2.1 (F a 10)) (10 * (aI (G1.2.1 (F a 15)) (l4_12.toInt)) + 0)) (sF (aI (G.2.1 (F a 10)) (10 * (aI (G1.2.1 (F a 15)) (l4_12.toInt)) + 0))) (sL (aI (G.2.1 (F a 10)) (10 * (aI (G1.2.1 (F a 15)) (l4_12.toInt)) + 0))) z10 c18 z30a I38_1 c46) dX11_findUnlike_97 (fun H locs hT hS => ?_)
                    obtain ⟨G97, hG97⟩ : ∃ GG : XG, GG = cput G_38 (F a 17) (G_38.1 a 19).toNatClampNeg x27 := ⟨_, rfl⟩
                    rw [← hG97] at hT
                    refine lv_aload_n hx hb dX11_findUnlike_98 rfl (lv_at hl 0 rfl) ?_
                    refine gX11_18 S hK hT ha kf_X11_54 dX11_findUnlike_99 (fun _ _ => ?_)
                    refine lv_aload_n hx hb dX11_findUnlike_102 rfl (lv_at hl 0 rfl) ?_
                    refine gX11_19 S hK hT ha kf_X11_203 dX11_findUnlike_103 (v := (G_38.1 a 19)) (lc_d hG97) (?_)
                    refine lv_iload hx hb dX11_findUnlike_106 (lv_at hl 6 rfl) ?_
                    refine as_0 (x := l6_38) S hK hT hS hk9999b ar_44 aw_44 (by decide) (z_X11_findUnlike_23 l4_12.toInt l6_38.toInt ((G1.1 a 16).toInt) ((G_38.1 a 19).toInt) (aI (G.2.1 (F a 10)) (10 * (aI (G1.2.1 (F a 15)) (l4_12.toInt)) + 0)) (sF (aI (G.2.1 (F a 10)) (10 * (aI (G1.2.1 (F a 15)) (l4_12.toInt)) + 0))) (sL (aI (G.2.1 (F a 10)) (10 * (aI (G1.2.1 (F a 15)) (l4_12.toInt)) + 0))) z10 c18 z30a I38_1 c46) dX11_findUnlike_108 (fun H locs hT hS => ?_)
                    obtain ⟨G108, hG108⟩ : ∃ GG : XG, GG = cput G97 (F a 18) (G_38.1 a 19).toNatClampNeg l6_38 := ⟨_, rfl⟩
                    rw [← hG108] at hT
                    refine lv_aload_n hx hb dX11_findUnlike_109 rfl (lv_at hl 0 rfl) ?_
                    refine lv_dup hx hb dX11_findUnlike_110 rfl ?_
                    refine gX11_19 S hK hT ha kf_X11_203 dX11_findUnlike_111 (v := (G_38.1 a 19)) ((lc_d hG108).trans (lc_d hG97)) (?_)
                    refine lv_iconst (v := 1) hx hb dX11_findUnlike_114 (by decide) ?_
                    refine xi_iadd hx hb (rfl : Int32.toInt (G_38.1 a 19) = ((G_38.1 a 19).toInt)) ((by decide) : Int32.toInt 1 = (1 : Int)) dX11_findUnlike_115 (fun x115 t115 => ?_)
                    have e115 : x115.toInt = (((G_38.1 a 19).toInt) + (1 : Int)) := (z_X11_findUnlike_25 l4_12.toInt l6_38.toInt x115.toInt ((G1.1 a 16).toInt) ((G_38.1 a 19).toInt) (aI (G.2.1 (F a 10)) (10 * (aI (G1.2.1 (F a 15)) (l4_12.toInt)) + 0)) (sF (aI (G.2.1 (F a 10)) (10 * (aI (G1.2.1 (F a 15)) (l4_12.toInt)) + 0))) (sL (aI (G.2.1 (F a 10)) (10 * (aI (G1.2.1 (F a 15)) (l4_12.toInt)) + 0))) z10 c18 z30a I38_1 c46 t115)
                    refine pX11_19 (v := x115) S hK hT hS ha kf_X11_203 dX11_findUnlike_116 (fun H locs hT hS => ?_)
                    obtain ⟨G116, hG116⟩ : ∃ GG : XG, GG = dput G108 a 19 x115 := ⟨_, rfl⟩
                    rw [← hG116] at hT
                    refine xi_iinc (n := 1) (lv' := fun z9 => [(6, .int z9), (0, .ref a), (1, .int p0), (2, .ref p1), (3, .ref p2), (4, .int l4_12), (5, .int x27)]) (k := 6) hx hb (rfl : Int32.toInt l6_38 = l6_38.toInt) (by decide) dX11_findUnlike_119 hl rfl (by decide) (fun _ => rfl) (fun x119 ls t119 hl => ?_)
                    have e119 : x119.toInt = (l6_38.toInt + 1) := (z_X11_findUnlike_18 l6_38.toInt x119.toInt (aI (G.2.1 (F a 10)) (10 * (aI (G1.2.1 (F a 15)) (l4_12.toInt)) + 0)) (sF (aI (G.2.1 (F a 10)) (10 * (aI (G1.2.1 (F a 15)) (l4_12.toInt)) + 0))) (sL (aI (G.2.1 (F a 10)) (10 * (aI (G1.2.1 (F a 15)) (l4_12.toInt)) + 0))) z30a c46 t119 (xr l6_38))
                    have hl : lv_has ls 7 [(6, .int x119), (0, .ref a), (1, .int p0), (2, .ref p1), (3, .ref p2), (4, .int l4_12), (5, .int x27)] := hl
                    refine lv_goto (tgt := 38) hx hb dX11_findUnlike_122 (by decide) ?_
                    exact ih38 x119 G116 _ _ _ (by rw [hG116]; exact XFr.dput (by rw [hG108]; exact XFr.cput (by rw [hG97]; exact XFr.cput (XFr.call XFr.rf hF_38 (xm1 0 rfl xm0) (xm1 0 rfl (xm1 1 rfl xm0)) xm0) (List.mem_of_getElem? (i := 0) rfl)) (List.mem_of_getElem? (i := 1) rfl)) (List.mem_of_getElem? (i := 0) rfl)) (by rw [(e119 : Int32.toInt x119 = (l6_38.toInt + 1))] <;> exact (v_X11_findUnlike_122_15 (K := K) (F := F) a p1 p2 G G1 G_12 G_38 G97 x27 G108 l6_38 G116 x115 r1 r2 p0 l4_12 N12 N38 ha hp1 hp2 hG97 hG108 h1 h2 oq1a hv27 pi lo e115 z10 I12_0 I12_1 I12_2 hm12 c18 z28 z30 z30a I38_0 I38_1 I38_2 hm38 c46 c51 c63 c84 ((ld_c hG116).trans (lc_c hG108 (xne_k hk9999a hk9999b (by decide)))) (ld_c hG116) (lc_c hG97 (xne_k hk9999b hk9999a (by decide))) (ld_at hG116))) (v_X11_findUnlike_122_16 (F := F) a G G_38 G97 x27 G108 l6_38 G116 x115 hG97 hG108 hG116 lo) (by rw [(e119 : Int32.toInt x119 = (l6_38.toInt + 1))] <;> exact (z_X11_findUnlike_19 l6_38.toInt (sF (aI (G.2.1 (F a 10)) (10 * (aI (G1.2.1 (F a 15)) (l4_12.toInt)) + 0))) (sL (aI (G.2.1 (F a 10)) (10 * (aI (G1.2.1 (F a 15)) (l4_12.toInt)) + 0))) I38_0 c46)) (by rw [(e119 : Int32.toInt x119 = (l6_38.toInt + 1)), (show (G116.1 a 19).toInt = (((G_38.1 a 19).toInt) + (1 : Int)) from (congrArg Int32.toInt (ld_at hG116)).trans (e115 : Int32.toInt x115 = (((G_38.1 a 19).toInt) + (1 : Int))))] <;> exact (z_X11_findUnlike_28 l4_12.toInt l6_38.toInt ((G_38.1 a 19).toInt) (sF (aI (G.2.1 (F a 10)) (10 * (aI (G1.2.1 (F a 15)) (l4_12.toInt)) + 0))) I38_1)) (by rw [(e119 : Int32.toInt x119 = (l6_38.toInt + 1))] <;> exact (z_X11_findUnlike_44 l6_38.toInt p0.toInt (aI (G.2.1 (F a 10)) (10 * (aI (G1.2.1 (F a 15)) (l4_12.toInt)) + 6)) (sF (aI (G.2.1 (F a 10)) (10 * (aI (G1.2.1 (F a 15)) (l4_12.toInt)) + 0))) c63)) (by rw [(e119 : Int32.toInt x119 = (l6_38.toInt + 1))] <;> exact (z_X11_findUnlike_13 l6_38.toInt N38 hm38)) hT hS (lv_sub hl [1, 2, 3, 4, 5, 6, 0] rfl)
        exact L38 4294967297 x33 G_12 _ _ _ XFr.rf (by rw [(t33 : Int32.toInt x33 = (sF (aI (G.2.1 (F a 10)) (10 * (aI (G1.2.1 (F a 15)) (l4_12.toInt)) + 0))))] <;> exact (v_X11_findUnlike_36_17 (F := F) a G G1 G_12 r1 r2 l4_12)) (v_X11_findUnlike_36_18 G G_12 lo) (by rw [(t33 : Int32.toInt x33 = (sF (aI (G.2.1 (F a 10)) (10 * (aI (G1.2.1 (F a 15)) (l4_12.toInt)) + 0))))] <;> exact (z_X11_findUnlike_54 (aI (G.2.1 (F a 10)) (10 * (aI (G1.2.1 (F a 15)) (l4_12.toInt)) + 0)) (sF (aI (G.2.1 (F a 10)) (10 * (aI (G1.2.1 (F a 15)) (l4_12.toInt)) + 0))) (sL (aI (G.2.1 (F a 10)) (10 * (aI (G1.2.1 (F a 15)) (l4_12.toInt)) + 0))) z30a)) (by rw [(t33 : Int32.toInt x33 = (sF (aI (G.2.1 (F a 10)) (10 * (aI (G1.2.1 (F a 15)) (l4_12.toInt)) + 0))))] <;> exact (z_X11_findUnlike_55 l4_12.toInt ((G_12.1 a 19).toInt) (sF (aI (G.2.1 (F a 10)) (10 * (aI (G1.2.1 (F a 15)) (l4_12.toInt)) + 0))) I12_1)) (by rw [(t33 : Int32.toInt x33 = (sF (aI (G.2.1 (F a 10)) (10 * (aI (G1.2.1 (F a 15)) (l4_12.toInt)) + 0))))] <;> exact (z_X11_findUnlike_56 p0.toInt (aI (G.2.1 (F a 10)) (10 * (aI (G1.2.1 (F a 15)) (l4_12.toInt)) + 6)) (sF (aI (G.2.1 (F a 10)) (10 * (aI (G1.2.1 (F a 15)) (l4_12.toInt)) + 0))))) (by rw [(t33 : Int32.toInt x33 = (sF (aI (G.2.1 (F a 10)) (10 * (aI (G1.2.1 (F a 15)) (l4_12.toInt)) + 0))))] <;> exact (z_X11_findUnlike_57 (aI (G.2.1 (F a 10)) (10 * (aI (G1.2.1 (F a 15)) (l4_12.toInt)) + 0)) (sF (aI (G.2.1 (F a 10)) (10 * (aI (G1.2.1 (F a 15)) (l4_12.toInt)) + 0))) (sL (aI (G.2.1 (F a 10)) (10 * (aI (G1.2.1 (F a 15)) (l4_12.toInt)) + 0))) z30a)) hT hS (lv_sub hl [2, 3, 4, 5, 6, 1, 0] rfl)
  exact L12 4294967297 0 G6 _ _ _ XFr.rf (v_X11_findUnlike_10_19 (F := F) a G G6 r1 r2 p0 (ld_at hG6)) (v_X11_findUnlike_10_20 a G G1 G6 hG6 oq1a) (z_X11_findUnlike_58 ((G1.1 a 16).toInt) z10) (by rw [(show (G6.1 a 19).toInt = (0 : Int) from (congrArg Int32.toInt (ld_at hG6)).trans ((by decide) : Int32.toInt 0 = (0 : Int)))] <;> exact (by decide)) (by decide) (by decide) hT hS (lv_sub hl [1, 2, 3, 4, 0] rfl)
/-! ===== lists of questions: what is gathered, which fails first ===== -/
/-- of one rule, if it is among those that are wanted (0: all, 1: late ones, else prompt ones) -/
noncomputable def gaq (G : XG) (r1 r2 : Int → Int) (w : Int) (o : Option Nat) : List Qt := match o with
  | none => []
  | some q => if w = 0 ∨ ((G.1 q 9).toInt = 1 ∧ w = 1) ∨ ((G.1 q 9).toInt = 0 ∧ w ≠ 1) then uqs r1 r2 (G.1 q) else []
noncomputable def gaL (G : XG) (f : Nat → Option Nat) (r1 r2 : Int → Int) (w : Int) : Nat → List Qt
  | 0 => []
  | n + 1 => gaL G f r1 r2 w n ++ gaq G r1 r2 w (f n)
theorem gaL_s (G : XG) (f : Nat → Option Nat) (r1 r2 : Int → Int) (w : Int) (n : Nat) : gaL G f r1 r2 w (n + 1) = gaL G f r1 r2 w n ++ gaq G r1 r2 w (f n) := rfl
theorem gaq_t {G : XG} {r1 r2 : Int → Int} {w : Int} {q : Nat} (h : w = 0 ∨ ((G.1 q 9).toInt = 1 ∧ w = 1) ∨ ((G.1 q 9).toInt = 0 ∧ w ≠ 1)) : gaq G r1 r2 w (some q) = uqs r1 r2 (G.1 q) := if_pos h
theorem gaq_f {G : XG} {r1 r2 : Int → Int} {w : Int} {q : Nat} (h : ¬ (w = 0 ∨ ((G.1 q 9).toInt = 1 ∧ w = 1) ∨ ((G.1 q 9).toInt = 0 ∧ w ≠ 1))) : gaq G r1 r2 w (some q) = [] := if_neg h
/-- the place of the first that fails, -1: none -/
def ffL : List Qt → Int
  | [] => -1
  | x :: l => if x.2.2.2.2.2 ≠ 0 then 0 else if ffL l = -1 then -1 else ffL l + 1
theorem ffL_ge : ∀ l : List Qt, -1 ≤ ffL l
  | [] => Int.le_refl _
  | x :: l => by
    have := ffL_ge l
    unfold ffL
    split
    · decide
    · split
      · decide
      · omega
theorem ffL_eq : ∀ (l : List Qt) (r : Int), (r = -1 ∨ (0 ≤ r ∧ ∃ x, l[r.toNat]? = some x ∧ x.2.2.2.2.2 ≠ 0)) → (∀ (j : Nat) (x : Qt), l[j]? = some x → (r = -1 ∨ (j : Int) < r) → x.2.2.2.2.2 = 0) → ffL l = r
  | [], r, h1, _ => by
    rcases h1 with h | ⟨_, x, h, _⟩
    · rw [h]; rfl
    · cases h
  | y :: l, r, h1, h2 => by
    unfold ffL
    rcases h1 with h | ⟨h0, x, hx, hf⟩
    · subst h
      have hy := h2 0 y rfl (Or.inl rfl)
      rw [if_neg (fun z => z hy), ffL_eq l (-1) (Or.inl rfl) (fun j x hj _ => h2 (j + 1) x hj (Or.inl rfl)), if_pos rfl]
    · by_cases e : r = 0
      · subst e
        cases hx
        rw [if_pos hf]
      · have hy := h2 0 y rfl (Or.inr (by omega))
        have hr : r.toNat = (r - 1).toNat + 1 := by omega
        rw [hr] at hx
        have ih := ffL_eq l (r - 1) (Or.inr ⟨by omega, x, hx, hf⟩) (fun j z hj hl => h2 (j + 1) z hj (Or.inr (by omega)))
        rw [if_neg (fun z => z hy), ih, if_neg (by omega)]
        omega
theorem ffL_no {l : List Qt} (h : ffL l = -1) : ∀ x, x ∈ l → x.2.2.2.2.2 = 0 := by
  induction l with
  | nil => intro x hx; cases hx
  | cons y l ih =>
    intro x hx
    unfold ffL at h
    split at h
    · omega
    · rename_i hy
      split at h
      · rename_i hl
        rcases List.mem_cons.mp hx with e | e
        · rw [e]; exact Classical.byContradiction hy
        · exact ih hl x e
      · have := ffL_ge l
        omega
theorem ffL_yes {l : List Qt} (h : ffL l ≠ -1) : ∃ x, x ∈ l ∧ x.2.2.2.2.2 ≠ 0 := by
  induction l with
  | nil => exact absurd rfl h
  | cons y l ih =>
    by_cases hy : y.2.2.2.2.2 ≠ 0
    · exact ⟨y, List.mem_cons_self, hy⟩
    · unfold ffL at h
      rw [if_neg hy] at h
      have hl : ffL l ≠ -1 := fun e => h (by rw [if_pos e])
      obtain ⟨x, hx, hf⟩ := ih hl
      exact ⟨x, List.mem_cons_of_mem _ hx, hf⟩
theorem qL_get {G : XG} {F : Nat → Nat → Nat} {a : Nat} {j : Nat} {x : Qt} (h : (qL G F a)[j]? = some x) : (j : Int) < (G.1 a 6).toInt ∧ x = qt (G.2.1 (F a 0)) (G.2.1 (F a 1)) (G.2.1 (F a 2)) (G.2.1 (F a 3)) (G.2.1 (F a 4)) (G.2.1 (F a 5)) j := by
  unfold qL at h
  have hl : j < (G.1 a 6).toInt.toNat := by
    apply Classical.byContradiction
    intro q
    rw [List.getElem?_eq_none (by rw [lst_len]; omega)] at h
    cases h
  rw [lst_get _ hl] at h
  exact ⟨by omega, (Option.some.inj h).symm⟩
theorem qL_at {G : XG} {F : Nat → Nat → Nat} {a : Nat} {z : Int} (h : 0 ≤ z ∧ z < (G.1 a 6).toInt) : (qL G F a)[z.toNat]? = some (qt (G.2.1 (F a 0)) (G.2.1 (F a 1)) (G.2.1 (F a 2)) (G.2.1 (F a 3)) (G.2.1 (F a 4)) (G.2.1 (F a 5)) z.toNat) := lst_get _ (by omega)
/-- what firstFailing tells, of the list -/
theorem ff_list {G : XG} {F : Nat → Nat → Nat} {a : Nat} {r : Int} (h1 : r = -1 ∨ (0 ≤ r ∧ r < (G.1 a 6).toInt ∧ aI (G.2.1 (F a 5)) r = 1)) (h2 : ∀ j : Int, 0 ≤ j → j < (G.1 a 6).toInt → (r = -1 ∨ j < r) → aI (G.2.1 (F a 5)) j = 0) : r = ffL (qL G F a) := by
  symm
  refine ffL_eq _ r ?_ (fun j x hj hr => ?_)
  · rcases h1 with h | ⟨a1, a2, a3⟩
    · exact Or.inl h
    · refine Or.inr ⟨a1, _, qL_at ⟨a1, a2⟩, ?_⟩
      show aI (G.2.1 (F a 5)) r ≠ 0
      rw [a3]; decide
  · obtain ⟨hj1, rfl⟩ := qL_get hj
    have := h2 (j : Int) (by omega) hj1 hr
    exact this
theorem aI_pz {G u : XG} {a : Nat} {i x : Int32} {I X : Int} {f : Nat → Int32} (h : u = cput G a i.toNatClampNeg x) (hg : G.2.1 a = f) (hi : i.toInt = I) (hx : x.toInt = X) (h0 : 0 ≤ I) : ∀ z : Int, 0 ≤ z → aI (u.2.1 a) z = if z = I then X else aI f z := by
  subst hi hx hg h
  exact fun z hz => aI_put h0 z hz
/-! counts, as the machine counts: modulo 2 to the 32nd -/
def AdI (y x k : Int) : Prop := (y - x - k) % 4294967296 = 0
theorem AdI.of {y x k : Int} (h : y - x = k) : AdI y x k := by
  unfold AdI
  omega
theorem AdI.tr {z y x k m : Int} (h : AdI y x k) (h2 : AdI z y m) : AdI z x (k + m) := by
  unfold AdI at *
  omega
theorem AdI.add {x : Int32} {y : Int32} {b : Int32} (h : y = x + b) : AdI y.toInt x.toInt b.toInt := by
  subst h
  unfold AdI
  rw [xadd]
  omega
theorem AdI.eq {y x k y2 x2 : Int} (h : AdI y x k) (h2 : AdI y2 x2 k) (e : x = x2) (b : -2147483648 ≤ y ∧ y < 2147483648) (b2 : -2147483648 ≤ y2 ∧ y2 < 2147483648) : y = y2 := by
  unfold AdI at *
  omega
theorem AdI.cg {y x k m : Int} (h : AdI y x k) (e : k = m) : AdI y x m := e ▸ h
/-- of a row of counts: what each grew by -/
def SF (f g : Nat → Int32) (k0 k1 k2 k3 : Int) : Prop := AdI (aI g 0) (aI f 0) k0 ∧ AdI (aI g 1) (aI f 1) k1 ∧ AdI (aI g 2) (aI f 2) k2 ∧ AdI (aI g 3) (aI f 3) k3
def SI (f g : Nat → Int32) (k0 k1 k2 k3 k4 k5 : Int) : Prop := AdI (aI g 0) (aI f 0) k0 ∧ AdI (aI g 1) (aI f 1) k1 ∧ AdI (aI g 2) (aI f 2) k2 ∧ AdI (aI g 3) (aI f 3) k3 ∧ AdI (aI g 4) (aI f 4) k4 ∧ AdI (aI g 5) (aI f 5) k5
theorem AdI.rf (x : Int) : AdI x x 0 := AdI.of (by omega)
theorem SF.rf (f : Nat → Int32) : SF f f 0 0 0 0 := ⟨AdI.rf _, AdI.rf _, AdI.rf _, AdI.rf _⟩
theorem SI.rf (f : Nat → Int32) : SI f f 0 0 0 0 0 0 := ⟨AdI.rf _, AdI.rf _, AdI.rf _, AdI.rf _, AdI.rf _, AdI.rf _⟩
theorem SF.tr {f g h : Nat → Int32} {a b c d a2 b2 c2 d2 : Int} (x : SF f g a b c d) (y : SF g h a2 b2 c2 d2) : SF f h (a + a2) (b + b2) (c + c2) (d + d2) := ⟨x.1.tr y.1, x.2.1.tr y.2.1, x.2.2.1.tr y.2.2.1, x.2.2.2.tr y.2.2.2⟩
theorem SI.tr {f g h : Nat → Int32} {a b c d e j a2 b2 c2 d2 e2 j2 : Int} (x : SI f g a b c d e j) (y : SI g h a2 b2 c2 d2 e2 j2) : SI f h (a + a2) (b + b2) (c + c2) (d + d2) (e + e2) (j + j2) := ⟨x.1.tr y.1, x.2.1.tr y.2.1, x.2.2.1.tr y.2.2.1, x.2.2.2.1.tr y.2.2.2.1, x.2.2.2.2.1.tr y.2.2.2.2.1, x.2.2.2.2.2.tr y.2.2.2.2.2⟩
theorem SF.cg {f g : Nat → Int32} {a b c d a2 b2 c2 d2 : Int} (x : SF f g a b c d) (h0 : a = a2) (h1 : b = b2) (h2 : c = c2) (h3 : d = d2) : SF f g a2 b2 c2 d2 := by
  subst h0 h1 h2 h3
  exact x
theorem SI.cg {f g : Nat → Int32} {a b c d e j a2 b2 c2 d2 e2 j2 : Int} (x : SI f g a b c d e j) (h0 : a = a2) (h1 : b = b2) (h2 : c = c2) (h3 : d = d2) (h4 : e = e2) (h5 : j = j2) : SI f g a2 b2 c2 d2 e2 j2 := by
  subst h0 h1 h2 h3 h4 h5
  exact x
/-- one cell more by b -/
theorem aI_inc {G u : XG} {a : Nat} {i x y b : Int32} {I : Int} {f : Nat → Int32} (h : u = cput G a i.toNatClampNeg y) (hg : G.2.1 a = f) (hi : i.toInt = I) (h0 : 0 ≤ I) (hx : x.toInt = aI f I) (hy : y = x + b) : ∀ z : Int, 0 ≤ z → AdI (aI (u.2.1 a) z) (aI f z) (if z = I then b.toInt else 0) := by
  intro z hz
  rw [aI_pz h hg hi rfl h0 z hz]
  by_cases e : z = I
  · rw [if_pos e, if_pos e, e, ← hx]
    exact AdI.add hy
  · rw [if_neg e, if_neg e]
    exact AdI.rf _
theorem SF.inc {G u : XG} {a : Nat} {i x y b : Int32} {I : Int} {f : Nat → Int32} (h : u = cput G a i.toNatClampNeg y) (hg : G.2.1 a = f) (hi : i.toInt = I) (h0 : 0 ≤ I) (hx : x.toInt = aI f I) (hy : y = x + b) : SF f (u.2.1 a) (if I = 0 then b.toInt else 0) (if I = 1 then b.toInt else 0) (if I = 2 then b.toInt else 0) (if I = 3 then b.toInt else 0) := by
  have k := aI_inc h hg hi h0 hx hy
  have e : ∀ z : Int, (if z = I then b.toInt else 0) = (if I = z then b.toInt else 0) := fun z => by
    by_cases q : z = I
    · rw [if_pos q, if_pos q.symm]
    · rw [if_neg q, if_neg (fun w => q w.symm)]
  exact ⟨(k 0 (by decide)).cg (e 0), (k 1 (by decide)).cg (e 1), (k 2 (by decide)).cg (e 2), (k 3 (by decide)).cg (e 3)⟩
theorem SI.inc {G u : XG} {a : Nat} {i x y b : Int32} {I : Int} {f : Nat → Int32} (h : u = cput G a i.toNatClampNeg y) (hg : G.2.1 a = f) (hi : i.toInt = I) (h0 : 0 ≤ I) (hx : x.toInt = aI f I) (hy : y = x + b) : SI f (u.2.1 a) (if I = 0 then b.toInt else 0) (if I = 1 then b.toInt else 0) (if I = 2 then b.toInt else 0) (if I = 3 then b.toInt else 0) (if I = 4 then b.toInt else 0) (if I = 5 then b.toInt else 0) := by
  have k := aI_inc h hg hi h0 hx hy
  have e : ∀ z : Int, (if z = I then b.toInt else 0) = (if I = z then b.toInt else 0) := fun z => by
    by_cases q : z = I
    · rw [if_pos q, if_pos q.symm]
    · rw [if_neg q, if_neg (fun w => q w.symm)]
  exact ⟨(k 0 (by decide)).cg (e 0), (k 1 (by decide)).cg (e 1), (k 2 (by decide)).cg (e 2), (k 3 (by decide)).cg (e 3), (k 4 (by decide)).cg (e 4), (k 5 (by decide)).cg (e 5)⟩
theorem SF.eq {f g f2 g2 : Nat → Int32} {a b c d : Int} (x : SF f g a b c d) (y : SF f2 g2 a b c d) (h : ∀ j : Int, 0 ≤ j → j < 4 → aI f j = aI f2 j) : ∀ j : Int, 0 ≤ j → j < 4 → aI g j = aI g2 j := by
  intro j h0 h1
  have hc : j = 0 ∨ j = 1 ∨ j = 2 ∨ j = 3 := by omega
  rcases hc with e | e | e | e <;> subst e
  · exact x.1.eq y.1 (h 0 h0 h1) (xrA _ _) (xrA _ _)
  · exact x.2.1.eq y.2.1 (h 1 h0 h1) (xrA _ _) (xrA _ _)
  · exact x.2.2.1.eq y.2.2.1 (h 2 h0 h1) (xrA _ _) (xrA _ _)
  · exact x.2.2.2.eq y.2.2.2 (h 3 h0 h1) (xrA _ _) (xrA _ _)
theorem SI.eq {f g f2 g2 : Nat → Int32} {a b c d e9 j9 : Int} (x : SI f g a b c d e9 j9) (y : SI f2 g2 a b c d e9 j9) (h : ∀ j : Int, 0 ≤ j → j < 6 → aI f j = aI f2 j) : ∀ j : Int, 0 ≤ j → j < 6 → aI g j = aI g2 j := by
  intro j h0 h1
  have hc : j = 0 ∨ j = 1 ∨ j = 2 ∨ j = 3 ∨ j = 4 ∨ j = 5 := by omega
  rcases hc with e | e | e | e | e | e <;> subst e
  · exact x.1.eq y.1 (h 0 h0 h1) (xrA _ _) (xrA _ _)
  · exact x.2.1.eq y.2.1 (h 1 h0 h1) (xrA _ _) (xrA _ _)
  · exact x.2.2.1.eq y.2.2.1 (h 2 h0 h1) (xrA _ _) (xrA _ _)
  · exact x.2.2.2.1.eq y.2.2.2.1 (h 3 h0 h1) (xrA _ _) (xrA _ _)
  · exact x.2.2.2.2.1.eq y.2.2.2.2.1 (h 4 h0 h1) (xrA _ _) (xrA _ _)
  · exact x.2.2.2.2.2.eq y.2.2.2.2.2 (h 5 h0 h1) (xrA _ _) (xrA _ _)
theorem SF.i0 {G u : XG} {a : Nat} {i x y : Int32} {f : Nat → Int32} (h : u = cput G a i.toNatClampNeg y) (hg : G.2.1 a = f) (hi : i.toInt = 0) (hx : x.toInt = aI f 0) (hy : y = x + 1) : SF f (u.2.1 a) 1 0 0 0 := (SF.inc h hg hi (by decide) hx hy).cg (by decide) (by decide) (by decide) (by decide)
theorem SF.i1 {G u : XG} {a : Nat} {i x y : Int32} {f : Nat → Int32} (h : u = cput G a i.toNatClampNeg y) (hg : G.2.1 a = f) (hi : i.toInt = 1) (hx : x.toInt = aI f 1) (hy : y = x + 1) : SF f (u.2.1 a) 0 1 0 0 := (SF.inc h hg hi (by decide) hx hy).cg (by decide) (by decide) (by decide) (by decide)
theorem SF.i2 {G u : XG} {a : Nat} {i x y : Int32} {f : Nat → Int32} (h : u = cput G a i.toNatClampNeg y) (hg : G.2.1 a = f) (hi : i.toInt = 2) (hx : x.toInt = aI f 2) (hy : y = x + 1) : SF f (u.2.1 a) 0 0 1 0 := (SF.inc h hg hi (by decide) hx hy).cg (by decide) (by decide) (by decide) (by decide)
theorem SF.i3 {G u : XG} {a : Nat} {i x y : Int32} {f : Nat → Int32} (h : u = cput G a i.toNatClampNeg y) (hg : G.2.1 a = f) (hi : i.toInt = 3) (hx : x.toInt = aI f 3) (hy : y = x + 1) : SF f (u.2.1 a) 0 0 0 1 := (SF.inc h hg hi (by decide) hx hy).cg (by decide) (by decide) (by decide) (by decide)
theorem SI.i0 {G u : XG} {a : Nat} {i x y : Int32} {f : Nat → Int32} (h : u = cput G a i.toNatClampNeg y) (hg : G.2.1 a = f) (hi : i.toInt = 0) (hx : x.toInt = aI f 0) (hy : y = x + 1) : SI f (u.2.1 a) 1 0 0 0 0 0 := (SI.inc h hg hi (by decide) hx hy).cg (by decide) (by decide) (by decide) (by decide) (by decide) (by decide)
theorem SI.i1 {G u : XG} {a : Nat} {i x y : Int32} {f : Nat → Int32} (h : u = cput G a i.toNatClampNeg y) (hg : G.2.1 a = f) (hi : i.toInt = 1) (hx : x.toInt = aI f 1) (hy : y = x + 1) : SI f (u.2.1 a) 0 1 0 0 0 0 := (SI.inc h hg hi (by decide) hx hy).cg (by decide) (by decide) (by decide) (by decide) (by decide) (by decide)
theorem SI.i2 {G u : XG} {a : Nat} {i x y : Int32} {f : Nat → Int32} (h : u = cput G a i.toNatClampNeg y) (hg : G.2.1 a = f) (hi : i.toInt = 2) (hx : x.toInt = aI f 2) (hy : y = x + 1) : SI f (u.2.1 a) 0 0 1 0 0 0 := (SI.inc h hg hi (by decide) hx hy).cg (by decide) (by decide) (by decide) (by decide) (by decide) (by decide)
theorem SI.i3 {G u : XG} {a : Nat} {i x y : Int32} {f : Nat → Int32} (h : u = cput G a i.toNatClampNeg y) (hg : G.2.1 a = f) (hi : i.toInt = 3) (hx : x.toInt = aI f 3) (hy : y = x + 1) : SI f (u.2.1 a) 0 0 0 1 0 0 := (SI.inc h hg hi (by decide) hx hy).cg (by decide) (by decide) (by decide) (by decide) (by decide) (by decide)
theorem SI.i4 {G u : XG} {a : Nat} {i x y : Int32} {f : Nat → Int32} (h : u = cput G a i.toNatClampNeg y) (hg : G.2.1 a = f) (hi : i.toInt = 4) (hx : x.toInt = aI f 4) (hy : y = x + 1) : SI f (u.2.1 a) 0 0 0 0 1 0 := (SI.inc h hg hi (by decide) hx hy).cg (by decide) (by decide) (by decide) (by decide) (by decide) (by decide)
theorem SI.i5 {G u : XG} {a : Nat} {i x y : Int32} {f : Nat → Int32} (h : u = cput G a i.toNatClampNeg y) (hg : G.2.1 a = f) (hi : i.toInt = 5) (hx : x.toInt = aI f 5) (hy : y = x + 1) : SI f (u.2.1 a) 0 0 0 0 0 1 := (SI.inc h hg hi (by decide) hx hy).cg (by decide) (by decide) (by decide) (by decide) (by decide) (by decide)
theorem SF.j0 {G u : XG} {a : Nat} {i x y b : Int32} {f : Nat → Int32} {z : Int} (h : u = cput G a i.toNatClampNeg y) (hg : G.2.1 a = f) (hi : i.toInt = 0) (hx : x.toInt = aI f 0) (hy : y = x + b) (hb : b.toInt = z) : SF f (u.2.1 a) z 0 0 0 := (SF.inc h hg hi (by decide) hx hy).cg ((if_pos rfl).trans hb) (if_neg (by decide)) (if_neg (by decide)) (if_neg (by decide))
theorem SI.j0 {G u : XG} {a : Nat} {i x y b : Int32} {f : Nat → Int32} {z : Int} (h : u = cput G a i.toNatClampNeg y) (hg : G.2.1 a = f) (hi : i.toInt = 0) (hx : x.toInt = aI f 0) (hy : y = x + b) (hb : b.toInt = z) : SI f (u.2.1 a) z 0 0 0 0 0 := (SI.inc h hg hi (by decide) hx hy).cg ((if_pos rfl).trans hb) (if_neg (by decide)) (if_neg (by decide)) (if_neg (by decide)) (if_neg (by decide)) (if_neg (by decide))
theorem SI.j5 {G u : XG} {a : Nat} {i x y b : Int32} {f : Nat → Int32} {z : Int} (h : u = cput G a i.toNatClampNeg y) (hg : G.2.1 a = f) (hi : i.toInt = 5) (hx : x.toInt = aI f 5) (hy : y = x + b) (hb : b.toInt = z) : SI f (u.2.1 a) 0 0 0 0 0 z := (SI.inc h hg hi (by decide) hx hy).cg (if_neg (by decide)) (if_neg (by decide)) (if_neg (by decide)) (if_neg (by decide)) (if_neg (by decide)) ((if_pos rfl).trans hb)
theorem v_X10_rowsAtMark_28_1 {K : Nat → Nat} (a : Nat) (p0 : Int32) (G : XG)
    (ha : K a = 12)
    (c1 : p0.toInt < 0) :
    p0.toInt < 0 ∨ ((G.1 a 17).toInt) ≤ p0.toInt ∨ 8 ≤ p0.toInt := by
  omega
theorem v_X10_rowsAtMark_28_2 {K : Nat → Nat} (a : Nat) (p0 : Int32) (G : XG)
    (ha : K a = 12)
    (c1 : ¬ (p0.toInt < 0))
    (c9 : ((G.1 a 17).toInt) ≤ p0.toInt) :
    p0.toInt < 0 ∨ ((G.1 a 17).toInt) ≤ p0.toInt ∨ 8 ≤ p0.toInt := by
  omega
theorem v_X10_rowsAtMark_28_3 {K : Nat → Nat} (a : Nat) (p0 : Int32) (G : XG)
    (ha : K a = 12)
    (c1 : ¬ (p0.toInt < 0))
    (c9 : ¬ (((G.1 a 17).toInt) ≤ p0.toInt))
    (c15 : (8 : Int) ≤ p0.toInt) :
    p0.toInt < 0 ∨ ((G.1 a 17).toInt) ≤ p0.toInt ∨ 8 ≤ p0.toInt := by
  omega
theorem v_X10_rowsAtMark_28_4 {F : Nat → Nat → Nat} (a : Nat) (q23 : Nat) (p0 : Int32) (G : XG)
    (hj23 : F q23 99 = 4 + (p0).toInt.toNat)
    (hR23 : G.2.2.1 (F a 7) (p0.toInt).toNat = some q23) :
    F q23 99 = 4 + (p0.toInt).toNat ∧ G.2.2.1 (F a 7) (p0.toInt).toNat = some q23 := by
  exact ⟨hj23, hR23⟩
theorem v_X10_gather_10_1 {F : Nat → Nat → Nat} (p1 : Nat) (p2 : Nat) (G : XG) (G1 : XG)
    (ro1 : RO (vw (G.2.1 (F p1 0))) (aI (G.2.1 (F p1 1))))
    (ro2 : RO (vw (G.2.1 (F p2 0))) (aI (G.2.1 (F p2 1))))
    (c_G1_F_p1_0 : G1.2.1 (F p1 0) = G.2.1 (F p1 0))
    (c_G1_F_p1_1 : G1.2.1 (F p1 1) = G.2.1 (F p1 1)) :
    RO (vw (G1.2.1 (F p1 0))) (aI (G1.2.1 (F p1 1))) := by simp only [c_G1_F_p1_0, c_G1_F_p1_1]; assumption
theorem v_X10_gather_10_2 {F : Nat → Nat → Nat} (p1 : Nat) (p2 : Nat) (G : XG) (G1 : XG)
    (ro1 : RO (vw (G.2.1 (F p1 0))) (aI (G.2.1 (F p1 1))))
    (ro2 : RO (vw (G.2.1 (F p2 0))) (aI (G.2.1 (F p2 1))))
    (c_G1_F_p2_0 : G1.2.1 (F p2 0) = G.2.1 (F p2 0))
    (c_G1_F_p2_1 : G1.2.1 (F p2 1) = G.2.1 (F p2 1)) :
    RO (vw (G1.2.1 (F p2 0))) (aI (G1.2.1 (F p2 1))) := by simp only [c_G1_F_p2_0, c_G1_F_p2_1]; assumption
theorem v_X10_gather_10_3 {F : Nat → Nat → Nat} (p1 : Nat)
    (j1 : F p1 99 < 12) :
    F p1 99 < 12 := by exact j1
theorem v_X10_gather_10_4 {F : Nat → Nat → Nat} (p2 : Nat)
    (j2 : F p2 99 < 12) :
    F p2 99 < 12 := by exact j2
theorem v_X10_gather_72_5 {K : Nat → Nat} {F : Nat → Nat → Nat} (a : Nat) (p0 : Nat) (p1 : Nat) (p2 : Nat) (G : XG) (G1 : XG) (G10 : XG) (G_16 : XG) (p3 : Int32) (l5_16 : Int32) (N16 : Nat)
    (ha : K a = 12)
    (hp0 : K p0 = 6)
    (hp1 : K p1 = 8)
    (hp2 : K p2 = 8)
    (j1 : F p1 99 < 12)
    (j2 : F p2 99 < 12)
    (oq10 : CH (vw (G.2.1 (F p1 0))) (vw (G.2.1 (F p2 0))) (aI (G10.2.1 (F (F a 11) 1))) (aI (G10.2.1 (F (F a 11) 0))))
    (pg : qL G_16 F p0 = gaL G (G.2.2.1 (F (F a 2) 1)) (vw (G.2.1 (F p1 0))) (vw (G.2.1 (F p2 0))) p3.toInt (l5_16.toInt).toNat)
    (sb : 0 ≤ ((G.1 (F a 2) 2).toInt) ∧ ((G.1 (F a 2) 2).toInt) ≤ 12)
    (t1 : ((G1.1 p0 6).toInt) = 0)
    (I16_0 : 0 ≤ l5_16.toInt ∧ l5_16.toInt ≤ ((G.1 (F a 2) 2).toInt))
    (I16_1 : 0 ≤ ((G_16.1 p0 6).toInt) ∧ ((G_16.1 p0 6).toInt) ≤ 90 * l5_16.toInt)
    (I16_2 : (0 : Int) ≤ l5_16.toInt)
    (hm16 : 2147483648 - l5_16.toInt < (((N16) + 1 : Nat) : Int))
    (c25 : ((G.1 (F a 2) 2).toInt) ≤ l5_16.toInt) :
    qL G_16 F p0 = gaL G (G.2.2.1 (F (F a 2) 1)) (vw (G.2.1 (F p1 0))) (vw (G.2.1 (F p2 0))) p3.toInt (((G.1 (F a 2) 2).toInt)).toNat := by
  rw [pg, show l5_16.toInt.toNat = ((G.1 (F a 2) 2).toInt).toNat from by omega]
theorem v_X10_gather_69_6 {K : Nat → Nat} {F : Nat → Nat → Nat} (a : Nat) (p0 : Nat) (p1 : Nat) (p2 : Nat) (G : XG) (G1 : XG) (G10 : XG) (G_16 : XG) (p3 : Int32) (l5_16 : Int32) (N16 : Nat)
    (ha : K a = 12)
    (hp0 : K p0 = 6)
    (hp1 : K p1 = 8)
    (hp2 : K p2 = 8)
    (j1 : F p1 99 < 12)
    (j2 : F p2 99 < 12)
    (oq10 : CH (vw (G.2.1 (F p1 0))) (vw (G.2.1 (F p2 0))) (aI (G10.2.1 (F (F a 11) 1))) (aI (G10.2.1 (F (F a 11) 0))))
    (pg : qL G_16 F p0 = gaL G (G.2.2.1 (F (F a 2) 1)) (vw (G.2.1 (F p1 0))) (vw (G.2.1 (F p2 0))) p3.toInt (l5_16.toInt).toNat)
    (hn34 : (l5_16.toInt < 0 ∨ ((G_16.1 (F a 2) 2).toInt) ≤ l5_16.toInt ∨ 12 ≤ l5_16.toInt) ∨ G_16.2.2.1 (F (F a 2) 1) (l5_16.toInt).toNat = none)
    (sb : 0 ≤ ((G.1 (F a 2) 2).toInt) ∧ ((G.1 (F a 2) 2).toInt) ≤ 12)
    (t1 : ((G1.1 p0 6).toInt) = 0)
    (I16_0 : 0 ≤ l5_16.toInt ∧ l5_16.toInt ≤ ((G.1 (F a 2) 2).toInt))
    (I16_1 : 0 ≤ ((G_16.1 p0 6).toInt) ∧ ((G_16.1 p0 6).toInt) ≤ 90 * l5_16.toInt)
    (I16_2 : (0 : Int) ≤ l5_16.toInt)
    (hm16 : 2147483648 - l5_16.toInt < (((N16) + 1 : Nat) : Int))
    (c25 : ¬ (((G.1 (F a 2) 2).toInt) ≤ l5_16.toInt))
    (r_G_16_F_F_a_2_1 : G_16.2.2.1 (F (F a 2) 1) = G.2.2.1 (F (F a 2) 1))
    (d_G_16_F_a_2_2 : G_16.1 (F a 2) 2 = G.1 (F a 2) 2) :
    qL G_16 F p0 = gaL G (G.2.2.1 (F (F a 2) 1)) (vw (G.2.1 (F p1 0))) (vw (G.2.1 (F p2 0))) p3.toInt (l5_16.toInt + 1).toNat := by
  have e : (l5_16.toInt + 1).toNat = l5_16.toInt.toNat + 1 := by omega
  rw [e, gaL_s, ← pg]
  first
    | (rw [d_G_16_F_a_2_2] at hn34
       rcases hn34 with h | h
       · exfalso; omega
       · rw [r_G_16_F_F_a_2_1] at h
         rw [h]
         exact (List.append_nil _).symm)
    | (rw [r_G_16_F_F_a_2_1] at hs34
       rw [hs34]
       first
         | rw [gaq_f (by omega), List.append_nil]
         | rw [gaq_t (by omega), oq63, D_G_16_q34])
theorem v_X10_gather_69_7 {K : Nat → Nat} {F : Nat → Nat → Nat} (a : Nat) (p0 : Nat) (p1 : Nat) (p2 : Nat) (q34 : Nat) (G : XG) (G1 : XG) (G10 : XG) (G_16 : XG) (p3 : Int32) (l5_16 : Int32) (N16 : Nat) (x48 : Int32)
    (ha : K a = 12)
    (hp0 : K p0 = 6)
    (hp1 : K p1 = 8)
    (hp2 : K p2 = 8)
    (j1 : F p1 99 < 12)
    (j2 : F p2 99 < 12)
    (oq10 : CH (vw (G.2.1 (F p1 0))) (vw (G.2.1 (F p2 0))) (aI (G10.2.1 (F (F a 11) 1))) (aI (G10.2.1 (F (F a 11) 0))))
    (pg : qL G_16 F p0 = gaL G (G.2.2.1 (F (F a 2) 1)) (vw (G.2.1 (F p1 0))) (vw (G.2.1 (F p2 0))) p3.toInt (l5_16.toInt).toNat)
    (hs34 : G_16.2.2.1 (F (F a 2) 1) (l5_16.toInt).toNat = some q34)
    (sb : 0 ≤ ((G.1 (F a 2) 2).toInt) ∧ ((G.1 (F a 2) 2).toInt) ≤ 12)
    (t1 : ((G1.1 p0 6).toInt) = 0)
    (I16_0 : 0 ≤ l5_16.toInt ∧ l5_16.toInt ≤ ((G.1 (F a 2) 2).toInt))
    (I16_1 : 0 ≤ ((G_16.1 p0 6).toInt) ∧ ((G_16.1 p0 6).toInt) ≤ 90 * l5_16.toInt)
    (I16_2 : (0 : Int) ≤ l5_16.toInt)
    (hm16 : 2147483648 - l5_16.toInt < (((N16) + 1 : Nat) : Int))
    (c25 : ¬ (((G.1 (F a 2) 2).toInt) ≤ l5_16.toInt))
    (ht34 : 0 ≤ l5_16.toInt ∧ l5_16.toInt < ((G.1 (F a 2) 2).toInt) ∧ l5_16.toInt < 12)
    (t48 : ((p3.toInt = 0 ∨ (((G.1 q34 9).toInt) = 1 ∧ p3.toInt = 1) ∨ (((G.1 q34 9).toInt) = 0 ∧ p3.toInt ≠ 1)) ∧ x48.toInt = 1) ∨ ((¬ (p3.toInt = 0 ∨ (((G.1 q34 9).toInt) = 1 ∧ p3.toInt = 1) ∨ (((G.1 q34 9).toInt) = 0 ∧ p3.toInt ≠ 1))) ∧ x48.toInt = 0))
    (c51 : x48.toInt = 0)
    (r_G_16_F_F_a_2_1 : G_16.2.2.1 (F (F a 2) 1) = G.2.2.1 (F (F a 2) 1)) :
    qL G_16 F p0 = gaL G (G.2.2.1 (F (F a 2) 1)) (vw (G.2.1 (F p1 0))) (vw (G.2.1 (F p2 0))) p3.toInt (l5_16.toInt + 1).toNat := by
  have e : (l5_16.toInt + 1).toNat = l5_16.toInt.toNat + 1 := by omega
  rw [e, gaL_s, ← pg]
  first
    | (rw [d_G_16_F_a_2_2] at hn34
       rcases hn34 with h | h
       · exfalso; omega
       · rw [r_G_16_F_F_a_2_1] at h
         rw [h]
         exact (List.append_nil _).symm)
    | (rw [r_G_16_F_F_a_2_1] at hs34
       rw [hs34]
       first
         | rw [gaq_f (by omega), List.append_nil]
         | rw [gaq_t (by omega), oq63, D_G_16_q34])
theorem v_X10_gather_63_8 {F : Nat → Nat → Nat} (p1 : Nat) (p2 : Nat) (G : XG) (G_16 : XG)
    (ro1 : RO (vw (G.2.1 (F p1 0))) (aI (G.2.1 (F p1 1))))
    (ro2 : RO (vw (G.2.1 (F p2 0))) (aI (G.2.1 (F p2 1))))
    (c_G_16_F_p1_0 : G_16.2.1 (F p1 0) = G.2.1 (F p1 0))
    (c_G_16_F_p1_1 : G_16.2.1 (F p1 1) = G.2.1 (F p1 1)) :
    RO (vw (G_16.2.1 (F p1 0))) (aI (G_16.2.1 (F p1 1))) := by simp only [c_G_16_F_p1_0, c_G_16_F_p1_1]; assumption
theorem v_X10_gather_63_9 {F : Nat → Nat → Nat} (p1 : Nat) (p2 : Nat) (G : XG) (G_16 : XG)
    (ro1 : RO (vw (G.2.1 (F p1 0))) (aI (G.2.1 (F p1 1))))
    (ro2 : RO (vw (G.2.1 (F p2 0))) (aI (G.2.1 (F p2 1))))
    (c_G_16_F_p2_0 : G_16.2.1 (F p2 0) = G.2.1 (F p2 0))
    (c_G_16_F_p2_1 : G_16.2.1 (F p2 1) = G.2.1 (F p2 1)) :
    RO (vw (G_16.2.1 (F p2 0))) (aI (G_16.2.1 (F p2 1))) := by simp only [c_G_16_F_p2_0, c_G_16_F_p2_1]; assumption
theorem v_X10_gather_63_10 {K : Nat → Nat} {F : Nat → Nat → Nat} (a : Nat) (p0 : Nat) (p1 : Nat) (p2 : Nat) (q34 : Nat) (G : XG) (G1 : XG) (G10 : XG) (G_16 : XG) (p3 : Int32) (l5_16 : Int32) (N16 : Nat) (x48 : Int32)
    (ha : K a = 12)
    (hp0 : K p0 = 6)
    (hp1 : K p1 = 8)
    (hp2 : K p2 = 8)
    (hbk : ∀ (i q : Nat), i < 12 → G.2.2.1 (F (F a 2) 1) i = some q → RW (G.1 q))
    (j1 : F p1 99 < 12)
    (j2 : F p2 99 < 12)
    (oq10 : CH (vw (G.2.1 (F p1 0))) (vw (G.2.1 (F p2 0))) (aI (G10.2.1 (F (F a 11) 1))) (aI (G10.2.1 (F (F a 11) 0))))
    (hs34 : G_16.2.2.1 (F (F a 2) 1) (l5_16.toInt).toNat = some q34)
    (sb : 0 ≤ ((G.1 (F a 2) 2).toInt) ∧ ((G.1 (F a 2) 2).toInt) ≤ 12)
    (t1 : ((G1.1 p0 6).toInt) = 0)
    (I16_0 : 0 ≤ l5_16.toInt ∧ l5_16.toInt ≤ ((G.1 (F a 2) 2).toInt))
    (I16_1 : 0 ≤ ((G_16.1 p0 6).toInt) ∧ ((G_16.1 p0 6).toInt) ≤ 90 * l5_16.toInt)
    (I16_2 : (0 : Int) ≤ l5_16.toInt)
    (hm16 : 2147483648 - l5_16.toInt < (((N16) + 1 : Nat) : Int))
    (c25 : ¬ (((G.1 (F a 2) 2).toInt) ≤ l5_16.toInt))
    (ht34 : 0 ≤ l5_16.toInt ∧ l5_16.toInt < ((G.1 (F a 2) 2).toInt) ∧ l5_16.toInt < 12)
    (t48 : ((p3.toInt = 0 ∨ (((G.1 q34 9).toInt) = 1 ∧ p3.toInt = 1) ∨ (((G.1 q34 9).toInt) = 0 ∧ p3.toInt ≠ 1)) ∧ x48.toInt = 1) ∨ ((¬ (p3.toInt = 0 ∨ (((G.1 q34 9).toInt) = 1 ∧ p3.toInt = 1) ∨ (((G.1 q34 9).toInt) = 0 ∧ p3.toInt ≠ 1))) ∧ x48.toInt = 0))
    (c51 : ¬ (x48.toInt = 0))
    (r_G_16_F_F_a_2_1 : G_16.2.2.1 (F (F a 2) 1) = G.2.2.1 (F (F a 2) 1))
    (D_G_16_q34 : G_16.1 q34 = G.1 q34) :
    RW (G_16.1 q34) := by
  rw [D_G_16_q34]; exact hbk l5_16.toInt.toNat q34 (by omega) (by rw [← r_G_16_F_F_a_2_1]; exact hs34)
theorem v_X10_gather_63_11 {K : Nat → Nat} {F : Nat → Nat → Nat} (a : Nat) (p0 : Nat) (p1 : Nat) (p2 : Nat) (q34 : Nat) (G : XG) (G1 : XG) (G10 : XG) (G_16 : XG) (p3 : Int32) (l5_16 : Int32) (x22 : Int32) (N16 : Nat) (x48 : Int32)
    (ha : K a = 12)
    (hp0 : K p0 = 6)
    (hp1 : K p1 = 8)
    (hp2 : K p2 = 8)
    (hk9999 : K (F a 11) = 3)
    (hj9999 : F (F a 11) 99 = 0)
    (hk9999a : K (F (F a 11) 0) = 21)
    (hj9999a : F (F (F a 11) 0) 99 = 100)
    (hk9999b : K (F (F a 11) 1) = 21)
    (hj9999b : F (F (F a 11) 1) 99 = 101)
    (hk9999c : K (F (F a 11) 2) = 24)
    (hj9999c : F (F (F a 11) 2) 99 = 4)
    (hk9999d : K (F p0 0) = 22)
    (hj9999d : F (F p0 0) 99 = 10 * F p0 99 + 0)
    (hk9999e : K (F p0 1) = 22)
    (hj9999e : F (F p0 1) 99 = 10 * F p0 99 + 1)
    (hk9999f : K (F p0 2) = 22)
    (hj9999f : F (F p0 2) 99 = 10 * F p0 99 + 2)
    (hk9999g : K (F p0 3) = 22)
    (hj9999g : F (F p0 3) 99 = 10 * F p0 99 + 3)
    (hk9999h : K (F p0 4) = 23)
    (hj9999h : F (F p0 4) 99 = 10 * F p0 99 + 4)
    (hk9999i : K (F p0 5) = 23)
    (hj9999i : F (F p0 5) 99 = 10 * F p0 99 + 5)
    (hk9999j : K (F a 2) = 2)
    (hj9999j : F (F a 2) 99 = 0)
    (hk9999k : K (F (F a 2) 1) = 15)
    (hj9999k : F (F (F a 2) 1) 99 = 1)
    (hk9999l : K (F p1 0) = 20)
    (hj9999l : F (F p1 0) 99 = F p1 99)
    (hk9999m : K (F p1 1) = 21)
    (hj9999m : F (F p1 1) 99 = F p1 99)
    (hk9999n : K (F p2 0) = 20)
    (hj9999n : F (F p2 0) 99 = F p2 99)
    (hk9999o : K (F p2 1) = 21)
    (hj9999o : F (F p2 1) 99 = F p2 99)
    (hk34 : K q34 = 9)
    (hF1 : XFr [(p0, 6)] [] [] G G1)
    (hF10 : XFr [] [F (F a 11) 0, F (F a 11) 1] [] G1 G10)
    (hF_16 : XFr [(F a 11, 3), (p0, 6)] [F (F a 11) 2, F p0 0, F p0 1, F p0 2, F p0 3, F p0 4, F p0 5] [] G10 G_16)
    (ro1 : RO (vw (G.2.1 (F p1 0))) (aI (G.2.1 (F p1 1))))
    (ro2 : RO (vw (G.2.1 (F p2 0))) (aI (G.2.1 (F p2 1))))
    (hbk : ∀ (i q : Nat), i < 12 → G.2.2.1 (F (F a 2) 1) i = some q → RW (G.1 q))
    (j1 : F p1 99 < 12)
    (j2 : F p2 99 < 12)
    (oq10 : CH (vw (G.2.1 (F p1 0))) (vw (G.2.1 (F p2 0))) (aI (G10.2.1 (F (F a 11) 1))) (aI (G10.2.1 (F (F a 11) 0))))
    (pg : qL G_16 F p0 = gaL G (G.2.2.1 (F (F a 2) 1)) (vw (G.2.1 (F p1 0))) (vw (G.2.1 (F p2 0))) p3.toInt (l5_16.toInt).toNat)
    (t22 : x22.toInt = ((G.1 (F a 2) 2).toInt))
    (hs34 : G_16.2.2.1 (F (F a 2) 1) (l5_16.toInt).toNat = some q34)
    (sb : 0 ≤ ((G.1 (F a 2) 2).toInt) ∧ ((G.1 (F a 2) 2).toInt) ≤ 12)
    (t1 : ((G1.1 p0 6).toInt) = 0)
    (I16_0 : 0 ≤ l5_16.toInt ∧ l5_16.toInt ≤ ((G.1 (F a 2) 2).toInt))
    (I16_1 : 0 ≤ ((G_16.1 p0 6).toInt) ∧ ((G_16.1 p0 6).toInt) ≤ 90 * l5_16.toInt)
    (I16_2 : (0 : Int) ≤ l5_16.toInt)
    (hm16 : 2147483648 - l5_16.toInt < (((N16) + 1 : Nat) : Int))
    (c25 : ¬ (((G.1 (F a 2) 2).toInt) ≤ l5_16.toInt))
    (ht34 : 0 ≤ l5_16.toInt ∧ l5_16.toInt < ((G.1 (F a 2) 2).toInt) ∧ l5_16.toInt < 12)
    (t48 : ((p3.toInt = 0 ∨ (((G.1 q34 9).toInt) = 1 ∧ p3.toInt = 1) ∨ (((G.1 q34 9).toInt) = 0 ∧ p3.toInt ≠ 1)) ∧ x48.toInt = 1) ∨ ((¬ (p3.toInt = 0 ∨ (((G.1 q34 9).toInt) = 1 ∧ p3.toInt = 1) ∨ (((G.1 q34 9).toInt) = 0 ∧ p3.toInt ≠ 1))) ∧ x48.toInt = 0))
    (c51 : ¬ (x48.toInt = 0))
    (c_G_16_F_F_a_11_0 : G_16.2.1 (F (F a 11) 0) = G10.2.1 (F (F a 11) 0))
    (c_G_16_F_F_a_11_1 : G_16.2.1 (F (F a 11) 1) = G10.2.1 (F (F a 11) 1))
    (c_G_16_F_p1_0 : G_16.2.1 (F p1 0) = G.2.1 (F p1 0))
    (c_G_16_F_p2_0 : G_16.2.1 (F p2 0) = G.2.1 (F p2 0))
    (r_G_16_F_F_a_2_1 : G_16.2.2.1 (F (F a 2) 1) = G.2.2.1 (F (F a 2) 1)) :
    CH (vw (G_16.2.1 (F p1 0))) (vw (G_16.2.1 (F p2 0))) (aI (G_16.2.1 (F (F a 11) 1))) (aI (G_16.2.1 (F (F a 11) 0))) := by
  first | assumption | omega | (simp only [c_G_16_F_F_a_11_0, c_G_16_F_F_a_11_1, c_G_16_F_p1_0, c_G_16_F_p2_0]; assumption)
theorem v_X10_gather_69_12 {K : Nat → Nat} {F : Nat → Nat → Nat} (a : Nat) (p0 : Nat) (p1 : Nat) (p2 : Nat) (q34 : Nat) (G : XG) (G1 : XG) (G10 : XG) (G_16 : XG) (G63 : XG) (p3 : Int32) (l5_16 : Int32) (N16 : Nat) (x48 : Int32)
    (ha : K a = 12)
    (hp0 : K p0 = 6)
    (hp1 : K p1 = 8)
    (hp2 : K p2 = 8)
    (j1 : F p1 99 < 12)
    (j2 : F p2 99 < 12)
    (oq10 : CH (vw (G.2.1 (F p1 0))) (vw (G.2.1 (F p2 0))) (aI (G10.2.1 (F (F a 11) 1))) (aI (G10.2.1 (F (F a 11) 0))))
    (pg : qL G_16 F p0 = gaL G (G.2.2.1 (F (F a 2) 1)) (vw (G.2.1 (F p1 0))) (vw (G.2.1 (F p2 0))) p3.toInt (l5_16.toInt).toNat)
    (hs34 : G_16.2.2.1 (F (F a 2) 1) (l5_16.toInt).toNat = some q34)
    (oq63 : qL G63 F p0 = qL G_16 F p0 ++ uqs (vw (G.2.1 (F p1 0))) (vw (G.2.1 (F p2 0))) (G_16.1 q34))
    (sb : 0 ≤ ((G.1 (F a 2) 2).toInt) ∧ ((G.1 (F a 2) 2).toInt) ≤ 12)
    (t1 : ((G1.1 p0 6).toInt) = 0)
    (I16_0 : 0 ≤ l5_16.toInt ∧ l5_16.toInt ≤ ((G.1 (F a 2) 2).toInt))
    (I16_1 : 0 ≤ ((G_16.1 p0 6).toInt) ∧ ((G_16.1 p0 6).toInt) ≤ 90 * l5_16.toInt)
    (I16_2 : (0 : Int) ≤ l5_16.toInt)
    (hm16 : 2147483648 - l5_16.toInt < (((N16) + 1 : Nat) : Int))
    (c25 : ¬ (((G.1 (F a 2) 2).toInt) ≤ l5_16.toInt))
    (ht34 : 0 ≤ l5_16.toInt ∧ l5_16.toInt < ((G.1 (F a 2) 2).toInt) ∧ l5_16.toInt < 12)
    (t48 : ((p3.toInt = 0 ∨ (((G.1 q34 9).toInt) = 1 ∧ p3.toInt = 1) ∨ (((G.1 q34 9).toInt) = 0 ∧ p3.toInt ≠ 1)) ∧ x48.toInt = 1) ∨ ((¬ (p3.toInt = 0 ∨ (((G.1 q34 9).toInt) = 1 ∧ p3.toInt = 1) ∨ (((G.1 q34 9).toInt) = 0 ∧ p3.toInt ≠ 1))) ∧ x48.toInt = 0))
    (c51 : ¬ (x48.toInt = 0))
    (t63 : ((G_16.1 p0 6).toInt) ≤ ((G63.1 p0 6).toInt) ∧ ((G63.1 p0 6).toInt) ≤ ((G_16.1 p0 6).toInt) + 90)
    (r_G_16_F_F_a_2_1 : G_16.2.2.1 (F (F a 2) 1) = G.2.2.1 (F (F a 2) 1))
    (D_G_16_q34 : G_16.1 q34 = G.1 q34) :
    qL G63 F p0 = gaL G (G.2.2.1 (F (F a 2) 1)) (vw (G.2.1 (F p1 0))) (vw (G.2.1 (F p2 0))) p3.toInt (l5_16.toInt + 1).toNat := by
  have e : (l5_16.toInt + 1).toNat = l5_16.toInt.toNat + 1 := by omega
  rw [e, gaL_s, ← pg]
  first
    | (rw [d_G_16_F_a_2_2] at hn34
       rcases hn34 with h | h
       · exfalso; omega
       · rw [r_G_16_F_F_a_2_1] at h
         rw [h]
         exact (List.append_nil _).symm)
    | (rw [r_G_16_F_F_a_2_1] at hs34
       rw [hs34]
       first
         | rw [gaq_f (by omega), List.append_nil]
         | rw [gaq_t (by omega), oq63, D_G_16_q34])
theorem v_X10_gather_14_13 {F : Nat → Nat → Nat} (a : Nat) (p0 : Nat) (p1 : Nat) (p2 : Nat) (G : XG) (G1 : XG) (G10 : XG) (p3 : Int32)
    (t1 : ((G1.1 p0 6).toInt) = 0)
    (d_G10_p0_6 : G10.1 p0 6 = G1.1 p0 6) :
    qL G10 F p0 = gaL G (G.2.2.1 (F (F a 2) 1)) (vw (G.2.1 (F p1 0))) (vw (G.2.1 (F p2 0))) p3.toInt (0 : Int).toNat := by
  show lst _ (G10.1 p0 6).toInt.toNat = []
  rw [d_G10_p0_6, t1]
  rfl
theorem v_X10_firstFailingOf_19_1 {F : Nat → Nat → Nat} (a : Nat) (G : XG) (G4 : XG)
    (ro1 : RO (vw (G.2.1 (F (F a 6) 0))) (aI (G.2.1 (F (F a 6) 1))))
    (ro2 : RO (vw (G.2.1 (F (F a 3) 0))) (aI (G.2.1 (F (F a 3) 1))))
    (c_G4_F_F_a_6_0 : G4.2.1 (F (F a 6) 0) = G.2.1 (F (F a 6) 0))
    (c_G4_F_F_a_6_1 : G4.2.1 (F (F a 6) 1) = G.2.1 (F (F a 6) 1)) :
    RO (vw (G4.2.1 (F (F a 6) 0))) (aI (G4.2.1 (F (F a 6) 1))) := by simp only [c_G4_F_F_a_6_0, c_G4_F_F_a_6_1]; assumption
theorem v_X10_firstFailingOf_19_2 {F : Nat → Nat → Nat} (a : Nat) (G : XG) (G4 : XG)
    (ro1 : RO (vw (G.2.1 (F (F a 6) 0))) (aI (G.2.1 (F (F a 6) 1))))
    (ro2 : RO (vw (G.2.1 (F (F a 3) 0))) (aI (G.2.1 (F (F a 3) 1))))
    (c_G4_F_F_a_3_0 : G4.2.1 (F (F a 3) 0) = G.2.1 (F (F a 3) 0))
    (c_G4_F_F_a_3_1 : G4.2.1 (F (F a 3) 1) = G.2.1 (F (F a 3) 1)) :
    RO (vw (G4.2.1 (F (F a 3) 0))) (aI (G4.2.1 (F (F a 3) 1))) := by simp only [c_G4_F_F_a_3_0, c_G4_F_F_a_3_1]; assumption
theorem v_X10_firstFailingOf_19_3 {K : Nat → Nat} {F : Nat → Nat → Nat} (a : Nat) (p0 : Nat) (G : XG) (G4 : XG)
    (ha : K a = 12)
    (hp0 : K p0 = 9)
    (hk9999 : K (F a 11) = 3)
    (hj9999 : F (F a 11) 99 = 0)
    (hk9999a : K (F a 9) = 6)
    (hj9999a : F (F a 9) 99 = 1)
    (hk9999b : K (F (F a 11) 0) = 21)
    (hj9999b : F (F (F a 11) 0) 99 = 100)
    (hk9999c : K (F (F a 11) 1) = 21)
    (hj9999c : F (F (F a 11) 1) 99 = 101)
    (hk9999d : K (F (F a 11) 2) = 24)
    (hj9999d : F (F (F a 11) 2) 99 = 4)
    (hk9999e : K (F (F a 9) 0) = 22)
    (hj9999f : F (F (F a 9) 0) 99 = 10 * 1 + 0)
    (hk9999f : K (F (F a 9) 1) = 22)
    (hj9999h : F (F (F a 9) 1) 99 = 10 * 1 + 1)
    (hk9999g : K (F (F a 9) 2) = 22)
    (hj9999j : F (F (F a 9) 2) 99 = 10 * 1 + 2)
    (hk9999h : K (F (F a 9) 3) = 22)
    (hj9999l : F (F (F a 9) 3) 99 = 10 * 1 + 3)
    (hk9999i : K (F (F a 9) 4) = 23)
    (hj9999n : F (F (F a 9) 4) 99 = 10 * 1 + 4)
    (hk9999j : K (F (F a 9) 5) = 23)
    (hj9999p : F (F (F a 9) 5) 99 = 10 * 1 + 5)
    (hk9999k : K (F a 6) = 8)
    (hj9999q : F (F a 6) 99 = 3)
    (hk9999l : K (F (F a 6) 0) = 20)
    (hj9999s : F (F (F a 6) 0) 99 = 3)
    (hk9999m : K (F (F a 6) 1) = 21)
    (hj9999u : F (F (F a 6) 1) 99 = 3)
    (hk9999n : K (F a 3) = 8)
    (hj9999v : F (F a 3) 99 = 0)
    (hk9999o : K (F (F a 3) 0) = 20)
    (hj9999y : F (F (F a 3) 0) 99 = 0)
    (hk9999p : K (F (F a 3) 1) = 21)
    (hj9999z26 : F (F (F a 3) 1) 99 = 0)
    (hF4 : XFr [(F a 9, 6)] [] [] G G4)
    (ro1 : RO (vw (G.2.1 (F (F a 6) 0))) (aI (G.2.1 (F (F a 6) 1))))
    (ro2 : RO (vw (G.2.1 (F (F a 3) 0))) (aI (G.2.1 (F (F a 3) 1))))
    (hrw : RW (G.1 p0))
    (t4 : ((G4.1 (F a 9) 6).toInt) = 0)
    (c_G4_F_F_a_11_0 : G4.2.1 (F (F a 11) 0) = G.2.1 (F (F a 11) 0))
    (c_G4_F_F_a_11_1 : G4.2.1 (F (F a 11) 1) = G.2.1 (F (F a 11) 1))
    (c_G4_F_F_a_11_2 : G4.2.1 (F (F a 11) 2) = G.2.1 (F (F a 11) 2))
    (c_G4_F_F_a_9_0 : G4.2.1 (F (F a 9) 0) = G.2.1 (F (F a 9) 0))
    (c_G4_F_F_a_9_1 : G4.2.1 (F (F a 9) 1) = G.2.1 (F (F a 9) 1))
    (c_G4_F_F_a_9_2 : G4.2.1 (F (F a 9) 2) = G.2.1 (F (F a 9) 2))
    (c_G4_F_F_a_9_3 : G4.2.1 (F (F a 9) 3) = G.2.1 (F (F a 9) 3))
    (c_G4_F_F_a_9_4 : G4.2.1 (F (F a 9) 4) = G.2.1 (F (F a 9) 4))
    (c_G4_F_F_a_9_5 : G4.2.1 (F (F a 9) 5) = G.2.1 (F (F a 9) 5))
    (d_G4_F_a_11_3 : G4.1 (F a 11) 3 = G.1 (F a 11) 3) :
    F (F a 6) 99 < 12 := by
  first | assumption | omega
theorem v_X10_firstFailingOf_19_4 {K : Nat → Nat} {F : Nat → Nat → Nat} (a : Nat) (p0 : Nat) (G : XG) (G4 : XG)
    (ha : K a = 12)
    (hp0 : K p0 = 9)
    (hk9999 : K (F a 11) = 3)
    (hj9999 : F (F a 11) 99 = 0)
    (hk9999a : K (F a 9) = 6)
    (hj9999a : F (F a 9) 99 = 1)
    (hk9999b : K (F (F a 11) 0) = 21)
    (hj9999b : F (F (F a 11) 0) 99 = 100)
    (hk9999c : K (F (F a 11) 1) = 21)
    (hj9999c : F (F (F a 11) 1) 99 = 101)
    (hk9999d : K (F (F a 11) 2) = 24)
    (hj9999d : F (F (F a 11) 2) 99 = 4)
    (hk9999e : K (F (F a 9) 0) = 22)
    (hj9999f : F (F (F a 9) 0) 99 = 10 * 1 + 0)
    (hk9999f : K (F (F a 9) 1) = 22)
    (hj9999h : F (F (F a 9) 1) 99 = 10 * 1 + 1)
    (hk9999g : K (F (F a 9) 2) = 22)
    (hj9999j : F (F (F a 9) 2) 99 = 10 * 1 + 2)
    (hk9999h : K (F (F a 9) 3) = 22)
    (hj9999l : F (F (F a 9) 3) 99 = 10 * 1 + 3)
    (hk9999i : K (F (F a 9) 4) = 23)
    (hj9999n : F (F (F a 9) 4) 99 = 10 * 1 + 4)
    (hk9999j : K (F (F a 9) 5) = 23)
    (hj9999p : F (F (F a 9) 5) 99 = 10 * 1 + 5)
    (hk9999k : K (F a 6) = 8)
    (hj9999q : F (F a 6) 99 = 3)
    (hk9999l : K (F (F a 6) 0) = 20)
    (hj9999s : F (F (F a 6) 0) 99 = 3)
    (hk9999m : K (F (F a 6) 1) = 21)
    (hj9999u : F (F (F a 6) 1) 99 = 3)
    (hk9999n : K (F a 3) = 8)
    (hj9999v : F (F a 3) 99 = 0)
    (hk9999o : K (F (F a 3) 0) = 20)
    (hj9999y : F (F (F a 3) 0) 99 = 0)
    (hk9999p : K (F (F a 3) 1) = 21)
    (hj9999z26 : F (F (F a 3) 1) 99 = 0)
    (hF4 : XFr [(F a 9, 6)] [] [] G G4)
    (ro1 : RO (vw (G.2.1 (F (F a 6) 0))) (aI (G.2.1 (F (F a 6) 1))))
    (ro2 : RO (vw (G.2.1 (F (F a 3) 0))) (aI (G.2.1 (F (F a 3) 1))))
    (hrw : RW (G.1 p0))
    (t4 : ((G4.1 (F a 9) 6).toInt) = 0)
    (c_G4_F_F_a_11_0 : G4.2.1 (F (F a 11) 0) = G.2.1 (F (F a 11) 0))
    (c_G4_F_F_a_11_1 : G4.2.1 (F (F a 11) 1) = G.2.1 (F (F a 11) 1))
    (c_G4_F_F_a_11_2 : G4.2.1 (F (F a 11) 2) = G.2.1 (F (F a 11) 2))
    (c_G4_F_F_a_9_0 : G4.2.1 (F (F a 9) 0) = G.2.1 (F (F a 9) 0))
    (c_G4_F_F_a_9_1 : G4.2.1 (F (F a 9) 1) = G.2.1 (F (F a 9) 1))
    (c_G4_F_F_a_9_2 : G4.2.1 (F (F a 9) 2) = G.2.1 (F (F a 9) 2))
    (c_G4_F_F_a_9_3 : G4.2.1 (F (F a 9) 3) = G.2.1 (F (F a 9) 3))
    (c_G4_F_F_a_9_4 : G4.2.1 (F (F a 9) 4) = G.2.1 (F (F a 9) 4))
    (c_G4_F_F_a_9_5 : G4.2.1 (F (F a 9) 5) = G.2.1 (F (F a 9) 5))
    (d_G4_F_a_11_3 : G4.1 (F a 11) 3 = G.1 (F a 11) 3) :
    F (F a 3) 99 < 12 := by
  first | assumption | omega
theorem v_X10_firstFailingOf_39_5 {F : Nat → Nat → Nat} (a : Nat) (G : XG) (G19 : XG)
    (ro1 : RO (vw (G.2.1 (F (F a 6) 0))) (aI (G.2.1 (F (F a 6) 1))))
    (ro2 : RO (vw (G.2.1 (F (F a 3) 0))) (aI (G.2.1 (F (F a 3) 1))))
    (c_G19_F_F_a_6_0 : G19.2.1 (F (F a 6) 0) = G.2.1 (F (F a 6) 0))
    (c_G19_F_F_a_6_1 : G19.2.1 (F (F a 6) 1) = G.2.1 (F (F a 6) 1)) :
    RO (vw (G19.2.1 (F (F a 6) 0))) (aI (G19.2.1 (F (F a 6) 1))) := by simp only [c_G19_F_F_a_6_0, c_G19_F_F_a_6_1]; assumption
theorem v_X10_firstFailingOf_39_6 {F : Nat → Nat → Nat} (a : Nat) (G : XG) (G19 : XG)
    (ro1 : RO (vw (G.2.1 (F (F a 6) 0))) (aI (G.2.1 (F (F a 6) 1))))
    (ro2 : RO (vw (G.2.1 (F (F a 3) 0))) (aI (G.2.1 (F (F a 3) 1))))
    (c_G19_F_F_a_3_0 : G19.2.1 (F (F a 3) 0) = G.2.1 (F (F a 3) 0))
    (c_G19_F_F_a_3_1 : G19.2.1 (F (F a 3) 1) = G.2.1 (F (F a 3) 1)) :
    RO (vw (G19.2.1 (F (F a 3) 0))) (aI (G19.2.1 (F (F a 3) 1))) := by simp only [c_G19_F_F_a_3_0, c_G19_F_F_a_3_1]; assumption
theorem v_X10_firstFailingOf_39_7 {K : Nat → Nat} {F : Nat → Nat → Nat} (a : Nat) (p0 : Nat) (G : XG) (G4 : XG) (G19 : XG)
    (ha : K a = 12)
    (hp0 : K p0 = 9)
    (hk9999 : K (F a 11) = 3)
    (hj9999 : F (F a 11) 99 = 0)
    (hk9999a : K (F a 9) = 6)
    (hj9999a : F (F a 9) 99 = 1)
    (hk9999b : K (F (F a 11) 0) = 21)
    (hj9999b : F (F (F a 11) 0) 99 = 100)
    (hk9999c : K (F (F a 11) 1) = 21)
    (hj9999c : F (F (F a 11) 1) 99 = 101)
    (hk9999d : K (F (F a 11) 2) = 24)
    (hj9999d : F (F (F a 11) 2) 99 = 4)
    (hk9999e : K (F (F a 9) 0) = 22)
    (hj9999f : F (F (F a 9) 0) 99 = 10 * 1 + 0)
    (hk9999f : K (F (F a 9) 1) = 22)
    (hj9999h : F (F (F a 9) 1) 99 = 10 * 1 + 1)
    (hk9999g : K (F (F a 9) 2) = 22)
    (hj9999j : F (F (F a 9) 2) 99 = 10 * 1 + 2)
    (hk9999h : K (F (F a 9) 3) = 22)
    (hj9999l : F (F (F a 9) 3) 99 = 10 * 1 + 3)
    (hk9999i : K (F (F a 9) 4) = 23)
    (hj9999n : F (F (F a 9) 4) 99 = 10 * 1 + 4)
    (hk9999j : K (F (F a 9) 5) = 23)
    (hj9999p : F (F (F a 9) 5) 99 = 10 * 1 + 5)
    (hk9999k : K (F a 6) = 8)
    (hj9999q : F (F a 6) 99 = 3)
    (hk9999l : K (F (F a 6) 0) = 20)
    (hj9999s : F (F (F a 6) 0) 99 = 3)
    (hk9999m : K (F (F a 6) 1) = 21)
    (hj9999u : F (F (F a 6) 1) 99 = 3)
    (hk9999n : K (F a 3) = 8)
    (hj9999v : F (F a 3) 99 = 0)
    (hk9999o : K (F (F a 3) 0) = 20)
    (hj9999y : F (F (F a 3) 0) 99 = 0)
    (hk9999p : K (F (F a 3) 1) = 21)
    (hj9999z26 : F (F (F a 3) 1) 99 = 0)
    (hF4 : XFr [(F a 9, 6)] [] [] G G4)
    (hF19 : XFr [] [F (F a 11) 0, F (F a 11) 1] [] G4 G19)
    (ro1 : RO (vw (G.2.1 (F (F a 6) 0))) (aI (G.2.1 (F (F a 6) 1))))
    (ro2 : RO (vw (G.2.1 (F (F a 3) 0))) (aI (G.2.1 (F (F a 3) 1))))
    (hrw : RW (G.1 p0))
    (oq19 : CH (vw (G.2.1 (F (F a 6) 0))) (vw (G.2.1 (F (F a 3) 0))) (aI (G19.2.1 (F (F a 11) 1))) (aI (G19.2.1 (F (F a 11) 0))))
    (t4 : ((G4.1 (F a 9) 6).toInt) = 0)
    (c_G19_F_F_a_11_2 : G19.2.1 (F (F a 11) 2) = G.2.1 (F (F a 11) 2))
    (c_G19_F_F_a_9_0 : G19.2.1 (F (F a 9) 0) = G.2.1 (F (F a 9) 0))
    (c_G19_F_F_a_9_1 : G19.2.1 (F (F a 9) 1) = G.2.1 (F (F a 9) 1))
    (c_G19_F_F_a_9_2 : G19.2.1 (F (F a 9) 2) = G.2.1 (F (F a 9) 2))
    (c_G19_F_F_a_9_3 : G19.2.1 (F (F a 9) 3) = G.2.1 (F (F a 9) 3))
    (c_G19_F_F_a_9_4 : G19.2.1 (F (F a 9) 4) = G.2.1 (F (F a 9) 4))
    (c_G19_F_F_a_9_5 : G19.2.1 (F (F a 9) 5) = G.2.1 (F (F a 9) 5))
    (D_G19_p0 : G19.1 p0 = G.1 p0)
    (d_G19_F_a_11_3 : G19.1 (F a 11) 3 = G.1 (F a 11) 3)
    (d_G19_F_a_9_6 : G19.1 (F a 9) 6 = G4.1 (F a 9) 6) :
    RW (G19.1 p0) := by
  first | assumption | omega | (simp only [D_G19_p0]; assumption)
theorem v_X10_firstFailingOf_39_8 {K : Nat → Nat} {F : Nat → Nat → Nat} (a : Nat) (p0 : Nat) (G : XG) (G4 : XG) (G19 : XG)
    (ha : K a = 12)
    (hp0 : K p0 = 9)
    (hk9999 : K (F a 11) = 3)
    (hj9999 : F (F a 11) 99 = 0)
    (hk9999a : K (F a 9) = 6)
    (hj9999a : F (F a 9) 99 = 1)
    (hk9999b : K (F (F a 11) 0) = 21)
    (hj9999b : F (F (F a 11) 0) 99 = 100)
    (hk9999c : K (F (F a 11) 1) = 21)
    (hj9999c : F (F (F a 11) 1) 99 = 101)
    (hk9999d : K (F (F a 11) 2) = 24)
    (hj9999d : F (F (F a 11) 2) 99 = 4)
    (hk9999e : K (F (F a 9) 0) = 22)
    (hj9999f : F (F (F a 9) 0) 99 = 10 * 1 + 0)
    (hk9999f : K (F (F a 9) 1) = 22)
    (hj9999h : F (F (F a 9) 1) 99 = 10 * 1 + 1)
    (hk9999g : K (F (F a 9) 2) = 22)
    (hj9999j : F (F (F a 9) 2) 99 = 10 * 1 + 2)
    (hk9999h : K (F (F a 9) 3) = 22)
    (hj9999l : F (F (F a 9) 3) 99 = 10 * 1 + 3)
    (hk9999i : K (F (F a 9) 4) = 23)
    (hj9999n : F (F (F a 9) 4) 99 = 10 * 1 + 4)
    (hk9999j : K (F (F a 9) 5) = 23)
    (hj9999p : F (F (F a 9) 5) 99 = 10 * 1 + 5)
    (hk9999k : K (F a 6) = 8)
    (hj9999q : F (F a 6) 99 = 3)
    (hk9999l : K (F (F a 6) 0) = 20)
    (hj9999s : F (F (F a 6) 0) 99 = 3)
    (hk9999m : K (F (F a 6) 1) = 21)
    (hj9999u : F (F (F a 6) 1) 99 = 3)
    (hk9999n : K (F a 3) = 8)
    (hj9999v : F (F a 3) 99 = 0)
    (hk9999o : K (F (F a 3) 0) = 20)
    (hj9999y : F (F (F a 3) 0) 99 = 0)
    (hk9999p : K (F (F a 3) 1) = 21)
    (hj9999z26 : F (F (F a 3) 1) 99 = 0)
    (hF4 : XFr [(F a 9, 6)] [] [] G G4)
    (hF19 : XFr [] [F (F a 11) 0, F (F a 11) 1] [] G4 G19)
    (ro1 : RO (vw (G.2.1 (F (F a 6) 0))) (aI (G.2.1 (F (F a 6) 1))))
    (ro2 : RO (vw (G.2.1 (F (F a 3) 0))) (aI (G.2.1 (F (F a 3) 1))))
    (hrw : RW (G.1 p0))
    (oq19 : CH (vw (G.2.1 (F (F a 6) 0))) (vw (G.2.1 (F (F a 3) 0))) (aI (G19.2.1 (F (F a 11) 1))) (aI (G19.2.1 (F (F a 11) 0))))
    (t4 : ((G4.1 (F a 9) 6).toInt) = 0)
    (c_G19_F_F_a_11_2 : G19.2.1 (F (F a 11) 2) = G.2.1 (F (F a 11) 2))
    (c_G19_F_F_a_3_0 : G19.2.1 (F (F a 3) 0) = G.2.1 (F (F a 3) 0))
    (c_G19_F_F_a_6_0 : G19.2.1 (F (F a 6) 0) = G.2.1 (F (F a 6) 0))
    (c_G19_F_F_a_9_0 : G19.2.1 (F (F a 9) 0) = G.2.1 (F (F a 9) 0))
    (c_G19_F_F_a_9_1 : G19.2.1 (F (F a 9) 1) = G.2.1 (F (F a 9) 1))
    (c_G19_F_F_a_9_2 : G19.2.1 (F (F a 9) 2) = G.2.1 (F (F a 9) 2))
    (c_G19_F_F_a_9_3 : G19.2.1 (F (F a 9) 3) = G.2.1 (F (F a 9) 3))
    (c_G19_F_F_a_9_4 : G19.2.1 (F (F a 9) 4) = G.2.1 (F (F a 9) 4))
    (c_G19_F_F_a_9_5 : G19.2.1 (F (F a 9) 5) = G.2.1 (F (F a 9) 5))
    (d_G19_F_a_11_3 : G19.1 (F a 11) 3 = G.1 (F a 11) 3)
    (d_G19_F_a_9_6 : G19.1 (F a 9) 6 = G4.1 (F a 9) 6) :
    CH (vw (G19.2.1 (F (F a 6) 0))) (vw (G19.2.1 (F (F a 3) 0))) (aI (G19.2.1 (F (F a 11) 1))) (aI (G19.2.1 (F (F a 11) 0))) := by
  first | assumption | omega | (simp only [c_G19_F_F_a_3_0, c_G19_F_F_a_6_0]; assumption)
theorem v_X10_firstFailingOf_49_9 {F : Nat → Nat → Nat} (a : Nat) (G39 : XG) (x46 : Int32)
    (oq46 : ∀ j : Int, 0 ≤ j → j < ((G39.1 (F a 9) 6).toInt) → (x46.toInt = -1 ∨ j < x46.toInt) → aI (G39.2.1 (F (F a 9) 5)) j = 0)
    (t46 : x46.toInt = -1 ∨ (0 ≤ x46.toInt ∧ x46.toInt < ((G39.1 (F a 9) 6).toInt) ∧ (aI (G39.2.1 (F (F a 9) 5)) (x46.toInt)) = 1)) :
    x46.toInt = ffL (qL G39 F (F a 9)) := by
  exact ff_list t46 oq46
theorem v_X10_firstFailingOf_49_10 {F : Nat → Nat → Nat} (a : Nat) (p0 : Nat) (G : XG) (G4 : XG) (G19 : XG) (G39 : XG)
    (hF19 : XFr [] [F (F a 11) 0, F (F a 11) 1] [] G4 G19)
    (oq39 : qL G39 F (F a 9) = qL G19 F (F a 9) ++ uqs (vw (G.2.1 (F (F a 6) 0))) (vw (G.2.1 (F (F a 3) 0))) (G19.1 p0))
    (t4 : ((G4.1 (F a 9) 6).toInt) = 0)
    (D_G19_p0 : G19.1 p0 = G.1 p0) :
    qL G39 F (F a 9) = uqs (vw (G.2.1 (F (F a 6) 0))) (vw (G.2.1 (F (F a 3) 0))) (G.1 p0) := by
  have e : qL G19 F (F a 9) = [] := by
    show lst _ (G19.1 (F a 9) 6).toInt.toNat = []
    rw [hF19.1 _ _ xn0, t4]
    rfl
  rw [oq39, e, List.nil_append, D_G19_p0]
theorem v_X10_setOnPaper_30_1 {K : Nat → Nat} {F : Nat → Nat → Nat} (a : Nat) (G : XG) (x1 : Int32) (p0 : Int32) (p1 : Int32) (p2 : Int32) (p3 : Int32)
    (ha : K a = 12)
    (hk9999 : K (F a 5) = 8)
    (hj9999 : F (F a 5) 99 = 2)
    (hk9999a : K (F (F a 5) 0) = 20)
    (hj9999b : F (F (F a 5) 0) 99 = 2)
    (hk9999b : K (F (F a 5) 1) = 21)
    (hj9999d : F (F (F a 5) 1) 99 = 2)
    (hk9999c : K (F a 3) = 8)
    (hj9999e : F (F a 3) 99 = 0)
    (hk9999d : K (F (F a 3) 0) = 20)
    (hj9999g : F (F (F a 3) 0) 99 = 0)
    (hk9999e : K (F (F a 3) 1) = 21)
    (hj9999i : F (F (F a 3) 1) 99 = 0)
    (t1 : (x1.toInt = 1 ∧ 0 ≤ p0.toInt ∧ p0.toInt < 3) ∨ (x1.toInt = 0 ∧ (p0.toInt < 0 ∨ 3 ≤ p0.toInt)))
    (c4 : x1.toInt = 0) :
    ((-1 : Int) = -1 ∧ ¬ ((0 ≤ p0.toInt ∧ p0.toInt < 3) ∧ (0 ≤ p1.toInt ∧ p1.toInt < 30) ∧ (0 ≤ p2.toInt ∧ p2.toInt < 3) ∧ (p3.toInt = -1000 ∨ (-99 ≤ p3.toInt ∧ p3.toInt ≤ 99)))) ∨ ((0 ≤ p0.toInt ∧ p0.toInt < 3) ∧ (0 ≤ p1.toInt ∧ p1.toInt < 30) ∧ (0 ≤ p2.toInt ∧ p2.toInt < 3) ∧ (p3.toInt = -1000 ∨ (-99 ≤ p3.toInt ∧ p3.toInt ≤ 99)) ∧ (((-1 : Int) = -2 ∧ cel (vw (G.2.1 (F (F a 3) 0))) p0.toInt p1.toInt 0 = -2000) ∨ (cel (vw (G.2.1 (F (F a 3) 0))) p0.toInt p1.toInt 0 ≠ -2000 ∧ (((-1 : Int) = -4 ∧ cel (vw (G.2.1 (F (F a 3) 0))) p0.toInt p1.toInt p2.toInt = p3.toInt) ∨ ((-1 : Int) = 0 ∧ cel (vw (G.2.1 (F (F a 3) 0))) p0.toInt p1.toInt p2.toInt ≠ p3.toInt ∧ (vw (G.2.1 (F (F a 5) 0))) = rset (vw (G.2.1 (F (F a 3) 0))) (90 * p0.toInt + 30 * p2.toInt + p1.toInt) p3.toInt ∧ RO (vw (G.2.1 (F (F a 5) 0))) (aI (G.2.1 (F (F a 5) 1)))))))) := by
  exact Or.inl ⟨rfl, by omega⟩
theorem v_X10_setOnPaper_30_2 {K : Nat → Nat} {F : Nat → Nat → Nat} (a : Nat) (G : XG) (x1 : Int32) (p0 : Int32) (x8 : Int32) (p1 : Int32) (p2 : Int32) (p3 : Int32)
    (ha : K a = 12)
    (hk9999 : K (F a 5) = 8)
    (hj9999 : F (F a 5) 99 = 2)
    (hk9999a : K (F (F a 5) 0) = 20)
    (hj9999b : F (F (F a 5) 0) 99 = 2)
    (hk9999b : K (F (F a 5) 1) = 21)
    (hj9999d : F (F (F a 5) 1) 99 = 2)
    (hk9999c : K (F a 3) = 8)
    (hj9999e : F (F a 3) 99 = 0)
    (hk9999d : K (F (F a 3) 0) = 20)
    (hj9999g : F (F (F a 3) 0) 99 = 0)
    (hk9999e : K (F (F a 3) 1) = 21)
    (hj9999i : F (F (F a 3) 1) 99 = 0)
    (t1 : (x1.toInt = 1 ∧ 0 ≤ p0.toInt ∧ p0.toInt < 3) ∨ (x1.toInt = 0 ∧ (p0.toInt < 0 ∨ 3 ≤ p0.toInt)))
    (c4 : ¬ (x1.toInt = 0))
    (t8 : (x8.toInt = 1 ∧ 0 ≤ p1.toInt ∧ p1.toInt < 30) ∨ (x8.toInt = 0 ∧ (p1.toInt < 0 ∨ 30 ≤ p1.toInt)))
    (c11 : x8.toInt = 0) :
    ((-1 : Int) = -1 ∧ ¬ ((0 ≤ p0.toInt ∧ p0.toInt < 3) ∧ (0 ≤ p1.toInt ∧ p1.toInt < 30) ∧ (0 ≤ p2.toInt ∧ p2.toInt < 3) ∧ (p3.toInt = -1000 ∨ (-99 ≤ p3.toInt ∧ p3.toInt ≤ 99)))) ∨ ((0 ≤ p0.toInt ∧ p0.toInt < 3) ∧ (0 ≤ p1.toInt ∧ p1.toInt < 30) ∧ (0 ≤ p2.toInt ∧ p2.toInt < 3) ∧ (p3.toInt = -1000 ∨ (-99 ≤ p3.toInt ∧ p3.toInt ≤ 99)) ∧ (((-1 : Int) = -2 ∧ cel (vw (G.2.1 (F (F a 3) 0))) p0.toInt p1.toInt 0 = -2000) ∨ (cel (vw (G.2.1 (F (F a 3) 0))) p0.toInt p1.toInt 0 ≠ -2000 ∧ (((-1 : Int) = -4 ∧ cel (vw (G.2.1 (F (F a 3) 0))) p0.toInt p1.toInt p2.toInt = p3.toInt) ∨ ((-1 : Int) = 0 ∧ cel (vw (G.2.1 (F (F a 3) 0))) p0.toInt p1.toInt p2.toInt ≠ p3.toInt ∧ (vw (G.2.1 (F (F a 5) 0))) = rset (vw (G.2.1 (F (F a 3) 0))) (90 * p0.toInt + 30 * p2.toInt + p1.toInt) p3.toInt ∧ RO (vw (G.2.1 (F (F a 5) 0))) (aI (G.2.1 (F (F a 5) 1)))))))) := by
  exact Or.inl ⟨rfl, by omega⟩
theorem v_X10_setOnPaper_30_3 {K : Nat → Nat} {F : Nat → Nat → Nat} (a : Nat) (G : XG) (x1 : Int32) (p0 : Int32) (x8 : Int32) (p1 : Int32) (x15 : Int32) (p2 : Int32) (p3 : Int32)
    (ha : K a = 12)
    (hk9999 : K (F a 5) = 8)
    (hj9999 : F (F a 5) 99 = 2)
    (hk9999a : K (F (F a 5) 0) = 20)
    (hj9999b : F (F (F a 5) 0) 99 = 2)
    (hk9999b : K (F (F a 5) 1) = 21)
    (hj9999d : F (F (F a 5) 1) 99 = 2)
    (hk9999c : K (F a 3) = 8)
    (hj9999e : F (F a 3) 99 = 0)
    (hk9999d : K (F (F a 3) 0) = 20)
    (hj9999g : F (F (F a 3) 0) 99 = 0)
    (hk9999e : K (F (F a 3) 1) = 21)
    (hj9999i : F (F (F a 3) 1) 99 = 0)
    (t1 : (x1.toInt = 1 ∧ 0 ≤ p0.toInt ∧ p0.toInt < 3) ∨ (x1.toInt = 0 ∧ (p0.toInt < 0 ∨ 3 ≤ p0.toInt)))
    (c4 : ¬ (x1.toInt = 0))
    (t8 : (x8.toInt = 1 ∧ 0 ≤ p1.toInt ∧ p1.toInt < 30) ∨ (x8.toInt = 0 ∧ (p1.toInt < 0 ∨ 30 ≤ p1.toInt)))
    (c11 : ¬ (x8.toInt = 0))
    (t15 : (x15.toInt = 1 ∧ 0 ≤ p2.toInt ∧ p2.toInt < 3) ∨ (x15.toInt = 0 ∧ (p2.toInt < 0 ∨ 3 ≤ p2.toInt)))
    (c18 : x15.toInt = 0) :
    ((-1 : Int) = -1 ∧ ¬ ((0 ≤ p0.toInt ∧ p0.toInt < 3) ∧ (0 ≤ p1.toInt ∧ p1.toInt < 30) ∧ (0 ≤ p2.toInt ∧ p2.toInt < 3) ∧ (p3.toInt = -1000 ∨ (-99 ≤ p3.toInt ∧ p3.toInt ≤ 99)))) ∨ ((0 ≤ p0.toInt ∧ p0.toInt < 3) ∧ (0 ≤ p1.toInt ∧ p1.toInt < 30) ∧ (0 ≤ p2.toInt ∧ p2.toInt < 3) ∧ (p3.toInt = -1000 ∨ (-99 ≤ p3.toInt ∧ p3.toInt ≤ 99)) ∧ (((-1 : Int) = -2 ∧ cel (vw (G.2.1 (F (F a 3) 0))) p0.toInt p1.toInt 0 = -2000) ∨ (cel (vw (G.2.1 (F (F a 3) 0))) p0.toInt p1.toInt 0 ≠ -2000 ∧ (((-1 : Int) = -4 ∧ cel (vw (G.2.1 (F (F a 3) 0))) p0.toInt p1.toInt p2.toInt = p3.toInt) ∨ ((-1 : Int) = 0 ∧ cel (vw (G.2.1 (F (F a 3) 0))) p0.toInt p1.toInt p2.toInt ≠ p3.toInt ∧ (vw (G.2.1 (F (F a 5) 0))) = rset (vw (G.2.1 (F (F a 3) 0))) (90 * p0.toInt + 30 * p2.toInt + p1.toInt) p3.toInt ∧ RO (vw (G.2.1 (F (F a 5) 0))) (aI (G.2.1 (F (F a 5) 1)))))))) := by
  exact Or.inl ⟨rfl, by omega⟩
theorem v_X10_setOnPaper_37_4 {F : Nat → Nat → Nat} (a : Nat) (G : XG)
    (ro1 : RO (vw (G.2.1 (F (F a 3) 0))) (aI (G.2.1 (F (F a 3) 1)))) :
    RO (vw (G.2.1 (F (F a 3) 0))) (aI (G.2.1 (F (F a 3) 1))) := by exact ro1
theorem v_X10_setOnPaper_72_5 {F : Nat → Nat → Nat} (a : Nat) (G : XG)
    (ro1 : RO (vw (G.2.1 (F (F a 3) 0))) (aI (G.2.1 (F (F a 3) 1)))) :
    RO (vw (G.2.1 (F (F a 3) 0))) (aI (G.2.1 (F (F a 3) 1))) := by exact ro1
theorem v_X10_setOnPaper_84_6 {F : Nat → Nat → Nat} (a : Nat) (G72 : XG)
    (oq72a : RO (vw (G72.2.1 (F (F a 5) 0))) (aI (G72.2.1 (F (F a 5) 1)))) :
    RO (vw (G72.2.1 (F (F a 5) 0))) (aI (G72.2.1 (F (F a 5) 1))) := by exact oq72a
theorem v_X10_setOnPaper_88_7 {K : Nat → Nat} {F : Nat → Nat → Nat} (a : Nat) (G : XG) (G72 : XG) (G84 : XG) (p0 : Int32) (p1 : Int32) (p2 : Int32) (p3 : Int32) (x1 : Int32) (x8 : Int32) (x15 : Int32) (x23 : Int32) (x37 : Int32)
    (ha : K a = 12)
    (hk9999 : K (F a 5) = 8)
    (hj9999 : F (F a 5) 99 = 2)
    (hk9999a : K (F (F a 5) 0) = 20)
    (hj9999b : F (F (F a 5) 0) 99 = 2)
    (hk9999b : K (F (F a 5) 1) = 21)
    (hj9999d : F (F (F a 5) 1) 99 = 2)
    (hk9999c : K (F a 3) = 8)
    (hj9999e : F (F a 3) 99 = 0)
    (hk9999d : K (F (F a 3) 0) = 20)
    (hj9999g : F (F (F a 3) 0) 99 = 0)
    (hk9999e : K (F (F a 3) 1) = 21)
    (hj9999i : F (F (F a 3) 1) 99 = 0)
    (oq72 : (vw (G72.2.1 (F (F a 5) 0))) = (vw (G.2.1 (F (F a 3) 0))))
    (oq84 : (vw (G84.2.1 (F (F a 5) 0))) = if cel (vw (G72.2.1 (F (F a 5) 0))) (p0.toInt) (p1.toInt) 0 ≠ -2000 then rset (vw (G72.2.1 (F (F a 5) 0))) (90 * (p0.toInt) + 30 * (p2.toInt) + (p1.toInt)) (p3.toInt) else (vw (G72.2.1 (F (F a 5) 0))))
    (oq84a : RO (vw (G84.2.1 (F (F a 5) 0))) (aI (G84.2.1 (F (F a 5) 1))))
    (t1 : (x1.toInt = 1 ∧ 0 ≤ p0.toInt ∧ p0.toInt < 3) ∨ (x1.toInt = 0 ∧ (p0.toInt < 0 ∨ 3 ≤ p0.toInt)))
    (c4 : ¬ (x1.toInt = 0))
    (t8 : (x8.toInt = 1 ∧ 0 ≤ p1.toInt ∧ p1.toInt < 30) ∨ (x8.toInt = 0 ∧ (p1.toInt < 0 ∨ 30 ≤ p1.toInt)))
    (c11 : ¬ (x8.toInt = 0))
    (t15 : (x15.toInt = 1 ∧ 0 ≤ p2.toInt ∧ p2.toInt < 3) ∨ (x15.toInt = 0 ∧ (p2.toInt < 0 ∨ 3 ≤ p2.toInt)))
    (c18 : ¬ (x15.toInt = 0))
    (t23 : (x23.toInt = 1 ∧ (p3.toInt = -1000 ∨ (-99 ≤ p3.toInt ∧ p3.toInt < 100))) ∨ (x23.toInt = 0 ∧ p3.toInt ≠ -1000 ∧ (p3.toInt < -99 ∨ 100 ≤ p3.toInt)))
    (c26 : x23.toInt ≠ 0)
    (t37 : (x37.toInt = 1 ∧ (cel (vw (G.2.1 (F (F a 3) 0))) (p0.toInt) (p1.toInt) 0) ≠ -2000) ∨ (x37.toInt = 0 ∧ (cel (vw (G.2.1 (F (F a 3) 0))) (p0.toInt) (p1.toInt) 0) = -2000))
    (c40 : x37.toInt ≠ 0)
    (c58 : (cel (vw (G.2.1 (F (F a 3) 0))) (p0.toInt) (p1.toInt) (p2.toInt)) ≠ p3.toInt) :
    ((0 : Int) = -1 ∧ ¬ ((0 ≤ p0.toInt ∧ p0.toInt < 3) ∧ (0 ≤ p1.toInt ∧ p1.toInt < 30) ∧ (0 ≤ p2.toInt ∧ p2.toInt < 3) ∧ (p3.toInt = -1000 ∨ (-99 ≤ p3.toInt ∧ p3.toInt ≤ 99)))) ∨ ((0 ≤ p0.toInt ∧ p0.toInt < 3) ∧ (0 ≤ p1.toInt ∧ p1.toInt < 30) ∧ (0 ≤ p2.toInt ∧ p2.toInt < 3) ∧ (p3.toInt = -1000 ∨ (-99 ≤ p3.toInt ∧ p3.toInt ≤ 99)) ∧ (((0 : Int) = -2 ∧ cel (vw (G.2.1 (F (F a 3) 0))) p0.toInt p1.toInt 0 = -2000) ∨ (cel (vw (G.2.1 (F (F a 3) 0))) p0.toInt p1.toInt 0 ≠ -2000 ∧ (((0 : Int) = -4 ∧ cel (vw (G.2.1 (F (F a 3) 0))) p0.toInt p1.toInt p2.toInt = p3.toInt) ∨ ((0 : Int) = 0 ∧ cel (vw (G.2.1 (F (F a 3) 0))) p0.toInt p1.toInt p2.toInt ≠ p3.toInt ∧ (vw (G84.2.1 (F (F a 5) 0))) = rset (vw (G.2.1 (F (F a 3) 0))) (90 * p0.toInt + 30 * p2.toInt + p1.toInt) p3.toInt ∧ RO (vw (G84.2.1 (F (F a 5) 0))) (aI (G84.2.1 (F (F a 5) 1)))))))) := by
  refine Or.inr ⟨by omega, by omega, by omega, by omega, Or.inr ⟨by omega, Or.inr ⟨rfl, by omega, ?_, oq84a⟩⟩⟩
  rw [oq84, oq72, if_pos (by omega)]
theorem v_X10_setOnPaper_63_8 {K : Nat → Nat} {F : Nat → Nat → Nat} (a : Nat) (G : XG) (p0 : Int32) (p1 : Int32) (p2 : Int32) (x1 : Int32) (x8 : Int32) (x15 : Int32) (x23 : Int32) (p3 : Int32) (x37 : Int32)
    (ha : K a = 12)
    (hk9999 : K (F a 5) = 8)
    (hj9999 : F (F a 5) 99 = 2)
    (hk9999a : K (F (F a 5) 0) = 20)
    (hj9999b : F (F (F a 5) 0) 99 = 2)
    (hk9999b : K (F (F a 5) 1) = 21)
    (hj9999d : F (F (F a 5) 1) 99 = 2)
    (hk9999c : K (F a 3) = 8)
    (hj9999e : F (F a 3) 99 = 0)
    (hk9999d : K (F (F a 3) 0) = 20)
    (hj9999g : F (F (F a 3) 0) 99 = 0)
    (hk9999e : K (F (F a 3) 1) = 21)
    (hj9999i : F (F (F a 3) 1) 99 = 0)
    (t1 : (x1.toInt = 1 ∧ 0 ≤ p0.toInt ∧ p0.toInt < 3) ∨ (x1.toInt = 0 ∧ (p0.toInt < 0 ∨ 3 ≤ p0.toInt)))
    (c4 : ¬ (x1.toInt = 0))
    (t8 : (x8.toInt = 1 ∧ 0 ≤ p1.toInt ∧ p1.toInt < 30) ∨ (x8.toInt = 0 ∧ (p1.toInt < 0 ∨ 30 ≤ p1.toInt)))
    (c11 : ¬ (x8.toInt = 0))
    (t15 : (x15.toInt = 1 ∧ 0 ≤ p2.toInt ∧ p2.toInt < 3) ∨ (x15.toInt = 0 ∧ (p2.toInt < 0 ∨ 3 ≤ p2.toInt)))
    (c18 : ¬ (x15.toInt = 0))
    (t23 : (x23.toInt = 1 ∧ (p3.toInt = -1000 ∨ (-99 ≤ p3.toInt ∧ p3.toInt < 100))) ∨ (x23.toInt = 0 ∧ p3.toInt ≠ -1000 ∧ (p3.toInt < -99 ∨ 100 ≤ p3.toInt)))
    (c26 : x23.toInt ≠ 0)
    (t37 : (x37.toInt = 1 ∧ (cel (vw (G.2.1 (F (F a 3) 0))) (p0.toInt) (p1.toInt) 0) ≠ -2000) ∨ (x37.toInt = 0 ∧ (cel (vw (G.2.1 (F (F a 3) 0))) (p0.toInt) (p1.toInt) 0) = -2000))
    (c40 : x37.toInt ≠ 0)
    (c58 : ¬ ((cel (vw (G.2.1 (F (F a 3) 0))) (p0.toInt) (p1.toInt) (p2.toInt)) ≠ p3.toInt)) :
    ((-4 : Int) = -1 ∧ ¬ ((0 ≤ p0.toInt ∧ p0.toInt < 3) ∧ (0 ≤ p1.toInt ∧ p1.toInt < 30) ∧ (0 ≤ p2.toInt ∧ p2.toInt < 3) ∧ (p3.toInt = -1000 ∨ (-99 ≤ p3.toInt ∧ p3.toInt ≤ 99)))) ∨ ((0 ≤ p0.toInt ∧ p0.toInt < 3) ∧ (0 ≤ p1.toInt ∧ p1.toInt < 30) ∧ (0 ≤ p2.toInt ∧ p2.toInt < 3) ∧ (p3.toInt = -1000 ∨ (-99 ≤ p3.toInt ∧ p3.toInt ≤ 99)) ∧ (((-4 : Int) = -2 ∧ cel (vw (G.2.1 (F (F a 3) 0))) p0.toInt p1.toInt 0 = -2000) ∨ (cel (vw (G.2.1 (F (F a 3) 0))) p0.toInt p1.toInt 0 ≠ -2000 ∧ (((-4 : Int) = -4 ∧ cel (vw (G.2.1 (F (F a 3) 0))) p0.toInt p1.toInt p2.toInt = p3.toInt) ∨ ((-4 : Int) = 0 ∧ cel (vw (G.2.1 (F (F a 3) 0))) p0.toInt p1.toInt p2.toInt ≠ p3.toInt ∧ (vw (G.2.1 (F (F a 5) 0))) = rset (vw (G.2.1 (F (F a 3) 0))) (90 * p0.toInt + 30 * p2.toInt + p1.toInt) p3.toInt ∧ RO (vw (G.2.1 (F (F a 5) 0))) (aI (G.2.1 (F (F a 5) 1)))))))) := by
  exact Or.inr ⟨by omega, by omega, by omega, by omega, Or.inr ⟨by omega, Or.inl ⟨rfl, by omega⟩⟩⟩
theorem v_X10_setOnPaper_45_9 {K : Nat → Nat} {F : Nat → Nat → Nat} (a : Nat) (G : XG) (x1 : Int32) (p0 : Int32) (x8 : Int32) (p1 : Int32) (x15 : Int32) (p2 : Int32) (x23 : Int32) (p3 : Int32) (x37 : Int32)
    (ha : K a = 12)
    (hk9999 : K (F a 5) = 8)
    (hj9999 : F (F a 5) 99 = 2)
    (hk9999a : K (F (F a 5) 0) = 20)
    (hj9999b : F (F (F a 5) 0) 99 = 2)
    (hk9999b : K (F (F a 5) 1) = 21)
    (hj9999d : F (F (F a 5) 1) 99 = 2)
    (hk9999c : K (F a 3) = 8)
    (hj9999e : F (F a 3) 99 = 0)
    (hk9999d : K (F (F a 3) 0) = 20)
    (hj9999g : F (F (F a 3) 0) 99 = 0)
    (hk9999e : K (F (F a 3) 1) = 21)
    (hj9999i : F (F (F a 3) 1) 99 = 0)
    (t1 : (x1.toInt = 1 ∧ 0 ≤ p0.toInt ∧ p0.toInt < 3) ∨ (x1.toInt = 0 ∧ (p0.toInt < 0 ∨ 3 ≤ p0.toInt)))
    (c4 : ¬ (x1.toInt = 0))
    (t8 : (x8.toInt = 1 ∧ 0 ≤ p1.toInt ∧ p1.toInt < 30) ∨ (x8.toInt = 0 ∧ (p1.toInt < 0 ∨ 30 ≤ p1.toInt)))
    (c11 : ¬ (x8.toInt = 0))
    (t15 : (x15.toInt = 1 ∧ 0 ≤ p2.toInt ∧ p2.toInt < 3) ∨ (x15.toInt = 0 ∧ (p2.toInt < 0 ∨ 3 ≤ p2.toInt)))
    (c18 : ¬ (x15.toInt = 0))
    (t23 : (x23.toInt = 1 ∧ (p3.toInt = -1000 ∨ (-99 ≤ p3.toInt ∧ p3.toInt < 100))) ∨ (x23.toInt = 0 ∧ p3.toInt ≠ -1000 ∧ (p3.toInt < -99 ∨ 100 ≤ p3.toInt)))
    (c26 : x23.toInt ≠ 0)
    (t37 : (x37.toInt = 1 ∧ (cel (vw (G.2.1 (F (F a 3) 0))) (p0.toInt) (p1.toInt) 0) ≠ -2000) ∨ (x37.toInt = 0 ∧ (cel (vw (G.2.1 (F (F a 3) 0))) (p0.toInt) (p1.toInt) 0) = -2000))
    (c40 : ¬ (x37.toInt ≠ 0)) :
    ((-2 : Int) = -1 ∧ ¬ ((0 ≤ p0.toInt ∧ p0.toInt < 3) ∧ (0 ≤ p1.toInt ∧ p1.toInt < 30) ∧ (0 ≤ p2.toInt ∧ p2.toInt < 3) ∧ (p3.toInt = -1000 ∨ (-99 ≤ p3.toInt ∧ p3.toInt ≤ 99)))) ∨ ((0 ≤ p0.toInt ∧ p0.toInt < 3) ∧ (0 ≤ p1.toInt ∧ p1.toInt < 30) ∧ (0 ≤ p2.toInt ∧ p2.toInt < 3) ∧ (p3.toInt = -1000 ∨ (-99 ≤ p3.toInt ∧ p3.toInt ≤ 99)) ∧ (((-2 : Int) = -2 ∧ cel (vw (G.2.1 (F (F a 3) 0))) p0.toInt p1.toInt 0 = -2000) ∨ (cel (vw (G.2.1 (F (F a 3) 0))) p0.toInt p1.toInt 0 ≠ -2000 ∧ (((-2 : Int) = -4 ∧ cel (vw (G.2.1 (F (F a 3) 0))) p0.toInt p1.toInt p2.toInt = p3.toInt) ∨ ((-2 : Int) = 0 ∧ cel (vw (G.2.1 (F (F a 3) 0))) p0.toInt p1.toInt p2.toInt ≠ p3.toInt ∧ (vw (G.2.1 (F (F a 5) 0))) = rset (vw (G.2.1 (F (F a 3) 0))) (90 * p0.toInt + 30 * p2.toInt + p1.toInt) p3.toInt ∧ RO (vw (G.2.1 (F (F a 5) 0))) (aI (G.2.1 (F (F a 5) 1)))))))) := by
  exact Or.inr ⟨by omega, by omega, by omega, by omega, Or.inl ⟨rfl, by omega⟩⟩
theorem v_X10_setOnPaper_30_10 {K : Nat → Nat} {F : Nat → Nat → Nat} (a : Nat) (G : XG) (x1 : Int32) (p0 : Int32) (x8 : Int32) (p1 : Int32) (x15 : Int32) (p2 : Int32) (x23 : Int32) (p3 : Int32)
    (ha : K a = 12)
    (hk9999 : K (F a 5) = 8)
    (hj9999 : F (F a 5) 99 = 2)
    (hk9999a : K (F (F a 5) 0) = 20)
    (hj9999b : F (F (F a 5) 0) 99 = 2)
    (hk9999b : K (F (F a 5) 1) = 21)
    (hj9999d : F (F (F a 5) 1) 99 = 2)
    (hk9999c : K (F a 3) = 8)
    (hj9999e : F (F a 3) 99 = 0)
    (hk9999d : K (F (F a 3) 0) = 20)
    (hj9999g : F (F (F a 3) 0) 99 = 0)
    (hk9999e : K (F (F a 3) 1) = 21)
    (hj9999i : F (F (F a 3) 1) 99 = 0)
    (t1 : (x1.toInt = 1 ∧ 0 ≤ p0.toInt ∧ p0.toInt < 3) ∨ (x1.toInt = 0 ∧ (p0.toInt < 0 ∨ 3 ≤ p0.toInt)))
    (c4 : ¬ (x1.toInt = 0))
    (t8 : (x8.toInt = 1 ∧ 0 ≤ p1.toInt ∧ p1.toInt < 30) ∨ (x8.toInt = 0 ∧ (p1.toInt < 0 ∨ 30 ≤ p1.toInt)))
    (c11 : ¬ (x8.toInt = 0))
    (t15 : (x15.toInt = 1 ∧ 0 ≤ p2.toInt ∧ p2.toInt < 3) ∨ (x15.toInt = 0 ∧ (p2.toInt < 0 ∨ 3 ≤ p2.toInt)))
    (c18 : ¬ (x15.toInt = 0))
    (t23 : (x23.toInt = 1 ∧ (p3.toInt = -1000 ∨ (-99 ≤ p3.toInt ∧ p3.toInt < 100))) ∨ (x23.toInt = 0 ∧ p3.toInt ≠ -1000 ∧ (p3.toInt < -99 ∨ 100 ≤ p3.toInt)))
    (c26 : ¬ (x23.toInt ≠ 0)) :
    ((-1 : Int) = -1 ∧ ¬ ((0 ≤ p0.toInt ∧ p0.toInt < 3) ∧ (0 ≤ p1.toInt ∧ p1.toInt < 30) ∧ (0 ≤ p2.toInt ∧ p2.toInt < 3) ∧ (p3.toInt = -1000 ∨ (-99 ≤ p3.toInt ∧ p3.toInt ≤ 99)))) ∨ ((0 ≤ p0.toInt ∧ p0.toInt < 3) ∧ (0 ≤ p1.toInt ∧ p1.toInt < 30) ∧ (0 ≤ p2.toInt ∧ p2.toInt < 3) ∧ (p3.toInt = -1000 ∨ (-99 ≤ p3.toInt ∧ p3.toInt ≤ 99)) ∧ (((-1 : Int) = -2 ∧ cel (vw (G.2.1 (F (F a 3) 0))) p0.toInt p1.toInt 0 = -2000) ∨ (cel (vw (G.2.1 (F (F a 3) 0))) p0.toInt p1.toInt 0 ≠ -2000 ∧ (((-1 : Int) = -4 ∧ cel (vw (G.2.1 (F (F a 3) 0))) p0.toInt p1.toInt p2.toInt = p3.toInt) ∨ ((-1 : Int) = 0 ∧ cel (vw (G.2.1 (F (F a 3) 0))) p0.toInt p1.toInt p2.toInt ≠ p3.toInt ∧ (vw (G.2.1 (F (F a 5) 0))) = rset (vw (G.2.1 (F (F a 3) 0))) (90 * p0.toInt + 30 * p2.toInt + p1.toInt) p3.toInt ∧ RO (vw (G.2.1 (F (F a 5) 0))) (aI (G.2.1 (F (F a 5) 1)))))))) := by
  exact Or.inl ⟨rfl, by omega⟩
theorem z_X10_rowsAtMark_1 (a0 : Int) (h0 : ¬ (a0 < 0)) (h1 : ¬ ((8 : Int) ≤ a0)) : 0 ≤ a0 ∧ a0 < 8 := by omega
theorem z_X10_rowsAtMark_2 (a0 : Int) (a1 : Int) (h0 : ¬ (a0 < 0)) (h1 : ¬ (a1 ≤ a0)) (h2 : ¬ ((8 : Int) ≤ a0)) : 0 ≤ a0 ∧ a0 < a1 ∧ a0 < 8 := by omega
abbrev rm_X10_rowsAtMark : Room := { frames := 0, cells := 0, slots := 0, locals := 0 }
set_option maxHeartbeats 4000000 in
set_option maxRecDepth 100000 in
theorem c_X10_rowsAtMark (l : Launch) (E : XE) (K : Nat → Nat) (F : Nat → Nat → Nat) (G : XG) (h0 : Heap) (a : Nat) (p0 : Int32) (ha : K a = 12) : Met l yX10_rowsAtMark (xw yX10_rowsAtMark cX10_rowsAtMark 2 (some (.object "LateRules$Rows"))) rm_X10_rowsAtMark (va_Pc [.ref a, .int p0] (XPh E K F G h0)) (XQ E (fun v (u : Unit) => (v = .null ∧ (p0.toInt < 0 ∨ ((G.1 a 17).toInt) ≤ p0.toInt ∨ 8 ≤ p0.toInt)) ∨ (∃ q : Nat, v = .ref q ∧ K q = 8 ∧ (0 ≤ p0.toInt ∧ p0.toInt < ((G.1 a 17).toInt) ∧ p0.toInt < 8) ∧ (F q 99 = 4 + (p0.toInt).toNat ∧ G.2.2.1 (F a 7) (p0.toInt).toNat = some q))) (fun _ H => H = h0)) 0 0 (xA E) := by
  refine x_enter (by decide) (Nat.le_of_ble_eq_true rfl) ?_
  intro p e s m args below meth c Q S hr hlk hnm hQ hP ls hl
  obtain ⟨⟨hz, hK, hT⟩, hh⟩ := hP
  obtain ⟨hx, hb, -, -, -⟩ := id S
  have hS : va_S (xA E) s.heap s.heap [] := va_S.rf
  have hl : lv_has ls 2 [(0, .ref a), (1, .int p0)] := hl
  obtain ⟨hk9999, hj9999⟩ := fkX10_7 hT ha
  refine lv_iload_n hx hb dX10_rowsAtMark_0 rfl (lv_at hl 1 rfl) ?_
  refine xi_zlt (tgt := 27) hx hb (rfl : Int32.toInt p0 = p0.toInt) dX10_rowsAtMark_1 (by decide) (fun c1 => ?_) (fun c1 => ?_)
  · refine lv_null hx hb dX10_rowsAtMark_27 ?_
    exact x_ra hx hb hr (by first | exact Or.inl ⟨_, rfl⟩ | exact Or.inr ⟨_, rfl⟩) (by first | exact Or.inl rfl | exact Or.inr ⟨_, rfl⟩) hlk hQ (Nat.le_of_ble_eq_true rfl) (Nat.le_of_ble_eq_true rfl) hS dX10_rowsAtMark_28 () (Or.inl ⟨rfl, (v_X10_rowsAtMark_28_1 (K := K) a p0 G ha c1)⟩) hh
  · refine lv_iload_n hx hb dX10_rowsAtMark_4 rfl (lv_at hl 1 rfl) ?_
    refine lv_aload_n hx hb dX10_rowsAtMark_5 rfl (lv_at hl 0 rfl) ?_
    refine gX10_17 S hK hT ha kf_X10_233 dX10_rowsAtMark_6 (v := (G.1 a 17)) rfl (?_)
    refine xi_cge (tgt := 27) hx hb (rfl : Int32.toInt p0 = p0.toInt) (rfl : Int32.toInt (G.1 a 17) = ((G.1 a 17).toInt)) dX10_rowsAtMark_9 (by decide) (fun c9 => ?_) (fun c9 => ?_)
    · refine lv_null hx hb dX10_rowsAtMark_27 ?_
      exact x_ra hx hb hr (by first | exact Or.inl ⟨_, rfl⟩ | exact Or.inr ⟨_, rfl⟩) (by first | exact Or.inl rfl | exact Or.inr ⟨_, rfl⟩) hlk hQ (Nat.le_of_ble_eq_true rfl) (Nat.le_of_ble_eq_true rfl) hS dX10_rowsAtMark_28 () (Or.inl ⟨rfl, (v_X10_rowsAtMark_28_2 (K := K) a p0 G ha c1 c9)⟩) hh
    · refine lv_iload_n hx hb dX10_rowsAtMark_12 rfl (lv_at hl 1 rfl) ?_
      refine lv_bipush (v := 8) hx hb dX10_rowsAtMark_13 (by decide) ?_
      refine xi_cge (tgt := 27) hx hb (rfl : Int32.toInt p0 = p0.toInt) ((by decide) : Int32.toInt 8 = (8 : Int)) dX10_rowsAtMark_15 (by decide) (fun c15 => ?_) (fun c15 => ?_)
      · refine lv_null hx hb dX10_rowsAtMark_27 ?_
        exact x_ra hx hb hr (by first | exact Or.inl ⟨_, rfl⟩ | exact Or.inr ⟨_, rfl⟩) (by first | exact Or.inl rfl | exact Or.inr ⟨_, rfl⟩) hlk hQ (Nat.le_of_ble_eq_true rfl) (Nat.le_of_ble_eq_true rfl) hS dX10_rowsAtMark_28 () (Or.inl ⟨rfl, (v_X10_rowsAtMark_28_3 (K := K) a p0 G ha c1 c9 c15)⟩) hh
      · refine lv_aload_n hx hb dX10_rowsAtMark_18 rfl (lv_at hl 0 rfl) ?_
        refine gX10_7 S hK hT ha kf_X10_50 dX10_rowsAtMark_19 (fun _ _ => ?_)
        refine lv_iload_n hx hb dX10_rowsAtMark_22 rfl (lv_at hl 1 rfl) ?_
        refine al_16 S hK hT hk9999 (z_X10_rowsAtMark_1 p0.toInt c1 c15) dX10_rowsAtMark_23 (fun q23 hR23 hk23 hj23 => ?_)
        have hR23 : G.2.2.1 (F a 7) (p0.toInt).toNat = some q23 := by rw [← (rfl : Int32.toInt p0 = p0.toInt)]; exact hR23
        refine lv_goto (tgt := 28) hx hb dX10_rowsAtMark_24 (by decide) ?_
        exact x_ra hx hb hr (by first | exact Or.inl ⟨_, rfl⟩ | exact Or.inr ⟨_, rfl⟩) (by first | exact Or.inl rfl | exact Or.inr ⟨_, rfl⟩) hlk hQ (Nat.le_of_ble_eq_true rfl) (Nat.le_of_ble_eq_true rfl) hS dX10_rowsAtMark_28 () (Or.inr ⟨_, rfl, hk23, (z_X10_rowsAtMark_2 p0.toInt ((G.1 a 17).toInt) c1 c9 c15), (v_X10_rowsAtMark_28_4 (F := F) a q23 p0 G hj23 hR23)⟩) hh

theorem z_X10_gather_1 (a0 : Int) (h0 : -2147483648 ≤ a0 ∧ a0 < 2147483648) : ¬ (2147483648 - a0 < ((0 : Nat) : Int)) := by omega
theorem z_X10_gather_2 (a0 : Int) (a1 : Int) (a2 : Int) (h0 : 0 ≤ a1 ∧ a1 ≤ 12) (h1 : 0 ≤ a0 ∧ a0 ≤ a1) (h2 : 0 ≤ a2 ∧ a2 ≤ 90 * a0) : 0 ≤ a2 ∧ a2 ≤ 1080 := by omega
theorem z_X10_gather_3 (a0 : Int) (a1 : Int) (a2 : Int) (h0 : 0 ≤ a2 ∧ a2 ≤ 12) (h1 : 0 ≤ a0 ∧ a0 ≤ a2) (h2 : a1 = (a0 + 1) ∨ (a0 + 1) < -2147483648 ∨ 2147483648 ≤ (a0 + 1)) : a1 = (a0 + 1) := by omega
theorem z_X10_gather_4 (a0 : Int) (a1 : Int) (h0 : 0 ≤ a0 ∧ a0 ≤ a1) (h1 : ¬ (a1 ≤ a0)) : 0 ≤ (a0 + 1) ∧ (a0 + 1) ≤ a1 := by omega
theorem z_X10_gather_5 (a0 : Int) (a1 : Int) (h0 : 0 ≤ a1 ∧ a1 ≤ 90 * a0) : 0 ≤ a1 ∧ a1 ≤ 90 * (a0 + 1) := by omega
theorem z_X10_gather_6 (a0 : Int) (a1 : Int) (h0 : 0 ≤ a0 ∧ a0 ≤ a1) : (0 : Int) ≤ (a0 + 1) := by omega
theorem z_X10_gather_7 (a0 : Int) (a1 : Nat) (h0 : 2147483648 - a0 < ((a1 + 1 : Nat) : Int)) : 2147483648 - (a0 + 1) < ((a1 : Nat) : Int) := by omega
theorem z_X10_gather_8 (a0 : Int) (a1 : Int) (a2 : Int) (h0 : 0 ≤ a0 ∧ a0 < a2 ∧ a0 < 12) (h1 : a1 = (a0 + 1) ∨ (a0 + 1) < -2147483648 ∨ 2147483648 ≤ (a0 + 1)) : a1 = (a0 + 1) := by omega
theorem z_X10_gather_13 (a0 : Int) (a1 : Int) (a2 : Int) (h0 : 0 ≤ a2 ∧ a2 ≤ 90 * a0) (h1 : 0 ≤ a0 ∧ a0 < a1 ∧ a0 < 12) : 0 ≤ a2 ∧ a2 ≤ 990 := by omega
theorem z_X10_gather_16 (a0 : Int) (a1 : Int) (a2 : Int) (h0 : 0 ≤ a2 ∧ a2 ≤ 90 * a0) (h1 : a2 ≤ a1 ∧ a1 ≤ a2 + 90) : 0 ≤ a1 ∧ a1 ≤ 90 * (a0 + 1) := by omega
theorem z_X10_gather_19 (a0 : Int) (h0 : 0 ≤ a0 ∧ a0 ≤ 12) : 0 ≤ (0 : Int) ∧ (0 : Int) ≤ a0 := by omega
theorem z_X10_gather_20 (a0 : Int) (h0 : a0 = 0) : 0 ≤ a0 ∧ a0 ≤ 90 * (0 : Int) := by omega
abbrev rm_X10_gather : Room := { frames := 5, cells := 0, slots := 0, locals := 123 }
set_option maxHeartbeats 4000000 in
set_option maxRecDepth 100000 in
theorem c_X10_gather (l : Launch) (E : XE) (K : Nat → Nat) (F : Nat → Nat → Nat) (G : XG) (a : Nat) (p0 : Nat) (p1 : Nat) (p2 : Nat) (p3 : Int32) (ha : K a = 12) (hp0 : K p0 = 6) (hp1 : K p1 = 8) (hp2 : K p2 = 8) (sb : 0 ≤ ((G.1 (F a 2) 2).toInt) ∧ ((G.1 (F a 2) 2).toInt) ≤ 12) (ro1 : RO (vw (G.2.1 (F p1 0))) (aI (G.2.1 (F p1 1)))) (ro2 : RO (vw (G.2.1 (F p2 0))) (aI (G.2.1 (F p2 1)))) (hbk : ∀ (i q : Nat), i < 12 → G.2.2.1 (F (F a 2) 1) i = some q → RW (G.1 q)) (j1 : F p1 99 < 12) (j2 : F p2 99 < 12) : Met l yX10_gather (xw yX10_gather cX10_gather 7 none) rm_X10_gather (va_Pc [.ref a, .ref p0, .ref p1, .ref p2, .int p3] (XP E K F G)) (XQv E (fun (u : XG) => XFr [(F a 11, 3), (p0, 6)] [F (F a 11) 0, F (F a 11) 1, F (F a 11) 2, F p0 0, F p0 1, F p0 2, F p0 3, F p0 4, F p0 5] [] G u ∧ (0 ≤ ((u.1 p0 6).toInt) ∧ ((u.1 p0 6).toInt) ≤ 1080) ∧ (qL u F p0 = gaL G (G.2.2.1 (F (F a 2) 1)) (vw (G.2.1 (F p1 0))) (vw (G.2.1 (F p2 0))) p3.toInt (((G.1 (F a 2) 2).toInt)).toNat)) (fun u H => TW E K F u H)) 0 0 (xA E) := by
  refine x_enter (by decide) (Nat.le_of_ble_eq_true rfl) ?_
  intro p e s m args below meth c Q S hr hlk hnm hQ hP ls hl
  obtain ⟨hz, hK, hT⟩ := hP
  obtain ⟨hx, hb, -, -, -⟩ := id S
  obtain ⟨H, hT, hS, hgo⟩ : ∃ H : Heap, TW E K F G H ∧ va_S (xA E) s.heap H [] ∧ H = s.heap := ⟨_, hT, va_S.rf, rfl⟩
  rw [← hgo]
  have hl : lv_has ls 7 [(0, .ref a), (1, .ref p0), (2, .ref p1), (3, .ref p2), (4, .int p3)] := hl
  obtain ⟨hk9999, hj9999⟩ := fkX10_11 hT ha
  obtain ⟨hk9999a, hj9999a⟩ := fkX1_0 hT hk9999
  obtain ⟨hk9999b, hj9999b⟩ := fkX1_1 hT hk9999
  obtain ⟨hk9999c, hj9999c⟩ := fkX1_2 hT hk9999
  obtain ⟨hk9999d, hj9999d⟩ := fkX4_0 hT hp0
  obtain ⟨hk9999e, hj9999e⟩ := fkX4_1 hT hp0
  obtain ⟨hk9999f, hj9999f⟩ := fkX4_2 hT hp0
  obtain ⟨hk9999g, hj9999g⟩ := fkX4_3 hT hp0
  obtain ⟨hk9999h, hj9999h⟩ := fkX4_4 hT hp0
  obtain ⟨hk9999i, hj9999i⟩ := fkX4_5 hT hp0
  obtain ⟨hk9999j, hj9999j⟩ := fkX10_2 hT ha
  obtain ⟨hk9999k, hj9999k⟩ := fkX0_1 hT hk9999j
  obtain ⟨hk9999l, hj9999l⟩ := fkX6_0 hT hp1
  obtain ⟨hk9999m, hj9999m⟩ := fkX6_1 hT hp1
  obtain ⟨hk9999n, hj9999n⟩ := fkX6_0 hT hp2
  obtain ⟨hk9999o, hj9999o⟩ := fkX6_1 hT hp2
  refine lv_aload_n hx hb dX10_gather_0 rfl (lv_at hl 1 rfl) ?_
  refine x_cv0 (x_runV (b := p0) (As := []) (rest := []) S (c_X4_clear l E K F G p0 hp0) mv_X4_clear km_X10_386 rfl rfl ⟨Nat.le_of_ble_eq_true rfl, Nat.le_of_ble_eq_true rfl⟩ (rc_6 hK hT hp0) hK (fun _ => XP.blind) (fun U hU hW => XP.at hK hz hS hT hU hW) rfl hl.1 (Nat.le_of_ble_eq_true rfl) dX10_gather_1 ⟨Nat.le_of_ble_eq_true rfl, Nat.le_of_ble_eq_true rfl⟩) hS ?_
  rintro G1 H locs ⟨hF1, t1⟩ hT hS
  have t1 : ((G1.1 p0 6).toInt) = 0 := t1
  refine lv_aload_n hx hb dX10_gather_4 rfl (lv_at hl 0 rfl) ?_
  refine gX10_11 S hK hT ha kf_X10_70 dX10_gather_5 (fun _ _ => ?_)
  refine lv_aload_n hx hb dX10_gather_8 rfl (lv_at hl 2 rfl) ?_
  refine lv_aload_n hx hb dX10_gather_9 rfl (lv_at hl 3 rfl) ?_
  refine x_cv0 (x_runV (b := (F a 11)) (As := [.ref p1, .ref p2]) (rest := []) S (c_X1_ofAllRows l E K F G1 (F a 11) p1 p2 hk9999 hp1 hp2 (v_X10_gather_10_1 (F := F) p1 p2 G G1 ro1 ro2 (hF1.2.1 _ xn0) (hF1.2.1 _ xn0)) (v_X10_gather_10_2 (F := F) p1 p2 G G1 ro1 ro2 (hF1.2.1 _ xn0) (hF1.2.1 _ xn0)) (v_X10_gather_10_3 (F := F) p1 j1) (v_X10_gather_10_4 (F := F) p2 j2)) mv_X1_ofAllRows km_X10_387 rfl rfl ⟨Nat.le_of_ble_eq_true rfl, Nat.le_of_ble_eq_true rfl⟩ (rc_3 hK hT hk9999) hK (fun _ => XP.blind) (fun U hU hW => XP.at hK hz hS hT hU hW) rfl hl.1 (Nat.le_of_ble_eq_true rfl) dX10_gather_10 ⟨Nat.le_of_ble_eq_true rfl, Nat.le_of_ble_eq_true rfl⟩) hS ?_
  rintro G10 H locs ⟨hF10, oq10⟩ hT hS
  have oq10 : CH (vw (G.2.1 (F p1 0))) (vw (G.2.1 (F p2 0))) (aI (G10.2.1 (F (F a 11) 1))) (aI (G10.2.1 (F (F a 11) 0))) := by simp only [(show G1.2.1 (F p1 0) = G.2.1 (F p1 0) from (hF1.2.1 _ xn0)), (show G1.2.1 (F p2 0) = G.2.1 (F p2 0) from (hF1.2.1 _ xn0))] at oq10; exact oq10
  refine lv_iconst (v := 0) hx hb dX10_gather_13 (by decide) ?_
  refine lv_istore (lv' := [(5, .int 0), (0, .ref a), (1, .ref p0), (2, .ref p1), (3, .ref p2), (4, .int p3)]) hx hb dX10_gather_14 hl (by decide) rfl (fun ls hl => ?_)
  have L16 : ∀ (N16 : Nat) (l5_16 : Int32) (G_16 : XG) (H : Heap) (locs : List Loc) (ls : Array Slot), XFr [(F a 11, 3), (p0, 6)] [F (F a 11) 2, F p0 0, F p0 1, F p0 2, F p0 3, F p0 4, F p0 5] [] G10 G_16 → qL G_16 F p0 = gaL G (G.2.2.1 (F (F a 2) 1)) (vw (G.2.1 (F p1 0))) (vw (G.2.1 (F p2 0))) p3.toInt (l5_16.toInt).toNat → 0 ≤ l5_16.toInt ∧ l5_16.toInt ≤ ((G.1 (F a 2) 2).toInt) → 0 ≤ ((G_16.1 p0 6).toInt) ∧ ((G_16.1 p0 6).toInt) ≤ 90 * l5_16.toInt → (0 : Int) ≤ l5_16.toInt → 2147483648 - l5_16.toInt < ((N16 : Nat) : Int) → TW E K F G_16 H → va_S (xA E) s.heap H locs → lv_has ls 7 [(0, .ref a), (1, .ref p0), (2, .ref p1), (3, .ref p2), (4, .int p3), (5, .int l5_16)] → W p l e rm_X10_gather s m args below meth c H locs 0 0 Q (F0 m 16 ls []) := by
    intro N16
    induction N16 with
    | zero =>
      intro l5_16 G_16 H locs ls hF_16 pg I16_0 I16_1 I16_2 hm16
      exact absurd hm16 (z_X10_gather_1 l5_16.toInt (xr l5_16))
    | succ N16 ih16 =>
      intro l5_16 G_16 H locs ls hF_16 pg I16_0 I16_1 I16_2 hm16 hT hS hl
      refine lv_iload hx hb dX10_gather_16 (lv_at hl 5 rfl) ?_
      refine lv_aload_n hx hb dX10_gather_18 rfl (lv_at hl 0 rfl) ?_
      refine gX10_2 S hK hT ha kf_X10_30 dX10_gather_19 (fun _ _ => ?_)
      refine x_clp (x_runV (b := (F a 2)) (As := []) (rest := [.int l5_16]) S (c_X0_size l E K F G_16 H (F a 2) hk9999j) mv_X0_size km_X10_167 rfl rfl ⟨Nat.le_of_ble_eq_true rfl, Nat.le_of_ble_eq_true rfl⟩ (rc_2 hK hT hk9999j) hK (fun _ => XPh.blind) (fun U hU hW => XPh.at hK hz hS hT hU hW) rfl hl.1 (Nat.le_of_ble_eq_true rfl) dX10_gather_22 ⟨Nat.le_of_ble_eq_true rfl, Nat.le_of_ble_eq_true rfl⟩) hS ?_
      rintro _ _ locs ⟨x22, rfl, t22⟩ hS
      have t22 : x22.toInt = ((G.1 (F a 2) 2).toInt) := by rw [(show (G_16.1 (F a 2) 2).toInt = ((G.1 (F a 2) 2).toInt) from (congrArg Int32.toInt ((hF_16.1 _ _ (xnj (by decide) (xnj (by decide) xn0))).trans ((hF10.1 _ _ xn0).trans (hF1.1 _ _ (xnj (by decide) xn0))))).trans (rfl : Int32.toInt (G.1 (F a 2) 2) = ((G.1 (F a 2) 2).toInt)))] at t22; exact t22
      refine xi_cge (tgt := 72) hx hb (rfl : Int32.toInt l5_16 = l5_16.toInt) (t22 : Int32.toInt x22 = ((G.1 (F a 2) 2).toInt)) dX10_gather_25 (by decide) (fun c25 => ?_) (fun c25 => ?_)
      · exact x_rv hx hb hr hlk hQ (Nat.le_of_ble_eq_true rfl) (Nat.le_of_ble_eq_true rfl) hS dX10_gather_72 G_16 ⟨(XFr.call (XFr.call (XFr.call XFr.rf hF1 (xm1 1 rfl xm0) xm0 xm0) hF10 xm0 (xm1 0 rfl (xm1 1 rfl xm0)) xm0) hF_16 (xm1 0 rfl (xm1 1 rfl xm0)) (xm1 2 rfl (xm1 3 rfl (xm1 4 rfl (xm1 5 rfl (xm1 6 rfl (xm1 7 rfl (xm1 8 rfl xm0))))))) xm0), (z_X10_gather_2 l5_16.toInt ((G.1 (F a 2) 2).toInt) ((G_16.1 p0 6).toInt) sb I16_0 I16_1), (v_X10_gather_72_5 (K := K) (F := F) a p0 p1 p2 G G1 G10 G_16 p3 l5_16 N16 ha hp0 hp1 hp2 j1 j2 oq10 pg sb t1 I16_0 I16_1 I16_2 hm16 c25)⟩ hT
      · refine lv_aload_n hx hb dX10_gather_28 rfl (lv_at hl 0 rfl) ?_
        refine gX10_2 S hK hT ha kf_X10_30 dX10_gather_29 (fun _ _ => ?_)
        refine lv_iload hx hb dX10_gather_32 (lv_at hl 5 rfl) ?_
        refine x_clp (x_runV (b := (F a 2)) (As := [.int l5_16]) (rest := []) S (c_X0_inOrder l E K F G_16 H (F a 2) l5_16 hk9999j) mv_X0_inOrder km_X10_391 rfl rfl ⟨Nat.le_of_ble_eq_true rfl, Nat.le_of_ble_eq_true rfl⟩ (rc_2 hK hT hk9999j) hK (fun _ => XPh.blind) (fun U hU hW => XPh.at hK hz hS hT hU hW) rfl hl.1 (Nat.le_of_ble_eq_true rfl) dX10_gather_34 ⟨Nat.le_of_ble_eq_true rfl, Nat.le_of_ble_eq_true rfl⟩) hS ?_
        rintro _ _ locs (⟨rfl, hn34⟩ | ⟨q34, rfl, hk34, ht34, hs34⟩) hS
        · refine lv_astoreN (lv' := [(6, .null), (0, .ref a), (1, .ref p0), (2, .ref p1), (3, .ref p2), (4, .int p3), (5, .int l5_16)]) hx hb dX10_gather_37 hl (by decide) rfl (fun ls hl => ?_)
          refine lv_aloadN hx hb dX10_gather_39 (lv_at hl 0 rfl) ?_
          refine lv_ifnullN (tgt := 66) hx hb dX10_gather_41 (by decide) ?_
          refine xi_iinc (n := 1) (lv' := fun z9 => [(5, .int z9), (6, .null), (0, .ref a), (1, .ref p0), (2, .ref p1), (3, .ref p2), (4, .int p3)]) (k := 6) hx hb (rfl : Int32.toInt l5_16 = l5_16.toInt) (by decide) dX10_gather_66 hl rfl (by decide) (fun _ => rfl) (fun x66 ls t66 hl => ?_)
          have e66 : x66.toInt = (l5_16.toInt + 1) := (z_X10_gather_3 l5_16.toInt x66.toInt ((G.1 (F a 2) 2).toInt) sb I16_0 t66)
          have hl : lv_has ls 7 [(5, .int x66), (6, .null), (0, .ref a), (1, .ref p0), (2, .ref p1), (3, .ref p2), (4, .int p3)] := hl
          refine lv_goto (tgt := 16) hx hb dX10_gather_69 (by decide) ?_
          exact ih16 x66 G_16 _ _ _ (XFr.call XFr.rf hF_16 (xm1 0 rfl (xm1 1 rfl xm0)) (xm1 0 rfl (xm1 1 rfl (xm1 2 rfl (xm1 3 rfl (xm1 4 rfl (xm1 5 rfl (xm1 6 rfl xm0))))))) xm0) (by rw [(e66 : Int32.toInt x66 = (l5_16.toInt + 1))] <;> exact (v_X10_gather_69_6 (K := K) (F := F) a p0 p1 p2 G G1 G10 G_16 p3 l5_16 N16 ha hp0 hp1 hp2 j1 j2 oq10 pg hn34 sb t1 I16_0 I16_1 I16_2 hm16 c25 ((hF_16.2.2 _ xn0).trans ((hF10.2.2 _ xn0).trans (hF1.2.2 _ xn0))) ((hF_16.1 _ _ (xnj (by decide) (xnj (by decide) xn0))).trans ((hF10.1 _ _ xn0).trans (hF1.1 _ _ (xnj (by decide) xn0)))))) (by rw [(e66 : Int32.toInt x66 = (l5_16.toInt + 1))] <;> exact (z_X10_gather_4 l5_16.toInt ((G.1 (F a 2) 2).toInt) I16_0 c25)) (by rw [(e66 : Int32.toInt x66 = (l5_16.toInt + 1))] <;> exact (z_X10_gather_5 l5_16.toInt ((G_16.1 p0 6).toInt) I16_1)) (by rw [(e66 : Int32.toInt x66 = (l5_16.toInt + 1))] <;> exact (z_X10_gather_6 l5_16.toInt ((G.1 (F a 2) 2).toInt) I16_0)) (by rw [(e66 : Int32.toInt x66 = (l5_16.toInt + 1))] <;> exact (z_X10_gather_7 l5_16.toInt N16 hm16)) hT hS (lv_sub hl [2, 3, 4, 5, 6, 0] rfl)
        · have ht34 : 0 ≤ l5_16.toInt ∧ l5_16.toInt < ((G.1 (F a 2) 2).toInt) ∧ l5_16.toInt < 12 := by rw [(show (G_16.1 (F a 2) 2).toInt = ((G.1 (F a 2) 2).toInt) from (congrArg Int32.toInt ((hF_16.1 _ _ (xnj (by decide) (xnj (by decide) xn0))).trans ((hF10.1 _ _ xn0).trans (hF1.1 _ _ (xnj (by decide) xn0))))).trans (rfl : Int32.toInt (G.1 (F a 2) 2) = ((G.1 (F a 2) 2).toInt)))] at ht34; exact ht34
          refine lv_astore (lv' := [(6, .ref q34), (0, .ref a), (1, .ref p0), (2, .ref p1), (3, .ref p2), (4, .int p3), (5, .int l5_16)]) hx hb dX10_gather_37 hl (by decide) rfl (fun ls hl => ?_)
          refine lv_aload hx hb dX10_gather_39 (lv_at hl 0 rfl) ?_
          refine lv_ifnull hx hb dX10_gather_41 ?_
          refine lv_aload hx hb dX10_gather_44 (lv_at hl 0 rfl) ?_
          refine lv_iload hx hb dX10_gather_46 (lv_at hl 5 rfl) ?_
          refine x_clp (x_runV (b := q34) (As := [.int p3]) (rest := []) S (c_X7_isAmong l E K F G_16 H q34 p3 hk34) mv_X7_isAmong km_X10_394 rfl rfl ⟨Nat.le_of_ble_eq_true rfl, Nat.le_of_ble_eq_true rfl⟩ (rc_9 hK hT hk34) hK (fun _ => XPh.blind) (fun U hU hW => XPh.at hK hz hS hT hU hW) rfl hl.1 (Nat.le_of_ble_eq_true rfl) dX10_gather_48 ⟨Nat.le_of_ble_eq_true rfl, Nat.le_of_ble_eq_true rfl⟩) hS ?_
          rintro _ _ locs ⟨x48, rfl, b48, t48⟩ hS
          have t48 : ((p3.toInt = 0 ∨ (((G.1 q34 9).toInt) = 1 ∧ p3.toInt = 1) ∨ (((G.1 q34 9).toInt) = 0 ∧ p3.toInt ≠ 1)) ∧ x48.toInt = 1) ∨ ((¬ (p3.toInt = 0 ∨ (((G.1 q34 9).toInt) = 1 ∧ p3.toInt = 1) ∨ (((G.1 q34 9).toInt) = 0 ∧ p3.toInt ≠ 1))) ∧ x48.toInt = 0) := by rw [(show (G_16.1 q34 9).toInt = ((G.1 q34 9).toInt) from (congrArg Int32.toInt ((hF_16.1 _ _ (xnj (by decide) (xnj (by decide) xn0))).trans ((hF10.1 _ _ xn0).trans (hF1.1 _ _ (xnj (by decide) xn0))))).trans (rfl : Int32.toInt (G.1 q34 9) = ((G.1 q34 9).toInt)))] at t48; exact t48
          refine xi_zeq (tgt := 66) hx hb (rfl : Int32.toInt x48 = x48.toInt) dX10_gather_51 (by decide) (fun c51 => ?_) (fun c51 => ?_)
          · refine xi_iinc (n := 1) (lv' := fun z9 => [(5, .int z9), (6, .ref q34), (0, .ref a), (1, .ref p0), (2, .ref p1), (3, .ref p2), (4, .int p3)]) (k := 6) hx hb (rfl : Int32.toInt l5_16 = l5_16.toInt) (by decide) dX10_gather_66 hl rfl (by decide) (fun _ => rfl) (fun x66 ls t66 hl => ?_)
            have e66 : x66.toInt = (l5_16.toInt + 1) := (z_X10_gather_8 l5_16.toInt x66.toInt ((G.1 (F a 2) 2).toInt) ht34 t66)
            have hl : lv_has ls 7 [(5, .int x66), (6, .ref q34), (0, .ref a), (1, .ref p0), (2, .ref p1), (3, .ref p2), (4, .int p3)] := hl
            refine lv_goto (tgt := 16) hx hb dX10_gather_69 (by decide) ?_
            exact ih16 x66 G_16 _ _ _ (XFr.call XFr.rf hF_16 (xm1 0 rfl (xm1 1 rfl xm0)) (xm1 0 rfl (xm1 1 rfl (xm1 2 rfl (xm1 3 rfl (xm1 4 rfl (xm1 5 rfl (xm1 6 rfl xm0))))))) xm0) (by rw [(e66 : Int32.toInt x66 = (l5_16.toInt + 1))] <;> exact (v_X10_gather_69_7 (K := K) (F := F) a p0 p1 p2 q34 G G1 G10 G_16 p3 l5_16 N16 x48 ha hp0 hp1 hp2 j1 j2 oq10 pg hs34 sb t1 I16_0 I16_1 I16_2 hm16 c25 ht34 t48 c51 ((hF_16.2.2 _ xn0).trans ((hF10.2.2 _ xn0).trans (hF1.2.2 _ xn0))))) (by rw [(e66 : Int32.toInt x66 = (l5_16.toInt + 1))] <;> exact (z_X10_gather_4 l5_16.toInt ((G.1 (F a 2) 2).toInt) I16_0 c25)) (by rw [(e66 : Int32.toInt x66 = (l5_16.toInt + 1))] <;> exact (z_X10_gather_5 l5_16.toInt ((G_16.1 p0 6).toInt) I16_1)) (by rw [(e66 : Int32.toInt x66 = (l5_16.toInt + 1))] <;> exact (z_X10_gather_6 l5_16.toInt ((G.1 (F a 2) 2).toInt) I16_0)) (by rw [(e66 : Int32.toInt x66 = (l5_16.toInt + 1))] <;> exact (z_X10_gather_7 l5_16.toInt N16 hm16)) hT hS (lv_sub hl [2, 3, 4, 5, 6, 0] rfl)
          · refine lv_aload_n hx hb dX10_gather_54 rfl (lv_at hl 1 rfl) ?_
            refine gX10_11 S hK hT ha kf_X10_70 dX10_gather_55 (fun _ _ => ?_)
            refine lv_aload hx hb dX10_gather_58 (lv_at hl 0 rfl) ?_
            refine lv_aload_n hx hb dX10_gather_60 rfl (lv_at hl 3 rfl) ?_
            refine lv_aload_n hx hb dX10_gather_61 rfl (lv_at hl 4 rfl) ?_
            refine lv_aload_n hx hb dX10_gather_62 rfl (lv_at hl 2 rfl) ?_
            refine x_cv0 (x_runV (b := (F a 11)) (As := [.ref q34, .ref p1, .ref p2, .ref p0]) (rest := []) S (c_X1_addQuestions l E K F G_16 (F a 11) q34 p1 p2 p0 hk9999 hk34 hp1 hp2 hp0 (z_X10_gather_13 l5_16.toInt ((G.1 (F a 2) 2).toInt) ((G_16.1 p0 6).toInt) I16_1 ht34) (v_X10_gather_63_8 (F := F) p1 p2 G G_16 ro1 ro2 ((hF_16.2.1 _ (xn1 (xne_k hk9999l hk9999c (by decide)) (xn1 (xne_k hk9999l hk9999d (by decide)) (xn1 (xne_k hk9999l hk9999e (by decide)) (xn1 (xne_k hk9999l hk9999f (by decide)) (xn1 (xne_k hk9999l hk9999g (by decide)) (xn1 (xne_k hk9999l hk9999h (by decide)) (xn1 (xne_k hk9999l hk9999i (by decide)) xn0)))))))).trans ((hF10.2.1 _ (xn1 (xne_k hk9999l hk9999a (by decide)) (xn1 (xne_k hk9999l hk9999b (by decide)) xn0))).trans (hF1.2.1 _ xn0))) ((hF_16.2.1 _ (xn1 (xne_k hk9999m hk9999c (by decide)) (xn1 (xne_k hk9999m hk9999d (by decide)) (xn1 (xne_k hk9999m hk9999e (by decide)) (xn1 (xne_k hk9999m hk9999f (by decide)) (xn1 (xne_k hk9999m hk9999g (by decide)) (xn1 (xne_k hk9999m hk9999h (by decide)) (xn1 (xne_k hk9999m hk9999i (by decide)) xn0)))))))).trans ((hF10.2.1 _ (xn1 (xne_j hj9999m hj9999a (by first | decide | omega)) (xn1 (xne_j hj9999m hj9999b (by first | decide | omega)) xn0))).trans (hF1.2.1 _ xn0)))) (v_X10_gather_63_9 (F := F) p1 p2 G G_16 ro1 ro2 ((hF_16.2.1 _ (xn1 (xne_k hk9999n hk9999c (by decide)) (xn1 (xne_k hk9999n hk9999d (by decide)) (xn1 (xne_k hk9999n hk9999e (by decide)) (xn1 (xne_k hk9999n hk9999f (by decide)) (xn1 (xne_k hk9999n hk9999g (by decide)) (xn1 (xne_k hk9999n hk9999h (by decide)) (xn1 (xne_k hk9999n hk9999i (by decide)) xn0)))))))).trans ((hF10.2.1 _ (xn1 (xne_k hk9999n hk9999a (by decide)) (xn1 (xne_k hk9999n hk9999b (by decide)) xn0))).trans (hF1.2.1 _ xn0))) ((hF_16.2.1 _ (xn1 (xne_k hk9999o hk9999c (by decide)) (xn1 (xne_k hk9999o hk9999d (by decide)) (xn1 (xne_k hk9999o hk9999e (by decide)) (xn1 (xne_k hk9999o hk9999f (by decide)) (xn1 (xne_k hk9999o hk9999g (by decide)) (xn1 (xne_k hk9999o hk9999h (by decide)) (xn1 (xne_k hk9999o hk9999i (by decide)) xn0)))))))).trans ((hF10.2.1 _ (xn1 (xne_j hj9999o hj9999a (by first | decide | omega)) (xn1 (xne_j hj9999o hj9999b (by first | decide | omega)) xn0))).trans (hF1.2.1 _ xn0)))) (v_X10_gather_63_10 (K := K) (F := F) a p0 p1 p2 q34 G G1 G10 G_16 p3 l5_16 N16 x48 ha hp0 hp1 hp2 hbk j1 j2 oq10 hs34 sb t1 I16_0 I16_1 I16_2 hm16 c25 ht34 t48 c51 ((hF_16.2.2 _ xn0).trans ((hF10.2.2 _ xn0).trans (hF1.2.2 _ xn0))) ((fr_A hF_16 (fun _ => (xna (xne_k hk34 hk9999 (by decide)) (xna (xne_k hk34 hp0 (by decide)) xn0)))).trans ((fr_A hF10 (fun _ => xn0)).trans (fr_A hF1 (fun _ => (xna (xne_k hk34 hp0 (by decide)) xn0)))))) (v_X10_gather_63_11 (K := K) (F := F) a p0 p1 p2 q34 G G1 G10 G_16 p3 l5_16 x22 N16 x48 ha hp0 hp1 hp2 hk9999 hj9999 hk9999a hj9999a hk9999b hj9999b hk9999c hj9999c hk9999d hj9999d hk9999e hj9999e hk9999f hj9999f hk9999g hj9999g hk9999h hj9999h hk9999i hj9999i hk9999j hj9999j hk9999k hj9999k hk9999l hj9999l hk9999m hj9999m hk9999n hj9999n hk9999o hj9999o hk34 hF1 hF10 hF_16 ro1 ro2 hbk j1 j2 oq10 pg t22 hs34 sb t1 I16_0 I16_1 I16_2 hm16 c25 ht34 t48 c51 (hF_16.2.1 _ (xn1 (xne_k hk9999a hk9999c (by decide)) (xn1 (xne_k hk9999a hk9999d (by decide)) (xn1 (xne_k hk9999a hk9999e (by decide)) (xn1 (xne_k hk9999a hk9999f (by decide)) (xn1 (xne_k hk9999a hk9999g (by decide)) (xn1 (xne_k hk9999a hk9999h (by decide)) (xn1 (xne_k hk9999a hk9999i (by decide)) xn0)))))))) (hF_16.2.1 _ (xn1 (xne_k hk9999b hk9999c (by decide)) (xn1 (xne_k hk9999b hk9999d (by decide)) (xn1 (xne_k hk9999b hk9999e (by decide)) (xn1 (xne_k hk9999b hk9999f (by decide)) (xn1 (xne_k hk9999b hk9999g (by decide)) (xn1 (xne_k hk9999b hk9999h (by decide)) (xn1 (xne_k hk9999b hk9999i (by decide)) xn0)))))))) ((hF_16.2.1 _ (xn1 (xne_k hk9999l hk9999c (by decide)) (xn1 (xne_k hk9999l hk9999d (by decide)) (xn1 (xne_k hk9999l hk9999e (by decide)) (xn1 (xne_k hk9999l hk9999f (by decide)) (xn1 (xne_k hk9999l hk9999g (by decide)) (xn1 (xne_k hk9999l hk9999h (by decide)) (xn1 (xne_k hk9999l hk9999i (by decide)) xn0)))))))).trans ((hF10.2.1 _ (xn1 (xne_k hk9999l hk9999a (by decide)) (xn1 (xne_k hk9999l hk9999b (by decide)) xn0))).trans (hF1.2.1 _ xn0))) ((hF_16.2.1 _ (xn1 (xne_k hk9999n hk9999c (by decide)) (xn1 (xne_k hk9999n hk9999d (by decide)) (xn1 (xne_k hk9999n hk9999e (by decide)) (xn1 (xne_k hk9999n hk9999f (by decide)) (xn1 (xne_k hk9999n hk9999g (by decide)) (xn1 (xne_k hk9999n hk9999h (by decide)) (xn1 (xne_k hk9999n hk9999i (by decide)) xn0)))))))).trans ((hF10.2.1 _ (xn1 (xne_k hk9999n hk9999a (by decide)) (xn1 (xne_k hk9999n hk9999b (by decide)) xn0))).trans (hF1.2.1 _ xn0))) ((hF_16.2.2 _ xn0).trans ((hF10.2.2 _ xn0).trans (hF1.2.2 _ xn0))))) mv_X1_addQuestions km_X10_397 rfl rfl ⟨Nat.le_of_ble_eq_true rfl, Nat.le_of_ble_eq_true rfl⟩ (rc_3 hK hT hk9999) hK (fun _ => XP.blind) (fun U hU hW => XP.at hK hz hS hT hU hW) rfl hl.1 (Nat.le_of_ble_eq_true rfl) dX10_gather_63 ⟨Nat.le_of_ble_eq_true rfl, Nat.le_of_ble_eq_true rfl⟩) hS ?_
            rintro G63 H locs ⟨hF63, t63, oq63⟩ hT hS
            have t63 : ((G_16.1 p0 6).toInt) ≤ ((G63.1 p0 6).toInt) ∧ ((G63.1 p0 6).toInt) ≤ ((G_16.1 p0 6).toInt) + 90 := t63
            have oq63 : qL G63 F p0 = qL G_16 F p0 ++ uqs (vw (G.2.1 (F p1 0))) (vw (G.2.1 (F p2 0))) (G_16.1 q34) := by simp only [(show G_16.2.1 (F p1 0) = G.2.1 (F p1 0) from ((hF_16.2.1 _ (xn1 (xne_k hk9999l hk9999c (by decide)) (xn1 (xne_k hk9999l hk9999d (by decide)) (xn1 (xne_k hk9999l hk9999e (by decide)) (xn1 (xne_k hk9999l hk9999f (by decide)) (xn1 (xne_k hk9999l hk9999g (by decide)) (xn1 (xne_k hk9999l hk9999h (by decide)) (xn1 (xne_k hk9999l hk9999i (by decide)) xn0)))))))).trans ((hF10.2.1 _ (xn1 (xne_k hk9999l hk9999a (by decide)) (xn1 (xne_k hk9999l hk9999b (by decide)) xn0))).trans (hF1.2.1 _ xn0)))), (show G_16.2.1 (F p2 0) = G.2.1 (F p2 0) from ((hF_16.2.1 _ (xn1 (xne_k hk9999n hk9999c (by decide)) (xn1 (xne_k hk9999n hk9999d (by decide)) (xn1 (xne_k hk9999n hk9999e (by decide)) (xn1 (xne_k hk9999n hk9999f (by decide)) (xn1 (xne_k hk9999n hk9999g (by decide)) (xn1 (xne_k hk9999n hk9999h (by decide)) (xn1 (xne_k hk9999n hk9999i (by decide)) xn0)))))))).trans ((hF10.2.1 _ (xn1 (xne_k hk9999n hk9999a (by decide)) (xn1 (xne_k hk9999n hk9999b (by decide)) xn0))).trans (hF1.2.1 _ xn0))))] at oq63; exact oq63
            refine xi_iinc (n := 1) (lv' := fun z9 => [(5, .int z9), (6, .ref q34), (0, .ref a), (1, .ref p0), (2, .ref p1), (3, .ref p2), (4, .int p3)]) (k := 6) hx hb (rfl : Int32.toInt l5_16 = l5_16.toInt) (by decide) dX10_gather_66 hl rfl (by decide) (fun _ => rfl) (fun x66 ls t66 hl => ?_)
            have e66 : x66.toInt = (l5_16.toInt + 1) := (z_X10_gather_8 l5_16.toInt x66.toInt ((G.1 (F a 2) 2).toInt) ht34 t66)
            have hl : lv_has ls 7 [(5, .int x66), (6, .ref q34), (0, .ref a), (1, .ref p0), (2, .ref p1), (3, .ref p2), (4, .int p3)] := hl
            refine lv_goto (tgt := 16) hx hb dX10_gather_69 (by decide) ?_
            exact ih16 x66 G63 _ _ _ (XFr.call (XFr.call XFr.rf hF_16 (xm1 0 rfl (xm1 1 rfl xm0)) (xm1 0 rfl (xm1 1 rfl (xm1 2 rfl (xm1 3 rfl (xm1 4 rfl (xm1 5 rfl (xm1 6 rfl xm0))))))) xm0) hF63 (xm1 0 rfl (xm1 1 rfl xm0)) (xm1 0 rfl (xm1 1 rfl (xm1 2 rfl (xm1 3 rfl (xm1 4 rfl (xm1 5 rfl (xm1 6 rfl xm0))))))) xm0) (by rw [(e66 : Int32.toInt x66 = (l5_16.toInt + 1))] <;> exact (v_X10_gather_69_12 (K := K) (F := F) a p0 p1 p2 q34 G G1 G10 G_16 G63 p3 l5_16 N16 x48 ha hp0 hp1 hp2 j1 j2 oq10 pg hs34 oq63 sb t1 I16_0 I16_1 I16_2 hm16 c25 ht34 t48 c51 t63 ((hF_16.2.2 _ xn0).trans ((hF10.2.2 _ xn0).trans (hF1.2.2 _ xn0))) ((fr_A hF_16 (fun _ => (xna (xne_k hk34 hk9999 (by decide)) (xna (xne_k hk34 hp0 (by decide)) xn0)))).trans ((fr_A hF10 (fun _ => xn0)).trans (fr_A hF1 (fun _ => (xna (xne_k hk34 hp0 (by decide)) xn0))))))) (by rw [(e66 : Int32.toInt x66 = (l5_16.toInt + 1))] <;> exact (z_X10_gather_4 l5_16.toInt ((G.1 (F a 2) 2).toInt) I16_0 c25)) (by rw [(e66 : Int32.toInt x66 = (l5_16.toInt + 1))] <;> exact (z_X10_gather_16 l5_16.toInt ((G63.1 p0 6).toInt) ((G_16.1 p0 6).toInt) I16_1 t63)) (by rw [(e66 : Int32.toInt x66 = (l5_16.toInt + 1))] <;> exact (z_X10_gather_6 l5_16.toInt ((G.1 (F a 2) 2).toInt) I16_0)) (by rw [(e66 : Int32.toInt x66 = (l5_16.toInt + 1))] <;> exact (z_X10_gather_7 l5_16.toInt N16 hm16)) hT hS (lv_sub hl [2, 3, 4, 5, 6, 0] rfl)
  exact L16 4294967297 0 G10 _ _ _ XFr.rf (v_X10_gather_14_13 (F := F) a p0 p1 p2 G G1 G10 p3 t1 (hF10.1 _ _ xn0)) (z_X10_gather_19 ((G.1 (F a 2) 2).toInt) sb) (by rw [(show (G10.1 p0 6).toInt = ((G1.1 p0 6).toInt) from (congrArg Int32.toInt (hF10.1 _ _ xn0)).trans (rfl : Int32.toInt (G1.1 p0 6) = ((G1.1 p0 6).toInt)))] <;> exact (z_X10_gather_20 ((G1.1 p0 6).toInt) t1)) (by decide) (by decide) hT hS (lv_sub hl [1, 2, 3, 4, 5, 0] rfl)

theorem z_X10_close_1 (a0 : Int) (h0 : a0 = 0) : (0 : Int) = 0 ∧ (0 : Int) = 0 ∧ a0 = 0 := by omega
abbrev rm_X10_close : Room := { frames := 1, cells := 0, slots := 0, locals := 20 }
set_option maxHeartbeats 4000000 in
set_option maxRecDepth 100000 in
theorem c_X10_close (l : Launch) (E : XE) (K : Nat → Nat) (F : Nat → Nat → Nat) (G : XG) (a : Nat) (ha : K a = 12) : Met l yX10_close (xw yX10_close cX10_close 1 none) rm_X10_close (va_Pc [.ref a] (XP E K F G)) (XQv E (fun (u : XG) => XFr [(a, 18), (a, 17), (F a 8, 6)] [] [] G u ∧ (((u.1 a 18).toInt) = 0 ∧ ((u.1 a 17).toInt) = 0 ∧ ((u.1 (F a 8) 6).toInt) = 0)) (fun u H => TW E K F u H)) 0 0 (xA E) := by
  refine x_enter (by decide) (Nat.le_of_ble_eq_true rfl) ?_
  intro p e s m args below meth c Q S hr hlk hnm hQ hP ls hl
  obtain ⟨hz, hK, hT⟩ := hP
  obtain ⟨hx, hb, -, -, -⟩ := id S
  obtain ⟨H, hT, hS, hgo⟩ : ∃ H : Heap, TW E K F G H ∧ va_S (xA E) s.heap H [] ∧ H = s.heap := ⟨_, hT, va_S.rf, rfl⟩
  rw [← hgo]
  have hl : lv_has ls 1 [(0, .ref a)] := hl
  obtain ⟨hk9999, hj9999⟩ := fkX10_8 hT ha
  refine lv_aload_n hx hb dX10_close_0 rfl (lv_at hl 0 rfl) ?_
  refine lv_iconst (v := 0) hx hb dX10_close_1 (by decide) ?_
  refine pX10_18 (v := 0) S hK hT hS ha kf_X10_123 (Or.inl rfl) dX10_close_2 (fun H locs hT hS => ?_)
  obtain ⟨G2, hG2⟩ : ∃ G9 : XG, G9 = dput G a 18 0 := ⟨_, rfl⟩
  rw [← hG2] at hT
  refine lv_aload_n hx hb dX10_close_5 rfl (lv_at hl 0 rfl) ?_
  refine lv_iconst (v := 0) hx hb dX10_close_6 (by decide) ?_
  refine pX10_17 (v := 0) S hK hT hS ha kf_X10_233 dX10_close_7 (fun H locs hT hS => ?_)
  obtain ⟨G7, hG7⟩ : ∃ G9 : XG, G9 = dput G2 a 17 0 := ⟨_, rfl⟩
  rw [← hG7] at hT
  refine lv_aload_n hx hb dX10_close_10 rfl (lv_at hl 0 rfl) ?_
  refine gX10_8 S hK hT ha kf_X10_57 dX10_close_11 (fun _ _ => ?_)
  refine x_cv0 (x_runV (b := (F a 8)) (As := []) (rest := []) S (c_X4_clear l E K F G7 (F a 8) hk9999) mv_X4_clear km_X10_386 rfl rfl ⟨Nat.le_of_ble_eq_true rfl, Nat.le_of_ble_eq_true rfl⟩ (rc_6 hK hT hk9999) hK (fun _ => XP.blind) (fun U hU hW => XP.at hK hz hS hT hU hW) rfl hl.1 (Nat.le_of_ble_eq_true rfl) dX10_close_14 ⟨Nat.le_of_ble_eq_true rfl, Nat.le_of_ble_eq_true rfl⟩) hS ?_
  rintro G14 H locs ⟨hF14, t14⟩ hT hS
  have t14 : ((G14.1 (F a 8) 6).toInt) = 0 := t14
  exact x_rv hx hb hr hlk hQ (Nat.le_of_ble_eq_true rfl) (Nat.le_of_ble_eq_true rfl) hS dX10_close_17 G14 ⟨(XFr.call (by rw [hG7]; exact XFr.dput (by rw [hG2]; exact XFr.dput XFr.rf (List.mem_of_getElem? (i := 0) rfl)) (List.mem_of_getElem? (i := 1) rfl)) hF14 (xm1 2 rfl xm0) xm0 xm0), (by rw [(show (G14.1 a 18).toInt = (0 : Int) from (congrArg Int32.toInt ((hF14.1 _ _ (xnj (by decide) xn0)).trans ((ld_j hG7 (by decide)).trans (ld_at hG2)))).trans ((by decide) : Int32.toInt 0 = (0 : Int))), (show (G14.1 a 17).toInt = (0 : Int) from (congrArg Int32.toInt ((hF14.1 _ _ (xnj (by decide) xn0)).trans (ld_at hG7))).trans ((by decide) : Int32.toInt 0 = (0 : Int)))] <;> exact (z_X10_close_1 ((G14.1 (F a 8) 6).toInt) t14))⟩ hT

theorem z_X10_firstFailingOf_1 (a0 : Int) (h0 : a0 = 0) : 0 ≤ a0 ∧ a0 ≤ 990 := by omega
theorem z_X10_firstFailingOf_2 (a0 : Int) (a1 : Int) (h0 : a1 = 0) (h1 : a1 ≤ a0 ∧ a0 ≤ a1 + 90) : 0 ≤ a0 ∧ a0 ≤ 1080 := by omega
theorem z_X10_firstFailingOf_3 (a0 : Int) (a1 : Int) (a2 : Int) (h0 : a0 = -1 ∨ (0 ≤ a0 ∧ a0 < a1 ∧ a2 = 1)) : -1 ≤ a0 := by omega
abbrev rm_X10_firstFailingOf : Room := { frames := 5, cells := 0, slots := 0, locals := 123 }
set_option maxHeartbeats 4000000 in
set_option maxRecDepth 100000 in
theorem c_X10_firstFailingOf (l : Launch) (E : XE) (K : Nat → Nat) (F : Nat → Nat → Nat) (G : XG) (a : Nat) (p0 : Nat) (ha : K a = 12) (hp0 : K p0 = 9) (ro1 : RO (vw (G.2.1 (F (F a 6) 0))) (aI (G.2.1 (F (F a 6) 1)))) (ro2 : RO (vw (G.2.1 (F (F a 3) 0))) (aI (G.2.1 (F (F a 3) 1)))) (hrw : RW (G.1 p0)) : Met l yX10_firstFailingOf (xw yX10_firstFailingOf cX10_firstFailingOf 2 (some .int)) rm_X10_firstFailingOf (va_Pc [.ref a, .ref p0] (XP E K F G)) (XQ E (fun v (u : XG) => ∃ r : Int32, v = .int r ∧ XFr [(F a 11, 3), (F a 9, 6)] [F (F a 11) 0, F (F a 11) 1, F (F a 11) 2, F (F a 9) 0, F (F a 9) 1, F (F a 9) 2, F (F a 9) 3, F (F a 9) 4, F (F a 9) 5] [] G u ∧ (-1 ≤ r.toInt) ∧ (r.toInt = ffL (qL u F (F a 9))) ∧ (qL u F (F a 9) = uqs (vw (G.2.1 (F (F a 6) 0))) (vw (G.2.1 (F (F a 3) 0))) (G.1 p0))) (fun u H => TW E K F u H)) 0 0 (xA E) := by
  refine x_enter (by decide) (Nat.le_of_ble_eq_true rfl) ?_
  intro p e s m args below meth c Q S hr hlk hnm hQ hP ls hl
  obtain ⟨hz, hK, hT⟩ := hP
  obtain ⟨hx, hb, -, -, -⟩ := id S
  obtain ⟨H, hT, hS, hgo⟩ : ∃ H : Heap, TW E K F G H ∧ va_S (xA E) s.heap H [] ∧ H = s.heap := ⟨_, hT, va_S.rf, rfl⟩
  rw [← hgo]
  have hl : lv_has ls 2 [(0, .ref a), (1, .ref p0)] := hl
  obtain ⟨hk9999, hj9999⟩ := fkX10_11 hT ha
  obtain ⟨hk9999a, hj9999a⟩ := fkX10_9 hT ha
  obtain ⟨hk9999b, hj9999b⟩ := fkX1_0 hT hk9999
  obtain ⟨hk9999c, hj9999c⟩ := fkX1_1 hT hk9999
  obtain ⟨hk9999d, hj9999d⟩ := fkX1_2 hT hk9999
  obtain ⟨hk9999e, hj9999e⟩ := fkX4_0 hT hk9999a
  have hj9999f : F (F (F a 9) 0) 99 = 10 * 1 + 0 := by rw [hj9999e, hj9999a]
  obtain ⟨hk9999f, hj9999g⟩ := fkX4_1 hT hk9999a
  have hj9999h : F (F (F a 9) 1) 99 = 10 * 1 + 1 := by rw [hj9999g, hj9999a]
  obtain ⟨hk9999g, hj9999i⟩ := fkX4_2 hT hk9999a
  have hj9999j : F (F (F a 9) 2) 99 = 10 * 1 + 2 := by rw [hj9999i, hj9999a]
  obtain ⟨hk9999h, hj9999k⟩ := fkX4_3 hT hk9999a
  have hj9999l : F (F (F a 9) 3) 99 = 10 * 1 + 3 := by rw [hj9999k, hj9999a]
  obtain ⟨hk9999i, hj9999m⟩ := fkX4_4 hT hk9999a
  have hj9999n : F (F (F a 9) 4) 99 = 10 * 1 + 4 := by rw [hj9999m, hj9999a]
  obtain ⟨hk9999j, hj9999o⟩ := fkX4_5 hT hk9999a
  have hj9999p : F (F (F a 9) 5) 99 = 10 * 1 + 5 := by rw [hj9999o, hj9999a]
  obtain ⟨hk9999k, hj9999q⟩ := fkX10_6 hT ha
  obtain ⟨hk9999l, hj9999r⟩ := fkX6_0 hT hk9999k
  have hj9999s : F (F (F a 6) 0) 99 = 3 := by rw [hj9999r, hj9999q]
  obtain ⟨hk9999m, hj9999t⟩ := fkX6_1 hT hk9999k
  have hj9999u : F (F (F a 6) 1) 99 = 3 := by rw [hj9999t, hj9999q]
  obtain ⟨hk9999n, hj9999v⟩ := fkX10_3 hT ha
  obtain ⟨hk9999o, hj9999w⟩ := fkX6_0 hT hk9999n
  have hj9999y : F (F (F a 3) 0) 99 = 0 := by rw [hj9999w, hj9999v]
  obtain ⟨hk9999p, hj9999z25⟩ := fkX6_1 hT hk9999n
  have hj9999z26 : F (F (F a 3) 1) 99 = 0 := by rw [hj9999z25, hj9999v]
  refine lv_aload_n hx hb dX10_firstFailingOf_0 rfl (lv_at hl 0 rfl) ?_
  refine gX10_9 S hK hT ha kf_X10_61 dX10_firstFailingOf_1 (fun _ _ => ?_)
  refine x_cv0 (x_runV (b := (F a 9)) (As := []) (rest := []) S (c_X4_clear l E K F G (F a 9) hk9999a) mv_X4_clear km_X10_386 rfl rfl ⟨Nat.le_of_ble_eq_true rfl, Nat.le_of_ble_eq_true rfl⟩ (rc_6 hK hT hk9999a) hK (fun _ => XP.blind) (fun U hU hW => XP.at hK hz hS hT hU hW) rfl hl.1 (Nat.le_of_ble_eq_true rfl) dX10_firstFailingOf_4 ⟨Nat.le_of_ble_eq_true rfl, Nat.le_of_ble_eq_true rfl⟩) hS ?_
  rintro G4 H locs ⟨hF4, t4⟩ hT hS
  have t4 : ((G4.1 (F a 9) 6).toInt) = 0 := t4
  refine lv_aload_n hx hb dX10_firstFailingOf_7 rfl (lv_at hl 0 rfl) ?_
  refine gX10_11 S hK hT ha kf_X10_70 dX10_firstFailingOf_8 (fun _ _ => ?_)
  refine lv_aload_n hx hb dX10_firstFailingOf_11 rfl (lv_at hl 0 rfl) ?_
  refine gX10_6 S hK hT ha kf_X10_47 dX10_firstFailingOf_12 (fun _ _ => ?_)
  refine lv_aload_n hx hb dX10_firstFailingOf_15 rfl (lv_at hl 0 rfl) ?_
  refine gX10_3 S hK hT ha kf_X10_37 dX10_firstFailingOf_16 (fun _ _ => ?_)
  refine x_cv0 (x_runV (b := (F a 11)) (As := [.ref (F a 6), .ref (F a 3)]) (rest := []) S (c_X1_ofAllRows l E K F G4 (F a 11) (F a 6) (F a 3) hk9999 hk9999k hk9999n (v_X10_firstFailingOf_19_1 (F := F) a G G4 ro1 ro2 (hF4.2.1 _ xn0) (hF4.2.1 _ xn0)) (v_X10_firstFailingOf_19_2 (F := F) a G G4 ro1 ro2 (hF4.2.1 _ xn0) (hF4.2.1 _ xn0)) (v_X10_firstFailingOf_19_3 (K := K) (F := F) a p0 G G4 ha hp0 hk9999 hj9999 hk9999a hj9999a hk9999b hj9999b hk9999c hj9999c hk9999d hj9999d hk9999e hj9999f hk9999f hj9999h hk9999g hj9999j hk9999h hj9999l hk9999i hj9999n hk9999j hj9999p hk9999k hj9999q hk9999l hj9999s hk9999m hj9999u hk9999n hj9999v hk9999o hj9999y hk9999p hj9999z26 hF4 ro1 ro2 hrw t4 (hF4.2.1 _ xn0) (hF4.2.1 _ xn0) (hF4.2.1 _ xn0) (hF4.2.1 _ xn0) (hF4.2.1 _ xn0) (hF4.2.1 _ xn0) (hF4.2.1 _ xn0) (hF4.2.1 _ xn0) (hF4.2.1 _ xn0) (hF4.1 _ _ (xnj (by decide) xn0))) (v_X10_firstFailingOf_19_4 (K := K) (F := F) a p0 G G4 ha hp0 hk9999 hj9999 hk9999a hj9999a hk9999b hj9999b hk9999c hj9999c hk9999d hj9999d hk9999e hj9999f hk9999f hj9999h hk9999g hj9999j hk9999h hj9999l hk9999i hj9999n hk9999j hj9999p hk9999k hj9999q hk9999l hj9999s hk9999m hj9999u hk9999n hj9999v hk9999o hj9999y hk9999p hj9999z26 hF4 ro1 ro2 hrw t4 (hF4.2.1 _ xn0) (hF4.2.1 _ xn0) (hF4.2.1 _ xn0) (hF4.2.1 _ xn0) (hF4.2.1 _ xn0) (hF4.2.1 _ xn0) (hF4.2.1 _ xn0) (hF4.2.1 _ xn0) (hF4.2.1 _ xn0) (hF4.1 _ _ (xnj (by decide) xn0)))) mv_X1_ofAllRows km_X10_387 rfl rfl ⟨Nat.le_of_ble_eq_true rfl, Nat.le_of_ble_eq_true rfl⟩ (rc_3 hK hT hk9999) hK (fun _ => XP.blind) (fun U hU hW => XP.at hK hz hS hT hU hW) rfl hl.1 (Nat.le_of_ble_eq_true rfl) dX10_firstFailingOf_19 ⟨Nat.le_of_ble_eq_true rfl, Nat.le_of_ble_eq_true rfl⟩) hS ?_
  rintro G19 H locs ⟨hF19, oq19⟩ hT hS
  have oq19 : CH (vw (G.2.1 (F (F a 6) 0))) (vw (G.2.1 (F (F a 3) 0))) (aI (G19.2.1 (F (F a 11) 1))) (aI (G19.2.1 (F (F a 11) 0))) := by simp only [(show G4.2.1 (F (F a 6) 0) = G.2.1 (F (F a 6) 0) from (hF4.2.1 _ xn0)), (show G4.2.1 (F (F a 3) 0) = G.2.1 (F (F a 3) 0) from (hF4.2.1 _ xn0))] at oq19; exact oq19
  refine lv_aload_n hx hb dX10_firstFailingOf_22 rfl (lv_at hl 0 rfl) ?_
  refine gX10_11 S hK hT ha kf_X10_70 dX10_firstFailingOf_23 (fun _ _ => ?_)
  refine lv_aload_n hx hb dX10_firstFailingOf_26 rfl (lv_at hl 1 rfl) ?_
  refine lv_aload_n hx hb dX10_firstFailingOf_27 rfl (lv_at hl 0 rfl) ?_
  refine gX10_6 S hK hT ha kf_X10_47 dX10_firstFailingOf_28 (fun _ _ => ?_)
  refine lv_aload_n hx hb dX10_firstFailingOf_31 rfl (lv_at hl 0 rfl) ?_
  refine gX10_3 S hK hT ha kf_X10_37 dX10_firstFailingOf_32 (fun _ _ => ?_)
  refine lv_aload_n hx hb dX10_firstFailingOf_35 rfl (lv_at hl 0 rfl) ?_
  refine gX10_9 S hK hT ha kf_X10_61 dX10_firstFailingOf_36 (fun _ _ => ?_)
  refine x_cv0 (x_runV (b := (F a 11)) (As := [.ref p0, .ref (F a 6), .ref (F a 3), .ref (F a 9)]) (rest := []) S (c_X1_addQuestions l E K F G19 (F a 11) p0 (F a 6) (F a 3) (F a 9) hk9999 hp0 hk9999k hk9999n hk9999a (by rw [(show (G19.1 (F a 9) 6).toInt = ((G4.1 (F a 9) 6).toInt) from (congrArg Int32.toInt (hF19.1 _ _ xn0)).trans (rfl : Int32.toInt (G4.1 (F a 9) 6) = ((G4.1 (F a 9) 6).toInt)))] <;> exact (z_X10_firstFailingOf_1 ((G4.1 (F a 9) 6).toInt) t4)) (v_X10_firstFailingOf_39_5 (F := F) a G G19 ro1 ro2 ((hF19.2.1 _ (xn1 (xne_k hk9999l hk9999b (by decide)) (xn1 (xne_k hk9999l hk9999c (by decide)) xn0))).trans (hF4.2.1 _ xn0)) ((hF19.2.1 _ (xn1 (xne_j hj9999u hj9999b (by first | decide | omega)) (xn1 (xne_j hj9999u hj9999c (by first | decide | omega)) xn0))).trans (hF4.2.1 _ xn0))) (v_X10_firstFailingOf_39_6 (F := F) a G G19 ro1 ro2 ((hF19.2.1 _ (xn1 (xne_k hk9999o hk9999b (by decide)) (xn1 (xne_k hk9999o hk9999c (by decide)) xn0))).trans (hF4.2.1 _ xn0)) ((hF19.2.1 _ (xn1 (xne_j hj9999z26 hj9999b (by first | decide | omega)) (xn1 (xne_j hj9999z26 hj9999c (by first | decide | omega)) xn0))).trans (hF4.2.1 _ xn0))) (v_X10_firstFailingOf_39_7 (K := K) (F := F) a p0 G G4 G19 ha hp0 hk9999 hj9999 hk9999a hj9999a hk9999b hj9999b hk9999c hj9999c hk9999d hj9999d hk9999e hj9999f hk9999f hj9999h hk9999g hj9999j hk9999h hj9999l hk9999i hj9999n hk9999j hj9999p hk9999k hj9999q hk9999l hj9999s hk9999m hj9999u hk9999n hj9999v hk9999o hj9999y hk9999p hj9999z26 hF4 hF19 ro1 ro2 hrw oq19 t4 ((hF19.2.1 _ (xn1 (xne_k hk9999d hk9999b (by decide)) (xn1 (xne_k hk9999d hk9999c (by decide)) xn0))).trans (hF4.2.1 _ xn0)) ((hF19.2.1 _ (xn1 (xne_k hk9999e hk9999b (by decide)) (xn1 (xne_k hk9999e hk9999c (by decide)) xn0))).trans (hF4.2.1 _ xn0)) ((hF19.2.1 _ (xn1 (xne_k hk9999f hk9999b (by decide)) (xn1 (xne_k hk9999f hk9999c (by decide)) xn0))).trans (hF4.2.1 _ xn0)) ((hF19.2.1 _ (xn1 (xne_k hk9999g hk9999b (by decide)) (xn1 (xne_k hk9999g hk9999c (by decide)) xn0))).trans (hF4.2.1 _ xn0)) ((hF19.2.1 _ (xn1 (xne_k hk9999h hk9999b (by decide)) (xn1 (xne_k hk9999h hk9999c (by decide)) xn0))).trans (hF4.2.1 _ xn0)) ((hF19.2.1 _ (xn1 (xne_k hk9999i hk9999b (by decide)) (xn1 (xne_k hk9999i hk9999c (by decide)) xn0))).trans (hF4.2.1 _ xn0)) ((hF19.2.1 _ (xn1 (xne_k hk9999j hk9999b (by decide)) (xn1 (xne_k hk9999j hk9999c (by decide)) xn0))).trans (hF4.2.1 _ xn0)) ((fr_A hF19 (fun _ => xn0)).trans (fr_A hF4 (fun _ => (xna (xne_k hp0 hk9999a (by decide)) xn0)))) ((hF19.1 _ _ xn0).trans (hF4.1 _ _ (xnj (by decide) xn0))) (hF19.1 _ _ xn0)) (v_X10_firstFailingOf_39_8 (K := K) (F := F) a p0 G G4 G19 ha hp0 hk9999 hj9999 hk9999a hj9999a hk9999b hj9999b hk9999c hj9999c hk9999d hj9999d hk9999e hj9999f hk9999f hj9999h hk9999g hj9999j hk9999h hj9999l hk9999i hj9999n hk9999j hj9999p hk9999k hj9999q hk9999l hj9999s hk9999m hj9999u hk9999n hj9999v hk9999o hj9999y hk9999p hj9999z26 hF4 hF19 ro1 ro2 hrw oq19 t4 ((hF19.2.1 _ (xn1 (xne_k hk9999d hk9999b (by decide)) (xn1 (xne_k hk9999d hk9999c (by decide)) xn0))).trans (hF4.2.1 _ xn0)) ((hF19.2.1 _ (xn1 (xne_k hk9999o hk9999b (by decide)) (xn1 (xne_k hk9999o hk9999c (by decide)) xn0))).trans (hF4.2.1 _ xn0)) ((hF19.2.1 _ (xn1 (xne_k hk9999l hk9999b (by decide)) (xn1 (xne_k hk9999l hk9999c (by decide)) xn0))).trans (hF4.2.1 _ xn0)) ((hF19.2.1 _ (xn1 (xne_k hk9999e hk9999b (by decide)) (xn1 (xne_k hk9999e hk9999c (by decide)) xn0))).trans (hF4.2.1 _ xn0)) ((hF19.2.1 _ (xn1 (xne_k hk9999f hk9999b (by decide)) (xn1 (xne_k hk9999f hk9999c (by decide)) xn0))).trans (hF4.2.1 _ xn0)) ((hF19.2.1 _ (xn1 (xne_k hk9999g hk9999b (by decide)) (xn1 (xne_k hk9999g hk9999c (by decide)) xn0))).trans (hF4.2.1 _ xn0)) ((hF19.2.1 _ (xn1 (xne_k hk9999h hk9999b (by decide)) (xn1 (xne_k hk9999h hk9999c (by decide)) xn0))).trans (hF4.2.1 _ xn0)) ((hF19.2.1 _ (xn1 (xne_k hk9999i hk9999b (by decide)) (xn1 (xne_k hk9999i hk9999c (by decide)) xn0))).trans (hF4.2.1 _ xn0)) ((hF19.2.1 _ (xn1 (xne_k hk9999j hk9999b (by decide)) (xn1 (xne_k hk9999j hk9999c (by decide)) xn0))).trans (hF4.2.1 _ xn0)) ((hF19.1 _ _ xn0).trans (hF4.1 _ _ (xnj (by decide) xn0))) (hF19.1 _ _ xn0))) mv_X1_addQuestions km_X10_397 rfl rfl ⟨Nat.le_of_ble_eq_true rfl, Nat.le_of_ble_eq_true rfl⟩ (rc_3 hK hT hk9999) hK (fun _ => XP.blind) (fun U hU hW => XP.at hK hz hS hT hU hW) rfl hl.1 (Nat.le_of_ble_eq_true rfl) dX10_firstFailingOf_39 ⟨Nat.le_of_ble_eq_true rfl, Nat.le_of_ble_eq_true rfl⟩) hS ?_
  rintro G39 H locs ⟨hF39, t39, oq39⟩ hT hS
  have t39 : ((G4.1 (F a 9) 6).toInt) ≤ ((G39.1 (F a 9) 6).toInt) ∧ ((G39.1 (F a 9) 6).toInt) ≤ ((G4.1 (F a 9) 6).toInt) + 90 := by rw [(show (G19.1 (F a 9) 6).toInt = ((G4.1 (F a 9) 6).toInt) from (congrArg Int32.toInt (hF19.1 _ _ xn0)).trans (rfl : Int32.toInt (G4.1 (F a 9) 6) = ((G4.1 (F a 9) 6).toInt)))] at t39; exact t39
  have oq39 : qL G39 F (F a 9) = qL G19 F (F a 9) ++ uqs (vw (G.2.1 (F (F a 6) 0))) (vw (G.2.1 (F (F a 3) 0))) (G19.1 p0) := by simp only [(show G19.2.1 (F (F a 6) 0) = G.2.1 (F (F a 6) 0) from ((hF19.2.1 _ (xn1 (xne_k hk9999l hk9999b (by decide)) (xn1 (xne_k hk9999l hk9999c (by decide)) xn0))).trans (hF4.2.1 _ xn0))), (show G19.2.1 (F (F a 3) 0) = G.2.1 (F (F a 3) 0) from ((hF19.2.1 _ (xn1 (xne_k hk9999o hk9999b (by decide)) (xn1 (xne_k hk9999o hk9999c (by decide)) xn0))).trans (hF4.2.1 _ xn0)))] at oq39; exact oq39
  refine lv_aload_n hx hb dX10_firstFailingOf_42 rfl (lv_at hl 0 rfl) ?_
  refine gX10_9 S hK hT ha kf_X10_61 dX10_firstFailingOf_43 (fun _ _ => ?_)
  refine x_clp (x_runV (b := (F a 9)) (As := []) (rest := []) S (c_X4_firstFailing l E K F G39 H (F a 9) hk9999a (z_X10_firstFailingOf_2 ((G39.1 (F a 9) 6).toInt) ((G4.1 (F a 9) 6).toInt) t4 t39)) mv_X4_firstFailing km_X10_244 rfl rfl ⟨Nat.le_of_ble_eq_true rfl, Nat.le_of_ble_eq_true rfl⟩ (rc_6 hK hT hk9999a) hK (fun _ => XPh.blind) (fun U hU hW => XPh.at hK hz hS hT hU hW) rfl hl.1 (Nat.le_of_ble_eq_true rfl) dX10_firstFailingOf_46 ⟨Nat.le_of_ble_eq_true rfl, Nat.le_of_ble_eq_true rfl⟩) hS ?_
  rintro _ _ locs ⟨x46, rfl, t46, oq46⟩ hS
  have t46 : x46.toInt = -1 ∨ (0 ≤ x46.toInt ∧ x46.toInt < ((G39.1 (F a 9) 6).toInt) ∧ (aI (G39.2.1 (F (F a 9) 5)) (x46.toInt)) = 1) := t46
  exact x_ri hx hb hr hlk hQ (Nat.le_of_ble_eq_true rfl) (Nat.le_of_ble_eq_true rfl) hS dX10_firstFailingOf_49 G39 ⟨_, rfl, (XFr.call (XFr.call (XFr.call XFr.rf hF4 (xm1 1 rfl xm0) xm0 xm0) hF19 xm0 (xm1 0 rfl (xm1 1 rfl xm0)) xm0) hF39 (xm1 0 rfl (xm1 1 rfl xm0)) (xm1 2 rfl (xm1 3 rfl (xm1 4 rfl (xm1 5 rfl (xm1 6 rfl (xm1 7 rfl (xm1 8 rfl xm0))))))) xm0), (z_X10_firstFailingOf_3 x46.toInt ((G39.1 (F a 9) 6).toInt) (aI (G39.2.1 (F (F a 9) 5)) (x46.toInt)) t46), (v_X10_firstFailingOf_49_9 (F := F) a G39 x46 oq46 t46), (v_X10_firstFailingOf_49_10 (F := F) a p0 G G4 G19 G39 hF19 oq39 t4 ((fr_A hF19 (fun _ => xn0)).trans (fr_A hF4 (fun _ => (xna (xne_k hp0 hk9999a (by decide)) xn0)))))⟩ hT

theorem z_X10_refuseAct_1 (a0 : Int) : a0 = a0 := by omega
abbrev rm_X10_refuseAct : Room := { frames := 0, cells := 0, slots := 0, locals := 0 }
set_option maxHeartbeats 4000000 in
set_option maxRecDepth 100000 in
theorem c_X10_refuseAct (l : Launch) (E : XE) (K : Nat → Nat) (F : Nat → Nat → Nat) (G : XG) (a : Nat) (p0 : Int32) (ha : K a = 12) : Met l yX10_refuseAct (xw yX10_refuseAct cX10_refuseAct 2 (some .int)) rm_X10_refuseAct (va_Pc [.ref a, .int p0] (XP E K F G)) (XQ E (fun v (u : XG) => ∃ r : Int32, v = .int r ∧ XFr [] [F a 15] [] G u ∧ (r.toInt = p0.toInt)) (fun u H => TW E K F u H)) 0 0 (xA E) := by
  refine x_enter (by decide) (Nat.le_of_ble_eq_true rfl) ?_
  intro p e s m args below meth c Q S hr hlk hnm hQ hP ls hl
  obtain ⟨hz, hK, hT⟩ := hP
  obtain ⟨hx, hb, -, -, -⟩ := id S
  obtain ⟨H, hT, hS, hgo⟩ : ∃ H : Heap, TW E K F G H ∧ va_S (xA E) s.heap H [] ∧ H = s.heap := ⟨_, hT, va_S.rf, rfl⟩
  rw [← hgo]
  have hl : lv_has ls 2 [(0, .ref a), (1, .int p0)] := hl
  obtain ⟨hk9999, hj9999⟩ := fkX10_15 hT ha
  refine lv_aload_n hx hb dX10_refuseAct_0 rfl (lv_at hl 0 rfl) ?_
  refine gX10_18 S hK hT ha kf_X10_123 dX10_refuseAct_1 (v := (G.1 a 18)) rfl (fun hz1 => ?_)
  refine xi_zeq (tgt := 17) hx hb (rfl : Int32.toInt (G.1 a 18) = ((G.1 a 18).toInt)) dX10_refuseAct_4 (by decide) (fun c4 => ?_) (fun c4 => ?_)
  · refine lv_iload_n hx hb dX10_refuseAct_17 rfl (lv_at hl 1 rfl) ?_
    exact x_ri hx hb hr hlk hQ (Nat.le_of_ble_eq_true rfl) (Nat.le_of_ble_eq_true rfl) hS dX10_refuseAct_18 G ⟨_, rfl, XFr.rf, (z_X10_refuseAct_1 p0.toInt)⟩ hT
  · refine lv_aload_n hx hb dX10_refuseAct_7 rfl (lv_at hl 0 rfl) ?_
    refine gX10_15 S hK hT ha kf_X10_95 dX10_refuseAct_8 (fun _ _ => ?_)
    refine lv_iconst (v := 5) hx hb dX10_refuseAct_11 (by decide) ?_
    refine lv_dup2_11 hx hb dX10_refuseAct_12 rfl rfl ?_
    refine al_0 S hK hT hk9999 ar_26 (by decide) (by decide) dX10_refuseAct_13 (fun x13 hv13 o13 => ?_)
    have hv13 : x13.toInt = (aI (G.2.1 (F a 15)) 5) := hv13.trans (by rw [((by decide) : Int32.toInt 5 = (5 : Int))])
    refine lv_iconst (v := 1) hx hb dX10_refuseAct_14 (by decide) ?_
    refine xi_iadd hx hb (hv13 : Int32.toInt x13 = (aI (G.2.1 (F a 15)) 5)) ((by decide) : Int32.toInt 1 = (1 : Int)) dX10_refuseAct_15 (fun x15 t15 => ?_)
    refine as_0 (x := x15) S hK hT hS hk9999 ar_26 aw_26 (by decide) (by decide) dX10_refuseAct_16 (fun H locs hT hS => ?_)
    obtain ⟨G16, hG16⟩ : ∃ G9 : XG, G9 = cput G (F a 15) (5 : Int32).toNatClampNeg x15 := ⟨_, rfl⟩
    rw [← hG16] at hT
    refine lv_iload_n hx hb dX10_refuseAct_17 rfl (lv_at hl 1 rfl) ?_
    exact x_ri hx hb hr hlk hQ (Nat.le_of_ble_eq_true rfl) (Nat.le_of_ble_eq_true rfl) hS dX10_refuseAct_18 G16 ⟨_, rfl, (by rw [hG16]; exact XFr.cput XFr.rf (List.mem_of_getElem? (i := 0) rfl)), (z_X10_refuseAct_1 p0.toInt)⟩ hT

theorem z_X10_setOnPaper_1 (a0 : Int) (a1 : Int) (h0 : (a1 = 1 ∧ 0 ≤ a0 ∧ a0 < 3) ∨ (a1 = 0 ∧ (a0 < 0 ∨ 3 ≤ a0))) (h1 : ¬ (a1 = 0)) : 0 ≤ a0 ∧ a0 < 3 := by omega
theorem z_X10_setOnPaper_2 (a0 : Int) (a1 : Int) (h0 : (a1 = 1 ∧ (a0 = -1000 ∨ (-99 ≤ a0 ∧ a0 < 100))) ∨ (a1 = 0 ∧ a0 ≠ -1000 ∧ (a0 < -99 ∨ 100 ≤ a0))) (h1 : a1 ≠ 0) : a0 = -1000 ∨ (-99 ≤ a0 ∧ a0 ≤ 99) := by omega
abbrev rm_X10_setOnPaper : Room := { frames := 3, cells := 0, slots := 0, locals := 81 }
set_option maxHeartbeats 4000000 in
set_option maxRecDepth 100000 in
theorem c_X10_setOnPaper (l : Launch) (E : XE) (K : Nat → Nat) (F : Nat → Nat → Nat) (G : XG) (a : Nat) (p0 : Int32) (p1 : Int32) (p2 : Int32) (p3 : Int32) (ha : K a = 12) (ro1 : RO (vw (G.2.1 (F (F a 3) 0))) (aI (G.2.1 (F (F a 3) 1)))) : Met l yX10_setOnPaper (xw yX10_setOnPaper cX10_setOnPaper 5 (some .int)) rm_X10_setOnPaper (va_Pc [.ref a, .int p0, .int p1, .int p2, .int p3] (XP E K F G)) (XQ E (fun v (u : XG) => ∃ r : Int32, v = .int r ∧ XFr [] [F (F a 5) 0, F (F a 5) 1] [] G u ∧ (-4 ≤ r.toInt ∧ r.toInt ≤ 0) ∧ ((r.toInt = -1 ∧ ¬ ((0 ≤ p0.toInt ∧ p0.toInt < 3) ∧ (0 ≤ p1.toInt ∧ p1.toInt < 30) ∧ (0 ≤ p2.toInt ∧ p2.toInt < 3) ∧ (p3.toInt = -1000 ∨ (-99 ≤ p3.toInt ∧ p3.toInt ≤ 99)))) ∨ ((0 ≤ p0.toInt ∧ p0.toInt < 3) ∧ (0 ≤ p1.toInt ∧ p1.toInt < 30) ∧ (0 ≤ p2.toInt ∧ p2.toInt < 3) ∧ (p3.toInt = -1000 ∨ (-99 ≤ p3.toInt ∧ p3.toInt ≤ 99)) ∧ ((r.toInt = -2 ∧ cel (vw (G.2.1 (F (F a 3) 0))) p0.toInt p1.toInt 0 = -2000) ∨ (cel (vw (G.2.1 (F (F a 3) 0))) p0.toInt p1.toInt 0 ≠ -2000 ∧ ((r.toInt = -4 ∧ cel (vw (G.2.1 (F (F a 3) 0))) p0.toInt p1.toInt p2.toInt = p3.toInt) ∨ (r.toInt = 0 ∧ cel (vw (G.2.1 (F (F a 3) 0))) p0.toInt p1.toInt p2.toInt ≠ p3.toInt ∧ (vw (u.2.1 (F (F a 5) 0))) = rset (vw (G.2.1 (F (F a 3) 0))) (90 * p0.toInt + 30 * p2.toInt + p1.toInt) p3.toInt ∧ RO (vw (u.2.1 (F (F a 5) 0))) (aI (u.2.1 (F (F a 5) 1)))))))))) (fun u H => TW E K F u H)) 0 0 (xA E) := by
  refine x_enter (by decide) (Nat.le_of_ble_eq_true rfl) ?_
  intro p e s m args below meth c Q S hr hlk hnm hQ hP ls hl
  obtain ⟨hz, hK, hT⟩ := hP
  obtain ⟨hx, hb, -, -, -⟩ := id S
  obtain ⟨H, hT, hS, hgo⟩ : ∃ H : Heap, TW E K F G H ∧ va_S (xA E) s.heap H [] ∧ H = s.heap := ⟨_, hT, va_S.rf, rfl⟩
  rw [← hgo]
  have hl : lv_has ls 5 [(0, .ref a), (1, .int p0), (2, .int p1), (3, .int p2), (4, .int p3)] := hl
  obtain ⟨hk9999, hj9999⟩ := fkX10_5 hT ha
  obtain ⟨hk9999a, hj9999a⟩ := fkX6_0 hT hk9999
  have hj9999b : F (F (F a 5) 0) 99 = 2 := by rw [hj9999a, hj9999]
  obtain ⟨hk9999b, hj9999c⟩ := fkX6_1 hT hk9999
  have hj9999d : F (F (F a 5) 1) 99 = 2 := by rw [hj9999c, hj9999]
  obtain ⟨hk9999c, hj9999e⟩ := fkX10_3 hT ha
  obtain ⟨hk9999d, hj9999f⟩ := fkX6_0 hT hk9999c
  have hj9999g : F (F (F a 3) 0) 99 = 0 := by rw [hj9999f, hj9999e]
  obtain ⟨hk9999e, hj9999h⟩ := fkX6_1 hT hk9999c
  have hj9999i : F (F (F a 3) 1) 99 = 0 := by rw [hj9999h, hj9999e]
  refine lv_iload_n hx hb dX10_setOnPaper_0 rfl (lv_at hl 1 rfl) ?_
  refine x_clp (x_runS (As := [.int p0]) (rest := []) S (c_X10_isTable l E K F G H p0) ms_X10_isTable km_X10_179 rfl rfl ⟨Nat.le_of_ble_eq_true rfl, Nat.le_of_ble_eq_true rfl⟩ hK (fun _ => XPh.blind) (fun U hU hW => XPh.at hK hz hS hT hU hW) rfl hl.1 (Nat.le_of_ble_eq_true rfl) dX10_setOnPaper_1 ⟨Nat.le_of_ble_eq_true rfl, Nat.le_of_ble_eq_true rfl⟩) hS ?_
  rintro _ _ locs ⟨x1, rfl, b1, t1⟩ hS
  have t1 : (x1.toInt = 1 ∧ 0 ≤ p0.toInt ∧ p0.toInt < 3) ∨ (x1.toInt = 0 ∧ (p0.toInt < 0 ∨ 3 ≤ p0.toInt)) := t1
  refine xi_zeq (tgt := 29) hx hb (rfl : Int32.toInt x1 = x1.toInt) dX10_setOnPaper_4 (by decide) (fun c4 => ?_) (fun c4 => ?_)
  · refine lv_iconst (v := (-1)) hx hb dX10_setOnPaper_29 (by decide) ?_
    exact x_ri hx hb hr hlk hQ (Nat.le_of_ble_eq_true rfl) (Nat.le_of_ble_eq_true rfl) hS dX10_setOnPaper_30 G ⟨_, rfl, XFr.rf, (by rw [((by decide) : Int32.toInt (-1) = (-1 : Int))] <;> exact (by decide)), (by rw [((by decide) : Int32.toInt (-1) = (-1 : Int))] <;> exact (v_X10_setOnPaper_30_1 (K := K) (F := F) a G x1 p0 p1 p2 p3 ha hk9999 hj9999 hk9999a hj9999b hk9999b hj9999d hk9999c hj9999e hk9999d hj9999g hk9999e hj9999i t1 c4))⟩ hT
  · refine lv_iload_n hx hb dX10_setOnPaper_7 rfl (lv_at hl 2 rfl) ?_
    refine x_clp (x_runS (As := [.int p1]) (rest := []) S (c_X10_isKey l E K F G H p1) ms_X10_isKey km_X10_182 rfl rfl ⟨Nat.le_of_ble_eq_true rfl, Nat.le_of_ble_eq_true rfl⟩ hK (fun _ => XPh.blind) (fun U hU hW => XPh.at hK hz hS hT hU hW) rfl hl.1 (Nat.le_of_ble_eq_true rfl) dX10_setOnPaper_8 ⟨Nat.le_of_ble_eq_true rfl, Nat.le_of_ble_eq_true rfl⟩) hS ?_
    rintro _ _ locs ⟨x8, rfl, b8, t8⟩ hS
    have t8 : (x8.toInt = 1 ∧ 0 ≤ p1.toInt ∧ p1.toInt < 30) ∨ (x8.toInt = 0 ∧ (p1.toInt < 0 ∨ 30 ≤ p1.toInt)) := t8
    refine xi_zeq (tgt := 29) hx hb (rfl : Int32.toInt x8 = x8.toInt) dX10_setOnPaper_11 (by decide) (fun c11 => ?_) (fun c11 => ?_)
    · refine lv_iconst (v := (-1)) hx hb dX10_setOnPaper_29 (by decide) ?_
      exact x_ri hx hb hr hlk hQ (Nat.le_of_ble_eq_true rfl) (Nat.le_of_ble_eq_true rfl) hS dX10_setOnPaper_30 G ⟨_, rfl, XFr.rf, (by rw [((by decide) : Int32.toInt (-1) = (-1 : Int))] <;> exact (by decide)), (by rw [((by decide) : Int32.toInt (-1) = (-1 : Int))] <;> exact (v_X10_setOnPaper_30_2 (K := K) (F := F) a G x1 p0 x8 p1 p2 p3 ha hk9999 hj9999 hk9999a hj9999b hk9999b hj9999d hk9999c hj9999e hk9999d hj9999g hk9999e hj9999i t1 c4 t8 c11))⟩ hT
    · refine lv_iload_n hx hb dX10_setOnPaper_14 rfl (lv_at hl 3 rfl) ?_
      refine x_clp (x_runS (As := [.int p2]) (rest := []) S (c_X10_isColumn l E K F G H p2) ms_X10_isColumn km_X10_255 rfl rfl ⟨Nat.le_of_ble_eq_true rfl, Nat.le_of_ble_eq_true rfl⟩ hK (fun _ => XPh.blind) (fun U hU hW => XPh.at hK hz hS hT hU hW) rfl hl.1 (Nat.le_of_ble_eq_true rfl) dX10_setOnPaper_15 ⟨Nat.le_of_ble_eq_true rfl, Nat.le_of_ble_eq_true rfl⟩) hS ?_
      rintro _ _ locs ⟨x15, rfl, b15, t15⟩ hS
      have t15 : (x15.toInt = 1 ∧ 0 ≤ p2.toInt ∧ p2.toInt < 3) ∨ (x15.toInt = 0 ∧ (p2.toInt < 0 ∨ 3 ≤ p2.toInt)) := t15
      refine xi_zeq (tgt := 29) hx hb (rfl : Int32.toInt x15 = x15.toInt) dX10_setOnPaper_18 (by decide) (fun c18 => ?_) (fun c18 => ?_)
      · refine lv_iconst (v := (-1)) hx hb dX10_setOnPaper_29 (by decide) ?_
        exact x_ri hx hb hr hlk hQ (Nat.le_of_ble_eq_true rfl) (Nat.le_of_ble_eq_true rfl) hS dX10_setOnPaper_30 G ⟨_, rfl, XFr.rf, (by rw [((by decide) : Int32.toInt (-1) = (-1 : Int))] <;> exact (by decide)), (by rw [((by decide) : Int32.toInt (-1) = (-1 : Int))] <;> exact (v_X10_setOnPaper_30_3 (K := K) (F := F) a G x1 p0 x8 p1 x15 p2 p3 ha hk9999 hj9999 hk9999a hj9999b hk9999b hj9999d hk9999c hj9999e hk9999d hj9999g hk9999e hj9999i t1 c4 t8 c11 t15 c18))⟩ hT
      · refine lv_iload hx hb dX10_setOnPaper_21 (lv_at hl 4 rfl) ?_
        refine x_clp (x_runS (As := [.int p3]) (rest := []) S (c_X10_isValue l E K F G H p3) ms_X10_isValue km_X10_185 rfl rfl ⟨Nat.le_of_ble_eq_true rfl, Nat.le_of_ble_eq_true rfl⟩ hK (fun _ => XPh.blind) (fun U hU hW => XPh.at hK hz hS hT hU hW) rfl hl.1 (Nat.le_of_ble_eq_true rfl) dX10_setOnPaper_23 ⟨Nat.le_of_ble_eq_true rfl, Nat.le_of_ble_eq_true rfl⟩) hS ?_
        rintro _ _ locs ⟨x23, rfl, b23, t23⟩ hS
        have t23 : (x23.toInt = 1 ∧ (p3.toInt = -1000 ∨ (-99 ≤ p3.toInt ∧ p3.toInt < 100))) ∨ (x23.toInt = 0 ∧ p3.toInt ≠ -1000 ∧ (p3.toInt < -99 ∨ 100 ≤ p3.toInt)) := t23
        refine xi_zne (tgt := 31) hx hb (rfl : Int32.toInt x23 = x23.toInt) dX10_setOnPaper_26 (by decide) (fun c26 => ?_) (fun c26 => ?_)
        · refine lv_aload_n hx hb dX10_setOnPaper_31 rfl (lv_at hl 0 rfl) ?_
          refine gX10_3 S hK hT ha kf_X10_37 dX10_setOnPaper_32 (fun _ _ => ?_)
          refine lv_iload_n hx hb dX10_setOnPaper_35 rfl (lv_at hl 1 rfl) ?_
          refine lv_iload_n hx hb dX10_setOnPaper_36 rfl (lv_at hl 2 rfl) ?_
          refine x_clp (x_runV (b := (F a 3)) (As := [.int p0, .int p1]) (rest := []) S (c_X6_has l E K F G H (F a 3) p0 p1 hk9999c (v_X10_setOnPaper_37_4 (F := F) a G ro1)) mv_X6_has km_X10_191 rfl rfl ⟨Nat.le_of_ble_eq_true rfl, Nat.le_of_ble_eq_true rfl⟩ (rc_8 hK hT hk9999c) hK (fun _ => XPh.blind) (fun U hU hW => XPh.at hK hz hS hT hU hW) rfl hl.1 (Nat.le_of_ble_eq_true rfl) dX10_setOnPaper_37 ⟨Nat.le_of_ble_eq_true rfl, Nat.le_of_ble_eq_true rfl⟩) hS ?_
          rintro _ _ locs ⟨x37, rfl, b37, t37⟩ hS
          have t37 : (x37.toInt = 1 ∧ (cel (vw (G.2.1 (F (F a 3) 0))) (p0.toInt) (p1.toInt) 0) ≠ -2000) ∨ (x37.toInt = 0 ∧ (cel (vw (G.2.1 (F (F a 3) 0))) (p0.toInt) (p1.toInt) 0) = -2000) := t37
          refine xi_zne (tgt := 46) hx hb (rfl : Int32.toInt x37 = x37.toInt) dX10_setOnPaper_40 (by decide) (fun c40 => ?_) (fun c40 => ?_)
          · refine lv_aload_n hx hb dX10_setOnPaper_46 rfl (lv_at hl 0 rfl) ?_
            refine gX10_3 S hK hT ha kf_X10_37 dX10_setOnPaper_47 (fun _ _ => ?_)
            refine lv_iload_n hx hb dX10_setOnPaper_50 rfl (lv_at hl 1 rfl) ?_
            refine lv_iload_n hx hb dX10_setOnPaper_51 rfl (lv_at hl 2 rfl) ?_
            refine lv_iload_n hx hb dX10_setOnPaper_52 rfl (lv_at hl 3 rfl) ?_
            refine x_clp (x_runV (b := (F a 3)) (As := [.int p0, .int p1, .int p2]) (rest := []) S (c_X6_cell l E K F G H (F a 3) p0 p1 p2 hk9999c) mv_X6_cell km_X10_265 rfl rfl ⟨Nat.le_of_ble_eq_true rfl, Nat.le_of_ble_eq_true rfl⟩ (rc_8 hK hT hk9999c) hK (fun _ => XPh.blind) (fun U hU hW => XPh.at hK hz hS hT hU hW) rfl hl.1 (Nat.le_of_ble_eq_true rfl) dX10_setOnPaper_53 ⟨Nat.le_of_ble_eq_true rfl, Nat.le_of_ble_eq_true rfl⟩) hS ?_
            rintro _ _ locs ⟨x53, rfl, t53⟩ hS
            have t53 : x53.toInt = (cel (vw (G.2.1 (F (F a 3) 0))) (p0.toInt) (p1.toInt) (p2.toInt)) := t53
            refine lv_iload hx hb dX10_setOnPaper_56 (lv_at hl 4 rfl) ?_
            refine xi_cne (tgt := 64) hx hb (t53 : Int32.toInt x53 = (cel (vw (G.2.1 (F (F a 3) 0))) (p0.toInt) (p1.toInt) (p2.toInt))) (rfl : Int32.toInt p3 = p3.toInt) dX10_setOnPaper_58 (by decide) (fun c58 => ?_) (fun c58 => ?_)
            · refine lv_aload_n hx hb dX10_setOnPaper_64 rfl (lv_at hl 0 rfl) ?_
              refine gX10_5 S hK hT ha kf_X10_44 dX10_setOnPaper_65 (fun _ _ => ?_)
              refine lv_aload_n hx hb dX10_setOnPaper_68 rfl (lv_at hl 0 rfl) ?_
              refine gX10_3 S hK hT ha kf_X10_37 dX10_setOnPaper_69 (fun _ _ => ?_)
              refine x_cv0 (x_runV (b := (F a 5)) (As := [.ref (F a 3)]) (rest := []) S (c_X6_copy l E K F G (F a 5) (F a 3) hk9999 hk9999c (v_X10_setOnPaper_72_5 (F := F) a G ro1)) mv_X6_copy km_X10_195 rfl rfl ⟨Nat.le_of_ble_eq_true rfl, Nat.le_of_ble_eq_true rfl⟩ (rc_8 hK hT hk9999) hK (fun _ => XP.blind) (fun U hU hW => XP.at hK hz hS hT hU hW) rfl hl.1 (Nat.le_of_ble_eq_true rfl) dX10_setOnPaper_72 ⟨Nat.le_of_ble_eq_true rfl, Nat.le_of_ble_eq_true rfl⟩) hS ?_
              rintro G72 H locs ⟨hF72, oq72, oq72a⟩ hT hS
              refine lv_aload_n hx hb dX10_setOnPaper_75 rfl (lv_at hl 0 rfl) ?_
              refine gX10_5 S hK hT ha kf_X10_44 dX10_setOnPaper_76 (fun _ _ => ?_)
              refine lv_iload_n hx hb dX10_setOnPaper_79 rfl (lv_at hl 1 rfl) ?_
              refine lv_iload_n hx hb dX10_setOnPaper_80 rfl (lv_at hl 2 rfl) ?_
              refine lv_iload_n hx hb dX10_setOnPaper_81 rfl (lv_at hl 3 rfl) ?_
              refine lv_iload hx hb dX10_setOnPaper_82 (lv_at hl 4 rfl) ?_
              refine x_cv0 (x_runV (b := (F a 5)) (As := [.int p0, .int p1, .int p2, .int p3]) (rest := []) S (c_X6_change l E K F G72 (F a 5) p0 p1 p2 p3 hk9999 (z_X10_setOnPaper_1 p2.toInt x15.toInt t15 c18) (z_X10_setOnPaper_2 p3.toInt x23.toInt t23 c26) (v_X10_setOnPaper_84_6 (F := F) a G72 oq72a)) mv_X6_change km_X10_203 rfl rfl ⟨Nat.le_of_ble_eq_true rfl, Nat.le_of_ble_eq_true rfl⟩ (rc_8 hK hT hk9999) hK (fun _ => XP.blind) (fun U hU hW => XP.at hK hz hS hT hU hW) rfl hl.1 (Nat.le_of_ble_eq_true rfl) dX10_setOnPaper_84 ⟨Nat.le_of_ble_eq_true rfl, Nat.le_of_ble_eq_true rfl⟩) hS ?_
              rintro G84 H locs ⟨hF84, oq84, oq84a⟩ hT hS
              refine lv_iconst (v := 0) hx hb dX10_setOnPaper_87 (by decide) ?_
              exact x_ri hx hb hr hlk hQ (Nat.le_of_ble_eq_true rfl) (Nat.le_of_ble_eq_true rfl) hS dX10_setOnPaper_88 G84 ⟨_, rfl, (XFr.call (XFr.call XFr.rf hF72 xm0 (xm1 0 rfl (xm1 1 rfl xm0)) xm0) hF84 xm0 (xm1 0 rfl xm0) xm0), (by decide), (v_X10_setOnPaper_88_7 (K := K) (F := F) a G G72 G84 p0 p1 p2 p3 x1 x8 x15 x23 x37 ha hk9999 hj9999 hk9999a hj9999b hk9999b hj9999d hk9999c hj9999e hk9999d hj9999g hk9999e hj9999i oq72 oq84 oq84a t1 c4 t8 c11 t15 c18 t23 c26 t37 c40 c58)⟩ hT
            · refine lv_bipush (v := (-4)) hx hb dX10_setOnPaper_61 (by decide) ?_
              exact x_ri hx hb hr hlk hQ (Nat.le_of_ble_eq_true rfl) (Nat.le_of_ble_eq_true rfl) hS dX10_setOnPaper_63 G ⟨_, rfl, XFr.rf, (by rw [((by decide) : Int32.toInt (-4) = (-4 : Int))] <;> exact (by decide)), (by rw [((by decide) : Int32.toInt (-4) = (-4 : Int))] <;> exact (v_X10_setOnPaper_63_8 (K := K) (F := F) a G p0 p1 p2 x1 x8 x15 x23 p3 x37 ha hk9999 hj9999 hk9999a hj9999b hk9999b hj9999d hk9999c hj9999e hk9999d hj9999g hk9999e hj9999i t1 c4 t8 c11 t15 c18 t23 c26 t37 c40 c58))⟩ hT
          · refine lv_bipush (v := (-2)) hx hb dX10_setOnPaper_43 (by decide) ?_
            exact x_ri hx hb hr hlk hQ (Nat.le_of_ble_eq_true rfl) (Nat.le_of_ble_eq_true rfl) hS dX10_setOnPaper_45 G ⟨_, rfl, XFr.rf, (by rw [((by decide) : Int32.toInt (-2) = (-2 : Int))] <;> exact (by decide)), (by rw [((by decide) : Int32.toInt (-2) = (-2 : Int))] <;> exact (v_X10_setOnPaper_45_9 (K := K) (F := F) a G x1 p0 x8 p1 x15 p2 x23 p3 x37 ha hk9999 hj9999 hk9999a hj9999b hk9999b hj9999d hk9999c hj9999e hk9999d hj9999g hk9999e hj9999i t1 c4 t8 c11 t15 c18 t23 c26 t37 c40))⟩ hT
        · refine lv_iconst (v := (-1)) hx hb dX10_setOnPaper_29 (by decide) ?_
          exact x_ri hx hb hr hlk hQ (Nat.le_of_ble_eq_true rfl) (Nat.le_of_ble_eq_true rfl) hS dX10_setOnPaper_30 G ⟨_, rfl, XFr.rf, (by rw [((by decide) : Int32.toInt (-1) = (-1 : Int))] <;> exact (by decide)), (by rw [((by decide) : Int32.toInt (-1) = (-1 : Int))] <;> exact (v_X10_setOnPaper_30_10 (K := K) (F := F) a G x1 p0 x8 p1 x15 p2 x23 p3 ha hk9999 hj9999 hk9999a hj9999b hk9999b hj9999d hk9999c hj9999e hk9999d hj9999g hk9999e hj9999i t1 c4 t8 c11 t15 c18 t23 c26))⟩ hT
/-! ===== the reference: what is found, which fails ===== -/
noncomputable def fuO (f : Nat → Int32) (r1 r2 : Int → Int) (late : Int) : List (Int × Int) := fuL f r1 r2 late (ordN (prM f) (rkM f) 12).2 (ordN (prM f) (rkM f) 12).1
/-- whether the question (q, s) fails by the rows r -/
noncomputable def fzq (f : Nat → Int32) (r : Int → Int) (q s : Int) : Int := flq r (aI f (10 * q + 0)) (aI f (10 * q + 1)) (aI f (10 * q + 2)) (aI f (10 * q + 4)) (aI f (10 * q + 5)) s (stt r (aI f (10 * q + 0)) (aI f (10 * q + 1)) (aI f (10 * q + 2)) (aI f (10 * q + 3)) s)
noncomputable def tq (f : Nat → Int32) (r : Int → Int) (x : Int × Int) : Qt := (x.1, x.2, 0, 0, 0, fzq f r x.1 x.2)
noncomputable def ffP (f : Nat → Int32) (r : Int → Int) (l : List (Int × Int)) : Int := ffL (l.map (tq f r))
def PV (f : Nat → Int32) (l : List (Int × Int)) : Prop := ∀ x, x ∈ l → (0 ≤ x.1 ∧ x.1 ≤ 11) ∧ aI f (10 * x.1 + 0) ≠ -1 ∧ sbj (aI f (10 * x.1 + 0)) x.2
theorem pL_len (G : XG) (F : Nat → Nat → Nat) (a : Nat) : (pL G F a).length = (G.1 a 19).toInt.toNat := lst_len _ _
theorem pL_at {G : XG} {F : Nat → Nat → Nat} {a : Nat} {z : Int} (h : 0 ≤ z ∧ z < (G.1 a 19).toInt) : (pL G F a)[z.toNat]? = some (aI (G.2.1 (F a 17)) z, aI (G.2.1 (F a 18)) z) := lst_get _ (by omega)
theorem pL_get {G : XG} {F : Nat → Nat → Nat} {a : Nat} {j : Nat} {x : Int × Int} (h : (pL G F a)[j]? = some x) : (j : Int) < (G.1 a 19).toInt ∧ x = (aI (G.2.1 (F a 17)) j, aI (G.2.1 (F a 18)) j) := by
  have hl : j < (G.1 a 19).toInt.toNat := by
    apply Classical.byContradiction
    intro q
    rw [List.getElem?_eq_none (by rw [pL_len]; omega)] at h
    cases h
  have h2 := pL_at (G := G) (F := F) (a := a) (z := (j : Int)) (by omega)
  rw [show ((j : Int)).toNat = j from by omega, h] at h2
  exact ⟨by omega, Option.some.inj h2⟩
theorem pv_at {G : XG} {F : Nat → Nat → Nat} {a : Nat} {f : Nat → Int32} (h : PV f (pL G F a)) {z : Int} (hz : 0 ≤ z ∧ z < (G.1 a 19).toInt) : (0 ≤ aI (G.2.1 (F a 17)) z ∧ aI (G.2.1 (F a 17)) z ≤ 11) ∧ aI f (10 * aI (G.2.1 (F a 17)) z + 0) ≠ -1 ∧ (sF (aI f (10 * aI (G.2.1 (F a 17)) z + 0)) ≤ aI (G.2.1 (F a 18)) z ∧ aI (G.2.1 (F a 18)) z ≤ sL (aI f (10 * aI (G.2.1 (F a 17)) z + 0))) := by
  have := h _ (List.mem_of_getElem? (pL_at hz))
  exact ⟨this.1, this.2.1, sbj_FL.mp this.2.2⟩
theorem fus_pv (f : Nat → Int32) (r1 r2 : Int → Int) (late : Int) {q : Int} (hq : 0 ≤ q ∧ q ≤ 11) (hk : aI f (10 * q + 0) ≠ -1) : PV f (fus f r1 r2 late q) := by
  intro x hx
  unfold fus at hx
  split at hx
  · rw [List.mem_filterMap] at hx
    obtain ⟨s, hs, he⟩ := hx
    unfold fu1 at he
    split at he
    · cases he
      exact ⟨hq, hk, (subs_mem _ _).mp hs⟩
    · cases he
  · cases hx
theorem fuO_pv (f : Nat → Int32) (r1 r2 : Int → Int) (late : Int) : PV f (fuO f r1 r2 late) := by
  have key : ∀ n, n ≤ (ordN (prM f) (rkM f) 12).1 → PV f (fuL f r1 r2 late (ordN (prM f) (rkM f) 12).2 n) := by
    intro n
    induction n with
    | zero => intro _ x hx; cases hx
    | succ n ih =>
      intro hn x hx
      rw [fuL_s, List.mem_append] at hx
      have h3 := ordN_in (prM f) (rkM f) 12 n (by omega)
      rcases hx with hx | hx
      · exact ih (by omega) x hx
      · exact fus_pv f r1 r2 late ⟨by omega, by omega⟩ (of_decide_eq_true h3.2) x hx
  exact key _ (Nat.le_refl _)
theorem ffP_eq {G : XG} {F : Nat → Nat → Nat} {a : Nat} {f : Nat → Int32} {r : Int → Int} {x : Int} (h1 : x = -1 ∨ (0 ≤ x ∧ x < (G.1 a 19).toInt ∧ fzq f r (aI (G.2.1 (F a 17)) x) (aI (G.2.1 (F a 18)) x) = 1)) (h2 : ∀ j : Int, 0 ≤ j → j < (G.1 a 19).toInt → (x = -1 ∨ j < x) → fzq f r (aI (G.2.1 (F a 17)) j) (aI (G.2.1 (F a 18)) j) = 0) : x = ffP f r (pL G F a) := by
  symm
  unfold ffP
  refine ffL_eq _ x ?_ (fun j y hj hr => ?_)
  · rcases h1 with h | ⟨a1, a2, a3⟩
    · exact Or.inl h
    · refine Or.inr ⟨a1, _, by rw [List.getElem?_map, pL_at ⟨a1, a2⟩]; rfl, ?_⟩
      show fzq f r (aI (G.2.1 (F a 17)) x) (aI (G.2.1 (F a 18)) x) ≠ 0
      rw [a3]; decide
  · rw [List.getElem?_map] at hj
    cases hp : (pL G F a)[j]? with
    | none => rw [hp] at hj; cases hj
    | some w =>
      rw [hp] at hj
      obtain ⟨hw, rfl⟩ := pL_get hp
      have := h2 (j : Int) (by omega) hw hr
      cases hj
      exact this
theorem flq01 (r : Int → Int) (kd t c lo hi s v : Int) : flq r kd t c lo hi s v = 0 ∨ flq r kd t c lo hi s v = 1 := by
  by_cases h : flv r kd t c lo hi s v
  · exact Or.inr (flq_1 h)
  · exact Or.inl (flq_0 h)
theorem ql_all {G : XG} {F : Nat → Nat → Nat} {a : Nat} {P : Qt → Prop} (h : ∀ j : Int, 0 ≤ j → j < (G.1 a 6).toInt → P (qt (G.2.1 (F a 0)) (G.2.1 (F a 1)) (G.2.1 (F a 2)) (G.2.1 (F a 3)) (G.2.1 (F a 4)) (G.2.1 (F a 5)) j.toNat)) : ∀ x, x ∈ qL G F a → P x := by
  intro x hx
  obtain ⟨j, hj⟩ := List.mem_iff_getElem?.mp hx
  obtain ⟨h1, rfl⟩ := qL_get hj
  have := h (j : Int) (by omega) h1
  rw [show ((j : Int)).toNat = j from by omega] at this
  exact this
theorem xlen_lt {i : Nat} (h : i < 13) : xlen.getD i 0 < 2 ^ 31 := by
  have : ∀ j, j < 13 → xlen.getD j 0 < 2 ^ 31 := by decide
  exact this i h
theorem x_dummy : True := trivial

abbrev rm_J0_coder_7d493 : Room := { frames := 0, cells := 0, slots := 0, locals := 0 }
set_option maxHeartbeats 4000000 in
set_option maxRecDepth 100000 in
theorem c_J0_coder_7d493 (l : Launch) (E : XE) (K : Nat → Nat) (F : Nat → Nat → Nat) (G : XG) (h0 : Heap) (i : Nat) (hi : i < 13) : Met l yJ0_coder_7d493 (xw yJ0_coder_7d493 cJ0_coder_7d493 1 (some .byte)) rm_J0_coder_7d493 (va_Pc [.ref (E.2.2.2.2.1 i)] (XPh E K F G h0)) (XQ E (fun v (u : Unit) => ∃ r : Int32, v = .int r ∧ r = 0) (fun _ H => H = h0)) 0 0 (xA E) := by
  refine x_enter (by decide) (Nat.le_of_ble_eq_true rfl) ?_
  intro p e s m args below meth c Q S hr hlk hnm hQ hP ls hl
  obtain ⟨⟨hz, hK, hT⟩, hh⟩ := hP
  obtain ⟨hx, hb, -, -, -⟩ := id S
  have hS : va_S (xA E) s.heap s.heap [] := va_S.rf
  have hl : lv_has ls 1 [(0, .ref (E.2.2.2.2.1 i))] := hl
  refine va_gets hx hb hK.2.2.2.2.1 hS S.2.2.2.1 (S.2.2.2.2 _ (List.mem_cons_of_mem _ kf_J0_38)) (fun _ h => h) dJ0_coder_7d493_0 ?_
  refine xi_zeq (tgt := 13) hx hb ((by decide) : Int32.toInt 1 = (1 : Int)) dJ0_coder_7d493_3 (by decide) (fun c => absurd c (show ¬ ((1 : Int) = 0) by decide)) (fun _ => ?_)
  refine lv_aload_n hx hb dJ0_coder_7d493_6 rfl (lv_at hl 0 rfl) ?_
  refine vk_getf hx hb (hK.2.2.2.1.1 i hi).2.1 hS S.2.2.2.1 (S.2.2.2.2 _ (List.mem_cons_of_mem _ kf_J0_15)) (fun _ h => h) dJ0_coder_7d493_7 ?_
  refine lv_goto (tgt := 14) hx hb dJ0_coder_7d493_10 (by decide) ?_
  exact x_rz hx hb hr rfl hlk hQ (Nat.le_of_ble_eq_true rfl) (Nat.le_of_ble_eq_true rfl) hS dJ0_coder_7d493_14 () ⟨_, rfl, rfl⟩ hh

abbrev rm_J0_isLatin1_aae02 : Room := { frames := 0, cells := 0, slots := 0, locals := 0 }
set_option maxHeartbeats 4000000 in
set_option maxRecDepth 100000 in
theorem c_J0_isLatin1_aae02 (l : Launch) (E : XE) (K : Nat → Nat) (F : Nat → Nat → Nat) (G : XG) (h0 : Heap) (i : Nat) (hi : i < 13) : Met l yJ0_isLatin1_aae02 (xw yJ0_isLatin1_aae02 cJ0_isLatin1_aae02 1 (some .boolean)) rm_J0_isLatin1_aae02 (va_Pc [.ref (E.2.2.2.2.1 i)] (XPh E K F G h0)) (XQ E (fun v (u : Unit) => ∃ r : Int32, v = .int r ∧ r = 1) (fun _ H => H = h0)) 0 0 (xA E) := by
  refine x_enter (by decide) (Nat.le_of_ble_eq_true rfl) ?_
  intro p e s m args below meth c Q S hr hlk hnm hQ hP ls hl
  obtain ⟨⟨hz, hK, hT⟩, hh⟩ := hP
  obtain ⟨hx, hb, -, -, -⟩ := id S
  have hS : va_S (xA E) s.heap s.heap [] := va_S.rf
  have hl : lv_has ls 1 [(0, .ref (E.2.2.2.2.1 i))] := hl
  refine va_gets hx hb hK.2.2.2.2.1 hS S.2.2.2.1 (S.2.2.2.2 _ (List.mem_cons_of_mem _ kf_J0_38)) (fun _ h => h) dJ0_isLatin1_aae02_0 ?_
  refine xi_zeq (tgt := 17) hx hb ((by decide) : Int32.toInt 1 = (1 : Int)) dJ0_isLatin1_aae02_3 (by decide) (fun c => absurd c (show ¬ ((1 : Int) = 0) by decide)) (fun _ => ?_)
  refine lv_aload_n hx hb dJ0_isLatin1_aae02_6 rfl (lv_at hl 0 rfl) ?_
  refine vk_getf hx hb (hK.2.2.2.1.1 i hi).2.1 hS S.2.2.2.1 (S.2.2.2.2 _ (List.mem_cons_of_mem _ kf_J0_15)) (fun _ h => h) dJ0_isLatin1_aae02_7 ?_
  refine xi_zne (tgt := 17) hx hb ((by decide) : Int32.toInt 0 = (0 : Int)) dJ0_isLatin1_aae02_10 (by decide) (fun c => absurd c (show ¬ ((0 : Int) ≠ 0) by decide)) (fun _ => ?_)
  refine lv_iconst (v := 1) hx hb dJ0_isLatin1_aae02_13 (by decide) ?_
  refine lv_goto (tgt := 18) hx hb dJ0_isLatin1_aae02_14 (by decide) ?_
  exact x_rz hx hb hr (xnz (Or.inr rfl)) hlk hQ (Nat.le_of_ble_eq_true rfl) (Nat.le_of_ble_eq_true rfl) hS dJ0_isLatin1_aae02_18 () ⟨_, rfl, rfl⟩ hh

abbrev rm_J0_length_8abf5 : Room := { frames := 1, cells := 0, slots := 0, locals := 20 }
set_option maxHeartbeats 4000000 in
set_option maxRecDepth 100000 in
theorem c_J0_length_8abf5 (l : Launch) (E : XE) (K : Nat → Nat) (F : Nat → Nat → Nat) (G : XG) (h0 : Heap) (i : Nat) (hi : i < 13) : Met l yJ0_length_8abf5 (xw yJ0_length_8abf5 cJ0_length_8abf5 1 (some .int)) rm_J0_length_8abf5 (va_Pc [.ref (E.2.2.2.2.1 i)] (XPh E K F G h0)) (XQ E (fun v (u : Unit) => ∃ r : Int32, v = .int r ∧ r.toInt = ((xlen.getD i 0 : Nat) : Int)) (fun _ H => H = h0)) 0 0 (xA E) := by
  refine x_enter (by decide) (Nat.le_of_ble_eq_true rfl) ?_
  intro p e s m args below meth c Q S hr hlk hnm hQ hP ls hl
  obtain ⟨⟨hz, hK, hT⟩, hh⟩ := hP
  obtain ⟨hx, hb, -, -, -⟩ := id S
  have hS : va_S (xA E) s.heap s.heap [] := va_S.rf
  have hl : lv_has ls 1 [(0, .ref (E.2.2.2.2.1 i))] := hl
  refine lv_aload_n hx hb dJ0_length_8abf5_0 rfl (lv_at hl 0 rfl) ?_
  refine vk_getf hx hb (hK.2.2.2.1.1 i hi).2.2.1 hS S.2.2.2.1 (S.2.2.2.2 _ (List.mem_cons_of_mem _ kf_J0_9)) (fun _ h => h) dJ0_length_8abf5_1 ?_
  refine va_tlen hx hb (hK.2.2.2.1.1 i hi).2.2.2 hS rfl dJ0_length_8abf5_4 (lv_topi (fun x1 t2 => ?_))
  have t2 : x1.toInt = ((xlen.getD i 0 : Nat) : Int) := by rw [t2]; exact nI_toInt (xlen_lt hi)
  refine lv_aload_n hx hb dJ0_length_8abf5_5 rfl (lv_at hl 0 rfl) ?_
  refine x_clp (x_runV (b := (E.2.2.2.2.1 i)) (As := []) (rest := [.int x1]) S (c_J0_coder_7d493 l E K F G s.heap i hi) mv_J0_coder_7d493 km_J0_335 rfl rfl ⟨Nat.le_of_ble_eq_true rfl, Nat.le_of_ble_eq_true rfl⟩ (vk_recv hK.2.2.2.1 hi hS) hK (fun _ => XPh.blind) (fun U hU hW => XPh.at hK hz hS hT hU hW) rfl hl.1 (Nat.le_of_ble_eq_true rfl) dJ0_length_8abf5_6 ⟨Nat.le_of_ble_eq_true rfl, Nat.le_of_ble_eq_true rfl⟩) hS ?_
  rintro _ _ locs ⟨_, rfl, rfl⟩ hS
  refine lv_ishr hx hb dJ0_length_8abf5_9 ?_
  rw [sb_shr0]
  exact x_ri hx hb hr hlk hQ (Nat.le_of_ble_eq_true rfl) (Nat.le_of_ble_eq_true rfl) hS dJ0_length_8abf5_10 () ⟨_, rfl, (t2)⟩ hh

theorem z_J3_checkIndex_8e157_n_1 (a0 : Int) (a1 : Int) (h0 : 0 ≤ a0 ∧ a0 < a1) (h1 : a0 < 0) : (0 : Int) = 1 ∧ a0 = a0 := by omega
theorem z_J3_checkIndex_8e157_n_2 (a0 : Int) (a1 : Int) (h0 : 0 ≤ a0 ∧ a0 < a1) (h1 : ¬ (a0 < a1)) : (0 : Int) = 1 ∧ a0 = a0 := by omega
abbrev rm_J3_checkIndex_8e157_n : Room := { frames := 0, cells := 0, slots := 0, locals := 0 }
set_option maxHeartbeats 4000000 in
set_option maxRecDepth 100000 in
theorem c_J3_checkIndex_8e157_n (l : Launch) (E : XE) (K : Nat → Nat) (F : Nat → Nat → Nat) (G : XG) (h0 : Heap) (p0 : Int32) (p1 : Int32) (e0 : 0 ≤ p0.toInt ∧ p0.toInt < p1.toInt) : Met l yJ3_checkIndex_8e157 (xw yJ3_checkIndex_8e157 cJ3_checkIndex_8e157 3 (some .int)) rm_J3_checkIndex_8e157_n (va_Pc [.int p0, .int p1, .null] (XPh E K F G h0)) (XQ E (fun v (u : Unit) => ∃ r : Int32, v = .int r) (fun _ H => H = h0)) 0 0 (xA E) := by
  refine x_enter (by decide) (Nat.le_of_ble_eq_true rfl) ?_
  intro p e s m args below meth c Q S hr hlk hnm hQ hP ls hl
  obtain ⟨⟨hz, hK, hT⟩, hh⟩ := hP
  obtain ⟨hx, hb, -, -, -⟩ := id S
  have hS : va_S (xA E) s.heap s.heap [] := va_S.rf
  have hl : lv_has ls 3 [(0, .int p0), (1, .int p1), (2, .null)] := hl
  refine lv_iload_n hx hb dJ3_checkIndex_8e157_0 rfl (lv_at hl 0 rfl) ?_
  refine xi_zlt (tgt := 9) hx hb (rfl : Int32.toInt p0 = p0.toInt) dJ3_checkIndex_8e157_1 (by decide) (fun c1 => ?_) (fun c1 => ?_)
  · exact absurd ((z_J3_checkIndex_8e157_n_1 p0.toInt p1.toInt e0 c1)).1 (by decide)
  · refine lv_iload_n hx hb dJ3_checkIndex_8e157_4 rfl (lv_at hl 0 rfl) ?_
    refine lv_iload_n hx hb dJ3_checkIndex_8e157_5 rfl (lv_at hl 1 rfl) ?_
    refine xi_clt (tgt := 16) hx hb (rfl : Int32.toInt p0 = p0.toInt) (rfl : Int32.toInt p1 = p1.toInt) dJ3_checkIndex_8e157_6 (by decide) (fun c2 => ?_) (fun c2 => ?_)
    · refine lv_iload_n hx hb dJ3_checkIndex_8e157_16 rfl (lv_at hl 0 rfl) ?_
      exact x_ri hx hb hr hlk hQ (Nat.le_of_ble_eq_true rfl) (Nat.le_of_ble_eq_true rfl) hS dJ3_checkIndex_8e157_17 () ⟨_, rfl⟩ hh
    · exact absurd ((z_J3_checkIndex_8e157_n_2 p0.toInt p1.toInt e0 c2)).1 (by decide)

abbrev rm_J3_checkIndex_8e157_r : Room := { frames := 0, cells := 0, slots := 0, locals := 0 }
set_option maxHeartbeats 4000000 in
set_option maxRecDepth 100000 in
theorem c_J3_checkIndex_8e157_r (l : Launch) (E : XE) (K : Nat → Nat) (F : Nat → Nat → Nat) (G : XG) (h0 : Heap) (p0 : Int32) (p1 : Int32) (p2 : Nat) (e0 : 0 ≤ p0.toInt ∧ p0.toInt < p1.toInt) : Met l yJ3_checkIndex_8e157 (xw yJ3_checkIndex_8e157 cJ3_checkIndex_8e157 3 (some .int)) rm_J3_checkIndex_8e157_r (va_Pc [.int p0, .int p1, .ref p2] (XPh E K F G h0)) (XQ E (fun v (u : Unit) => ∃ r : Int32, v = .int r) (fun _ H => H = h0)) 0 0 (xA E) := by
  refine x_enter (by decide) (Nat.le_of_ble_eq_true rfl) ?_
  intro p e s m args below meth c Q S hr hlk hnm hQ hP ls hl
  obtain ⟨⟨hz, hK, hT⟩, hh⟩ := hP
  obtain ⟨hx, hb, -, -, -⟩ := id S
  have hS : va_S (xA E) s.heap s.heap [] := va_S.rf
  have hl : lv_has ls 3 [(0, .int p0), (1, .int p1), (2, .ref p2)] := hl
  refine lv_iload_n hx hb dJ3_checkIndex_8e157_0 rfl (lv_at hl 0 rfl) ?_
  refine xi_zlt (tgt := 9) hx hb (rfl : Int32.toInt p0 = p0.toInt) dJ3_checkIndex_8e157_1 (by decide) (fun c1 => ?_) (fun c1 => ?_)
  · exact absurd ((z_J3_checkIndex_8e157_n_1 p0.toInt p1.toInt e0 c1)).1 (by decide)
  · refine lv_iload_n hx hb dJ3_checkIndex_8e157_4 rfl (lv_at hl 0 rfl) ?_
    refine lv_iload_n hx hb dJ3_checkIndex_8e157_5 rfl (lv_at hl 1 rfl) ?_
    refine xi_clt (tgt := 16) hx hb (rfl : Int32.toInt p0 = p0.toInt) (rfl : Int32.toInt p1 = p1.toInt) dJ3_checkIndex_8e157_6 (by decide) (fun c2 => ?_) (fun c2 => ?_)
    · refine lv_iload_n hx hb dJ3_checkIndex_8e157_16 rfl (lv_at hl 0 rfl) ?_
      exact x_ri hx hb hr hlk hQ (Nat.le_of_ble_eq_true rfl) (Nat.le_of_ble_eq_true rfl) hS dJ3_checkIndex_8e157_17 () ⟨_, rfl⟩ hh
    · exact absurd ((z_J3_checkIndex_8e157_n_2 p0.toInt p1.toInt e0 c2)).1 (by decide)

abbrev rm_J0_checkIndex_df160 : Room := { frames := 1, cells := 0, slots := 0, locals := 22 }
set_option maxHeartbeats 4000000 in
set_option maxRecDepth 100000 in
theorem c_J0_checkIndex_df160 (l : Launch) (E : XE) (K : Nat → Nat) (F : Nat → Nat → Nat) (G : XG) (h0 : Heap) (p0 : Int32) (p1 : Int32) (e0 : 0 ≤ p0.toInt ∧ p0.toInt < p1.toInt) : Met l yJ0_checkIndex_df160 (xw yJ0_checkIndex_df160 cJ0_checkIndex_df160 2 none) rm_J0_checkIndex_df160 (va_Pc [.int p0, .int p1] (XPh E K F G h0)) (XQv E (fun (u : Unit) => True) (fun _ H => H = h0)) 0 0 (xA E) := by
  refine x_enter (by decide) (Nat.le_of_ble_eq_true rfl) ?_
  intro p e s m args below meth c Q S hr hlk hnm hQ hP ls hl
  obtain ⟨⟨hz, hK, hT⟩, hh⟩ := hP
  obtain ⟨hx, hb, -, -, -⟩ := id S
  have hS : va_S (xA E) s.heap s.heap [] := va_S.rf
  have hl : lv_has ls 2 [(0, .int p0), (1, .int p1)] := hl
  refine lv_iload_n hx hb dJ0_checkIndex_df160_0 rfl (lv_at hl 0 rfl) ?_
  refine lv_iload_n hx hb dJ0_checkIndex_df160_1 rfl (lv_at hl 1 rfl) ?_
  rcases hK.2.2.2.2.2.1 with hz2 | ⟨q1, hz2⟩
  · refine va_gets hx hb hz2 hS S.2.2.2.1 (S.2.2.2.2 _ (List.mem_cons_of_mem _ kf_J0_1053)) (fun _ h => h) dJ0_checkIndex_df160_2 ?_
    refine x_clp (x_runS (As := [.int p0, .int p1, .null]) (rest := []) S (c_J3_checkIndex_8e157_n l E K F G s.heap p0 p1 (e0)) ms_J3_checkIndex_8e157 km_J0_1059 rfl rfl ⟨Nat.le_of_ble_eq_true rfl, Nat.le_of_ble_eq_true rfl⟩ hK (fun _ => XPh.blind) (fun U hU hW => XPh.at hK hz hS hT hU hW) rfl hl.1 (Nat.le_of_ble_eq_true rfl) dJ0_checkIndex_df160_5 ⟨Nat.le_of_ble_eq_true rfl, Nat.le_of_ble_eq_true rfl⟩) hS ?_
    rintro _ _ locs ⟨x3, rfl⟩ hS
    refine lv_pop hx hb dJ0_checkIndex_df160_8 rfl ?_
    exact x_rv hx hb hr hlk hQ (Nat.le_of_ble_eq_true rfl) (Nat.le_of_ble_eq_true rfl) hS dJ0_checkIndex_df160_9 () trivial hh
  · refine va_gets hx hb hz2 hS S.2.2.2.1 (S.2.2.2.2 _ (List.mem_cons_of_mem _ kf_J0_1053)) (fun _ h => h) dJ0_checkIndex_df160_2 ?_
    refine x_clp (x_runS (As := [.int p0, .int p1, .ref q1]) (rest := []) S (c_J3_checkIndex_8e157_r l E K F G s.heap p0 p1 q1 (e0)) ms_J3_checkIndex_8e157 km_J0_1059 rfl rfl ⟨Nat.le_of_ble_eq_true rfl, Nat.le_of_ble_eq_true rfl⟩ hK (fun _ => XPh.blind) (fun U hU hW => XPh.at hK hz hS hT hU hW) rfl hl.1 (Nat.le_of_ble_eq_true rfl) dJ0_checkIndex_df160_5 ⟨Nat.le_of_ble_eq_true rfl, Nat.le_of_ble_eq_true rfl⟩) hS ?_
    rintro _ _ locs ⟨x4, rfl⟩ hS
    refine lv_pop hx hb dJ0_checkIndex_df160_8 rfl ?_
    exact x_rv hx hb hr hlk hQ (Nat.le_of_ble_eq_true rfl) (Nat.le_of_ble_eq_true rfl) hS dJ0_checkIndex_df160_9 () trivial hh

theorem z_J1_charAt_3b067_1 (a0 : Int) (a1 : Int) (a2 : Nat) (h0 : 0 ≤ a0 ∧ a0 < ((a2 : Nat) : Int)) (h1 : a1 = ((a2 : Nat) : Int)) : 0 ≤ a0 ∧ a0 < a1 := by omega
abbrev rm_J1_charAt_3b067 : Room := { frames := 2, cells := 0, slots := 0, locals := 43 }
set_option maxHeartbeats 4000000 in
set_option maxRecDepth 100000 in
theorem c_J1_charAt_3b067 (l : Launch) (E : XE) (K : Nat → Nat) (F : Nat → Nat → Nat) (G : XG) (h0 : Heap) (i : Nat) (p1 : Int32) (hi : i < 13) (e0 : 0 ≤ p1.toInt ∧ p1.toInt < ((xlen.getD i 0 : Nat) : Int)) : Met l yJ1_charAt_3b067 (xw yJ1_charAt_3b067 cJ1_charAt_3b067 2 (some .char)) rm_J1_charAt_3b067 (va_Pc [.ref (E.2.2.2.2.2 i), .int p1] (XPh E K F G h0)) (XQ E (fun v (u : Unit) => ∃ r : Int32, v = .int r ∧ xok 1 r) (fun _ H => H = h0)) 0 0 (xA E) := by
  refine x_enter (by decide) (Nat.le_of_ble_eq_true rfl) ?_
  intro p e s m args below meth c Q S hr hlk hnm hQ hP ls hl
  obtain ⟨⟨hz, hK, hT⟩, hh⟩ := hP
  obtain ⟨hx, hb, -, -, -⟩ := id S
  have hS : va_S (xA E) s.heap s.heap [] := va_S.rf
  have hl : lv_has ls 2 [(0, .ref (E.2.2.2.2.2 i)), (1, .int p1)] := hl
  refine lv_iload_n hx hb dJ1_charAt_3b067_0 rfl (lv_at hl 1 rfl) ?_
  refine lv_aload_n hx hb dJ1_charAt_3b067_1 rfl (lv_at hl 0 rfl) ?_
  refine va_tlen hx hb (hK.2.2.2.1.1 i hi).2.2.2 hS rfl dJ1_charAt_3b067_2 (lv_topi (fun x1 t2 => ?_))
  have t2 : x1.toInt = ((xlen.getD i 0 : Nat) : Int) := by rw [t2]; exact nI_toInt (xlen_lt hi)
  refine x_cvp (x_runS (As := [.int p1, .int x1]) (rest := []) S (c_J0_checkIndex_df160 l E K F G s.heap p1 x1 (z_J1_charAt_3b067_1 p1.toInt x1.toInt (xlen.getD i 0) e0 t2)) ms_J0_checkIndex_df160 km_J1_9 rfl rfl ⟨Nat.le_of_ble_eq_true rfl, Nat.le_of_ble_eq_true rfl⟩ hK (fun _ => XPh.blind) (fun U hU hW => XPh.at hK hz hS hT hU hW) rfl hl.1 (Nat.le_of_ble_eq_true rfl) dJ1_charAt_3b067_3 ⟨Nat.le_of_ble_eq_true rfl, Nat.le_of_ble_eq_true rfl⟩) hS ?_
  rintro _ locs - hS
  refine lv_aload_n hx hb dJ1_charAt_3b067_6 rfl (lv_at hl 0 rfl) ?_
  refine lv_iload_n hx hb dJ1_charAt_3b067_7 rfl (lv_at hl 1 rfl) ?_
  refine va_tb hx hb (hK.2.2.2.1.1 i hi).2.2.2 hS (vp_in_iff.mpr (e0)) rfl dJ1_charAt_3b067_8 (lv_topi (fun x3 _ => ?_))
  refine lv_sipush (v := 255) hx hb dJ1_charAt_3b067_9 (by decide) ?_
  refine lv_iand hx hb dJ1_charAt_3b067_12 (lv_topi (fun x4 _ => ?_))
  refine lv_i2c hx hb dJ1_charAt_3b067_13 rfl (lv_topi (fun x5 ec6 => ?_))
  exact x_rz hx hb hr (by rw [ec6]; exact pk_nc _) hlk hQ (Nat.le_of_ble_eq_true rfl) (Nat.le_of_ble_eq_true rfl) hS dJ1_charAt_3b067_14 () ⟨_, rfl, (by rw [ec6]; exact pk_nc _)⟩ hh

abbrev rm_J0_charAt_5068e : Room := { frames := 3, cells := 0, slots := 0, locals := 64 }
set_option maxHeartbeats 4000000 in
set_option maxRecDepth 100000 in
theorem c_J0_charAt_5068e (l : Launch) (E : XE) (K : Nat → Nat) (F : Nat → Nat → Nat) (G : XG) (h0 : Heap) (i : Nat) (p0 : Int32) (hi : i < 13) (e0 : 0 ≤ p0.toInt ∧ p0.toInt < ((xlen.getD i 0 : Nat) : Int)) : Met l yJ0_charAt_5068e (xw yJ0_charAt_5068e cJ0_charAt_5068e 2 (some .char)) rm_J0_charAt_5068e (va_Pc [.ref (E.2.2.2.2.1 i), .int p0] (XPh E K F G h0)) (XQ E (fun v (u : Unit) => ∃ r : Int32, v = .int r ∧ xok 1 r) (fun _ H => H = h0)) 0 0 (xA E) := by
  refine x_enter (by decide) (Nat.le_of_ble_eq_true rfl) ?_
  intro p e s m args below meth c Q S hr hlk hnm hQ hP ls hl
  obtain ⟨⟨hz, hK, hT⟩, hh⟩ := hP
  obtain ⟨hx, hb, -, -, -⟩ := id S
  have hS : va_S (xA E) s.heap s.heap [] := va_S.rf
  have hl : lv_has ls 2 [(0, .ref (E.2.2.2.2.1 i)), (1, .int p0)] := hl
  refine lv_aload_n hx hb dJ0_charAt_5068e_0 rfl (lv_at hl 0 rfl) ?_
  refine x_clp (x_runV (b := (E.2.2.2.2.1 i)) (As := []) (rest := []) S (c_J0_isLatin1_aae02 l E K F G s.heap i hi) mv_J0_isLatin1_aae02 km_J0_492 rfl rfl ⟨Nat.le_of_ble_eq_true rfl, Nat.le_of_ble_eq_true rfl⟩ (vk_recv hK.2.2.2.1 hi hS) hK (fun _ => XPh.blind) (fun U hU hW => XPh.at hK hz hS hT hU hW) rfl hl.1 (Nat.le_of_ble_eq_true rfl) dJ0_charAt_5068e_1 ⟨Nat.le_of_ble_eq_true rfl, Nat.le_of_ble_eq_true rfl⟩) hS ?_
  rintro _ _ locs ⟨_, rfl, rfl⟩ hS
  refine xi_zeq (tgt := 16) hx hb ((by decide) : Int32.toInt 1 = (1 : Int)) dJ0_charAt_5068e_4 (by decide) (fun c => absurd c (show ¬ ((1 : Int) = 0) by decide)) (fun _ => ?_)
  refine lv_aload_n hx hb dJ0_charAt_5068e_7 rfl (lv_at hl 0 rfl) ?_
  refine vk_getf hx hb (hK.2.2.2.1.1 i hi).2.2.1 hS S.2.2.2.1 (S.2.2.2.2 _ (List.mem_cons_of_mem _ kf_J0_9)) (fun _ h => h) dJ0_charAt_5068e_8 ?_
  refine lv_iload_n hx hb dJ0_charAt_5068e_11 rfl (lv_at hl 1 rfl) ?_
  refine x_clp (x_runS (As := [.ref (E.2.2.2.2.2 i), .int p0]) (rest := []) S (c_J1_charAt_3b067 l E K F G s.heap i p0 hi (e0)) ms_J1_charAt_3b067 km_J0_495 rfl rfl ⟨Nat.le_of_ble_eq_true rfl, Nat.le_of_ble_eq_true rfl⟩ hK (fun _ => XPh.blind) (fun U hU hW => XPh.at hK hz hS hT hU hW) rfl hl.1 (Nat.le_of_ble_eq_true rfl) dJ0_charAt_5068e_12 ⟨Nat.le_of_ble_eq_true rfl, Nat.le_of_ble_eq_true rfl⟩) hS ?_
  rintro _ _ locs ⟨x1, rfl, o2⟩ hS
  exact x_rz hx hb hr o2 hlk hQ (Nat.le_of_ble_eq_true rfl) (Nat.le_of_ble_eq_true rfl) hS dJ0_charAt_5068e_15 () ⟨_, rfl, o2⟩ hh
section
/-! ===== the builder ===== -/
def TWk (E : XE) (K : Nat → Nat) (F : Nat → Nat → Nat) (G : XG) (ws : va_W) : Prop := (∀ a : Nat, K a ≠ 0 → ∃ (i : Nat) (e : va_E), ws[i]? = some (a, e) ∧ SHQ E K F G a (K a) e) ∧ True
def XBs (E : XE) (K : Nat → Nat) (ws : va_W) (v n : Nat) (cnt : Int32) : Prop := ∃ (i j : Nat) (f : Nat → Int32) (ml : Int32), ws[i]? = some (E.2.2.2.1, .inr (0, [.ref v, .int 0, .int ml, .int cnt])) ∧ ws[j]? = some (v, .inl (E.2.1 2, n, .inl f)) ∧ K E.2.2.2.1 = 0 ∧ K v = 0 ∧ (∀ q, xok 2 (f q)) ∧ 0 ≤ cnt.toInt ∧ cnt.toInt ≤ n ∧ n ≤ 100
def TWb (E : XE) (K : Nat → Nat) (F : Nat → Nat → Nat) (G : XG) (v n : Nat) (cnt : Int32) (H : Heap) : Prop := ∃ ws, TWk E K F G ws ∧ XBs E K ws v n cnt ∧ va_P E.1 vwCl ws H ∧ va_D (xA E) ws
def TWc (E : XE) (K : Nat → Nat) (F : Nat → Nat → Nat) (G : XG) (v n : Nat) (cnt : Int32) (q nq : Nat) (H : Heap) : Prop := ∃ ws, TWk E K F G ws ∧ XBs E K ws v n cnt ∧ (∃ (k : Nat) (g : Nat → Int32), ws[k]? = some (q, .inl (E.2.1 2, nq, .inl g)) ∧ K q = 0 ∧ q ≠ v ∧ ∀ z, xok 2 (g z)) ∧ va_P E.1 vwCl ws H ∧ va_D (xA E) ws
theorem TW.op {E : XE} {K : Nat → Nat} {F : Nat → Nat → Nat} {G : XG} {H : Heap} (h : TW E K F G H) : ∃ (v n : Nat) (cnt : Int32), TWb E K F G v n cnt H := by
  obtain ⟨ws, ⟨h1, i, j, v, n, f, ml, cnt, h3⟩, hP, hD⟩ := h
  exact ⟨v, n, cnt, ws, ⟨h1, trivial⟩, ⟨i, j, f, ml, h3⟩, hP, hD⟩
theorem TWb.cl {E : XE} {K : Nat → Nat} {F : Nat → Nat → Nat} {G : XG} {v n : Nat} {cnt : Int32} {H : Heap} (h : TWb E K F G v n cnt H) : TW E K F G H := by
  obtain ⟨ws, ⟨h1, h2⟩, ⟨i, j, f, ml, h3⟩, hP, hD⟩ := h
  exact ⟨ws, ⟨h1, i, j, v, n, f, ml, cnt, h3⟩, hP, hD⟩
theorem TWc.cl {E : XE} {K : Nat → Nat} {F : Nat → Nat → Nat} {G : XG} {v n : Nat} {cnt : Int32} {q nq : Nat} {H : Heap} (h : TWc E K F G v n cnt q nq H) : TW E K F G H := by
  obtain ⟨ws, ⟨h1, h2⟩, ⟨i, j, f, ml, h3⟩, -, hP, hD⟩ := h
  exact ⟨ws, ⟨h1, i, j, v, n, f, ml, cnt, h3⟩, hP, hD⟩
theorem TWb.inv {E : XE} {K : Nat → Nat} {F : Nat → Nat → Nat} {G : XG} {v n : Nat} {cnt : Int32} {H : Heap} (h : TWb E K F G v n cnt H) : 0 ≤ cnt.toInt ∧ cnt.toInt ≤ ((n : Nat) : Int) ∧ ((n : Nat) : Int) ≤ 100 := by
  obtain ⟨ws, -, ⟨i, j, f, ml, -, -, -, -, -, h1, h2, h3⟩, -, -⟩ := h
  exact ⟨h1, h2, by omega⟩
theorem TWk.set {E : XE} {K : Nat → Nat} {F : Nat → Nat → Nat} {G : XG} {ws : va_W} {i b : Nat} {x x' : va_E} (h : TWk E K F G ws) (he : ws[i]? = some (b, x)) (hb : K b = 0) : TWk E K F G (ws.set i (b, x')) := by
  refine ⟨fun a ha => ?_, h.2⟩
  obtain ⟨i', e, h1, h2⟩ := h.1 a ha
  refine ⟨i', e, set_at he h1 ?_, h2⟩
  intro z
  rw [z] at ha
  exact ha hb
theorem TWk.push {E : XE} {K : Nat → Nat} {F : Nat → Nat → Nat} {G : XG} {ws : va_W} {x : Nat × va_E} (h : TWk E K F G ws) : TWk E K F G (ws ++ [x]) := by
  refine ⟨fun a ha => ?_, h.2⟩
  obtain ⟨i', e, h1, h2⟩ := h.1 a ha
  exact ⟨i', e, by rw [List.getElem?_append_left (List.getElem?_eq_some_iff.mp h1).1]; exact h1, h2⟩
theorem ne_oa {A : Nat → Prop} {ws : va_W} {i j a b : Nat} {x : Nat × List Value} {y : ClassId × vp_A} (hD : va_D A ws) (h1 : ws[i]? = some (a, .inr x)) (h2 : ws[j]? = some (b, .inl y)) : b ≠ a := by
  intro z
  subst z
  have e := hD.1 i j _ _ h1 h2 rfl
  subst e
  rw [h1] at h2
  cases h2
theorem xok_fit {v : Int32} (h : xok 2 v) : fits .byte (.int v) = true := by
  have h : narrow .byte (.int v) = .int v := h
  simp only [narrow] at h
  have h2 : v.toInt8.toInt32 = v := by injection h
  rw [← h2]
  exact pk_fb _
section XSB
variable {p : Program} {l : Launch} {e : Env} {R : Room} {s : State} {m : MethodId} {args : Array Value} {below : List Frame} {meth : Method} {c : Code} {H : Heap} {locs : List Loc} {cells slots : Nat} {Q : State → Prop}
variable {pc : Nat} {ls : Array Slot} {rest : List Value} {H0 : Heap} {E : XE} {cc : ByteArray} {nL : Nat} {own : String} {w0 : Cond} {K : Nat → Nat} {F : Nat → Nat → Nat} {G : XG} {v n : Nat} {cnt : Int32} {idx q nq : Nat}
theorem sbg_value (S : CallFix p m c cc nL s args (w0 :: GT) own) (hK : XK E s) (hT : TWb E K F G v n cnt H) (hl : Cond.fieldLink own idx "java/lang/AbstractStringBuilder" "value" "[B" ∈ GT) (hdg : decode cc pc = .ok (.getfield idx, 3)) (kk : W p l e R s m args below meth c H locs cells slots Q (F0 m (pc + 3) ls (.ref v :: rest))) : W p l e R s m args below meth c H locs cells slots Q (F0 m pc ls (.ref E.2.2.2.1 :: rest)) := by
  obtain ⟨ws, hk, ⟨i, j, f, ml, e1, e2, k1, k2, ho, c1, c2, c3⟩, hP, hD⟩ := hT
  exact va_get (D := E.1) (ci := 0) (v := .ref v) (C := RJ4) (T := TJ4) (N := 4) S.1 S.2.1 S.2.2.2.2 (fun w h => List.mem_cons_of_mem _ (inJ4 w h)) S.2.2.2.1 hK.1 hP i e1 rfl 0 (by decide) (S.2.2.2.2 _ (List.mem_cons_of_mem _ hl)) (fun _ h => h) rfl hdg kk
theorem sbg_coder (S : CallFix p m c cc nL s args (w0 :: GT) own) (hK : XK E s) (hT : TWb E K F G v n cnt H) (hl : Cond.fieldLink own idx "java/lang/AbstractStringBuilder" "coder" "B" ∈ GT) (hdg : decode cc pc = .ok (.getfield idx, 3)) (kk : W p l e R s m args below meth c H locs cells slots Q (F0 m (pc + 3) ls (.int 0 :: rest))) : W p l e R s m args below meth c H locs cells slots Q (F0 m pc ls (.ref E.2.2.2.1 :: rest)) := by
  obtain ⟨ws, hk, ⟨i, j, f, ml, e1, e2, k1, k2, ho, c1, c2, c3⟩, hP, hD⟩ := hT
  exact va_get (D := E.1) (ci := 0) (v := .int 0) (C := RJ4) (T := TJ4) (N := 4) S.1 S.2.1 S.2.2.2.2 (fun w h => List.mem_cons_of_mem _ (inJ4 w h)) S.2.2.2.1 hK.1 hP i e1 rfl 1 (by decide) (S.2.2.2.2 _ (List.mem_cons_of_mem _ hl)) (fun _ h => h) rfl hdg kk
theorem sbg_count (S : CallFix p m c cc nL s args (w0 :: GT) own) (hK : XK E s) (hT : TWb E K F G v n cnt H) (hl : Cond.fieldLink own idx "java/lang/AbstractStringBuilder" "count" "I" ∈ GT) (hdg : decode cc pc = .ok (.getfield idx, 3)) (kk : W p l e R s m args below meth c H locs cells slots Q (F0 m (pc + 3) ls (.int cnt :: rest))) : W p l e R s m args below meth c H locs cells slots Q (F0 m pc ls (.ref E.2.2.2.1 :: rest)) := by
  obtain ⟨ws, hk, ⟨i, j, f, ml, e1, e2, k1, k2, ho, c1, c2, c3⟩, hP, hD⟩ := hT
  exact va_get (D := E.1) (ci := 0) (v := .int cnt) (C := RJ4) (T := TJ4) (N := 4) S.1 S.2.1 S.2.2.2.2 (fun w h => List.mem_cons_of_mem _ (inJ4 w h)) S.2.2.2.1 hK.1 hP i e1 rfl 3 (by decide) (S.2.2.2.2 _ (List.mem_cons_of_mem _ hl)) (fun _ h => h) rfl hdg kk
theorem sbp_count (S : CallFix p m c cc nL s args (w0 :: GT) own) (hK : XK E s) (hT : TWb E K F G v n cnt H) (hS : va_S (xA E) H0 H locs) (hl : Cond.fieldLink own idx "java/lang/AbstractStringBuilder" "count" "I" ∈ GT) {x : Int32} (hx : 0 ≤ x.toInt ∧ x.toInt ≤ ((n : Nat) : Int)) (hdg : decode cc pc = .ok (.putfield idx, 3)) (kk : ∀ (H1 : Heap) (locs1 : List Loc), TWb E K F G v n x H1 → va_S (xA E) H0 H1 locs1 → W p l e R s m args below meth c H1 locs1 cells slots Q (F0 m (pc + 3) ls rest)) : W p l e R s m args below meth c H locs cells slots Q (F0 m pc ls (.int x :: .ref E.2.2.2.1 :: rest)) := by
  obtain ⟨ws, hk, ⟨i, j, f, ml, e1, e2, k1, k2, ho, c1, c2, c3⟩, hP, hD⟩ := hT
  have nv := ne_oa hD e1 e2
  exact va_put (D := E.1) (ci := 0) (v := .int x) (ty := .int) (C := RJ4) (T := TJ4) (N := 4) S.1 S.2.1 S.2.2.2.2 (fun w h => List.mem_cons_of_mem _ (inJ4 w h)) tyJ4 tyJ4_ok nmJ4 S.2.2.2.1 hK.1 hP hD hS i e1 rfl 3 (by decide) (S.2.2.2.2 _ (List.mem_cons_of_mem _ hl)) (fun _ h => h) rfl (by decide +kernel) rfl rfl (Nat.le_of_ble_eq_true rfl) hdg (fun H1 locs1 hP1 hD1 hS1 => kk H1 locs1 ⟨_, hk.set e1 k1, ⟨i, j, f, ml, set_here e1, set_at e1 e2 nv, k1, k2, ho, hx.1, hx.2, c3⟩, hP1, hD1⟩ hS1)
theorem sbp_maybe (S : CallFix p m c cc nL s args (w0 :: GT) own) (hK : XK E s) (hT : TWb E K F G v n cnt H) (hS : va_S (xA E) H0 H locs) (hl : Cond.fieldLink own idx "java/lang/AbstractStringBuilder" "maybeLatin1" "Z" ∈ GT) {x : Int32} (hx : x = 0 ∨ x = 1) (hdg : decode cc pc = .ok (.putfield idx, 3)) (kk : ∀ (H1 : Heap) (locs1 : List Loc), TWb E K F G v n cnt H1 → va_S (xA E) H0 H1 locs1 → W p l e R s m args below meth c H1 locs1 cells slots Q (F0 m (pc + 3) ls rest)) : W p l e R s m args below meth c H locs cells slots Q (F0 m pc ls (.int x :: .ref E.2.2.2.1 :: rest)) := by
  obtain ⟨ws, hk, ⟨i, j, f, ml, e1, e2, k1, k2, ho, c1, c2, c3⟩, hP, hD⟩ := hT
  have nv := ne_oa hD e1 e2
  exact va_put (D := E.1) (ci := 0) (v := .int x) (ty := .boolean) (C := RJ4) (T := TJ4) (N := 4) S.1 S.2.1 S.2.2.2.2 (fun w h => List.mem_cons_of_mem _ (inJ4 w h)) tyJ4 tyJ4_ok nmJ4 S.2.2.2.1 hK.1 hP hD hS i e1 rfl 2 (by decide) (S.2.2.2.2 _ (List.mem_cons_of_mem _ hl)) (fun _ h => h) rfl (by decide +kernel) (by rcases hx with h | h <;> subst h <;> rfl) (by rcases hx with h | h <;> subst h <;> rfl) (Nat.le_of_ble_eq_true rfl) hdg (fun H1 locs1 hP1 hD1 hS1 => kk H1 locs1 ⟨_, hk.set e1 k1, ⟨i, j, f, x, set_here e1, set_at e1 e2 nv, k1, k2, ho, c1, c2, c3⟩, hP1, hD1⟩ hS1)
theorem sbp_value (S : CallFix p m c cc nL s args (w0 :: GT) own) (hK : XK E s) (hT : TWc E K F G v n cnt q nq H) (hS : va_S (xA E) H0 H locs) (hl : Cond.fieldLink own idx "java/lang/AbstractStringBuilder" "value" "[B" ∈ GT) (hn : n ≤ nq ∧ nq ≤ 100) (hdg : decode cc pc = .ok (.putfield idx, 3)) (kk : ∀ (H1 : Heap) (locs1 : List Loc), TWb E K F G q nq cnt H1 → va_S (xA E) H0 H1 locs1 → W p l e R s m args below meth c H1 locs1 cells slots Q (F0 m (pc + 3) ls rest)) : W p l e R s m args below meth c H locs cells slots Q (F0 m pc ls (.ref q :: .ref E.2.2.2.1 :: rest)) := by
  obtain ⟨ws, hk, ⟨i, j, f, ml, e1, e2, k1, k2, ho, c1, c2, c3⟩, ⟨k, g, e3, k3, hqv, hg⟩, hP, hD⟩ := hT
  have nv := ne_oa hD e1 e2
  exact va_put (D := E.1) (ci := 0) (v := .ref q) (ty := (.array .byte)) (C := RJ4) (T := TJ4) (N := 4) S.1 S.2.1 S.2.2.2.2 (fun w h => List.mem_cons_of_mem _ (inJ4 w h)) tyJ4 tyJ4_ok nmJ4 S.2.2.2.1 hK.1 hP hD hS i e1 rfl 0 (by decide) (S.2.2.2.2 _ (List.mem_cons_of_mem _ hl)) (fun _ h => h) rfl (by decide +kernel) rfl rfl (Nat.le_of_ble_eq_true rfl) hdg (fun H1 locs1 hP1 hD1 hS1 => kk H1 locs1 ⟨_, hk.set e1 k1, ⟨i, k, g, ml, set_here e1, set_at e1 e3 (ne_oa hD e1 e3), k1, k3, hg, c1, by omega, hn.2⟩, hP1, hD1⟩ hS1)
theorem sb_len (S : CallFix p m c cc nL s args (w0 :: GT) own) (hK : XK E s) (hT : TWb E K F G v n cnt H) (hdg : decode cc pc = .ok (.arraylength, 1)) (kk : ∀ x : Int32, x.toInt = ((n : Nat) : Int) → W p l e R s m args below meth c H locs cells slots Q (F0 m (pc + 1) ls (.int x :: rest))) : W p l e R s m args below meth c H locs cells slots Q (F0 m pc ls (.ref v :: rest)) := by
  obtain ⟨ws, hk, ⟨i, j, f, ml, e1, e2, k1, k2, ho, c1, c2, c3⟩, hP, hD⟩ := hT
  exact va_alen S.1 S.2.1 hK.1 hP j 2 e2 rfl rfl hdg (kk _ (nI_toInt (by omega)))
theorem sc_len (S : CallFix p m c cc nL s args (w0 :: GT) own) (hK : XK E s) (hT : TWc E K F G v n cnt q nq H) (hdg : decode cc pc = .ok (.arraylength, 1)) (kk : ∀ x : Int32, x.toInt = ((n : Nat) : Int) → W p l e R s m args below meth c H locs cells slots Q (F0 m (pc + 1) ls (.int x :: rest))) : W p l e R s m args below meth c H locs cells slots Q (F0 m pc ls (.ref v :: rest)) := by
  obtain ⟨ws, hk, ⟨i, j, f, ml, e1, e2, k1, k2, ho, c1, c2, c3⟩, ⟨k, g, e3, k3, hqv, hg⟩, hP, hD⟩ := hT
  exact va_alen S.1 S.2.1 hK.1 hP j 2 e2 rfl rfl hdg (kk _ (nI_toInt (by omega)))
theorem sb_ld (S : CallFix p m c cc nL s args (w0 :: GT) own) (hK : XK E s) (hT : TWb E K F G v n cnt H) {x : Int32} (hin : 0 ≤ x.toInt ∧ x.toInt < ((n : Nat) : Int)) (hdg : decode cc pc = .ok (.baload, 1)) (kk : ∀ z : Int32, W p l e R s m args below meth c H locs cells slots Q (F0 m (pc + 1) ls (.int z :: rest))) : W p l e R s m args below meth c H locs cells slots Q (F0 m pc ls (.int x :: .ref v :: rest)) := by
  obtain ⟨ws, hk, ⟨i, j, f, ml, e1, e2, k1, k2, ho, c1, c2, c3⟩, hP, hD⟩ := hT
  exact va_bald S.1 S.2.1 hK.1 hP j 2 e2 rfl (vp_in_iff.mpr hin) hdg (kk _)
theorem sb_st (S : CallFix p m c cc nL s args (w0 :: GT) own) (hK : XK E s) (hT : TWb E K F G v n cnt H) (hS : va_S (xA E) H0 H locs) {x z : Int32} (hin : 0 ≤ x.toInt ∧ x.toInt < ((n : Nat) : Int)) (hdg : decode cc pc = .ok (.bastore, 1)) (kk : ∀ (H1 : Heap) (locs1 : List Loc), TWb E K F G v n cnt H1 → va_S (xA E) H0 H1 locs1 → W p l e R s m args below meth c H1 locs1 cells slots Q (F0 m (pc + 1) ls rest)) : W p l e R s m args below meth c H locs cells slots Q (F0 m pc ls (.int z :: .int x :: .ref v :: rest)) := by
  obtain ⟨ws, hk, ⟨i, j, f, ml, e1, e2, k1, k2, ho, c1, c2, c3⟩, hP, hD⟩ := hT
  have nv := ne_oa hD e1 e2
  exact va_bast S.1 S.2.1 hK.1 hP hD hS j 2 e2 rfl (vp_in_iff.mpr hin) hdg (fun H1 locs1 hP1 hD1 hS1 => kk H1 locs1 ⟨_, hk.set e2 k2, ⟨i, j, _, ml, set_at e2 e1 (Ne.symm nv), set_here e2, k1, k2, (fun y => by unfold upd; split <;> first | exact ho y | exact xok_b _), c1, c2, c3⟩, hP1, hD1⟩ hS1)
theorem xnn {x : Int32} (h : 0 ≤ x.toInt) : ¬ x < 0 := by
  intro q
  have h2 := Int32.lt_iff_toInt_lt.mp q
  have h3 : (0 : Int32).toInt = 0 := by decide
  omega
theorem xcl {x : Int32} (h : 0 ≤ x.toInt) : (x.toNatClampNeg : Int) = x.toInt := by
  have h2 : x.toNatClampNeg = x.toInt.toNat := rfl
  omega
theorem xok_cpy {f g : Nat → Int32} {sp dp z : Nat} (hf : ∀ q, xok 2 (f q)) (hg : ∀ q, xok 2 (g q)) : ∀ q, xok 2 (va_cpy f g sp dp z q) := by
  intro q
  unfold va_cpy
  split
  · exact hf _
  · exact hg _
theorem sc_copy (S : CallFix p m c cc nL s args (w0 :: GT) own) (hK : XK E s) (hT : TWc E K F G v n cnt q nq H) (hS : va_S (xA E) H0 H locs) (hac : (Cond.native arraycopyName ∈ GT ∧ Cond.static arraycopyName ∈ GT) ∧ Cond.initialized "java/lang/System" ∈ GT) (hl : Cond.methodLink own idx arraycopyName ∈ GT) {z : Int32} (hz : 0 ≤ z.toInt ∧ z.toInt ≤ ((n : Nat) : Int) ∧ z.toInt ≤ ((nq : Nat) : Int)) (hls : ls.size = nL) (hfr : 1 ≤ R.frames) (hlo : (rest.map fun v => v.category).sum + (nativeFrameWords "java/lang/System" "arraycopy" 5 + 11) ≤ R.locals) (hdg : decode cc pc = .ok (.invokestatic idx, 3)) (kk : ∀ (H1 : Heap) (locs1 : List Loc), TWc E K F G v n cnt q nq H1 → va_S (xA E) H0 H1 locs1 → W p l e R s m args below meth c H1 locs1 cells slots Q (F0 m (pc + 3) ls rest)) : W p l e R s m args below meth c H locs cells slots Q (F0 m pc ls (.int z :: .int 0 :: .ref q :: .int 0 :: .ref v :: rest)) := by
  obtain ⟨ws, hk, ⟨i, j, f, ml, e1, e2, k1, k2, ho, c1, c2, c3⟩, ⟨k, g, e3, k3, hqv, hg⟩, hP, hD⟩ := hT
  have hz2 := xcl hz.1
  have nv := ne_oa hD e1 e2
  have nq' := ne_oa hD e1 e3
  exact va_copyi (ty := .byte) S.1 S.2.1 (S.2.2.1.trans hls.symm) S.2.2.2.1 (S.2.2.2.2 _ (List.mem_cons_of_mem _ hl)) (S.2.2.2.2 _ (List.mem_cons_of_mem _ hac.1.1)) (S.2.2.2.2 _ (List.mem_cons_of_mem _ hac.1.2)) (S.2.2.2.2 _ (List.mem_cons_of_mem _ hac.2)) hK.1 hP hD hS j k 2 2 e2 e3 rfl rfl rfl (by decide) (by decide) (xnn hz.1) (by rw [sb_cl0]; omega) (by rw [sb_cl0]; omega) (fun y _ => xok_fit (ho _)) hfr hlo hdg (fun H1 locs1 hP1 hD1 hS1 => kk H1 locs1 ⟨_, hk.set e3 k3, ⟨i, j, f, ml, set_at e3 e1 (Ne.symm nq'), set_at e3 e2 (Ne.symm hqv), k1, k2, ho, c1, c2, c3⟩, ⟨k, _, set_here e3, k3, hqv, xok_cpy ho hg⟩, hP1, hD1⟩ hS1)
theorem xbyt_ok : ∀ i, i < 13 → ∀ j, xok 2 ((xbyt.getD i []).getD j 0) := by
  have h : ∀ i, i < 13 → ∀ j, j < 30 → narrow .byte (.int ((xbyt.getD i []).getD j 0)) = .int ((xbyt.getD i []).getD j 0) := by decide
  have h2 : ∀ i, i < 13 → (xbyt.getD i []).length ≤ 30 := by decide
  intro i hi j
  by_cases hj : j < 30
  · exact h i hi j hj
  · have h3 := h2 i hi
    rw [List.getD_eq_getElem?_getD, List.getElem?_eq_none (by omega)]
    rfl
theorem st_copy (S : CallFix p m c cc nL s args (w0 :: GT) own) (hK : XK E s) (hT : TWb E K F G v n cnt H) (hS : va_S (xA E) s.heap H locs) (hac : (Cond.native arraycopyName ∈ GT ∧ Cond.static arraycopyName ∈ GT) ∧ Cond.initialized "java/lang/System" ∈ GT) (hl : Cond.methodLink own idx arraycopyName ∈ GT) {t : Nat} (ht : t < 13) {dp z : Int32} (hd : 0 ≤ dp.toInt) (hz : 0 ≤ z.toInt ∧ z.toInt ≤ ((xlen.getD t 0 : Nat) : Int) ∧ dp.toInt + z.toInt ≤ ((n : Nat) : Int)) (hls : ls.size = nL) (hfr : 1 ≤ R.frames) (hlo : (rest.map fun v => v.category).sum + (nativeFrameWords "java/lang/System" "arraycopy" 5 + 11) ≤ R.locals) (hdg : decode cc pc = .ok (.invokestatic idx, 3)) (kk : ∀ (H1 : Heap) (locs1 : List Loc), TWb E K F G v n cnt H1 → va_S (xA E) s.heap H1 locs1 → W p l e R s m args below meth c H1 locs1 cells slots Q (F0 m (pc + 3) ls rest)) : W p l e R s m args below meth c H locs cells slots Q (F0 m pc ls (.int z :: .int dp :: .ref v :: .int 0 :: .ref (E.2.2.2.2.2 t) :: rest)) := by
  obtain ⟨ws, hk, ⟨i, j, f, ml, e1, e2, k1, k2, ho, c1, c2, c3⟩, hP, hD⟩ := hT
  have hz2 := xcl hz.1
  have hd2 := xcl hd
  have nv := ne_oa hD e1 e2
  exact vk_copyt S.1 S.2.1 (S.2.2.1.trans hls.symm) S.2.2.2.1 (S.2.2.2.2 _ (List.mem_cons_of_mem _ hl)) (S.2.2.2.2 _ (List.mem_cons_of_mem _ hac.1.1)) (S.2.2.2.2 _ (List.mem_cons_of_mem _ hac.1.2)) (S.2.2.2.2 _ (List.mem_cons_of_mem _ hac.2)) hK.1 hP hD hS (hK.2.2.2.1.1 t ht).2.2.2 j 2 e2 rfl (by decide) (xnn hd) (xnn hz.1) (by rw [sb_cl0]; omega) (by omega) (fun y _ => xok_fit (xbyt_ok t ht _)) hfr hlo hdg (fun H1 locs1 hP1 hD1 hS1 => kk H1 locs1 ⟨_, hk.set e2 k2, ⟨i, j, _, ml, set_at e2 e1 (Ne.symm nv), set_here e2, k1, k2, xok_cpy (xbyt_ok t ht) ho, c1, c2, c3⟩, hP1, hD1⟩ hS1)
theorem rc_sb (hK : XK E s) (hT : TWb E K F G v n cnt H) : ∃ cell : Cell, H[E.2.2.2.1]? = some cell ∧ cell.vm.isStatics = false ∧ s.vm.findClass RJ4 = some cell.cls := by
  obtain ⟨ws, hk, ⟨i, j, f, ml, e1, e2, k1, k2, ho, c1, c2, c3⟩, hP, hD⟩ := hT
  exact va_recv hK.1 hP (ci := 0) (q := (RJ4, TJ4, 4)) rfl e1
end XSB
end
