section XSE
variable {p : Program} {l : Launch} {e : Env} {R : Room} {s : State} {m : MethodId} {args : Array Value} {below : List Frame} {meth : Method} {c : Code} {H : Heap} {locs : List Loc} {cells slots : Nat} {Q : State → Prop}
variable {pc : Nat} {ls : Array Slot} {rest : List Value} {cc : ByteArray} {nL : Nat} {X Y : Int}
theorem xi_idivn (hx : p.tables.exec = Jvm.exec) (hb : c.code = cc) {x y : Int32} (hX : x.toInt = X) (hY : y.toInt = Y) (hpos : 0 < y.toInt) (hdg : decode cc pc = .ok (.idiv, 1)) (kk : ∀ z : Int32, (X ≤ 0 → z.toInt = -((-X) / Y)) → W p l e R s m args below meth c H locs cells slots Q (F0 m (pc + 1) ls (.int z :: rest))) : W p l e R s m args below meth c H locs cells slots Q (F0 m pc ls (.int y :: .int x :: rest)) :=
  lv_idiv hx hb hdg (fun q => by rw [q] at hpos; exact absurd hpos (by decide)) (kk _ (fun h0 => by subst hX hY; exact xdivn x y h0 hpos))
end XSE
theorem xlen_le {i : Nat} (h : i < 13) : ((xlen.getD i 0 : Nat) : Int) ≤ 29 := by
  have : ∀ j, j < 13 → xlen.getD j 0 ≤ 29 := by decide
  have := this i h
  omega

theorem z_J6_getChars_ba4f3_1 (a0 : Int) (a1 : Int) (a2 : Int) (a3 : Int) (h0 : (a1 = 0 ∨ a1 = 1) ∧ a3 ≤ 0 ∧ a1 + 1 ≤ a0 ∧ a0 ≤ a0) (h1 : (-100 : Int) < a3) (h2 : a2 = -a3 ∨ -a3 < -2147483648 ∨ 2147483648 ≤ -a3) : 0 ≤ a2 ∧ a2 < ((100 : Nat) : Int) := by omega
theorem z_J6_getChars_ba4f3_2 (a0 : Int) (a1 : Int) (a2 : Nat) (h0 : 1 ≤ a0 ∧ a0 ≤ ((a2 : Nat) : Int)) (h1 : a1 = a0 + (-1) ∨ a0 + (-1) < -2147483648 ∨ 2147483648 ≤ a0 + (-1)) (h2 : -2147483648 ≤ a0 ∧ a0 < 2147483648) : 0 ≤ a1 ∧ a1 < ((a2 : Nat) : Int) := by omega
theorem z_J6_getChars_ba4f3_3 (a0 : Int) (a1 : Nat) : a0 = a0 ∧ ((a1 : Nat) : Int) = ((a1 : Nat) : Int) := by omega
theorem z_J6_getChars_ba4f3_4 (a0 : Int) (a1 : Int) (a2 : Int) (a3 : Int) (a4 : Nat) (h0 : 1 ≤ a0 ∧ a0 ≤ ((a4 : Nat) : Int)) (h1 : a1 ≤ a2 ∧ a2 ≤ a0 ∧ (a1 = 0 ∨ a1 = 1)) (h2 : ¬ (a1 = 0)) (h3 : a3 = a2 + (-1) ∨ a2 + (-1) < -2147483648 ∨ 2147483648 ≤ a2 + (-1)) (h4 : -2147483648 ≤ a2 ∧ a2 < 2147483648) : 0 ≤ a3 ∧ a3 < ((a4 : Nat) : Int) := by omega
theorem z_J6_getChars_ba4f3_6 (a0 : Int) (a1 : Int) (a2 : Int) (a3 : Int) (h0 : (a1 = 0 ∨ a1 = 1) ∧ a3 ≤ 0 ∧ a1 + 1 ≤ a0 ∧ a0 ≤ a0) (h1 : a2 = a0 + (-1) ∨ a0 + (-1) < -2147483648 ∨ 2147483648 ≤ a0 + (-1)) (h2 : -2147483648 ≤ a0 ∧ a0 < 2147483648) : a1 ≤ a2 ∧ a2 ≤ a0 ∧ (a1 = 0 ∨ a1 = 1) := by omega
theorem z_J6_getChars_ba4f3_7 (a0 : Int) (a1 : Int) (h0 : (-100 : Int) < a0) (h1 : ¬ ((-9 : Int) ≤ a0)) (h2 : a1 = -a0 ∨ -a0 < -2147483648 ∨ 2147483648 ≤ -a0) : 0 ≤ a1 ∧ a1 < ((100 : Nat) : Int) := by omega
theorem z_J6_getChars_ba4f3_8 (a0 : Int) (a1 : Int) (a2 : Int) (a3 : Int) (a4 : Int) (a5 : Int) (a6 : Nat) (h0 : 1 ≤ a1 ∧ a1 ≤ ((a6 : Nat) : Int)) (h1 : (a0 < 0 ∧ a2 = 1) ∨ (0 ≤ a0 ∧ a2 = 0)) (h2 : (a4 ≤ -10 → a2 + 2 ≤ a1)) (h3 : a3 = a1 + (-1) ∨ a1 + (-1) < -2147483648 ∨ 2147483648 ≤ a1 + (-1)) (h4 : ¬ ((-9 : Int) ≤ a4)) (h5 : a5 = a3 + (-1) ∨ a3 + (-1) < -2147483648 ∨ 2147483648 ≤ a3 + (-1)) (h6 : -2147483648 ≤ a1 ∧ a1 < 2147483648) : 0 ≤ a5 ∧ a5 < ((a6 : Nat) : Int) := by omega
theorem z_J6_getChars_ba4f3_9 (a0 : Int) (a1 : Int) (a2 : Int) (a3 : Int) (a4 : Int) (a5 : Int) (h0 : (a0 < 0 ∧ a2 = 1) ∨ (0 ≤ a0 ∧ a2 = 0)) (h1 : (a4 ≤ -10 → a2 + 2 ≤ a1)) (h2 : a3 = a1 + (-1) ∨ a1 + (-1) < -2147483648 ∨ 2147483648 ≤ a1 + (-1)) (h3 : ¬ ((-9 : Int) ≤ a4)) (h4 : a5 = a3 + (-1) ∨ a3 + (-1) < -2147483648 ∨ 2147483648 ≤ a3 + (-1)) (h5 : -2147483648 ≤ a1 ∧ a1 < 2147483648) : a2 ≤ a5 ∧ a5 ≤ a1 ∧ (a2 = 0 ∨ a2 = 1) := by omega
theorem z_J6_getChars_ba4f3_10 (a0 : Int) (a1 : Int) (a2 : Int) (a3 : Int) (h0 : ¬ ((-100 : Int) < a0)) (h1 : a0 ≤ 0 → a1 = -((-a0) / (100 : Int))) (h2 : a2 = a1 * (100 : Int) ∨ a1 * (100 : Int) < -2147483648 ∨ 2147483648 ≤ a1 * (100 : Int)) (h3 : a3 = a2 - a0 ∨ a2 - a0 < -2147483648 ∨ 2147483648 ≤ a2 - a0) (h4 : -2147483648 ≤ a0 ∧ a0 < 2147483648) : 0 ≤ a3 ∧ a3 < ((100 : Nat) : Int) := by omega
theorem z_J6_getChars_ba4f3_13 (a0 : Int) (a1 : Int) (a2 : Int) (a3 : Int) (a4 : Int) (a5 : Int) (a6 : Nat) (h0 : 1 ≤ a1 ∧ a1 ≤ ((a6 : Nat) : Int)) (h1 : (a0 < 0 ∧ a2 = 1) ∨ (0 ≤ a0 ∧ a2 = 0)) (h2 : (a3 ≤ -100 → a2 + 3 ≤ a1)) (h3 : ¬ ((-100 : Int) < a3)) (h4 : a4 = a1 + (-1) ∨ a1 + (-1) < -2147483648 ∨ 2147483648 ≤ a1 + (-1)) (h5 : a5 = a4 + (-1) ∨ a4 + (-1) < -2147483648 ∨ 2147483648 ≤ a4 + (-1)) (h6 : -2147483648 ≤ a1 ∧ a1 < 2147483648) : 0 ≤ a5 ∧ a5 < ((a6 : Nat) : Int) := by omega
theorem z_J6_getChars_ba4f3_14 (a0 : Int) (a1 : Int) (a2 : Int) (a3 : Int) (h0 : (a1 = 0 ∨ a1 = 1) ∧ a2 ≤ 0 ∧ a1 + 1 ≤ a3 ∧ a3 ≤ a0) : ¬ (-a2 < ((0 : Nat) : Int)) := by omega
theorem z_J6_getChars_ba4f3_15 (a0 : Int) (a1 : Int) (a2 : Int) (a3 : Int) (a4 : Int) (h0 : (a1 = 0 ∨ a1 = 1) ∧ a2 ≤ 0 ∧ a1 + 1 ≤ a3 ∧ a3 ≤ a0) (h1 : (-100 : Int) < a2) (h2 : a4 = -a2 ∨ -a2 < -2147483648 ∨ 2147483648 ≤ -a2) : 0 ≤ a4 ∧ a4 < ((100 : Nat) : Int) := by omega
theorem z_J6_getChars_ba4f3_16 (a0 : Int) (a1 : Int) (a2 : Int) (a3 : Int) (a4 : Int) (a5 : Nat) (h0 : 1 ≤ a0 ∧ a0 ≤ ((a5 : Nat) : Int)) (h1 : (a1 = 0 ∨ a1 = 1) ∧ a2 ≤ 0 ∧ a1 + 1 ≤ a3 ∧ a3 ≤ a0) (h2 : a4 = a3 + (-1) ∨ a3 + (-1) < -2147483648 ∨ 2147483648 ≤ a3 + (-1)) (h3 : -2147483648 ≤ a3 ∧ a3 < 2147483648) : 0 ≤ a4 ∧ a4 < ((a5 : Nat) : Int) := by omega
theorem z_J6_getChars_ba4f3_20 (a0 : Int) (a1 : Int) (a2 : Int) (a3 : Int) (a4 : Int) (h0 : (a1 = 0 ∨ a1 = 1) ∧ a2 ≤ 0 ∧ a1 + 1 ≤ a3 ∧ a3 ≤ a0) (h1 : a4 = a3 + (-1) ∨ a3 + (-1) < -2147483648 ∨ 2147483648 ≤ a3 + (-1)) (h2 : -2147483648 ≤ a3 ∧ a3 < 2147483648) : a1 ≤ a4 ∧ a4 ≤ a0 ∧ (a1 = 0 ∨ a1 = 1) := by omega
theorem z_J6_getChars_ba4f3_22 (a0 : Int) (a1 : Int) (a2 : Int) (a3 : Int) (a4 : Int) (a5 : Int) (a6 : Nat) (h0 : 1 ≤ a0 ∧ a0 ≤ ((a6 : Nat) : Int)) (h1 : (a1 = 0 ∨ a1 = 1) ∧ a2 ≤ 0 ∧ a1 + 1 ≤ a3 ∧ a3 ≤ a0) (h2 : (a2 ≤ -10 → a1 + 2 ≤ a3)) (h3 : a4 = a3 + (-1) ∨ a3 + (-1) < -2147483648 ∨ 2147483648 ≤ a3 + (-1)) (h4 : ¬ ((-9 : Int) ≤ a2)) (h5 : a5 = a4 + (-1) ∨ a4 + (-1) < -2147483648 ∨ 2147483648 ≤ a4 + (-1)) (h6 : -2147483648 ≤ a3 ∧ a3 < 2147483648) : 0 ≤ a5 ∧ a5 < ((a6 : Nat) : Int) := by omega
theorem z_J6_getChars_ba4f3_23 (a0 : Int) (a1 : Int) (a2 : Int) (a3 : Int) (a4 : Int) (a5 : Int) (h0 : (a1 = 0 ∨ a1 = 1) ∧ a2 ≤ 0 ∧ a1 + 1 ≤ a3 ∧ a3 ≤ a0) (h1 : (a2 ≤ -10 → a1 + 2 ≤ a3)) (h2 : a4 = a3 + (-1) ∨ a3 + (-1) < -2147483648 ∨ 2147483648 ≤ a3 + (-1)) (h3 : ¬ ((-9 : Int) ≤ a2)) (h4 : a5 = a4 + (-1) ∨ a4 + (-1) < -2147483648 ∨ 2147483648 ≤ a4 + (-1)) (h5 : -2147483648 ≤ a3 ∧ a3 < 2147483648) : a1 ≤ a5 ∧ a5 ≤ a0 ∧ (a1 = 0 ∨ a1 = 1) := by omega
theorem z_J6_getChars_ba4f3_24 (a0 : Int) (a1 : Int) (a2 : Int) (a3 : Int) (h0 : ¬ ((-100 : Int) < a2)) (h1 : a2 ≤ 0 → a3 = -((-a2) / (100 : Int))) (h2 : a0 = a3 * (100 : Int) ∨ a3 * (100 : Int) < -2147483648 ∨ 2147483648 ≤ a3 * (100 : Int)) (h3 : a1 = a0 - a2 ∨ a0 - a2 < -2147483648 ∨ 2147483648 ≤ a0 - a2) (h4 : -2147483648 ≤ a2 ∧ a2 < 2147483648) : 0 ≤ a1 ∧ a1 < ((100 : Nat) : Int) := by omega
theorem z_J6_getChars_ba4f3_25 (a0 : Int) (a1 : Int) (a2 : Int) (a3 : Int) (a4 : Int) (a5 : Nat) (h0 : 1 ≤ a0 ∧ a0 ≤ ((a5 : Nat) : Int)) (h1 : (a1 = 0 ∨ a1 = 1) ∧ a3 ≤ 0 ∧ a1 + 1 ≤ a4 ∧ a4 ≤ a0) (h2 : a2 = a4 + (-1) ∨ a4 + (-1) < -2147483648 ∨ 2147483648 ≤ a4 + (-1)) (h3 : -2147483648 ≤ a4 ∧ a4 < 2147483648) : 0 ≤ a2 ∧ a2 < ((a5 : Nat) : Int) := by omega
theorem z_J6_getChars_ba4f3_27 (a0 : Int) (a1 : Int) (a2 : Int) (a3 : Int) (a4 : Int) (a5 : Int) (a6 : Nat) (h0 : 1 ≤ a0 ∧ a0 ≤ ((a6 : Nat) : Int)) (h1 : (a1 = 0 ∨ a1 = 1) ∧ a4 ≤ 0 ∧ a1 + 1 ≤ a5 ∧ a5 ≤ a0) (h2 : (a4 ≤ -100 → a1 + 3 ≤ a5)) (h3 : ¬ ((-100 : Int) < a4)) (h4 : a2 = a5 + (-1) ∨ a5 + (-1) < -2147483648 ∨ 2147483648 ≤ a5 + (-1)) (h5 : a3 = a2 + (-1) ∨ a2 + (-1) < -2147483648 ∨ 2147483648 ≤ a2 + (-1)) (h6 : -2147483648 ≤ a5 ∧ a5 < 2147483648) : 0 ≤ a3 ∧ a3 < ((a6 : Nat) : Int) := by omega
theorem z_J6_getChars_ba4f3_28 (a0 : Int) (a1 : Int) (a2 : Int) (a3 : Int) (a4 : Int) (a5 : Int) (a6 : Int) (h0 : (a1 = 0 ∨ a1 = 1) ∧ a4 ≤ 0 ∧ a1 + 1 ≤ a5 ∧ a5 ≤ a0) (h1 : (a4 ≤ -100 → a1 + 3 ≤ a5)) (h2 : ¬ ((-100 : Int) < a4)) (h3 : a4 ≤ 0 → a6 = -((-a4) / (100 : Int))) (h4 : a2 = a5 + (-1) ∨ a5 + (-1) < -2147483648 ∨ 2147483648 ≤ a5 + (-1)) (h5 : a3 = a2 + (-1) ∨ a2 + (-1) < -2147483648 ∨ 2147483648 ≤ a2 + (-1)) (h6 : -2147483648 ≤ a5 ∧ a5 < 2147483648) : (a1 = 0 ∨ a1 = 1) ∧ a6 ≤ 0 ∧ a1 + 1 ≤ a3 ∧ a3 ≤ a0 := by omega
theorem z_J6_getChars_ba4f3_29 (a0 : Int) (a1 : Int) (a2 : Int) (a3 : Int) (a4 : Int) (a5 : Int) (h0 : (a3 ≤ -1000 → a0 + 4 ≤ a4)) (h1 : ¬ ((-100 : Int) < a3)) (h2 : a3 ≤ 0 → a5 = -((-a3) / (100 : Int))) (h3 : a1 = a4 + (-1) ∨ a4 + (-1) < -2147483648 ∨ 2147483648 ≤ a4 + (-1)) (h4 : a2 = a1 + (-1) ∨ a1 + (-1) < -2147483648 ∨ 2147483648 ≤ a1 + (-1)) (h5 : -2147483648 ≤ a0 ∧ a0 < 2147483648) (h6 : -2147483648 ≤ a4 ∧ a4 < 2147483648) : (a5 ≤ -10 → a0 + 2 ≤ a2) := by omega
theorem z_J6_getChars_ba4f3_30 (a0 : Int) (a1 : Int) (a2 : Int) (a3 : Int) (a4 : Int) (a5 : Int) (h0 : (a3 ≤ -10000 → a0 + 5 ≤ a4)) (h1 : ¬ ((-100 : Int) < a3)) (h2 : a3 ≤ 0 → a5 = -((-a3) / (100 : Int))) (h3 : a1 = a4 + (-1) ∨ a4 + (-1) < -2147483648 ∨ 2147483648 ≤ a4 + (-1)) (h4 : a2 = a1 + (-1) ∨ a1 + (-1) < -2147483648 ∨ 2147483648 ≤ a1 + (-1)) (h5 : -2147483648 ≤ a0 ∧ a0 < 2147483648) (h6 : -2147483648 ≤ a4 ∧ a4 < 2147483648) : (a5 ≤ -100 → a0 + 3 ≤ a2) := by omega
theorem z_J6_getChars_ba4f3_31 (a0 : Int) (a1 : Int) (a2 : Int) (a3 : Int) (a4 : Int) (a5 : Int) (h0 : (a3 ≤ -100000 → a0 + 6 ≤ a4)) (h1 : ¬ ((-100 : Int) < a3)) (h2 : a3 ≤ 0 → a5 = -((-a3) / (100 : Int))) (h3 : a1 = a4 + (-1) ∨ a4 + (-1) < -2147483648 ∨ 2147483648 ≤ a4 + (-1)) (h4 : a2 = a1 + (-1) ∨ a1 + (-1) < -2147483648 ∨ 2147483648 ≤ a1 + (-1)) (h5 : -2147483648 ≤ a0 ∧ a0 < 2147483648) (h6 : -2147483648 ≤ a4 ∧ a4 < 2147483648) : (a5 ≤ -1000 → a0 + 4 ≤ a2) := by omega
theorem z_J6_getChars_ba4f3_32 (a0 : Int) (a1 : Int) (a2 : Int) (a3 : Int) (a4 : Int) (a5 : Int) (h0 : (a3 ≤ -1000000 → a0 + 7 ≤ a4)) (h1 : ¬ ((-100 : Int) < a3)) (h2 : a3 ≤ 0 → a5 = -((-a3) / (100 : Int))) (h3 : a1 = a4 + (-1) ∨ a4 + (-1) < -2147483648 ∨ 2147483648 ≤ a4 + (-1)) (h4 : a2 = a1 + (-1) ∨ a1 + (-1) < -2147483648 ∨ 2147483648 ≤ a1 + (-1)) (h5 : -2147483648 ≤ a0 ∧ a0 < 2147483648) (h6 : -2147483648 ≤ a4 ∧ a4 < 2147483648) : (a5 ≤ -10000 → a0 + 5 ≤ a2) := by omega
theorem z_J6_getChars_ba4f3_33 (a0 : Int) (a1 : Int) (a2 : Int) (a3 : Int) (a4 : Int) (a5 : Int) (h0 : (a3 ≤ -10000000 → a0 + 8 ≤ a4)) (h1 : ¬ ((-100 : Int) < a3)) (h2 : a3 ≤ 0 → a5 = -((-a3) / (100 : Int))) (h3 : a1 = a4 + (-1) ∨ a4 + (-1) < -2147483648 ∨ 2147483648 ≤ a4 + (-1)) (h4 : a2 = a1 + (-1) ∨ a1 + (-1) < -2147483648 ∨ 2147483648 ≤ a1 + (-1)) (h5 : -2147483648 ≤ a0 ∧ a0 < 2147483648) (h6 : -2147483648 ≤ a4 ∧ a4 < 2147483648) : (a5 ≤ -100000 → a0 + 6 ≤ a2) := by omega
theorem z_J6_getChars_ba4f3_34 (a0 : Int) (a1 : Int) (a2 : Int) (a3 : Int) (a4 : Int) (a5 : Int) (h0 : (a3 ≤ -100000000 → a0 + 9 ≤ a4)) (h1 : ¬ ((-100 : Int) < a3)) (h2 : a3 ≤ 0 → a5 = -((-a3) / (100 : Int))) (h3 : a1 = a4 + (-1) ∨ a4 + (-1) < -2147483648 ∨ 2147483648 ≤ a4 + (-1)) (h4 : a2 = a1 + (-1) ∨ a1 + (-1) < -2147483648 ∨ 2147483648 ≤ a1 + (-1)) (h5 : -2147483648 ≤ a0 ∧ a0 < 2147483648) (h6 : -2147483648 ≤ a4 ∧ a4 < 2147483648) : (a5 ≤ -1000000 → a0 + 7 ≤ a2) := by omega
theorem z_J6_getChars_ba4f3_35 (a0 : Int) (a1 : Int) (a2 : Int) (a3 : Int) (a4 : Int) (a5 : Int) (h0 : (a3 ≤ -1000000000 → a0 + 10 ≤ a4)) (h1 : ¬ ((-100 : Int) < a3)) (h2 : a3 ≤ 0 → a5 = -((-a3) / (100 : Int))) (h3 : a1 = a4 + (-1) ∨ a4 + (-1) < -2147483648 ∨ 2147483648 ≤ a4 + (-1)) (h4 : a2 = a1 + (-1) ∨ a1 + (-1) < -2147483648 ∨ 2147483648 ≤ a1 + (-1)) (h5 : -2147483648 ≤ a0 ∧ a0 < 2147483648) (h6 : -2147483648 ≤ a4 ∧ a4 < 2147483648) : (a5 ≤ -10000000 → a0 + 8 ≤ a2) := by omega
theorem z_J6_getChars_ba4f3_36 (a0 : Int) (a1 : Int) (a2 : Int) (a3 : Int) (h0 : ¬ ((-100 : Int) < a2)) (h1 : a2 ≤ 0 → a3 = -((-a2) / (100 : Int))) (h2 : -2147483648 ≤ a2 ∧ a2 < 2147483648) : (a3 ≤ -100000000 → a0 + 9 ≤ a1) := by omega
theorem z_J6_getChars_ba4f3_37 (a0 : Int) (a1 : Int) (a2 : Int) (a3 : Int) (h0 : ¬ ((-100 : Int) < a2)) (h1 : a2 ≤ 0 → a3 = -((-a2) / (100 : Int))) (h2 : -2147483648 ≤ a2 ∧ a2 < 2147483648) : (a3 ≤ -1000000000 → a0 + 10 ≤ a1) := by omega
theorem z_J6_getChars_ba4f3_38 (a0 : Int) (a1 : Int) (a2 : Nat) (h0 : -a0 < ((a2 + 1 : Nat) : Int)) (h1 : ¬ ((-100 : Int) < a0)) (h2 : a0 ≤ 0 → a1 = -((-a0) / (100 : Int))) : -a1 < ((a2 : Nat) : Int) := by omega
theorem z_J6_getChars_ba4f3_39 (a0 : Int) (a1 : Int) (a2 : Int) (a3 : Int) (a4 : Int) (a5 : Int) (a6 : Int) (h0 : (a0 < 0 ∧ a2 = 1) ∨ (0 ≤ a0 ∧ a2 = 0)) (h1 : (a3 ≤ -100 → a2 + 3 ≤ a1)) (h2 : ¬ ((-100 : Int) < a3)) (h3 : a3 ≤ 0 → a4 = -((-a3) / (100 : Int))) (h4 : a5 = a1 + (-1) ∨ a1 + (-1) < -2147483648 ∨ 2147483648 ≤ a1 + (-1)) (h5 : a6 = a5 + (-1) ∨ a5 + (-1) < -2147483648 ∨ 2147483648 ≤ a5 + (-1)) (h6 : -2147483648 ≤ a1 ∧ a1 < 2147483648) : (a2 = 0 ∨ a2 = 1) ∧ a4 ≤ 0 ∧ a2 + 1 ≤ a6 ∧ a6 ≤ a1 := by omega
theorem z_J6_getChars_ba4f3_40 (a0 : Int) (a1 : Int) (a2 : Int) (a3 : Int) (a4 : Int) (a5 : Int) (a6 : Nat) (h0 : 1 ≤ a0 ∧ a0 ≤ ((a6 : Nat) : Int)) (h1 : (a2 ≤ -1000 → a1 + 4 ≤ a0)) (h2 : ¬ ((-100 : Int) < a2)) (h3 : a2 ≤ 0 → a3 = -((-a2) / (100 : Int))) (h4 : a4 = a0 + (-1) ∨ a0 + (-1) < -2147483648 ∨ 2147483648 ≤ a0 + (-1)) (h5 : a5 = a4 + (-1) ∨ a4 + (-1) < -2147483648 ∨ 2147483648 ≤ a4 + (-1)) (h6 : -2147483648 ≤ a0 ∧ a0 < 2147483648) : (a3 ≤ -10 → a1 + 2 ≤ a5) := by omega
theorem z_J6_getChars_ba4f3_41 (a0 : Int) (a1 : Int) (a2 : Int) (a3 : Int) (a4 : Int) (a5 : Int) (a6 : Nat) (h0 : 1 ≤ a0 ∧ a0 ≤ ((a6 : Nat) : Int)) (h1 : (a2 ≤ -10000 → a1 + 5 ≤ a0)) (h2 : ¬ ((-100 : Int) < a2)) (h3 : a2 ≤ 0 → a3 = -((-a2) / (100 : Int))) (h4 : a4 = a0 + (-1) ∨ a0 + (-1) < -2147483648 ∨ 2147483648 ≤ a0 + (-1)) (h5 : a5 = a4 + (-1) ∨ a4 + (-1) < -2147483648 ∨ 2147483648 ≤ a4 + (-1)) (h6 : -2147483648 ≤ a0 ∧ a0 < 2147483648) : (a3 ≤ -100 → a1 + 3 ≤ a5) := by omega
theorem z_J6_getChars_ba4f3_42 (a0 : Int) (a1 : Int) (a2 : Int) (a3 : Int) (a4 : Int) (a5 : Int) (a6 : Nat) (h0 : 1 ≤ a0 ∧ a0 ≤ ((a6 : Nat) : Int)) (h1 : (a2 ≤ -100000 → a1 + 6 ≤ a0)) (h2 : ¬ ((-100 : Int) < a2)) (h3 : a2 ≤ 0 → a3 = -((-a2) / (100 : Int))) (h4 : a4 = a0 + (-1) ∨ a0 + (-1) < -2147483648 ∨ 2147483648 ≤ a0 + (-1)) (h5 : a5 = a4 + (-1) ∨ a4 + (-1) < -2147483648 ∨ 2147483648 ≤ a4 + (-1)) (h6 : -2147483648 ≤ a0 ∧ a0 < 2147483648) : (a3 ≤ -1000 → a1 + 4 ≤ a5) := by omega
theorem z_J6_getChars_ba4f3_43 (a0 : Int) (a1 : Int) (a2 : Int) (a3 : Int) (a4 : Int) (a5 : Int) (a6 : Nat) (h0 : 1 ≤ a0 ∧ a0 ≤ ((a6 : Nat) : Int)) (h1 : (a2 ≤ -1000000 → a1 + 7 ≤ a0)) (h2 : ¬ ((-100 : Int) < a2)) (h3 : a2 ≤ 0 → a3 = -((-a2) / (100 : Int))) (h4 : a4 = a0 + (-1) ∨ a0 + (-1) < -2147483648 ∨ 2147483648 ≤ a0 + (-1)) (h5 : a5 = a4 + (-1) ∨ a4 + (-1) < -2147483648 ∨ 2147483648 ≤ a4 + (-1)) (h6 : -2147483648 ≤ a0 ∧ a0 < 2147483648) : (a3 ≤ -10000 → a1 + 5 ≤ a5) := by omega
theorem z_J6_getChars_ba4f3_44 (a0 : Int) (a1 : Int) (a2 : Int) (a3 : Int) (a4 : Int) (a5 : Int) (a6 : Nat) (h0 : 1 ≤ a0 ∧ a0 ≤ ((a6 : Nat) : Int)) (h1 : (a2 ≤ -10000000 → a1 + 8 ≤ a0)) (h2 : ¬ ((-100 : Int) < a2)) (h3 : a2 ≤ 0 → a3 = -((-a2) / (100 : Int))) (h4 : a4 = a0 + (-1) ∨ a0 + (-1) < -2147483648 ∨ 2147483648 ≤ a0 + (-1)) (h5 : a5 = a4 + (-1) ∨ a4 + (-1) < -2147483648 ∨ 2147483648 ≤ a4 + (-1)) (h6 : -2147483648 ≤ a0 ∧ a0 < 2147483648) : (a3 ≤ -100000 → a1 + 6 ≤ a5) := by omega
theorem z_J6_getChars_ba4f3_45 (a0 : Int) (a1 : Int) (a2 : Int) (a3 : Int) (a4 : Int) (a5 : Int) (a6 : Nat) (h0 : 1 ≤ a0 ∧ a0 ≤ ((a6 : Nat) : Int)) (h1 : (a2 ≤ -100000000 → a1 + 9 ≤ a0)) (h2 : ¬ ((-100 : Int) < a2)) (h3 : a2 ≤ 0 → a3 = -((-a2) / (100 : Int))) (h4 : a4 = a0 + (-1) ∨ a0 + (-1) < -2147483648 ∨ 2147483648 ≤ a0 + (-1)) (h5 : a5 = a4 + (-1) ∨ a4 + (-1) < -2147483648 ∨ 2147483648 ≤ a4 + (-1)) (h6 : -2147483648 ≤ a0 ∧ a0 < 2147483648) : (a3 ≤ -1000000 → a1 + 7 ≤ a5) := by omega
theorem z_J6_getChars_ba4f3_46 (a0 : Int) (a1 : Int) (a2 : Int) (a3 : Int) (a4 : Int) (a5 : Int) (a6 : Nat) (h0 : 1 ≤ a0 ∧ a0 ≤ ((a6 : Nat) : Int)) (h1 : (a2 ≤ -1000000000 → a1 + 10 ≤ a0)) (h2 : ¬ ((-100 : Int) < a2)) (h3 : a2 ≤ 0 → a3 = -((-a2) / (100 : Int))) (h4 : a4 = a0 + (-1) ∨ a0 + (-1) < -2147483648 ∨ 2147483648 ≤ a0 + (-1)) (h5 : a5 = a4 + (-1) ∨ a4 + (-1) < -2147483648 ∨ 2147483648 ≤ a4 + (-1)) (h6 : -2147483648 ≤ a0 ∧ a0 < 2147483648) : (a3 ≤ -10000000 → a1 + 8 ≤ a5) := by omega
theorem z_J6_getChars_ba4f3_47 (a0 : Int) (a1 : Int) (a2 : Int) (a3 : Int) (h0 : ¬ ((-100 : Int) < a1)) (h1 : a1 ≤ 0 → a2 = -((-a1) / (100 : Int))) (h2 : -2147483648 ≤ a1 ∧ a1 < 2147483648) : (a2 ≤ -100000000 → a0 + 9 ≤ a3) := by omega
theorem z_J6_getChars_ba4f3_48 (a0 : Int) (a1 : Int) (a2 : Int) (a3 : Int) (h0 : ¬ ((-100 : Int) < a1)) (h1 : a1 ≤ 0 → a2 = -((-a1) / (100 : Int))) (h2 : -2147483648 ≤ a1 ∧ a1 < 2147483648) : (a2 ≤ -1000000000 → a0 + 10 ≤ a3) := by omega
theorem z_J6_getChars_ba4f3_49 (a0 : Int) (h0 : -2147483648 ≤ a0 ∧ a0 < 2147483648) : -a0 < ((4294967297 : Nat) : Int) := by omega
theorem z_J6_getChars_ba4f3_50 (a0 : Int) (a1 : Int) (a2 : Int) (h0 : a0 < 0 → 2 ≤ a1) (h1 : (a0 < 0 ∧ a2 = 1) ∨ (0 ≤ a0 ∧ a2 = 0)) (h2 : a2 ≠ 0) : (a2 = 0 ∨ a2 = 1) ∧ a0 ≤ 0 ∧ a2 + 1 ≤ a1 ∧ a1 ≤ a1 := by omega
theorem z_J6_getChars_ba4f3_51 (a0 : Int) (a1 : Int) (a2 : Int) (h0 : (a0 ≤ -10 → 3 ≤ a1) ∧ (10 ≤ a0 → 2 ≤ a1)) (h1 : (a0 < 0 ∧ a2 = 1) ∨ (0 ≤ a0 ∧ a2 = 0)) : (a0 ≤ -10 → a2 + 2 ≤ a1) := by omega
theorem z_J6_getChars_ba4f3_52 (a0 : Int) (a1 : Int) (a2 : Int) (h0 : (a0 ≤ -100 → 4 ≤ a1) ∧ (100 ≤ a0 → 3 ≤ a1)) (h1 : (a0 < 0 ∧ a2 = 1) ∨ (0 ≤ a0 ∧ a2 = 0)) : (a0 ≤ -100 → a2 + 3 ≤ a1) := by omega
theorem z_J6_getChars_ba4f3_53 (a0 : Int) (a1 : Int) (a2 : Int) (h0 : (a0 ≤ -1000 → 5 ≤ a1) ∧ (1000 ≤ a0 → 4 ≤ a1)) (h1 : (a0 < 0 ∧ a2 = 1) ∨ (0 ≤ a0 ∧ a2 = 0)) : (a0 ≤ -1000 → a2 + 4 ≤ a1) := by omega
theorem z_J6_getChars_ba4f3_54 (a0 : Int) (a1 : Int) (a2 : Int) (h0 : (a0 ≤ -10000 → 6 ≤ a1) ∧ (10000 ≤ a0 → 5 ≤ a1)) (h1 : (a0 < 0 ∧ a2 = 1) ∨ (0 ≤ a0 ∧ a2 = 0)) : (a0 ≤ -10000 → a2 + 5 ≤ a1) := by omega
theorem z_J6_getChars_ba4f3_55 (a0 : Int) (a1 : Int) (a2 : Int) (h0 : (a0 ≤ -100000 → 7 ≤ a1) ∧ (100000 ≤ a0 → 6 ≤ a1)) (h1 : (a0 < 0 ∧ a2 = 1) ∨ (0 ≤ a0 ∧ a2 = 0)) : (a0 ≤ -100000 → a2 + 6 ≤ a1) := by omega
theorem z_J6_getChars_ba4f3_56 (a0 : Int) (a1 : Int) (a2 : Int) (h0 : (a0 ≤ -1000000 → 8 ≤ a1) ∧ (1000000 ≤ a0 → 7 ≤ a1)) (h1 : (a0 < 0 ∧ a2 = 1) ∨ (0 ≤ a0 ∧ a2 = 0)) : (a0 ≤ -1000000 → a2 + 7 ≤ a1) := by omega
theorem z_J6_getChars_ba4f3_57 (a0 : Int) (a1 : Int) (a2 : Int) (h0 : (a0 ≤ -10000000 → 9 ≤ a1) ∧ (10000000 ≤ a0 → 8 ≤ a1)) (h1 : (a0 < 0 ∧ a2 = 1) ∨ (0 ≤ a0 ∧ a2 = 0)) : (a0 ≤ -10000000 → a2 + 8 ≤ a1) := by omega
theorem z_J6_getChars_ba4f3_58 (a0 : Int) (a1 : Int) (a2 : Int) (h0 : (a0 ≤ -100000000 → 10 ≤ a1) ∧ (100000000 ≤ a0 → 9 ≤ a1)) (h1 : (a0 < 0 ∧ a2 = 1) ∨ (0 ≤ a0 ∧ a2 = 0)) : (a0 ≤ -100000000 → a2 + 9 ≤ a1) := by omega
theorem z_J6_getChars_ba4f3_59 (a0 : Int) (a1 : Int) (a2 : Int) (h0 : (a0 ≤ -1000000000 → 11 ≤ a1) ∧ (1000000000 ≤ a0 → 10 ≤ a1)) (h1 : (a0 < 0 ∧ a2 = 1) ∨ (0 ≤ a0 ∧ a2 = 0)) : (a0 ≤ -1000000000 → a2 + 10 ≤ a1) := by omega
theorem z_J6_getChars_ba4f3_60 (a0 : Int) (a1 : Int) (a2 : Int) (a3 : Int) (a4 : Nat) (h0 : 1 ≤ a1 ∧ a1 ≤ ((a4 : Nat) : Int)) (h1 : (a0 < 0 ∧ a2 = 1) ∨ (0 ≤ a0 ∧ a2 = 0)) (h2 : ¬ (a2 ≠ 0)) (h3 : a3 = -a0 ∨ -a0 < -2147483648 ∨ 2147483648 ≤ -a0) (h4 : -2147483648 ≤ a0 ∧ a0 < 2147483648) : (a2 = 0 ∨ a2 = 1) ∧ a3 ≤ 0 ∧ a2 + 1 ≤ a1 ∧ a1 ≤ a1 := by omega
theorem z_J6_getChars_ba4f3_61 (a0 : Int) (a1 : Int) (a2 : Int) (a3 : Int) (h0 : (a0 ≤ -10 → 3 ≤ a1) ∧ (10 ≤ a0 → 2 ≤ a1)) (h1 : ¬ (a2 ≠ 0)) (h2 : a3 = -a0 ∨ -a0 < -2147483648 ∨ 2147483648 ≤ -a0) : (a3 ≤ -10 → a2 + 2 ≤ a1) := by omega
theorem z_J6_getChars_ba4f3_62 (a0 : Int) (a1 : Int) (a2 : Int) (a3 : Int) (h0 : (a0 ≤ -100 → 4 ≤ a1) ∧ (100 ≤ a0 → 3 ≤ a1)) (h1 : ¬ (a2 ≠ 0)) (h2 : a3 = -a0 ∨ -a0 < -2147483648 ∨ 2147483648 ≤ -a0) : (a3 ≤ -100 → a2 + 3 ≤ a1) := by omega
theorem z_J6_getChars_ba4f3_63 (a0 : Int) (a1 : Int) (a2 : Int) (a3 : Int) (h0 : (a0 ≤ -1000 → 5 ≤ a1) ∧ (1000 ≤ a0 → 4 ≤ a1)) (h1 : ¬ (a2 ≠ 0)) (h2 : a3 = -a0 ∨ -a0 < -2147483648 ∨ 2147483648 ≤ -a0) : (a3 ≤ -1000 → a2 + 4 ≤ a1) := by omega
theorem z_J6_getChars_ba4f3_64 (a0 : Int) (a1 : Int) (a2 : Int) (a3 : Int) (h0 : (a0 ≤ -10000 → 6 ≤ a1) ∧ (10000 ≤ a0 → 5 ≤ a1)) (h1 : ¬ (a2 ≠ 0)) (h2 : a3 = -a0 ∨ -a0 < -2147483648 ∨ 2147483648 ≤ -a0) : (a3 ≤ -10000 → a2 + 5 ≤ a1) := by omega
theorem z_J6_getChars_ba4f3_65 (a0 : Int) (a1 : Int) (a2 : Int) (a3 : Int) (h0 : (a0 ≤ -100000 → 7 ≤ a1) ∧ (100000 ≤ a0 → 6 ≤ a1)) (h1 : ¬ (a2 ≠ 0)) (h2 : a3 = -a0 ∨ -a0 < -2147483648 ∨ 2147483648 ≤ -a0) : (a3 ≤ -100000 → a2 + 6 ≤ a1) := by omega
theorem z_J6_getChars_ba4f3_66 (a0 : Int) (a1 : Int) (a2 : Int) (a3 : Int) (h0 : (a0 ≤ -1000000 → 8 ≤ a1) ∧ (1000000 ≤ a0 → 7 ≤ a1)) (h1 : ¬ (a2 ≠ 0)) (h2 : a3 = -a0 ∨ -a0 < -2147483648 ∨ 2147483648 ≤ -a0) : (a3 ≤ -1000000 → a2 + 7 ≤ a1) := by omega
theorem z_J6_getChars_ba4f3_67 (a0 : Int) (a1 : Int) (a2 : Int) (a3 : Int) (h0 : (a0 ≤ -10000000 → 9 ≤ a1) ∧ (10000000 ≤ a0 → 8 ≤ a1)) (h1 : ¬ (a2 ≠ 0)) (h2 : a3 = -a0 ∨ -a0 < -2147483648 ∨ 2147483648 ≤ -a0) : (a3 ≤ -10000000 → a2 + 8 ≤ a1) := by omega
theorem z_J6_getChars_ba4f3_68 (a0 : Int) (a1 : Int) (a2 : Int) (a3 : Int) (h0 : (a0 ≤ -100000000 → 10 ≤ a1) ∧ (100000000 ≤ a0 → 9 ≤ a1)) (h1 : ¬ (a2 ≠ 0)) (h2 : a3 = -a0 ∨ -a0 < -2147483648 ∨ 2147483648 ≤ -a0) : (a3 ≤ -100000000 → a2 + 9 ≤ a1) := by omega
theorem z_J6_getChars_ba4f3_69 (a0 : Int) (a1 : Int) (a2 : Int) (a3 : Int) (h0 : (a0 ≤ -1000000000 → 11 ≤ a1) ∧ (1000000000 ≤ a0 → 10 ≤ a1)) (h1 : ¬ (a2 ≠ 0)) (h2 : a3 = -a0 ∨ -a0 < -2147483648 ∨ 2147483648 ≤ -a0) : (a3 ≤ -1000000000 → a2 + 10 ≤ a1) := by omega
theorem z_J6_getChars_ba4f3_70 (a0 : Int) (h0 : 0 ≤ a0) : (a0 < 0 ∧ (0 : Int) = 1) ∨ (0 ≤ a0 ∧ (0 : Int) = 0) := by omega
theorem z_J6_getChars_ba4f3_71 (a0 : Int) (h0 : ¬ (0 ≤ a0)) : (a0 < 0 ∧ (1 : Int) = 1) ∨ (0 ≤ a0 ∧ (1 : Int) = 0) := by omega
abbrev rm_J6_getChars_ba4f3 : Room := { frames := 0, cells := 0, slots := 0, locals := 0 }
set_option maxHeartbeats 4000000 in
set_option maxRecDepth 100000 in
theorem c_J6_getChars_ba4f3 (l : Launch) (E : XE) (K : Nat → Nat) (F : Nat → Nat → Nat) (G : XG) (v n : Nat) (cnt : Int32) (p0 : Int32) (p1 : Int32) (e1 : 1 ≤ p1.toInt ∧ p1.toInt ≤ (((n) : Nat) : Int)) (e2 : p0.toInt < 0 → 2 ≤ p1.toInt) (pg1 : (p0.toInt ≤ -10 → 3 ≤ p1.toInt) ∧ (10 ≤ p0.toInt → 2 ≤ p1.toInt)) (pg2 : (p0.toInt ≤ -100 → 4 ≤ p1.toInt) ∧ (100 ≤ p0.toInt → 3 ≤ p1.toInt)) (pg3 : (p0.toInt ≤ -1000 → 5 ≤ p1.toInt) ∧ (1000 ≤ p0.toInt → 4 ≤ p1.toInt)) (pg4 : (p0.toInt ≤ -10000 → 6 ≤ p1.toInt) ∧ (10000 ≤ p0.toInt → 5 ≤ p1.toInt)) (pg5 : (p0.toInt ≤ -100000 → 7 ≤ p1.toInt) ∧ (100000 ≤ p0.toInt → 6 ≤ p1.toInt)) (pg6 : (p0.toInt ≤ -1000000 → 8 ≤ p1.toInt) ∧ (1000000 ≤ p0.toInt → 7 ≤ p1.toInt)) (pg7 : (p0.toInt ≤ -10000000 → 9 ≤ p1.toInt) ∧ (10000000 ≤ p0.toInt → 8 ≤ p1.toInt)) (pg8 : (p0.toInt ≤ -100000000 → 10 ≤ p1.toInt) ∧ (100000000 ≤ p0.toInt → 9 ≤ p1.toInt)) (pg9 : (p0.toInt ≤ -1000000000 → 11 ≤ p1.toInt) ∧ (1000000000 ≤ p0.toInt → 10 ≤ p1.toInt)) : Met l yJ6_getChars_ba4f3 (xw yJ6_getChars_ba4f3 cJ6_getChars_ba4f3 7 (some .int)) rm_J6_getChars_ba4f3 (va_Pc [.int p0, .int p1, .ref v] (XPb E K F G v n cnt)) (XQ E (fun v (u : Nat × Nat × Int32) => (∃ r : Int32, v = .int r) ∧ u.2.2.toInt = cnt.toInt ∧ ((u.2.1 : Nat) : Int) = ((n : Nat) : Int)) (fun u H => TWb E K F G u.1 u.2.1 u.2.2 H)) 0 0 (xA E) := by
  refine x_enter (by decide) (Nat.le_of_ble_eq_true rfl) ?_
  intro p e s m args below meth c Q S hr hlk hnm hQ hP ls hl
  obtain ⟨hz, hK, hT⟩ := hP
  obtain ⟨hx, hb, -, -, -⟩ := id S
  obtain ⟨H, hT, hS, hgo⟩ : ∃ H : Heap, TWb E K F G v n cnt H ∧ va_S (xA E) s.heap H [] ∧ H = s.heap := ⟨_, hT, va_S.rf, rfl⟩
  rw [← hgo]
  have hl : lv_has ls 7 [(0, .int p0), (1, .int p1), (2, .ref v)] := hl
  have e9 := hT.inv
  refine lv_iload_n hx hb dJ6_getChars_ba4f3_0 rfl (lv_at hl 1 rfl) ?_
  refine lv_istore (lv' := [(5, .int p1), (0, .int p0), (1, .int p1), (2, .ref v)]) hx hb dJ6_getChars_ba4f3_1 hl (by decide) rfl (fun ls hl => ?_)
  refine lv_iload_n hx hb dJ6_getChars_ba4f3_3 rfl (lv_at hl 1 rfl) ?_
  have J12 : ∀ (x1 : Int32) (H : Heap) (locs : List Loc) (ls : Array Slot), (p0.toInt < 0 ∧ x1.toInt = 1) ∨ (0 ≤ p0.toInt ∧ x1.toInt = 0) → TWb E K F G v n cnt H → va_S (xA E) s.heap H locs → lv_has ls 7 [(0, .int p0), (2, .ref v), (5, .int p1)] → W p l e rm_J6_getChars_ba4f3 s m args below meth c H locs 0 0 Q (F0 m 12 ls [.int x1]) := by
    intro x1 H locs ls hf2 hT hS hl
    refine lv_istore (lv' := [(6, .int x1), (0, .int p0), (2, .ref v), (5, .int p1)]) hx hb dJ6_getChars_ba4f3_12 hl (by decide) rfl (fun ls hl => ?_)
    refine lv_iload hx hb dJ6_getChars_ba4f3_14 (lv_at hl 0 rfl) ?_
    have J22 : ∀ (x3 : Int32) (H : Heap) (locs : List Loc) (ls : Array Slot), (x1.toInt = 0 ∨ x1.toInt = 1) ∧ x3.toInt ≤ 0 ∧ x1.toInt + 1 ≤ p1.toInt ∧ p1.toInt ≤ p1.toInt → ((x3.toInt ≤ -10 → x1.toInt + 2 ≤ p1.toInt)) → ((x3.toInt ≤ -100 → x1.toInt + 3 ≤ p1.toInt)) → ((x3.toInt ≤ -1000 → x1.toInt + 4 ≤ p1.toInt)) → ((x3.toInt ≤ -10000 → x1.toInt + 5 ≤ p1.toInt)) → ((x3.toInt ≤ -100000 → x1.toInt + 6 ≤ p1.toInt)) → ((x3.toInt ≤ -1000000 → x1.toInt + 7 ≤ p1.toInt)) → ((x3.toInt ≤ -10000000 → x1.toInt + 8 ≤ p1.toInt)) → ((x3.toInt ≤ -100000000 → x1.toInt + 9 ≤ p1.toInt)) → ((x3.toInt ≤ -1000000000 → x1.toInt + 10 ≤ p1.toInt)) → TWb E K F G v n cnt H → va_S (xA E) s.heap H locs → lv_has ls 7 [(0, .int x3), (2, .ref v), (5, .int p1), (6, .int x1)] → W p l e rm_J6_getChars_ba4f3 s m args below meth c H locs 0 0 Q (F0 m 22 ls []) := by
      intro x3 H locs ls hf4 hf5 hf6 hf7 hf8 hf9 hf10 hf11 hf12 hf13 hT hS hl
      refine lv_iload_n hx hb dJ6_getChars_ba4f3_22 rfl (lv_at hl 0 rfl) ?_
      refine lv_bipush (v := (-100)) hx hb dJ6_getChars_ba4f3_23 (by decide) ?_
      refine xi_cgt (tgt := 72) hx hb (rfl : Int32.toInt x3 = x3.toInt) ((by decide) : Int32.toInt (-100) = (-100 : Int)) dJ6_getChars_ba4f3_25 (by decide) (fun c14 => ?_) (fun c14 => ?_)
      · refine lv_aload_n hx hb dJ6_getChars_ba4f3_72 rfl (lv_at hl 1 rfl) ?_
        refine xi_iinc (n := (-1)) (lv' := fun z9 => [(5, .int z9), (0, .int x3), (2, .ref v), (6, .int x1)]) (k := 2) hx hb (rfl : Int32.toInt p1 = p1.toInt) (by decide) dJ6_getChars_ba4f3_73 hl rfl (by decide) (fun _ => rfl) (fun x15 ls t16 hl => ?_)
        have hl : lv_has ls 7 [(5, .int x15), (0, .int x3), (2, .ref v), (6, .int x1)] := hl
        refine lv_iload hx hb dJ6_getChars_ba4f3_76 (lv_at hl 0 rfl) ?_
        obtain ⟨q17, f18, hz19, hz20⟩ := hK.2.2.2.2.2.2.2.2.2
        refine va_gets hx hb hz19 hS S.2.2.2.1 (S.2.2.2.2 _ (List.mem_cons_of_mem _ kf_J6_83)) (fun _ h => h) dJ6_getChars_ba4f3_78 ?_
        refine lv_iload_n hx hb dJ6_getChars_ba4f3_81 rfl (lv_at hl 1 rfl) ?_
        refine xi_ineg hx hb (rfl : Int32.toInt x3 = x3.toInt) dJ6_getChars_ba4f3_82 (fun x21 t22 => ?_)
        refine va_tb hx hb hz20 hS (vp_in_iff.mpr (z_J6_getChars_ba4f3_1 p1.toInt x1.toInt x21.toInt x3.toInt hf4 c14 t22)) rfl dJ6_getChars_ba4f3_83 (lv_topi (fun x23 _ => ?_))
        refine sb_st S hK hT hS (z_J6_getChars_ba4f3_2 p1.toInt x15.toInt n e1 t16 (xr p1)) dJ6_getChars_ba4f3_84 (fun H locs hT hS => ?_)
        refine lv_iload_n hx hb dJ6_getChars_ba4f3_85 rfl (lv_at hl 1 rfl) ?_
        refine lv_bipush (v := (-9)) hx hb dJ6_getChars_ba4f3_86 (by decide) ?_
        have J104 : ∀ (x24 : Int32) (H : Heap) (locs : List Loc) (ls : Array Slot), x1.toInt ≤ x24.toInt ∧ x24.toInt ≤ p1.toInt ∧ (x1.toInt = 0 ∨ x1.toInt = 1) → TWb E K F G v n cnt H → va_S (xA E) s.heap H locs → lv_has ls 7 [(2, .ref v), (5, .int x24), (6, .int x1)] → W p l e rm_J6_getChars_ba4f3 s m args below meth c H locs 0 0 Q (F0 m 104 ls []) := by
          intro x24 H locs ls hf25 hT hS hl
          refine lv_iload hx hb dJ6_getChars_ba4f3_104 (lv_at hl 2 rfl) ?_
          refine xi_zeq (tgt := 118) hx hb (rfl : Int32.toInt x1 = x1.toInt) dJ6_getChars_ba4f3_106 (by decide) (fun c26 => ?_) (fun c26 => ?_)
          · refine lv_iload hx hb dJ6_getChars_ba4f3_118 (lv_at hl 1 rfl) ?_
            exact x_ri hx hb hr hlk hQ (Nat.le_of_ble_eq_true rfl) (Nat.le_of_ble_eq_true rfl) hS dJ6_getChars_ba4f3_120 (v, n, cnt) ⟨⟨_, rfl⟩, (z_J6_getChars_ba4f3_3 cnt.toInt n)⟩ hT
          · refine lv_aload_n hx hb dJ6_getChars_ba4f3_109 rfl (lv_at hl 0 rfl) ?_
            refine xi_iinc (n := (-1)) (lv' := fun z9 => [(5, .int z9), (2, .ref v), (6, .int x1)]) (k := 1) hx hb (rfl : Int32.toInt x24 = x24.toInt) (by decide) dJ6_getChars_ba4f3_110 hl rfl (by decide) (fun _ => rfl) (fun x27 ls t28 hl => ?_)
            have hl : lv_has ls 7 [(5, .int x27), (2, .ref v), (6, .int x1)] := hl
            refine lv_iload hx hb dJ6_getChars_ba4f3_113 (lv_at hl 0 rfl) ?_
            refine lv_bipush (v := 45) hx hb dJ6_getChars_ba4f3_115 (by decide) ?_
            refine sb_st S hK hT hS (z_J6_getChars_ba4f3_4 p1.toInt x1.toInt x24.toInt x27.toInt n e1 hf25 c26 t28 (xr x24)) dJ6_getChars_ba4f3_117 (fun H locs hT hS => ?_)
            refine lv_iload hx hb dJ6_getChars_ba4f3_118 (lv_at hl 0 rfl) ?_
            exact x_ri hx hb hr hlk hQ (Nat.le_of_ble_eq_true rfl) (Nat.le_of_ble_eq_true rfl) hS dJ6_getChars_ba4f3_120 (v, n, cnt) ⟨⟨_, rfl⟩, (z_J6_getChars_ba4f3_3 cnt.toInt n)⟩ hT
        refine xi_cge (tgt := 104) hx hb (rfl : Int32.toInt x3 = x3.toInt) ((by decide) : Int32.toInt (-9) = (-9 : Int)) dJ6_getChars_ba4f3_88 (by decide) (fun c29 => ?_) (fun c29 => ?_)
        · exact J104 x15 _ _ _ (z_J6_getChars_ba4f3_6 p1.toInt x1.toInt x15.toInt x3.toInt hf4 t16 (xr p1)) hT hS (lv_sub hl [2, 0, 3] rfl)
        · refine lv_aload_n hx hb dJ6_getChars_ba4f3_91 rfl (lv_at hl 2 rfl) ?_
          refine xi_iinc (n := (-1)) (lv' := fun z9 => [(5, .int z9), (0, .int x3), (2, .ref v), (6, .int x1)]) (k := 0) hx hb (rfl : Int32.toInt x15 = x15.toInt) (by decide) dJ6_getChars_ba4f3_92 hl rfl (by decide) (fun _ => rfl) (fun x30 ls t31 hl => ?_)
          have hl : lv_has ls 7 [(5, .int x30), (0, .int x3), (2, .ref v), (6, .int x1)] := hl
          refine lv_iload hx hb dJ6_getChars_ba4f3_95 (lv_at hl 0 rfl) ?_
          obtain ⟨q32, f33, hz34, hz35⟩ := hK.2.2.2.2.2.2.2.2.1
          refine va_gets hx hb hz34 hS S.2.2.2.1 (S.2.2.2.2 _ (List.mem_cons_of_mem _ kf_J6_87)) (fun _ h => h) dJ6_getChars_ba4f3_97 ?_
          refine lv_iload_n hx hb dJ6_getChars_ba4f3_100 rfl (lv_at hl 1 rfl) ?_
          refine xi_ineg hx hb (rfl : Int32.toInt x3 = x3.toInt) dJ6_getChars_ba4f3_101 (fun x36 t37 => ?_)
          refine va_tb hx hb hz35 hS (vp_in_iff.mpr (z_J6_getChars_ba4f3_7 x3.toInt x36.toInt c14 c29 t37)) rfl dJ6_getChars_ba4f3_102 (lv_topi (fun x38 _ => ?_))
          refine sb_st S hK hT hS (z_J6_getChars_ba4f3_8 p0.toInt p1.toInt x1.toInt x15.toInt x3.toInt x30.toInt n e1 hf2 hf5 t16 c29 t31 (xr p1)) dJ6_getChars_ba4f3_103 (fun H locs hT hS => ?_)
          exact J104 x30 _ _ _ (z_J6_getChars_ba4f3_9 p0.toInt p1.toInt x1.toInt x15.toInt x3.toInt x30.toInt hf2 hf5 t16 c29 t31 (xr p1)) hT hS (lv_sub hl [2, 0, 3] rfl)
      · refine lv_iload_n hx hb dJ6_getChars_ba4f3_28 rfl (lv_at hl 0 rfl) ?_
        refine lv_bipush (v := 100) hx hb dJ6_getChars_ba4f3_29 (by decide) ?_
        refine xi_idivn hx hb (rfl : Int32.toInt x3 = x3.toInt) ((by decide) : Int32.toInt 100 = (100 : Int)) (by decide) dJ6_getChars_ba4f3_31 (fun x39 t40 => ?_)
        refine lv_istore_n (lv' := [(3, .int x39), (0, .int x3), (2, .ref v), (5, .int p1), (6, .int x1)]) hx hb dJ6_getChars_ba4f3_32 rfl hl (by decide) rfl (fun ls hl => ?_)
        refine lv_iload_n hx hb dJ6_getChars_ba4f3_33 rfl (lv_at hl 0 rfl) ?_
        refine lv_bipush (v := 100) hx hb dJ6_getChars_ba4f3_34 (by decide) ?_
        refine xi_imul hx hb (rfl : Int32.toInt x39 = x39.toInt) ((by decide) : Int32.toInt 100 = (100 : Int)) dJ6_getChars_ba4f3_36 (fun x41 t42 => ?_)
        refine lv_iload_n hx hb dJ6_getChars_ba4f3_37 rfl (lv_at hl 1 rfl) ?_
        refine xi_isub hx hb (rfl : Int32.toInt x41 = x41.toInt) (rfl : Int32.toInt x3 = x3.toInt) dJ6_getChars_ba4f3_38 (fun x43 t44 => ?_)
        refine lv_istore (lv' := [(4, .int x43), (3, .int x39), (0, .int x3), (2, .ref v), (5, .int p1), (6, .int x1)]) hx hb dJ6_getChars_ba4f3_39 hl (by decide) rfl (fun ls hl => ?_)
        refine lv_iload_n hx hb dJ6_getChars_ba4f3_41 rfl (lv_at hl 1 rfl) ?_
        refine lv_istore_n (lv' := [(0, .int x39), (4, .int x43), (3, .int x39), (2, .ref v), (5, .int p1), (6, .int x1)]) hx hb dJ6_getChars_ba4f3_42 rfl hl (by decide) rfl (fun ls hl => ?_)
        refine lv_aload_n hx hb dJ6_getChars_ba4f3_43 rfl (lv_at hl 3 rfl) ?_
        refine xi_iinc (n := (-1)) (lv' := fun z9 => [(5, .int z9), (0, .int x39), (4, .int x43), (3, .int x39), (2, .ref v), (6, .int x1)]) (k := 4) hx hb (rfl : Int32.toInt p1 = p1.toInt) (by decide) dJ6_getChars_ba4f3_44 hl rfl (by decide) (fun _ => rfl) (fun x45 ls t46 hl => ?_)
        have hl : lv_has ls 7 [(5, .int x45), (0, .int x39), (4, .int x43), (3, .int x39), (2, .ref v), (6, .int x1)] := hl
        refine lv_iload hx hb dJ6_getChars_ba4f3_47 (lv_at hl 0 rfl) ?_
        obtain ⟨q47, f48, hz49, hz50⟩ := hK.2.2.2.2.2.2.2.2.2
        refine va_gets hx hb hz49 hS S.2.2.2.1 (S.2.2.2.2 _ (List.mem_cons_of_mem _ kf_J6_83)) (fun _ h => h) dJ6_getChars_ba4f3_49 ?_
        refine lv_iload hx hb dJ6_getChars_ba4f3_52 (lv_at hl 2 rfl) ?_
        refine va_tb hx hb hz50 hS (vp_in_iff.mpr (z_J6_getChars_ba4f3_10 x3.toInt x39.toInt x41.toInt x43.toInt c14 t40 t42 t44 (xr x3))) rfl dJ6_getChars_ba4f3_54 (lv_topi (fun x51 _ => ?_))
        refine sb_st S hK hT hS (z_J6_getChars_ba4f3_2 p1.toInt x45.toInt n e1 t46 (xr p1)) dJ6_getChars_ba4f3_55 (fun H locs hT hS => ?_)
        refine lv_aload_n hx hb dJ6_getChars_ba4f3_56 rfl (lv_at hl 4 rfl) ?_
        refine xi_iinc (n := (-1)) (lv' := fun z9 => [(5, .int z9), (0, .int x39), (4, .int x43), (3, .int x39), (2, .ref v), (6, .int x1)]) (k := 0) hx hb (rfl : Int32.toInt x45 = x45.toInt) (by decide) dJ6_getChars_ba4f3_57 hl rfl (by decide) (fun _ => rfl) (fun x52 ls t53 hl => ?_)
        have hl : lv_has ls 7 [(5, .int x52), (0, .int x39), (4, .int x43), (3, .int x39), (2, .ref v), (6, .int x1)] := hl
        refine lv_iload hx hb dJ6_getChars_ba4f3_60 (lv_at hl 0 rfl) ?_
        obtain ⟨q54, f55, hz56, hz57⟩ := hK.2.2.2.2.2.2.2.2.1
        refine va_gets hx hb hz56 hS S.2.2.2.1 (S.2.2.2.2 _ (List.mem_cons_of_mem _ kf_J6_87)) (fun _ h => h) dJ6_getChars_ba4f3_62 ?_
        refine lv_iload hx hb dJ6_getChars_ba4f3_65 (lv_at hl 2 rfl) ?_
        refine va_tb hx hb hz57 hS (vp_in_iff.mpr (z_J6_getChars_ba4f3_10 x3.toInt x39.toInt x41.toInt x43.toInt c14 t40 t42 t44 (xr x3))) rfl dJ6_getChars_ba4f3_67 (lv_topi (fun x58 _ => ?_))
        refine sb_st S hK hT hS (z_J6_getChars_ba4f3_13 p0.toInt p1.toInt x1.toInt x3.toInt x45.toInt x52.toInt n e1 hf2 hf6 c14 t46 t53 (xr p1)) dJ6_getChars_ba4f3_68 (fun H locs hT hS => ?_)
        refine lv_goto (tgt := 22) hx hb dJ6_getChars_ba4f3_69 (by decide) ?_
        have L22 : ∀ (N61 : Nat) (x59 : Int32) (x60 : Int32) (H : Heap) (locs : List Loc) (ls : Array Slot), (x1.toInt = 0 ∨ x1.toInt = 1) ∧ x59.toInt ≤ 0 ∧ x1.toInt + 1 ≤ x60.toInt ∧ x60.toInt ≤ p1.toInt → ((x59.toInt ≤ -10 → x1.toInt + 2 ≤ x60.toInt)) → ((x59.toInt ≤ -100 → x1.toInt + 3 ≤ x60.toInt)) → ((x59.toInt ≤ -1000 → x1.toInt + 4 ≤ x60.toInt)) → ((x59.toInt ≤ -10000 → x1.toInt + 5 ≤ x60.toInt)) → ((x59.toInt ≤ -100000 → x1.toInt + 6 ≤ x60.toInt)) → ((x59.toInt ≤ -1000000 → x1.toInt + 7 ≤ x60.toInt)) → ((x59.toInt ≤ -10000000 → x1.toInt + 8 ≤ x60.toInt)) → ((x59.toInt ≤ -100000000 → x1.toInt + 9 ≤ x60.toInt)) → ((x59.toInt ≤ -1000000000 → x1.toInt + 10 ≤ x60.toInt)) → -x59.toInt < ((N61 : Nat) : Int) → TWb E K F G v n cnt H → va_S (xA E) s.heap H locs → lv_has ls 7 [(0, .int x59), (2, .ref v), (5, .int x60), (6, .int x1)] → W p l e rm_J6_getChars_ba4f3 s m args below meth c H locs 0 0 Q (F0 m 22 ls []) := by
          intro N61
          induction N61 with
          | zero =>
            intro x59 x60 H locs ls hf62 hf63 hf64 hf65 hf66 hf67 hf68 hf69 hf70 hf71 hm72
            exact absurd hm72 (z_J6_getChars_ba4f3_14 p1.toInt x1.toInt x59.toInt x60.toInt hf62)
          | succ N61 ih73 =>
            intro x59 x60 H locs ls hf62 hf63 hf64 hf65 hf66 hf67 hf68 hf69 hf70 hf71 hm72 hT hS hl
            refine lv_iload_n hx hb dJ6_getChars_ba4f3_22 rfl (lv_at hl 0 rfl) ?_
            refine lv_bipush (v := (-100)) hx hb dJ6_getChars_ba4f3_23 (by decide) ?_
            refine xi_cgt (tgt := 72) hx hb (rfl : Int32.toInt x59 = x59.toInt) ((by decide) : Int32.toInt (-100) = (-100 : Int)) dJ6_getChars_ba4f3_25 (by decide) (fun c74 => ?_) (fun c74 => ?_)
            · refine lv_aload_n hx hb dJ6_getChars_ba4f3_72 rfl (lv_at hl 1 rfl) ?_
              refine xi_iinc (n := (-1)) (lv' := fun z9 => [(5, .int z9), (0, .int x59), (2, .ref v), (6, .int x1)]) (k := 2) hx hb (rfl : Int32.toInt x60 = x60.toInt) (by decide) dJ6_getChars_ba4f3_73 hl rfl (by decide) (fun _ => rfl) (fun x75 ls t76 hl => ?_)
              have hl : lv_has ls 7 [(5, .int x75), (0, .int x59), (2, .ref v), (6, .int x1)] := hl
              refine lv_iload hx hb dJ6_getChars_ba4f3_76 (lv_at hl 0 rfl) ?_
              obtain ⟨q77, f78, hz79, hz80⟩ := hK.2.2.2.2.2.2.2.2.2
              refine va_gets hx hb hz79 hS S.2.2.2.1 (S.2.2.2.2 _ (List.mem_cons_of_mem _ kf_J6_83)) (fun _ h => h) dJ6_getChars_ba4f3_78 ?_
              refine lv_iload_n hx hb dJ6_getChars_ba4f3_81 rfl (lv_at hl 1 rfl) ?_
              refine xi_ineg hx hb (rfl : Int32.toInt x59 = x59.toInt) dJ6_getChars_ba4f3_82 (fun x81 t82 => ?_)
              refine va_tb hx hb hz80 hS (vp_in_iff.mpr (z_J6_getChars_ba4f3_15 p1.toInt x1.toInt x59.toInt x60.toInt x81.toInt hf62 c74 t82)) rfl dJ6_getChars_ba4f3_83 (lv_topi (fun x83 _ => ?_))
              refine sb_st S hK hT hS (z_J6_getChars_ba4f3_16 p1.toInt x1.toInt x59.toInt x60.toInt x75.toInt n e1 hf62 t76 (xr x60)) dJ6_getChars_ba4f3_84 (fun H locs hT hS => ?_)
              refine lv_iload_n hx hb dJ6_getChars_ba4f3_85 rfl (lv_at hl 1 rfl) ?_
              refine lv_bipush (v := (-9)) hx hb dJ6_getChars_ba4f3_86 (by decide) ?_
              have J104 : ∀ (x84 : Int32) (H : Heap) (locs : List Loc) (ls : Array Slot), x1.toInt ≤ x84.toInt ∧ x84.toInt ≤ p1.toInt ∧ (x1.toInt = 0 ∨ x1.toInt = 1) → TWb E K F G v n cnt H → va_S (xA E) s.heap H locs → lv_has ls 7 [(2, .ref v), (5, .int x84), (6, .int x1)] → W p l e rm_J6_getChars_ba4f3 s m args below meth c H locs 0 0 Q (F0 m 104 ls []) := by
                intro x84 H locs ls hf85 hT hS hl
                refine lv_iload hx hb dJ6_getChars_ba4f3_104 (lv_at hl 2 rfl) ?_
                refine xi_zeq (tgt := 118) hx hb (rfl : Int32.toInt x1 = x1.toInt) dJ6_getChars_ba4f3_106 (by decide) (fun c86 => ?_) (fun c86 => ?_)
                · refine lv_iload hx hb dJ6_getChars_ba4f3_118 (lv_at hl 1 rfl) ?_
                  exact x_ri hx hb hr hlk hQ (Nat.le_of_ble_eq_true rfl) (Nat.le_of_ble_eq_true rfl) hS dJ6_getChars_ba4f3_120 (v, n, cnt) ⟨⟨_, rfl⟩, (z_J6_getChars_ba4f3_3 cnt.toInt n)⟩ hT
                · refine lv_aload_n hx hb dJ6_getChars_ba4f3_109 rfl (lv_at hl 0 rfl) ?_
                  refine xi_iinc (n := (-1)) (lv' := fun z9 => [(5, .int z9), (2, .ref v), (6, .int x1)]) (k := 1) hx hb (rfl : Int32.toInt x84 = x84.toInt) (by decide) dJ6_getChars_ba4f3_110 hl rfl (by decide) (fun _ => rfl) (fun x87 ls t88 hl => ?_)
                  have hl : lv_has ls 7 [(5, .int x87), (2, .ref v), (6, .int x1)] := hl
                  refine lv_iload hx hb dJ6_getChars_ba4f3_113 (lv_at hl 0 rfl) ?_
                  refine lv_bipush (v := 45) hx hb dJ6_getChars_ba4f3_115 (by decide) ?_
                  refine sb_st S hK hT hS (z_J6_getChars_ba4f3_4 p1.toInt x1.toInt x84.toInt x87.toInt n e1 hf85 c86 t88 (xr x84)) dJ6_getChars_ba4f3_117 (fun H locs hT hS => ?_)
                  refine lv_iload hx hb dJ6_getChars_ba4f3_118 (lv_at hl 0 rfl) ?_
                  exact x_ri hx hb hr hlk hQ (Nat.le_of_ble_eq_true rfl) (Nat.le_of_ble_eq_true rfl) hS dJ6_getChars_ba4f3_120 (v, n, cnt) ⟨⟨_, rfl⟩, (z_J6_getChars_ba4f3_3 cnt.toInt n)⟩ hT
              refine xi_cge (tgt := 104) hx hb (rfl : Int32.toInt x59 = x59.toInt) ((by decide) : Int32.toInt (-9) = (-9 : Int)) dJ6_getChars_ba4f3_88 (by decide) (fun c89 => ?_) (fun c89 => ?_)
              · exact J104 x75 _ _ _ (z_J6_getChars_ba4f3_20 p1.toInt x1.toInt x59.toInt x60.toInt x75.toInt hf62 t76 (xr x60)) hT hS (lv_sub hl [2, 0, 3] rfl)
              · refine lv_aload_n hx hb dJ6_getChars_ba4f3_91 rfl (lv_at hl 2 rfl) ?_
                refine xi_iinc (n := (-1)) (lv' := fun z9 => [(5, .int z9), (0, .int x59), (2, .ref v), (6, .int x1)]) (k := 0) hx hb (rfl : Int32.toInt x75 = x75.toInt) (by decide) dJ6_getChars_ba4f3_92 hl rfl (by decide) (fun _ => rfl) (fun x90 ls t91 hl => ?_)
                have hl : lv_has ls 7 [(5, .int x90), (0, .int x59), (2, .ref v), (6, .int x1)] := hl
                refine lv_iload hx hb dJ6_getChars_ba4f3_95 (lv_at hl 0 rfl) ?_
                obtain ⟨q92, f93, hz94, hz95⟩ := hK.2.2.2.2.2.2.2.2.1
                refine va_gets hx hb hz94 hS S.2.2.2.1 (S.2.2.2.2 _ (List.mem_cons_of_mem _ kf_J6_87)) (fun _ h => h) dJ6_getChars_ba4f3_97 ?_
                refine lv_iload_n hx hb dJ6_getChars_ba4f3_100 rfl (lv_at hl 1 rfl) ?_
                refine xi_ineg hx hb (rfl : Int32.toInt x59 = x59.toInt) dJ6_getChars_ba4f3_101 (fun x96 t97 => ?_)
                refine va_tb hx hb hz95 hS (vp_in_iff.mpr (z_J6_getChars_ba4f3_7 x59.toInt x96.toInt c74 c89 t97)) rfl dJ6_getChars_ba4f3_102 (lv_topi (fun x98 _ => ?_))
                refine sb_st S hK hT hS (z_J6_getChars_ba4f3_22 p1.toInt x1.toInt x59.toInt x60.toInt x75.toInt x90.toInt n e1 hf62 hf63 t76 c89 t91 (xr x60)) dJ6_getChars_ba4f3_103 (fun H locs hT hS => ?_)
                exact J104 x90 _ _ _ (z_J6_getChars_ba4f3_23 p1.toInt x1.toInt x59.toInt x60.toInt x75.toInt x90.toInt hf62 hf63 t76 c89 t91 (xr x60)) hT hS (lv_sub hl [2, 0, 3] rfl)
            · refine lv_iload_n hx hb dJ6_getChars_ba4f3_28 rfl (lv_at hl 0 rfl) ?_
              refine lv_bipush (v := 100) hx hb dJ6_getChars_ba4f3_29 (by decide) ?_
              refine xi_idivn hx hb (rfl : Int32.toInt x59 = x59.toInt) ((by decide) : Int32.toInt 100 = (100 : Int)) (by decide) dJ6_getChars_ba4f3_31 (fun x99 t100 => ?_)
              refine lv_istore_n (lv' := [(3, .int x99), (0, .int x59), (2, .ref v), (5, .int x60), (6, .int x1)]) hx hb dJ6_getChars_ba4f3_32 rfl hl (by decide) rfl (fun ls hl => ?_)
              refine lv_iload_n hx hb dJ6_getChars_ba4f3_33 rfl (lv_at hl 0 rfl) ?_
              refine lv_bipush (v := 100) hx hb dJ6_getChars_ba4f3_34 (by decide) ?_
              refine xi_imul hx hb (rfl : Int32.toInt x99 = x99.toInt) ((by decide) : Int32.toInt 100 = (100 : Int)) dJ6_getChars_ba4f3_36 (fun x101 t102 => ?_)
              refine lv_iload_n hx hb dJ6_getChars_ba4f3_37 rfl (lv_at hl 1 rfl) ?_
              refine xi_isub hx hb (rfl : Int32.toInt x101 = x101.toInt) (rfl : Int32.toInt x59 = x59.toInt) dJ6_getChars_ba4f3_38 (fun x103 t104 => ?_)
              refine lv_istore (lv' := [(4, .int x103), (3, .int x99), (0, .int x59), (2, .ref v), (5, .int x60), (6, .int x1)]) hx hb dJ6_getChars_ba4f3_39 hl (by decide) rfl (fun ls hl => ?_)
              refine lv_iload_n hx hb dJ6_getChars_ba4f3_41 rfl (lv_at hl 1 rfl) ?_
              refine lv_istore_n (lv' := [(0, .int x99), (4, .int x103), (3, .int x99), (2, .ref v), (5, .int x60), (6, .int x1)]) hx hb dJ6_getChars_ba4f3_42 rfl hl (by decide) rfl (fun ls hl => ?_)
              refine lv_aload_n hx hb dJ6_getChars_ba4f3_43 rfl (lv_at hl 3 rfl) ?_
              refine xi_iinc (n := (-1)) (lv' := fun z9 => [(5, .int z9), (0, .int x99), (4, .int x103), (3, .int x99), (2, .ref v), (6, .int x1)]) (k := 4) hx hb (rfl : Int32.toInt x60 = x60.toInt) (by decide) dJ6_getChars_ba4f3_44 hl rfl (by decide) (fun _ => rfl) (fun x105 ls t106 hl => ?_)
              have hl : lv_has ls 7 [(5, .int x105), (0, .int x99), (4, .int x103), (3, .int x99), (2, .ref v), (6, .int x1)] := hl
              refine lv_iload hx hb dJ6_getChars_ba4f3_47 (lv_at hl 0 rfl) ?_
              obtain ⟨q107, f108, hz109, hz110⟩ := hK.2.2.2.2.2.2.2.2.2
              refine va_gets hx hb hz109 hS S.2.2.2.1 (S.2.2.2.2 _ (List.mem_cons_of_mem _ kf_J6_83)) (fun _ h => h) dJ6_getChars_ba4f3_49 ?_
              refine lv_iload hx hb dJ6_getChars_ba4f3_52 (lv_at hl 2 rfl) ?_
              refine va_tb hx hb hz110 hS (vp_in_iff.mpr (z_J6_getChars_ba4f3_24 x101.toInt x103.toInt x59.toInt x99.toInt c74 t100 t102 t104 (xr x59))) rfl dJ6_getChars_ba4f3_54 (lv_topi (fun x111 _ => ?_))
              refine sb_st S hK hT hS (z_J6_getChars_ba4f3_25 p1.toInt x1.toInt x105.toInt x59.toInt x60.toInt n e1 hf62 t106 (xr x60)) dJ6_getChars_ba4f3_55 (fun H locs hT hS => ?_)
              refine lv_aload_n hx hb dJ6_getChars_ba4f3_56 rfl (lv_at hl 4 rfl) ?_
              refine xi_iinc (n := (-1)) (lv' := fun z9 => [(5, .int z9), (0, .int x99), (4, .int x103), (3, .int x99), (2, .ref v), (6, .int x1)]) (k := 0) hx hb (rfl : Int32.toInt x105 = x105.toInt) (by decide) dJ6_getChars_ba4f3_57 hl rfl (by decide) (fun _ => rfl) (fun x112 ls t113 hl => ?_)
              have hl : lv_has ls 7 [(5, .int x112), (0, .int x99), (4, .int x103), (3, .int x99), (2, .ref v), (6, .int x1)] := hl
              refine lv_iload hx hb dJ6_getChars_ba4f3_60 (lv_at hl 0 rfl) ?_
              obtain ⟨q114, f115, hz116, hz117⟩ := hK.2.2.2.2.2.2.2.2.1
              refine va_gets hx hb hz116 hS S.2.2.2.1 (S.2.2.2.2 _ (List.mem_cons_of_mem _ kf_J6_87)) (fun _ h => h) dJ6_getChars_ba4f3_62 ?_
              refine lv_iload hx hb dJ6_getChars_ba4f3_65 (lv_at hl 2 rfl) ?_
              refine va_tb hx hb hz117 hS (vp_in_iff.mpr (z_J6_getChars_ba4f3_24 x101.toInt x103.toInt x59.toInt x99.toInt c74 t100 t102 t104 (xr x59))) rfl dJ6_getChars_ba4f3_67 (lv_topi (fun x118 _ => ?_))
              refine sb_st S hK hT hS (z_J6_getChars_ba4f3_27 p1.toInt x1.toInt x105.toInt x112.toInt x59.toInt x60.toInt n e1 hf62 hf64 c74 t106 t113 (xr x60)) dJ6_getChars_ba4f3_68 (fun H locs hT hS => ?_)
              refine lv_goto (tgt := 22) hx hb dJ6_getChars_ba4f3_69 (by decide) ?_
              exact ih73 x99 x112 _ _ _ (z_J6_getChars_ba4f3_28 p1.toInt x1.toInt x105.toInt x112.toInt x59.toInt x60.toInt x99.toInt hf62 hf64 c74 t100 t106 t113 (xr x60)) (z_J6_getChars_ba4f3_29 x1.toInt x105.toInt x112.toInt x59.toInt x60.toInt x99.toInt hf65 c74 t100 t106 t113 (xr x1) (xr x60)) (z_J6_getChars_ba4f3_30 x1.toInt x105.toInt x112.toInt x59.toInt x60.toInt x99.toInt hf66 c74 t100 t106 t113 (xr x1) (xr x60)) (z_J6_getChars_ba4f3_31 x1.toInt x105.toInt x112.toInt x59.toInt x60.toInt x99.toInt hf67 c74 t100 t106 t113 (xr x1) (xr x60)) (z_J6_getChars_ba4f3_32 x1.toInt x105.toInt x112.toInt x59.toInt x60.toInt x99.toInt hf68 c74 t100 t106 t113 (xr x1) (xr x60)) (z_J6_getChars_ba4f3_33 x1.toInt x105.toInt x112.toInt x59.toInt x60.toInt x99.toInt hf69 c74 t100 t106 t113 (xr x1) (xr x60)) (z_J6_getChars_ba4f3_34 x1.toInt x105.toInt x112.toInt x59.toInt x60.toInt x99.toInt hf70 c74 t100 t106 t113 (xr x1) (xr x60)) (z_J6_getChars_ba4f3_35 x1.toInt x105.toInt x112.toInt x59.toInt x60.toInt x99.toInt hf71 c74 t100 t106 t113 (xr x1) (xr x60)) (z_J6_getChars_ba4f3_36 x1.toInt x112.toInt x59.toInt x99.toInt c74 t100 (xr x59)) (z_J6_getChars_ba4f3_37 x1.toInt x112.toInt x59.toInt x99.toInt c74 t100 (xr x59)) (z_J6_getChars_ba4f3_38 x59.toInt x99.toInt N61 hm72 c74 t100) hT hS (lv_sub hl [1, 4, 0, 5] rfl)
        exact L22 4294967297 x39 x52 _ _ _ (z_J6_getChars_ba4f3_39 p0.toInt p1.toInt x1.toInt x3.toInt x39.toInt x45.toInt x52.toInt hf2 hf6 c14 t40 t46 t53 (xr p1)) (z_J6_getChars_ba4f3_40 p1.toInt x1.toInt x3.toInt x39.toInt x45.toInt x52.toInt n e1 hf7 c14 t40 t46 t53 (xr p1)) (z_J6_getChars_ba4f3_41 p1.toInt x1.toInt x3.toInt x39.toInt x45.toInt x52.toInt n e1 hf8 c14 t40 t46 t53 (xr p1)) (z_J6_getChars_ba4f3_42 p1.toInt x1.toInt x3.toInt x39.toInt x45.toInt x52.toInt n e1 hf9 c14 t40 t46 t53 (xr p1)) (z_J6_getChars_ba4f3_43 p1.toInt x1.toInt x3.toInt x39.toInt x45.toInt x52.toInt n e1 hf10 c14 t40 t46 t53 (xr p1)) (z_J6_getChars_ba4f3_44 p1.toInt x1.toInt x3.toInt x39.toInt x45.toInt x52.toInt n e1 hf11 c14 t40 t46 t53 (xr p1)) (z_J6_getChars_ba4f3_45 p1.toInt x1.toInt x3.toInt x39.toInt x45.toInt x52.toInt n e1 hf12 c14 t40 t46 t53 (xr p1)) (z_J6_getChars_ba4f3_46 p1.toInt x1.toInt x3.toInt x39.toInt x45.toInt x52.toInt n e1 hf13 c14 t40 t46 t53 (xr p1)) (z_J6_getChars_ba4f3_47 x1.toInt x3.toInt x39.toInt x52.toInt c14 t40 (xr x3)) (z_J6_getChars_ba4f3_48 x1.toInt x3.toInt x39.toInt x52.toInt c14 t40 (xr x3)) (z_J6_getChars_ba4f3_49 x39.toInt (xr x39)) hT hS (lv_sub hl [1, 4, 0, 5] rfl)
    refine xi_zne (tgt := 22) hx hb (rfl : Int32.toInt x1 = x1.toInt) dJ6_getChars_ba4f3_16 (by decide) (fun c119 => ?_) (fun c119 => ?_)
    · exact J22 p0 _ _ _ (z_J6_getChars_ba4f3_50 p0.toInt p1.toInt x1.toInt e2 hf2 c119) (z_J6_getChars_ba4f3_51 p0.toInt p1.toInt x1.toInt pg1 hf2) (z_J6_getChars_ba4f3_52 p0.toInt p1.toInt x1.toInt pg2 hf2) (z_J6_getChars_ba4f3_53 p0.toInt p1.toInt x1.toInt pg3 hf2) (z_J6_getChars_ba4f3_54 p0.toInt p1.toInt x1.toInt pg4 hf2) (z_J6_getChars_ba4f3_55 p0.toInt p1.toInt x1.toInt pg5 hf2) (z_J6_getChars_ba4f3_56 p0.toInt p1.toInt x1.toInt pg6 hf2) (z_J6_getChars_ba4f3_57 p0.toInt p1.toInt x1.toInt pg7 hf2) (z_J6_getChars_ba4f3_58 p0.toInt p1.toInt x1.toInt pg8 hf2) (z_J6_getChars_ba4f3_59 p0.toInt p1.toInt x1.toInt pg9 hf2) hT hS (lv_sub hl [1, 2, 3, 0] rfl)
    · refine lv_iload_n hx hb dJ6_getChars_ba4f3_19 rfl (lv_at hl 1 rfl) ?_
      refine xi_ineg hx hb (rfl : Int32.toInt p0 = p0.toInt) dJ6_getChars_ba4f3_20 (fun x120 t121 => ?_)
      refine lv_istore_n (lv' := [(0, .int x120), (6, .int x1), (2, .ref v), (5, .int p1)]) hx hb dJ6_getChars_ba4f3_21 rfl hl (by decide) rfl (fun ls hl => ?_)
      exact J22 x120 _ _ _ (z_J6_getChars_ba4f3_60 p0.toInt p1.toInt x1.toInt x120.toInt n e1 hf2 c119 t121 (xr p0)) (z_J6_getChars_ba4f3_61 p0.toInt p1.toInt x1.toInt x120.toInt pg1 c119 t121) (z_J6_getChars_ba4f3_62 p0.toInt p1.toInt x1.toInt x120.toInt pg2 c119 t121) (z_J6_getChars_ba4f3_63 p0.toInt p1.toInt x1.toInt x120.toInt pg3 c119 t121) (z_J6_getChars_ba4f3_64 p0.toInt p1.toInt x1.toInt x120.toInt pg4 c119 t121) (z_J6_getChars_ba4f3_65 p0.toInt p1.toInt x1.toInt x120.toInt pg5 c119 t121) (z_J6_getChars_ba4f3_66 p0.toInt p1.toInt x1.toInt x120.toInt pg6 c119 t121) (z_J6_getChars_ba4f3_67 p0.toInt p1.toInt x1.toInt x120.toInt pg7 c119 t121) (z_J6_getChars_ba4f3_68 p0.toInt p1.toInt x1.toInt x120.toInt pg8 c119 t121) (z_J6_getChars_ba4f3_69 p0.toInt p1.toInt x1.toInt x120.toInt pg9 c119 t121) hT hS (lv_sub hl [0, 2, 3, 1] rfl)
  refine xi_zge (tgt := 11) hx hb (rfl : Int32.toInt p0 = p0.toInt) dJ6_getChars_ba4f3_4 (by decide) (fun c122 => ?_) (fun c122 => ?_)
  · refine lv_iconst (v := 0) hx hb dJ6_getChars_ba4f3_11 (by decide) ?_
    exact J12 0 _ _ _ (z_J6_getChars_ba4f3_70 p0.toInt c122) hT hS (lv_sub hl [1, 3, 0] rfl)
  · refine lv_iconst (v := 1) hx hb dJ6_getChars_ba4f3_7 (by decide) ?_
    refine lv_goto (tgt := 12) hx hb dJ6_getChars_ba4f3_8 (by decide) ?_
    exact J12 1 _ _ _ (z_J6_getChars_ba4f3_71 p0.toInt c122) hT hS (lv_sub hl [1, 3, 0] rfl)
