/-! ===== the start ===== -/
def flN : List Cond := flatC (Jvm.Cond.and given_1 narrow_1)
def tmS (i : Nat) : Term := match xsl[i]? with
  | some q => .string q.1 q.2.1
  | none => .string "" 0
theorem st_n : ∀ i : Nat, i < 13 → xlen.getD i 0 < 2 ^ 31 := by decide
def bS (i : Nat) : Nat := ([260, 270, 281, 292, 302, 315, 328, 345, 361, 377, 394, 413, 449] : List Nat).getD i 0
theorem st_ex : ∀ i : Nat, i < 13 → flN[bS i]? = some (Cond.exactly (tmS i) "java/lang/String") := by decide +kernel
theorem st_co : ∀ i : Nat, i < 13 → flN[bS i + 1]? = some (Cond.eq (.field (tmS i) "java/lang/String" "coder" "B") (.int 0)) := by decide +kernel
theorem st_ar : ∀ i : Nat, i < 13 → flN[bS i + 2]? = some (Cond.arrayOf (.field (tmS i) "java/lang/String" "value" "[B") .byte) := by decide +kernel
theorem st_le : ∀ i : Nat, i < 13 → flN[bS i + 3]? = some (Cond.eq (.length (.field (tmS i) "java/lang/String" "value" "[B")) (.int (Int32.ofNat (xlen.getD i 0)))) := by decide +kernel
theorem st_el0 : ∀ j : Nat, j < xlen.getD 0 0 → flN[bS 0 + 4 + j]? = some (Cond.eq (.elem (.field (tmS 0) "java/lang/String" "value" "[B") (.int (Int32.ofNat j))) (.int ((xbyt.getD 0 []).getD j 0))) := by decide +kernel
theorem st_el1 : ∀ j : Nat, j < xlen.getD 1 0 → flN[bS 1 + 4 + j]? = some (Cond.eq (.elem (.field (tmS 1) "java/lang/String" "value" "[B") (.int (Int32.ofNat j))) (.int ((xbyt.getD 1 []).getD j 0))) := by decide +kernel
theorem st_el2 : ∀ j : Nat, j < xlen.getD 2 0 → flN[bS 2 + 4 + j]? = some (Cond.eq (.elem (.field (tmS 2) "java/lang/String" "value" "[B") (.int (Int32.ofNat j))) (.int ((xbyt.getD 2 []).getD j 0))) := by decide +kernel
theorem st_el3 : ∀ j : Nat, j < xlen.getD 3 0 → flN[bS 3 + 4 + j]? = some (Cond.eq (.elem (.field (tmS 3) "java/lang/String" "value" "[B") (.int (Int32.ofNat j))) (.int ((xbyt.getD 3 []).getD j 0))) := by decide +kernel
