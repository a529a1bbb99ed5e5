theorem st_el4 : ∀ j : Nat, j < xlen.getD 4 0 → flN[bS 4 + 4 + j]? = some (Cond.eq (.elem (.field (tmS 4) "java/lang/String" "value" "[B") (.int (Int32.ofNat j))) (.int ((xbyt.getD 4 []).getD j 0))) := by decide +kernel
theorem st_el5 : ∀ j : Nat, j < xlen.getD 5 0 → flN[bS 5 + 4 + j]? = some (Cond.eq (.elem (.field (tmS 5) "java/lang/String" "value" "[B") (.int (Int32.ofNat j))) (.int ((xbyt.getD 5 []).getD j 0))) := by decide +kernel
theorem st_el6 : ∀ j : Nat, j < xlen.getD 6 0 → flN[bS 6 + 4 + j]? = some (Cond.eq (.elem (.field (tmS 6) "java/lang/String" "value" "[B") (.int (Int32.ofNat j))) (.int ((xbyt.getD 6 []).getD j 0))) := by decide +kernel
theorem st_el7 : ∀ j : Nat, j < xlen.getD 7 0 → flN[bS 7 + 4 + j]? = some (Cond.eq (.elem (.field (tmS 7) "java/lang/String" "value" "[B") (.int (Int32.ofNat j))) (.int ((xbyt.getD 7 []).getD j 0))) := by decide +kernel
theorem st_el8 : ∀ j : Nat, j < xlen.getD 8 0 → flN[bS 8 + 4 + j]? = some (Cond.eq (.elem (.field (tmS 8) "java/lang/String" "value" "[B") (.int (Int32.ofNat j))) (.int ((xbyt.getD 8 []).getD j 0))) := by decide +kernel
theorem st_el9 : ∀ j : Nat, j < xlen.getD 9 0 → flN[bS 9 + 4 + j]? = some (Cond.eq (.elem (.field (tmS 9) "java/lang/String" "value" "[B") (.int (Int32.ofNat j))) (.int ((xbyt.getD 9 []).getD j 0))) := by decide +kernel
theorem st_el10 : ∀ j : Nat, j < xlen.getD 10 0 → flN[bS 10 + 4 + j]? = some (Cond.eq (.elem (.field (tmS 10) "java/lang/String" "value" "[B") (.int (Int32.ofNat j))) (.int ((xbyt.getD 10 []).getD j 0))) := by decide +kernel
theorem st_el11 : ∀ j : Nat, j < xlen.getD 11 0 → flN[bS 11 + 4 + j]? = some (Cond.eq (.elem (.field (tmS 11) "java/lang/String" "value" "[B") (.int (Int32.ofNat j))) (.int ((xbyt.getD 11 []).getD j 0))) := by decide +kernel
theorem st_el12 : ∀ j : Nat, j < xlen.getD 12 0 → flN[bS 12 + 4 + j]? = some (Cond.eq (.elem (.field (tmS 12) "java/lang/String" "value" "[B") (.int (Int32.ofNat j))) (.int ((xbyt.getD 12 []).getD j 0))) := by decide +kernel
theorem st_el : ∀ i : Nat, i < 13 → ∀ j : Nat, j < xlen.getD i 0 → flN[bS i + 4 + j]? = some (Cond.eq (.elem (.field (tmS i) "java/lang/String" "value" "[B") (.int (Int32.ofNat j))) (.int ((xbyt.getD i []).getD j 0))) := by
  intro i hi
  match i, hi with
  | 0, _ => exact st_el0
  | 1, _ => exact st_el1
  | 2, _ => exact st_el2
  | 3, _ => exact st_el3
  | 4, _ => exact st_el4
  | 5, _ => exact st_el5
  | 6, _ => exact st_el6
  | 7, _ => exact st_el7
  | 8, _ => exact st_el8
  | 9, _ => exact st_el9
  | 10, _ => exact st_el10
  | 11, _ => exact st_el11
  | 12, _ => exact st_el12
  | i + 13, hi => exact absurd hi (by omega)
theorem st_ne0 : ∀ j : Nat, j < 13 → 0 ≠ j → flN[([0, 280, 290, 299, 311, 323, 339, 354, 369, 385, 403, 438, 482] : List Nat).getD j 0]? = some (Cond.not (Cond.eq (tmS 0) (tmS j))) ∨ flN[([0, 280, 290, 299, 311, 323, 339, 354, 369, 385, 403, 438, 482] : List Nat).getD j 0]? = some (Cond.not (Cond.eq (tmS j) (tmS 0))) := by decide +kernel
theorem st_ne1 : ∀ j : Nat, j < 13 → 1 ≠ j → flN[([280, 0, 291, 300, 312, 324, 340, 355, 370, 386, 404, 439, 483] : List Nat).getD j 0]? = some (Cond.not (Cond.eq (tmS 1) (tmS j))) ∨ flN[([280, 0, 291, 300, 312, 324, 340, 355, 370, 386, 404, 439, 483] : List Nat).getD j 0]? = some (Cond.not (Cond.eq (tmS j) (tmS 1))) := by decide +kernel
theorem st_ne2 : ∀ j : Nat, j < 13 → 2 ≠ j → flN[([290, 291, 0, 301, 313, 325, 341, 356, 371, 387, 405, 440, 484] : List Nat).getD j 0]? = some (Cond.not (Cond.eq (tmS 2) (tmS j))) ∨ flN[([290, 291, 0, 301, 313, 325, 341, 356, 371, 387, 405, 440, 484] : List Nat).getD j 0]? = some (Cond.not (Cond.eq (tmS j) (tmS 2))) := by decide +kernel
