theorem st_ne3 : ∀ j : Nat, j < 13 → 3 ≠ j → flN[([299, 300, 301, 0, 314, 326, 342, 357, 372, 388, 406, 441, 485] : List Nat).getD j 0]? = some (Cond.not (Cond.eq (tmS 3) (tmS j))) ∨ flN[([299, 300, 301, 0, 314, 326, 342, 357, 372, 388, 406, 441, 485] : List Nat).getD j 0]? = some (Cond.not (Cond.eq (tmS j) (tmS 3))) := by decide +kernel
theorem st_ne4 : ∀ j : Nat, j < 13 → 4 ≠ j → flN[([311, 312, 313, 314, 0, 327, 343, 358, 373, 389, 407, 442, 486] : List Nat).getD j 0]? = some (Cond.not (Cond.eq (tmS 4) (tmS j))) ∨ flN[([311, 312, 313, 314, 0, 327, 343, 358, 373, 389, 407, 442, 486] : List Nat).getD j 0]? = some (Cond.not (Cond.eq (tmS j) (tmS 4))) := by decide +kernel
theorem st_ne5 : ∀ j : Nat, j < 13 → 5 ≠ j → flN[([323, 324, 325, 326, 327, 0, 344, 359, 374, 390, 408, 443, 487] : List Nat).getD j 0]? = some (Cond.not (Cond.eq (tmS 5) (tmS j))) ∨ flN[([323, 324, 325, 326, 327, 0, 344, 359, 374, 390, 408, 443, 487] : List Nat).getD j 0]? = some (Cond.not (Cond.eq (tmS j) (tmS 5))) := by decide +kernel
theorem st_ne6 : ∀ j : Nat, j < 13 → 6 ≠ j → flN[([339, 340, 341, 342, 343, 344, 0, 360, 375, 391, 409, 444, 488] : List Nat).getD j 0]? = some (Cond.not (Cond.eq (tmS 6) (tmS j))) ∨ flN[([339, 340, 341, 342, 343, 344, 0, 360, 375, 391, 409, 444, 488] : List Nat).getD j 0]? = some (Cond.not (Cond.eq (tmS j) (tmS 6))) := by decide +kernel
theorem st_ne7 : ∀ j : Nat, j < 13 → 7 ≠ j → flN[([354, 355, 356, 357, 358, 359, 360, 0, 376, 392, 410, 445, 489] : List Nat).getD j 0]? = some (Cond.not (Cond.eq (tmS 7) (tmS j))) ∨ flN[([354, 355, 356, 357, 358, 359, 360, 0, 376, 392, 410, 445, 489] : List Nat).getD j 0]? = some (Cond.not (Cond.eq (tmS j) (tmS 7))) := by decide +kernel
theorem st_ne8 : ∀ j : Nat, j < 13 → 8 ≠ j → flN[([369, 370, 371, 372, 373, 374, 375, 376, 0, 393, 411, 446, 490] : List Nat).getD j 0]? = some (Cond.not (Cond.eq (tmS 8) (tmS j))) ∨ flN[([369, 370, 371, 372, 373, 374, 375, 376, 0, 393, 411, 446, 490] : List Nat).getD j 0]? = some (Cond.not (Cond.eq (tmS j) (tmS 8))) := by decide +kernel
theorem st_ne9 : ∀ j : Nat, j < 13 → 9 ≠ j → flN[([385, 386, 387, 388, 389, 390, 391, 392, 393, 0, 412, 447, 491] : List Nat).getD j 0]? = some (Cond.not (Cond.eq (tmS 9) (tmS j))) ∨ flN[([385, 386, 387, 388, 389, 390, 391, 392, 393, 0, 412, 447, 491] : List Nat).getD j 0]? = some (Cond.not (Cond.eq (tmS j) (tmS 9))) := by decide +kernel
theorem st_ne10 : ∀ j : Nat, j < 13 → 10 ≠ j → flN[([403, 404, 405, 406, 407, 408, 409, 410, 411, 412, 0, 448, 492] : List Nat).getD j 0]? = some (Cond.not (Cond.eq (tmS 10) (tmS j))) ∨ flN[([403, 404, 405, 406, 407, 408, 409, 410, 411, 412, 0, 448, 492] : List Nat).getD j 0]? = some (Cond.not (Cond.eq (tmS j) (tmS 10))) := by decide +kernel
theorem st_ne11 : ∀ j : Nat, j < 13 → 11 ≠ j → flN[([438, 439, 440, 441, 442, 443, 444, 445, 446, 447, 448, 0, 493] : List Nat).getD j 0]? = some (Cond.not (Cond.eq (tmS 11) (tmS j))) ∨ flN[([438, 439, 440, 441, 442, 443, 444, 445, 446, 447, 448, 0, 493] : List Nat).getD j 0]? = some (Cond.not (Cond.eq (tmS j) (tmS 11))) := by decide +kernel
theorem st_ne12 : ∀ j : Nat, j < 13 → 12 ≠ j → flN[([482, 483, 484, 485, 486, 487, 488, 489, 490, 491, 492, 493, 0] : List Nat).getD j 0]? = some (Cond.not (Cond.eq (tmS 12) (tmS j))) ∨ flN[([482, 483, 484, 485, 486, 487, 488, 489, 490, 491, 492, 493, 0] : List Nat).getD j 0]? = some (Cond.not (Cond.eq (tmS j) (tmS 12))) := by decide +kernel
theorem st_ne : ∀ i : Nat, i < 13 → ∀ j : Nat, j < 13 → i ≠ j → Cond.not (Cond.eq (tmS i) (tmS j)) ∈ flN ∨ Cond.not (Cond.eq (tmS j) (tmS i)) ∈ flN := by
  intro i hi j hj hn
  match i, hi with
  | 0, _ => exact (st_ne0 j hj hn).elim (fun h => Or.inl (List.mem_of_getElem? h)) (fun h => Or.inr (List.mem_of_getElem? h))
  | 1, _ => exact (st_ne1 j hj hn).elim (fun h => Or.inl (List.mem_of_getElem? h)) (fun h => Or.inr (List.mem_of_getElem? h))
  | 2, _ => exact (st_ne2 j hj hn).elim (fun h => Or.inl (List.mem_of_getElem? h)) (fun h => Or.inr (List.mem_of_getElem? h))
  | 3, _ => exact (st_ne3 j hj hn).elim (fun h => Or.inl (List.mem_of_getElem? h)) (fun h => Or.inr (List.mem_of_getElem? h))
  | 4, _ => exact (st_ne4 j hj hn).elim (fun h => Or.inl (List.mem_of_getElem? h)) (fun h => Or.inr (List.mem_of_getElem? h))
  | 5, _ => exact (st_ne5 j hj hn).elim (fun h => Or.inl (List.mem_of_getElem? h)) (fun h => Or.inr (List.mem_of_getElem? h))
  | 6, _ => exact (st_ne6 j hj hn).elim (fun h => Or.inl (List.mem_of_getElem? h)) (fun h => Or.inr (List.mem_of_getElem? h))
  | 7, _ => exact (st_ne7 j hj hn).elim (fun h => Or.inl (List.mem_of_getElem? h)) (fun h => Or.inr (List.mem_of_getElem? h))
  | 8, _ => exact (st_ne8 j hj hn).elim (fun h => Or.inl (List.mem_of_getElem? h)) (fun h => Or.inr (List.mem_of_getElem? h))
  | 9, _ => exact (st_ne9 j hj hn).elim (fun h => Or.inl (List.mem_of_getElem? h)) (fun h => Or.inr (List.mem_of_getElem? h))
  | 10, _ => exact (st_ne10 j hj hn).elim (fun h => Or.inl (List.mem_of_getElem? h)) (fun h => Or.inr (List.mem_of_getElem? h))
  | 11, _ => exact (st_ne11 j hj hn).elim (fun h => Or.inl (List.mem_of_getElem? h)) (fun h => Or.inr (List.mem_of_getElem? h))
  | 12, _ => exact (st_ne12 j hj hn).elim (fun h => Or.inl (List.mem_of_getElem? h)) (fun h => Or.inr (List.mem_of_getElem? h))
  | i + 13, hi => exact absurd hi (by omega)
theorem st_d1 : ∀ j : Nat, j < 100 → flN[12 + j]? = some (Cond.eq (.elem (.static "java/lang/Integer" "DigitOnes" "[B") (.int (Int32.ofNat j))) (.int (Int32.ofNat (48 + j % 10)))) := by decide +kernel
theorem st_d2 : ∀ j : Nat, j < 100 → flN[115 + j]? = some (Cond.eq (.elem (.static "java/lang/Integer" "DigitTens" "[B") (.int (Int32.ofNat j))) (.int (Int32.ofNat (48 + j / 10)))) := by decide +kernel
