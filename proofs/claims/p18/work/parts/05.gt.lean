/-! ===== the words ===== -/
/-- the builder's private methods are selected too -/
def sbp : List MethodName := [yJ5_appendNull_278bc, yJ5_ensureCapacityInternal_d00df, yJ5_inflateIfNeededFor_a7421, yJ5_inflate_da8c8, yJ5_newCapacity_0f7a4, yJ5_putStringAt_47b60]
def sbSels : List Cond := sbp.map fun y => Cond.selects RJ4 y y
def GT : List Cond := (lw_tbl ++ sbSels).filter goodWord
theorem GT_mem {w : Cond} (i : Nat) (h : lw_tbl[i]? = some w) (hg : goodWord w = true) : w ∈ GT := List.mem_filter.mpr ⟨List.mem_append_left _ (List.mem_of_getElem? h), hg⟩
theorem GT_m1 {w : Cond} (i : Nat) (h : tables_1_1[i]? = some w) (hg : goodWord w = true) : w ∈ GT := List.mem_filter.mpr ⟨List.mem_append_left _ (List.mem_append_right _ (tb_m1 (List.mem_of_getElem? h))), hg⟩
theorem GT_m2 {w : Cond} (i : Nat) (h : tables_1_2[i]? = some w) (hg : goodWord w = true) : w ∈ GT := List.mem_filter.mpr ⟨List.mem_append_left _ (List.mem_append_right _ (tb_m2 (List.mem_of_getElem? h))), hg⟩
theorem GT_m3 {w : Cond} (i : Nat) (h : tables_1_3[i]? = some w) (hg : goodWord w = true) : w ∈ GT := List.mem_filter.mpr ⟨List.mem_append_left _ (List.mem_append_right _ (tb_m3 (List.mem_of_getElem? h))), hg⟩
theorem GT_m4 {w : Cond} (i : Nat) (h : tables_1_4[i]? = some w) (hg : goodWord w = true) : w ∈ GT := List.mem_filter.mpr ⟨List.mem_append_left _ (List.mem_append_right _ (tb_m4 (List.mem_of_getElem? h))), hg⟩
theorem GT_m5 {w : Cond} (i : Nat) (h : tables_1_5[i]? = some w) (hg : goodWord w = true) : w ∈ GT := List.mem_filter.mpr ⟨List.mem_append_left _ (List.mem_append_right _ (tb_m5 (List.mem_of_getElem? h))), hg⟩
theorem GT_m6 {w : Cond} (i : Nat) (h : tables_1_6[i]? = some w) (hg : goodWord w = true) : w ∈ GT := List.mem_filter.mpr ⟨List.mem_append_left _ (List.mem_append_right _ (tb_m6 (List.mem_of_getElem? h))), hg⟩
theorem GT_m7 {w : Cond} (i : Nat) (h : tables_1_7[i]? = some w) (hg : goodWord w = true) : w ∈ GT := List.mem_filter.mpr ⟨List.mem_append_left _ (List.mem_append_right _ (tb_m7 (List.mem_of_getElem? h))), hg⟩
theorem GT_m8 {w : Cond} (i : Nat) (h : tables_1_8[i]? = some w) (hg : goodWord w = true) : w ∈ GT := List.mem_filter.mpr ⟨List.mem_append_left _ (List.mem_append_right _ (tb_m8 (List.mem_of_getElem? h))), hg⟩
theorem GT_sb {y : MethodName} (h : y ∈ sbp) : Cond.selects RJ4 y y ∈ GT := List.mem_filter.mpr ⟨List.mem_append_right _ (List.mem_map.mpr ⟨y, h, rfl⟩), rfl⟩
abbrev xw (y : MethodName) (b : ByteArray) (n : Nat) (r : Option FieldType) : List Cond := Cond.code y b n r :: GT
theorem GT_good {w : Cond} (h : w ∈ GT) : (w.onTables && w.keeps) = true ∨ ∃ ty, w = .arrayClass ty := good_of_word (List.mem_filter.mp h).2
theorem xw_in {c : Cond} {y : MethodName} {b : ByteArray} {n : Nat} {r : Option FieldType} (h : Cond.code y b n r ∈ GT) : GoodIn (c :: GT) (xw y b n r) := by
  intro w hw
  rcases List.mem_cons.mp hw with e | e
  · subst e; exact ⟨List.mem_cons_of_mem _ h, GT_good h⟩
  · exact ⟨List.mem_cons_of_mem _ e, GT_good e⟩
/-- what a caller needs of a method: its words, how many parameters -/
def xcV (y : MethodName) (C : String) (bytes : ByteArray) (maxL : Nat) (ret : Option FieldType) (n : Nat) : Prop := (Cond.code y bytes maxL ret ∈ GT ∧ Cond.instanceMethod y ∈ GT ∧ Cond.selects C y y ∈ GT ∧ Cond.initialized y.cls ∈ GT) ∧ y.cls ≠ "java/lang/invoke/MethodHandle" ∧ y.cls ≠ "java/lang/invoke/VarHandle" ∧ (parseMethodDescriptor y.desc).map (fun d => d.parameters.length) = some n
def xcS (y : MethodName) (bytes : ByteArray) (maxL : Nat) (ret : Option FieldType) (n : Nat) : Prop := (Cond.code y bytes maxL ret ∈ GT ∧ Cond.static y ∈ GT ∧ Cond.initialized y.cls ∈ GT) ∧ y.cls ≠ "java/lang/invoke/MethodHandle" ∧ y.cls ≠ "java/lang/invoke/VarHandle" ∧ (parseMethodDescriptor y.desc).map (fun d => d.parameters.length) = some n
