/-! ===== the words ===== -/
def GT : List Cond := lw_tbl.filter goodWord
theorem GT_mem {w : Cond} (i : Nat) (h : lw_tbl[i]? = some w) (hg : goodWord w = true) : w ∈ GT := List.mem_filter.mpr ⟨List.mem_of_getElem? h, hg⟩
abbrev xw (y : MethodName) (b : ByteArray) (n : Nat) (r : Option FieldType) : List Cond := Cond.code y b n r :: GT
theorem GT_good {w : Cond} (h : w ∈ GT) : (w.onTables && w.keeps) = true ∨ ∃ ty, w = .arrayClass ty := good_of_word (List.mem_filter.mp h).2
theorem xw_in {c : Cond} {y : MethodName} {b : ByteArray} {n : Nat} {r : Option FieldType} (h : Cond.code y b n r ∈ GT) : GoodIn (c :: GT) (xw y b n r) := by
  intro w hw
  rcases List.mem_cons.mp hw with e | e
  · subst e; exact ⟨List.mem_cons_of_mem _ h, GT_good h⟩
  · exact ⟨List.mem_cons_of_mem _ e, GT_good e⟩
/-- what a caller needs of a method: its words, how many parameters -/
def xcV (y : MethodName) (C : String) (bytes : ByteArray) (maxL : Nat) (ret : Option FieldType) (n : Nat) : Prop := (Cond.code y bytes maxL ret ∈ GT ∧ Cond.instanceMethod y ∈ GT ∧ Cond.selects C y y ∈ GT ∧ Cond.initialized y.cls ∈ GT) ∧ y.cls ≠ "java/lang/invoke/MethodHandle" ∧ y.cls ≠ "java/lang/invoke/VarHandle" ∧ (parseMethodDescriptor y.desc).map (fun d => d.parameters.length) = some n
def xcS (y : MethodName) (bytes : ByteArray) (maxL : Nat) (ret : Option FieldType) (n : Nat) : Prop := (Cond.code y bytes maxL ret ∈ GT ∧ Cond.static y ∈ GT ∧ Cond.initialized y.cls ∈ GT) ∧ y.cls ≠ "java/lang/invoke/MethodHandle" ∧ y.cls ≠ "java/lang/invoke/VarHandle" ∧ (parseMethodDescriptor y.desc).map (fun d => d.parameters.length) = some n
