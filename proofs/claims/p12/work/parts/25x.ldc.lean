section XLD
variable {p : Program} {l : Launch} {e : Env} {R : Room} {s : State} {m : MethodId} {args : Array Value} {below : List Frame} {meth : Method} {c : Code} {H : Heap} {locs : List Loc} {cells slots : Nat} {Q : State → Prop}
variable {pc : Nat} {ls : Array Slot} {rest : List Value} {H0 : Heap} {E : XE} {cc : ByteArray} {nL : Nat} {own : String} {w0 : Cond} {K : Nat → Nat} {F : Nat → Nat → Nat} {G : XG} {a idx : Nat} {X Y : Int}
theorem x_ldcSw (hx : p.tables.exec = Jvm.exec) (hb : c.code = cc) {tx : String} {q : Nat} (hown : s.vm.findClass own = some m.cls) (hZ : vk_R own idx tx q s) (hdg : decode cc pc = .ok (.ldc_w idx, 3)) (k : W p l e R s m args below meth c H locs cells slots Q (F0 m (pc + 3) ls (.ref q :: rest))) : W p l e R s m args below meth c H locs cells slots Q (F0 m pc ls rest) := by
  intro T hT X
  obtain ⟨t, a1, b1⟩ := k T hT X
  exact ⟨t, X.ldcStringW hx hown (text := tx) (a := q) hZ.1 hZ.2 (g := F0 m pc ls rest) rfl (by rw [hb]; exact hdg) t a1, b1⟩
end XLD
