/-! ===== how many of a list are of a rule ===== -/
noncomputable def cnQ (l : List Qt) (v : Int) : Int := ((l.countP (fun x => decide (x.1 = v)) : Nat) : Int)
noncomputable def cnP (l : List (Int × Int)) (v : Int) : Int := ((l.countP (fun x => decide (x.1 = v)) : Nat) : Int)
theorem hvR_cnt {α : Type} (g : Nat → α) (p : α → Bool) (f : Nat → Int32) (v : Int) : ∀ n : Nat, (∀ i, i < n → (p (g i) = true ↔ (f i).toInt = v)) → hvR (aI f) 0 v n = (((lst g n).countP p : Nat) : Int)
  | 0, _ => rfl
  | n + 1, h => by
    have ih := hvR_cnt g p f v n (fun i hi => h i (by omega))
    have hn := h n (by omega)
    have e : aI f (0 + (n : Int)) = (f n).toInt := by
      unfold aI
      rw [show (0 + (n : Int)).toNat = n by omega]
    show hvR (aI f) 0 v n + (if aI f (0 + (n : Int)) = v then 1 else 0) = _
    rw [e, ih, lst_s, List.countP_append, List.countP_cons, List.countP_nil]
    by_cases c : (f n).toInt = v
    · rw [if_pos c, if_pos (hn.mpr c)]; omega
    · rw [if_neg c, if_neg (fun q => c (hn.mp q))]; omega
theorem hv_qL (G : XG) (F : Nat → Nat → Nat) (a : Nat) (v : Int) : hv (aI (G.2.1 (F a 0))) 0 v ((G.1 a 6).toInt) = cnQ (qL G F a) v := by
  rw [hv_eq]
  exact hvR_cnt _ _ _ v _ (fun i _ => by
    show decide ((G.2.1 (F a 0) i).toInt = v) = true ↔ _
    exact decide_eq_true_iff)
theorem hv_pL (G : XG) (F : Nat → Nat → Nat) (a : Nat) (v : Int) : hv (aI (G.2.1 (F a 17))) 0 v ((G.1 a 19).toInt) = cnP (pL G F a) v := by
  rw [hv_eq]
  exact hvR_cnt _ _ _ v _ (fun i _ => by
    show decide ((G.2.1 (F a 17) i).toInt = v) = true ↔ _
    exact decide_eq_true_iff)
