/-! WHOLE: what the start gives, classes (by p99e.py) -/
theorem kn_of {args : Array Value} {s : State} {own : String} {idx ci : Nat} {fs0 : List Value} (hts : ∀ w ∈ lw_tbl, w.before args s = true) (h : GN own idx ci fs0) : ∃ p : ClassId × (Nat → Nat), ∀ q, kcls[ci]? = some q → u_Kn s q.1 q.2.1 q.2.2 p.1 p.2 := by
  obtain ⟨C, T, N, ty0, hk, hws, _, _, hi, _⟩ := h
  obtain ⟨cC, iS, hu⟩ := u_known hts (fun w hw => tb_of (hws w hw)) (hts _ (tb_of hi))
  exact ⟨(cC, iS), fun q hq => by rw [hk] at hq; cases hq; exact hu⟩
theorem ie_a : Cond.instantiable iaE 6 ∈ lw_tbl := by decide +kernel
theorem ie_s : Cond.instantiable isE 6 ∈ lw_tbl := by decide +kernel
theorem cls_kn {args : Array Value} {s : State} (hts : ∀ w ∈ lw_tbl, w.before args s = true) : ∀ c : Nat, ∃ p : ClassId × (Nat → Nat), ∀ q, kcls[c]? = some q → u_Kn s q.1 q.2.1 q.2.2 p.1 p.2 := by
  intro c
  by_cases hc : c < 13
  · rcases (show c = 0 ∨ c = 1 ∨ c = 2 ∨ c = 3 ∨ c = 4 ∨ c = 5 ∨ c = 6 ∨ c = 7 ∨ c = 8 ∨ c = 9 ∨ c = 10 ∨ c = 11 ∨ c = 12 by omega) with z | z | z | z | z | z | z | z | z | z | z | z | z <;> subst z
    · exact kn_of hts lnX8_28
    · exact kn_of hts lnX8_19
    · exact kn_of hts lnX0_46
    · exact kn_of hts lnX1_24
    · exact kn_of hts lnX8_44
    · exact kn_of hts lnX0_51
    · exact kn_of hts lnX8_37
    · exact kn_of hts lnX1_18
    · exact kn_of hts lnL_8
    · exact kn_of hts lnL_26
    · exact kn_of hts lnX0_9
    · obtain ⟨cC, iS, hu⟩ := u_known (T := fw_TE) (N := 0) hts (fun w hw => absurd hw (by simp [u_ws])) (hts _ ie_a)
      exact ⟨(cC, iS), fun q hq => by cases hq; exact hu⟩
    · obtain ⟨cC, iS, hu⟩ := u_known (T := fw_TE) (N := 0) hts (fun w hw => absurd hw (by simp [u_ws])) (hts _ ie_s)
      exact ⟨(cC, iS), fun q hq => by cases hq; exact hu⟩
  · exact ⟨(0, fun _ => 0), fun q hq => absurd (List.getElem?_eq_some_iff.mp hq).1 (by show ¬ c < 13; omega)⟩
abbrev tyT : List FieldType := [.int, .byte, .short, .long, .object "java/lang/Object", .object RX7, .object RX3, .object RX4]
theorem ao_in : ∀ C ∈ aoC, Cond.arrayOver (.object C) ∈ lw_tbl := by decide +kernel
theorem ca_in : ∀ C ∈ caC, Cond.castable C "java/lang/Object" ∈ lw_tbl := by decide +kernel
theorem ne_in : ∀ w ∈ nestW, w ∈ lw_tbl := by decide +kernel
theorem ne_on : ∀ w ∈ nestW, w.onTables = true := by decide +kernel
theorem ty_kn {args : Array Value} {s : State} (hts : ∀ w ∈ lw_tbl, w.before args s = true) : ∀ t : Nat, ∃ cA : ClassId, ∀ ty, tyT[t]? = some ty → ArrOfT s cA ty ∧ va_RA s cA ty := by
  intro t
  by_cases hc : t < 8
  · rcases (show t = 0 ∨ t = 1 ∨ t = 2 ∨ t = 3 ∨ t = 4 ∨ t = 5 ∨ t = 6 ∨ t = 7 by omega) with z | z | z | z | z | z | z | z <;> subst z
    · obtain ⟨cA, h⟩ := arr_p (hts _ (tb_of la_int)) (fun cA h => h)
      exact ⟨cA, fun ty hq => by cases hq; exact h⟩
    · obtain ⟨cA, h⟩ := arr_p (hts _ (tb_of la_byte)) (fun cA h => h)
      exact ⟨cA, fun ty hq => by cases hq; exact h⟩
    · obtain ⟨cA, h⟩ := arr_p (hts _ (tb_of la_short)) (fun cA h => h)
      exact ⟨cA, fun ty hq => by cases hq; exact h⟩
    · obtain ⟨cA, h⟩ := arr_p (hts _ (tb_of la_long)) (fun cA h => h)
      exact ⟨cA, fun ty hq => by cases hq; exact h⟩
    · obtain ⟨cA, h⟩ := arr_o (hts _ (ao_in "java/lang/Object" (by decide)))
      exact ⟨cA, fun ty hq => by cases hq; exact h⟩
    · obtain ⟨cA, h⟩ := arr_o (hts _ (ao_in RX7 (by decide)))
      exact ⟨cA, fun ty hq => by cases hq; exact h⟩
    · obtain ⟨cA, h⟩ := arr_o (hts _ (ao_in RX3 (by decide)))
      exact ⟨cA, fun ty hq => by cases hq; exact h⟩
    · obtain ⟨cA, h⟩ := arr_o (hts _ (ao_in RX4 (by decide)))
      exact ⟨cA, fun ty hq => by cases hq; exact h⟩
  · exact ⟨0, fun ty hq => absurd (List.getElem?_eq_some_iff.mp hq).1 (by show ¬ t < 8; omega)⟩
theorem k_va {args : Array Value} {s : State} {g : Gw} (hD : ∀ (c : Nat) (q : vw_C), kcls[c]? = some q → u_Kn s q.1 q.2.1 q.2.2 ((gD g).1 c) ((gD g).2 c)) (hA : ∀ (t : Nat) (ty : FieldType), tyT[t]? = some ty → ArrOfT s (gA g t) ty ∧ va_RA s (gA g t) ty) : va_K (gD g) kcls (tyl g) s := by
  refine ⟨hD, fun k q hq => ?_⟩
  have hk : k < 8 := (List.getElem?_eq_some_iff.mp hq).1
  rcases (show k = 0 ∨ k = 1 ∨ k = 2 ∨ k = 3 ∨ k = 4 ∨ k = 5 ∨ k = 6 ∨ k = 7 by omega) with z | z | z | z | z | z | z | z <;> (subst z; cases hq; exact hA _ _ rfl)
