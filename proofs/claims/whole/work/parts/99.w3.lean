/-! WHOLE: what the start gives, the heap (by p99f.py) -/
abbrev dfT : Term := .static "java/util/ArrayList" "DEFAULTCAPACITY_EMPTY_ELEMENTDATA" "[Ljava/lang/Object;"
theorem i1 : Cond.laysStatic "java/util/ArrayList" "DEFAULTCAPACITY_EMPTY_ELEMENTDATA" "[Ljava/lang/Object;" ∈ lw_tbl := by decide +kernel
theorem i2 : Cond.initialized "java/util/ArrayList" ∈ lw_tbl := by decide +kernel
theorem i3 : Cond.laysStatic Bundle.tN "UNASSIGNED_STACK" Bundle.steD ∈ lw_tbl := by decide +kernel
theorem i4 : Cond.laysStatic Bundle.tN "SUPPRESSED_SENTINEL" Bundle.listD ∈ lw_tbl := by decide +kernel
theorem i5 : Cond.initialized Bundle.tN ∈ lw_tbl := by decide +kernel
theorem i6 : ∀ q ∈ strW, Cond.stringRef q.1 q.2.1 q.2.2 ∈ lw_tbl := by decide +kernel
theorem i7 : ∀ w ∈ cdW, w ∈ lw_tbl := by decide +kernel
theorem sw_0 {s : State} {args : Array Value} (hts : ∀ w ∈ lw_tbl, w.before args s = true) (hg : (Jvm.Cond.and given_1 narrow_1).before args s = true) : ∃ e : Nat, e < s.heap.size ∧ ∀ A : Nat → Prop, (∀ a : Nat, a < s.heap.size → ¬ A a) → va_Z "java/util/ArrayList" "DEFAULTCAPACITY_EMPTY_ELEMENTDATA" "[Ljava/lang/Object;" (.ref e) A s s.heap ∧ va_T (.object "java/lang/Object") e 0 (fun _ => .null) A s s.heap := by
  have hs := flat_of_before _ hg
  have h1 : (Cond.arrayOf dfT (.object "java/lang/Object")).before args s = true := hs _ (by decide +kernel)
  have h2 : (Cond.eq (.length dfT) (.int 0)).before args s = true := hs _ (by decide +kernel)
  have h3 : (Term.length dfT).eval args s none [] s = some (.int (Int32.ofNat 0)) := Cond.eq_int h2 rfl
  obtain ⟨e, he, hT0⟩ := va_Tof (N := 0) (f := fun _ => .null) (A := fun _ => False) (by decide) h1 h3 (fun j hj => absurd hj (by omega)) (fun _ _ z => z)
  have hlt : e < s.heap.size := by
    obtain ⟨cell, c1, _⟩ := hT0
    exact (Array.getElem?_eq_some_iff.mp c1).1
  refine ⟨e, hlt, fun A hA => ⟨va_Zof (hts _ i1) (hts _ i2) he hA, ?_⟩⟩
  obtain ⟨cell, c1, c2, c3, c4, c5, c6, _⟩ := hT0
  exact ⟨cell, c1, c2, c3, c4, c5, c6, hA e hlt⟩
theorem kx_0 {s : State} {b0 : Nat} (hts : ∀ w ∈ lw_tbl, w.before #[Value.ref b0] s = true) (hg : (Jvm.Cond.and given_1 narrow_1).before #[Value.ref b0] s = true) : ∃ mi : Nat, ∀ g : Gw, gM g = mi → KX g s := by
  have hs := flat_of_before _ hg
  obtain ⟨mi, hmi⟩ := va_Mi.of (s := s) (hs (.isRef (.mirror "[Ljava/lang/Object;")) (by decide +kernel))
  refine ⟨mi, fun g hgm => ⟨by rw [hgm]; exact hmi, fun q hq => ?_, fun w hw => va_Nw.of (cdW_ok w hw).2 (hts w (i7 w hw)), va_Nc.of (hs (.not (.castable isE iaE)) (by decide +kernel))⟩⟩
  have h0 : (Cond.exactly (.string q.1 q.2.1) "java/lang/String").before #[Value.ref b0] s = true := by
    have hq2 := hq
    unfold strW at hq2
    simp only [List.mem_cons, List.mem_nil_iff, or_false] at hq2
    rcases hq2 with z | z | z <;> subst z
    · exact hs _ (by decide +kernel)
    · exact hs _ (by decide +kernel)
    · exact hs _ (by decide +kernel)
  obtain ⟨a, c, cell, k, ha, _⟩ := Cond.exactly_spec h0
  exact ⟨a, vk_R.of (hts _ (i6 q hq)) ha⟩
