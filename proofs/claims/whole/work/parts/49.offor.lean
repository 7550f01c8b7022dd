/-! methods of a class that has rows among the natives, but none for them (by p49.py) -/
theorem met_ofWF {l : Launch} {y : MethodName} {ws ws' : List Cond} {rm : Room} {Pc : Array Value → State → Prop} {Qc : Array Value → State → Outcome → State → Prop} {mc ms : Nat} {free : Addr → Prop} {cc : ByteArray} {maxL : Nat} {ret : Option FieldType}
    (hy : plainFor y = true) (hw : ws = Cond.code y cc maxL ret :: ws')
    (body : ∀ p e s m args below meth c s₁, BodyLoose p l y (headSpec ws rm) cc maxL ret e s m args below meth c s₁ → c.maxLocals = maxL → Pc args s →
      W p l e (headSpec ws rm).room s m args below meth c s.heap [] 0 0 (MQ below Qc args s mc ms free) (entryFrame m args maxL)) : Met l y ws rm Pc Qc mc ms free := by
  refine MetFree.of_bodySF (code := cc) (maxLocals := maxL) (ret := ret) hy (fun args s m h hn => ?_) (fun p e s m args below meth c s₁ B hml hP _ => ?_)
  · obtain ⟨meth, c, h1, h2, h3, h4, h5, h6, -, -⟩ := Cond.code_spec hn (atoms_spec (ws := ws) h _ (by rw [hw]; exact List.mem_cons_self))
    exact ⟨meth, c, h1, h2, h3, h4, h5, h6⟩
  · obtain ⟨t, a1, o, b1, b2, b3⟩ := body p e s m args below meth c s₁ B hml hP s₁ (by rw [B.state]; rfl) (Stand.of_body B)
    exact ⟨t, o, a1, b1, b2, ⟨b3.1, b3.2⟩⟩
section MMF
variable {X : Cx} {l0 : Launch} {g : Gw} {μ : Md} {d mc ms : Nat} {Z : State → Prop} {kc ks pc : Nat} {L : List (Option Value)} {st : List Value} {σ : Sg}
theorem MM.ofF {vs : List Value} {Q : Option Value → Sg → Prop} (hy : plainFor μ.1 = true) (hcat : ∀ v ∈ vs, v.category = 1) (hlen : vs.length ≤ μ.2.2.1)
    (h : ∀ X : Cx, BX X l0 g μ d mc ms → WW X g μ.2.2.1 (ZQ X g Q mc ms) 0 0 0 (arL vs μ.2.2.1) [] σ) : MM l0 g d μ σ vs mc ms Q := by
  refine met_ofWF (cc := μ.2.1) (maxL := μ.2.2.1) (ret := μ.2.2.2) hy rfl ?_
  rintro p e s m args below meth c s₁ B hml ⟨rfl, hP, hK, hSw⟩
  have hts : ∀ w ∈ gw, w.before ((vs.map (cv g)).toArray) s = true := fun w hw => atoms_spec (ws := wsm μ) B.pre w (List.mem_cons_of_mem _ hw)
  have hB : gB g ≤ s.heap.size := by rw [hP.1]; omega
  have hbx : BX (p, l0, e, (headSpec (wsm μ) (rmm d mc ms)).room, s, m, (vs.map (cv g)).toArray, below, meth, c) l0 g μ d mc ms :=
    ⟨rfl, B.exec, B.bytes, hml, B.returns, B.notSynchronized, (name_of_methodNamed B.named B.method).1, findClass_of_methodNamed B.named, hts, hK, hSw, hB, Nat.le_refl _, Nat.le_refl _, rfl, rfl⟩
  have k1 := h _ hbx s.heap [] ((lg_sl (vs.map (cv g)) ++ List.replicate (μ.2.2.1 - (lg_sl (vs.map (cv g))).length) Slot.unset).toArray) hP va_S.rf ?_
  · rw [lg_entry_eq]
    exact k1
  · have hcat2 : ∀ v ∈ vs.map (cv g), v.category = 1 := by
      intro v hv
      obtain ⟨w, hw, rfl⟩ := List.mem_map.mp hv
      rw [cv_cat]
      exact hcat w hw
    have hle : (lg_sl (vs.map (cv g))).length ≤ μ.2.2.1 := by
      rw [lg_sl1 _ hcat2, List.length_map, List.length_map]
      exact hlen
    have he := lv_entry (vs.map (cv g)) hle
    refine ⟨he.1, ?_, he.2.1, fun i v hv => ?_⟩
    · unfold arL
      rw [List.length_append, List.length_map, List.length_replicate]
      omega
    · unfold arL at hv
      by_cases hi : i < vs.length
      · rw [List.getElem?_append_left (by rw [List.length_map]; exact hi), List.getElem?_map] at hv
        cases hv2 : vs[i]? with
        | none => rw [hv2] at hv; cases hv
        | some w =>
          rw [hv2] at hv
          cases hv
          have h5 := lv_args1 _ hcat2 0 i (cv g v) (by rw [List.getElem?_map, hv2]; rfl)
          rw [Nat.zero_add] at h5
          exact he.2.2 _ h5
      · rw [List.getElem?_append_right (by rw [List.length_map]; omega)] at hv
        have := List.eq_of_mem_replicate (List.mem_of_getElem? hv)
        cases this
theorem MD.ofF {vs : List Value} {r : Option Value} {σ1 : Sg} (hy : plainFor μ.1 = true) (hcat : ∀ v ∈ vs, v.category = 1) (hlen : vs.length ≤ μ.2.2.1)
    (h : ∀ X : Cx, BX X l0 g μ d mc ms → WW X g μ.2.2.1 (ZQ X g (fun r' σ' => r' = r ∧ σ' = σ1) mc ms) 0 0 0 (arL vs μ.2.2.1) [] σ) : MD l0 g d μ σ vs mc ms r σ1 := MM.ofF hy hcat hlen h
end MMF
