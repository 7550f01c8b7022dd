/-! THE REFERENCE: what calls (by p32.py) -/
set_option maxRecDepth 20000 in
theorem k_call0 {l0 : Launch} {g : Gw} {mo nx : Nat} {h0 : Nat → va_E} {I : Nat → Int} {F : Nat → Int → Int} {c : Int} (hc : 0 ≤ c ∧ c < I 2) (h2_ : 0 ≤ I 2 ∧ I 2 ≤ 12) (h21 : 0 ≤ I 21 ∧ I 21 ≤ 40) (h1_ : 4 ≤ I 1 ∧ I 1 ≤ 40) (h23 : ∀ j, 0 ≤ j → j < 1600 → 0 ≤ F 23 j ∧ F 23 j ≤ 7) (wf : wfC I F) (hc7 : col7 (F 7)) (hR : callR I F (F 7) c = none) : MM l0 g 3 mX9_call (mp mo h0 I F, nx) [.ref mo, .int (iI (c))] 0 0 (fun r σ' => r = some (.int (iI (-6))) ∧ ∃ (a' : Int) (f' e' S' T' U' V' : Int → Int), col7 f' ∧ σ' = (mp mo h0 (va_up I 13 (a')) (cS F (f') (e') (S') (T') (U') (V')), nx)) := by
  refine MM.of (by decide +kernel) (by simp [Value.category]) (tle rfl) (fun X b => ?_)
  change WW X g _ _ 0 0 0 [some (.ref mo), some (.int (iI (c))), none, none, none, none] [] _
  refine w_aload_n b dX9_call_0 rfl rfl ?_
  refine z_iconst b dX9_call_1 ?_
  refine m_put b dX9_call_2 lfX9_47 gtX9_13 (tlt rfl) rfl ?_
  refine z_iconst b dX9_call_5 ?_
  refine w_istore_n b dX9_call_6 (tlt rfl) rfl ?_
  refine z_iconst b dX9_call_7 ?_
  refine w_istore_n b dX9_call_8 (tlt rfl) rfl ?_
  refine w_aload_n b dX9_call_9 rfl rfl ?_
  refine m_get b dX9_call_10 lfX9_35 rfl ?_
  refine z_iconst b dX9_call_13 ?_
  refine w_iload_n b dX9_call_14 rfl ?_
  refine m_ast b dX9_call_15 rfl (by omega) ?_
  refine w_aload_n b dX9_call_16 rfl rfl ?_
  refine m_get b dX9_call_17 lfX9_38 rfl ?_
  refine z_iconst b dX9_call_20 ?_
  refine z_iconst b dX9_call_21 ?_
  refine m_ast b dX9_call_22 rfl (by omega) ?_
  refine w_aload_n b dX9_call_23 rfl rfl ?_
  refine m_get b dX9_call_24 lfX9_41 rfl ?_
  refine z_iconst b dX9_call_27 ?_
  refine z_iconst b dX9_call_28 ?_
  refine m_ast b dX9_call_29 rfl (by omega) ?_
  refine w_aload_n b dX9_call_30 rfl rfl ?_
  refine m_get b dX9_call_31 lfX9_44 rfl ?_
  refine z_iconst b dX9_call_34 ?_
  refine w_aload_n b dX9_call_35 rfl rfl ?_
  refine m_get (v := .int (iI (I 1))) b dX9_call_36 lfX9_134 rfl ?_
  refine m_ast b dX9_call_39 rfl (by omega) ?_
  refine ww_cast (σ' := (mp mo h0 (va_up I 13 0) (cS F (F 7) (F 8) (fu (F 9) 0 c) (fu (F 10) 0 0) (fu (F 11) 0 0) (fu (F 12) 0 (I 1))), nx)) rfl rfl (by
    have e := cS_self F
    have e2 : va_up (va_up (va_up (va_up (cS F (F 7) (F 8) (F 9) (F 10) (F 11) (F 12)) 9 (fu (F 9) 0 c)) 10 (fu (F 10) 0 0)) 11 (fu (F 11) 0 0)) 12 (fu (F 12) 0 (I 1)) = cS F (F 7) (F 8) (fu (F 9) 0 c) (fu (F 10) 0 0) (fu (F 11) 0 0) (fu (F 12) 0 (I 1)) := by rw [cS_9, cS_10, cS_11, cS_12]
    rw [e] at e2
    rw [← e2]
    rfl) ?_
  have hst := (wf c hc.1 hc.2).1
  refine call_run b h2_ h21 h1_ h23 wf 11 (F 3 c).toNat 0 c 0 (I 1) 0 0 0 (F 7) (F 8) _ _ _ _ (by omega) hc (by omega) (by omega) (by omega) (fu_s _ _ _) (fu_s _ _ _) (fu_s _ _ _) (fu_s _ _ _) (by omega) (by omega) (by omega) hc7 ?_ ?_
  · intro _ a' f' e' S' T' U' V' _ hc9
    exact ⟨rfl, a', f', e', S', T', U', V', hc9, rfl⟩
  · intro t' S' T' U' V' g1 g2 g3 g4 g5
    exact absurd (g1.symm.trans hR) (fun z => by cases z)
set_option maxRecDepth 20000 in
theorem k_call1 {l0 : Launch} {g : Gw} {mo nx : Nat} {h0 : Nat → va_E} {I : Nat → Int} {F : Nat → Int → Int} {c : Int} {t : CS} (hc : 0 ≤ c ∧ c < I 2) (h2_ : 0 ≤ I 2 ∧ I 2 ≤ 12) (h21 : 0 ≤ I 21 ∧ I 21 ≤ 40) (h1_ : 4 ≤ I 1 ∧ I 1 ≤ 40) (h23 : ∀ j, 0 ≤ j → j < 1600 → 0 ≤ F 23 j ∧ F 23 j ≤ 7) (wf : wfC I F) (hc7 : col7 (F 7)) (hR : callR I F (F 7) c = some t) : MM l0 g 3 mX9_call (mp mo h0 I F, nx) [.ref mo, .int (iI (c))] 0 0 (fun r σ' => r = some (.int (iI t.1)) ∧ (0 ≤ t.1 ∧ t.1 ≤ 1000) ∧ col7 t.2.1 ∧ ∃ (S' T' U' V' : Int → Int), σ' = (mp mo h0 (va_up I 13 (t.1)) (cS F (t.2.1) (endsR I F (F 7) c (F 8)) (S') (T') (U') (V')), nx)) := by
  refine MM.of (by decide +kernel) (by simp [Value.category]) (tle rfl) (fun X b => ?_)
  change WW X g _ _ 0 0 0 [some (.ref mo), some (.int (iI (c))), none, none, none, none] [] _
  refine w_aload_n b dX9_call_0 rfl rfl ?_
  refine z_iconst b dX9_call_1 ?_
  refine m_put b dX9_call_2 lfX9_47 gtX9_13 (tlt rfl) rfl ?_
  refine z_iconst b dX9_call_5 ?_
  refine w_istore_n b dX9_call_6 (tlt rfl) rfl ?_
  refine z_iconst b dX9_call_7 ?_
  refine w_istore_n b dX9_call_8 (tlt rfl) rfl ?_
  refine w_aload_n b dX9_call_9 rfl rfl ?_
  refine m_get b dX9_call_10 lfX9_35 rfl ?_
  refine z_iconst b dX9_call_13 ?_
  refine w_iload_n b dX9_call_14 rfl ?_
  refine m_ast b dX9_call_15 rfl (by omega) ?_
  refine w_aload_n b dX9_call_16 rfl rfl ?_
  refine m_get b dX9_call_17 lfX9_38 rfl ?_
  refine z_iconst b dX9_call_20 ?_
  refine z_iconst b dX9_call_21 ?_
  refine m_ast b dX9_call_22 rfl (by omega) ?_
  refine w_aload_n b dX9_call_23 rfl rfl ?_
  refine m_get b dX9_call_24 lfX9_41 rfl ?_
  refine z_iconst b dX9_call_27 ?_
  refine z_iconst b dX9_call_28 ?_
  refine m_ast b dX9_call_29 rfl (by omega) ?_
  refine w_aload_n b dX9_call_30 rfl rfl ?_
  refine m_get b dX9_call_31 lfX9_44 rfl ?_
  refine z_iconst b dX9_call_34 ?_
  refine w_aload_n b dX9_call_35 rfl rfl ?_
  refine m_get (v := .int (iI (I 1))) b dX9_call_36 lfX9_134 rfl ?_
  refine m_ast b dX9_call_39 rfl (by omega) ?_
  refine ww_cast (σ' := (mp mo h0 (va_up I 13 0) (cS F (F 7) (F 8) (fu (F 9) 0 c) (fu (F 10) 0 0) (fu (F 11) 0 0) (fu (F 12) 0 (I 1))), nx)) rfl rfl (by
    have e := cS_self F
    have e2 : va_up (va_up (va_up (va_up (cS F (F 7) (F 8) (F 9) (F 10) (F 11) (F 12)) 9 (fu (F 9) 0 c)) 10 (fu (F 10) 0 0)) 11 (fu (F 11) 0 0)) 12 (fu (F 12) 0 (I 1)) = cS F (F 7) (F 8) (fu (F 9) 0 c) (fu (F 10) 0 0) (fu (F 11) 0 0) (fu (F 12) 0 (I 1)) := by rw [cS_9, cS_10, cS_11, cS_12]
    rw [e] at e2
    rw [← e2]
    rfl) ?_
  have hst := (wf c hc.1 hc.2).1
  refine call_run b h2_ h21 h1_ h23 wf 11 (F 3 c).toNat 0 c 0 (I 1) 0 0 0 (F 7) (F 8) _ _ _ _ (by omega) hc (by omega) (by omega) (by omega) (fu_s _ _ _) (fu_s _ _ _) (fu_s _ _ _) (fu_s _ _ _) (by omega) (by omega) (by omega) hc7 ?_ ?_
  · intro z
    exact absurd (hR.symm.trans z) (fun z => by cases z)
  · intro t' S' T' U' V' g1 g2 g3 g4 g5
    have et : t = t' := Option.some.inj (hR.symm.trans g1)
    subst et
    have g2b : 0 ≤ t.1 ∧ t.1 ≤ 1000 := ⟨g2.1, g2.2.2⟩
    rw [if_pos rfl]
    change WW X g mX9_call.2.2.1 _ 0 0 71 _ [] (mp mo h0 (va_up I 13 (t.1)) (cS F (t.2.1) (endsR I F (F 7) c (F 8)) (S') (T') (U') (V')), nx)
    refine z_iinc b dX9_call_71 rfl rfl (v := 0) (by omega) ?_
    refine w_iload_n b dX9_call_74 rfl ?_
    refine z_iconst b dX9_call_75 ?_
    refine z_icmp_ne (tgt := 40) b dX9_call_76 (by decide) (by omega) (fun c76 => ?_) (fun c76 => ?_)
    · refine w_iload_n b dX9_call_40 rfl ?_
      refine z_if_le (tgt := 267) b dX9_call_41 (by decide) (by omega) (fun c41 => ?_) (fun c41 => ?_)
      · refine w_aload_n b dX9_call_267 rfl rfl ?_
        refine m_get (v := .int (iI t.1)) b dX9_call_268 lfX9_47 rfl ?_
        exact w_iret b dX9_call_271 rfl (by omega) (by omega) ⟨rfl, g2b, g4, S', T', U', V', rfl⟩
      · exfalso; omega
    · exfalso; omega
