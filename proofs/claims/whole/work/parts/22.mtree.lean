/-! THE REFERENCE: villages, borders (by p22.py) -/
set_option maxRecDepth 20000 in
theorem l_X9_apart {X : Cx} {l0 : Launch} {g : Gw} {Z : State → Prop} {mo nx : Nat} {h0 : Nat → va_E} {I : Nat → Int} {F : Nat → Int → Int} (b : BX X l0 g mX9_apart 0 0 0) {a c : Int} (ha : 0 ≤ a ∧ a < 8) (hb : 0 ≤ c ∧ c < 8) (h30 : ∀ j, 0 ≤ j → j < 8 → 0 ≤ F 30 j ∧ F 30 j < 2 ^ 8) : ∀ (n : Nat) (k s : Int), (k + n = 8) → (0 ≤ k) → WW X g mX9_apart.2.2.1 Z 0 0 39 [some (.ref mo), some (.int (iI (a))), some (.int (iI (c))), some (.int (iI (sumA (fun k => zx (F 30 a) (F 30 c) / 2 ^ k.toNat % 2) n k s))), none] [] (mp mo h0 I F, nx) → WW X g mX9_apart.2.2.1 Z 0 0 5 [some (.ref mo), some (.int (iI (a))), some (.int (iI (c))), some (.int (iI (s))), some (.int (iI (k)))] [] (mp mo h0 I F, nx) := by
  intro n
  induction n with
  | zero =>
    intro k s h1 h2 kk
    refine w_iload b dX9_apart_5 rfl ?_
    refine z_bipush b dX9_apart_7 (by decide) ?_
    refine z_icmp_ge (tgt := 39) b dX9_apart_9 (by decide) (by omega) (fun c9 => ?_) (fun c9 => ?_)
    · refine ww_forget 4 ?_
      exact kk
    · exfalso; omega
  | succ n ih =>
    intro k s h1 h2 kk
    have hz := zx_rng (k := 8) (h30 a ha.1 ha.2) (h30 c hb.1 hb.2)
    have hq : 0 ≤ zx (F 30 a) (F 30 c) / 2 ^ k.toNat ∧ zx (F 30 a) (F 30 c) / 2 ^ k.toNat < 256 := ⟨Int.ediv_nonneg hz.1 (by exact Int.pow_nonneg (by omega)), Int.lt_of_le_of_lt (Int.ediv_le_self _ hz.1) (by have := hz.2; omega)⟩
    refine w_iload b dX9_apart_5 rfl ?_
    refine z_bipush b dX9_apart_7 (by decide) ?_
    refine z_icmp_ge (tgt := 39) b dX9_apart_9 (by decide) (by omega) (fun c9 => ?_) (fun c9 => ?_)
    · exfalso; omega
    · refine w_iload_n b dX9_apart_12 rfl ?_
      refine w_aload_n b dX9_apart_13 rfl rfl ?_
      refine m_get b dX9_apart_14 lfX9_98 rfl ?_
      refine w_iload_n b dX9_apart_17 rfl ?_
      refine m_ald b dX9_apart_18 rfl (by omega) rfl ?_
      refine w_aload_n b dX9_apart_19 rfl rfl ?_
      refine m_get b dX9_apart_20 lfX9_98 rfl ?_
      refine w_iload_n b dX9_apart_23 rfl ?_
      refine m_ald b dX9_apart_24 rfl (by omega) rfl ?_
      refine z_ixor b dX9_apart_25 ⟨(h30 a ha.1 ha.2).1, (h30 c hb.1 hb.2).1⟩ ?_
      refine w_iload b dX9_apart_26 rfl ?_
      refine z_ishr b dX9_apart_28 (by omega) ?_
      refine z_iconst b dX9_apart_29 ?_
      refine z_iand1 b dX9_apart_30 ⟨hq.1, by omega⟩ ?_
      refine z_iadd b dX9_apart_31 ?_
      refine w_istore_n b dX9_apart_32 (tlt rfl) rfl ?_
      refine z_iinc b dX9_apart_33 rfl rfl rfl ?_
      refine w_goto (tgt := 5) b dX9_apart_36 (by decide) ?_
      exact ih (k + 1) _ (by omega) (by omega) kk
set_option maxRecDepth 20000 in
theorem k_X9_apart {l0 : Launch} {g : Gw} {mo nx : Nat} {h0 : Nat → va_E} {I : Nat → Int} {F : Nat → Int → Int} {a c : Int} (ha : 0 ≤ a ∧ a < 8) (hb : 0 ≤ c ∧ c < 8) (h30 : ∀ j, 0 ≤ j → j < 8 → 0 ≤ F 30 j ∧ F 30 j < 2 ^ 8) : MD l0 g 0 mX9_apart (mp mo h0 I F, nx) [.ref mo, .int (iI (a)), .int (iI (c))] 0 0 (some (.int (iI (apF (F 30 a) (F 30 c))))) (mp mo h0 I F, nx) := by
  refine MD.of (by decide +kernel) (by simp [Value.category]) (tle rfl) (fun X b => ?_)
  change WW X g _ _ 0 0 0 [some (.ref mo), some (.int (iI (a))), some (.int (iI (c))), none, none] [] _
  refine z_iconst b dX9_apart_0 ?_
  refine w_istore_n b dX9_apart_1 (tlt rfl) rfl ?_
  refine z_iconst b dX9_apart_2 ?_
  refine w_istore b dX9_apart_3 (tlt rfl) rfl ?_
  refine l_X9_apart b ha hb h30 8 0 0 (by omega) (by omega) ?_
  refine w_iload_n b dX9_apart_39 rfl ?_
  exact w_iret b dX9_apart_40 rfl (by omega) (by omega) ⟨iv_eq (by first | rfl | omega | (simp only [b2]; split <;> omega)), rfl⟩
set_option maxRecDepth 20000 in
theorem l_X9_join {X : Cx} {l0 : Launch} {g : Gw} {Z : State → Prop} {mo nx : Nat} {h0 : Nat → va_E} {I : Nat → Int} (b : BX X l0 g mX9_join 0 0 0) {a c x y : Int} (h27 : 0 ≤ I 27 ∧ I 27 ≤ 8) (hx : inR x) (hy : inR y) : ∀ (n : Nat) (v : Int) (F : Nat → Int → Int), (v + n = I 27) → (0 ≤ v) → (∀ j, 0 ≤ j → j < I 27 → inR (F 31 j)) → WW X g mX9_join.2.2.1 Z 0 0 53 [some (.ref mo), some (.int (iI (a))), some (.int (iI (c))), some (.int (iI (x))), some (.int (iI (y))), none] [] (mp mo h0 I (va_up F 31 (joinA x y n v (F 31))), nx) → WW X g mX9_join.2.2.1 Z 0 0 18 [some (.ref mo), some (.int (iI (a))), some (.int (iI (c))), some (.int (iI (x))), some (.int (iI (y))), some (.int (iI (v)))] [] (mp mo h0 I F, nx) := by
  intro n
  induction n with
  | zero =>
    intro v F h1 h2 h31 kk
    refine w_iload b dX9_join_18 rfl ?_
    refine w_aload_n b dX9_join_20 rfl rfl ?_
    refine m_get b dX9_join_21 lfX9_89 rfl ?_
    refine z_icmp_ge (tgt := 53) b dX9_join_24 (by decide) (by omega) (fun c24 => ?_) (fun c24 => ?_)
    · refine ww_forget 5 ?_
      exact ww_cast rfl rfl (by simp only [joinA, va_up_same]) kk
    · exfalso; omega
  | succ n ih =>
    intro v F h1 h2 h31 kk
    refine w_iload b dX9_join_18 rfl ?_
    refine w_aload_n b dX9_join_20 rfl rfl ?_
    refine m_get b dX9_join_21 lfX9_89 rfl ?_
    refine z_icmp_ge (tgt := 53) b dX9_join_24 (by decide) (by omega) (fun c24 => ?_) (fun c24 => ?_)
    · exfalso; omega
    · refine w_aload_n b dX9_join_27 rfl rfl ?_
      refine m_get b dX9_join_28 lfX9_101 rfl ?_
      refine w_iload b dX9_join_31 rfl ?_
      refine m_ald b dX9_join_33 rfl (by omega) rfl ?_
      refine w_iload_n b dX9_join_34 rfl ?_
      refine z_icmp_ne (tgt := 47) b dX9_join_35 (by decide) (by have := h31 v (by omega) (by omega); omega) (fun c35 => ?_) (fun c35 => ?_)
      · refine z_iinc b dX9_join_47 rfl rfl rfl ?_
        refine w_goto (tgt := 18) b dX9_join_50 (by decide) ?_
        exact ih (v + 1) F (by omega) (by omega) h31 (ww_cast rfl rfl (by simp only [joinA]; rw [if_neg c35]) kk)
      · refine w_aload_n b dX9_join_38 rfl rfl ?_
        refine m_get b dX9_join_39 lfX9_101 rfl ?_
        refine w_iload b dX9_join_42 rfl ?_
        refine w_iload b dX9_join_44 rfl ?_
        refine m_ast b dX9_join_46 rfl (by omega) ?_
        refine z_iinc b dX9_join_47 rfl rfl rfl ?_
        refine w_goto (tgt := 18) b dX9_join_50 (by decide) ?_
        exact ih (v + 1) _ (by omega) (by omega) (by rw [va_up_self]; exact fu_inR h31 hy) (ww_cast rfl rfl (by simp only [va_up_self, va_up_twice, joinA]; rw [if_pos c35]) kk) -- kk
set_option maxRecDepth 20000 in
theorem k_X9_join {l0 : Launch} {g : Gw} {mo nx : Nat} {h0 : Nat → va_E} {I : Nat → Int} {F : Nat → Int → Int} {a c : Int} (ha : 0 ≤ a ∧ a < I 27) (hb : 0 ≤ c ∧ c < I 27) (h27 : 0 ≤ I 27 ∧ I 27 ≤ 8) (h31 : ∀ j, 0 ≤ j → j < I 27 → inR (F 31 j)) : MD l0 g 0 mX9_join (mp mo h0 I F, nx) [.ref mo, .int (iI (a)), .int (iI (c))] 0 0 (none) (mp mo h0 I (va_up F 31 (joinA (F 31 c) (F 31 a) (I 27).toNat 0 (F 31))), nx) := by
  refine MD.of (by decide +kernel) (by simp [Value.category]) (tle rfl) (fun X b => ?_)
  change WW X g _ _ 0 0 0 [some (.ref mo), some (.int (iI (a))), some (.int (iI (c))), none, none, none] [] _
  refine w_aload_n b dX9_join_0 rfl rfl ?_
  refine m_get b dX9_join_1 lfX9_101 rfl ?_
  refine w_iload_n b dX9_join_4 rfl ?_
  refine m_ald b dX9_join_5 rfl (by omega) rfl ?_
  refine w_istore_n b dX9_join_6 (tlt rfl) rfl ?_
  refine w_aload_n b dX9_join_7 rfl rfl ?_
  refine m_get b dX9_join_8 lfX9_101 rfl ?_
  refine w_iload_n b dX9_join_11 rfl ?_
  refine m_ald b dX9_join_12 rfl (by omega) rfl ?_
  refine w_istore b dX9_join_13 (tlt rfl) rfl ?_
  refine z_iconst b dX9_join_15 ?_
  refine w_istore b dX9_join_16 (tlt rfl) rfl ?_
  refine l_X9_join b h27 (h31 c hb.1 hb.2) (h31 a ha.1 ha.2) (I 27).toNat 0 F (by omega) (by omega) h31 ?_
  exact w_vret b dX9_join_53 rfl (by omega) (by omega) ⟨rfl, rfl⟩
/-- the reference's state with the tree's parts t -/
def tI (I : Nat → Int) (t : TrS) : Nat → Int := va_up (va_up I 28 t.2.2.1) 29 t.2.2.2
def tF (F : Nat → Int → Int) (t : TrS) : Nat → Int → Int := va_up (va_up F 31 t.1) 32 t.2.1
theorem gInv_in {v : Nat} {t : TrS} (h : gInv v t) (hv : v ≤ 8) : ∀ j : Int, 0 ≤ j → j < v → inR (t.1 j) := fun j h1 h2 => by
  have := (h.1 j h1 h2).1
  exact ⟨by omega, by omega⟩
theorem tF_J (F : Nat → Int → Int) (t : TrS) (v : Nat) (far a b : Int) : va_up (va_up (tF F t) 31 (joinA (tF F t 31 b) (tF F t 31 a) v 0 (tF F t 31))) 32 (fu (tF F t 32) t.2.2.1 (10 * a + b)) = tF F (trJ v far a b t) := by
  funext j
  by_cases h1 : j = 32
  · subst h1; rfl
  · by_cases h2 : j = 31
    · subst h2; rfl
    · simp [tF, va_up, h1, h2]
theorem tF_id (F : Nat → Int → Int) (f : Int → Int) (x y : Int) : va_up F 31 f = tF F (f, F 32, x, y) := by
  funext j
  by_cases e : j = 32
  · subst e; rfl
  · simp [tF, va_up, e]
theorem tI_J (I : Nat → Int) (t : TrS) (v : Nat) (far a b : Int) : va_up (va_up (tI I t) 28 (t.2.2.1 + 1)) 29 (t.2.2.2 + far) = tI I (trJ v far a b t) := by
  funext j
  by_cases h1 : j = 29
  · subst h1; rfl
  · by_cases h2 : j = 28
    · subst h2; rfl
    · simp [tI, va_up, h1, h2]
set_option maxRecDepth 20000 in
theorem l_X9_makeTree3 {X : Cx} {l0 : Launch} {g : Gw} {Z : State → Prop} {mo nx : Nat} {h0 : Nat → va_E} {I : Nat → Int} {F : Nat → Int → Int} (b : BX X l0 g mX9_makeTree 1 0 0) {far a : Int} {v : Nat} (hf : 0 ≤ far ∧ far ≤ 8) (ha : 0 ≤ a ∧ a < I 27) (h27 : 0 ≤ I 27 ∧ I 27 ≤ 8) (hv : (v : Int) = I 27) (h30 : ∀ j, 0 ≤ j → j < 8 → 0 ≤ F 30 j ∧ F 30 j < 2 ^ 8) : ∀ (n : Nat) (c : Int) (t : TrS), (c + n = I 27) → (0 ≤ c) → (gInv v t) → WW X g mX9_makeTree.2.2.1 Z 0 0 138 [some (.ref mo), some (.int (iI (far))), some (.int (iI (a))), none] [] (mp mo h0 (tI I (trB (F 30) v far a n c t)) (tF F (trB (F 30) v far a n c t)), nx) → WW X g mX9_makeTree.2.2.1 Z 0 0 55 [some (.ref mo), some (.int (iI (far))), some (.int (iI (a))), some (.int (iI (c)))] [] (mp mo h0 (tI I t) (tF F t), nx) := by
  intro n
  induction n with
  | zero =>
    intro c t h1 h2 hG kk
    refine w_iload_n b dX9_makeTree_55 rfl ?_
    refine w_aload_n b dX9_makeTree_56 rfl rfl ?_
    refine m_get (v := .int (iI (I 27))) b dX9_makeTree_57 lfX9_89 rfl ?_
    refine z_icmp_ge (tgt := 138) b dX9_makeTree_60 (by decide) (by omega) (fun c60 => ?_) (fun c60 => ?_)
    · refine ww_forget 3 ?_
      exact kk
    · exfalso; omega
  | succ n ih =>
    intro c t h1 h2 hG kk
    have hin := gInv_in hG (by omega)
    refine w_iload_n b dX9_makeTree_55 rfl ?_
    refine w_aload_n b dX9_makeTree_56 rfl rfl ?_
    refine m_get (v := .int (iI (I 27))) b dX9_makeTree_57 lfX9_89 rfl ?_
    refine z_icmp_ge (tgt := 138) b dX9_makeTree_60 (by decide) (by omega) (fun c60 => ?_) (fun c60 => ?_)
    · exfalso; omega
    · refine w_aload_n b dX9_makeTree_63 rfl rfl ?_
      refine w_iload_n b dX9_makeTree_64 rfl ?_
      refine w_iload_n b dX9_makeTree_65 rfl ?_
      refine c_V2 (w := .int (iI (apF (F 30 a) (F 30 c)))) b dX9_makeTree_66 lmX9_205 (mp_obj _ _ _ _) (k_X9_apart (F := tF F t) (by omega) (by omega) h30) (tle rfl) (by omega) (by omega) (by omega) ?_
      refine w_iload_n b dX9_makeTree_69 rfl ?_
      refine z_icmp_ne (tgt := 132) b dX9_makeTree_70 (by decide) (by have := apF_rng (F 30 a) (F 30 c); omega) (fun c70 => ?_) (fun c70 => ?_)
      · have e1 : trB (F 30) v far a (n + 1) c t = trB (F 30) v far a n (c + 1) (t) := by
          conv => lhs; unfold trB
          rw [if_neg (fun z => c70 z.1)]
        rw [e1] at kk
        refine z_iinc b dX9_makeTree_132 rfl rfl rfl ?_
        refine w_goto (tgt := 55) b dX9_makeTree_135 (by decide) ?_
        exact ih (c + 1) t (by omega) (by omega) hG kk
      · refine w_aload_n b dX9_makeTree_73 rfl rfl ?_
        refine m_get b dX9_makeTree_74 lfX9_101 rfl ?_
        refine w_iload_n b dX9_makeTree_77 rfl ?_
        refine m_ald (v := t.1 a) b dX9_makeTree_78 rfl (by omega) rfl ?_
        refine w_aload_n b dX9_makeTree_79 rfl rfl ?_
        refine m_get b dX9_makeTree_80 lfX9_101 rfl ?_
        refine w_iload_n b dX9_makeTree_83 rfl ?_
        refine m_ald (v := t.1 c) b dX9_makeTree_84 rfl (by omega) rfl ?_
        refine z_icmp_ne (tgt := 91) b dX9_makeTree_85 (by decide) (by have g1 := hin a (by omega) (by omega); have g2 := hin c (by omega) (by omega); exact ⟨g1, g2⟩) (fun c85 => ?_) (fun c85 => ?_)
        · have hJ := gInv_J (far := far) hG (by omega : 0 ≤ a ∧ a < v) (by omega : 0 ≤ c ∧ c < v) c85
          have hl := gInv_links hG (by omega)
          refine w_aload_n b dX9_makeTree_91 rfl rfl ?_
          refine w_iload_n b dX9_makeTree_92 rfl ?_
          refine w_iload_n b dX9_makeTree_93 rfl ?_
          refine c_V2v b dX9_makeTree_94 lmX9_208 (mp_obj _ _ _ _) (k_X9_join (I := tI I t) (F := tF F t) ha ⟨by omega, by show c < I 27; omega⟩ h27 (by rw [show tI I t 27 = (v : Int) from hv.symm]; exact hin)) (tle rfl) (by omega) (by omega) (by omega) ?_
          refine w_aload_n b dX9_makeTree_97 rfl rfl ?_
          refine m_get b dX9_makeTree_98 lfX9_104 rfl ?_
          refine w_aload_n b dX9_makeTree_101 rfl rfl ?_
          refine m_get (v := .int (iI (t.2.2.1))) b dX9_makeTree_102 lfX9_92 rfl ?_
          refine z_bipush b dX9_makeTree_105 (by decide) ?_
          refine w_iload_n b dX9_makeTree_107 rfl ?_
          refine z_imul b dX9_makeTree_108 ?_
          refine w_iload_n b dX9_makeTree_109 rfl ?_
          refine z_iadd b dX9_makeTree_110 ?_
          refine m_ast b dX9_makeTree_111 rfl (by show 0 ≤ t.2.2.1 ∧ t.2.2.1 < _; omega) ?_
          refine w_aload_n b dX9_makeTree_112 rfl rfl ?_
          refine w_dup b dX9_makeTree_113 rfl ?_
          refine m_get (v := .int (iI (t.2.2.1))) b dX9_makeTree_114 lfX9_92 rfl ?_
          refine z_iconst b dX9_makeTree_117 ?_
          refine z_iadd b dX9_makeTree_118 ?_
          refine m_put b dX9_makeTree_119 lfX9_92 gtX9_28 (tlt rfl) rfl ?_
          refine w_aload_n b dX9_makeTree_122 rfl rfl ?_
          refine w_dup b dX9_makeTree_123 rfl ?_
          refine m_get (v := .int (iI (t.2.2.2))) b dX9_makeTree_124 lfX9_95 rfl ?_
          refine w_iload_n b dX9_makeTree_127 rfl ?_
          refine z_iadd b dX9_makeTree_128 ?_
          refine m_put b dX9_makeTree_129 lfX9_95 gtX9_29 (tlt rfl) rfl ?_
          have e1 : trB (F 30) v far a (n + 1) c t = trB (F 30) v far a n (c + 1) (trJ v far a c t) := by
            conv => lhs; unfold trB
            rw [if_pos ⟨c70, c85⟩]
          rw [e1] at kk
          refine z_iinc b dX9_makeTree_132 rfl rfl rfl ?_
          refine w_goto (tgt := 55) b dX9_makeTree_135 (by decide) ?_
          refine ww_cast rfl rfl (σ' := (mp mo h0 (tI I (trJ v far a c t)) (tF F (trJ v far a c t)), nx)) ?_ ?_
          · rw [← tI_J, ← tF_J, show (tI I t) 27 = I 27 from rfl, show (I 27).toNat = v by omega]
            rfl
          exact ih (c + 1) (trJ v far a c t) (by omega) (by omega) hJ.1 kk
        · have e1 : trB (F 30) v far a (n + 1) c t = trB (F 30) v far a n (c + 1) (t) := by
            conv => lhs; unfold trB
            rw [if_neg (fun z => z.2 c85)]
          rw [e1] at kk
          refine w_goto (tgt := 132) b dX9_makeTree_88 (by decide) ?_
          refine z_iinc b dX9_makeTree_132 rfl rfl rfl ?_
          refine w_goto (tgt := 55) b dX9_makeTree_135 (by decide) ?_
          exact ih (c + 1) t (by omega) (by omega) hG kk
set_option maxRecDepth 20000 in
theorem l_X9_makeTree2 {X : Cx} {l0 : Launch} {g : Gw} {Z : State → Prop} {mo nx : Nat} {h0 : Nat → va_E} {I : Nat → Int} {F : Nat → Int → Int} (b : BX X l0 g mX9_makeTree 1 0 0) {far : Int} {v : Nat} (hf : 0 ≤ far ∧ far ≤ 8) (h27 : 0 ≤ I 27 ∧ I 27 ≤ 8) (hv : (v : Int) = I 27) (h30 : ∀ j, 0 ≤ j → j < 8 → 0 ≤ F 30 j ∧ F 30 j < 2 ^ 8) : ∀ (n : Nat) (a : Int) (t : TrS), (a + n = I 27) → (0 ≤ a) → (gInv v t) → WW X g mX9_makeTree.2.2.1 Z 0 0 144 [some (.ref mo), some (.int (iI (far))), none, none] [] (mp mo h0 (tI I (trA (F 30) v far n a t)) (tF F (trA (F 30) v far n a t)), nx) → WW X g mX9_makeTree.2.2.1 Z 0 0 43 [some (.ref mo), some (.int (iI (far))), some (.int (iI (a))), none] [] (mp mo h0 (tI I t) (tF F t), nx) := by
  intro n
  induction n with
  | zero =>
    intro a t h1 h2 hG kk
    refine w_iload_n b dX9_makeTree_43 rfl ?_
    refine w_aload_n b dX9_makeTree_44 rfl rfl ?_
    refine m_get (v := .int (iI (I 27))) b dX9_makeTree_45 lfX9_89 rfl ?_
    refine z_icmp_ge (tgt := 144) b dX9_makeTree_48 (by decide) (by omega) (fun c48 => ?_) (fun c48 => ?_)
    · refine ww_forget 2 ?_
      exact kk
    · exfalso; omega
  | succ n ih =>
    intro a t h1 h2 hG kk
    refine w_iload_n b dX9_makeTree_43 rfl ?_
    refine w_aload_n b dX9_makeTree_44 rfl rfl ?_
    refine m_get (v := .int (iI (I 27))) b dX9_makeTree_45 lfX9_89 rfl ?_
    refine z_icmp_ge (tgt := 144) b dX9_makeTree_48 (by decide) (by omega) (fun c48 => ?_) (fun c48 => ?_)
    · exfalso; omega
    · refine w_iload_n b dX9_makeTree_51 rfl ?_
      refine z_iconst b dX9_makeTree_52 ?_
      refine z_iadd b dX9_makeTree_53 ?_
      refine w_istore_n b dX9_makeTree_54 (tlt rfl) rfl ?_
      refine l_X9_makeTree3 b hf (by omega) h27 hv h30 ((v : Int) - (a + 1)).toNat (a + 1) t (by omega) (by omega) hG ?_
      refine z_iinc b dX9_makeTree_138 rfl rfl rfl ?_
      refine w_goto (tgt := 43) b dX9_makeTree_141 (by decide) ?_
      exact ih (a + 1) _ (by omega) (by omega) (gInv_B (by omega) _ _ _ (by omega) (by omega) hG) kk
set_option maxRecDepth 20000 in
theorem l_X9_makeTree1 {X : Cx} {l0 : Launch} {g : Gw} {Z : State → Prop} {mo nx : Nat} {h0 : Nat → va_E} {I : Nat → Int} {F : Nat → Int → Int} (b : BX X l0 g mX9_makeTree 1 0 0) {v : Nat} (h27 : 0 ≤ I 27 ∧ I 27 ≤ 8) (hv : (v : Int) = I 27) (h30 : ∀ j, 0 ≤ j → j < 8 → 0 ≤ F 30 j ∧ F 30 j < 2 ^ 8) : ∀ (n : Nat) (far : Int) (t : TrS), (far + n = 9) → (0 ≤ far) → (gInv v t) → WW X g mX9_makeTree.2.2.1 Z 0 0 150 [some (.ref mo), none, none, none] [] (mp mo h0 (tI I (trF (F 30) v n far t)) (tF F (trF (F 30) v n far t)), nx) → WW X g mX9_makeTree.2.2.1 Z 0 0 35 [some (.ref mo), some (.int (iI (far))), none, none] [] (mp mo h0 (tI I t) (tF F t), nx) := by
  intro n
  induction n with
  | zero =>
    intro far t h1 h2 hG kk
    refine w_iload_n b dX9_makeTree_35 rfl ?_
    refine z_bipush b dX9_makeTree_36 (by decide) ?_
    refine z_icmp_ge (tgt := 150) b dX9_makeTree_38 (by decide) (by omega) (fun c38 => ?_) (fun c38 => ?_)
    · refine ww_forget 1 ?_
      exact kk
    · exfalso; omega
  | succ n ih =>
    intro far t h1 h2 hG kk
    refine w_iload_n b dX9_makeTree_35 rfl ?_
    refine z_bipush b dX9_makeTree_36 (by decide) ?_
    refine z_icmp_ge (tgt := 150) b dX9_makeTree_38 (by decide) (by omega) (fun c38 => ?_) (fun c38 => ?_)
    · exfalso; omega
    · refine z_iconst b dX9_makeTree_41 ?_
      refine w_istore_n b dX9_makeTree_42 (tlt rfl) rfl ?_
      refine l_X9_makeTree2 b (by omega) h27 hv h30 v 0 t (by omega) (by omega) hG ?_
      refine z_iinc b dX9_makeTree_144 rfl rfl rfl ?_
      refine w_goto (tgt := 35) b dX9_makeTree_147 (by decide) ?_
      exact ih (far + 1) _ (by omega) (by omega) (gInv_A v 0 t (by omega) (by omega) hG) kk
set_option maxRecDepth 20000 in
theorem l_X9_makeTree0 {X : Cx} {l0 : Launch} {g : Gw} {Z : State → Prop} {mo nx : Nat} {h0 : Nat → va_E} {I : Nat → Int} (b : BX X l0 g mX9_makeTree 1 0 0)  (h27 : 0 ≤ I 27 ∧ I 27 ≤ 8) : ∀ (n : Nat) (i : Int) (F : Nat → Int → Int), (i + n = I 27) → (0 ≤ i) → WW X g mX9_makeTree.2.2.1 Z 0 0 33 [some (.ref mo), none, none, none] [] (mp mo h0 I (va_up F 31 (idA n i (F 31))), nx) → WW X g mX9_makeTree.2.2.1 Z 0 0 12 [some (.ref mo), some (.int (iI (i))), none, none] [] (mp mo h0 I F, nx) := by
  intro n
  induction n with
  | zero =>
    intro i F h1 h2 kk
    refine w_iload_n b dX9_makeTree_12 rfl ?_
    refine w_aload_n b dX9_makeTree_13 rfl rfl ?_
    refine m_get b dX9_makeTree_14 lfX9_89 rfl ?_
    refine z_icmp_ge (tgt := 33) b dX9_makeTree_17 (by decide) (by omega) (fun c17 => ?_) (fun c17 => ?_)
    · refine ww_forget 1 ?_
      exact ww_cast rfl rfl (by simp only [idA, va_up_same]) kk
    · exfalso; omega
  | succ n ih =>
    intro i F h1 h2 kk
    refine w_iload_n b dX9_makeTree_12 rfl ?_
    refine w_aload_n b dX9_makeTree_13 rfl rfl ?_
    refine m_get b dX9_makeTree_14 lfX9_89 rfl ?_
    refine z_icmp_ge (tgt := 33) b dX9_makeTree_17 (by decide) (by omega) (fun c17 => ?_) (fun c17 => ?_)
    · exfalso; omega
    · refine w_aload_n b dX9_makeTree_20 rfl rfl ?_
      refine m_get b dX9_makeTree_21 lfX9_101 rfl ?_
      refine w_iload_n b dX9_makeTree_24 rfl ?_
      refine w_iload_n b dX9_makeTree_25 rfl ?_
      refine m_ast b dX9_makeTree_26 rfl (by omega) ?_
      refine z_iinc b dX9_makeTree_27 rfl rfl rfl ?_
      refine w_goto (tgt := 12) b dX9_makeTree_30 (by decide) ?_
      exact ih (i + 1) _ (by omega) (by omega) (ww_cast rfl rfl (by simp only [va_up_self, va_up_twice, idA]) kk) -- kk
/-- the tree that is made of the villages, over what the groups and links were -/
def treeT (I : Nat → Int) (F : Nat → Int → Int) : TrS := trF (F 30) (I 27).toNat 9 0 (idA (I 27).toNat 0 (F 31), F 32, 0, 0)
set_option maxRecDepth 20000 in
theorem k_X9_makeTree {l0 : Launch} {g : Gw} {mo nx : Nat} {h0 : Nat → va_E} {I : Nat → Int} {F : Nat → Int → Int}  (h27 : 0 ≤ I 27 ∧ I 27 ≤ 8) (h30 : ∀ j, 0 ≤ j → j < 8 → 0 ≤ F 30 j ∧ F 30 j < 2 ^ 8) : MD l0 g 1 mX9_makeTree (mp mo h0 I F, nx) [.ref mo] 0 0 (none) (mp mo h0 (tI I (treeT I F)) (tF F (treeT I F)), nx) := by
  refine MD.of (by decide +kernel) (by simp [Value.category]) (tle rfl) (fun X b => ?_)
  change WW X g _ _ 0 0 0 [some (.ref mo), none, none, none] [] _
  refine w_aload_n b dX9_makeTree_0 rfl rfl ?_
  refine z_iconst b dX9_makeTree_1 ?_
  refine m_put b dX9_makeTree_2 lfX9_92 gtX9_28 (tlt rfl) rfl ?_
  refine w_aload_n b dX9_makeTree_5 rfl rfl ?_
  refine z_iconst b dX9_makeTree_6 ?_
  refine m_put b dX9_makeTree_7 lfX9_95 gtX9_29 (tlt rfl) rfl ?_
  refine z_iconst b dX9_makeTree_10 ?_
  refine w_istore_n b dX9_makeTree_11 (tlt rfl) rfl ?_
  refine l_X9_makeTree0 (I := va_up (va_up I 28 0) 29 0) b h27 (I 27).toNat 0 F (by show (0 : Int) + _ = I 27; omega) (by omega) ?_
  refine z_iconst b dX9_makeTree_33 ?_
  refine w_istore_n b dX9_makeTree_34 (tlt rfl) rfl ?_
  refine ww_cast (σ' := (mp mo h0 (tI I (idA (I 27).toNat 0 (F 31), F 32, 0, 0)) (tF F (idA (I 27).toNat 0 (F 31), F 32, 0, 0)), nx)) rfl rfl (by rw [← tF_id]; rfl) ?_
  refine l_X9_makeTree1 b h27 (by omega) h30 9 0 _ (by omega) (by omega) (gInv_id _ _ _) ?_
  exact w_vret b dX9_makeTree_150 rfl (by omega) (by omega) ⟨rfl, rfl⟩
set_option maxRecDepth 20000 in
theorem k_X9_tree0 {l0 : Launch} {g : Gw} {mo nx : Nat} {h0 : Nat → va_E} {I : Nat → Int} {F : Nat → Int → Int}  (h : I 27 = 0) : MD l0 g 2 mX9_tree (mp mo h0 I F, nx) [.ref mo] 0 0 (some (.int (iI (-3)))) (mp mo h0 I F, nx) := by
  refine MD.of (by decide +kernel) (by simp [Value.category]) (tle rfl) (fun X b => ?_)
  change WW X g _ _ 0 0 0 [some (.ref mo)] [] _
  refine w_aload_n b dX9_tree_0 rfl rfl ?_
  refine m_get b dX9_tree_1 lfX9_89 rfl ?_
  refine z_if_ne (tgt := 10) b dX9_tree_4 (by decide) (by omega) (fun c4 => ?_) (fun c4 => ?_)
  · exfalso; omega
  · refine z_bipush b dX9_tree_7 (by decide) ?_
    exact w_iret b dX9_tree_9 rfl (by omega) (by omega) ⟨iv_eq (by first | rfl | omega | (simp only [b2]; split <;> omega)), rfl⟩
set_option maxRecDepth 20000 in
theorem k_X9_tree1 {l0 : Launch} {g : Gw} {mo nx : Nat} {h0 : Nat → va_E} {I : Nat → Int} {F : Nat → Int → Int}  (h : 0 < I 27) (h27 : 0 ≤ I 27 ∧ I 27 ≤ 8) (h30 : ∀ j, 0 ≤ j → j < 8 → 0 ≤ F 30 j ∧ F 30 j < 2 ^ 8) : MD l0 g 2 mX9_tree (mp mo h0 I F, nx) [.ref mo] 0 0 (some (.int (iI ((treeT I F).2.2.2)))) (mp mo h0 (tI I (treeT I F)) (tF F (treeT I F)), nx) := by
  refine MD.of (by decide +kernel) (by simp [Value.category]) (tle rfl) (fun X b => ?_)
  change WW X g _ _ 0 0 0 [some (.ref mo)] [] _
  refine w_aload_n b dX9_tree_0 rfl rfl ?_
  refine m_get b dX9_tree_1 lfX9_89 rfl ?_
  refine z_if_ne (tgt := 10) b dX9_tree_4 (by decide) (by omega) (fun c4 => ?_) (fun c4 => ?_)
  · refine w_aload_n b dX9_tree_10 rfl rfl ?_
    refine c_V0v b dX9_tree_11 lmX9_212 (mp_obj _ _ _ _) (k_X9_makeTree h27 h30) (tle rfl) (by omega) (by omega) (by omega) ?_
    refine w_aload_n b dX9_tree_14 rfl rfl ?_
    refine m_get b dX9_tree_15 lfX9_95 rfl ?_
    exact w_iret b dX9_tree_18 rfl (by omega) (by omega) ⟨iv_eq (by first | rfl | omega | (simp only [b2]; split <;> omega)), rfl⟩
  · exfalso; omega
set_option maxRecDepth 20000 in
theorem k_X9_link0 {l0 : Launch} {g : Gw} {mo nx : Nat} {h0 : Nat → va_E} {I : Nat → Int} {F : Nat → Int → Int} {i : Int} (hi : inR i) (h : i < 0) : MD l0 g 2 mX9_link (mp mo h0 I F, nx) [.ref mo, .int (iI (i))] 0 0 (some (.int (iI (-1)))) (mp mo h0 I F, nx) := by
  refine MD.of (by decide +kernel) (by simp [Value.category]) (tle rfl) (fun X b => ?_)
  change WW X g _ _ 0 0 0 [some (.ref mo), some (.int (iI (i)))] [] _
  refine w_iload_n b dX9_link_0 rfl ?_
  refine z_if_ge (tgt := 6) b dX9_link_1 (by decide) (by omega) (fun c1 => ?_) (fun c1 => ?_)
  · exfalso; omega
  · refine z_iconst b dX9_link_4 ?_
    exact w_iret b dX9_link_5 rfl (by omega) (by omega) ⟨iv_eq (by first | rfl | omega | (simp only [b2]; split <;> omega)), rfl⟩
theorem treeT_inv (I : Nat → Int) (F : Nat → Int → Int) : gInv (I 27).toNat (treeT I F) := gInv_F 9 0 _ (gInv_id _ _ _)
theorem treeT_links (I : Nat → Int) (F : Nat → Int → Int) (h27 : 0 ≤ I 27 ∧ I 27 ≤ 8) : 0 ≤ (treeT I F).2.2.1 ∧ (treeT I F).2.2.1 ≤ 7 := by
  by_cases h : 0 < (I 27).toNat
  · have := gInv_links (treeT_inv I F) h
    omega
  · have h1 := (treeT_inv I F).2
    have e : (I 27).toNat = 0 := by omega
    rw [e] at h1
    have h2 : gCt (treeT I F).1 0 = 0 := rfl
    omega
set_option maxRecDepth 20000 in
theorem k_X9_link1 {l0 : Launch} {g : Gw} {mo nx : Nat} {h0 : Nat → va_E} {I : Nat → Int} {F : Nat → Int → Int} {i : Int} (hi : inR i) (h : 0 ≤ i) (h27 : 0 ≤ I 27 ∧ I 27 ≤ 8) (h30 : ∀ j, 0 ≤ j → j < 8 → 0 ≤ F 30 j ∧ F 30 j < 2 ^ 8) : MD l0 g 2 mX9_link (mp mo h0 I F, nx) [.ref mo, .int (iI (i))] 0 0 (some (.int (iI (if i < (treeT I F).2.2.1 then (treeT I F).2.1 i else -3)))) (mp mo h0 (tI I (treeT I F)) (tF F (treeT I F)), nx) := by
  refine MD.of (by decide +kernel) (by simp [Value.category]) (tle rfl) (fun X b => ?_)
  change WW X g _ _ 0 0 0 [some (.ref mo), some (.int (iI (i)))] [] _
  refine w_iload_n b dX9_link_0 rfl ?_
  refine z_if_ge (tgt := 6) b dX9_link_1 (by decide) (by omega) (fun c1 => ?_) (fun c1 => ?_)
  · refine w_aload_n b dX9_link_6 rfl rfl ?_
    refine c_V0v b dX9_link_7 lmX9_212 (mp_obj _ _ _ _) (k_X9_makeTree h27 h30) (tle rfl) (by omega) (by omega) (by omega) ?_
    have hl := treeT_links I F h27
    refine w_iload_n b dX9_link_10 rfl ?_
    refine w_aload_n b dX9_link_11 rfl rfl ?_
    refine m_get (v := .int (iI ((treeT I F).2.2.1))) b dX9_link_12 lfX9_92 rfl ?_
    refine z_icmp_ge (tgt := 27) b dX9_link_15 (by decide) (by omega) (fun c15 => ?_) (fun c15 => ?_)
    · refine z_bipush b dX9_link_27 (by decide) ?_
      exact w_iret b dX9_link_29 rfl (by omega) (by omega) ⟨iv_eq (by first | (rw [if_pos (by omega)]) | (rw [if_neg (by omega)])), rfl⟩
    · refine w_aload_n b dX9_link_18 rfl rfl ?_
      refine m_get b dX9_link_19 lfX9_104 rfl ?_
      refine w_iload_n b dX9_link_22 rfl ?_
      refine m_ald (v := (treeT I F).2.1 i) b dX9_link_23 rfl (by omega) rfl ?_
      refine w_goto (tgt := 29) b dX9_link_24 (by decide) ?_
      exact w_iret b dX9_link_29 rfl (by omega) (by omega) ⟨iv_eq (by first | (rw [if_pos (by omega)]) | (rw [if_neg (by omega)])), rfl⟩
  · exfalso; omega
set_option maxRecDepth 20000 in
theorem k_X9_village0 {l0 : Launch} {g : Gw} {mo nx : Nat} {h0 : Nat → va_E} {I : Nat → Int} {F : Nat → Int → Int} {x : Int} (hx : inR x) (h27 : 0 ≤ I 27 ∧ I 27 ≤ 8) (h : ¬ (0 ≤ x ∧ x ≤ 255) ∨ I 27 = 8) : MD l0 g 1 mX9_village (mp mo h0 I F, nx) [.ref mo, .int (iI (x))] 0 0 (some (.int (iI (if 0 ≤ x ∧ x ≤ 255 then -2 else -1)))) (mp mo h0 I F, nx) := by
  refine MD.of (by decide +kernel) (by simp [Value.category]) (tle rfl) (fun X b => ?_)
  change WW X g _ _ 0 0 0 [some (.ref mo), some (.int (iI (x)))] [] _
  refine w_aload_n b dX9_village_0 rfl rfl ?_
  refine w_iload_n b dX9_village_1 rfl ?_
  refine z_iconst b dX9_village_2 ?_
  refine z_sipush b dX9_village_3 (by decide) ?_
  refine c_V3 b dX9_village_6 lmX9_137 (mp_obj _ _ _ _) (k_X9_in (by omega) (by omega) (by omega)) (tle rfl) (by omega) (by omega) (by omega) ?_
  refine z_ifb_ne (tgt := 14) b dX9_village_9 (by decide) (fun c9 => ?_) (fun c9 => ?_)
  · refine w_aload_n b dX9_village_14 rfl rfl ?_
    refine m_get b dX9_village_15 lfX9_89 rfl ?_
    refine z_bipush b dX9_village_18 (by decide) ?_
    refine z_icmp_ne (tgt := 26) b dX9_village_20 (by decide) (by omega) (fun c20 => ?_) (fun c20 => ?_)
    · exfalso; omega
    · refine z_bipush b dX9_village_23 (by decide) ?_
      exact w_iret b dX9_village_25 rfl (by omega) (by omega) ⟨iv_eq (by rw [if_pos (by omega)]), rfl⟩
  · refine z_iconst b dX9_village_12 ?_
    exact w_iret b dX9_village_13 rfl (by omega) (by omega) ⟨iv_eq (by rw [if_neg (by omega)]), rfl⟩
set_option maxRecDepth 20000 in
theorem k_X9_village1 {l0 : Launch} {g : Gw} {mo nx : Nat} {h0 : Nat → va_E} {I : Nat → Int} {F : Nat → Int → Int} {x : Int} (hx : 0 ≤ x ∧ x ≤ 255) (h27 : 0 ≤ I 27 ∧ I 27 < 8) : MD l0 g 1 mX9_village (mp mo h0 I F, nx) [.ref mo, .int (iI (x))] 0 0 (some (.int (iI (I 27)))) (mp mo h0 (va_up I 27 (I 27 + 1)) (va_up F 30 (fu (F 30) (I 27) x)), nx) := by
  refine MD.of (by decide +kernel) (by simp [Value.category]) (tle rfl) (fun X b => ?_)
  change WW X g _ _ 0 0 0 [some (.ref mo), some (.int (iI (x)))] [] _
  refine w_aload_n b dX9_village_0 rfl rfl ?_
  refine w_iload_n b dX9_village_1 rfl ?_
  refine z_iconst b dX9_village_2 ?_
  refine z_sipush b dX9_village_3 (by decide) ?_
  refine c_V3 b dX9_village_6 lmX9_137 (mp_obj _ _ _ _) (k_X9_in (by omega) (by omega) (by omega)) (tle rfl) (by omega) (by omega) (by omega) ?_
  refine z_ifb_ne (tgt := 14) b dX9_village_9 (by decide) (fun c9 => ?_) (fun c9 => ?_)
  · refine w_aload_n b dX9_village_14 rfl rfl ?_
    refine m_get b dX9_village_15 lfX9_89 rfl ?_
    refine z_bipush b dX9_village_18 (by decide) ?_
    refine z_icmp_ne (tgt := 26) b dX9_village_20 (by decide) (by omega) (fun c20 => ?_) (fun c20 => ?_)
    · refine w_aload_n b dX9_village_26 rfl rfl ?_
      refine m_get b dX9_village_27 lfX9_98 rfl ?_
      refine w_aload_n b dX9_village_30 rfl rfl ?_
      refine m_get b dX9_village_31 lfX9_89 rfl ?_
      refine w_iload_n b dX9_village_34 rfl ?_
      refine m_ast b dX9_village_35 rfl (by omega) ?_
      refine w_aload_n b dX9_village_36 rfl rfl ?_
      refine w_dup b dX9_village_37 rfl ?_
      refine m_get b dX9_village_38 lfX9_89 rfl ?_
      refine z_iconst b dX9_village_41 ?_
      refine z_iadd b dX9_village_42 ?_
      refine m_put b dX9_village_43 lfX9_89 gtX9_27 (tlt rfl) rfl ?_
      refine w_aload_n b dX9_village_46 rfl rfl ?_
      refine m_get (v := .int (iI (I 27 + 1))) b dX9_village_47 lfX9_89 rfl ?_
      refine z_iconst b dX9_village_50 ?_
      refine z_isub b dX9_village_51 ?_
      exact w_iret b dX9_village_52 rfl (by omega) (by omega) ⟨iv_eq (by omega), rfl⟩
    · exfalso; omega
  · exfalso; omega
/-- the pairs p from p on, of a set: what is left of the sum, the groups -/
def itA (W A B : Int → Int) (set : Int) (v : Nat) : Nat → Int → Int → (Int → Int) → Int × (Int → Int)
  | 0, _, left, gr => (b2 (left = 0), gr)
  | n + 1, p, left, gr => if set / 2 ^ p.toNat % 2 = 0 then itA W A B set v n (p + 1) left gr else if gr (A p) = gr (B p) then (0, gr) else itA W A B set v n (p + 1) (left - apF (W (A p)) (W (B p))) (joinA (gr (B p)) (gr (A p)) v 0 gr)
theorem joinA_in {x y : Int} {v : Nat} {f : Int → Int} {N : Int} (h : ∀ j, 0 ≤ j → j < N → 0 ≤ f j ∧ f j < N) (hy : 0 ≤ y ∧ y < N) : ∀ j, 0 ≤ j → j < N → 0 ≤ joinA x y v 0 f j ∧ joinA x y v 0 f j < N := by
  intro j h1 h2
  rw [joinA_at]
  split
  · exact hy
  · exact h j h1 h2
theorem in_inR {f : Int → Int} {N : Int} (hN : N ≤ 1000) (h : ∀ j, 0 ≤ j → j < N → 0 ≤ f j ∧ f j < N) : ∀ j, 0 ≤ j → j < N → inR (f j) := fun j h1 h2 => by
  have := h j h1 h2
  exact ⟨by omega, by omega⟩
set_option maxRecDepth 20000 in
theorem l_X9_isTree {X : Cx} {l0 : Launch} {g : Gw} {Q : Option Value → Sg → Prop} {mo nx : Nat} {h0 : Nat → va_E} {I : Nat → Int} {F : Nat → Int → Int} (b : BX X l0 g mX9_isTree 1 0 0) {set ps sum : Int} (h27 : 0 ≤ I 27 ∧ I 27 ≤ 8) (h30 : ∀ j, 0 ≤ j → j < 8 → 0 ≤ F 30 j ∧ F 30 j < 2 ^ 8) (hs : 0 ≤ set ∧ set < 32768) (hps : 0 ≤ ps ∧ ps ≤ 15) (h33 : ∀ j, 0 ≤ j → j < ps → 0 ≤ F 33 j ∧ F 33 j < I 27) (h34 : ∀ j, 0 ≤ j → j < ps → 0 ≤ F 34 j ∧ F 34 j < I 27) : ∀ (n : Nat) (p left : Int) (gr : Int → Int), (p + n = ps) → (0 ≤ p) → (-8 * p ≤ left ∧ left ≤ 1000) → (∀ j, 0 ≤ j → j < I 27 → 0 ≤ gr j ∧ gr j < I 27) → Q (some (.int (iI (itA (F 30) (F 33) (F 34) set (I 27).toNat n p left gr).1))) (mp mo h0 I (va_up F 31 (itA (F 30) (F 33) (F 34) set (I 27).toNat n p left gr).2), nx) → WW X g mX9_isTree.2.2.1 (ZQ X g Q 0 0) 0 0 33 [some (.ref mo), some (.int (iI (set))), some (.int (iI (ps))), some (.int (iI (sum))), some (.int (iI (left))), some (.int (iI (p)))] [] (mp mo h0 I (va_up F 31 gr), nx) := by
  intro n
  induction n with
  | zero =>
    intro p left gr h1 h2 h3 hgr hq
    refine w_iload b dX9_isTree_33 rfl ?_
    refine w_iload_n b dX9_isTree_35 rfl ?_
    refine z_icmp_ge (tgt := 127) b dX9_isTree_36 (by decide) (by omega) (fun c36 => ?_) (fun c36 => ?_)
    · refine w_iload b dX9_isTree_127 rfl ?_
      refine z_if_ne (tgt := 136) b dX9_isTree_129 (by decide) (by omega) (fun c129 => ?_) (fun c129 => ?_)
      · refine z_iconst b dX9_isTree_136 ?_
        exact z_zret b dX9_isTree_137 rfl (by omega) (by omega) (by omega) (by have e1 : itA (F 30) (F 33) (F 34) set (I 27).toNat 0 p left gr = (b2 (left = 0), gr) := rfl; rw [e1] at hq; first | (rw [b2_t c129] at hq; exact hq) | (rw [b2_f c129] at hq; exact hq))
      · refine z_iconst b dX9_isTree_132 ?_
        refine w_goto (tgt := 137) b dX9_isTree_133 (by decide) ?_
        exact z_zret b dX9_isTree_137 rfl (by omega) (by omega) (by omega) (by have e1 : itA (F 30) (F 33) (F 34) set (I 27).toNat 0 p left gr = (b2 (left = 0), gr) := rfl; rw [e1] at hq; first | (rw [b2_t c129] at hq; exact hq) | (rw [b2_f c129] at hq; exact hq))
    · exfalso; omega
  | succ n ih =>
    intro p left gr h1 h2 h3 hgr hq
    have hz : 0 ≤ set / 2 ^ p.toNat ∧ set / 2 ^ p.toNat < 32768 := ⟨Int.ediv_nonneg hs.1 (Int.pow_nonneg (by omega)), Int.lt_of_le_of_lt (Int.ediv_le_self _ hs.1) hs.2⟩
    have hA := h33 p (by omega) (by omega)
    have hB := h34 p (by omega) (by omega)
    refine w_iload b dX9_isTree_33 rfl ?_
    refine w_iload_n b dX9_isTree_35 rfl ?_
    refine z_icmp_ge (tgt := 127) b dX9_isTree_36 (by decide) (by omega) (fun c36 => ?_) (fun c36 => ?_)
    · exfalso; omega
    · refine w_iload_n b dX9_isTree_39 rfl ?_
      refine w_iload b dX9_isTree_40 rfl ?_
      refine z_ishr b dX9_isTree_42 (by omega) ?_
      refine z_iconst b dX9_isTree_43 ?_
      refine z_iand1 b dX9_isTree_44 ⟨hz.1, by omega⟩ ?_
      refine z_if_ne (tgt := 51) b dX9_isTree_45 (by decide) (by omega) (fun c45 => ?_) (fun c45 => ?_)
      · refine w_aload_n b dX9_isTree_51 rfl rfl ?_
        refine m_get b dX9_isTree_52 lfX9_101 rfl ?_
        refine w_aload_n b dX9_isTree_55 rfl rfl ?_
        refine m_get b dX9_isTree_56 lfX9_107 rfl ?_
        refine w_iload b dX9_isTree_59 rfl ?_
        refine m_ald (v := F 33 p) b dX9_isTree_61 rfl (by omega) rfl ?_
        refine m_ald (v := gr (F 33 p)) b dX9_isTree_62 rfl (by omega) rfl ?_
        refine w_aload_n b dX9_isTree_63 rfl rfl ?_
        refine m_get b dX9_isTree_64 lfX9_101 rfl ?_
        refine w_aload_n b dX9_isTree_67 rfl rfl ?_
        refine m_get b dX9_isTree_68 lfX9_110 rfl ?_
        refine w_iload b dX9_isTree_71 rfl ?_
        refine m_ald (v := F 34 p) b dX9_isTree_73 rfl (by omega) rfl ?_
        refine m_ald (v := gr (F 34 p)) b dX9_isTree_74 rfl (by omega) rfl ?_
        refine z_icmp_ne (tgt := 80) b dX9_isTree_75 (by decide) ⟨in_inR (by omega) hgr _ hA.1 hA.2, in_inR (by omega) hgr _ hB.1 hB.2⟩ (fun c75 => ?_) (fun c75 => ?_)
        · have e1 : itA (F 30) (F 33) (F 34) set (I 27).toNat (n + 1) p left gr = itA (F 30) (F 33) (F 34) set (I 27).toNat n (p + 1) (left - apF (F 30 (F 33 p)) (F 30 (F 34 p))) (joinA (gr (F 34 p)) (gr (F 33 p)) (I 27).toNat 0 gr) := by
            conv => lhs; unfold itA
            rw [if_neg c45, if_neg c75]
          rw [e1] at hq
          refine w_aload_n b dX9_isTree_80 rfl rfl ?_
          refine w_aload_n b dX9_isTree_81 rfl rfl ?_
          refine m_get b dX9_isTree_82 lfX9_107 rfl ?_
          refine w_iload b dX9_isTree_85 rfl ?_
          refine m_ald (v := F 33 p) b dX9_isTree_87 rfl (by omega) rfl ?_
          refine w_aload_n b dX9_isTree_88 rfl rfl ?_
          refine m_get b dX9_isTree_89 lfX9_110 rfl ?_
          refine w_iload b dX9_isTree_92 rfl ?_
          refine m_ald (v := F 34 p) b dX9_isTree_94 rfl (by omega) rfl ?_
          refine c_V2v b dX9_isTree_95 lmX9_208 (mp_obj _ _ _ _) (k_X9_join (F := va_up F 31 gr) hA hB h27 (in_inR (by omega) hgr)) (tle rfl) (by omega) (by omega) (by omega) ?_
          refine w_iload b dX9_isTree_98 rfl ?_
          refine w_aload_n b dX9_isTree_100 rfl rfl ?_
          refine w_aload_n b dX9_isTree_101 rfl rfl ?_
          refine m_get b dX9_isTree_102 lfX9_107 rfl ?_
          refine w_iload b dX9_isTree_105 rfl ?_
          refine m_ald (v := F 33 p) b dX9_isTree_107 rfl (by omega) rfl ?_
          refine w_aload_n b dX9_isTree_108 rfl rfl ?_
          refine m_get b dX9_isTree_109 lfX9_110 rfl ?_
          refine w_iload b dX9_isTree_112 rfl ?_
          refine m_ald (v := F 34 p) b dX9_isTree_114 rfl (by omega) rfl ?_
          refine c_V2 (w := .int (iI (apF (F 30 (F 33 p)) (F 30 (F 34 p))))) b dX9_isTree_115 lmX9_205 (mp_obj _ _ _ _) (k_X9_apart (F := va_up (va_up F 31 gr) 31 (joinA (gr (F 34 p)) (gr (F 33 p)) (I 27).toNat 0 gr)) (by omega) (by omega) h30) (tle rfl) (by omega) (by omega) (by omega) ?_
          refine z_isub b dX9_isTree_118 ?_
          have hap := apF_rng (F 30 (F 33 p)) (F 30 (F 34 p))
          refine w_istore b dX9_isTree_119 (tlt rfl) rfl ?_
          refine z_iinc b dX9_isTree_121 rfl rfl rfl ?_
          refine w_goto (tgt := 33) b dX9_isTree_124 (by decide) ?_
          refine ww_cast rfl rfl (σ' := (mp mo h0 I (va_up F 31 (joinA (gr (F 34 p)) (gr (F 33 p)) (I 27).toNat 0 gr)), nx)) (by simp only [va_up_twice, va_up_self]) ?_
          exact ih (p + 1) _ _ (by omega) (by omega) (by omega) (joinA_in hgr (hgr _ hA.1 hA.2)) hq
        · have e1 : itA (F 30) (F 33) (F 34) set (I 27).toNat (n + 1) p left gr = (0, gr) := by
            conv => lhs; unfold itA
            rw [if_neg c45, if_pos c75]
          rw [e1] at hq
          refine z_iconst b dX9_isTree_78 ?_
          exact z_zret b dX9_isTree_79 rfl (by omega) (by omega) (by omega) hq
      · have e1 : itA (F 30) (F 33) (F 34) set (I 27).toNat (n + 1) p left gr = itA (F 30) (F 33) (F 34) set (I 27).toNat n (p + 1) left gr := by
          conv => lhs; unfold itA
          rw [if_pos c45]
        rw [e1] at hq
        refine w_goto (tgt := 121) b dX9_isTree_48 (by decide) ?_
        refine z_iinc b dX9_isTree_121 rfl rfl rfl ?_
        refine w_goto (tgt := 33) b dX9_isTree_124 (by decide) ?_
        exact ih (p + 1) left gr (by omega) (by omega) (by omega) hgr hq
set_option maxRecDepth 20000 in
theorem l_X9_isTree0 {X : Cx} {l0 : Launch} {g : Gw} {Z : State → Prop} {mo nx : Nat} {h0 : Nat → va_E} {I : Nat → Int} (b : BX X l0 g mX9_isTree 1 0 0) {set ps sum : Int} (h27 : 0 ≤ I 27 ∧ I 27 ≤ 8) : ∀ (n : Nat) (i : Int) (F : Nat → Int → Int), (i + n = I 27) → (0 ≤ i) → WW X g mX9_isTree.2.2.1 Z 0 0 27 [some (.ref mo), some (.int (iI (set))), some (.int (iI (ps))), some (.int (iI (sum))), none, none] [] (mp mo h0 I (va_up F 31 (idA n i (F 31))), nx) → WW X g mX9_isTree.2.2.1 Z 0 0 3 [some (.ref mo), some (.int (iI (set))), some (.int (iI (ps))), some (.int (iI (sum))), some (.int (iI (i))), none] [] (mp mo h0 I F, nx) := by
  intro n
  induction n with
  | zero =>
    intro i F h1 h2 kk
    refine w_iload b dX9_isTree_3 rfl ?_
    refine w_aload_n b dX9_isTree_5 rfl rfl ?_
    refine m_get b dX9_isTree_6 lfX9_89 rfl ?_
    refine z_icmp_ge (tgt := 27) b dX9_isTree_9 (by decide) (by omega) (fun c9 => ?_) (fun c9 => ?_)
    · refine ww_forget 4 ?_
      exact ww_cast rfl rfl (by simp only [idA, va_up_same]) kk
    · exfalso; omega
  | succ n ih =>
    intro i F h1 h2 kk
    refine w_iload b dX9_isTree_3 rfl ?_
    refine w_aload_n b dX9_isTree_5 rfl rfl ?_
    refine m_get b dX9_isTree_6 lfX9_89 rfl ?_
    refine z_icmp_ge (tgt := 27) b dX9_isTree_9 (by decide) (by omega) (fun c9 => ?_) (fun c9 => ?_)
    · exfalso; omega
    · refine w_aload_n b dX9_isTree_12 rfl rfl ?_
      refine m_get b dX9_isTree_13 lfX9_101 rfl ?_
      refine w_iload b dX9_isTree_16 rfl ?_
      refine w_iload b dX9_isTree_18 rfl ?_
      refine m_ast b dX9_isTree_20 rfl (by omega) ?_
      refine z_iinc b dX9_isTree_21 rfl rfl rfl ?_
      refine w_goto (tgt := 3) b dX9_isTree_24 (by decide) ?_
      exact ih (i + 1) _ (by omega) (by omega) (ww_cast rfl rfl (by simp only [va_up_self, va_up_twice, idA]) kk) -- kk
set_option maxRecDepth 20000 in
theorem k_X9_isTree {l0 : Launch} {g : Gw} {mo nx : Nat} {h0 : Nat → va_E} {I : Nat → Int} {F : Nat → Int → Int} {set ps sum : Int} (h27 : 0 ≤ I 27 ∧ I 27 ≤ 8) (h30 : ∀ j, 0 ≤ j → j < 8 → 0 ≤ F 30 j ∧ F 30 j < 2 ^ 8) (hs : 0 ≤ set ∧ set < 32768) (hps : 0 ≤ ps ∧ ps ≤ 15) (h33 : ∀ j, 0 ≤ j → j < ps → 0 ≤ F 33 j ∧ F 33 j < I 27) (h34 : ∀ j, 0 ≤ j → j < ps → 0 ≤ F 34 j ∧ F 34 j < I 27) (hsum : 0 ≤ sum ∧ sum ≤ 1000) : MD l0 g 1 mX9_isTree (mp mo h0 I F, nx) [.ref mo, .int (iI (set)), .int (iI (ps)), .int (iI (sum))] 0 0 (some (.int (iI (itA (F 30) (F 33) (F 34) set (I 27).toNat ps.toNat 0 sum (idA (I 27).toNat 0 (F 31))).1))) (mp mo h0 I (va_up F 31 (itA (F 30) (F 33) (F 34) set (I 27).toNat ps.toNat 0 sum (idA (I 27).toNat 0 (F 31))).2), nx) := by
  refine MD.of (by decide +kernel) (by simp [Value.category]) (tle rfl) (fun X b => ?_)
  change WW X g _ _ 0 0 0 [some (.ref mo), some (.int (iI (set))), some (.int (iI (ps))), some (.int (iI (sum))), none, none] [] _
  refine z_iconst b dX9_isTree_0 ?_
  refine w_istore b dX9_isTree_1 (tlt rfl) rfl ?_
  refine l_X9_isTree0 b h27 (I 27).toNat 0 F (by omega) (by omega) ?_
  refine w_iload_n b dX9_isTree_27 rfl ?_
  refine w_istore b dX9_isTree_28 (tlt rfl) rfl ?_
  refine z_iconst b dX9_isTree_30 ?_
  refine w_istore b dX9_isTree_31 (tlt rfl) rfl ?_
  exact l_X9_isTree b h27 h30 hs hps h33 h34 ps.toNat 0 sum _ (by omega) (by omega) (by omega) (fun j g1 g2 => by rw [idA_at, if_pos (by omega)]; omega) ⟨rfl, rfl⟩
