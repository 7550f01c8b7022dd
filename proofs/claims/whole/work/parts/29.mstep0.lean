/-! THE REFERENCE: stepOf beyond 1000 (by p29.py) -/
theorem col7_ex {val : Int → Int} {a m : Int} {f : Int → Int} (h : col7 f) (hv : ∀ j, 0 ≤ j → j < m → 0 ≤ val j ∧ val j ≤ 7) : col7 (exF val a m f) := by
  intro j h1 h2
  unfold exF
  split
  · exact hv _ (by omega) (by omega)
  · exact h j h1 h2
set_option maxRecDepth 20000 in
theorem b_so {X : Cx} {l0 : Launch} {g : Gw} {Q : Option Value → Sg → Prop} {mo nx : Nat} {h0 : Nat → va_E} {I : Nat → Int} {F : Nat → Int → Int} (b : BX X l0 g mX9_stepOf 2 0 0) {x base wide had : Int} (hx : 0 ≤ x ∧ x < 144) (hn : 1 ≤ F 5 x ∧ F 5 x ≤ 40) (hc : 0 ≤ F 6 x ∧ F 6 x ≤ 7) : ∀ (n : Nat) (i a : Int) (f : Int → Int), (a + n = 1000) → (0 ≤ i ∧ 0 ≤ a) → (a + (F 5 x - i) > 1000) → (col7 f) → (∀ f', col7 f' → Q (some (.int (iI 0))) (mp mo h0 (va_up I 13 (1000)) (va_up F 7 (f')), nx)) → WW X g mX9_stepOf.2.2.1 (ZQ X g Q 0 0) 0 0 47 [some (.ref mo), some (.int (iI (x))), some (.int (iI (base))), some (.int (iI (wide))), some (.int (iI (1))), some (.int (iI (had))), some (.int (iI (i)))] [] (mp mo h0 (va_up I 13 (a)) (va_up F 7 (f)), nx) := by
  intro n
  induction n with
  | zero =>
    intro i a f h1 h2 h3 hc7 hq
    refine w_iload b dX9_stepOf_47 rfl ?_
    refine w_aload_n b dX9_stepOf_49 rfl rfl ?_
    refine m_get b dX9_stepOf_50 lfX9_23 rfl ?_
    refine w_iload_n b dX9_stepOf_53 rfl ?_
    refine m_ald (v := F 5 x) b dX9_stepOf_54 rfl (by omega) rfl ?_
    refine z_icmp_ge (tgt := 81) b dX9_stepOf_55 (by decide) (by omega) (fun c55 => ?_) (fun c55 => ?_)
    · exfalso; omega
    · refine w_iload b dX9_stepOf_58 rfl ?_
      refine z_if_eq (tgt := 81) b dX9_stepOf_60 (by decide) (by omega) (fun c60 => ?_) (fun c60 => ?_)
      · exfalso; omega
      · refine w_aload_n b dX9_stepOf_63 rfl rfl ?_
        refine w_aload_n b dX9_stepOf_64 rfl rfl ?_
        refine m_get b dX9_stepOf_65 lfX9_26 rfl ?_
        refine w_iload_n b dX9_stepOf_68 rfl ?_
        refine m_ald (v := F 6 x) b dX9_stepOf_69 rfl (by omega) rfl ?_
        refine c_V1 b dX9_stepOf_70 lmX9_151 (mp_obj _ _ _ _) (k_add0 (by omega)) (tle rfl) (by omega) (by omega) (by omega) ?_
        refine w_istore b dX9_stepOf_73 (tlt rfl) rfl ?_
        refine z_iinc b dX9_stepOf_75 rfl rfl rfl ?_
        refine w_goto (tgt := 47) b dX9_stepOf_78 (by decide) ?_
        refine w_iload b dX9_stepOf_47 rfl ?_
        refine w_aload_n b dX9_stepOf_49 rfl rfl ?_
        refine m_get b dX9_stepOf_50 lfX9_23 rfl ?_
        refine w_iload_n b dX9_stepOf_53 rfl ?_
        refine m_ald (v := F 5 x) b dX9_stepOf_54 rfl (by omega) rfl ?_
        refine z_icmp_ge (tgt := 81) b dX9_stepOf_55 (by decide) (by omega) (fun c55 => ?_) (fun c55 => ?_)
        · refine w_goto (tgt := 205) b dX9_stepOf_81 (by decide) ?_
          refine w_iload b dX9_stepOf_205 rfl ?_
          exact z_zret b dX9_stepOf_207 rfl (by omega) (by omega) (by omega) ((show a = 1000 by omega) ▸ hq f hc7)
        · refine w_iload b dX9_stepOf_58 rfl ?_
          refine z_if_eq (tgt := 81) b dX9_stepOf_60 (by decide) (by omega) (fun c60 => ?_) (fun c60 => ?_)
          · refine w_goto (tgt := 205) b dX9_stepOf_81 (by decide) ?_
            refine w_iload b dX9_stepOf_205 rfl ?_
            exact z_zret b dX9_stepOf_207 rfl (by omega) (by omega) (by omega) ((show a = 1000 by omega) ▸ hq f hc7)
          · exfalso; omega
  | succ n ih =>
    intro i a f h1 h2 h3 hc7 hq
    refine w_iload b dX9_stepOf_47 rfl ?_
    refine w_aload_n b dX9_stepOf_49 rfl rfl ?_
    refine m_get b dX9_stepOf_50 lfX9_23 rfl ?_
    refine w_iload_n b dX9_stepOf_53 rfl ?_
    refine m_ald (v := F 5 x) b dX9_stepOf_54 rfl (by omega) rfl ?_
    refine z_icmp_ge (tgt := 81) b dX9_stepOf_55 (by decide) (by omega) (fun c55 => ?_) (fun c55 => ?_)
    · exfalso; omega
    · refine w_iload b dX9_stepOf_58 rfl ?_
      refine z_if_eq (tgt := 81) b dX9_stepOf_60 (by decide) (by omega) (fun c60 => ?_) (fun c60 => ?_)
      · exfalso; omega
      · refine w_aload_n b dX9_stepOf_63 rfl rfl ?_
        refine w_aload_n b dX9_stepOf_64 rfl rfl ?_
        refine m_get b dX9_stepOf_65 lfX9_26 rfl ?_
        refine w_iload_n b dX9_stepOf_68 rfl ?_
        refine m_ald (v := F 6 x) b dX9_stepOf_69 rfl (by omega) rfl ?_
        refine c_V1 b dX9_stepOf_70 lmX9_151 (mp_obj _ _ _ _) (k_add1 (by omega)) (tle rfl) (by omega) (by omega) (by omega) ?_
        refine w_istore b dX9_stepOf_73 (tlt rfl) rfl ?_
        refine z_iinc b dX9_stepOf_75 rfl rfl rfl ?_
        refine w_goto (tgt := 47) b dX9_stepOf_78 (by decide) ?_
        exact ih (i + 1) (a + 1) _ (by omega) (by omega) (by omega) (col7_fu hc7 hc) hq
set_option maxRecDepth 20000 in
theorem b_up {X : Cx} {l0 : Launch} {g : Gw} {Q : Option Value → Sg → Prop} {mo nx : Nat} {h0 : Nat → va_E} {I : Nat → Int} {F : Nat → Int → Int} (b : BX X l0 g mX9_stepOf 2 0 0) {x base wide had : Int} (hx : 0 ≤ x ∧ x < 144) (hw : wide ≤ 100000) (hb : 0 ≤ base) (hc : 0 ≤ F 6 x ∧ F 6 x ≤ 7) : ∀ (n : Nat) (a : Int) (f : Int → Int), (a + n = 1000) → (base ≤ a) → (1000 - base < wide) → (col7 f) → (∀ f', col7 f' → Q (some (.int (iI 0))) (mp mo h0 (va_up I 13 (1000)) (va_up F 7 (f')), nx)) → WW X g mX9_stepOf.2.2.1 (ZQ X g Q 0 0) 0 0 84 [some (.ref mo), some (.int (iI (x))), some (.int (iI (base))), some (.int (iI (wide))), some (.int (iI (1))), some (.int (iI (had))), none] [] (mp mo h0 (va_up I 13 (a)) (va_up F 7 (f)), nx) := by
  intro n
  induction n with
  | zero =>
    intro a f h1 h2 h3 hc7 hq
    refine w_iload b dX9_stepOf_84 rfl ?_
    refine z_if_eq (tgt := 205) b dX9_stepOf_86 (by decide) (by omega) (fun c86 => ?_) (fun c86 => ?_)
    · exfalso; omega
    · refine w_aload_n b dX9_stepOf_89 rfl rfl ?_
      refine m_get (v := .int (iI a)) b dX9_stepOf_90 lfX9_47 rfl ?_
      refine w_iload_n b dX9_stepOf_93 rfl ?_
      refine z_isub b dX9_stepOf_94 ?_
      refine w_iload_n b dX9_stepOf_95 rfl ?_
      refine z_icmp_ge (tgt := 205) b dX9_stepOf_96 (by decide) (by omega) (fun c96 => ?_) (fun c96 => ?_)
      · exfalso; omega
      · refine w_aload_n b dX9_stepOf_99 rfl rfl ?_
        refine w_aload_n b dX9_stepOf_100 rfl rfl ?_
        refine m_get b dX9_stepOf_101 lfX9_26 rfl ?_
        refine w_iload_n b dX9_stepOf_104 rfl ?_
        refine m_ald (v := F 6 x) b dX9_stepOf_105 rfl (by omega) rfl ?_
        refine c_V1 b dX9_stepOf_106 lmX9_151 (mp_obj _ _ _ _) (k_add0 (by omega)) (tle rfl) (by omega) (by omega) (by omega) ?_
        refine w_istore b dX9_stepOf_109 (tlt rfl) rfl ?_
        refine w_goto (tgt := 84) b dX9_stepOf_111 (by decide) ?_
        refine w_iload b dX9_stepOf_84 rfl ?_
        refine z_if_eq (tgt := 205) b dX9_stepOf_86 (by decide) (by omega) (fun c86 => ?_) (fun c86 => ?_)
        · refine w_iload b dX9_stepOf_205 rfl ?_
          exact z_zret b dX9_stepOf_207 rfl (by omega) (by omega) (by omega) ((show a = 1000 by omega) ▸ hq f hc7)
        · exfalso; omega
  | succ n ih =>
    intro a f h1 h2 h3 hc7 hq
    refine w_iload b dX9_stepOf_84 rfl ?_
    refine z_if_eq (tgt := 205) b dX9_stepOf_86 (by decide) (by omega) (fun c86 => ?_) (fun c86 => ?_)
    · exfalso; omega
    · refine w_aload_n b dX9_stepOf_89 rfl rfl ?_
      refine m_get (v := .int (iI a)) b dX9_stepOf_90 lfX9_47 rfl ?_
      refine w_iload_n b dX9_stepOf_93 rfl ?_
      refine z_isub b dX9_stepOf_94 ?_
      refine w_iload_n b dX9_stepOf_95 rfl ?_
      refine z_icmp_ge (tgt := 205) b dX9_stepOf_96 (by decide) (by omega) (fun c96 => ?_) (fun c96 => ?_)
      · exfalso; omega
      · refine w_aload_n b dX9_stepOf_99 rfl rfl ?_
        refine w_aload_n b dX9_stepOf_100 rfl rfl ?_
        refine m_get b dX9_stepOf_101 lfX9_26 rfl ?_
        refine w_iload_n b dX9_stepOf_104 rfl ?_
        refine m_ald (v := F 6 x) b dX9_stepOf_105 rfl (by omega) rfl ?_
        refine c_V1 b dX9_stepOf_106 lmX9_151 (mp_obj _ _ _ _) (k_add1 (by omega)) (tle rfl) (by omega) (by omega) (by omega) ?_
        refine w_istore b dX9_stepOf_109 (tlt rfl) rfl ?_
        refine w_goto (tgt := 84) b dX9_stepOf_111 (by decide) ?_
        exact ih (a + 1) _ (by omega) (by omega) (by omega) (col7_fu hc7 hc) hq
theorem blF_rng {I : Nat → Int} {F : Nat → Int → Int} {n p : Int} (h23 : ∀ j, 0 ≤ j → j < 1600 → 0 ≤ F 23 j ∧ F 23 j ≤ 7) (h21 : 0 ≤ I 21 ∧ I 21 ≤ 40) (h1_ : 4 ≤ I 1 ∧ I 1 ≤ 40) (hn : 1 ≤ n) (hp : 0 ≤ p) : 0 ≤ blF I F n p ∧ blF I F n p ≤ 7 := by
  unfold blF
  split
  · omega
  · exact h23 _ (by omega) (by omega)
set_option maxRecDepth 20000 in
theorem b_li {X : Cx} {l0 : Launch} {g : Gw} {Q : Option Value → Sg → Prop} {mo nx : Nat} {h0 : Nat → va_E} {I : Nat → Int} {F : Nat → Int → Int} (b : BX X l0 g mX9_stepOf 2 0 0) {x base wide had : Int} (hx : 0 ≤ x ∧ x < 144) (hw : wide ≤ 100000) (hb : 0 ≤ base) (hn : 1 ≤ F 5 x ∧ F 5 x ≤ 9) (h21 : 0 ≤ I 21 ∧ I 21 ≤ 40) (h1_ : 4 ≤ I 1 ∧ I 1 ≤ 40) (h23 : ∀ j, 0 ≤ j → j < 1600 → 0 ≤ F 23 j ∧ F 23 j ≤ 7) : ∀ (n : Nat) (a : Int) (f : Int → Int), (a + n = 1000) → (base ≤ a) → (1000 - base < wide) → (col7 f) → (∀ f', col7 f' → Q (some (.int (iI 0))) (mp mo h0 (va_up I 13 (1000)) (va_up F 7 (f')), nx)) → WW X g mX9_stepOf.2.2.1 (ZQ X g Q 0 0) 0 0 165 [some (.ref mo), some (.int (iI (x))), some (.int (iI (base))), some (.int (iI (wide))), some (.int (iI (1))), some (.int (iI (had))), none] [] (mp mo h0 (va_up I 13 (a)) (va_up F 7 (f)), nx) := by
  intro n
  induction n with
  | zero =>
    intro a f h1 h2 h3 hc7 hq
    refine w_iload b dX9_stepOf_165 rfl ?_
    refine z_if_eq (tgt := 205) b dX9_stepOf_167 (by decide) (by omega) (fun c167 => ?_) (fun c167 => ?_)
    · exfalso; omega
    · refine w_aload_n b dX9_stepOf_170 rfl rfl ?_
      refine m_get (v := .int (iI a)) b dX9_stepOf_171 lfX9_47 rfl ?_
      refine w_iload_n b dX9_stepOf_174 rfl ?_
      refine z_isub b dX9_stepOf_175 ?_
      refine w_iload_n b dX9_stepOf_176 rfl ?_
      refine z_icmp_ge (tgt := 205) b dX9_stepOf_177 (by decide) (by omega) (fun c177 => ?_) (fun c177 => ?_)
      · exfalso; omega
      · refine w_aload_n b dX9_stepOf_180 rfl rfl ?_
        refine w_aload_n b dX9_stepOf_181 rfl rfl ?_
        refine w_aload_n b dX9_stepOf_182 rfl rfl ?_
        refine m_get b dX9_stepOf_183 lfX9_23 rfl ?_
        refine w_iload_n b dX9_stepOf_186 rfl ?_
        refine m_ald (v := F 5 x) b dX9_stepOf_187 rfl (by omega) rfl ?_
        refine w_aload_n b dX9_stepOf_188 rfl rfl ?_
        refine m_get (v := .int (iI a)) b dX9_stepOf_189 lfX9_47 rfl ?_
        refine w_iload_n b dX9_stepOf_192 rfl ?_
        refine z_isub b dX9_stepOf_193 ?_
        refine c_V2 (w := .int (iI (blF I F (F 5 x) (a - base)))) b dX9_stepOf_194 lmX9_158 (mp_obj _ _ _ _) (k_X9_below (I := va_up I 13 a) (F := va_up F 7 f) (r := F 5 x) hn (by omega) h21 h1_) (tle rfl) (by omega) (by omega) (by omega) ?_
        refine c_V1 b dX9_stepOf_197 lmX9_151 (mp_obj _ _ _ _) (k_add0 (by omega)) (tle rfl) (by omega) (by omega) (by omega) ?_
        refine w_istore b dX9_stepOf_200 (tlt rfl) rfl ?_
        refine w_goto (tgt := 165) b dX9_stepOf_202 (by decide) ?_
        refine w_iload b dX9_stepOf_165 rfl ?_
        refine z_if_eq (tgt := 205) b dX9_stepOf_167 (by decide) (by omega) (fun c167 => ?_) (fun c167 => ?_)
        · refine w_iload b dX9_stepOf_205 rfl ?_
          exact z_zret b dX9_stepOf_207 rfl (by omega) (by omega) (by omega) ((show a = 1000 by omega) ▸ hq f hc7)
        · exfalso; omega
  | succ n ih =>
    intro a f h1 h2 h3 hc7 hq
    refine w_iload b dX9_stepOf_165 rfl ?_
    refine z_if_eq (tgt := 205) b dX9_stepOf_167 (by decide) (by omega) (fun c167 => ?_) (fun c167 => ?_)
    · exfalso; omega
    · refine w_aload_n b dX9_stepOf_170 rfl rfl ?_
      refine m_get (v := .int (iI a)) b dX9_stepOf_171 lfX9_47 rfl ?_
      refine w_iload_n b dX9_stepOf_174 rfl ?_
      refine z_isub b dX9_stepOf_175 ?_
      refine w_iload_n b dX9_stepOf_176 rfl ?_
      refine z_icmp_ge (tgt := 205) b dX9_stepOf_177 (by decide) (by omega) (fun c177 => ?_) (fun c177 => ?_)
      · exfalso; omega
      · refine w_aload_n b dX9_stepOf_180 rfl rfl ?_
        refine w_aload_n b dX9_stepOf_181 rfl rfl ?_
        refine w_aload_n b dX9_stepOf_182 rfl rfl ?_
        refine m_get b dX9_stepOf_183 lfX9_23 rfl ?_
        refine w_iload_n b dX9_stepOf_186 rfl ?_
        refine m_ald (v := F 5 x) b dX9_stepOf_187 rfl (by omega) rfl ?_
        refine w_aload_n b dX9_stepOf_188 rfl rfl ?_
        refine m_get (v := .int (iI a)) b dX9_stepOf_189 lfX9_47 rfl ?_
        refine w_iload_n b dX9_stepOf_192 rfl ?_
        refine z_isub b dX9_stepOf_193 ?_
        refine c_V2 (w := .int (iI (blF I F (F 5 x) (a - base)))) b dX9_stepOf_194 lmX9_158 (mp_obj _ _ _ _) (k_X9_below (I := va_up I 13 a) (F := va_up F 7 f) (r := F 5 x) hn (by omega) h21 h1_) (tle rfl) (by omega) (by omega) (by omega) ?_
        refine c_V1 b dX9_stepOf_197 lmX9_151 (mp_obj _ _ _ _) (k_add1 (by omega)) (tle rfl) (by omega) (by omega) (by omega) ?_
        refine w_istore b dX9_stepOf_200 (tlt rfl) rfl ?_
        refine w_goto (tgt := 165) b dX9_stepOf_202 (by decide) ?_
        exact ih (a + 1) _ (by omega) (by omega) (by omega) (col7_fu hc7 (blF_rng h23 h21 h1_ hn.1 (by omega))) hq
set_option maxRecDepth 20000 in
theorem b_ag {X : Cx} {l0 : Launch} {g : Gw} {Q : Option Value → Sg → Prop} {mo nx : Nat} {h0 : Nat → va_E} {I : Nat → Int} {F : Nat → Int → Int} (b : BX X l0 g mX9_stepOf 2 0 0) {x base wide had : Int} (hx : 0 ≤ x ∧ x < 144) (hn : 1 ≤ F 5 x ∧ F 5 x ≤ 9) (hb : 0 ≤ base ∧ base ≤ had) : ∀ (n : Nat) (r a : Int) (f : Int → Int), (r + n = F 5 x) → (0 ≤ r) → (a + (had - base) * (F 5 x - r) > 1000) → (had ≤ a ∧ a ≤ 1000) → (col7 f) → (∀ f', col7 f' → Q (some (.int (iI 0))) (mp mo h0 (va_up I 13 (1000)) (va_up F 7 (f')), nx)) → WW X g mX9_stepOf.2.2.1 (ZQ X g Q 0 0) 0 0 130 [some (.ref mo), some (.int (iI (x))), some (.int (iI (base))), some (.int (iI (wide))), some (.int (iI (1))), some (.int (iI (had))), some (.int (iI (r)))] [] (mp mo h0 (va_up I 13 (a)) (va_up F 7 (f)), nx) := by
  intro n
  induction n with
  | zero =>
    intro r a f h1 h2 h3 h4 hc7 hq
    refine w_iload b dX9_stepOf_130 rfl ?_
    refine w_aload_n b dX9_stepOf_132 rfl rfl ?_
    refine m_get b dX9_stepOf_133 lfX9_23 rfl ?_
    refine w_iload_n b dX9_stepOf_136 rfl ?_
    refine m_ald (v := F 5 x) b dX9_stepOf_137 rfl (by omega) rfl ?_
    refine z_icmp_ge (tgt := 162) b dX9_stepOf_138 (by decide) (by omega) (fun c138 => ?_) (fun c138 => ?_)
    · exfalso
      rw [show F 5 x - r = 0 by omega, Int.mul_zero] at h3
      omega
    · exfalso; omega
  | succ n ih =>
    intro r a f h1 h2 h3 h4 hc7 hq
    refine w_iload b dX9_stepOf_130 rfl ?_
    refine w_aload_n b dX9_stepOf_132 rfl rfl ?_
    refine m_get b dX9_stepOf_133 lfX9_23 rfl ?_
    refine w_iload_n b dX9_stepOf_136 rfl ?_
    refine m_ald (v := F 5 x) b dX9_stepOf_137 rfl (by omega) rfl ?_
    refine z_icmp_ge (tgt := 162) b dX9_stepOf_138 (by decide) (by omega) (fun c138 => ?_) (fun c138 => ?_)
    · exfalso; omega
    · refine w_iload b dX9_stepOf_141 rfl ?_
      refine z_if_eq (tgt := 162) b dX9_stepOf_143 (by decide) (by omega) (fun c143 => ?_) (fun c143 => ?_)
      · exfalso; omega
      · refine w_aload_n b dX9_stepOf_146 rfl rfl ?_
        refine w_iload_n b dX9_stepOf_147 rfl ?_
        refine w_iload b dX9_stepOf_148 rfl ?_
        refine z_iconst b dX9_stepOf_150 ?_
        by_cases hf9 : a + (had - base) > 1000
        · refine w_callV (vs := [_, _, _]) b dX9_stepOf_151 lmX9_154 rfl rfl (mp_obj _ _ _ _) (tle rfl) (by omega) (by omega) (by omega) (k_addAll0 hb (by omega) (Or.inl rfl) (by omega) hf9 hc7) (fun r9 σ9 hq9 => ?_)
          obtain ⟨rfl, f9, hc9, rfl⟩ := hq9
          refine w_istore b dX9_stepOf_154 (tlt rfl) rfl ?_
          refine z_iinc b dX9_stepOf_156 rfl rfl rfl ?_
          refine w_goto (tgt := 130) b dX9_stepOf_159 (by decide) ?_
          refine w_iload b dX9_stepOf_130 rfl ?_
          refine w_aload_n b dX9_stepOf_132 rfl rfl ?_
          refine m_get b dX9_stepOf_133 lfX9_23 rfl ?_
          refine w_iload_n b dX9_stepOf_136 rfl ?_
          refine m_ald (v := F 5 x) b dX9_stepOf_137 rfl (by omega) rfl ?_
          refine z_icmp_ge (tgt := 162) b dX9_stepOf_138 (by decide) (by omega) (fun c138 => ?_) (fun c138 => ?_)
          · refine w_goto (tgt := 205) b dX9_stepOf_162 (by decide) ?_
            refine w_iload b dX9_stepOf_205 rfl ?_
            exact z_zret b dX9_stepOf_207 rfl (by omega) (by omega) (by omega) (hq f9 hc9)
          · refine w_iload b dX9_stepOf_141 rfl ?_
            refine z_if_eq (tgt := 162) b dX9_stepOf_143 (by decide) (by omega) (fun c143 => ?_) (fun c143 => ?_)
            · refine w_goto (tgt := 205) b dX9_stepOf_162 (by decide) ?_
              refine w_iload b dX9_stepOf_205 rfl ?_
              exact z_zret b dX9_stepOf_207 rfl (by omega) (by omega) (by omega) (hq f9 hc9)
            · exfalso; omega
        · refine c_V3 b dX9_stepOf_151 lmX9_154 (mp_obj _ _ _ _) (k_addAll1 (fr := base) (to := had) (bk := 0) (by omega) (by omega) (by omega) (Or.inl rfl)) (tle rfl) (by omega) (by omega) (by omega) ?_
          refine w_istore b dX9_stepOf_154 (tlt rfl) rfl ?_
          refine z_iinc b dX9_stepOf_156 rfl rfl rfl ?_
          refine w_goto (tgt := 130) b dX9_stepOf_159 (by decide) ?_
          exact ih (r + 1) (a + (had - base)) _ (by omega) (by omega) (by rw [show F 5 x - r = (F 5 x - (r + 1)) + 1 by omega, Int.mul_add] at h3; omega) (by omega) (col7_ex hc7 (fun j g1 g2 => by show 0 ≤ (if (0 : Int) = 0 then _ else _) ∧ _; rw [if_pos rfl]; exact hc7 _ (by omega) (by omega))) hq
theorem k_stepOf0 {l0 : Launch} {g : Gw} {mo nx : Nat} {h0 : Nat → va_E} {I : Nat → Int} {F : Nat → Int → Int} {x base wide a : Int} {f : Int → Int} (hx : 0 ≤ x ∧ x < 144) (hk : F 4 x = 0 ∨ F 4 x = 1 ∨ F 4 x = 2 ∨ F 4 x = 3 ∨ F 4 x = 5) (h5 : (F 4 x = 0 → 1 ≤ F 5 x ∧ F 5 x ≤ 40) ∧ ((F 4 x = 3 ∨ F 4 x = 5) → 1 ≤ F 5 x ∧ F 5 x ≤ 9)) (hw : -100000 ≤ wide ∧ wide ≤ 1000) (hb : 0 ≤ base ∧ base ≤ a) (ha : a ≤ 1000) (h21 : 0 ≤ I 21 ∧ I 21 ≤ 40) (h1_ : 4 ≤ I 1 ∧ I 1 ≤ 40) (h6 : (F 4 x = 0 ∨ F 4 x = 1) → 0 ≤ F 6 x ∧ F 6 x ≤ 7) (h23 : ∀ j, 0 ≤ j → j < 1600 → 0 ≤ F 23 j ∧ F 23 j ≤ 7) (hc7 : col7 f) (hfit : ¬ a + amF (F 4 x) (F 5 x) (a - base) wide ≤ 1000) : MM l0 g 2 mX9_stepOf (mp mo h0 (va_up I 13 (a)) (va_up F 7 (f)), nx) [.ref mo, .int (iI x), .int (iI base), .int (iI wide)] 0 0 (fun r σ' => r = some (.int (iI 0)) ∧ ∃ f', col7 f' ∧ σ' = (mp mo h0 (va_up I 13 (1000)) (va_up F 7 (f')), nx)) := by
  refine MM.of (by decide +kernel) (by simp [Value.category]) (tle rfl) (fun X b => ?_)
  change WW X g _ _ 0 0 0 [some (.ref mo), some (.int (iI x)), some (.int (iI base)), some (.int (iI wide)), none, none, none] [] _
  rcases hk with hk | hk | hk | hk | hk
  · have e : amF (F 4 x) (F 5 x) (a - base) wide = F 5 x := by rw [hk]; rfl
    rw [e] at hfit
    refine z_iconst b dX9_stepOf_0 ?_
    refine w_istore b dX9_stepOf_1 (tlt rfl) rfl ?_
    refine w_aload_n b dX9_stepOf_3 rfl rfl ?_
    refine m_get (v := .int (iI a)) b dX9_stepOf_4 lfX9_47 rfl ?_
    refine w_istore b dX9_stepOf_7 (tlt rfl) rfl ?_
    refine w_aload_n b dX9_stepOf_9 rfl rfl ?_
    refine m_get b dX9_stepOf_10 lfX9_20 rfl ?_
    refine w_iload_n b dX9_stepOf_13 rfl ?_
    refine m_ald (v := 0) b dX9_stepOf_14 rfl (by omega) hk ?_
    refine w_tswI (tgt := 44) b dX9_stepOf_15 (by decide) (by decide) rfl (by decide) ?_
    refine z_iconst b dX9_stepOf_44 ?_
    refine w_istore b dX9_stepOf_45 (tlt rfl) rfl ?_
    exact b_so b hx (h5.1 hk) (h6 (Or.inl hk)) (1000 - a).toNat 0 a f (by omega) (by omega) (by omega) hc7 (fun f9 hc9 => ⟨rfl, f9, hc9, rfl⟩)
  · have e : amF (F 4 x) (F 5 x) (a - base) wide = (if a - base < wide then wide - (a - base) else 0) := by rw [hk]; rfl
    rw [e] at hfit
    have hsp : 1000 - base < wide := by
      by_cases z : a - base < wide
      · rw [if_pos z] at hfit; omega
      · rw [if_neg z] at hfit; omega
    refine z_iconst b dX9_stepOf_0 ?_
    refine w_istore b dX9_stepOf_1 (tlt rfl) rfl ?_
    refine w_aload_n b dX9_stepOf_3 rfl rfl ?_
    refine m_get (v := .int (iI a)) b dX9_stepOf_4 lfX9_47 rfl ?_
    refine w_istore b dX9_stepOf_7 (tlt rfl) rfl ?_
    refine w_aload_n b dX9_stepOf_9 rfl rfl ?_
    refine m_get b dX9_stepOf_10 lfX9_20 rfl ?_
    refine w_iload_n b dX9_stepOf_13 rfl ?_
    refine m_ald (v := 1) b dX9_stepOf_14 rfl (by omega) hk ?_
    refine w_tswI (tgt := 84) b dX9_stepOf_15 (by decide) (by decide) rfl (by decide) ?_
    exact b_up b hx (by omega) hb.1 (h6 (Or.inr hk)) (1000 - a).toNat a f (by omega) hb.2 hsp hc7 (fun f9 hc9 => ⟨rfl, f9, hc9, rfl⟩)
  · have e : amF (F 4 x) (F 5 x) (a - base) wide = (a - base) := by rw [hk]; rfl
    rw [e] at hfit
    refine z_iconst b dX9_stepOf_0 ?_
    refine w_istore b dX9_stepOf_1 (tlt rfl) rfl ?_
    refine w_aload_n b dX9_stepOf_3 rfl rfl ?_
    refine m_get (v := .int (iI a)) b dX9_stepOf_4 lfX9_47 rfl ?_
    refine w_istore b dX9_stepOf_7 (tlt rfl) rfl ?_
    refine w_aload_n b dX9_stepOf_9 rfl rfl ?_
    refine m_get b dX9_stepOf_10 lfX9_20 rfl ?_
    refine w_iload_n b dX9_stepOf_13 rfl ?_
    refine m_ald (v := 2) b dX9_stepOf_14 rfl (by omega) hk ?_
    refine w_tswI (tgt := 114) b dX9_stepOf_15 (by decide) (by decide) rfl (by decide) ?_
    refine w_aload_n b dX9_stepOf_114 rfl rfl ?_
    refine w_iload_n b dX9_stepOf_115 rfl ?_
    refine w_iload b dX9_stepOf_116 rfl ?_
    refine z_iconst b dX9_stepOf_118 ?_
    refine w_callV (vs := [_, _, _]) b dX9_stepOf_119 lmX9_154 rfl rfl (mp_obj _ _ _ _) (tle rfl) (by omega) (by omega) (by omega) (k_addAll0 hb (by omega) (Or.inr rfl) (by omega) (by omega) hc7) (fun r9 σ9 hq9 => ?_)
    obtain ⟨rfl, f9, hc9, rfl⟩ := hq9
    refine w_istore b dX9_stepOf_122 (tlt rfl) rfl ?_
    refine w_goto (tgt := 205) b dX9_stepOf_124 (by decide) ?_
    refine w_iload b dX9_stepOf_205 rfl ?_
    exact z_zret b dX9_stepOf_207 rfl (by omega) (by omega) (by omega) ⟨rfl, f9, hc9, rfl⟩
  · have e : amF (F 4 x) (F 5 x) (a - base) wide = (a - base) * F 5 x := by rw [hk]; rfl
    rw [e] at hfit
    refine z_iconst b dX9_stepOf_0 ?_
    refine w_istore b dX9_stepOf_1 (tlt rfl) rfl ?_
    refine w_aload_n b dX9_stepOf_3 rfl rfl ?_
    refine m_get (v := .int (iI a)) b dX9_stepOf_4 lfX9_47 rfl ?_
    refine w_istore b dX9_stepOf_7 (tlt rfl) rfl ?_
    refine w_aload_n b dX9_stepOf_9 rfl rfl ?_
    refine m_get b dX9_stepOf_10 lfX9_20 rfl ?_
    refine w_iload_n b dX9_stepOf_13 rfl ?_
    refine m_ald (v := 3) b dX9_stepOf_14 rfl (by omega) hk ?_
    refine w_tswI (tgt := 127) b dX9_stepOf_15 (by decide) (by decide) rfl (by decide) ?_
    refine z_iconst b dX9_stepOf_127 ?_
    refine w_istore b dX9_stepOf_128 (tlt rfl) rfl ?_
    exact b_ag b hx (h5.2 (Or.inl hk)) hb (F 5 x).toNat 0 a f (by have := h5.2 (Or.inl hk); omega) (by omega) (by rw [Int.sub_zero]; omega) (by omega) hc7 (fun f9 hc9 => ⟨rfl, f9, hc9, rfl⟩)
  · have e : amF (F 4 x) (F 5 x) (a - base) wide = (if a - base < wide then wide - (a - base) else 0) := by rw [hk]; rfl
    rw [e] at hfit
    have hsp : 1000 - base < wide := by
      by_cases z : a - base < wide
      · rw [if_pos z] at hfit; omega
      · rw [if_neg z] at hfit; omega
    refine z_iconst b dX9_stepOf_0 ?_
    refine w_istore b dX9_stepOf_1 (tlt rfl) rfl ?_
    refine w_aload_n b dX9_stepOf_3 rfl rfl ?_
    refine m_get (v := .int (iI a)) b dX9_stepOf_4 lfX9_47 rfl ?_
    refine w_istore b dX9_stepOf_7 (tlt rfl) rfl ?_
    refine w_aload_n b dX9_stepOf_9 rfl rfl ?_
    refine m_get b dX9_stepOf_10 lfX9_20 rfl ?_
    refine w_iload_n b dX9_stepOf_13 rfl ?_
    refine m_ald (v := 5) b dX9_stepOf_14 rfl (by omega) hk ?_
    refine w_tswO (tgt := 165) b dX9_stepOf_15 (by decide) (by decide) ?_
    exact b_li b hx (by omega) hb.1 (h5.2 (Or.inr hk)) h21 h1_ h23 (1000 - a).toNat a f (by omega) hb.2 hsp hc7 (fun f9 hc9 => ⟨rfl, f9, hc9, rfl⟩)
