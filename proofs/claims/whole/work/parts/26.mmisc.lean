/-! THE REFERENCE: copy, step, count, shifts, rivals (by p26.py) -/
set_option maxRecDepth 20000 in
theorem k_X9_copy0 {l0 : Launch} {g : Gw} {mo nx : Nat} {h0 : Nat → va_E} {I : Nat → Int} {F : Nat → Int → Int} {d i e j n : Int} (hd : inR d) (he : inR e) (hi : inR i) (hj : inR j) (hn : inR n) (h35 : ∀ j, 0 ≤ j → j ≤ 7 → 0 ≤ F 35 j ∧ F 35 j ≤ 4) (h39 : ∀ j, 0 ≤ j → j ≤ 7 → 0 ≤ F 39 j ∧ F 39 j ≤ 60) (hbad : ¬ ((0 ≤ d ∧ d ≤ 7) ∧ (0 ≤ e ∧ e ≤ 7) ∧ 3 ≤ F 35 d ∧ F 35 d = F 35 e ∧ 0 ≤ n ∧ 0 ≤ i ∧ 0 ≤ j ∧ i ≤ F 39 d - n ∧ j ≤ F 39 e - n)) : MD l0 g 2 mX9_copy (mp mo h0 I F, nx) [.ref mo, .int (iI (d)), .int (iI (i)), .int (iI (e)), .int (iI (j)), .int (iI (n))] 0 0 (some (.int (iI (if (0 ≤ d ∧ d ≤ 7) ∧ (0 ≤ e ∧ e ≤ 7) then (if F 35 d = 0 ∨ F 35 e = 0 then -11 else if F 35 d < 3 ∨ ¬ F 35 d = F 35 e then -12 else -13) else -1)))) (mp mo h0 I F, nx) := by
  refine MD.of (by decide +kernel) (by simp [Value.category]) (tle rfl) (fun X b => ?_)
  change WW X g _ _ 0 0 0 [some (.ref mo), some (.int (iI (d))), some (.int (iI (i))), some (.int (iI (e))), some (.int (iI (j))), some (.int (iI (n))), none] [] _
  refine w_aload_n b dX9_copy_0 rfl rfl ?_
  refine w_iload_n b dX9_copy_1 rfl ?_
  refine c_V1 b dX9_copy_2 lmX9_222 (mp_obj _ _ _ _) (k_X9_isShelf (by omega)) (tle rfl) (by omega) (by omega) (by omega) ?_
  refine z_ifb_eq (tgt := 16) b dX9_copy_5 (by decide) (fun c5 => ?_) (fun c5 => ?_)
  · refine z_iconst b dX9_copy_16 ?_
    exact w_iret b dX9_copy_17 rfl (by omega) (by omega) ⟨iv_eq (by first | rfl | omega | ((try simp only [b2]); ((repeat' split) <;> (first | rfl | omega)))), rfl⟩
  · refine w_aload_n b dX9_copy_8 rfl rfl ?_
    refine w_iload_n b dX9_copy_9 rfl ?_
    refine c_V1 b dX9_copy_10 lmX9_222 (mp_obj _ _ _ _) (k_X9_isShelf (by omega)) (tle rfl) (by omega) (by omega) (by omega) ?_
    refine z_ifb_ne (tgt := 18) b dX9_copy_13 (by decide) (fun c13 => ?_) (fun c13 => ?_)
    · have hsh : (0 ≤ d ∧ d ≤ 7) ∧ (0 ≤ e ∧ e ≤ 7) := ⟨by omega, by omega⟩
      have hd5 := h35 d hsh.1.1 hsh.1.2
      have he5 := h35 e hsh.2.1 hsh.2.2
      have hd9 := h39 d hsh.1.1 hsh.1.2
      have he9 := h39 e hsh.2.1 hsh.2.2
      refine w_aload_n b dX9_copy_18 rfl rfl ?_
      refine m_get b dX9_copy_19 lfX9_113 rfl ?_
      refine w_iload_n b dX9_copy_22 rfl ?_
      refine m_ald b dX9_copy_23 rfl (by omega) rfl ?_
      refine z_if_eq (tgt := 36) b dX9_copy_24 (by decide) (by omega) (fun c24 => ?_) (fun c24 => ?_)
      · refine z_bipush b dX9_copy_36 (by decide) ?_
        exact w_iret b dX9_copy_38 rfl (by omega) (by omega) ⟨iv_eq (by first | rfl | omega | ((try simp only [b2]); ((repeat' split) <;> (first | rfl | omega)))), rfl⟩
      · refine w_aload_n b dX9_copy_27 rfl rfl ?_
        refine m_get b dX9_copy_28 lfX9_113 rfl ?_
        refine w_iload_n b dX9_copy_31 rfl ?_
        refine m_ald b dX9_copy_32 rfl (by omega) rfl ?_
        refine z_if_ne (tgt := 39) b dX9_copy_33 (by decide) (by omega) (fun c33 => ?_) (fun c33 => ?_)
        · refine w_aload_n b dX9_copy_39 rfl rfl ?_
          refine m_get b dX9_copy_40 lfX9_113 rfl ?_
          refine w_iload_n b dX9_copy_43 rfl ?_
          refine m_ald b dX9_copy_44 rfl (by omega) rfl ?_
          refine z_iconst b dX9_copy_45 ?_
          refine z_icmp_lt (tgt := 64) b dX9_copy_46 (by decide) (by omega) (fun c46 => ?_) (fun c46 => ?_)
          · refine z_bipush b dX9_copy_64 (by decide) ?_
            exact w_iret b dX9_copy_66 rfl (by omega) (by omega) ⟨iv_eq (by first | rfl | omega | ((try simp only [b2]); ((repeat' split) <;> (first | rfl | omega)))), rfl⟩
          · refine w_aload_n b dX9_copy_49 rfl rfl ?_
            refine m_get b dX9_copy_50 lfX9_113 rfl ?_
            refine w_iload_n b dX9_copy_53 rfl ?_
            refine m_ald b dX9_copy_54 rfl (by omega) rfl ?_
            refine w_aload_n b dX9_copy_55 rfl rfl ?_
            refine m_get b dX9_copy_56 lfX9_113 rfl ?_
            refine w_iload_n b dX9_copy_59 rfl ?_
            refine m_ald b dX9_copy_60 rfl (by omega) rfl ?_
            refine z_icmp_eq (tgt := 67) b dX9_copy_61 (by decide) (by omega) (fun c61 => ?_) (fun c61 => ?_)
            · refine w_iload b dX9_copy_67 rfl ?_
              refine z_if_lt (tgt := 108) b dX9_copy_69 (by decide) (by omega) (fun c69 => ?_) (fun c69 => ?_)
              · refine z_bipush b dX9_copy_108 (by decide) ?_
                exact w_iret b dX9_copy_110 rfl (by omega) (by omega) ⟨iv_eq (by first | rfl | omega | ((try simp only [b2]); ((repeat' split) <;> (first | rfl | omega)))), rfl⟩
              · refine w_iload_n b dX9_copy_72 rfl ?_
                refine z_if_lt (tgt := 108) b dX9_copy_73 (by decide) (by omega) (fun c73 => ?_) (fun c73 => ?_)
                · refine z_bipush b dX9_copy_108 (by decide) ?_
                  exact w_iret b dX9_copy_110 rfl (by omega) (by omega) ⟨iv_eq (by first | rfl | omega | ((try simp only [b2]); ((repeat' split) <;> (first | rfl | omega)))), rfl⟩
                · refine w_iload b dX9_copy_76 rfl ?_
                  refine z_if_lt (tgt := 108) b dX9_copy_78 (by decide) (by omega) (fun c78 => ?_) (fun c78 => ?_)
                  · refine z_bipush b dX9_copy_108 (by decide) ?_
                    exact w_iret b dX9_copy_110 rfl (by omega) (by omega) ⟨iv_eq (by first | rfl | omega | ((try simp only [b2]); ((repeat' split) <;> (first | rfl | omega)))), rfl⟩
                  · refine w_iload_n b dX9_copy_81 rfl ?_
                    refine w_aload_n b dX9_copy_82 rfl rfl ?_
                    refine m_get b dX9_copy_83 lfX9_125 rfl ?_
                    refine w_iload_n b dX9_copy_86 rfl ?_
                    refine m_ald b dX9_copy_87 rfl (by omega) rfl ?_
                    refine w_iload b dX9_copy_88 rfl ?_
                    refine z_isub b dX9_copy_90 ?_
                    refine z_icmp_gt (tgt := 108) b dX9_copy_91 (by decide) (by omega) (fun c91 => ?_) (fun c91 => ?_)
                    · refine z_bipush b dX9_copy_108 (by decide) ?_
                      exact w_iret b dX9_copy_110 rfl (by omega) (by omega) ⟨iv_eq (by first | rfl | omega | ((try simp only [b2]); ((repeat' split) <;> (first | rfl | omega)))), rfl⟩
                    · refine w_iload b dX9_copy_94 rfl ?_
                      refine w_aload_n b dX9_copy_96 rfl rfl ?_
                      refine m_get b dX9_copy_97 lfX9_125 rfl ?_
                      refine w_iload_n b dX9_copy_100 rfl ?_
                      refine m_ald b dX9_copy_101 rfl (by omega) rfl ?_
                      refine w_iload b dX9_copy_102 rfl ?_
                      refine z_isub b dX9_copy_104 ?_
                      refine z_icmp_le (tgt := 111) b dX9_copy_105 (by decide) (by omega) (fun c105 => ?_) (fun c105 => ?_)
                      · exfalso; omega
                      · refine z_bipush b dX9_copy_108 (by decide) ?_
                        exact w_iret b dX9_copy_110 rfl (by omega) (by omega) ⟨iv_eq (by first | rfl | omega | ((try simp only [b2]); ((repeat' split) <;> (first | rfl | omega)))), rfl⟩
            · refine z_bipush b dX9_copy_64 (by decide) ?_
              exact w_iret b dX9_copy_66 rfl (by omega) (by omega) ⟨iv_eq (by first | rfl | omega | ((try simp only [b2]); ((repeat' split) <;> (first | rfl | omega)))), rfl⟩
        · refine z_bipush b dX9_copy_36 (by decide) ?_
          exact w_iret b dX9_copy_38 rfl (by omega) (by omega) ⟨iv_eq (by first | rfl | omega | ((try simp only [b2]); ((repeat' split) <;> (first | rfl | omega)))), rfl⟩
    · refine z_iconst b dX9_copy_16 ?_
      exact w_iret b dX9_copy_17 rfl (by omega) (by omega) ⟨iv_eq (by first | rfl | omega | ((try simp only [b2]); ((repeat' split) <;> (first | rfl | omega)))), rfl⟩
set_option maxRecDepth 20000 in
theorem l_X9_copy1 {X : Cx} {l0 : Launch} {g : Gw} {Z : State → Prop} {mo nx : Nat} {h0 : Nat → va_E} {I : Nat → Int} (b : BX X l0 g mX9_copy 2 0 0) {d i e j n : Int} (hd : 0 ≤ d ∧ d ≤ 7) (hi : 0 ≤ i ∧ i ≤ 60 - n) (hn : 0 ≤ n ∧ n ≤ 60) : ∀ (m : Nat) (k : Int) (F : Nat → Int → Int), (k + m = n) → (0 ≤ k) → WW X g mX9_copy.2.2.1 Z 0 0 148 [some (.ref mo), some (.int (iI (d))), some (.int (iI (i))), some (.int (iI (e))), some (.int (iI (j))), some (.int (iI (n))), none] [] (mp mo h0 I (va_up F 41 (cpA (fun k => F 40 (60 * d + i + k)) 0 m k (F 41))), nx) → WW X g mX9_copy.2.2.1 Z 0 0 114 [some (.ref mo), some (.int (iI (d))), some (.int (iI (i))), some (.int (iI (e))), some (.int (iI (j))), some (.int (iI (n))), some (.int (iI (k)))] [] (mp mo h0 I F, nx) := by
  intro m
  induction m with
  | zero =>
    intro k F h1 h2 kk
    refine w_iload b dX9_copy_114 rfl ?_
    refine w_iload b dX9_copy_116 rfl ?_
    refine z_icmp_ge (tgt := 148) b dX9_copy_118 (by decide) (by omega) (fun c118 => ?_) (fun c118 => ?_)
    · refine ww_forget 6 ?_
      exact ww_cast rfl rfl (by simp only [cpA, va_up_same]) kk
    · exfalso; omega
  | succ m ih =>
    intro k F h1 h2 kk
    refine w_iload b dX9_copy_114 rfl ?_
    refine w_iload b dX9_copy_116 rfl ?_
    refine z_icmp_ge (tgt := 148) b dX9_copy_118 (by decide) (by omega) (fun c118 => ?_) (fun c118 => ?_)
    · exfalso; omega
    · refine w_aload_n b dX9_copy_121 rfl rfl ?_
      refine m_get b dX9_copy_122 lfX9_131 rfl ?_
      refine w_iload b dX9_copy_125 rfl ?_
      refine w_aload_n b dX9_copy_127 rfl rfl ?_
      refine m_get b dX9_copy_128 lfX9_128 rfl ?_
      refine z_bipush b dX9_copy_131 (by decide) ?_
      refine w_iload_n b dX9_copy_133 rfl ?_
      refine z_imul b dX9_copy_134 ?_
      refine w_iload_n b dX9_copy_135 rfl ?_
      refine z_iadd b dX9_copy_136 ?_
      refine w_iload b dX9_copy_137 rfl ?_
      refine z_iadd b dX9_copy_139 ?_
      refine m_ald (v := F 40 (60 * d + i + k)) b dX9_copy_140 rfl (by omega) rfl ?_
      refine m_ast b dX9_copy_141 rfl (by omega) ?_
      refine z_iinc b dX9_copy_142 rfl rfl rfl ?_
      refine w_goto (tgt := 114) b dX9_copy_145 (by decide) ?_
      exact ih (k + 1) _ (by omega) (by omega) (ww_cast rfl rfl (by simp only [va_up_self, va_up_twice, cpA, Int.zero_add]; rfl) kk) -- kk
set_option maxRecDepth 20000 in
theorem l_X9_copy2 {X : Cx} {l0 : Launch} {g : Gw} {Z : State → Prop} {mo nx : Nat} {h0 : Nat → va_E} {I : Nat → Int} (b : BX X l0 g mX9_copy 2 0 0) {d i e j n : Int} (he : 0 ≤ e ∧ e ≤ 7) (hj : 0 ≤ j ∧ j ≤ 60 - n) (hn : 0 ≤ n ∧ n ≤ 60) : ∀ (m : Nat) (k : Int) (F : Nat → Int → Int), (k + m = n) → (0 ≤ k) → WW X g mX9_copy.2.2.1 Z 0 0 186 [some (.ref mo), some (.int (iI (d))), some (.int (iI (i))), some (.int (iI (e))), some (.int (iI (j))), some (.int (iI (n))), none] [] (mp mo h0 I (va_up F 40 (cpA (fun k => F 41 k) (60 * e + j) m k (F 40))), nx) → WW X g mX9_copy.2.2.1 Z 0 0 151 [some (.ref mo), some (.int (iI (d))), some (.int (iI (i))), some (.int (iI (e))), some (.int (iI (j))), some (.int (iI (n))), some (.int (iI (k)))] [] (mp mo h0 I F, nx) := by
  intro m
  induction m with
  | zero =>
    intro k F h1 h2 kk
    refine w_iload b dX9_copy_151 rfl ?_
    refine w_iload b dX9_copy_153 rfl ?_
    refine z_icmp_ge (tgt := 186) b dX9_copy_155 (by decide) (by omega) (fun c155 => ?_) (fun c155 => ?_)
    · refine ww_forget 6 ?_
      exact ww_cast rfl rfl (by simp only [cpA, va_up_same]) kk
    · exfalso; omega
  | succ m ih =>
    intro k F h1 h2 kk
    refine w_iload b dX9_copy_151 rfl ?_
    refine w_iload b dX9_copy_153 rfl ?_
    refine z_icmp_ge (tgt := 186) b dX9_copy_155 (by decide) (by omega) (fun c155 => ?_) (fun c155 => ?_)
    · exfalso; omega
    · refine w_aload_n b dX9_copy_158 rfl rfl ?_
      refine m_get b dX9_copy_159 lfX9_128 rfl ?_
      refine z_bipush b dX9_copy_162 (by decide) ?_
      refine w_iload_n b dX9_copy_164 rfl ?_
      refine z_imul b dX9_copy_165 ?_
      refine w_iload b dX9_copy_166 rfl ?_
      refine z_iadd b dX9_copy_168 ?_
      refine w_iload b dX9_copy_169 rfl ?_
      refine z_iadd b dX9_copy_171 ?_
      refine w_aload_n b dX9_copy_172 rfl rfl ?_
      refine m_get b dX9_copy_173 lfX9_131 rfl ?_
      refine w_iload b dX9_copy_176 rfl ?_
      refine m_ald (v := F 41 k) b dX9_copy_178 rfl (by omega) rfl ?_
      refine m_ast b dX9_copy_179 rfl (by omega) ?_
      refine z_iinc b dX9_copy_180 rfl rfl rfl ?_
      refine w_goto (tgt := 151) b dX9_copy_183 (by decide) ?_
      exact ih (k + 1) _ (by omega) (by omega) (ww_cast rfl rfl (by simp only [va_up_self, va_up_twice, cpA]; rfl) kk) -- kk
set_option maxRecDepth 20000 in
theorem k_X9_copy1 {l0 : Launch} {g : Gw} {mo nx : Nat} {h0 : Nat → va_E} {I : Nat → Int} {F : Nat → Int → Int} {d i e j n : Int} (h35 : ∀ j, 0 ≤ j → j ≤ 7 → 0 ≤ F 35 j ∧ F 35 j ≤ 4) (h39 : ∀ j, 0 ≤ j → j ≤ 7 → 0 ≤ F 39 j ∧ F 39 j ≤ 60) (hok : (0 ≤ d ∧ d ≤ 7) ∧ (0 ≤ e ∧ e ≤ 7) ∧ 3 ≤ F 35 d ∧ F 35 d = F 35 e ∧ 0 ≤ n ∧ 0 ≤ i ∧ 0 ≤ j ∧ i ≤ F 39 d - n ∧ j ≤ F 39 e - n) : MD l0 g 2 mX9_copy (mp mo h0 I F, nx) [.ref mo, .int (iI (d)), .int (iI (i)), .int (iI (e)), .int (iI (j)), .int (iI (n))] 0 0 (some (.int (iI n))) (mp mo h0 I (va_up (va_up F 41 (cpA (fun k => F 40 (60 * d + i + k)) 0 n.toNat 0 (F 41))) 40 (cpA (cpA (fun k => F 40 (60 * d + i + k)) 0 n.toNat 0 (F 41)) (60 * e + j) n.toNat 0 (F 40))), nx) := by
  refine MD.of (by decide +kernel) (by simp [Value.category]) (tle rfl) (fun X b => ?_)
  change WW X g _ _ 0 0 0 [some (.ref mo), some (.int (iI (d))), some (.int (iI (i))), some (.int (iI (e))), some (.int (iI (j))), some (.int (iI (n))), none] [] _
  refine w_aload_n b dX9_copy_0 rfl rfl ?_
  refine w_iload_n b dX9_copy_1 rfl ?_
  refine c_V1 b dX9_copy_2 lmX9_222 (mp_obj _ _ _ _) (k_X9_isShelf (by omega)) (tle rfl) (by omega) (by omega) (by omega) ?_
  refine z_ifb_eq (tgt := 16) b dX9_copy_5 (by decide) (fun c5 => ?_) (fun c5 => ?_)
  · exfalso; omega
  · refine w_aload_n b dX9_copy_8 rfl rfl ?_
    refine w_iload_n b dX9_copy_9 rfl ?_
    refine c_V1 b dX9_copy_10 lmX9_222 (mp_obj _ _ _ _) (k_X9_isShelf (by omega)) (tle rfl) (by omega) (by omega) (by omega) ?_
    refine z_ifb_ne (tgt := 18) b dX9_copy_13 (by decide) (fun c13 => ?_) (fun c13 => ?_)
    · have hsh : (0 ≤ d ∧ d ≤ 7) ∧ (0 ≤ e ∧ e ≤ 7) := ⟨by omega, by omega⟩
      have hd5 := h35 d hsh.1.1 hsh.1.2
      have he5 := h35 e hsh.2.1 hsh.2.2
      have hd9 := h39 d hsh.1.1 hsh.1.2
      have he9 := h39 e hsh.2.1 hsh.2.2
      refine w_aload_n b dX9_copy_18 rfl rfl ?_
      refine m_get b dX9_copy_19 lfX9_113 rfl ?_
      refine w_iload_n b dX9_copy_22 rfl ?_
      refine m_ald b dX9_copy_23 rfl (by omega) rfl ?_
      refine z_if_eq (tgt := 36) b dX9_copy_24 (by decide) (by omega) (fun c24 => ?_) (fun c24 => ?_)
      · exfalso; omega
      · refine w_aload_n b dX9_copy_27 rfl rfl ?_
        refine m_get b dX9_copy_28 lfX9_113 rfl ?_
        refine w_iload_n b dX9_copy_31 rfl ?_
        refine m_ald b dX9_copy_32 rfl (by omega) rfl ?_
        refine z_if_ne (tgt := 39) b dX9_copy_33 (by decide) (by omega) (fun c33 => ?_) (fun c33 => ?_)
        · refine w_aload_n b dX9_copy_39 rfl rfl ?_
          refine m_get b dX9_copy_40 lfX9_113 rfl ?_
          refine w_iload_n b dX9_copy_43 rfl ?_
          refine m_ald b dX9_copy_44 rfl (by omega) rfl ?_
          refine z_iconst b dX9_copy_45 ?_
          refine z_icmp_lt (tgt := 64) b dX9_copy_46 (by decide) (by omega) (fun c46 => ?_) (fun c46 => ?_)
          · exfalso; omega
          · refine w_aload_n b dX9_copy_49 rfl rfl ?_
            refine m_get b dX9_copy_50 lfX9_113 rfl ?_
            refine w_iload_n b dX9_copy_53 rfl ?_
            refine m_ald b dX9_copy_54 rfl (by omega) rfl ?_
            refine w_aload_n b dX9_copy_55 rfl rfl ?_
            refine m_get b dX9_copy_56 lfX9_113 rfl ?_
            refine w_iload_n b dX9_copy_59 rfl ?_
            refine m_ald b dX9_copy_60 rfl (by omega) rfl ?_
            refine z_icmp_eq (tgt := 67) b dX9_copy_61 (by decide) (by omega) (fun c61 => ?_) (fun c61 => ?_)
            · refine w_iload b dX9_copy_67 rfl ?_
              refine z_if_lt (tgt := 108) b dX9_copy_69 (by decide) (by omega) (fun c69 => ?_) (fun c69 => ?_)
              · exfalso; omega
              · refine w_iload_n b dX9_copy_72 rfl ?_
                refine z_if_lt (tgt := 108) b dX9_copy_73 (by decide) (by omega) (fun c73 => ?_) (fun c73 => ?_)
                · exfalso; omega
                · refine w_iload b dX9_copy_76 rfl ?_
                  refine z_if_lt (tgt := 108) b dX9_copy_78 (by decide) (by omega) (fun c78 => ?_) (fun c78 => ?_)
                  · exfalso; omega
                  · refine w_iload_n b dX9_copy_81 rfl ?_
                    refine w_aload_n b dX9_copy_82 rfl rfl ?_
                    refine m_get b dX9_copy_83 lfX9_125 rfl ?_
                    refine w_iload_n b dX9_copy_86 rfl ?_
                    refine m_ald b dX9_copy_87 rfl (by omega) rfl ?_
                    refine w_iload b dX9_copy_88 rfl ?_
                    refine z_isub b dX9_copy_90 ?_
                    refine z_icmp_gt (tgt := 108) b dX9_copy_91 (by decide) (by omega) (fun c91 => ?_) (fun c91 => ?_)
                    · exfalso; omega
                    · refine w_iload b dX9_copy_94 rfl ?_
                      refine w_aload_n b dX9_copy_96 rfl rfl ?_
                      refine m_get b dX9_copy_97 lfX9_125 rfl ?_
                      refine w_iload_n b dX9_copy_100 rfl ?_
                      refine m_ald b dX9_copy_101 rfl (by omega) rfl ?_
                      refine w_iload b dX9_copy_102 rfl ?_
                      refine z_isub b dX9_copy_104 ?_
                      refine z_icmp_le (tgt := 111) b dX9_copy_105 (by decide) (by omega) (fun c105 => ?_) (fun c105 => ?_)
                      · refine z_iconst b dX9_copy_111 ?_
                        refine w_istore b dX9_copy_112 (tlt rfl) rfl ?_
                        refine l_X9_copy1 b (by omega) (by omega) (by omega) n.toNat 0 F (by omega) (by omega) ?_
                        refine z_iconst b dX9_copy_148 ?_
                        refine w_istore b dX9_copy_149 (tlt rfl) rfl ?_
                        refine l_X9_copy2 b (by omega) (by omega) (by omega) n.toNat 0 _ (by omega) (by omega) ?_
                        refine w_iload b dX9_copy_186 rfl ?_
                        exact w_iret b dX9_copy_188 rfl (by omega) (by omega) ⟨iv_eq (by first | rfl | omega | ((try simp only [b2]); ((repeat' split) <;> (first | rfl | omega)))), rfl⟩
                      · exfalso; omega
            · exfalso; omega
        · exfalso; omega
    · exfalso; omega
theorem k_X9_in_t {l0 : Launch} {g : Gw} {σ : Sg} {q : Nat} {v lo hi : Int} (hv : inR v) (hl : inR lo) (hh : inR hi) (h : lo ≤ v ∧ v ≤ hi) : MD l0 g 0 mX9_in σ [.ref q, .int (iI v), .int (iI lo), .int (iI hi)] 0 0 (some (.int (iI 1))) σ := by
  have := k_X9_in (l0 := l0) (g := g) (σ := σ) (q := q) hv hl hh
  rw [b2_t h] at this
  exact this
theorem k_X9_in_f {l0 : Launch} {g : Gw} {σ : Sg} {q : Nat} {v lo hi : Int} (hv : inR v) (hl : inR lo) (hh : inR hi) (h : ¬ (lo ≤ v ∧ v ≤ hi)) : MD l0 g 0 mX9_in σ [.ref q, .int (iI v), .int (iI lo), .int (iI hi)] 0 0 (some (.int (iI 0))) σ := by
  have := k_X9_in (l0 := l0) (g := g) (σ := σ) (q := q) hv hl hh
  rw [b2_f h] at this
  exact this
set_option maxRecDepth 20000 in
theorem k_X9_step0 {l0 : Launch} {g : Gw} {mo nx : Nat} {h0 : Nat → va_E} {I : Nat → Int} {F : Nat → Int → Int} {k n c : Int} (hk : inR k) (hn : inR n) (hc : inR c) (h2_ : 0 ≤ I 2 ∧ I 2 ≤ 12) (hbad : ¬ ((0 ≤ k ∧ k ≤ 5) ∧ ((k = 0 ∨ k = 1) → (0 ≤ c ∧ c ≤ 7)) ∧ (k = 0 → (1 ≤ n ∧ n ≤ 40)) ∧ (k = 4 → (0 ≤ n ∧ n ≤ I 2 - 2)) ∧ ((k = 3 ∨ k = 5) → (1 ≤ n ∧ n ≤ 9)))) : MD l0 g 2 mX9_step (mp mo h0 I F, nx) [.ref mo, .int (iI (k)), .int (iI (n)), .int (iI (c))] 0 0 (some (.int (iI (-1)))) (mp mo h0 I F, nx) := by
  refine MD.of (by decide +kernel) (by simp [Value.category]) (tle rfl) (fun X b => ?_)
  change WW X g _ _ 0 0 0 [some (.ref mo), some (.int (iI (k))), some (.int (iI (n))), some (.int (iI (c))), none, none] [] _
  refine w_aload_n b dX9_step_0 rfl rfl ?_
  refine w_iload_n b dX9_step_1 rfl ?_
  refine z_iconst b dX9_step_2 ?_
  refine z_iconst b dX9_step_3 ?_
  refine c_V3 b dX9_step_4 lmX9_137 (mp_obj _ _ _ _) (k_X9_in (by omega) (by omega) (by omega)) (tle rfl) (by omega) (by omega) (by omega) ?_
  refine z_ifb_eq (tgt := 30) b dX9_step_7 (by decide) (fun c7 => ?_) (fun c7 => ?_)
  · refine z_iconst b dX9_step_30 ?_
    refine w_istore b dX9_step_31 (tlt rfl) rfl ?_
    refine w_iload b dX9_step_33 rfl ?_
    refine z_if_eq (tgt := 91) b dX9_step_35 (by decide) (by omega) (fun c35 => ?_) (fun c35 => ?_)
    · refine w_iload b dX9_step_91 rfl ?_
      refine z_if_ne (tgt := 98) b dX9_step_93 (by decide) (by omega) (fun c93 => ?_) (fun c93 => ?_)
      · exfalso; omega
      · refine z_iconst b dX9_step_96 ?_
        exact w_iret b dX9_step_97 rfl (by omega) (by omega) ⟨iv_eq (by first | rfl | omega | ((try simp only [b2]); ((repeat' split) <;> (first | rfl | omega)))), rfl⟩
    · refine w_aload_n b dX9_step_38 rfl rfl ?_
      refine w_iload_n b dX9_step_39 rfl ?_
      refine c_V1 b dX9_step_40 lmX9_148 (mp_obj _ _ _ _) (k_X9_hasNumber (by omega)) (tle rfl) (by omega) (by omega) (by omega) ?_
      refine z_ifb_eq (tgt := 91) b dX9_step_43 (by decide) (fun c43 => ?_) (fun c43 => ?_)
      · refine w_iload b dX9_step_91 rfl ?_
        refine z_if_ne (tgt := 98) b dX9_step_93 (by decide) (by omega) (fun c93 => ?_) (fun c93 => ?_)
        · exfalso; omega
        · refine z_iconst b dX9_step_96 ?_
          exact w_iret b dX9_step_97 rfl (by omega) (by omega) ⟨iv_eq (by first | rfl | omega | ((try simp only [b2]); ((repeat' split) <;> (first | rfl | omega)))), rfl⟩
      · refine w_iload_n b dX9_step_46 rfl ?_
        refine z_if_ne (tgt := 61) b dX9_step_47 (by decide) (by omega) (fun c47 => ?_) (fun c47 => ?_)
        · refine w_iload_n b dX9_step_61 rfl ?_
          refine z_iconst b dX9_step_62 ?_
          refine z_icmp_ne (tgt := 81) b dX9_step_63 (by decide) (by omega) (fun c63 => ?_) (fun c63 => ?_)
          · refine w_aload_n b dX9_step_81 rfl rfl ?_
            refine w_iload_n b dX9_step_82 rfl ?_
            refine z_iconst b dX9_step_83 ?_
            refine z_bipush b dX9_step_84 (by decide) ?_
            refine c_V3 b dX9_step_86 lmX9_137 (mp_obj _ _ _ _) (k_X9_in_f (by omega) (by omega) (by omega) (by omega)) (tle rfl) (by omega) (by omega) (by omega) ?_
            refine w_istore b dX9_step_89 (tlt rfl) rfl ?_
            refine w_iload b dX9_step_91 rfl ?_
            refine z_if_ne (tgt := 98) b dX9_step_93 (by decide) (by omega) (fun c93 => ?_) (fun c93 => ?_)
            · exfalso; omega
            · refine z_iconst b dX9_step_96 ?_
              exact w_iret b dX9_step_97 rfl (by omega) (by omega) ⟨iv_eq (by first | rfl | omega | ((try simp only [b2]); ((repeat' split) <;> (first | rfl | omega)))), rfl⟩
          · refine w_aload_n b dX9_step_66 rfl rfl ?_
            refine w_iload_n b dX9_step_67 rfl ?_
            refine z_iconst b dX9_step_68 ?_
            refine w_aload_n b dX9_step_69 rfl rfl ?_
            refine m_get b dX9_step_70 lfX9_13 rfl ?_
            refine z_iconst b dX9_step_73 ?_
            refine z_isub b dX9_step_74 ?_
            refine c_V3 b dX9_step_75 lmX9_137 (mp_obj _ _ _ _) (k_X9_in_f (by omega) (by omega) (by omega) (by omega)) (tle rfl) (by omega) (by omega) (by omega) ?_
            refine w_goto (tgt := 89) b dX9_step_78 (by decide) ?_
            refine w_istore b dX9_step_89 (tlt rfl) rfl ?_
            refine w_iload b dX9_step_91 rfl ?_
            refine z_if_ne (tgt := 98) b dX9_step_93 (by decide) (by omega) (fun c93 => ?_) (fun c93 => ?_)
            · exfalso; omega
            · refine z_iconst b dX9_step_96 ?_
              exact w_iret b dX9_step_97 rfl (by omega) (by omega) ⟨iv_eq (by first | rfl | omega | ((try simp only [b2]); ((repeat' split) <;> (first | rfl | omega)))), rfl⟩
        · refine w_aload_n b dX9_step_50 rfl rfl ?_
          refine w_iload_n b dX9_step_51 rfl ?_
          refine z_iconst b dX9_step_52 ?_
          refine z_bipush b dX9_step_53 (by decide) ?_
          refine c_V3 b dX9_step_55 lmX9_137 (mp_obj _ _ _ _) (k_X9_in_f (by omega) (by omega) (by omega) (by omega)) (tle rfl) (by omega) (by omega) (by omega) ?_
          refine w_goto (tgt := 89) b dX9_step_58 (by decide) ?_
          refine w_istore b dX9_step_89 (tlt rfl) rfl ?_
          refine w_iload b dX9_step_91 rfl ?_
          refine z_if_ne (tgt := 98) b dX9_step_93 (by decide) (by omega) (fun c93 => ?_) (fun c93 => ?_)
          · exfalso; omega
          · refine z_iconst b dX9_step_96 ?_
            exact w_iret b dX9_step_97 rfl (by omega) (by omega) ⟨iv_eq (by first | rfl | omega | ((try simp only [b2]); ((repeat' split) <;> (first | rfl | omega)))), rfl⟩
  · refine w_aload_n b dX9_step_10 rfl rfl ?_
    refine w_iload_n b dX9_step_11 rfl ?_
    refine c_V1 b dX9_step_12 lmX9_141 (mp_obj _ _ _ _) (k_X9_hasColour (by omega)) (tle rfl) (by omega) (by omega) (by omega) ?_
    refine z_ifb_eq (tgt := 26) b dX9_step_15 (by decide) (fun c15 => ?_) (fun c15 => ?_)
    · refine z_iconst b dX9_step_26 ?_
      refine w_goto (tgt := 31) b dX9_step_27 (by decide) ?_
      refine w_istore b dX9_step_31 (tlt rfl) rfl ?_
      refine w_iload b dX9_step_33 rfl ?_
      refine z_if_eq (tgt := 91) b dX9_step_35 (by decide) (by omega) (fun c35 => ?_) (fun c35 => ?_)
      · refine w_iload b dX9_step_91 rfl ?_
        refine z_if_ne (tgt := 98) b dX9_step_93 (by decide) (by omega) (fun c93 => ?_) (fun c93 => ?_)
        · exfalso; omega
        · refine z_iconst b dX9_step_96 ?_
          exact w_iret b dX9_step_97 rfl (by omega) (by omega) ⟨iv_eq (by first | rfl | omega | ((try simp only [b2]); ((repeat' split) <;> (first | rfl | omega)))), rfl⟩
      · refine w_aload_n b dX9_step_38 rfl rfl ?_
        refine w_iload_n b dX9_step_39 rfl ?_
        refine c_V1 b dX9_step_40 lmX9_148 (mp_obj _ _ _ _) (k_X9_hasNumber (by omega)) (tle rfl) (by omega) (by omega) (by omega) ?_
        refine z_ifb_eq (tgt := 91) b dX9_step_43 (by decide) (fun c43 => ?_) (fun c43 => ?_)
        · refine w_iload b dX9_step_91 rfl ?_
          refine z_if_ne (tgt := 98) b dX9_step_93 (by decide) (by omega) (fun c93 => ?_) (fun c93 => ?_)
          · exfalso; omega
          · refine z_iconst b dX9_step_96 ?_
            exact w_iret b dX9_step_97 rfl (by omega) (by omega) ⟨iv_eq (by first | rfl | omega | ((try simp only [b2]); ((repeat' split) <;> (first | rfl | omega)))), rfl⟩
        · refine w_iload_n b dX9_step_46 rfl ?_
          refine z_if_ne (tgt := 61) b dX9_step_47 (by decide) (by omega) (fun c47 => ?_) (fun c47 => ?_)
          · refine w_iload_n b dX9_step_61 rfl ?_
            refine z_iconst b dX9_step_62 ?_
            refine z_icmp_ne (tgt := 81) b dX9_step_63 (by decide) (by omega) (fun c63 => ?_) (fun c63 => ?_)
            · refine w_aload_n b dX9_step_81 rfl rfl ?_
              refine w_iload_n b dX9_step_82 rfl ?_
              refine z_iconst b dX9_step_83 ?_
              refine z_bipush b dX9_step_84 (by decide) ?_
              refine c_V3 b dX9_step_86 lmX9_137 (mp_obj _ _ _ _) (k_X9_in_f (by omega) (by omega) (by omega) (by omega)) (tle rfl) (by omega) (by omega) (by omega) ?_
              refine w_istore b dX9_step_89 (tlt rfl) rfl ?_
              refine w_iload b dX9_step_91 rfl ?_
              refine z_if_ne (tgt := 98) b dX9_step_93 (by decide) (by omega) (fun c93 => ?_) (fun c93 => ?_)
              · exfalso; omega
              · refine z_iconst b dX9_step_96 ?_
                exact w_iret b dX9_step_97 rfl (by omega) (by omega) ⟨iv_eq (by first | rfl | omega | ((try simp only [b2]); ((repeat' split) <;> (first | rfl | omega)))), rfl⟩
            · refine w_aload_n b dX9_step_66 rfl rfl ?_
              refine w_iload_n b dX9_step_67 rfl ?_
              refine z_iconst b dX9_step_68 ?_
              refine w_aload_n b dX9_step_69 rfl rfl ?_
              refine m_get b dX9_step_70 lfX9_13 rfl ?_
              refine z_iconst b dX9_step_73 ?_
              refine z_isub b dX9_step_74 ?_
              refine c_V3 b dX9_step_75 lmX9_137 (mp_obj _ _ _ _) (k_X9_in_f (by omega) (by omega) (by omega) (by omega)) (tle rfl) (by omega) (by omega) (by omega) ?_
              refine w_goto (tgt := 89) b dX9_step_78 (by decide) ?_
              refine w_istore b dX9_step_89 (tlt rfl) rfl ?_
              refine w_iload b dX9_step_91 rfl ?_
              refine z_if_ne (tgt := 98) b dX9_step_93 (by decide) (by omega) (fun c93 => ?_) (fun c93 => ?_)
              · exfalso; omega
              · refine z_iconst b dX9_step_96 ?_
                exact w_iret b dX9_step_97 rfl (by omega) (by omega) ⟨iv_eq (by first | rfl | omega | ((try simp only [b2]); ((repeat' split) <;> (first | rfl | omega)))), rfl⟩
          · refine w_aload_n b dX9_step_50 rfl rfl ?_
            refine w_iload_n b dX9_step_51 rfl ?_
            refine z_iconst b dX9_step_52 ?_
            refine z_bipush b dX9_step_53 (by decide) ?_
            refine c_V3 b dX9_step_55 lmX9_137 (mp_obj _ _ _ _) (k_X9_in_f (by omega) (by omega) (by omega) (by omega)) (tle rfl) (by omega) (by omega) (by omega) ?_
            refine w_goto (tgt := 89) b dX9_step_58 (by decide) ?_
            refine w_istore b dX9_step_89 (tlt rfl) rfl ?_
            refine w_iload b dX9_step_91 rfl ?_
            refine z_if_ne (tgt := 98) b dX9_step_93 (by decide) (by omega) (fun c93 => ?_) (fun c93 => ?_)
            · exfalso; omega
            · refine z_iconst b dX9_step_96 ?_
              exact w_iret b dX9_step_97 rfl (by omega) (by omega) ⟨iv_eq (by first | rfl | omega | ((try simp only [b2]); ((repeat' split) <;> (first | rfl | omega)))), rfl⟩
    · refine w_aload_n b dX9_step_18 rfl rfl ?_
      refine w_iload_n b dX9_step_19 rfl ?_
      refine c_V1 b dX9_step_20 lmX9_145 (mp_obj _ _ _ _) (k_X9_isColour (by omega)) (tle rfl) (by omega) (by omega) (by omega) ?_
      refine z_ifb_eq (tgt := 30) b dX9_step_23 (by decide) (fun c23 => ?_) (fun c23 => ?_)
      · refine z_iconst b dX9_step_30 ?_
        refine w_istore b dX9_step_31 (tlt rfl) rfl ?_
        refine w_iload b dX9_step_33 rfl ?_
        refine z_if_eq (tgt := 91) b dX9_step_35 (by decide) (by omega) (fun c35 => ?_) (fun c35 => ?_)
        · refine w_iload b dX9_step_91 rfl ?_
          refine z_if_ne (tgt := 98) b dX9_step_93 (by decide) (by omega) (fun c93 => ?_) (fun c93 => ?_)
          · exfalso; omega
          · refine z_iconst b dX9_step_96 ?_
            exact w_iret b dX9_step_97 rfl (by omega) (by omega) ⟨iv_eq (by first | rfl | omega | ((try simp only [b2]); ((repeat' split) <;> (first | rfl | omega)))), rfl⟩
        · refine w_aload_n b dX9_step_38 rfl rfl ?_
          refine w_iload_n b dX9_step_39 rfl ?_
          refine c_V1 b dX9_step_40 lmX9_148 (mp_obj _ _ _ _) (k_X9_hasNumber (by omega)) (tle rfl) (by omega) (by omega) (by omega) ?_
          refine z_ifb_eq (tgt := 91) b dX9_step_43 (by decide) (fun c43 => ?_) (fun c43 => ?_)
          · refine w_iload b dX9_step_91 rfl ?_
            refine z_if_ne (tgt := 98) b dX9_step_93 (by decide) (by omega) (fun c93 => ?_) (fun c93 => ?_)
            · exfalso; omega
            · refine z_iconst b dX9_step_96 ?_
              exact w_iret b dX9_step_97 rfl (by omega) (by omega) ⟨iv_eq (by first | rfl | omega | ((try simp only [b2]); ((repeat' split) <;> (first | rfl | omega)))), rfl⟩
          · refine w_iload_n b dX9_step_46 rfl ?_
            refine z_if_ne (tgt := 61) b dX9_step_47 (by decide) (by omega) (fun c47 => ?_) (fun c47 => ?_)
            · refine w_iload_n b dX9_step_61 rfl ?_
              refine z_iconst b dX9_step_62 ?_
              refine z_icmp_ne (tgt := 81) b dX9_step_63 (by decide) (by omega) (fun c63 => ?_) (fun c63 => ?_)
              · refine w_aload_n b dX9_step_81 rfl rfl ?_
                refine w_iload_n b dX9_step_82 rfl ?_
                refine z_iconst b dX9_step_83 ?_
                refine z_bipush b dX9_step_84 (by decide) ?_
                refine c_V3 b dX9_step_86 lmX9_137 (mp_obj _ _ _ _) (k_X9_in_f (by omega) (by omega) (by omega) (by omega)) (tle rfl) (by omega) (by omega) (by omega) ?_
                refine w_istore b dX9_step_89 (tlt rfl) rfl ?_
                refine w_iload b dX9_step_91 rfl ?_
                refine z_if_ne (tgt := 98) b dX9_step_93 (by decide) (by omega) (fun c93 => ?_) (fun c93 => ?_)
                · exfalso; omega
                · refine z_iconst b dX9_step_96 ?_
                  exact w_iret b dX9_step_97 rfl (by omega) (by omega) ⟨iv_eq (by first | rfl | omega | ((try simp only [b2]); ((repeat' split) <;> (first | rfl | omega)))), rfl⟩
              · refine w_aload_n b dX9_step_66 rfl rfl ?_
                refine w_iload_n b dX9_step_67 rfl ?_
                refine z_iconst b dX9_step_68 ?_
                refine w_aload_n b dX9_step_69 rfl rfl ?_
                refine m_get b dX9_step_70 lfX9_13 rfl ?_
                refine z_iconst b dX9_step_73 ?_
                refine z_isub b dX9_step_74 ?_
                refine c_V3 b dX9_step_75 lmX9_137 (mp_obj _ _ _ _) (k_X9_in_f (by omega) (by omega) (by omega) (by omega)) (tle rfl) (by omega) (by omega) (by omega) ?_
                refine w_goto (tgt := 89) b dX9_step_78 (by decide) ?_
                refine w_istore b dX9_step_89 (tlt rfl) rfl ?_
                refine w_iload b dX9_step_91 rfl ?_
                refine z_if_ne (tgt := 98) b dX9_step_93 (by decide) (by omega) (fun c93 => ?_) (fun c93 => ?_)
                · exfalso; omega
                · refine z_iconst b dX9_step_96 ?_
                  exact w_iret b dX9_step_97 rfl (by omega) (by omega) ⟨iv_eq (by first | rfl | omega | ((try simp only [b2]); ((repeat' split) <;> (first | rfl | omega)))), rfl⟩
            · refine w_aload_n b dX9_step_50 rfl rfl ?_
              refine w_iload_n b dX9_step_51 rfl ?_
              refine z_iconst b dX9_step_52 ?_
              refine z_bipush b dX9_step_53 (by decide) ?_
              refine c_V3 b dX9_step_55 lmX9_137 (mp_obj _ _ _ _) (k_X9_in_f (by omega) (by omega) (by omega) (by omega)) (tle rfl) (by omega) (by omega) (by omega) ?_
              refine w_goto (tgt := 89) b dX9_step_58 (by decide) ?_
              refine w_istore b dX9_step_89 (tlt rfl) rfl ?_
              refine w_iload b dX9_step_91 rfl ?_
              refine z_if_ne (tgt := 98) b dX9_step_93 (by decide) (by omega) (fun c93 => ?_) (fun c93 => ?_)
              · exfalso; omega
              · refine z_iconst b dX9_step_96 ?_
                exact w_iret b dX9_step_97 rfl (by omega) (by omega) ⟨iv_eq (by first | rfl | omega | ((try simp only [b2]); ((repeat' split) <;> (first | rfl | omega)))), rfl⟩
      · refine z_iconst b dX9_step_26 ?_
        refine w_goto (tgt := 31) b dX9_step_27 (by decide) ?_
        refine w_istore b dX9_step_31 (tlt rfl) rfl ?_
        refine w_iload b dX9_step_33 rfl ?_
        refine z_if_eq (tgt := 91) b dX9_step_35 (by decide) (by omega) (fun c35 => ?_) (fun c35 => ?_)
        · refine w_iload b dX9_step_91 rfl ?_
          refine z_if_ne (tgt := 98) b dX9_step_93 (by decide) (by omega) (fun c93 => ?_) (fun c93 => ?_)
          · exfalso; omega
          · refine z_iconst b dX9_step_96 ?_
            exact w_iret b dX9_step_97 rfl (by omega) (by omega) ⟨iv_eq (by first | rfl | omega | ((try simp only [b2]); ((repeat' split) <;> (first | rfl | omega)))), rfl⟩
        · refine w_aload_n b dX9_step_38 rfl rfl ?_
          refine w_iload_n b dX9_step_39 rfl ?_
          refine c_V1 b dX9_step_40 lmX9_148 (mp_obj _ _ _ _) (k_X9_hasNumber (by omega)) (tle rfl) (by omega) (by omega) (by omega) ?_
          refine z_ifb_eq (tgt := 91) b dX9_step_43 (by decide) (fun c43 => ?_) (fun c43 => ?_)
          · refine w_iload b dX9_step_91 rfl ?_
            refine z_if_ne (tgt := 98) b dX9_step_93 (by decide) (by omega) (fun c93 => ?_) (fun c93 => ?_)
            · exfalso; omega
            · refine z_iconst b dX9_step_96 ?_
              exact w_iret b dX9_step_97 rfl (by omega) (by omega) ⟨iv_eq (by first | rfl | omega | ((try simp only [b2]); ((repeat' split) <;> (first | rfl | omega)))), rfl⟩
          · refine w_iload_n b dX9_step_46 rfl ?_
            refine z_if_ne (tgt := 61) b dX9_step_47 (by decide) (by omega) (fun c47 => ?_) (fun c47 => ?_)
            · refine w_iload_n b dX9_step_61 rfl ?_
              refine z_iconst b dX9_step_62 ?_
              refine z_icmp_ne (tgt := 81) b dX9_step_63 (by decide) (by omega) (fun c63 => ?_) (fun c63 => ?_)
              · refine w_aload_n b dX9_step_81 rfl rfl ?_
                refine w_iload_n b dX9_step_82 rfl ?_
                refine z_iconst b dX9_step_83 ?_
                refine z_bipush b dX9_step_84 (by decide) ?_
                refine c_V3 b dX9_step_86 lmX9_137 (mp_obj _ _ _ _) (k_X9_in_f (by omega) (by omega) (by omega) (by omega)) (tle rfl) (by omega) (by omega) (by omega) ?_
                refine w_istore b dX9_step_89 (tlt rfl) rfl ?_
                refine w_iload b dX9_step_91 rfl ?_
                refine z_if_ne (tgt := 98) b dX9_step_93 (by decide) (by omega) (fun c93 => ?_) (fun c93 => ?_)
                · exfalso; omega
                · refine z_iconst b dX9_step_96 ?_
                  exact w_iret b dX9_step_97 rfl (by omega) (by omega) ⟨iv_eq (by first | rfl | omega | ((try simp only [b2]); ((repeat' split) <;> (first | rfl | omega)))), rfl⟩
              · refine w_aload_n b dX9_step_66 rfl rfl ?_
                refine w_iload_n b dX9_step_67 rfl ?_
                refine z_iconst b dX9_step_68 ?_
                refine w_aload_n b dX9_step_69 rfl rfl ?_
                refine m_get b dX9_step_70 lfX9_13 rfl ?_
                refine z_iconst b dX9_step_73 ?_
                refine z_isub b dX9_step_74 ?_
                refine c_V3 b dX9_step_75 lmX9_137 (mp_obj _ _ _ _) (k_X9_in_f (by omega) (by omega) (by omega) (by omega)) (tle rfl) (by omega) (by omega) (by omega) ?_
                refine w_goto (tgt := 89) b dX9_step_78 (by decide) ?_
                refine w_istore b dX9_step_89 (tlt rfl) rfl ?_
                refine w_iload b dX9_step_91 rfl ?_
                refine z_if_ne (tgt := 98) b dX9_step_93 (by decide) (by omega) (fun c93 => ?_) (fun c93 => ?_)
                · exfalso; omega
                · refine z_iconst b dX9_step_96 ?_
                  exact w_iret b dX9_step_97 rfl (by omega) (by omega) ⟨iv_eq (by first | rfl | omega | ((try simp only [b2]); ((repeat' split) <;> (first | rfl | omega)))), rfl⟩
            · refine w_aload_n b dX9_step_50 rfl rfl ?_
              refine w_iload_n b dX9_step_51 rfl ?_
              refine z_iconst b dX9_step_52 ?_
              refine z_bipush b dX9_step_53 (by decide) ?_
              refine c_V3 b dX9_step_55 lmX9_137 (mp_obj _ _ _ _) (k_X9_in_f (by omega) (by omega) (by omega) (by omega)) (tle rfl) (by omega) (by omega) (by omega) ?_
              refine w_goto (tgt := 89) b dX9_step_58 (by decide) ?_
              refine w_istore b dX9_step_89 (tlt rfl) rfl ?_
              refine w_iload b dX9_step_91 rfl ?_
              refine z_if_ne (tgt := 98) b dX9_step_93 (by decide) (by omega) (fun c93 => ?_) (fun c93 => ?_)
              · exfalso; omega
              · refine z_iconst b dX9_step_96 ?_
                exact w_iret b dX9_step_97 rfl (by omega) (by omega) ⟨iv_eq (by first | rfl | omega | ((try simp only [b2]); ((repeat' split) <;> (first | rfl | omega)))), rfl⟩
set_option maxRecDepth 20000 in
theorem k_X9_step1 {l0 : Launch} {g : Gw} {mo nx : Nat} {h0 : Nat → va_E} {I : Nat → Int} {F : Nat → Int → Int} {k n c : Int} (hk : inR k) (hn : inR n) (hc : inR c) (h2_ : 0 ≤ I 2 ∧ I 2 ≤ 12) (h3_ : ∀ j, 0 ≤ j → j < 12 → 0 ≤ F 3 j ∧ F 3 j ≤ 12) (hok : (0 ≤ k ∧ k ≤ 5) ∧ ((k = 0 ∨ k = 1) → (0 ≤ c ∧ c ≤ 7)) ∧ (k = 0 → (1 ≤ n ∧ n ≤ 40)) ∧ (k = 4 → (0 ≤ n ∧ n ≤ I 2 - 2)) ∧ ((k = 3 ∨ k = 5) → (1 ≤ n ∧ n ≤ 9))) (hx : I 2 = 0 ∨ F 3 (I 2 - 1) = 12) : MD l0 g 2 mX9_step (mp mo h0 I F, nx) [.ref mo, .int (iI (k)), .int (iI (n)), .int (iI (c))] 0 0 (some (.int (iI (if I 2 = 0 then -3 else -2)))) (mp mo h0 I F, nx) := by
  refine MD.of (by decide +kernel) (by simp [Value.category]) (tle rfl) (fun X b => ?_)
  change WW X g _ _ 0 0 0 [some (.ref mo), some (.int (iI (k))), some (.int (iI (n))), some (.int (iI (c))), none, none] [] _
  have h3k : 0 < I 2 → 0 ≤ F 3 (I 2 - 1) ∧ F 3 (I 2 - 1) ≤ 12 := fun z => h3_ _ (by omega) (by omega)
  have k98 : WW X g mX9_step.2.2.1 (ZQ X g (fun r' σ' => r' = some (.int (iI (if I 2 = 0 then -3 else -2))) ∧ σ' = (mp mo h0 I F, nx)) 0 0) 0 0 98 [some (.ref mo), some (.int (iI k)), some (.int (iI n)), some (.int (iI c)), some (.int (iI 1)), none] [] (mp mo h0 I F, nx) := by
    refine w_aload_n b dX9_step_98 rfl rfl ?_
    refine m_get b dX9_step_99 lfX9_13 rfl ?_
    refine z_if_le (tgt := 124) b dX9_step_102 (by decide) (by omega) (fun c102 => ?_) (fun c102 => ?_)
    · refine w_aload_n b dX9_step_124 rfl rfl ?_
      refine m_get b dX9_step_125 lfX9_13 rfl ?_
      refine z_if_ne (tgt := 134) b dX9_step_128 (by decide) (by omega) (fun c128 => ?_) (fun c128 => ?_)
      · exfalso; omega
      · refine z_bipush b dX9_step_131 (by decide) ?_
        exact w_iret b dX9_step_133 rfl (by omega) (by omega) ⟨iv_eq (by first | rfl | omega | ((try simp only [b2]); ((repeat' split) <;> (first | rfl | omega)))), rfl⟩
    · refine w_aload_n b dX9_step_105 rfl rfl ?_
      refine m_get b dX9_step_106 lfX9_16 rfl ?_
      refine w_aload_n b dX9_step_109 rfl rfl ?_
      refine m_get b dX9_step_110 lfX9_13 rfl ?_
      refine z_iconst b dX9_step_113 ?_
      refine z_isub b dX9_step_114 ?_
      refine m_ald b dX9_step_115 rfl (by omega) rfl ?_
      refine z_bipush b dX9_step_116 (by decide) ?_
      refine z_icmp_ne (tgt := 124) b dX9_step_118 (by decide) (by omega) (fun c118 => ?_) (fun c118 => ?_)
      · exfalso; rcases hx with z | z <;> omega
      · refine z_bipush b dX9_step_121 (by decide) ?_
        exact w_iret b dX9_step_123 rfl (by omega) (by omega) ⟨iv_eq (by first | rfl | omega | ((try simp only [b2]); ((repeat' split) <;> (first | rfl | omega)))), rfl⟩
  refine w_aload_n b dX9_step_0 rfl rfl ?_
  refine w_iload_n b dX9_step_1 rfl ?_
  refine z_iconst b dX9_step_2 ?_
  refine z_iconst b dX9_step_3 ?_
  refine c_V3 b dX9_step_4 lmX9_137 (mp_obj _ _ _ _) (k_X9_in (by omega) (by omega) (by omega)) (tle rfl) (by omega) (by omega) (by omega) ?_
  refine z_ifb_eq (tgt := 30) b dX9_step_7 (by decide) (fun c7 => ?_) (fun c7 => ?_)
  · exfalso; omega
  · refine w_aload_n b dX9_step_10 rfl rfl ?_
    refine w_iload_n b dX9_step_11 rfl ?_
    refine c_V1 b dX9_step_12 lmX9_141 (mp_obj _ _ _ _) (k_X9_hasColour (by omega)) (tle rfl) (by omega) (by omega) (by omega) ?_
    refine z_ifb_eq (tgt := 26) b dX9_step_15 (by decide) (fun c15 => ?_) (fun c15 => ?_)
    · refine z_iconst b dX9_step_26 ?_
      refine w_goto (tgt := 31) b dX9_step_27 (by decide) ?_
      refine w_istore b dX9_step_31 (tlt rfl) rfl ?_
      refine w_iload b dX9_step_33 rfl ?_
      refine z_if_eq (tgt := 91) b dX9_step_35 (by decide) (by omega) (fun c35 => ?_) (fun c35 => ?_)
      · exfalso; omega
      · refine w_aload_n b dX9_step_38 rfl rfl ?_
        refine w_iload_n b dX9_step_39 rfl ?_
        refine c_V1 b dX9_step_40 lmX9_148 (mp_obj _ _ _ _) (k_X9_hasNumber (by omega)) (tle rfl) (by omega) (by omega) (by omega) ?_
        refine z_ifb_eq (tgt := 91) b dX9_step_43 (by decide) (fun c43 => ?_) (fun c43 => ?_)
        · refine w_iload b dX9_step_91 rfl ?_
          refine z_if_ne (tgt := 98) b dX9_step_93 (by decide) (by omega) (fun c93 => ?_) (fun c93 => ?_)
          · exact k98
          · exfalso; omega
        · refine w_iload_n b dX9_step_46 rfl ?_
          refine z_if_ne (tgt := 61) b dX9_step_47 (by decide) (by omega) (fun c47 => ?_) (fun c47 => ?_)
          · refine w_iload_n b dX9_step_61 rfl ?_
            refine z_iconst b dX9_step_62 ?_
            refine z_icmp_ne (tgt := 81) b dX9_step_63 (by decide) (by omega) (fun c63 => ?_) (fun c63 => ?_)
            · refine w_aload_n b dX9_step_81 rfl rfl ?_
              refine w_iload_n b dX9_step_82 rfl ?_
              refine z_iconst b dX9_step_83 ?_
              refine z_bipush b dX9_step_84 (by decide) ?_
              refine c_V3 b dX9_step_86 lmX9_137 (mp_obj _ _ _ _) (k_X9_in_t (by omega) (by omega) (by omega) (by omega)) (tle rfl) (by omega) (by omega) (by omega) ?_
              refine w_istore b dX9_step_89 (tlt rfl) rfl ?_
              refine w_iload b dX9_step_91 rfl ?_
              refine z_if_ne (tgt := 98) b dX9_step_93 (by decide) (by omega) (fun c93 => ?_) (fun c93 => ?_)
              · exact k98
              · exfalso; omega
            · refine w_aload_n b dX9_step_66 rfl rfl ?_
              refine w_iload_n b dX9_step_67 rfl ?_
              refine z_iconst b dX9_step_68 ?_
              refine w_aload_n b dX9_step_69 rfl rfl ?_
              refine m_get b dX9_step_70 lfX9_13 rfl ?_
              refine z_iconst b dX9_step_73 ?_
              refine z_isub b dX9_step_74 ?_
              refine c_V3 b dX9_step_75 lmX9_137 (mp_obj _ _ _ _) (k_X9_in_t (by omega) (by omega) (by omega) (by omega)) (tle rfl) (by omega) (by omega) (by omega) ?_
              refine w_goto (tgt := 89) b dX9_step_78 (by decide) ?_
              refine w_istore b dX9_step_89 (tlt rfl) rfl ?_
              refine w_iload b dX9_step_91 rfl ?_
              refine z_if_ne (tgt := 98) b dX9_step_93 (by decide) (by omega) (fun c93 => ?_) (fun c93 => ?_)
              · exact k98
              · exfalso; omega
          · refine w_aload_n b dX9_step_50 rfl rfl ?_
            refine w_iload_n b dX9_step_51 rfl ?_
            refine z_iconst b dX9_step_52 ?_
            refine z_bipush b dX9_step_53 (by decide) ?_
            refine c_V3 b dX9_step_55 lmX9_137 (mp_obj _ _ _ _) (k_X9_in_t (by omega) (by omega) (by omega) (by omega)) (tle rfl) (by omega) (by omega) (by omega) ?_
            refine w_goto (tgt := 89) b dX9_step_58 (by decide) ?_
            refine w_istore b dX9_step_89 (tlt rfl) rfl ?_
            refine w_iload b dX9_step_91 rfl ?_
            refine z_if_ne (tgt := 98) b dX9_step_93 (by decide) (by omega) (fun c93 => ?_) (fun c93 => ?_)
            · exact k98
            · exfalso; omega
    · refine w_aload_n b dX9_step_18 rfl rfl ?_
      refine w_iload_n b dX9_step_19 rfl ?_
      refine c_V1 b dX9_step_20 lmX9_145 (mp_obj _ _ _ _) (k_X9_isColour (by omega)) (tle rfl) (by omega) (by omega) (by omega) ?_
      refine z_ifb_eq (tgt := 30) b dX9_step_23 (by decide) (fun c23 => ?_) (fun c23 => ?_)
      · exfalso; omega
      · refine z_iconst b dX9_step_26 ?_
        refine w_goto (tgt := 31) b dX9_step_27 (by decide) ?_
        refine w_istore b dX9_step_31 (tlt rfl) rfl ?_
        refine w_iload b dX9_step_33 rfl ?_
        refine z_if_eq (tgt := 91) b dX9_step_35 (by decide) (by omega) (fun c35 => ?_) (fun c35 => ?_)
        · exfalso; omega
        · refine w_aload_n b dX9_step_38 rfl rfl ?_
          refine w_iload_n b dX9_step_39 rfl ?_
          refine c_V1 b dX9_step_40 lmX9_148 (mp_obj _ _ _ _) (k_X9_hasNumber (by omega)) (tle rfl) (by omega) (by omega) (by omega) ?_
          refine z_ifb_eq (tgt := 91) b dX9_step_43 (by decide) (fun c43 => ?_) (fun c43 => ?_)
          · refine w_iload b dX9_step_91 rfl ?_
            refine z_if_ne (tgt := 98) b dX9_step_93 (by decide) (by omega) (fun c93 => ?_) (fun c93 => ?_)
            · exact k98
            · exfalso; omega
          · refine w_iload_n b dX9_step_46 rfl ?_
            refine z_if_ne (tgt := 61) b dX9_step_47 (by decide) (by omega) (fun c47 => ?_) (fun c47 => ?_)
            · refine w_iload_n b dX9_step_61 rfl ?_
              refine z_iconst b dX9_step_62 ?_
              refine z_icmp_ne (tgt := 81) b dX9_step_63 (by decide) (by omega) (fun c63 => ?_) (fun c63 => ?_)
              · refine w_aload_n b dX9_step_81 rfl rfl ?_
                refine w_iload_n b dX9_step_82 rfl ?_
                refine z_iconst b dX9_step_83 ?_
                refine z_bipush b dX9_step_84 (by decide) ?_
                refine c_V3 b dX9_step_86 lmX9_137 (mp_obj _ _ _ _) (k_X9_in_t (by omega) (by omega) (by omega) (by omega)) (tle rfl) (by omega) (by omega) (by omega) ?_
                refine w_istore b dX9_step_89 (tlt rfl) rfl ?_
                refine w_iload b dX9_step_91 rfl ?_
                refine z_if_ne (tgt := 98) b dX9_step_93 (by decide) (by omega) (fun c93 => ?_) (fun c93 => ?_)
                · exact k98
                · exfalso; omega
              · refine w_aload_n b dX9_step_66 rfl rfl ?_
                refine w_iload_n b dX9_step_67 rfl ?_
                refine z_iconst b dX9_step_68 ?_
                refine w_aload_n b dX9_step_69 rfl rfl ?_
                refine m_get b dX9_step_70 lfX9_13 rfl ?_
                refine z_iconst b dX9_step_73 ?_
                refine z_isub b dX9_step_74 ?_
                refine c_V3 b dX9_step_75 lmX9_137 (mp_obj _ _ _ _) (k_X9_in_t (by omega) (by omega) (by omega) (by omega)) (tle rfl) (by omega) (by omega) (by omega) ?_
                refine w_goto (tgt := 89) b dX9_step_78 (by decide) ?_
                refine w_istore b dX9_step_89 (tlt rfl) rfl ?_
                refine w_iload b dX9_step_91 rfl ?_
                refine z_if_ne (tgt := 98) b dX9_step_93 (by decide) (by omega) (fun c93 => ?_) (fun c93 => ?_)
                · exact k98
                · exfalso; omega
            · refine w_aload_n b dX9_step_50 rfl rfl ?_
              refine w_iload_n b dX9_step_51 rfl ?_
              refine z_iconst b dX9_step_52 ?_
              refine z_bipush b dX9_step_53 (by decide) ?_
              refine c_V3 b dX9_step_55 lmX9_137 (mp_obj _ _ _ _) (k_X9_in_t (by omega) (by omega) (by omega) (by omega)) (tle rfl) (by omega) (by omega) (by omega) ?_
              refine w_goto (tgt := 89) b dX9_step_58 (by decide) ?_
              refine w_istore b dX9_step_89 (tlt rfl) rfl ?_
              refine w_iload b dX9_step_91 rfl ?_
              refine z_if_ne (tgt := 98) b dX9_step_93 (by decide) (by omega) (fun c93 => ?_) (fun c93 => ?_)
              · exact k98
              · exfalso; omega
set_option maxRecDepth 20000 in
theorem k_X9_step2 {l0 : Launch} {g : Gw} {mo nx : Nat} {h0 : Nat → va_E} {I : Nat → Int} {F : Nat → Int → Int} {k n c : Int} (hk : inR k) (hn : inR n) (hc : inR c) (h2_ : 0 ≤ I 2 ∧ I 2 ≤ 12) (h3_ : ∀ j, 0 ≤ j → j < 12 → 0 ≤ F 3 j ∧ F 3 j ≤ 12) (hok : (0 ≤ k ∧ k ≤ 5) ∧ ((k = 0 ∨ k = 1) → (0 ≤ c ∧ c ≤ 7)) ∧ (k = 0 → (1 ≤ n ∧ n ≤ 40)) ∧ (k = 4 → (0 ≤ n ∧ n ≤ I 2 - 2)) ∧ ((k = 3 ∨ k = 5) → (1 ≤ n ∧ n ≤ 9))) (h0_ : 0 < I 2) (hx : F 3 (I 2 - 1) < 12) : MD l0 g 2 mX9_step (mp mo h0 I F, nx) [.ref mo, .int (iI (k)), .int (iI (n)), .int (iI (c))] 0 0 (some (.int (iI (F 3 (I 2 - 1))))) (mp mo h0 I (va_up (va_up (va_up (va_up F 4 (fu (F 4) (12 * (I 2 - 1) + F 3 (I 2 - 1)) k)) 5 (fu (F 5) (12 * (I 2 - 1) + F 3 (I 2 - 1)) n)) 6 (fu (F 6) (12 * (I 2 - 1) + F 3 (I 2 - 1)) c)) 3 (fu (F 3) (I 2 - 1) (F 3 (I 2 - 1) + 1))), nx) := by
  refine MD.of (by decide +kernel) (by simp [Value.category]) (tle rfl) (fun X b => ?_)
  change WW X g _ _ 0 0 0 [some (.ref mo), some (.int (iI (k))), some (.int (iI (n))), some (.int (iI (c))), none, none] [] _
  have h3k : 0 < I 2 → 0 ≤ F 3 (I 2 - 1) ∧ F 3 (I 2 - 1) ≤ 12 := fun z => h3_ _ (by omega) (by omega)
  have k98 : WW X g mX9_step.2.2.1 (ZQ X g (fun r' σ' => r' = some (.int (iI (F 3 (I 2 - 1)))) ∧ σ' = (mp mo h0 I (va_up (va_up (va_up (va_up F 4 (fu (F 4) (12 * (I 2 - 1) + F 3 (I 2 - 1)) k)) 5 (fu (F 5) (12 * (I 2 - 1) + F 3 (I 2 - 1)) n)) 6 (fu (F 6) (12 * (I 2 - 1) + F 3 (I 2 - 1)) c)) 3 (fu (F 3) (I 2 - 1) (F 3 (I 2 - 1) + 1))), nx)) 0 0) 0 0 98 [some (.ref mo), some (.int (iI k)), some (.int (iI n)), some (.int (iI c)), some (.int (iI 1)), none] [] (mp mo h0 I F, nx) := by
    refine w_aload_n b dX9_step_98 rfl rfl ?_
    refine m_get b dX9_step_99 lfX9_13 rfl ?_
    refine z_if_le (tgt := 124) b dX9_step_102 (by decide) (by omega) (fun c102 => ?_) (fun c102 => ?_)
    · exfalso; omega
    · refine w_aload_n b dX9_step_105 rfl rfl ?_
      refine m_get b dX9_step_106 lfX9_16 rfl ?_
      refine w_aload_n b dX9_step_109 rfl rfl ?_
      refine m_get b dX9_step_110 lfX9_13 rfl ?_
      refine z_iconst b dX9_step_113 ?_
      refine z_isub b dX9_step_114 ?_
      refine m_ald (v := F 3 (I 2 - 1)) b dX9_step_115 rfl (by omega) rfl ?_
      refine z_bipush b dX9_step_116 (by decide) ?_
      refine z_icmp_ne (tgt := 124) b dX9_step_118 (by decide) (by omega) (fun c118 => ?_) (fun c118 => ?_)
      · refine w_aload_n b dX9_step_124 rfl rfl ?_
        refine m_get b dX9_step_125 lfX9_13 rfl ?_
        refine z_if_ne (tgt := 134) b dX9_step_128 (by decide) (by omega) (fun c128 => ?_) (fun c128 => ?_)
        · refine z_bipush b dX9_step_134 (by decide) ?_
          refine w_aload_n b dX9_step_136 rfl rfl ?_
          refine m_get b dX9_step_137 lfX9_13 rfl ?_
          refine z_iconst b dX9_step_140 ?_
          refine z_isub b dX9_step_141 ?_
          refine z_imul b dX9_step_142 ?_
          refine w_aload_n b dX9_step_143 rfl rfl ?_
          refine m_get b dX9_step_144 lfX9_16 rfl ?_
          refine w_aload_n b dX9_step_147 rfl rfl ?_
          refine m_get b dX9_step_148 lfX9_13 rfl ?_
          refine z_iconst b dX9_step_151 ?_
          refine z_isub b dX9_step_152 ?_
          refine m_ald (v := F 3 (I 2 - 1)) b dX9_step_153 rfl (by omega) rfl ?_
          refine z_iadd b dX9_step_154 ?_
          refine w_istore b dX9_step_155 (tlt rfl) rfl ?_
          refine w_aload_n b dX9_step_157 rfl rfl ?_
          refine m_get b dX9_step_158 lfX9_20 rfl ?_
          refine w_iload b dX9_step_161 rfl ?_
          refine w_iload_n b dX9_step_163 rfl ?_
          refine m_ast b dX9_step_164 rfl (by omega) ?_
          refine w_aload_n b dX9_step_165 rfl rfl ?_
          refine m_get b dX9_step_166 lfX9_23 rfl ?_
          refine w_iload b dX9_step_169 rfl ?_
          refine w_iload_n b dX9_step_171 rfl ?_
          refine m_ast b dX9_step_172 rfl (by omega) ?_
          refine w_aload_n b dX9_step_173 rfl rfl ?_
          refine m_get b dX9_step_174 lfX9_26 rfl ?_
          refine w_iload b dX9_step_177 rfl ?_
          refine w_iload_n b dX9_step_179 rfl ?_
          refine m_ast b dX9_step_180 rfl (by omega) ?_
          refine w_aload_n b dX9_step_181 rfl rfl ?_
          refine m_get b dX9_step_182 lfX9_16 rfl ?_
          refine w_aload_n b dX9_step_185 rfl rfl ?_
          refine m_get b dX9_step_186 lfX9_13 rfl ?_
          refine z_iconst b dX9_step_189 ?_
          refine z_isub b dX9_step_190 ?_
          refine w_dup2 b dX9_step_191 rfl rfl ?_
          refine m_ald (v := F 3 (I 2 - 1)) b dX9_step_192 rfl (by omega) rfl ?_
          refine z_iconst b dX9_step_193 ?_
          refine z_iadd b dX9_step_194 ?_
          refine m_ast b dX9_step_195 rfl (by omega) ?_
          refine w_aload_n b dX9_step_196 rfl rfl ?_
          refine m_get b dX9_step_197 lfX9_16 rfl ?_
          refine w_aload_n b dX9_step_200 rfl rfl ?_
          refine m_get b dX9_step_201 lfX9_13 rfl ?_
          refine z_iconst b dX9_step_204 ?_
          refine z_isub b dX9_step_205 ?_
          refine m_ald (v := F 3 (I 2 - 1) + 1) b dX9_step_206 rfl (by omega) (by rw [va_up_self, fu_s]) ?_
          refine z_iconst b dX9_step_207 ?_
          refine z_isub b dX9_step_208 ?_
          exact w_iret b dX9_step_209 rfl (by omega) (by omega) ⟨iv_eq (by omega), rfl⟩
        · exfalso; omega
      · exfalso; omega
  refine w_aload_n b dX9_step_0 rfl rfl ?_
  refine w_iload_n b dX9_step_1 rfl ?_
  refine z_iconst b dX9_step_2 ?_
  refine z_iconst b dX9_step_3 ?_
  refine c_V3 b dX9_step_4 lmX9_137 (mp_obj _ _ _ _) (k_X9_in (by omega) (by omega) (by omega)) (tle rfl) (by omega) (by omega) (by omega) ?_
  refine z_ifb_eq (tgt := 30) b dX9_step_7 (by decide) (fun c7 => ?_) (fun c7 => ?_)
  · exfalso; omega
  · refine w_aload_n b dX9_step_10 rfl rfl ?_
    refine w_iload_n b dX9_step_11 rfl ?_
    refine c_V1 b dX9_step_12 lmX9_141 (mp_obj _ _ _ _) (k_X9_hasColour (by omega)) (tle rfl) (by omega) (by omega) (by omega) ?_
    refine z_ifb_eq (tgt := 26) b dX9_step_15 (by decide) (fun c15 => ?_) (fun c15 => ?_)
    · refine z_iconst b dX9_step_26 ?_
      refine w_goto (tgt := 31) b dX9_step_27 (by decide) ?_
      refine w_istore b dX9_step_31 (tlt rfl) rfl ?_
      refine w_iload b dX9_step_33 rfl ?_
      refine z_if_eq (tgt := 91) b dX9_step_35 (by decide) (by omega) (fun c35 => ?_) (fun c35 => ?_)
      · exfalso; omega
      · refine w_aload_n b dX9_step_38 rfl rfl ?_
        refine w_iload_n b dX9_step_39 rfl ?_
        refine c_V1 b dX9_step_40 lmX9_148 (mp_obj _ _ _ _) (k_X9_hasNumber (by omega)) (tle rfl) (by omega) (by omega) (by omega) ?_
        refine z_ifb_eq (tgt := 91) b dX9_step_43 (by decide) (fun c43 => ?_) (fun c43 => ?_)
        · refine w_iload b dX9_step_91 rfl ?_
          refine z_if_ne (tgt := 98) b dX9_step_93 (by decide) (by omega) (fun c93 => ?_) (fun c93 => ?_)
          · exact k98
          · exfalso; omega
        · refine w_iload_n b dX9_step_46 rfl ?_
          refine z_if_ne (tgt := 61) b dX9_step_47 (by decide) (by omega) (fun c47 => ?_) (fun c47 => ?_)
          · refine w_iload_n b dX9_step_61 rfl ?_
            refine z_iconst b dX9_step_62 ?_
            refine z_icmp_ne (tgt := 81) b dX9_step_63 (by decide) (by omega) (fun c63 => ?_) (fun c63 => ?_)
            · refine w_aload_n b dX9_step_81 rfl rfl ?_
              refine w_iload_n b dX9_step_82 rfl ?_
              refine z_iconst b dX9_step_83 ?_
              refine z_bipush b dX9_step_84 (by decide) ?_
              refine c_V3 b dX9_step_86 lmX9_137 (mp_obj _ _ _ _) (k_X9_in_t (by omega) (by omega) (by omega) (by omega)) (tle rfl) (by omega) (by omega) (by omega) ?_
              refine w_istore b dX9_step_89 (tlt rfl) rfl ?_
              refine w_iload b dX9_step_91 rfl ?_
              refine z_if_ne (tgt := 98) b dX9_step_93 (by decide) (by omega) (fun c93 => ?_) (fun c93 => ?_)
              · exact k98
              · exfalso; omega
            · refine w_aload_n b dX9_step_66 rfl rfl ?_
              refine w_iload_n b dX9_step_67 rfl ?_
              refine z_iconst b dX9_step_68 ?_
              refine w_aload_n b dX9_step_69 rfl rfl ?_
              refine m_get b dX9_step_70 lfX9_13 rfl ?_
              refine z_iconst b dX9_step_73 ?_
              refine z_isub b dX9_step_74 ?_
              refine c_V3 b dX9_step_75 lmX9_137 (mp_obj _ _ _ _) (k_X9_in_t (by omega) (by omega) (by omega) (by omega)) (tle rfl) (by omega) (by omega) (by omega) ?_
              refine w_goto (tgt := 89) b dX9_step_78 (by decide) ?_
              refine w_istore b dX9_step_89 (tlt rfl) rfl ?_
              refine w_iload b dX9_step_91 rfl ?_
              refine z_if_ne (tgt := 98) b dX9_step_93 (by decide) (by omega) (fun c93 => ?_) (fun c93 => ?_)
              · exact k98
              · exfalso; omega
          · refine w_aload_n b dX9_step_50 rfl rfl ?_
            refine w_iload_n b dX9_step_51 rfl ?_
            refine z_iconst b dX9_step_52 ?_
            refine z_bipush b dX9_step_53 (by decide) ?_
            refine c_V3 b dX9_step_55 lmX9_137 (mp_obj _ _ _ _) (k_X9_in_t (by omega) (by omega) (by omega) (by omega)) (tle rfl) (by omega) (by omega) (by omega) ?_
            refine w_goto (tgt := 89) b dX9_step_58 (by decide) ?_
            refine w_istore b dX9_step_89 (tlt rfl) rfl ?_
            refine w_iload b dX9_step_91 rfl ?_
            refine z_if_ne (tgt := 98) b dX9_step_93 (by decide) (by omega) (fun c93 => ?_) (fun c93 => ?_)
            · exact k98
            · exfalso; omega
    · refine w_aload_n b dX9_step_18 rfl rfl ?_
      refine w_iload_n b dX9_step_19 rfl ?_
      refine c_V1 b dX9_step_20 lmX9_145 (mp_obj _ _ _ _) (k_X9_isColour (by omega)) (tle rfl) (by omega) (by omega) (by omega) ?_
      refine z_ifb_eq (tgt := 30) b dX9_step_23 (by decide) (fun c23 => ?_) (fun c23 => ?_)
      · exfalso; omega
      · refine z_iconst b dX9_step_26 ?_
        refine w_goto (tgt := 31) b dX9_step_27 (by decide) ?_
        refine w_istore b dX9_step_31 (tlt rfl) rfl ?_
        refine w_iload b dX9_step_33 rfl ?_
        refine z_if_eq (tgt := 91) b dX9_step_35 (by decide) (by omega) (fun c35 => ?_) (fun c35 => ?_)
        · exfalso; omega
        · refine w_aload_n b dX9_step_38 rfl rfl ?_
          refine w_iload_n b dX9_step_39 rfl ?_
          refine c_V1 b dX9_step_40 lmX9_148 (mp_obj _ _ _ _) (k_X9_hasNumber (by omega)) (tle rfl) (by omega) (by omega) (by omega) ?_
          refine z_ifb_eq (tgt := 91) b dX9_step_43 (by decide) (fun c43 => ?_) (fun c43 => ?_)
          · refine w_iload b dX9_step_91 rfl ?_
            refine z_if_ne (tgt := 98) b dX9_step_93 (by decide) (by omega) (fun c93 => ?_) (fun c93 => ?_)
            · exact k98
            · exfalso; omega
          · refine w_iload_n b dX9_step_46 rfl ?_
            refine z_if_ne (tgt := 61) b dX9_step_47 (by decide) (by omega) (fun c47 => ?_) (fun c47 => ?_)
            · refine w_iload_n b dX9_step_61 rfl ?_
              refine z_iconst b dX9_step_62 ?_
              refine z_icmp_ne (tgt := 81) b dX9_step_63 (by decide) (by omega) (fun c63 => ?_) (fun c63 => ?_)
              · refine w_aload_n b dX9_step_81 rfl rfl ?_
                refine w_iload_n b dX9_step_82 rfl ?_
                refine z_iconst b dX9_step_83 ?_
                refine z_bipush b dX9_step_84 (by decide) ?_
                refine c_V3 b dX9_step_86 lmX9_137 (mp_obj _ _ _ _) (k_X9_in_t (by omega) (by omega) (by omega) (by omega)) (tle rfl) (by omega) (by omega) (by omega) ?_
                refine w_istore b dX9_step_89 (tlt rfl) rfl ?_
                refine w_iload b dX9_step_91 rfl ?_
                refine z_if_ne (tgt := 98) b dX9_step_93 (by decide) (by omega) (fun c93 => ?_) (fun c93 => ?_)
                · exact k98
                · exfalso; omega
              · refine w_aload_n b dX9_step_66 rfl rfl ?_
                refine w_iload_n b dX9_step_67 rfl ?_
                refine z_iconst b dX9_step_68 ?_
                refine w_aload_n b dX9_step_69 rfl rfl ?_
                refine m_get b dX9_step_70 lfX9_13 rfl ?_
                refine z_iconst b dX9_step_73 ?_
                refine z_isub b dX9_step_74 ?_
                refine c_V3 b dX9_step_75 lmX9_137 (mp_obj _ _ _ _) (k_X9_in_t (by omega) (by omega) (by omega) (by omega)) (tle rfl) (by omega) (by omega) (by omega) ?_
                refine w_goto (tgt := 89) b dX9_step_78 (by decide) ?_
                refine w_istore b dX9_step_89 (tlt rfl) rfl ?_
                refine w_iload b dX9_step_91 rfl ?_
                refine z_if_ne (tgt := 98) b dX9_step_93 (by decide) (by omega) (fun c93 => ?_) (fun c93 => ?_)
                · exact k98
                · exfalso; omega
            · refine w_aload_n b dX9_step_50 rfl rfl ?_
              refine w_iload_n b dX9_step_51 rfl ?_
              refine z_iconst b dX9_step_52 ?_
              refine z_bipush b dX9_step_53 (by decide) ?_
              refine c_V3 b dX9_step_55 lmX9_137 (mp_obj _ _ _ _) (k_X9_in_t (by omega) (by omega) (by omega) (by omega)) (tle rfl) (by omega) (by omega) (by omega) ?_
              refine w_goto (tgt := 89) b dX9_step_58 (by decide) ?_
              refine w_istore b dX9_step_89 (tlt rfl) rfl ?_
              refine w_iload b dX9_step_91 rfl ?_
              refine z_if_ne (tgt := 98) b dX9_step_93 (by decide) (by omega) (fun c93 => ?_) (fun c93 => ?_)
              · exact k98
              · exfalso; omega
set_option maxRecDepth 20000 in
theorem l_X9_count {X : Cx} {l0 : Launch} {g : Gw} {Z : State → Prop} {mo nx : Nat} {h0 : Nat → va_E} {I : Nat → Int} {F : Nat → Int → Int} (b : BX X l0 g mX9_count 1 0 0)  (h21 : 0 ≤ I 21 ∧ I 21 ≤ 40) : ∀ (n : Nat) (r a : Int), (r + n = I 21) → (0 ≤ r) → WW X g mX9_count.2.2.1 Z 0 0 90 [some (.ref mo), some (.int (iI (5))), some (.int (iI (sumA (fun r => F 26 r) n r a))), none] [] (mp mo h0 I F, nx) → WW X g mX9_count.2.2.1 Z 0 0 67 [some (.ref mo), some (.int (iI (5))), some (.int (iI (a))), some (.int (iI (r)))] [] (mp mo h0 I F, nx) := by
  intro n
  induction n with
  | zero =>
    intro r a h1 h2 kk
    refine w_iload_n b dX9_count_67 rfl ?_
    refine w_aload_n b dX9_count_68 rfl rfl ?_
    refine m_get b dX9_count_69 lfX9_71 rfl ?_
    refine z_icmp_ge (tgt := 90) b dX9_count_72 (by decide) (by omega) (fun c72 => ?_) (fun c72 => ?_)
    · refine ww_forget 3 ?_
      exact kk
    · exfalso; omega
  | succ n ih =>
    intro r a h1 h2 kk
    refine w_iload_n b dX9_count_67 rfl ?_
    refine w_aload_n b dX9_count_68 rfl rfl ?_
    refine m_get b dX9_count_69 lfX9_71 rfl ?_
    refine z_icmp_ge (tgt := 90) b dX9_count_72 (by decide) (by omega) (fun c72 => ?_) (fun c72 => ?_)
    · exfalso; omega
    · refine w_iload_n b dX9_count_75 rfl ?_
      refine w_aload_n b dX9_count_76 rfl rfl ?_
      refine m_get b dX9_count_77 lfX9_86 rfl ?_
      refine w_iload_n b dX9_count_80 rfl ?_
      refine m_ald b dX9_count_81 rfl (by omega) rfl ?_
      refine z_iadd b dX9_count_82 ?_
      refine w_istore_n b dX9_count_83 (tlt rfl) rfl ?_
      refine z_iinc b dX9_count_84 rfl rfl rfl ?_
      refine w_goto (tgt := 67) b dX9_count_87 (by decide) ?_
      exact ih (r + 1) _ (by omega) (by omega) kk
set_option maxRecDepth 20000 in
theorem k_X9_count0 {l0 : Launch} {g : Gw} {mo nx : Nat} {h0 : Nat → va_E} {I : Nat → Int} {F : Nat → Int → Int}   : MD l0 g 1 mX9_count (mp mo h0 I F, nx) [.ref mo, .int (iI (0))] 0 0 (some (.int (iI (I 2)))) (mp mo h0 I F, nx) := by
  refine MD.of (by decide +kernel) (by simp [Value.category]) (tle rfl) (fun X b => ?_)
  change WW X g _ _ 0 0 0 [some (.ref mo), some (.int (iI (0))), none, none] [] _
  refine z_iconst b dX9_count_0 ?_
  refine w_istore_n b dX9_count_1 (tlt rfl) rfl ?_
  refine w_iload_n b dX9_count_2 rfl ?_
  refine w_tswI (tgt := 40) b dX9_count_3 (by decide) (by decide) rfl (by decide) ?_
  refine w_aload_n b dX9_count_40 rfl rfl ?_
  refine m_get b dX9_count_41 lfX9_13 rfl ?_
  exact w_iret b dX9_count_44 rfl (by omega) (by omega) ⟨iv_eq (by first | rfl | omega | ((try simp only [b2]); ((repeat' split) <;> (first | rfl | omega)))), rfl⟩
set_option maxRecDepth 20000 in
theorem k_X9_count1 {l0 : Launch} {g : Gw} {mo nx : Nat} {h0 : Nat → va_E} {I : Nat → Int} {F : Nat → Int → Int}   : MD l0 g 1 mX9_count (mp mo h0 I F, nx) [.ref mo, .int (iI (1))] 0 0 (some (.int (iI (I 21)))) (mp mo h0 I F, nx) := by
  refine MD.of (by decide +kernel) (by simp [Value.category]) (tle rfl) (fun X b => ?_)
  change WW X g _ _ 0 0 0 [some (.ref mo), some (.int (iI (1))), none, none] [] _
  refine z_iconst b dX9_count_0 ?_
  refine w_istore_n b dX9_count_1 (tlt rfl) rfl ?_
  refine w_iload_n b dX9_count_2 rfl ?_
  refine w_tswI (tgt := 45) b dX9_count_3 (by decide) (by decide) rfl (by decide) ?_
  refine w_aload_n b dX9_count_45 rfl rfl ?_
  refine m_get b dX9_count_46 lfX9_71 rfl ?_
  exact w_iret b dX9_count_49 rfl (by omega) (by omega) ⟨iv_eq (by first | rfl | omega | ((try simp only [b2]); ((repeat' split) <;> (first | rfl | omega)))), rfl⟩
set_option maxRecDepth 20000 in
theorem k_X9_count2 {l0 : Launch} {g : Gw} {mo nx : Nat} {h0 : Nat → va_E} {I : Nat → Int} {F : Nat → Int → Int}  (h1_ : 4 ≤ I 1 ∧ I 1 ≤ 40) (h21 : 0 ≤ I 21 ∧ I 21 ≤ 40) (h22 : ∀ j, 0 ≤ j → j < 1600 → 0 ≤ F 22 j ∧ F 22 j ≤ 7) (h23 : ∀ j, 0 ≤ j → j < 1600 → 0 ≤ F 23 j ∧ F 23 j ≤ 7) : MD l0 g 1 mX9_count (mp mo h0 I F, nx) [.ref mo, .int (iI (2))] 0 0 (some (.int (iI (faA (I 1).toNat (fun r i => b2 (¬ F 23 (40 * r + i) = F 22 (40 * r + i))) (I 21).toNat 0 0)))) (mp mo h0 I F, nx) := by
  refine MD.of (by decide +kernel) (by simp [Value.category]) (tle rfl) (fun X b => ?_)
  change WW X g _ _ 0 0 0 [some (.ref mo), some (.int (iI (2))), none, none] [] _
  refine z_iconst b dX9_count_0 ?_
  refine w_istore_n b dX9_count_1 (tlt rfl) rfl ?_
  refine w_iload_n b dX9_count_2 rfl ?_
  refine w_tswI (tgt := 50) b dX9_count_3 (by decide) (by decide) rfl (by decide) ?_
  refine w_aload_n b dX9_count_50 rfl rfl ?_
  refine c_V0 b dX9_count_51 lmX9_218 (mp_obj _ _ _ _) (k_X9_faults h1_ h21 (fun j g1 g2 => by have := h22 j g1 g2; constructor <;> omega) (fun j g1 g2 => by have := h23 j g1 g2; constructor <;> omega)) (tle rfl) (by omega) (by omega) (by omega) ?_
  exact w_iret b dX9_count_54 rfl (by omega) (by omega) ⟨iv_eq (by first | rfl | omega | ((try simp only [b2]); ((repeat' split) <;> (first | rfl | omega)))), rfl⟩
set_option maxRecDepth 20000 in
theorem k_X9_count3 {l0 : Launch} {g : Gw} {mo nx : Nat} {h0 : Nat → va_E} {I : Nat → Int} {F : Nat → Int → Int}   : MD l0 g 1 mX9_count (mp mo h0 I F, nx) [.ref mo, .int (iI (3))] 0 0 (some (.int (iI (I 27)))) (mp mo h0 I F, nx) := by
  refine MD.of (by decide +kernel) (by simp [Value.category]) (tle rfl) (fun X b => ?_)
  change WW X g _ _ 0 0 0 [some (.ref mo), some (.int (iI (3))), none, none] [] _
  refine z_iconst b dX9_count_0 ?_
  refine w_istore_n b dX9_count_1 (tlt rfl) rfl ?_
  refine w_iload_n b dX9_count_2 rfl ?_
  refine w_tswI (tgt := 55) b dX9_count_3 (by decide) (by decide) rfl (by decide) ?_
  refine w_aload_n b dX9_count_55 rfl rfl ?_
  refine m_get b dX9_count_56 lfX9_89 rfl ?_
  exact w_iret b dX9_count_59 rfl (by omega) (by omega) ⟨iv_eq (by first | rfl | omega | ((try simp only [b2]); ((repeat' split) <;> (first | rfl | omega)))), rfl⟩
set_option maxRecDepth 20000 in
theorem k_X9_count4 {l0 : Launch} {g : Gw} {mo nx : Nat} {h0 : Nat → va_E} {I : Nat → Int} {F : Nat → Int → Int}   : MD l0 g 1 mX9_count (mp mo h0 I F, nx) [.ref mo, .int (iI (4))] 0 0 (some (.int (iI (I 1)))) (mp mo h0 I F, nx) := by
  refine MD.of (by decide +kernel) (by simp [Value.category]) (tle rfl) (fun X b => ?_)
  change WW X g _ _ 0 0 0 [some (.ref mo), some (.int (iI (4))), none, none] [] _
  refine z_iconst b dX9_count_0 ?_
  refine w_istore_n b dX9_count_1 (tlt rfl) rfl ?_
  refine w_iload_n b dX9_count_2 rfl ?_
  refine w_tswI (tgt := 60) b dX9_count_3 (by decide) (by decide) rfl (by decide) ?_
  refine w_aload_n b dX9_count_60 rfl rfl ?_
  refine m_get b dX9_count_61 lfX9_134 rfl ?_
  exact w_iret b dX9_count_64 rfl (by omega) (by omega) ⟨iv_eq (by first | rfl | omega | ((try simp only [b2]); ((repeat' split) <;> (first | rfl | omega)))), rfl⟩
set_option maxRecDepth 20000 in
theorem k_X9_count5 {l0 : Launch} {g : Gw} {mo nx : Nat} {h0 : Nat → va_E} {I : Nat → Int} {F : Nat → Int → Int}  (h21 : 0 ≤ I 21 ∧ I 21 ≤ 40) : MD l0 g 1 mX9_count (mp mo h0 I F, nx) [.ref mo, .int (iI (5))] 0 0 (some (.int (iI (sumA (fun r => F 26 r) (I 21).toNat 0 0)))) (mp mo h0 I F, nx) := by
  refine MD.of (by decide +kernel) (by simp [Value.category]) (tle rfl) (fun X b => ?_)
  change WW X g _ _ 0 0 0 [some (.ref mo), some (.int (iI (5))), none, none] [] _
  refine z_iconst b dX9_count_0 ?_
  refine w_istore_n b dX9_count_1 (tlt rfl) rfl ?_
  refine w_iload_n b dX9_count_2 rfl ?_
  refine w_tswI (tgt := 65) b dX9_count_3 (by decide) (by decide) rfl (by decide) ?_
  refine z_iconst b dX9_count_65 ?_
  refine w_istore_n b dX9_count_66 (tlt rfl) rfl ?_
  refine l_X9_count b h21 (I 21).toNat 0 0 (by omega) (by omega) ?_
  refine w_iload_n b dX9_count_90 rfl ?_
  exact w_iret b dX9_count_91 rfl (by omega) (by omega) ⟨iv_eq (by first | rfl | omega | ((try simp only [b2]); ((repeat' split) <;> (first | rfl | omega)))), rfl⟩
set_option maxRecDepth 20000 in
theorem k_X9_countN {l0 : Launch} {g : Gw} {mo nx : Nat} {h0 : Nat → va_E} {I : Nat → Int} {F : Nat → Int → Int} {x : Int} (hx : inR x) (h : x < 0 ∨ 5 < x) : MD l0 g 1 mX9_count (mp mo h0 I F, nx) [.ref mo, .int (iI (x))] 0 0 (some (.int (iI (-1)))) (mp mo h0 I F, nx) := by
  refine MD.of (by decide +kernel) (by simp [Value.category]) (tle rfl) (fun X b => ?_)
  change WW X g _ _ 0 0 0 [some (.ref mo), some (.int (iI (x))), none, none] [] _
  refine z_iconst b dX9_count_0 ?_
  refine w_istore_n b dX9_count_1 (tlt rfl) rfl ?_
  refine w_iload_n b dX9_count_2 rfl ?_
  refine w_tswO (tgt := 92) b dX9_count_3 (by rw [iI_toInt hx]; omega) (by decide) ?_
  refine z_iconst b dX9_count_92 ?_
  exact w_iret b dX9_count_93 rfl (by omega) (by omega) ⟨iv_eq (by first | rfl | omega | ((try simp only [b2]); ((repeat' split) <;> (first | rfl | omega)))), rfl⟩
/-- shifts of a colour c: places of a row r; rows; colours -/
def shI (was sh : Int → Int) (x c r : Int) : Nat → Int → Int → Int → Int × Int
  | 0, _, n, l => (n, l)
  | k + 1, i, n, l => if was (40 * r + i) = c then shI was sh x c r k (i + 1) (n + b2 (0 ≤ l ∧ ¬ sh l = sh (40 * r + i) ∧ (x = 0 ∨ l / 40 = r))) (40 * r + i) else shI was sh x c r k (i + 1) n l
def shR (was sh : Int → Int) (x c : Int) (w : Nat) : Nat → Int → Int → Int → Int × Int
  | 0, _, n, l => (n, l)
  | k + 1, r, n, l => shR was sh x c w k (r + 1) (shI was sh x c r w 0 n l).1 (shI was sh x c r w 0 n l).2
def shC (was sh : Int → Int) (x : Int) (w rows : Nat) : Nat → Int → Int → Int
  | 0, _, n => n
  | k + 1, c, n => shC was sh x w rows k (c + 1) (shR was sh x c w rows 0 n (-1)).1
theorem shI_l (was sh : Int → Int) (x c r : Int) (hr : 0 ≤ r ∧ r < 40) : ∀ (k : Nat) (i n l : Int), 0 ≤ i → i + k ≤ 40 → (-1 ≤ l ∧ l < 1600) → -1 ≤ (shI was sh x c r k i n l).2 ∧ (shI was sh x c r k i n l).2 < 1600 := by
  intro k
  induction k with
  | zero => intro i n l _ _ h; exact h
  | succ k ih =>
    intro i n l h1 h2 h
    unfold shI
    split
    · exact ih (i + 1) _ _ (by omega) (by omega) (by omega)
    · exact ih (i + 1) _ _ (by omega) (by omega) h
set_option maxRecDepth 20000 in
theorem l_X9_shifts1 {X : Cx} {l0 : Launch} {g : Gw} {Z : State → Prop} {mo nx : Nat} {h0 : Nat → va_E} {I : Nat → Int} {F : Nat → Int → Int} (b : BX X l0 g mX9_shifts 1 0 0) {x c r : Int} (hc : 0 ≤ c ∧ c ≤ 7) (hr : 0 ≤ r ∧ r < I 21) (hx : 0 ≤ x ∧ x ≤ 1) (h1_ : 4 ≤ I 1 ∧ I 1 ≤ 40) (h21 : 0 ≤ I 21 ∧ I 21 ≤ 40) (h22 : ∀ j, 0 ≤ j → j < 1600 → 0 ≤ F 22 j ∧ F 22 j ≤ 7) (h24 : ∀ j, 0 ≤ j → j < 1600 → 0 ≤ F 24 j ∧ F 24 j ≤ 9) : ∀ (k : Nat) (i n l : Int), (i + k = I 1) → (0 ≤ i) → (-1 ≤ l ∧ l < 1600) → WW X g mX9_shifts.2.2.1 Z 0 0 127 [some (.ref mo), some (.int (iI (x))), some (.int (iI ((shI (F 22) (F 24) x c r k i n l).1))), some (.int (iI (c))), some (.int (iI ((shI (F 22) (F 24) x c r k i n l).2))), some (.int (iI (r))), none, none] [] (mp mo h0 I F, nx) → WW X g mX9_shifts.2.2.1 Z 0 0 40 [some (.ref mo), some (.int (iI (x))), some (.int (iI (n))), some (.int (iI (c))), some (.int (iI (l))), some (.int (iI (r))), some (.int (iI (i))), none] [] (mp mo h0 I F, nx) := by
  intro k
  induction k with
  | zero =>
    intro i n l h1 h2 h3 kk
    refine w_iload b dX9_shifts_40 rfl ?_
    refine w_aload_n b dX9_shifts_42 rfl rfl ?_
    refine m_get b dX9_shifts_43 lfX9_134 rfl ?_
    refine z_icmp_ge (tgt := 127) b dX9_shifts_46 (by decide) (by omega) (fun c46 => ?_) (fun c46 => ?_)
    · refine ww_forget 6 ?_
      exact kk
    · exfalso; omega
  | succ k ih =>
    intro i n l h1 h2 h3 kk
    refine w_iload b dX9_shifts_40 rfl ?_
    refine w_aload_n b dX9_shifts_42 rfl rfl ?_
    refine m_get b dX9_shifts_43 lfX9_134 rfl ?_
    refine z_icmp_ge (tgt := 127) b dX9_shifts_46 (by decide) (by omega) (fun c46 => ?_) (fun c46 => ?_)
    · exfalso; omega
    · refine z_bipush b dX9_shifts_49 (by decide) ?_
      refine w_iload b dX9_shifts_51 rfl ?_
      refine z_imul b dX9_shifts_53 ?_
      refine w_iload b dX9_shifts_54 rfl ?_
      refine z_iadd b dX9_shifts_56 ?_
      refine w_istore b dX9_shifts_57 (tlt rfl) rfl ?_
      refine w_aload_n b dX9_shifts_59 rfl rfl ?_
      refine m_get b dX9_shifts_60 lfX9_74 rfl ?_
      refine w_iload b dX9_shifts_63 rfl ?_
      refine m_ald b dX9_shifts_65 rfl (by omega) rfl ?_
      refine w_iload_n b dX9_shifts_66 rfl ?_
      refine z_icmp_eq (tgt := 73) b dX9_shifts_67 (by decide) (by have := h22 (40 * r + i) (by omega) (by omega); omega) (fun c67 => ?_) (fun c67 => ?_)
      · refine w_iload_n b dX9_shifts_73 rfl ?_
        refine w_iload b dX9_shifts_74 rfl ?_
        refine z_if_lt (tgt := 114) b dX9_shifts_76 (by decide) (by omega) (fun c76 => ?_) (fun c76 => ?_)
        · have e2 : b2 (0 ≤ l ∧ ¬ F 24 l = F 24 (40 * r + i) ∧ (x = 0 ∨ l / 40 = r)) = 0 := b2_f (fun z => by omega)
          have e1 : shI (F 22) (F 24) x c r (k + 1) i n l = shI (F 22) (F 24) x c r k (i + 1) (n + 0) (40 * r + i) := by
            conv => lhs; unfold shI
            rw [if_pos c67, e2]
          rw [e1] at kk
          refine z_iconst b dX9_shifts_114 ?_
          refine z_iadd b dX9_shifts_115 ?_
          refine w_istore_n b dX9_shifts_116 (tlt rfl) rfl ?_
          refine w_iload b dX9_shifts_117 rfl ?_
          refine w_istore b dX9_shifts_119 (tlt rfl) rfl ?_
          refine z_iinc b dX9_shifts_121 rfl rfl rfl ?_
          refine w_goto (tgt := 40) b dX9_shifts_124 (by decide) ?_
          refine ww_forget 7 ?_
          exact ih (i + 1) _ _ (by omega) (by omega) (by omega) kk
        · refine w_aload_n b dX9_shifts_79 rfl rfl ?_
          refine m_get b dX9_shifts_80 lfX9_80 rfl ?_
          refine w_iload b dX9_shifts_83 rfl ?_
          refine m_ald b dX9_shifts_85 rfl (by omega) rfl ?_
          refine w_aload_n b dX9_shifts_86 rfl rfl ?_
          refine m_get b dX9_shifts_87 lfX9_80 rfl ?_
          refine w_iload b dX9_shifts_90 rfl ?_
          refine m_ald b dX9_shifts_92 rfl (by omega) rfl ?_
          refine z_icmp_eq (tgt := 114) b dX9_shifts_93 (by decide) (by have := h24 l (by omega) (by omega); have := h24 (40 * r + i) (by omega) (by omega); omega) (fun c93 => ?_) (fun c93 => ?_)
          · have e2 : b2 (0 ≤ l ∧ ¬ F 24 l = F 24 (40 * r + i) ∧ (x = 0 ∨ l / 40 = r)) = 0 := b2_f (fun z => z.2.1 c93)
            have e1 : shI (F 22) (F 24) x c r (k + 1) i n l = shI (F 22) (F 24) x c r k (i + 1) (n + 0) (40 * r + i) := by
              conv => lhs; unfold shI
              rw [if_pos c67, e2]
            rw [e1] at kk
            refine z_iconst b dX9_shifts_114 ?_
            refine z_iadd b dX9_shifts_115 ?_
            refine w_istore_n b dX9_shifts_116 (tlt rfl) rfl ?_
            refine w_iload b dX9_shifts_117 rfl ?_
            refine w_istore b dX9_shifts_119 (tlt rfl) rfl ?_
            refine z_iinc b dX9_shifts_121 rfl rfl rfl ?_
            refine w_goto (tgt := 40) b dX9_shifts_124 (by decide) ?_
            refine ww_forget 7 ?_
            exact ih (i + 1) _ _ (by omega) (by omega) (by omega) kk
          · refine w_iload_n b dX9_shifts_96 rfl ?_
            refine z_if_eq (tgt := 110) b dX9_shifts_97 (by decide) (by omega) (fun c97 => ?_) (fun c97 => ?_)
            · have e2 : b2 (0 ≤ l ∧ ¬ F 24 l = F 24 (40 * r + i) ∧ (x = 0 ∨ l / 40 = r)) = 1 := b2_t ⟨by omega, c93, Or.inl c97⟩
              have e1 : shI (F 22) (F 24) x c r (k + 1) i n l = shI (F 22) (F 24) x c r k (i + 1) (n + 1) (40 * r + i) := by
                conv => lhs; unfold shI
                rw [if_pos c67, e2]
              rw [e1] at kk
              refine z_iconst b dX9_shifts_110 ?_
              refine w_goto (tgt := 115) b dX9_shifts_111 (by decide) ?_
              refine z_iadd b dX9_shifts_115 ?_
              refine w_istore_n b dX9_shifts_116 (tlt rfl) rfl ?_
              refine w_iload b dX9_shifts_117 rfl ?_
              refine w_istore b dX9_shifts_119 (tlt rfl) rfl ?_
              refine z_iinc b dX9_shifts_121 rfl rfl rfl ?_
              refine w_goto (tgt := 40) b dX9_shifts_124 (by decide) ?_
              refine ww_forget 7 ?_
              exact ih (i + 1) _ _ (by omega) (by omega) (by omega) kk
            · refine w_iload b dX9_shifts_100 rfl ?_
              refine z_bipush b dX9_shifts_102 (by decide) ?_
              refine z_idiv b dX9_shifts_104 (by omega) ?_
              refine w_iload b dX9_shifts_105 rfl ?_
              refine z_icmp_ne (tgt := 114) b dX9_shifts_107 (by decide) (by omega) (fun c107 => ?_) (fun c107 => ?_)
              · have e2 : b2 (0 ≤ l ∧ ¬ F 24 l = F 24 (40 * r + i) ∧ (x = 0 ∨ l / 40 = r)) = 0 := b2_f (fun z => z.2.2.elim (fun y => c97 y) (fun y => c107 y))
                have e1 : shI (F 22) (F 24) x c r (k + 1) i n l = shI (F 22) (F 24) x c r k (i + 1) (n + 0) (40 * r + i) := by
                  conv => lhs; unfold shI
                  rw [if_pos c67, e2]
                rw [e1] at kk
                refine z_iconst b dX9_shifts_114 ?_
                refine z_iadd b dX9_shifts_115 ?_
                refine w_istore_n b dX9_shifts_116 (tlt rfl) rfl ?_
                refine w_iload b dX9_shifts_117 rfl ?_
                refine w_istore b dX9_shifts_119 (tlt rfl) rfl ?_
                refine z_iinc b dX9_shifts_121 rfl rfl rfl ?_
                refine w_goto (tgt := 40) b dX9_shifts_124 (by decide) ?_
                refine ww_forget 7 ?_
                exact ih (i + 1) _ _ (by omega) (by omega) (by omega) kk
              · have e2 : b2 (0 ≤ l ∧ ¬ F 24 l = F 24 (40 * r + i) ∧ (x = 0 ∨ l / 40 = r)) = 1 := b2_t ⟨by omega, c93, Or.inr c107⟩
                have e1 : shI (F 22) (F 24) x c r (k + 1) i n l = shI (F 22) (F 24) x c r k (i + 1) (n + 1) (40 * r + i) := by
                  conv => lhs; unfold shI
                  rw [if_pos c67, e2]
                rw [e1] at kk
                refine z_iconst b dX9_shifts_110 ?_
                refine w_goto (tgt := 115) b dX9_shifts_111 (by decide) ?_
                refine z_iadd b dX9_shifts_115 ?_
                refine w_istore_n b dX9_shifts_116 (tlt rfl) rfl ?_
                refine w_iload b dX9_shifts_117 rfl ?_
                refine w_istore b dX9_shifts_119 (tlt rfl) rfl ?_
                refine z_iinc b dX9_shifts_121 rfl rfl rfl ?_
                refine w_goto (tgt := 40) b dX9_shifts_124 (by decide) ?_
                refine ww_forget 7 ?_
                exact ih (i + 1) _ _ (by omega) (by omega) (by omega) kk
      · have e1 : shI (F 22) (F 24) x c r (k + 1) i n l = shI (F 22) (F 24) x c r k (i + 1) n l := by
          conv => lhs; unfold shI
          rw [if_neg c67]
        rw [e1] at kk
        refine w_goto (tgt := 121) b dX9_shifts_70 (by decide) ?_
        refine z_iinc b dX9_shifts_121 rfl rfl rfl ?_
        refine w_goto (tgt := 40) b dX9_shifts_124 (by decide) ?_
        refine ww_forget 7 ?_
        exact ih (i + 1) n l (by omega) (by omega) h3 kk
set_option maxRecDepth 20000 in
theorem l_X9_shifts2 {X : Cx} {l0 : Launch} {g : Gw} {Z : State → Prop} {mo nx : Nat} {h0 : Nat → va_E} {I : Nat → Int} {F : Nat → Int → Int} (b : BX X l0 g mX9_shifts 1 0 0) {x c : Int} (hc : 0 ≤ c ∧ c ≤ 7) (hx : 0 ≤ x ∧ x ≤ 1) (h1_ : 4 ≤ I 1 ∧ I 1 ≤ 40) (h21 : 0 ≤ I 21 ∧ I 21 ≤ 40) (h22 : ∀ j, 0 ≤ j → j < 1600 → 0 ≤ F 22 j ∧ F 22 j ≤ 7) (h24 : ∀ j, 0 ≤ j → j < 1600 → 0 ≤ F 24 j ∧ F 24 j ≤ 9) : ∀ (k : Nat) (r n l : Int), (r + k = I 21) → (0 ≤ r) → (-1 ≤ l ∧ l < 1600) → WW X g mX9_shifts.2.2.1 Z 0 0 133 [some (.ref mo), some (.int (iI (x))), some (.int (iI ((shR (F 22) (F 24) x c (I 1).toNat k r n l).1))), some (.int (iI (c))), none, none, none, none] [] (mp mo h0 I F, nx) → WW X g mX9_shifts.2.2.1 Z 0 0 28 [some (.ref mo), some (.int (iI (x))), some (.int (iI (n))), some (.int (iI (c))), some (.int (iI (l))), some (.int (iI (r))), none, none] [] (mp mo h0 I F, nx) := by
  intro k
  induction k with
  | zero =>
    intro r n l h1 h2 h3 kk
    refine w_iload b dX9_shifts_28 rfl ?_
    refine w_aload_n b dX9_shifts_30 rfl rfl ?_
    refine m_get b dX9_shifts_31 lfX9_71 rfl ?_
    refine z_icmp_ge (tgt := 133) b dX9_shifts_34 (by decide) (by omega) (fun c34 => ?_) (fun c34 => ?_)
    · refine ww_forget 4 ?_
      refine ww_forget 5 ?_
      exact kk
    · exfalso; omega
  | succ k ih =>
    intro r n l h1 h2 h3 kk
    refine w_iload b dX9_shifts_28 rfl ?_
    refine w_aload_n b dX9_shifts_30 rfl rfl ?_
    refine m_get b dX9_shifts_31 lfX9_71 rfl ?_
    refine z_icmp_ge (tgt := 133) b dX9_shifts_34 (by decide) (by omega) (fun c34 => ?_) (fun c34 => ?_)
    · exfalso; omega
    · refine z_iconst b dX9_shifts_37 ?_
      refine w_istore b dX9_shifts_38 (tlt rfl) rfl ?_
      refine l_X9_shifts1 b hc (by omega) hx h1_ h21 h22 h24 (I 1).toNat 0 n l (by omega) (by omega) h3 ?_
      refine z_iinc b dX9_shifts_127 rfl rfl rfl ?_
      refine w_goto (tgt := 28) b dX9_shifts_130 (by decide) ?_
      exact ih (r + 1) _ _ (by omega) (by omega) (shI_l _ _ _ _ _ (by omega) _ _ _ _ (by omega) (by omega) h3) kk
set_option maxRecDepth 20000 in
theorem l_X9_shifts3 {X : Cx} {l0 : Launch} {g : Gw} {Z : State → Prop} {mo nx : Nat} {h0 : Nat → va_E} {I : Nat → Int} {F : Nat → Int → Int} (b : BX X l0 g mX9_shifts 1 0 0) {x : Int} (hx : 0 ≤ x ∧ x ≤ 1) (h1_ : 4 ≤ I 1 ∧ I 1 ≤ 40) (h21 : 0 ≤ I 21 ∧ I 21 ≤ 40) (h22 : ∀ j, 0 ≤ j → j < 1600 → 0 ≤ F 22 j ∧ F 22 j ≤ 7) (h24 : ∀ j, 0 ≤ j → j < 1600 → 0 ≤ F 24 j ∧ F 24 j ≤ 9) : ∀ (k : Nat) (c n : Int), (c + k = 8) → (0 ≤ c) → WW X g mX9_shifts.2.2.1 Z 0 0 139 [some (.ref mo), some (.int (iI (x))), some (.int (iI (shC (F 22) (F 24) x (I 1).toNat (I 21).toNat k c n))), none, none, none, none, none] [] (mp mo h0 I F, nx) → WW X g mX9_shifts.2.2.1 Z 0 0 16 [some (.ref mo), some (.int (iI (x))), some (.int (iI (n))), some (.int (iI (c))), none, none, none, none] [] (mp mo h0 I F, nx) := by
  intro k
  induction k with
  | zero =>
    intro c n h1 h2 kk
    refine w_iload_n b dX9_shifts_16 rfl ?_
    refine z_bipush b dX9_shifts_17 (by decide) ?_
    refine z_icmp_ge (tgt := 139) b dX9_shifts_19 (by decide) (by omega) (fun c19 => ?_) (fun c19 => ?_)
    · refine ww_forget 3 ?_
      exact kk
    · exfalso; omega
  | succ k ih =>
    intro c n h1 h2 kk
    refine w_iload_n b dX9_shifts_16 rfl ?_
    refine z_bipush b dX9_shifts_17 (by decide) ?_
    refine z_icmp_ge (tgt := 139) b dX9_shifts_19 (by decide) (by omega) (fun c19 => ?_) (fun c19 => ?_)
    · exfalso; omega
    · refine z_iconst b dX9_shifts_22 ?_
      refine w_istore b dX9_shifts_23 (tlt rfl) rfl ?_
      refine z_iconst b dX9_shifts_25 ?_
      refine w_istore b dX9_shifts_26 (tlt rfl) rfl ?_
      refine l_X9_shifts2 b (by omega) hx h1_ h21 h22 h24 (I 21).toNat 0 n (-1) (by omega) (by omega) (by omega) ?_
      refine z_iinc b dX9_shifts_133 rfl rfl rfl ?_
      refine w_goto (tgt := 16) b dX9_shifts_136 (by decide) ?_
      exact ih (c + 1) _ (by omega) (by omega) kk
set_option maxRecDepth 20000 in
theorem k_X9_shifts0 {l0 : Launch} {g : Gw} {mo nx : Nat} {h0 : Nat → va_E} {I : Nat → Int} {F : Nat → Int → Int} {x : Int} (hx : inR x) (hb : ¬ (0 ≤ x ∧ x ≤ 1)) : MD l0 g 1 mX9_shifts (mp mo h0 I F, nx) [.ref mo, .int (iI (x))] 0 0 (some (.int (iI (-1)))) (mp mo h0 I F, nx) := by
  refine MD.of (by decide +kernel) (by simp [Value.category]) (tle rfl) (fun X b => ?_)
  change WW X g _ _ 0 0 0 [some (.ref mo), some (.int (iI (x))), none, none, none, none, none, none] [] _
  refine w_aload_n b dX9_shifts_0 rfl rfl ?_
  refine w_iload_n b dX9_shifts_1 rfl ?_
  refine z_iconst b dX9_shifts_2 ?_
  refine z_iconst b dX9_shifts_3 ?_
  refine c_V3 b dX9_shifts_4 lmX9_137 (mp_obj _ _ _ _) (k_X9_in (by omega) (by omega) (by omega)) (tle rfl) (by omega) (by omega) (by omega) ?_
  refine z_ifb_ne (tgt := 12) b dX9_shifts_7 (by decide) (fun c7 => ?_) (fun c7 => ?_)
  · exfalso; omega
  · refine z_iconst b dX9_shifts_10 ?_
    exact w_iret b dX9_shifts_11 rfl (by omega) (by omega) ⟨iv_eq (by first | rfl | omega | ((try simp only [b2]); ((repeat' split) <;> (first | rfl | omega)))), rfl⟩
set_option maxRecDepth 20000 in
theorem k_X9_shifts1 {l0 : Launch} {g : Gw} {mo nx : Nat} {h0 : Nat → va_E} {I : Nat → Int} {F : Nat → Int → Int} {x : Int} (hx : 0 ≤ x ∧ x ≤ 1) (h1_ : 4 ≤ I 1 ∧ I 1 ≤ 40) (h21 : 0 ≤ I 21 ∧ I 21 ≤ 40) (h22 : ∀ j, 0 ≤ j → j < 1600 → 0 ≤ F 22 j ∧ F 22 j ≤ 7) (h24 : ∀ j, 0 ≤ j → j < 1600 → 0 ≤ F 24 j ∧ F 24 j ≤ 9) : MD l0 g 1 mX9_shifts (mp mo h0 I F, nx) [.ref mo, .int (iI (x))] 0 0 (some (.int (iI (shC (F 22) (F 24) x (I 1).toNat (I 21).toNat 8 0 0)))) (mp mo h0 I F, nx) := by
  refine MD.of (by decide +kernel) (by simp [Value.category]) (tle rfl) (fun X b => ?_)
  change WW X g _ _ 0 0 0 [some (.ref mo), some (.int (iI (x))), none, none, none, none, none, none] [] _
  refine w_aload_n b dX9_shifts_0 rfl rfl ?_
  refine w_iload_n b dX9_shifts_1 rfl ?_
  refine z_iconst b dX9_shifts_2 ?_
  refine z_iconst b dX9_shifts_3 ?_
  refine c_V3 b dX9_shifts_4 lmX9_137 (mp_obj _ _ _ _) (k_X9_in (by omega) (by omega) (by omega)) (tle rfl) (by omega) (by omega) (by omega) ?_
  refine z_ifb_ne (tgt := 12) b dX9_shifts_7 (by decide) (fun c7 => ?_) (fun c7 => ?_)
  · refine z_iconst b dX9_shifts_12 ?_
    refine w_istore_n b dX9_shifts_13 (tlt rfl) rfl ?_
    refine z_iconst b dX9_shifts_14 ?_
    refine w_istore_n b dX9_shifts_15 (tlt rfl) rfl ?_
    refine l_X9_shifts3 b hx h1_ h21 h22 h24 8 0 0 (by omega) (by omega) ?_
    refine w_iload_n b dX9_shifts_139 rfl ?_
    exact w_iret b dX9_shifts_140 rfl (by omega) (by omega) ⟨iv_eq (by first | rfl | omega | ((try simp only [b2]); ((repeat' split) <;> (first | rfl | omega)))), rfl⟩
  · exfalso; omega
