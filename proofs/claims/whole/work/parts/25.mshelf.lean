/-! THE REFERENCE: shelves, steps, counts (by p25.py) -/
/-- n places of src, from i on, come to base + i on -/
def cpA (src : Int → Int) (base : Int) : Nat → Int → (Int → Int) → Int → Int
  | 0, _, f => f
  | n + 1, i, f => cpA src base n (i + 1) (fu f (base + i) (src i))
theorem cpA_at (src : Int → Int) (base : Int) : ∀ (n : Nat) (i : Int) (f : Int → Int) (x : Int), cpA src base n i f x = if base + i ≤ x ∧ x < base + i + n then src (x - base) else f x := by
  intro n
  induction n with
  | zero => intro i f x; unfold cpA; rw [if_neg (by omega)]
  | succ n ih =>
    intro i f x
    unfold cpA
    rw [ih]
    by_cases hx : x = base + i
    · subst hx
      rw [if_neg (by omega), if_pos (by omega), fu_s]
      congr 1
      omega
    · rw [fu_n hx]
      by_cases h2 : base + i ≤ x ∧ x < base + i + ((n + 1 : Nat) : Int)
      · rw [if_pos (by omega), if_pos h2]
      · rw [if_neg (by omega), if_neg h2]
theorem fillA_at (v : Int) : ∀ (n : Nat) (a : Int) (f : Int → Int) (x : Int), fillA v n a f x = if a ≤ x ∧ x < a + n then v else f x := by
  intro n
  induction n with
  | zero => intro a f x; unfold fillA; rw [if_neg (by omega)]
  | succ n ih =>
    intro a f x
    unfold fillA
    rw [ih]
    by_cases hx : x = a
    · subst hx
      rw [if_neg (by omega), if_pos (by omega), fu_s]
    · rw [fu_n hx]
      by_cases h2 : a ≤ x ∧ x < a + ((n + 1 : Nat) : Int)
      · rw [if_pos (by omega), if_pos h2]
      · rw [if_neg (by omega), if_neg h2]
set_option maxRecDepth 20000 in
theorem k_X9_keep0 {l0 : Launch} {g : Gw} {mo nx : Nat} {h0 : Nat → va_E} {I : Nat → Int} {F : Nat → Int → Int} {d x k n : Int} (hd : inR d) (hx : inR x) (hk : inR k) (hn : inR n) (h2_ : 0 ≤ I 2 ∧ I 2 ≤ 12) (h21 : 0 ≤ I 21 ∧ I 21 ≤ 40) (h3_ : ∀ j, 0 ≤ j → j < 12 → 0 ≤ F 3 j ∧ F 3 j ≤ 12) (hbad : ¬ ((0 ≤ d ∧ d ≤ 7) ∧ (x = 0 ∨ x = 4 ∨ (x = 1 ∧ (0 ≤ k ∧ k ≤ I 2 - 1) ∧ (0 ≤ n ∧ n ≤ F 3 k - 1)) ∨ (x = 3 ∧ (0 ≤ k ∧ k ≤ I 21 - 1))))) : MD l0 g 2 mX9_keep (mp mo h0 I F, nx) [.ref mo, .int (iI (d)), .int (iI (x)), .int (iI (k)), .int (iI (n))] 0 0 (some (.int (iI (-1)))) (mp mo h0 I F, nx) := by
  refine MD.of (by decide +kernel) (by simp [Value.category]) (tle rfl) (fun X b => ?_)
  change WW X g _ _ 0 0 0 [some (.ref mo), some (.int (iI (d))), some (.int (iI (x))), some (.int (iI (k))), some (.int (iI (n))), none, none] [] _
  refine w_aload_n b dX9_keep_0 rfl rfl ?_
  refine w_iload_n b dX9_keep_1 rfl ?_
  refine c_V1 b dX9_keep_2 lmX9_222 (mp_obj _ _ _ _) (k_X9_isShelf (by omega)) (tle rfl) (by omega) (by omega) (by omega) ?_
  refine z_ifb_eq (tgt := 72) b dX9_keep_5 (by decide) (fun c5 => ?_) (fun c5 => ?_)
  · refine z_iconst b dX9_keep_72 ?_
    refine w_istore b dX9_keep_73 (tlt rfl) rfl ?_
    refine w_iload b dX9_keep_75 rfl ?_
    refine z_if_ne (tgt := 82) b dX9_keep_77 (by decide) (by omega) (fun c77 => ?_) (fun c77 => ?_)
    · exfalso; omega
    · refine z_iconst b dX9_keep_80 ?_
      exact w_iret b dX9_keep_81 rfl (by omega) (by omega) ⟨iv_eq (by first | rfl | omega | ((try simp only [b2]); ((repeat' split) <;> (first | rfl | omega)))), rfl⟩
  · refine w_iload_n b dX9_keep_8 rfl ?_
    refine z_if_eq (tgt := 68) b dX9_keep_9 (by decide) (by omega) (fun c9 => ?_) (fun c9 => ?_)
    · exfalso; omega
    · refine w_iload_n b dX9_keep_12 rfl ?_
      refine z_iconst b dX9_keep_13 ?_
      refine z_icmp_eq (tgt := 68) b dX9_keep_14 (by decide) (by omega) (fun c14 => ?_) (fun c14 => ?_)
      · exfalso; omega
      · refine w_iload_n b dX9_keep_17 rfl ?_
        refine z_iconst b dX9_keep_18 ?_
        refine z_icmp_ne (tgt := 48) b dX9_keep_19 (by decide) (by omega) (fun c19 => ?_) (fun c19 => ?_)
        · refine w_iload_n b dX9_keep_48 rfl ?_
          refine z_iconst b dX9_keep_49 ?_
          refine z_icmp_ne (tgt := 72) b dX9_keep_50 (by decide) (by omega) (fun c50 => ?_) (fun c50 => ?_)
          · refine z_iconst b dX9_keep_72 ?_
            refine w_istore b dX9_keep_73 (tlt rfl) rfl ?_
            refine w_iload b dX9_keep_75 rfl ?_
            refine z_if_ne (tgt := 82) b dX9_keep_77 (by decide) (by omega) (fun c77 => ?_) (fun c77 => ?_)
            · exfalso; omega
            · refine z_iconst b dX9_keep_80 ?_
              exact w_iret b dX9_keep_81 rfl (by omega) (by omega) ⟨iv_eq (by first | rfl | omega | ((try simp only [b2]); ((repeat' split) <;> (first | rfl | omega)))), rfl⟩
          · refine w_aload_n b dX9_keep_53 rfl rfl ?_
            refine w_iload_n b dX9_keep_54 rfl ?_
            refine z_iconst b dX9_keep_55 ?_
            refine w_aload_n b dX9_keep_56 rfl rfl ?_
            refine m_get b dX9_keep_57 lfX9_71 rfl ?_
            refine z_iconst b dX9_keep_60 ?_
            refine z_isub b dX9_keep_61 ?_
            refine c_V3 b dX9_keep_62 lmX9_137 (mp_obj _ _ _ _) (k_X9_in (by omega) (by omega) (by omega)) (tle rfl) (by omega) (by omega) (by omega) ?_
            refine z_ifb_eq (tgt := 72) b dX9_keep_65 (by decide) (fun c65 => ?_) (fun c65 => ?_)
            · refine z_iconst b dX9_keep_72 ?_
              refine w_istore b dX9_keep_73 (tlt rfl) rfl ?_
              refine w_iload b dX9_keep_75 rfl ?_
              refine z_if_ne (tgt := 82) b dX9_keep_77 (by decide) (by omega) (fun c77 => ?_) (fun c77 => ?_)
              · exfalso; omega
              · refine z_iconst b dX9_keep_80 ?_
                exact w_iret b dX9_keep_81 rfl (by omega) (by omega) ⟨iv_eq (by first | rfl | omega | ((try simp only [b2]); ((repeat' split) <;> (first | rfl | omega)))), rfl⟩
            · exfalso; omega
        · refine w_aload_n b dX9_keep_22 rfl rfl ?_
          refine w_iload_n b dX9_keep_23 rfl ?_
          refine c_V1 b dX9_keep_24 lmX9_165 (mp_obj _ _ _ _) (k_X9_isChant (by omega) h2_) (tle rfl) (by omega) (by omega) (by omega) ?_
          refine z_ifb_eq (tgt := 48) b dX9_keep_27 (by decide) (fun c27 => ?_) (fun c27 => ?_)
          · refine w_iload_n b dX9_keep_48 rfl ?_
            refine z_iconst b dX9_keep_49 ?_
            refine z_icmp_ne (tgt := 72) b dX9_keep_50 (by decide) (by omega) (fun c50 => ?_) (fun c50 => ?_)
            · refine z_iconst b dX9_keep_72 ?_
              refine w_istore b dX9_keep_73 (tlt rfl) rfl ?_
              refine w_iload b dX9_keep_75 rfl ?_
              refine z_if_ne (tgt := 82) b dX9_keep_77 (by decide) (by omega) (fun c77 => ?_) (fun c77 => ?_)
              · exfalso; omega
              · refine z_iconst b dX9_keep_80 ?_
                exact w_iret b dX9_keep_81 rfl (by omega) (by omega) ⟨iv_eq (by first | rfl | omega | ((try simp only [b2]); ((repeat' split) <;> (first | rfl | omega)))), rfl⟩
            · refine w_aload_n b dX9_keep_53 rfl rfl ?_
              refine w_iload_n b dX9_keep_54 rfl ?_
              refine z_iconst b dX9_keep_55 ?_
              refine w_aload_n b dX9_keep_56 rfl rfl ?_
              refine m_get b dX9_keep_57 lfX9_71 rfl ?_
              refine z_iconst b dX9_keep_60 ?_
              refine z_isub b dX9_keep_61 ?_
              refine c_V3 b dX9_keep_62 lmX9_137 (mp_obj _ _ _ _) (k_X9_in (by omega) (by omega) (by omega)) (tle rfl) (by omega) (by omega) (by omega) ?_
              refine z_ifb_eq (tgt := 72) b dX9_keep_65 (by decide) (fun c65 => ?_) (fun c65 => ?_)
              · refine z_iconst b dX9_keep_72 ?_
                refine w_istore b dX9_keep_73 (tlt rfl) rfl ?_
                refine w_iload b dX9_keep_75 rfl ?_
                refine z_if_ne (tgt := 82) b dX9_keep_77 (by decide) (by omega) (fun c77 => ?_) (fun c77 => ?_)
                · exfalso; omega
                · refine z_iconst b dX9_keep_80 ?_
                  exact w_iret b dX9_keep_81 rfl (by omega) (by omega) ⟨iv_eq (by first | rfl | omega | ((try simp only [b2]); ((repeat' split) <;> (first | rfl | omega)))), rfl⟩
              · exfalso; omega
          · refine w_aload_n b dX9_keep_30 rfl rfl ?_
            refine w_iload b dX9_keep_31 rfl ?_
            refine z_iconst b dX9_keep_33 ?_
            refine w_aload_n b dX9_keep_34 rfl rfl ?_
            refine m_get b dX9_keep_35 lfX9_16 rfl ?_
            refine w_iload_n b dX9_keep_38 rfl ?_
            refine m_ald b dX9_keep_39 rfl (by omega) rfl ?_
            refine z_iconst b dX9_keep_40 ?_
            refine z_isub b dX9_keep_41 ?_
            refine c_V3 b dX9_keep_42 lmX9_137 (mp_obj _ _ _ _) (k_X9_in (by omega) (by omega) (by have := h3_ k (by omega) (by omega); omega)) (tle rfl) (by omega) (by omega) (by omega) ?_
            refine z_ifb_ne (tgt := 68) b dX9_keep_45 (by decide) (fun c45 => ?_) (fun c45 => ?_)
            · exfalso; omega
            · refine w_iload_n b dX9_keep_48 rfl ?_
              refine z_iconst b dX9_keep_49 ?_
              refine z_icmp_ne (tgt := 72) b dX9_keep_50 (by decide) (by omega) (fun c50 => ?_) (fun c50 => ?_)
              · refine z_iconst b dX9_keep_72 ?_
                refine w_istore b dX9_keep_73 (tlt rfl) rfl ?_
                refine w_iload b dX9_keep_75 rfl ?_
                refine z_if_ne (tgt := 82) b dX9_keep_77 (by decide) (by omega) (fun c77 => ?_) (fun c77 => ?_)
                · exfalso; omega
                · refine z_iconst b dX9_keep_80 ?_
                  exact w_iret b dX9_keep_81 rfl (by omega) (by omega) ⟨iv_eq (by first | rfl | omega | ((try simp only [b2]); ((repeat' split) <;> (first | rfl | omega)))), rfl⟩
              · refine w_aload_n b dX9_keep_53 rfl rfl ?_
                refine w_iload_n b dX9_keep_54 rfl ?_
                refine z_iconst b dX9_keep_55 ?_
                refine w_aload_n b dX9_keep_56 rfl rfl ?_
                refine m_get b dX9_keep_57 lfX9_71 rfl ?_
                refine z_iconst b dX9_keep_60 ?_
                refine z_isub b dX9_keep_61 ?_
                refine c_V3 b dX9_keep_62 lmX9_137 (mp_obj _ _ _ _) (k_X9_in (by omega) (by omega) (by omega)) (tle rfl) (by omega) (by omega) (by omega) ?_
                refine z_ifb_eq (tgt := 72) b dX9_keep_65 (by decide) (fun c65 => ?_) (fun c65 => ?_)
                · refine z_iconst b dX9_keep_72 ?_
                  refine w_istore b dX9_keep_73 (tlt rfl) rfl ?_
                  refine w_iload b dX9_keep_75 rfl ?_
                  refine z_if_ne (tgt := 82) b dX9_keep_77 (by decide) (by omega) (fun c77 => ?_) (fun c77 => ?_)
                  · exfalso; omega
                  · refine z_iconst b dX9_keep_80 ?_
                    exact w_iret b dX9_keep_81 rfl (by omega) (by omega) ⟨iv_eq (by first | rfl | omega | ((try simp only [b2]); ((repeat' split) <;> (first | rfl | omega)))), rfl⟩
                · exfalso; omega
set_option maxRecDepth 20000 in
theorem l_X9_keep3 {X : Cx} {l0 : Launch} {g : Gw} {Z : State → Prop} {mo nx : Nat} {h0 : Nat → va_E} {I : Nat → Int} (b : BX X l0 g mX9_keep 2 0 0) {d k n : Int} (hd : 0 ≤ d ∧ d ≤ 7) (hk : 0 ≤ k ∧ k < 40) (h1_ : 4 ≤ I 1 ∧ I 1 ≤ 40) : ∀ (m : Nat) (i : Int) (F : Nat → Int → Int), (i + m = I 1) → (0 ≤ i) → WW X g mX9_keep.2.2.1 Z 0 0 222 [some (.ref mo), some (.int (iI (d))), some (.int (iI (3))), some (.int (iI (k))), some (.int (iI (n))), some (.int (iI (1))), none] [] (mp mo h0 I (va_up F 40 (cpA (fun i => F 23 (40 * k + i)) (60 * d) m i (F 40))), nx) → WW X g mX9_keep.2.2.1 Z 0 0 178 [some (.ref mo), some (.int (iI (d))), some (.int (iI (3))), some (.int (iI (k))), some (.int (iI (n))), some (.int (iI (1))), some (.int (iI (i)))] [] (mp mo h0 I F, nx) := by
  intro m
  induction m with
  | zero =>
    intro i F h1 h2 kk
    refine w_iload b dX9_keep_178 rfl ?_
    refine w_aload_n b dX9_keep_180 rfl rfl ?_
    refine m_get b dX9_keep_181 lfX9_134 rfl ?_
    refine z_icmp_ge (tgt := 222) b dX9_keep_184 (by decide) (by omega) (fun c184 => ?_) (fun c184 => ?_)
    · refine ww_forget 6 ?_
      exact ww_cast rfl rfl (by simp only [cpA, va_up_same]) kk
    · exfalso; omega
  | succ m ih =>
    intro i F h1 h2 kk
    refine w_iload b dX9_keep_178 rfl ?_
    refine w_aload_n b dX9_keep_180 rfl rfl ?_
    refine m_get b dX9_keep_181 lfX9_134 rfl ?_
    refine z_icmp_ge (tgt := 222) b dX9_keep_184 (by decide) (by omega) (fun c184 => ?_) (fun c184 => ?_)
    · exfalso; omega
    · refine w_iload_n b dX9_keep_187 rfl ?_
      refine z_iconst b dX9_keep_188 ?_
      refine z_icmp_ne (tgt := 222) b dX9_keep_189 (by decide) (by omega) (fun c189 => ?_) (fun c189 => ?_)
      · exfalso; omega
      · refine w_aload_n b dX9_keep_192 rfl rfl ?_
        refine m_get b dX9_keep_193 lfX9_128 rfl ?_
        refine z_bipush b dX9_keep_196 (by decide) ?_
        refine w_iload_n b dX9_keep_198 rfl ?_
        refine z_imul b dX9_keep_199 ?_
        refine w_iload b dX9_keep_200 rfl ?_
        refine z_iadd b dX9_keep_202 ?_
        refine w_aload_n b dX9_keep_203 rfl rfl ?_
        refine m_get b dX9_keep_204 lfX9_77 rfl ?_
        refine z_bipush b dX9_keep_207 (by decide) ?_
        refine w_iload_n b dX9_keep_209 rfl ?_
        refine z_imul b dX9_keep_210 ?_
        refine w_iload b dX9_keep_211 rfl ?_
        refine z_iadd b dX9_keep_213 ?_
        refine m_ald (v := F 23 (40 * k + i)) b dX9_keep_214 rfl (by omega) rfl ?_
        refine m_ast b dX9_keep_215 rfl (by omega) ?_
        refine z_iinc b dX9_keep_216 rfl rfl rfl ?_
        refine w_goto (tgt := 178) b dX9_keep_219 (by decide) ?_
        exact ih (i + 1) _ (by omega) (by omega) (ww_cast rfl rfl (by simp only [va_up_self, va_up_twice, cpA]; rfl) kk) -- kk
set_option maxRecDepth 20000 in
theorem l_X9_keep4 {X : Cx} {l0 : Launch} {g : Gw} {Z : State → Prop} {mo nx : Nat} {h0 : Nat → va_E} {I : Nat → Int} (b : BX X l0 g mX9_keep 2 0 0) {d k n : Int} (hd : 0 ≤ d ∧ d ≤ 7) (h21 : 0 ≤ I 21 ∧ I 21 ≤ 40) : ∀ (m : Nat) (i : Int) (F : Nat → Int → Int), (i + m = I 21) → (0 ≤ i) → WW X g mX9_keep.2.2.1 Z 0 0 264 [some (.ref mo), some (.int (iI (d))), some (.int (iI (4))), some (.int (iI (k))), some (.int (iI (n))), some (.int (iI (1))), none] [] (mp mo h0 I (va_up F 40 (cpA (fun i => F 26 i) (60 * d) m i (F 40))), nx) → WW X g mX9_keep.2.2.1 Z 0 0 225 [some (.ref mo), some (.int (iI (d))), some (.int (iI (4))), some (.int (iI (k))), some (.int (iI (n))), some (.int (iI (1))), some (.int (iI (i)))] [] (mp mo h0 I F, nx) := by
  intro m
  induction m with
  | zero =>
    intro i F h1 h2 kk
    refine w_iload b dX9_keep_225 rfl ?_
    refine w_aload_n b dX9_keep_227 rfl rfl ?_
    refine m_get b dX9_keep_228 lfX9_71 rfl ?_
    refine z_icmp_ge (tgt := 264) b dX9_keep_231 (by decide) (by omega) (fun c231 => ?_) (fun c231 => ?_)
    · refine ww_forget 6 ?_
      exact ww_cast rfl rfl (by simp only [cpA, va_up_same]) kk
    · exfalso; omega
  | succ m ih =>
    intro i F h1 h2 kk
    refine w_iload b dX9_keep_225 rfl ?_
    refine w_aload_n b dX9_keep_227 rfl rfl ?_
    refine m_get b dX9_keep_228 lfX9_71 rfl ?_
    refine z_icmp_ge (tgt := 264) b dX9_keep_231 (by decide) (by omega) (fun c231 => ?_) (fun c231 => ?_)
    · exfalso; omega
    · refine w_iload_n b dX9_keep_234 rfl ?_
      refine z_iconst b dX9_keep_235 ?_
      refine z_icmp_ne (tgt := 264) b dX9_keep_236 (by decide) (by omega) (fun c236 => ?_) (fun c236 => ?_)
      · exfalso; omega
      · refine w_aload_n b dX9_keep_239 rfl rfl ?_
        refine m_get b dX9_keep_240 lfX9_128 rfl ?_
        refine z_bipush b dX9_keep_243 (by decide) ?_
        refine w_iload_n b dX9_keep_245 rfl ?_
        refine z_imul b dX9_keep_246 ?_
        refine w_iload b dX9_keep_247 rfl ?_
        refine z_iadd b dX9_keep_249 ?_
        refine w_aload_n b dX9_keep_250 rfl rfl ?_
        refine m_get b dX9_keep_251 lfX9_86 rfl ?_
        refine w_iload b dX9_keep_254 rfl ?_
        refine m_ald (v := F 26 i) b dX9_keep_256 rfl (by omega) rfl ?_
        refine m_ast b dX9_keep_257 rfl (by omega) ?_
        refine z_iinc b dX9_keep_258 rfl rfl rfl ?_
        refine w_goto (tgt := 225) b dX9_keep_261 (by decide) ?_
        exact ih (i + 1) _ (by omega) (by omega) (ww_cast rfl rfl (by simp only [va_up_self, va_up_twice, cpA]; rfl) kk) -- kk
set_option maxRecDepth 20000 in
theorem k_X9_keepN {l0 : Launch} {g : Gw} {mo nx : Nat} {h0 : Nat → va_E} {I : Nat → Int} {F : Nat → Int → Int} {d k n : Int} (hd : 0 ≤ d ∧ d ≤ 7) (h1_ : 4 ≤ I 1 ∧ I 1 ≤ 40) (h21 : 0 ≤ I 21 ∧ I 21 ≤ 40) : MD l0 g 2 mX9_keep (mp mo h0 I F, nx) [.ref mo, .int (iI (d)), .int (iI (0)), .int (iI (k)), .int (iI (n))] 0 0 (some (.int (iI 0))) (mp mo h0 I (va_up (va_up (va_up F 35 (fu (F 35) d 0)) 40 (fillA 0 60 (60 * d) (F 40))) 39 (fu (F 39) d (I 21))), nx) := by
  refine MD.of (by decide +kernel) (by simp [Value.category]) (tle rfl) (fun X b => ?_)
  change WW X g _ _ 0 0 0 [some (.ref mo), some (.int (iI (d))), some (.int (iI (0))), some (.int (iI (k))), some (.int (iI (n))), none, none] [] _
  refine w_aload_n b dX9_keep_0 rfl rfl ?_
  refine w_iload_n b dX9_keep_1 rfl ?_
  refine c_V1 b dX9_keep_2 lmX9_222 (mp_obj _ _ _ _) (k_X9_isShelf (by omega)) (tle rfl) (by omega) (by omega) (by omega) ?_
  refine z_ifb_eq (tgt := 72) b dX9_keep_5 (by decide) (fun c5 => ?_) (fun c5 => ?_)
  · exfalso; omega
  · refine w_iload_n b dX9_keep_8 rfl ?_
    refine z_if_eq (tgt := 68) b dX9_keep_9 (by decide) (by omega) (fun c9 => ?_) (fun c9 => ?_)
    · refine z_iconst b dX9_keep_68 ?_
      refine w_goto (tgt := 73) b dX9_keep_69 (by decide) ?_
      refine w_istore b dX9_keep_73 (tlt rfl) rfl ?_
      refine w_iload b dX9_keep_75 rfl ?_
      refine z_if_ne (tgt := 82) b dX9_keep_77 (by decide) (by omega) (fun c77 => ?_) (fun c77 => ?_)
      · refine w_aload_n b dX9_keep_82 rfl rfl ?_
        refine m_get b dX9_keep_83 lfX9_113 rfl ?_
        refine w_iload_n b dX9_keep_86 rfl ?_
        refine w_iload_n b dX9_keep_87 rfl ?_
        refine m_ast b dX9_keep_88 rfl (by omega) ?_
        refine w_aload_n b dX9_keep_89 rfl rfl ?_
        refine w_iload_n b dX9_keep_90 rfl ?_
        refine c_V1v b dX9_keep_91 lmX9_225 (mp_obj _ _ _ _) (k_X9_wipe (by omega)) (tle rfl) (by omega) (by omega) (by omega) ?_
        refine w_iload_n b dX9_keep_94 rfl ?_
        refine z_iconst b dX9_keep_95 ?_
        refine z_icmp_ne (tgt := 153) b dX9_keep_96 (by decide) (by omega) (fun c96 => ?_) (fun c96 => ?_)
        · refine w_aload_n b dX9_keep_153 rfl rfl ?_
          refine m_get b dX9_keep_154 lfX9_125 rfl ?_
          refine w_iload_n b dX9_keep_157 rfl ?_
          refine w_iload_n b dX9_keep_158 rfl ?_
          refine z_iconst b dX9_keep_159 ?_
          refine z_icmp_ne (tgt := 170) b dX9_keep_160 (by decide) (by omega) (fun c160 => ?_) (fun c160 => ?_)
          · refine w_aload_n b dX9_keep_170 rfl rfl ?_
            refine m_get b dX9_keep_171 lfX9_71 rfl ?_
            refine m_ast b dX9_keep_174 rfl (by omega) ?_
            refine z_iconst b dX9_keep_175 ?_
            refine w_istore b dX9_keep_176 (tlt rfl) rfl ?_
            refine w_iload b dX9_keep_178 rfl ?_
            refine w_aload_n b dX9_keep_180 rfl rfl ?_
            refine m_get b dX9_keep_181 lfX9_134 rfl ?_
            refine z_icmp_ge (tgt := 222) b dX9_keep_184 (by decide) (by omega) (fun c184 => ?_) (fun c184 => ?_)
            · exfalso; omega
            · refine w_iload_n b dX9_keep_187 rfl ?_
              refine z_iconst b dX9_keep_188 ?_
              refine z_icmp_ne (tgt := 222) b dX9_keep_189 (by decide) (by omega) (fun c189 => ?_) (fun c189 => ?_)
              · refine z_iconst b dX9_keep_222 ?_
                refine w_istore b dX9_keep_223 (tlt rfl) rfl ?_
                refine w_iload b dX9_keep_225 rfl ?_
                refine w_aload_n b dX9_keep_227 rfl rfl ?_
                refine m_get b dX9_keep_228 lfX9_71 rfl ?_
                refine z_icmp_ge (tgt := 264) b dX9_keep_231 (by decide) (by omega) (fun c231 => ?_) (fun c231 => ?_)
                · refine z_iconst b dX9_keep_264 ?_
                  exact w_iret b dX9_keep_265 rfl (by omega) (by omega) ⟨iv_eq (by first | rfl | omega | ((try simp only [b2]); ((repeat' split) <;> (first | rfl | omega)))), rfl⟩
                · refine w_iload_n b dX9_keep_234 rfl ?_
                  refine z_iconst b dX9_keep_235 ?_
                  refine z_icmp_ne (tgt := 264) b dX9_keep_236 (by decide) (by omega) (fun c236 => ?_) (fun c236 => ?_)
                  · refine z_iconst b dX9_keep_264 ?_
                    exact w_iret b dX9_keep_265 rfl (by omega) (by omega) ⟨iv_eq (by first | rfl | omega | ((try simp only [b2]); ((repeat' split) <;> (first | rfl | omega)))), rfl⟩
                  · exfalso; omega
              · exfalso; omega
          · exfalso; omega
        · exfalso; omega
      · exfalso; omega
    · exfalso; omega
set_option maxRecDepth 20000 in
theorem k_X9_keepS {l0 : Launch} {g : Gw} {mo nx : Nat} {h0 : Nat → va_E} {I : Nat → Int} {F : Nat → Int → Int} {d k n : Int} (hd : 0 ≤ d ∧ d ≤ 7) (hk : 0 ≤ k ∧ k < I 2) (hn : 0 ≤ n ∧ n < F 3 k) (h3_ : 0 ≤ F 3 k ∧ F 3 k ≤ 12) (h2_ : 0 ≤ I 2 ∧ I 2 ≤ 12) (h1_ : 4 ≤ I 1 ∧ I 1 ≤ 40) (h21 : 0 ≤ I 21 ∧ I 21 ≤ 40) : MD l0 g 2 mX9_keep (mp mo h0 I F, nx) [.ref mo, .int (iI (d)), .int (iI (1)), .int (iI (k)), .int (iI (n))] 0 0 (some (.int (iI 0))) (mp mo h0 I (va_up (va_up (va_up (va_up (va_up (va_up F 35 (fu (F 35) d 1)) 40 (fillA 0 60 (60 * d) (F 40))) 36 (fu (F 36) d (F 4 (12 * k + n)))) 37 (fu (F 37) d (F 5 (12 * k + n)))) 38 (fu (F 38) d (F 6 (12 * k + n)))) 39 (fu (F 39) d (I 21))), nx) := by
  refine MD.of (by decide +kernel) (by simp [Value.category]) (tle rfl) (fun X b => ?_)
  change WW X g _ _ 0 0 0 [some (.ref mo), some (.int (iI (d))), some (.int (iI (1))), some (.int (iI (k))), some (.int (iI (n))), none, none] [] _
  refine w_aload_n b dX9_keep_0 rfl rfl ?_
  refine w_iload_n b dX9_keep_1 rfl ?_
  refine c_V1 b dX9_keep_2 lmX9_222 (mp_obj _ _ _ _) (k_X9_isShelf (by omega)) (tle rfl) (by omega) (by omega) (by omega) ?_
  refine z_ifb_eq (tgt := 72) b dX9_keep_5 (by decide) (fun c5 => ?_) (fun c5 => ?_)
  · exfalso; omega
  · refine w_iload_n b dX9_keep_8 rfl ?_
    refine z_if_eq (tgt := 68) b dX9_keep_9 (by decide) (by omega) (fun c9 => ?_) (fun c9 => ?_)
    · exfalso; omega
    · refine w_iload_n b dX9_keep_12 rfl ?_
      refine z_iconst b dX9_keep_13 ?_
      refine z_icmp_eq (tgt := 68) b dX9_keep_14 (by decide) (by omega) (fun c14 => ?_) (fun c14 => ?_)
      · exfalso; omega
      · refine w_iload_n b dX9_keep_17 rfl ?_
        refine z_iconst b dX9_keep_18 ?_
        refine z_icmp_ne (tgt := 48) b dX9_keep_19 (by decide) (by omega) (fun c19 => ?_) (fun c19 => ?_)
        · exfalso; omega
        · refine w_aload_n b dX9_keep_22 rfl rfl ?_
          refine w_iload_n b dX9_keep_23 rfl ?_
          refine c_V1 b dX9_keep_24 lmX9_165 (mp_obj _ _ _ _) (k_X9_isChant (by omega) h2_) (tle rfl) (by omega) (by omega) (by omega) ?_
          refine z_ifb_eq (tgt := 48) b dX9_keep_27 (by decide) (fun c27 => ?_) (fun c27 => ?_)
          · exfalso; omega
          · refine w_aload_n b dX9_keep_30 rfl rfl ?_
            refine w_iload b dX9_keep_31 rfl ?_
            refine z_iconst b dX9_keep_33 ?_
            refine w_aload_n b dX9_keep_34 rfl rfl ?_
            refine m_get b dX9_keep_35 lfX9_16 rfl ?_
            refine w_iload_n b dX9_keep_38 rfl ?_
            refine m_ald b dX9_keep_39 rfl (by omega) rfl ?_
            refine z_iconst b dX9_keep_40 ?_
            refine z_isub b dX9_keep_41 ?_
            refine c_V3 b dX9_keep_42 lmX9_137 (mp_obj _ _ _ _) (k_X9_in (by omega) (by omega) (by omega)) (tle rfl) (by omega) (by omega) (by omega) ?_
            refine z_ifb_ne (tgt := 68) b dX9_keep_45 (by decide) (fun c45 => ?_) (fun c45 => ?_)
            · refine z_iconst b dX9_keep_68 ?_
              refine w_goto (tgt := 73) b dX9_keep_69 (by decide) ?_
              refine w_istore b dX9_keep_73 (tlt rfl) rfl ?_
              refine w_iload b dX9_keep_75 rfl ?_
              refine z_if_ne (tgt := 82) b dX9_keep_77 (by decide) (by omega) (fun c77 => ?_) (fun c77 => ?_)
              · refine w_aload_n b dX9_keep_82 rfl rfl ?_
                refine m_get b dX9_keep_83 lfX9_113 rfl ?_
                refine w_iload_n b dX9_keep_86 rfl ?_
                refine w_iload_n b dX9_keep_87 rfl ?_
                refine m_ast b dX9_keep_88 rfl (by omega) ?_
                refine w_aload_n b dX9_keep_89 rfl rfl ?_
                refine w_iload_n b dX9_keep_90 rfl ?_
                refine c_V1v b dX9_keep_91 lmX9_225 (mp_obj _ _ _ _) (k_X9_wipe (by omega)) (tle rfl) (by omega) (by omega) (by omega) ?_
                refine w_iload_n b dX9_keep_94 rfl ?_
                refine z_iconst b dX9_keep_95 ?_
                refine z_icmp_ne (tgt := 153) b dX9_keep_96 (by decide) (by omega) (fun c96 => ?_) (fun c96 => ?_)
                · exfalso; omega
                · refine w_aload_n b dX9_keep_99 rfl rfl ?_
                  refine m_get b dX9_keep_100 lfX9_116 rfl ?_
                  refine w_iload_n b dX9_keep_103 rfl ?_
                  refine w_aload_n b dX9_keep_104 rfl rfl ?_
                  refine m_get b dX9_keep_105 lfX9_20 rfl ?_
                  refine z_bipush b dX9_keep_108 (by decide) ?_
                  refine w_iload_n b dX9_keep_110 rfl ?_
                  refine z_imul b dX9_keep_111 ?_
                  refine w_iload b dX9_keep_112 rfl ?_
                  refine z_iadd b dX9_keep_114 ?_
                  refine m_ald (v := F 4 (12 * k + n)) b dX9_keep_115 rfl (by omega) rfl ?_
                  refine m_ast b dX9_keep_116 rfl (by omega) ?_
                  refine w_aload_n b dX9_keep_117 rfl rfl ?_
                  refine m_get b dX9_keep_118 lfX9_119 rfl ?_
                  refine w_iload_n b dX9_keep_121 rfl ?_
                  refine w_aload_n b dX9_keep_122 rfl rfl ?_
                  refine m_get b dX9_keep_123 lfX9_23 rfl ?_
                  refine z_bipush b dX9_keep_126 (by decide) ?_
                  refine w_iload_n b dX9_keep_128 rfl ?_
                  refine z_imul b dX9_keep_129 ?_
                  refine w_iload b dX9_keep_130 rfl ?_
                  refine z_iadd b dX9_keep_132 ?_
                  refine m_ald (v := F 5 (12 * k + n)) b dX9_keep_133 rfl (by omega) rfl ?_
                  refine m_ast b dX9_keep_134 rfl (by omega) ?_
                  refine w_aload_n b dX9_keep_135 rfl rfl ?_
                  refine m_get b dX9_keep_136 lfX9_122 rfl ?_
                  refine w_iload_n b dX9_keep_139 rfl ?_
                  refine w_aload_n b dX9_keep_140 rfl rfl ?_
                  refine m_get b dX9_keep_141 lfX9_26 rfl ?_
                  refine z_bipush b dX9_keep_144 (by decide) ?_
                  refine w_iload_n b dX9_keep_146 rfl ?_
                  refine z_imul b dX9_keep_147 ?_
                  refine w_iload b dX9_keep_148 rfl ?_
                  refine z_iadd b dX9_keep_150 ?_
                  refine m_ald (v := F 6 (12 * k + n)) b dX9_keep_151 rfl (by omega) rfl ?_
                  refine m_ast b dX9_keep_152 rfl (by omega) ?_
                  refine w_aload_n b dX9_keep_153 rfl rfl ?_
                  refine m_get b dX9_keep_154 lfX9_125 rfl ?_
                  refine w_iload_n b dX9_keep_157 rfl ?_
                  refine w_iload_n b dX9_keep_158 rfl ?_
                  refine z_iconst b dX9_keep_159 ?_
                  refine z_icmp_ne (tgt := 170) b dX9_keep_160 (by decide) (by omega) (fun c160 => ?_) (fun c160 => ?_)
                  · refine w_aload_n b dX9_keep_170 rfl rfl ?_
                    refine m_get b dX9_keep_171 lfX9_71 rfl ?_
                    refine m_ast b dX9_keep_174 rfl (by omega) ?_
                    refine z_iconst b dX9_keep_175 ?_
                    refine w_istore b dX9_keep_176 (tlt rfl) rfl ?_
                    refine w_iload b dX9_keep_178 rfl ?_
                    refine w_aload_n b dX9_keep_180 rfl rfl ?_
                    refine m_get b dX9_keep_181 lfX9_134 rfl ?_
                    refine z_icmp_ge (tgt := 222) b dX9_keep_184 (by decide) (by omega) (fun c184 => ?_) (fun c184 => ?_)
                    · exfalso; omega
                    · refine w_iload_n b dX9_keep_187 rfl ?_
                      refine z_iconst b dX9_keep_188 ?_
                      refine z_icmp_ne (tgt := 222) b dX9_keep_189 (by decide) (by omega) (fun c189 => ?_) (fun c189 => ?_)
                      · refine z_iconst b dX9_keep_222 ?_
                        refine w_istore b dX9_keep_223 (tlt rfl) rfl ?_
                        refine w_iload b dX9_keep_225 rfl ?_
                        refine w_aload_n b dX9_keep_227 rfl rfl ?_
                        refine m_get b dX9_keep_228 lfX9_71 rfl ?_
                        refine z_icmp_ge (tgt := 264) b dX9_keep_231 (by decide) (by omega) (fun c231 => ?_) (fun c231 => ?_)
                        · refine z_iconst b dX9_keep_264 ?_
                          exact w_iret b dX9_keep_265 rfl (by omega) (by omega) ⟨iv_eq (by first | rfl | omega | ((try simp only [b2]); ((repeat' split) <;> (first | rfl | omega)))), rfl⟩
                        · refine w_iload_n b dX9_keep_234 rfl ?_
                          refine z_iconst b dX9_keep_235 ?_
                          refine z_icmp_ne (tgt := 264) b dX9_keep_236 (by decide) (by omega) (fun c236 => ?_) (fun c236 => ?_)
                          · refine z_iconst b dX9_keep_264 ?_
                            exact w_iret b dX9_keep_265 rfl (by omega) (by omega) ⟨iv_eq (by first | rfl | omega | ((try simp only [b2]); ((repeat' split) <;> (first | rfl | omega)))), rfl⟩
                          · exfalso; omega
                      · exfalso; omega
                  · exfalso; omega
              · exfalso; omega
            · exfalso; omega
set_option maxRecDepth 20000 in
theorem k_X9_keepB {l0 : Launch} {g : Gw} {mo nx : Nat} {h0 : Nat → va_E} {I : Nat → Int} {F : Nat → Int → Int} {d k n : Int} (hd : 0 ≤ d ∧ d ≤ 7) (hk : 0 ≤ k ∧ k < I 21) (h1_ : 4 ≤ I 1 ∧ I 1 ≤ 40) (h21 : 0 ≤ I 21 ∧ I 21 ≤ 40) : MD l0 g 2 mX9_keep (mp mo h0 I F, nx) [.ref mo, .int (iI (d)), .int (iI (3)), .int (iI (k)), .int (iI (n))] 0 0 (some (.int (iI 0))) (mp mo h0 I (va_up (va_up (va_up (va_up F 35 (fu (F 35) d 3)) 40 (fillA 0 60 (60 * d) (F 40))) 39 (fu (F 39) d (I 1))) 40 (cpA (fun i => F 23 (40 * k + i)) (60 * d) (I 1).toNat 0 (fillA 0 60 (60 * d) (F 40)))), nx) := by
  refine MD.of (by decide +kernel) (by simp [Value.category]) (tle rfl) (fun X b => ?_)
  change WW X g _ _ 0 0 0 [some (.ref mo), some (.int (iI (d))), some (.int (iI (3))), some (.int (iI (k))), some (.int (iI (n))), none, none] [] _
  refine w_aload_n b dX9_keep_0 rfl rfl ?_
  refine w_iload_n b dX9_keep_1 rfl ?_
  refine c_V1 b dX9_keep_2 lmX9_222 (mp_obj _ _ _ _) (k_X9_isShelf (by omega)) (tle rfl) (by omega) (by omega) (by omega) ?_
  refine z_ifb_eq (tgt := 72) b dX9_keep_5 (by decide) (fun c5 => ?_) (fun c5 => ?_)
  · exfalso; omega
  · refine w_iload_n b dX9_keep_8 rfl ?_
    refine z_if_eq (tgt := 68) b dX9_keep_9 (by decide) (by omega) (fun c9 => ?_) (fun c9 => ?_)
    · exfalso; omega
    · refine w_iload_n b dX9_keep_12 rfl ?_
      refine z_iconst b dX9_keep_13 ?_
      refine z_icmp_eq (tgt := 68) b dX9_keep_14 (by decide) (by omega) (fun c14 => ?_) (fun c14 => ?_)
      · exfalso; omega
      · refine w_iload_n b dX9_keep_17 rfl ?_
        refine z_iconst b dX9_keep_18 ?_
        refine z_icmp_ne (tgt := 48) b dX9_keep_19 (by decide) (by omega) (fun c19 => ?_) (fun c19 => ?_)
        · refine w_iload_n b dX9_keep_48 rfl ?_
          refine z_iconst b dX9_keep_49 ?_
          refine z_icmp_ne (tgt := 72) b dX9_keep_50 (by decide) (by omega) (fun c50 => ?_) (fun c50 => ?_)
          · exfalso; omega
          · refine w_aload_n b dX9_keep_53 rfl rfl ?_
            refine w_iload_n b dX9_keep_54 rfl ?_
            refine z_iconst b dX9_keep_55 ?_
            refine w_aload_n b dX9_keep_56 rfl rfl ?_
            refine m_get b dX9_keep_57 lfX9_71 rfl ?_
            refine z_iconst b dX9_keep_60 ?_
            refine z_isub b dX9_keep_61 ?_
            refine c_V3 b dX9_keep_62 lmX9_137 (mp_obj _ _ _ _) (k_X9_in (by omega) (by omega) (by omega)) (tle rfl) (by omega) (by omega) (by omega) ?_
            refine z_ifb_eq (tgt := 72) b dX9_keep_65 (by decide) (fun c65 => ?_) (fun c65 => ?_)
            · exfalso; omega
            · refine z_iconst b dX9_keep_68 ?_
              refine w_goto (tgt := 73) b dX9_keep_69 (by decide) ?_
              refine w_istore b dX9_keep_73 (tlt rfl) rfl ?_
              refine w_iload b dX9_keep_75 rfl ?_
              refine z_if_ne (tgt := 82) b dX9_keep_77 (by decide) (by omega) (fun c77 => ?_) (fun c77 => ?_)
              · refine w_aload_n b dX9_keep_82 rfl rfl ?_
                refine m_get b dX9_keep_83 lfX9_113 rfl ?_
                refine w_iload_n b dX9_keep_86 rfl ?_
                refine w_iload_n b dX9_keep_87 rfl ?_
                refine m_ast b dX9_keep_88 rfl (by omega) ?_
                refine w_aload_n b dX9_keep_89 rfl rfl ?_
                refine w_iload_n b dX9_keep_90 rfl ?_
                refine c_V1v b dX9_keep_91 lmX9_225 (mp_obj _ _ _ _) (k_X9_wipe (by omega)) (tle rfl) (by omega) (by omega) (by omega) ?_
                refine w_iload_n b dX9_keep_94 rfl ?_
                refine z_iconst b dX9_keep_95 ?_
                refine z_icmp_ne (tgt := 153) b dX9_keep_96 (by decide) (by omega) (fun c96 => ?_) (fun c96 => ?_)
                · refine w_aload_n b dX9_keep_153 rfl rfl ?_
                  refine m_get b dX9_keep_154 lfX9_125 rfl ?_
                  refine w_iload_n b dX9_keep_157 rfl ?_
                  refine w_iload_n b dX9_keep_158 rfl ?_
                  refine z_iconst b dX9_keep_159 ?_
                  refine z_icmp_ne (tgt := 170) b dX9_keep_160 (by decide) (by omega) (fun c160 => ?_) (fun c160 => ?_)
                  · exfalso; omega
                  · refine w_aload_n b dX9_keep_163 rfl rfl ?_
                    refine m_get b dX9_keep_164 lfX9_134 rfl ?_
                    refine w_goto (tgt := 174) b dX9_keep_167 (by decide) ?_
                    refine m_ast b dX9_keep_174 rfl (by omega) ?_
                    refine z_iconst b dX9_keep_175 ?_
                    refine w_istore b dX9_keep_176 (tlt rfl) rfl ?_
                    refine l_X9_keep3 (I := I) b hd (by omega) h1_ (I 1).toNat 0 _ (by omega) (by omega) ?_
                    refine z_iconst b dX9_keep_222 ?_
                    refine w_istore b dX9_keep_223 (tlt rfl) rfl ?_
                    refine w_iload b dX9_keep_225 rfl ?_
                    refine w_aload_n b dX9_keep_227 rfl rfl ?_
                    refine m_get b dX9_keep_228 lfX9_71 rfl ?_
                    refine z_icmp_ge (tgt := 264) b dX9_keep_231 (by decide) (by omega) (fun c231 => ?_) (fun c231 => ?_)
                    · refine z_iconst b dX9_keep_264 ?_
                      exact w_iret b dX9_keep_265 rfl (by omega) (by omega) ⟨rfl, rfl⟩
                    · refine w_iload_n b dX9_keep_234 rfl ?_
                      refine z_iconst b dX9_keep_235 ?_
                      refine z_icmp_ne (tgt := 264) b dX9_keep_236 (by decide) (by omega) (fun c236 => ?_) (fun c236 => ?_)
                      · refine z_iconst b dX9_keep_264 ?_
                        exact w_iret b dX9_keep_265 rfl (by omega) (by omega) ⟨rfl, rfl⟩
                      · exfalso; omega
                · exfalso; omega
              · exfalso; omega
        · exfalso; omega
set_option maxRecDepth 20000 in
theorem k_X9_keepM {l0 : Launch} {g : Gw} {mo nx : Nat} {h0 : Nat → va_E} {I : Nat → Int} {F : Nat → Int → Int} {d k n : Int} (hd : 0 ≤ d ∧ d ≤ 7) (h1_ : 4 ≤ I 1 ∧ I 1 ≤ 40) (h21 : 0 ≤ I 21 ∧ I 21 ≤ 40) : MD l0 g 2 mX9_keep (mp mo h0 I F, nx) [.ref mo, .int (iI (d)), .int (iI (4)), .int (iI (k)), .int (iI (n))] 0 0 (some (.int (iI 0))) (mp mo h0 I (va_up (va_up (va_up (va_up F 35 (fu (F 35) d 4)) 40 (fillA 0 60 (60 * d) (F 40))) 39 (fu (F 39) d (I 21))) 40 (cpA (fun i => F 26 i) (60 * d) (I 21).toNat 0 (fillA 0 60 (60 * d) (F 40)))), nx) := by
  refine MD.of (by decide +kernel) (by simp [Value.category]) (tle rfl) (fun X b => ?_)
  change WW X g _ _ 0 0 0 [some (.ref mo), some (.int (iI (d))), some (.int (iI (4))), some (.int (iI (k))), some (.int (iI (n))), none, none] [] _
  refine w_aload_n b dX9_keep_0 rfl rfl ?_
  refine w_iload_n b dX9_keep_1 rfl ?_
  refine c_V1 b dX9_keep_2 lmX9_222 (mp_obj _ _ _ _) (k_X9_isShelf (by omega)) (tle rfl) (by omega) (by omega) (by omega) ?_
  refine z_ifb_eq (tgt := 72) b dX9_keep_5 (by decide) (fun c5 => ?_) (fun c5 => ?_)
  · exfalso; omega
  · refine w_iload_n b dX9_keep_8 rfl ?_
    refine z_if_eq (tgt := 68) b dX9_keep_9 (by decide) (by omega) (fun c9 => ?_) (fun c9 => ?_)
    · exfalso; omega
    · refine w_iload_n b dX9_keep_12 rfl ?_
      refine z_iconst b dX9_keep_13 ?_
      refine z_icmp_eq (tgt := 68) b dX9_keep_14 (by decide) (by omega) (fun c14 => ?_) (fun c14 => ?_)
      · refine z_iconst b dX9_keep_68 ?_
        refine w_goto (tgt := 73) b dX9_keep_69 (by decide) ?_
        refine w_istore b dX9_keep_73 (tlt rfl) rfl ?_
        refine w_iload b dX9_keep_75 rfl ?_
        refine z_if_ne (tgt := 82) b dX9_keep_77 (by decide) (by omega) (fun c77 => ?_) (fun c77 => ?_)
        · refine w_aload_n b dX9_keep_82 rfl rfl ?_
          refine m_get b dX9_keep_83 lfX9_113 rfl ?_
          refine w_iload_n b dX9_keep_86 rfl ?_
          refine w_iload_n b dX9_keep_87 rfl ?_
          refine m_ast b dX9_keep_88 rfl (by omega) ?_
          refine w_aload_n b dX9_keep_89 rfl rfl ?_
          refine w_iload_n b dX9_keep_90 rfl ?_
          refine c_V1v b dX9_keep_91 lmX9_225 (mp_obj _ _ _ _) (k_X9_wipe (by omega)) (tle rfl) (by omega) (by omega) (by omega) ?_
          refine w_iload_n b dX9_keep_94 rfl ?_
          refine z_iconst b dX9_keep_95 ?_
          refine z_icmp_ne (tgt := 153) b dX9_keep_96 (by decide) (by omega) (fun c96 => ?_) (fun c96 => ?_)
          · refine w_aload_n b dX9_keep_153 rfl rfl ?_
            refine m_get b dX9_keep_154 lfX9_125 rfl ?_
            refine w_iload_n b dX9_keep_157 rfl ?_
            refine w_iload_n b dX9_keep_158 rfl ?_
            refine z_iconst b dX9_keep_159 ?_
            refine z_icmp_ne (tgt := 170) b dX9_keep_160 (by decide) (by omega) (fun c160 => ?_) (fun c160 => ?_)
            · refine w_aload_n b dX9_keep_170 rfl rfl ?_
              refine m_get b dX9_keep_171 lfX9_71 rfl ?_
              refine m_ast b dX9_keep_174 rfl (by omega) ?_
              refine z_iconst b dX9_keep_175 ?_
              refine w_istore b dX9_keep_176 (tlt rfl) rfl ?_
              refine w_iload b dX9_keep_178 rfl ?_
              refine w_aload_n b dX9_keep_180 rfl rfl ?_
              refine m_get b dX9_keep_181 lfX9_134 rfl ?_
              refine z_icmp_ge (tgt := 222) b dX9_keep_184 (by decide) (by omega) (fun c184 => ?_) (fun c184 => ?_)
              · exfalso; omega
              · refine w_iload_n b dX9_keep_187 rfl ?_
                refine z_iconst b dX9_keep_188 ?_
                refine z_icmp_ne (tgt := 222) b dX9_keep_189 (by decide) (by omega) (fun c189 => ?_) (fun c189 => ?_)
                · refine z_iconst b dX9_keep_222 ?_
                  refine w_istore b dX9_keep_223 (tlt rfl) rfl ?_
                  refine l_X9_keep4 (I := I) b hd h21 (I 21).toNat 0 _ (by omega) (by omega) ?_
                  refine z_iconst b dX9_keep_264 ?_
                  exact w_iret b dX9_keep_265 rfl (by omega) (by omega) ⟨rfl, rfl⟩
                · exfalso; omega
            · exfalso; omega
          · exfalso; omega
        · exfalso; omega
      · exfalso; omega
set_option maxRecDepth 20000 in
theorem k_X9_make0 {l0 : Launch} {g : Gw} {mo nx : Nat} {h0 : Nat → va_E} {I : Nat → Int} {F : Nat → Int → Int} {d x n : Int} (hd : inR d) (hx : inR x) (hn : inR n) (hbad : ¬ ((0 ≤ d ∧ d ≤ 7) ∧ (3 ≤ x ∧ x ≤ 4) ∧ (0 ≤ n ∧ n ≤ 60))) : MD l0 g 2 mX9_make (mp mo h0 I F, nx) [.ref mo, .int (iI (d)), .int (iI (x)), .int (iI (n))] 0 0 (some (.int (iI (if (0 ≤ d ∧ d ≤ 7) ∧ (3 ≤ x ∧ x ≤ 4) ∧ n ≤ 60 then -14 else -1)))) (mp mo h0 I F, nx) := by
  refine MD.of (by decide +kernel) (by simp [Value.category]) (tle rfl) (fun X b => ?_)
  change WW X g _ _ 0 0 0 [some (.ref mo), some (.int (iI (d))), some (.int (iI (x))), some (.int (iI (n)))] [] _
  refine w_aload_n b dX9_make_0 rfl rfl ?_
  refine w_iload_n b dX9_make_1 rfl ?_
  refine c_V1 b dX9_make_2 lmX9_222 (mp_obj _ _ _ _) (k_X9_isShelf (by omega)) (tle rfl) (by omega) (by omega) (by omega) ?_
  refine z_ifb_eq (tgt := 24) b dX9_make_5 (by decide) (fun c5 => ?_) (fun c5 => ?_)
  · refine z_iconst b dX9_make_24 ?_
    exact w_iret b dX9_make_25 rfl (by omega) (by omega) ⟨iv_eq (by first | rfl | omega | ((try simp only [b2]); ((repeat' split) <;> (first | rfl | omega)))), rfl⟩
  · refine w_aload_n b dX9_make_8 rfl rfl ?_
    refine w_iload_n b dX9_make_9 rfl ?_
    refine z_iconst b dX9_make_10 ?_
    refine z_iconst b dX9_make_11 ?_
    refine c_V3 b dX9_make_12 lmX9_137 (mp_obj _ _ _ _) (k_X9_in (by omega) (by omega) (by omega)) (tle rfl) (by omega) (by omega) (by omega) ?_
    refine z_ifb_eq (tgt := 24) b dX9_make_15 (by decide) (fun c15 => ?_) (fun c15 => ?_)
    · refine z_iconst b dX9_make_24 ?_
      exact w_iret b dX9_make_25 rfl (by omega) (by omega) ⟨iv_eq (by first | rfl | omega | ((try simp only [b2]); ((repeat' split) <;> (first | rfl | omega)))), rfl⟩
    · refine w_iload_n b dX9_make_18 rfl ?_
      refine z_bipush b dX9_make_19 (by decide) ?_
      refine z_icmp_le (tgt := 26) b dX9_make_21 (by decide) (by omega) (fun c21 => ?_) (fun c21 => ?_)
      · refine w_iload_n b dX9_make_26 rfl ?_
        refine z_if_ge (tgt := 33) b dX9_make_27 (by decide) (by omega) (fun c27 => ?_) (fun c27 => ?_)
        · exfalso; omega
        · refine z_bipush b dX9_make_30 (by decide) ?_
          exact w_iret b dX9_make_32 rfl (by omega) (by omega) ⟨iv_eq (by first | rfl | omega | ((try simp only [b2]); ((repeat' split) <;> (first | rfl | omega)))), rfl⟩
      · refine z_iconst b dX9_make_24 ?_
        exact w_iret b dX9_make_25 rfl (by omega) (by omega) ⟨iv_eq (by first | rfl | omega | ((try simp only [b2]); ((repeat' split) <;> (first | rfl | omega)))), rfl⟩
set_option maxRecDepth 20000 in
theorem k_X9_make1 {l0 : Launch} {g : Gw} {mo nx : Nat} {h0 : Nat → va_E} {I : Nat → Int} {F : Nat → Int → Int} {d x n : Int} (hd : 0 ≤ d ∧ d ≤ 7) (hx : 3 ≤ x ∧ x ≤ 4) (hn : 0 ≤ n ∧ n ≤ 60) : MD l0 g 2 mX9_make (mp mo h0 I F, nx) [.ref mo, .int (iI (d)), .int (iI (x)), .int (iI (n))] 0 0 (some (.int (iI 0))) (mp mo h0 I (va_up (va_up (va_up F 35 (fu (F 35) d x)) 39 (fu (F 39) d n)) 40 (fillA 0 60 (60 * d) (F 40))), nx) := by
  refine MD.of (by decide +kernel) (by simp [Value.category]) (tle rfl) (fun X b => ?_)
  change WW X g _ _ 0 0 0 [some (.ref mo), some (.int (iI (d))), some (.int (iI (x))), some (.int (iI (n)))] [] _
  refine w_aload_n b dX9_make_0 rfl rfl ?_
  refine w_iload_n b dX9_make_1 rfl ?_
  refine c_V1 b dX9_make_2 lmX9_222 (mp_obj _ _ _ _) (k_X9_isShelf (by omega)) (tle rfl) (by omega) (by omega) (by omega) ?_
  refine z_ifb_eq (tgt := 24) b dX9_make_5 (by decide) (fun c5 => ?_) (fun c5 => ?_)
  · exfalso; omega
  · refine w_aload_n b dX9_make_8 rfl rfl ?_
    refine w_iload_n b dX9_make_9 rfl ?_
    refine z_iconst b dX9_make_10 ?_
    refine z_iconst b dX9_make_11 ?_
    refine c_V3 b dX9_make_12 lmX9_137 (mp_obj _ _ _ _) (k_X9_in (by omega) (by omega) (by omega)) (tle rfl) (by omega) (by omega) (by omega) ?_
    refine z_ifb_eq (tgt := 24) b dX9_make_15 (by decide) (fun c15 => ?_) (fun c15 => ?_)
    · exfalso; omega
    · refine w_iload_n b dX9_make_18 rfl ?_
      refine z_bipush b dX9_make_19 (by decide) ?_
      refine z_icmp_le (tgt := 26) b dX9_make_21 (by decide) (by omega) (fun c21 => ?_) (fun c21 => ?_)
      · refine w_iload_n b dX9_make_26 rfl ?_
        refine z_if_ge (tgt := 33) b dX9_make_27 (by decide) (by omega) (fun c27 => ?_) (fun c27 => ?_)
        · refine w_aload_n b dX9_make_33 rfl rfl ?_
          refine m_get b dX9_make_34 lfX9_113 rfl ?_
          refine w_iload_n b dX9_make_37 rfl ?_
          refine w_iload_n b dX9_make_38 rfl ?_
          refine m_ast b dX9_make_39 rfl (by omega) ?_
          refine w_aload_n b dX9_make_40 rfl rfl ?_
          refine m_get b dX9_make_41 lfX9_125 rfl ?_
          refine w_iload_n b dX9_make_44 rfl ?_
          refine w_iload_n b dX9_make_45 rfl ?_
          refine m_ast b dX9_make_46 rfl (by omega) ?_
          refine w_aload_n b dX9_make_47 rfl rfl ?_
          refine w_iload_n b dX9_make_48 rfl ?_
          refine c_V1v b dX9_make_49 lmX9_225 (mp_obj _ _ _ _) (k_X9_wipe (by omega)) (tle rfl) (by omega) (by omega) (by omega) ?_
          refine z_iconst b dX9_make_52 ?_
          exact w_iret b dX9_make_53 rfl (by omega) (by omega) ⟨iv_eq (by first | rfl | omega | ((try simp only [b2]); ((repeat' split) <;> (first | rfl | omega)))), rfl⟩
        · exfalso; omega
      · exfalso; omega
set_option maxRecDepth 20000 in
theorem k_X9_element1 {l0 : Launch} {g : Gw} {mo nx : Nat} {h0 : Nat → va_E} {I : Nat → Int} {F : Nat → Int → Int} {d i : Int} (hd : inR d) (hi : inR i) (hbad : ¬ (0 ≤ d ∧ d ≤ 7)) : MD l0 g 2 mX9_element (mp mo h0 I F, nx) [.ref mo, .int (iI (d)), .int (iI (i))] 0 0 (some (.long 0)) (mp mo h0 (va_up I 0 1) F, nx) := by
  refine MD.of (by decide +kernel) (by simp [Value.category]) (tle rfl) (fun X b => ?_)
  change WW X g _ _ 0 0 0 [some (.ref mo), some (.int (iI (d))), some (.int (iI (i)))] [] _
  refine w_aload_n b dX9_element_0 rfl rfl ?_
  refine w_aload_n b dX9_element_1 rfl rfl ?_
  refine w_iload_n b dX9_element_2 rfl ?_
  refine c_V1 b dX9_element_3 lmX9_222 (mp_obj _ _ _ _) (k_X9_isShelf (by omega)) (tle rfl) (by omega) (by omega) (by omega) ?_
  refine z_ifb_ne (tgt := 13) b dX9_element_6 (by decide) (fun c6 => ?_) (fun c6 => ?_)
  · exfalso; omega
  · refine z_iconst b dX9_element_9 ?_
    refine w_goto (tgt := 45) b dX9_element_10 (by decide) ?_
    refine m_put b dX9_element_45 lfX9_1 gtX9_0 (tlt rfl) rfl ?_
    refine w_aload_n b dX9_element_48 rfl rfl ?_
    refine m_get (v := .int (iI 1)) b dX9_element_49 lfX9_1 rfl ?_
    refine z_if_le (tgt := 59) b dX9_element_52 (by decide) (by omega) (fun c52 => ?_) (fun c52 => ?_)
    · exfalso; omega
    · refine w_lconst b dX9_element_55 rfl ?_
      refine w_goto (tgt := 71) b dX9_element_56 (by decide) ?_
      exact w_lret b dX9_element_71 rfl (by omega) (by omega) ⟨rfl, rfl⟩
set_option maxRecDepth 20000 in
theorem k_X9_element2 {l0 : Launch} {g : Gw} {mo nx : Nat} {h0 : Nat → va_E} {I : Nat → Int} {F : Nat → Int → Int} {d i : Int} (hd : 0 ≤ d ∧ d ≤ 7) (hi : inR i) (h35 : ∀ j, 0 ≤ j → j ≤ 7 → 0 ≤ F 35 j ∧ F 35 j ≤ 4) (h39 : ∀ j, 0 ≤ j → j ≤ 7 → 0 ≤ F 39 j ∧ F 39 j ≤ 60) (hbad : F 35 d < 3 ∨ ¬ (0 ≤ i ∧ i ≤ F 39 d - 1)) : MD l0 g 2 mX9_element (mp mo h0 I F, nx) [.ref mo, .int (iI (d)), .int (iI (i))] 0 0 (some (.long 0)) (mp mo h0 (va_up I 0 2) F, nx) := by
  refine MD.of (by decide +kernel) (by simp [Value.category]) (tle rfl) (fun X b => ?_)
  change WW X g _ _ 0 0 0 [some (.ref mo), some (.int (iI (d))), some (.int (iI (i)))] [] _
  refine w_aload_n b dX9_element_0 rfl rfl ?_
  refine w_aload_n b dX9_element_1 rfl rfl ?_
  refine w_iload_n b dX9_element_2 rfl ?_
  refine c_V1 b dX9_element_3 lmX9_222 (mp_obj _ _ _ _) (k_X9_isShelf (by omega)) (tle rfl) (by omega) (by omega) (by omega) ?_
  refine z_ifb_ne (tgt := 13) b dX9_element_6 (by decide) (fun c6 => ?_) (fun c6 => ?_)
  · refine w_aload_n b dX9_element_13 rfl rfl ?_
    refine m_get b dX9_element_14 lfX9_113 rfl ?_
    refine w_iload_n b dX9_element_17 rfl ?_
    refine m_ald b dX9_element_18 rfl (by omega) rfl ?_
    refine z_iconst b dX9_element_19 ?_
    refine z_icmp_lt (tgt := 40) b dX9_element_20 (by decide) (by have := h35 d (by omega) (by omega); omega) (fun c20 => ?_) (fun c20 => ?_)
    · refine z_iconst b dX9_element_40 ?_
      refine w_goto (tgt := 45) b dX9_element_41 (by decide) ?_
      refine m_put b dX9_element_45 lfX9_1 gtX9_0 (tlt rfl) rfl ?_
      refine w_aload_n b dX9_element_48 rfl rfl ?_
      refine m_get (v := .int (iI 2)) b dX9_element_49 lfX9_1 rfl ?_
      refine z_if_le (tgt := 59) b dX9_element_52 (by decide) (by omega) (fun c52 => ?_) (fun c52 => ?_)
      · exfalso; omega
      · refine w_lconst b dX9_element_55 rfl ?_
        refine w_goto (tgt := 71) b dX9_element_56 (by decide) ?_
        exact w_lret b dX9_element_71 rfl (by omega) (by omega) ⟨rfl, rfl⟩
    · refine w_aload_n b dX9_element_23 rfl rfl ?_
      refine w_iload_n b dX9_element_24 rfl ?_
      refine z_iconst b dX9_element_25 ?_
      refine w_aload_n b dX9_element_26 rfl rfl ?_
      refine m_get b dX9_element_27 lfX9_125 rfl ?_
      refine w_iload_n b dX9_element_30 rfl ?_
      refine m_ald b dX9_element_31 rfl (by omega) rfl ?_
      refine z_iconst b dX9_element_32 ?_
      refine z_isub b dX9_element_33 ?_
      refine c_V3 b dX9_element_34 lmX9_137 (mp_obj _ _ _ _) (k_X9_in (by have := h39 d (by omega) (by omega); omega) (by omega) (by have := h39 d (by omega) (by omega); omega)) (tle rfl) (by omega) (by omega) (by omega) ?_
      refine z_ifb_ne (tgt := 44) b dX9_element_37 (by decide) (fun c37 => ?_) (fun c37 => ?_)
      · exfalso; omega
      · refine z_iconst b dX9_element_40 ?_
        refine w_goto (tgt := 45) b dX9_element_41 (by decide) ?_
        refine m_put b dX9_element_45 lfX9_1 gtX9_0 (tlt rfl) rfl ?_
        refine w_aload_n b dX9_element_48 rfl rfl ?_
        refine m_get (v := .int (iI 2)) b dX9_element_49 lfX9_1 rfl ?_
        refine z_if_le (tgt := 59) b dX9_element_52 (by decide) (by omega) (fun c52 => ?_) (fun c52 => ?_)
        · exfalso; omega
        · refine w_lconst b dX9_element_55 rfl ?_
          refine w_goto (tgt := 71) b dX9_element_56 (by decide) ?_
          exact w_lret b dX9_element_71 rfl (by omega) (by omega) ⟨rfl, rfl⟩
  · exfalso; omega
set_option maxRecDepth 20000 in
theorem k_X9_element0 {l0 : Launch} {g : Gw} {mo nx : Nat} {h0 : Nat → va_E} {I : Nat → Int} {F : Nat → Int → Int} {d i : Int} (hd : 0 ≤ d ∧ d ≤ 7) (hi : 0 ≤ i ∧ i ≤ F 39 d - 1) (hh : 3 ≤ F 35 d) (h35 : ∀ j, 0 ≤ j → j ≤ 7 → 0 ≤ F 35 j ∧ F 35 j ≤ 4) (h39 : ∀ j, 0 ≤ j → j ≤ 7 → 0 ≤ F 39 j ∧ F 39 j ≤ 60) : MD l0 g 2 mX9_element (mp mo h0 I F, nx) [.ref mo, .int (iI (d)), .int (iI (i))] 0 0 (some (.long (iI (F 40 (60 * d + i))).toInt64)) (mp mo h0 (va_up I 0 0) F, nx) := by
  refine MD.of (by decide +kernel) (by simp [Value.category]) (tle rfl) (fun X b => ?_)
  change WW X g _ _ 0 0 0 [some (.ref mo), some (.int (iI (d))), some (.int (iI (i)))] [] _
  refine w_aload_n b dX9_element_0 rfl rfl ?_
  refine w_aload_n b dX9_element_1 rfl rfl ?_
  refine w_iload_n b dX9_element_2 rfl ?_
  refine c_V1 b dX9_element_3 lmX9_222 (mp_obj _ _ _ _) (k_X9_isShelf (by omega)) (tle rfl) (by omega) (by omega) (by omega) ?_
  refine z_ifb_ne (tgt := 13) b dX9_element_6 (by decide) (fun c6 => ?_) (fun c6 => ?_)
  · refine w_aload_n b dX9_element_13 rfl rfl ?_
    refine m_get b dX9_element_14 lfX9_113 rfl ?_
    refine w_iload_n b dX9_element_17 rfl ?_
    refine m_ald b dX9_element_18 rfl (by omega) rfl ?_
    refine z_iconst b dX9_element_19 ?_
    refine z_icmp_lt (tgt := 40) b dX9_element_20 (by decide) (by have := h35 d (by omega) (by omega); omega) (fun c20 => ?_) (fun c20 => ?_)
    · exfalso; omega
    · refine w_aload_n b dX9_element_23 rfl rfl ?_
      refine w_iload_n b dX9_element_24 rfl ?_
      refine z_iconst b dX9_element_25 ?_
      refine w_aload_n b dX9_element_26 rfl rfl ?_
      refine m_get b dX9_element_27 lfX9_125 rfl ?_
      refine w_iload_n b dX9_element_30 rfl ?_
      refine m_ald b dX9_element_31 rfl (by omega) rfl ?_
      refine z_iconst b dX9_element_32 ?_
      refine z_isub b dX9_element_33 ?_
      refine c_V3 b dX9_element_34 lmX9_137 (mp_obj _ _ _ _) (k_X9_in (by have := h39 d (by omega) (by omega); omega) (by omega) (by have := h39 d (by omega) (by omega); omega)) (tle rfl) (by omega) (by omega) (by omega) ?_
      refine z_ifb_ne (tgt := 44) b dX9_element_37 (by decide) (fun c37 => ?_) (fun c37 => ?_)
      · refine z_iconst b dX9_element_44 ?_
        refine m_put b dX9_element_45 lfX9_1 gtX9_0 (tlt rfl) rfl ?_
        refine w_aload_n b dX9_element_48 rfl rfl ?_
        refine m_get (v := .int (iI 0)) b dX9_element_49 lfX9_1 rfl ?_
        refine z_if_le (tgt := 59) b dX9_element_52 (by decide) (by omega) (fun c52 => ?_) (fun c52 => ?_)
        · refine w_aload_n b dX9_element_59 rfl rfl ?_
          refine m_get b dX9_element_60 lfX9_128 rfl ?_
          refine z_bipush b dX9_element_63 (by decide) ?_
          refine w_iload_n b dX9_element_65 rfl ?_
          refine z_imul b dX9_element_66 ?_
          refine w_iload_n b dX9_element_67 rfl ?_
          refine z_iadd b dX9_element_68 ?_
          refine m_ald b dX9_element_69 rfl (by have := h39 d (by omega) (by omega); omega) rfl ?_
          refine w_i2l b dX9_element_70 ?_
          exact w_lret b dX9_element_71 rfl (by omega) (by omega) ⟨rfl, rfl⟩
        · exfalso; omega
      · exfalso; omega
  · exfalso; omega
set_option maxRecDepth 20000 in
theorem k_X9_lacksStep {l0 : Launch} {g : Gw} {mo nx : Nat} {h0 : Nat → va_E} {I : Nat → Int} {F : Nat → Int → Int} {d : Int} (hd : inR d) (h35 : ∀ j, 0 ≤ j → j ≤ 7 → 0 ≤ F 35 j ∧ F 35 j ≤ 4) : MD l0 g 2 mX9_lacksStep (mp mo h0 I F, nx) [.ref mo, .int (iI (d))] 0 0 (some (.int (iI (if 0 ≤ d ∧ d ≤ 7 then (if F 35 d = 0 then -11 else if F 35 d = 1 then 0 else -12) else -1)))) (mp mo h0 I F, nx) := by
  refine MD.of (by decide +kernel) (by simp [Value.category]) (tle rfl) (fun X b => ?_)
  change WW X g _ _ 0 0 0 [some (.ref mo), some (.int (iI (d)))] [] _
  refine w_aload_n b dX9_lacksStep_0 rfl rfl ?_
  refine w_iload_n b dX9_lacksStep_1 rfl ?_
  refine c_V1 b dX9_lacksStep_2 lmX9_222 (mp_obj _ _ _ _) (k_X9_isShelf (by omega)) (tle rfl) (by omega) (by omega) (by omega) ?_
  refine z_ifb_ne (tgt := 12) b dX9_lacksStep_5 (by decide) (fun c5 => ?_) (fun c5 => ?_)
  · refine w_aload_n b dX9_lacksStep_12 rfl rfl ?_
    refine m_get b dX9_lacksStep_13 lfX9_113 rfl ?_
    refine w_iload_n b dX9_lacksStep_16 rfl ?_
    refine m_ald b dX9_lacksStep_17 rfl (by omega) rfl ?_
    refine z_if_ne (tgt := 26) b dX9_lacksStep_18 (by decide) (by have := h35 d (by omega) (by omega); omega) (fun c18 => ?_) (fun c18 => ?_)
    · refine w_aload_n b dX9_lacksStep_26 rfl rfl ?_
      refine m_get b dX9_lacksStep_27 lfX9_113 rfl ?_
      refine w_iload_n b dX9_lacksStep_30 rfl ?_
      refine m_ald b dX9_lacksStep_31 rfl (by omega) rfl ?_
      refine z_iconst b dX9_lacksStep_32 ?_
      refine z_icmp_eq (tgt := 41) b dX9_lacksStep_33 (by decide) (by have := h35 d (by omega) (by omega); omega) (fun c33 => ?_) (fun c33 => ?_)
      · refine z_iconst b dX9_lacksStep_41 ?_
        exact w_iret b dX9_lacksStep_42 rfl (by omega) (by omega) ⟨iv_eq (by first | rfl | omega | ((try simp only [b2]); ((repeat' split) <;> (first | rfl | omega)))), rfl⟩
      · refine z_bipush b dX9_lacksStep_36 (by decide) ?_
        refine w_goto (tgt := 42) b dX9_lacksStep_38 (by decide) ?_
        exact w_iret b dX9_lacksStep_42 rfl (by omega) (by omega) ⟨iv_eq (by first | rfl | omega | ((try simp only [b2]); ((repeat' split) <;> (first | rfl | omega)))), rfl⟩
    · refine z_bipush b dX9_lacksStep_21 (by decide) ?_
      refine w_goto (tgt := 42) b dX9_lacksStep_23 (by decide) ?_
      exact w_iret b dX9_lacksStep_42 rfl (by omega) (by omega) ⟨iv_eq (by first | rfl | omega | ((try simp only [b2]); ((repeat' split) <;> (first | rfl | omega)))), rfl⟩
  · refine z_iconst b dX9_lacksStep_8 ?_
    refine w_goto (tgt := 42) b dX9_lacksStep_9 (by decide) ?_
    exact w_iret b dX9_lacksStep_42 rfl (by omega) (by omega) ⟨iv_eq (by first | rfl | omega | ((try simp only [b2]); ((repeat' split) <;> (first | rfl | omega)))), rfl⟩
/-- why there is no step on a shelf that holds 'held'; 0 if there is one -/
def lsF (held d : Int) : Int := if 0 ≤ d ∧ d ≤ 7 then (if held = 0 then -11 else if held = 1 then 0 else -12) else -1
theorem lsF_rng (held d : Int) : -12 ≤ lsF held d ∧ lsF held d ≤ 0 := by unfold lsF; (repeat' split) <;> omega
set_option maxRecDepth 20000 in
theorem k_X9_weight0 {l0 : Launch} {g : Gw} {mo nx : Nat} {h0 : Nat → va_E} {I : Nat → Int} {F : Nat → Int → Int} {d : Int} (hd : inR d) (h35 : ∀ j, 0 ≤ j → j ≤ 7 → 0 ≤ F 35 j ∧ F 35 j ≤ 4) (hb : ¬ lsF (F 35 d) d = 0) : MD l0 g 3 mX9_weight (mp mo h0 I F, nx) [.ref mo, .int (iI (d))] 0 0 (some (.int (iI (lsF (F 35 d) d)))) (mp mo h0 I F, nx) := by
  refine MD.of (by decide +kernel) (by simp [Value.category]) (tle rfl) (fun X b => ?_)
  change WW X g _ _ 0 0 0 [some (.ref mo), some (.int (iI (d))), none, none] [] _
  refine w_aload_n b dX9_weight_0 rfl rfl ?_
  refine w_iload_n b dX9_weight_1 rfl ?_
  refine c_V1 (w := .int (iI (lsF (F 35 d) d))) b dX9_weight_2 lmX9_229 (mp_obj _ _ _ _) (k_X9_lacksStep (by omega) h35) (tle rfl) (by omega) (by omega) (by omega) ?_
  refine z_if_eq (tgt := 14) b dX9_weight_5 (by decide) (by have := lsF_rng (F 35 d) d; omega) (fun c5 => ?_) (fun c5 => ?_)
  · exact absurd c5 hb
  · refine w_aload_n b dX9_weight_8 rfl rfl ?_
    refine w_iload_n b dX9_weight_9 rfl ?_
    refine c_V1 (w := .int (iI (lsF (F 35 d) d))) b dX9_weight_10 lmX9_229 (mp_obj _ _ _ _) (k_X9_lacksStep (by omega) h35) (tle rfl) (by omega) (by omega) (by omega) ?_
    exact w_iret b dX9_weight_13 rfl (by omega) (by omega) ⟨iv_eq (by first | rfl | omega | ((try simp only [b2]); ((repeat' split) <;> (first | rfl | omega)))), rfl⟩
set_option maxRecDepth 20000 in
theorem k_X9_toss0 {l0 : Launch} {g : Gw} {mo nx : Nat} {h0 : Nat → va_E} {I : Nat → Int} {F : Nat → Int → Int} {d : Int} (hd : inR d) (h35 : ∀ j, 0 ≤ j → j ≤ 7 → 0 ≤ F 35 j ∧ F 35 j ≤ 4) (hb : ¬ lsF (F 35 d) d = 0) : MD l0 g 3 mX9_toss (mp mo h0 I F, nx) [.ref mo, .int (iI (d))] 0 0 (some (.int (iI (lsF (F 35 d) d)))) (mp mo h0 I F, nx) := by
  refine MD.of (by decide +kernel) (by simp [Value.category]) (tle rfl) (fun X b => ?_)
  change WW X g _ _ 0 0 0 [some (.ref mo), some (.int (iI (d)))] [] _
  refine w_aload_n b dX9_toss_0 rfl rfl ?_
  refine w_iload_n b dX9_toss_1 rfl ?_
  refine c_V1 (w := .int (iI (lsF (F 35 d) d))) b dX9_toss_2 lmX9_229 (mp_obj _ _ _ _) (k_X9_lacksStep (by omega) h35) (tle rfl) (by omega) (by omega) (by omega) ?_
  refine z_if_eq (tgt := 14) b dX9_toss_5 (by decide) (by have := lsF_rng (F 35 d) d; omega) (fun c5 => ?_) (fun c5 => ?_)
  · exact absurd c5 hb
  · refine w_aload_n b dX9_toss_8 rfl rfl ?_
    refine w_iload_n b dX9_toss_9 rfl ?_
    refine c_V1 (w := .int (iI (lsF (F 35 d) d))) b dX9_toss_10 lmX9_229 (mp_obj _ _ _ _) (k_X9_lacksStep (by omega) h35) (tle rfl) (by omega) (by omega) (by omega) ?_
    exact w_iret b dX9_toss_13 rfl (by omega) (by omega) ⟨iv_eq (by first | rfl | omega | ((try simp only [b2]); ((repeat' split) <;> (first | rfl | omega)))), rfl⟩
/-- a step's weight -/
def wtF (k n c : Int) : Int := if k = 0 then 10 + c + n else if k = 1 then 111 + c else if k = 2 then 1012 else if k = 3 then 2 * (1013 + n) else 10 + k + n
theorem lsF_0 {held d : Int} (h : lsF held d = 0) : (0 ≤ d ∧ d ≤ 7) ∧ held = 1 := by
  unfold lsF at h
  (repeat' split at h) <;> omega
set_option maxRecDepth 20000 in
theorem k_X9_weight1 {l0 : Launch} {g : Gw} {mo nx : Nat} {h0 : Nat → va_E} {I : Nat → Int} {F : Nat → Int → Int} {d : Int} (hd : inR d) (h35 : ∀ j, 0 ≤ j → j ≤ 7 → 0 ≤ F 35 j ∧ F 35 j ≤ 4) (h36 : 0 ≤ F 36 d ∧ F 36 d ≤ 5) (hb : lsF (F 35 d) d = 0) : MD l0 g 3 mX9_weight (mp mo h0 I F, nx) [.ref mo, .int (iI (d))] 0 0 (some (.int (iI (wtF (F 36 d) (F 37 d) (F 38 d))))) (mp mo h0 I F, nx) := by
  refine MD.of (by decide +kernel) (by simp [Value.category]) (tle rfl) (fun X b => ?_)
  change WW X g _ _ 0 0 0 [some (.ref mo), some (.int (iI (d))), none, none] [] _
  refine w_aload_n b dX9_weight_0 rfl rfl ?_
  refine w_iload_n b dX9_weight_1 rfl ?_
  refine c_V1 (w := .int (iI (lsF (F 35 d) d))) b dX9_weight_2 lmX9_229 (mp_obj _ _ _ _) (k_X9_lacksStep (by omega) h35) (tle rfl) (by omega) (by omega) (by omega) ?_
  refine z_if_eq (tgt := 14) b dX9_weight_5 (by decide) (by have := lsF_rng (F 35 d) d; omega) (fun c5 => ?_) (fun c5 => ?_)
  · have hd7 := lsF_0 hb
    refine w_aload_n b dX9_weight_14 rfl rfl ?_
    refine m_get b dX9_weight_15 lfX9_116 rfl ?_
    refine w_iload_n b dX9_weight_18 rfl ?_
    refine m_ald b dX9_weight_19 rfl (by omega) rfl ?_
    refine w_istore_n b dX9_weight_20 (tlt rfl) rfl ?_
    refine z_bipush b dX9_weight_21 (by decide) ?_
    refine w_iload_n b dX9_weight_23 rfl ?_
    refine z_iadd b dX9_weight_24 ?_
    refine w_aload_n b dX9_weight_25 rfl rfl ?_
    refine w_iload_n b dX9_weight_26 rfl ?_
    refine c_V1 b dX9_weight_27 lmX9_141 (mp_obj _ _ _ _) (k_X9_hasColour (by omega)) (tle rfl) (by omega) (by omega) (by omega) ?_
    refine z_ifb_eq (tgt := 42) b dX9_weight_30 (by decide) (fun c30 => ?_) (fun c30 => ?_)
    · refine z_iconst b dX9_weight_42 ?_
      refine z_iadd b dX9_weight_43 ?_
      refine w_iload_n b dX9_weight_44 rfl ?_
      refine z_iconst b dX9_weight_45 ?_
      refine z_icmp_ne (tgt := 54) b dX9_weight_46 (by decide) (by omega) (fun c46 => ?_) (fun c46 => ?_)
      · refine z_iconst b dX9_weight_54 ?_
        refine z_iadd b dX9_weight_55 ?_
        refine w_iload_n b dX9_weight_56 rfl ?_
        refine z_iconst b dX9_weight_57 ?_
        refine z_icmp_eq (tgt := 66) b dX9_weight_58 (by decide) (by omega) (fun c58 => ?_) (fun c58 => ?_)
        · refine z_sipush b dX9_weight_66 (by decide) ?_
          refine w_goto (tgt := 73) b dX9_weight_69 (by decide) ?_
          refine z_iadd b dX9_weight_73 ?_
          refine w_aload_n b dX9_weight_74 rfl rfl ?_
          refine w_iload_n b dX9_weight_75 rfl ?_
          refine c_V1 b dX9_weight_76 lmX9_148 (mp_obj _ _ _ _) (k_X9_hasNumber (by omega)) (tle rfl) (by omega) (by omega) (by omega) ?_
          refine z_ifb_eq (tgt := 91) b dX9_weight_79 (by decide) (fun c79 => ?_) (fun c79 => ?_)
          · refine z_iconst b dX9_weight_91 ?_
            refine z_iadd b dX9_weight_92 ?_
            refine w_istore_n b dX9_weight_93 (tlt rfl) rfl ?_
            refine w_iload_n b dX9_weight_94 rfl ?_
            refine z_iconst b dX9_weight_95 ?_
            refine z_icmp_ne (tgt := 105) b dX9_weight_96 (by decide) (by omega) (fun c96 => ?_) (fun c96 => ?_)
            · refine w_iload_n b dX9_weight_105 rfl ?_
              exact w_iret b dX9_weight_106 rfl (by omega) (by omega) ⟨iv_eq (by unfold wtF; (repeat' split) <;> omega), rfl⟩
            · refine z_iconst b dX9_weight_99 ?_
              refine w_iload_n b dX9_weight_100 rfl ?_
              refine z_imul b dX9_weight_101 ?_
              refine w_goto (tgt := 106) b dX9_weight_102 (by decide) ?_
              exact w_iret b dX9_weight_106 rfl (by omega) (by omega) ⟨iv_eq (by unfold wtF; (repeat' split) <;> omega), rfl⟩
          · refine w_aload_n b dX9_weight_82 rfl rfl ?_
            refine m_get b dX9_weight_83 lfX9_119 rfl ?_
            refine w_iload_n b dX9_weight_86 rfl ?_
            refine m_ald b dX9_weight_87 rfl (by omega) rfl ?_
            refine w_goto (tgt := 92) b dX9_weight_88 (by decide) ?_
            refine z_iadd b dX9_weight_92 ?_
            refine w_istore_n b dX9_weight_93 (tlt rfl) rfl ?_
            refine w_iload_n b dX9_weight_94 rfl ?_
            refine z_iconst b dX9_weight_95 ?_
            refine z_icmp_ne (tgt := 105) b dX9_weight_96 (by decide) (by omega) (fun c96 => ?_) (fun c96 => ?_)
            · refine w_iload_n b dX9_weight_105 rfl ?_
              exact w_iret b dX9_weight_106 rfl (by omega) (by omega) ⟨iv_eq (by unfold wtF; (repeat' split) <;> omega), rfl⟩
            · refine z_iconst b dX9_weight_99 ?_
              refine w_iload_n b dX9_weight_100 rfl ?_
              refine z_imul b dX9_weight_101 ?_
              refine w_goto (tgt := 106) b dX9_weight_102 (by decide) ?_
              exact w_iret b dX9_weight_106 rfl (by omega) (by omega) ⟨iv_eq (by unfold wtF; (repeat' split) <;> omega), rfl⟩
        · refine w_iload_n b dX9_weight_61 rfl ?_
          refine z_iconst b dX9_weight_62 ?_
          refine z_icmp_ne (tgt := 72) b dX9_weight_63 (by decide) (by omega) (fun c63 => ?_) (fun c63 => ?_)
          · refine z_iconst b dX9_weight_72 ?_
            refine z_iadd b dX9_weight_73 ?_
            refine w_aload_n b dX9_weight_74 rfl rfl ?_
            refine w_iload_n b dX9_weight_75 rfl ?_
            refine c_V1 b dX9_weight_76 lmX9_148 (mp_obj _ _ _ _) (k_X9_hasNumber (by omega)) (tle rfl) (by omega) (by omega) (by omega) ?_
            refine z_ifb_eq (tgt := 91) b dX9_weight_79 (by decide) (fun c79 => ?_) (fun c79 => ?_)
            · refine z_iconst b dX9_weight_91 ?_
              refine z_iadd b dX9_weight_92 ?_
              refine w_istore_n b dX9_weight_93 (tlt rfl) rfl ?_
              refine w_iload_n b dX9_weight_94 rfl ?_
              refine z_iconst b dX9_weight_95 ?_
              refine z_icmp_ne (tgt := 105) b dX9_weight_96 (by decide) (by omega) (fun c96 => ?_) (fun c96 => ?_)
              · refine w_iload_n b dX9_weight_105 rfl ?_
                exact w_iret b dX9_weight_106 rfl (by omega) (by omega) ⟨iv_eq (by unfold wtF; (repeat' split) <;> omega), rfl⟩
              · refine z_iconst b dX9_weight_99 ?_
                refine w_iload_n b dX9_weight_100 rfl ?_
                refine z_imul b dX9_weight_101 ?_
                refine w_goto (tgt := 106) b dX9_weight_102 (by decide) ?_
                exact w_iret b dX9_weight_106 rfl (by omega) (by omega) ⟨iv_eq (by unfold wtF; (repeat' split) <;> omega), rfl⟩
            · refine w_aload_n b dX9_weight_82 rfl rfl ?_
              refine m_get b dX9_weight_83 lfX9_119 rfl ?_
              refine w_iload_n b dX9_weight_86 rfl ?_
              refine m_ald b dX9_weight_87 rfl (by omega) rfl ?_
              refine w_goto (tgt := 92) b dX9_weight_88 (by decide) ?_
              refine z_iadd b dX9_weight_92 ?_
              refine w_istore_n b dX9_weight_93 (tlt rfl) rfl ?_
              refine w_iload_n b dX9_weight_94 rfl ?_
              refine z_iconst b dX9_weight_95 ?_
              refine z_icmp_ne (tgt := 105) b dX9_weight_96 (by decide) (by omega) (fun c96 => ?_) (fun c96 => ?_)
              · refine w_iload_n b dX9_weight_105 rfl ?_
                exact w_iret b dX9_weight_106 rfl (by omega) (by omega) ⟨iv_eq (by unfold wtF; (repeat' split) <;> omega), rfl⟩
              · refine z_iconst b dX9_weight_99 ?_
                refine w_iload_n b dX9_weight_100 rfl ?_
                refine z_imul b dX9_weight_101 ?_
                refine w_goto (tgt := 106) b dX9_weight_102 (by decide) ?_
                exact w_iret b dX9_weight_106 rfl (by omega) (by omega) ⟨iv_eq (by unfold wtF; (repeat' split) <;> omega), rfl⟩
          · refine z_sipush b dX9_weight_66 (by decide) ?_
            refine w_goto (tgt := 73) b dX9_weight_69 (by decide) ?_
            refine z_iadd b dX9_weight_73 ?_
            refine w_aload_n b dX9_weight_74 rfl rfl ?_
            refine w_iload_n b dX9_weight_75 rfl ?_
            refine c_V1 b dX9_weight_76 lmX9_148 (mp_obj _ _ _ _) (k_X9_hasNumber (by omega)) (tle rfl) (by omega) (by omega) (by omega) ?_
            refine z_ifb_eq (tgt := 91) b dX9_weight_79 (by decide) (fun c79 => ?_) (fun c79 => ?_)
            · refine z_iconst b dX9_weight_91 ?_
              refine z_iadd b dX9_weight_92 ?_
              refine w_istore_n b dX9_weight_93 (tlt rfl) rfl ?_
              refine w_iload_n b dX9_weight_94 rfl ?_
              refine z_iconst b dX9_weight_95 ?_
              refine z_icmp_ne (tgt := 105) b dX9_weight_96 (by decide) (by omega) (fun c96 => ?_) (fun c96 => ?_)
              · refine w_iload_n b dX9_weight_105 rfl ?_
                exact w_iret b dX9_weight_106 rfl (by omega) (by omega) ⟨iv_eq (by unfold wtF; (repeat' split) <;> omega), rfl⟩
              · refine z_iconst b dX9_weight_99 ?_
                refine w_iload_n b dX9_weight_100 rfl ?_
                refine z_imul b dX9_weight_101 ?_
                refine w_goto (tgt := 106) b dX9_weight_102 (by decide) ?_
                exact w_iret b dX9_weight_106 rfl (by omega) (by omega) ⟨iv_eq (by unfold wtF; (repeat' split) <;> omega), rfl⟩
            · refine w_aload_n b dX9_weight_82 rfl rfl ?_
              refine m_get b dX9_weight_83 lfX9_119 rfl ?_
              refine w_iload_n b dX9_weight_86 rfl ?_
              refine m_ald b dX9_weight_87 rfl (by omega) rfl ?_
              refine w_goto (tgt := 92) b dX9_weight_88 (by decide) ?_
              refine z_iadd b dX9_weight_92 ?_
              refine w_istore_n b dX9_weight_93 (tlt rfl) rfl ?_
              refine w_iload_n b dX9_weight_94 rfl ?_
              refine z_iconst b dX9_weight_95 ?_
              refine z_icmp_ne (tgt := 105) b dX9_weight_96 (by decide) (by omega) (fun c96 => ?_) (fun c96 => ?_)
              · refine w_iload_n b dX9_weight_105 rfl ?_
                exact w_iret b dX9_weight_106 rfl (by omega) (by omega) ⟨iv_eq (by unfold wtF; (repeat' split) <;> omega), rfl⟩
              · refine z_iconst b dX9_weight_99 ?_
                refine w_iload_n b dX9_weight_100 rfl ?_
                refine z_imul b dX9_weight_101 ?_
                refine w_goto (tgt := 106) b dX9_weight_102 (by decide) ?_
                exact w_iret b dX9_weight_106 rfl (by omega) (by omega) ⟨iv_eq (by unfold wtF; (repeat' split) <;> omega), rfl⟩
      · refine z_bipush b dX9_weight_49 (by decide) ?_
        refine w_goto (tgt := 55) b dX9_weight_51 (by decide) ?_
        refine z_iadd b dX9_weight_55 ?_
        refine w_iload_n b dX9_weight_56 rfl ?_
        refine z_iconst b dX9_weight_57 ?_
        refine z_icmp_eq (tgt := 66) b dX9_weight_58 (by decide) (by omega) (fun c58 => ?_) (fun c58 => ?_)
        · refine z_sipush b dX9_weight_66 (by decide) ?_
          refine w_goto (tgt := 73) b dX9_weight_69 (by decide) ?_
          refine z_iadd b dX9_weight_73 ?_
          refine w_aload_n b dX9_weight_74 rfl rfl ?_
          refine w_iload_n b dX9_weight_75 rfl ?_
          refine c_V1 b dX9_weight_76 lmX9_148 (mp_obj _ _ _ _) (k_X9_hasNumber (by omega)) (tle rfl) (by omega) (by omega) (by omega) ?_
          refine z_ifb_eq (tgt := 91) b dX9_weight_79 (by decide) (fun c79 => ?_) (fun c79 => ?_)
          · refine z_iconst b dX9_weight_91 ?_
            refine z_iadd b dX9_weight_92 ?_
            refine w_istore_n b dX9_weight_93 (tlt rfl) rfl ?_
            refine w_iload_n b dX9_weight_94 rfl ?_
            refine z_iconst b dX9_weight_95 ?_
            refine z_icmp_ne (tgt := 105) b dX9_weight_96 (by decide) (by omega) (fun c96 => ?_) (fun c96 => ?_)
            · refine w_iload_n b dX9_weight_105 rfl ?_
              exact w_iret b dX9_weight_106 rfl (by omega) (by omega) ⟨iv_eq (by unfold wtF; (repeat' split) <;> omega), rfl⟩
            · refine z_iconst b dX9_weight_99 ?_
              refine w_iload_n b dX9_weight_100 rfl ?_
              refine z_imul b dX9_weight_101 ?_
              refine w_goto (tgt := 106) b dX9_weight_102 (by decide) ?_
              exact w_iret b dX9_weight_106 rfl (by omega) (by omega) ⟨iv_eq (by unfold wtF; (repeat' split) <;> omega), rfl⟩
          · refine w_aload_n b dX9_weight_82 rfl rfl ?_
            refine m_get b dX9_weight_83 lfX9_119 rfl ?_
            refine w_iload_n b dX9_weight_86 rfl ?_
            refine m_ald b dX9_weight_87 rfl (by omega) rfl ?_
            refine w_goto (tgt := 92) b dX9_weight_88 (by decide) ?_
            refine z_iadd b dX9_weight_92 ?_
            refine w_istore_n b dX9_weight_93 (tlt rfl) rfl ?_
            refine w_iload_n b dX9_weight_94 rfl ?_
            refine z_iconst b dX9_weight_95 ?_
            refine z_icmp_ne (tgt := 105) b dX9_weight_96 (by decide) (by omega) (fun c96 => ?_) (fun c96 => ?_)
            · refine w_iload_n b dX9_weight_105 rfl ?_
              exact w_iret b dX9_weight_106 rfl (by omega) (by omega) ⟨iv_eq (by unfold wtF; (repeat' split) <;> omega), rfl⟩
            · refine z_iconst b dX9_weight_99 ?_
              refine w_iload_n b dX9_weight_100 rfl ?_
              refine z_imul b dX9_weight_101 ?_
              refine w_goto (tgt := 106) b dX9_weight_102 (by decide) ?_
              exact w_iret b dX9_weight_106 rfl (by omega) (by omega) ⟨iv_eq (by unfold wtF; (repeat' split) <;> omega), rfl⟩
        · refine w_iload_n b dX9_weight_61 rfl ?_
          refine z_iconst b dX9_weight_62 ?_
          refine z_icmp_ne (tgt := 72) b dX9_weight_63 (by decide) (by omega) (fun c63 => ?_) (fun c63 => ?_)
          · refine z_iconst b dX9_weight_72 ?_
            refine z_iadd b dX9_weight_73 ?_
            refine w_aload_n b dX9_weight_74 rfl rfl ?_
            refine w_iload_n b dX9_weight_75 rfl ?_
            refine c_V1 b dX9_weight_76 lmX9_148 (mp_obj _ _ _ _) (k_X9_hasNumber (by omega)) (tle rfl) (by omega) (by omega) (by omega) ?_
            refine z_ifb_eq (tgt := 91) b dX9_weight_79 (by decide) (fun c79 => ?_) (fun c79 => ?_)
            · refine z_iconst b dX9_weight_91 ?_
              refine z_iadd b dX9_weight_92 ?_
              refine w_istore_n b dX9_weight_93 (tlt rfl) rfl ?_
              refine w_iload_n b dX9_weight_94 rfl ?_
              refine z_iconst b dX9_weight_95 ?_
              refine z_icmp_ne (tgt := 105) b dX9_weight_96 (by decide) (by omega) (fun c96 => ?_) (fun c96 => ?_)
              · refine w_iload_n b dX9_weight_105 rfl ?_
                exact w_iret b dX9_weight_106 rfl (by omega) (by omega) ⟨iv_eq (by unfold wtF; (repeat' split) <;> omega), rfl⟩
              · refine z_iconst b dX9_weight_99 ?_
                refine w_iload_n b dX9_weight_100 rfl ?_
                refine z_imul b dX9_weight_101 ?_
                refine w_goto (tgt := 106) b dX9_weight_102 (by decide) ?_
                exact w_iret b dX9_weight_106 rfl (by omega) (by omega) ⟨iv_eq (by unfold wtF; (repeat' split) <;> omega), rfl⟩
            · refine w_aload_n b dX9_weight_82 rfl rfl ?_
              refine m_get b dX9_weight_83 lfX9_119 rfl ?_
              refine w_iload_n b dX9_weight_86 rfl ?_
              refine m_ald b dX9_weight_87 rfl (by omega) rfl ?_
              refine w_goto (tgt := 92) b dX9_weight_88 (by decide) ?_
              refine z_iadd b dX9_weight_92 ?_
              refine w_istore_n b dX9_weight_93 (tlt rfl) rfl ?_
              refine w_iload_n b dX9_weight_94 rfl ?_
              refine z_iconst b dX9_weight_95 ?_
              refine z_icmp_ne (tgt := 105) b dX9_weight_96 (by decide) (by omega) (fun c96 => ?_) (fun c96 => ?_)
              · refine w_iload_n b dX9_weight_105 rfl ?_
                exact w_iret b dX9_weight_106 rfl (by omega) (by omega) ⟨iv_eq (by unfold wtF; (repeat' split) <;> omega), rfl⟩
              · refine z_iconst b dX9_weight_99 ?_
                refine w_iload_n b dX9_weight_100 rfl ?_
                refine z_imul b dX9_weight_101 ?_
                refine w_goto (tgt := 106) b dX9_weight_102 (by decide) ?_
                exact w_iret b dX9_weight_106 rfl (by omega) (by omega) ⟨iv_eq (by unfold wtF; (repeat' split) <;> omega), rfl⟩
          · refine z_sipush b dX9_weight_66 (by decide) ?_
            refine w_goto (tgt := 73) b dX9_weight_69 (by decide) ?_
            refine z_iadd b dX9_weight_73 ?_
            refine w_aload_n b dX9_weight_74 rfl rfl ?_
            refine w_iload_n b dX9_weight_75 rfl ?_
            refine c_V1 b dX9_weight_76 lmX9_148 (mp_obj _ _ _ _) (k_X9_hasNumber (by omega)) (tle rfl) (by omega) (by omega) (by omega) ?_
            refine z_ifb_eq (tgt := 91) b dX9_weight_79 (by decide) (fun c79 => ?_) (fun c79 => ?_)
            · refine z_iconst b dX9_weight_91 ?_
              refine z_iadd b dX9_weight_92 ?_
              refine w_istore_n b dX9_weight_93 (tlt rfl) rfl ?_
              refine w_iload_n b dX9_weight_94 rfl ?_
              refine z_iconst b dX9_weight_95 ?_
              refine z_icmp_ne (tgt := 105) b dX9_weight_96 (by decide) (by omega) (fun c96 => ?_) (fun c96 => ?_)
              · refine w_iload_n b dX9_weight_105 rfl ?_
                exact w_iret b dX9_weight_106 rfl (by omega) (by omega) ⟨iv_eq (by unfold wtF; (repeat' split) <;> omega), rfl⟩
              · refine z_iconst b dX9_weight_99 ?_
                refine w_iload_n b dX9_weight_100 rfl ?_
                refine z_imul b dX9_weight_101 ?_
                refine w_goto (tgt := 106) b dX9_weight_102 (by decide) ?_
                exact w_iret b dX9_weight_106 rfl (by omega) (by omega) ⟨iv_eq (by unfold wtF; (repeat' split) <;> omega), rfl⟩
            · refine w_aload_n b dX9_weight_82 rfl rfl ?_
              refine m_get b dX9_weight_83 lfX9_119 rfl ?_
              refine w_iload_n b dX9_weight_86 rfl ?_
              refine m_ald b dX9_weight_87 rfl (by omega) rfl ?_
              refine w_goto (tgt := 92) b dX9_weight_88 (by decide) ?_
              refine z_iadd b dX9_weight_92 ?_
              refine w_istore_n b dX9_weight_93 (tlt rfl) rfl ?_
              refine w_iload_n b dX9_weight_94 rfl ?_
              refine z_iconst b dX9_weight_95 ?_
              refine z_icmp_ne (tgt := 105) b dX9_weight_96 (by decide) (by omega) (fun c96 => ?_) (fun c96 => ?_)
              · refine w_iload_n b dX9_weight_105 rfl ?_
                exact w_iret b dX9_weight_106 rfl (by omega) (by omega) ⟨iv_eq (by unfold wtF; (repeat' split) <;> omega), rfl⟩
              · refine z_iconst b dX9_weight_99 ?_
                refine w_iload_n b dX9_weight_100 rfl ?_
                refine z_imul b dX9_weight_101 ?_
                refine w_goto (tgt := 106) b dX9_weight_102 (by decide) ?_
                exact w_iret b dX9_weight_106 rfl (by omega) (by omega) ⟨iv_eq (by unfold wtF; (repeat' split) <;> omega), rfl⟩
    · refine w_aload_n b dX9_weight_33 rfl rfl ?_
      refine m_get b dX9_weight_34 lfX9_122 rfl ?_
      refine w_iload_n b dX9_weight_37 rfl ?_
      refine m_ald b dX9_weight_38 rfl (by omega) rfl ?_
      refine w_goto (tgt := 43) b dX9_weight_39 (by decide) ?_
      refine z_iadd b dX9_weight_43 ?_
      refine w_iload_n b dX9_weight_44 rfl ?_
      refine z_iconst b dX9_weight_45 ?_
      refine z_icmp_ne (tgt := 54) b dX9_weight_46 (by decide) (by omega) (fun c46 => ?_) (fun c46 => ?_)
      · refine z_iconst b dX9_weight_54 ?_
        refine z_iadd b dX9_weight_55 ?_
        refine w_iload_n b dX9_weight_56 rfl ?_
        refine z_iconst b dX9_weight_57 ?_
        refine z_icmp_eq (tgt := 66) b dX9_weight_58 (by decide) (by omega) (fun c58 => ?_) (fun c58 => ?_)
        · refine z_sipush b dX9_weight_66 (by decide) ?_
          refine w_goto (tgt := 73) b dX9_weight_69 (by decide) ?_
          refine z_iadd b dX9_weight_73 ?_
          refine w_aload_n b dX9_weight_74 rfl rfl ?_
          refine w_iload_n b dX9_weight_75 rfl ?_
          refine c_V1 b dX9_weight_76 lmX9_148 (mp_obj _ _ _ _) (k_X9_hasNumber (by omega)) (tle rfl) (by omega) (by omega) (by omega) ?_
          refine z_ifb_eq (tgt := 91) b dX9_weight_79 (by decide) (fun c79 => ?_) (fun c79 => ?_)
          · refine z_iconst b dX9_weight_91 ?_
            refine z_iadd b dX9_weight_92 ?_
            refine w_istore_n b dX9_weight_93 (tlt rfl) rfl ?_
            refine w_iload_n b dX9_weight_94 rfl ?_
            refine z_iconst b dX9_weight_95 ?_
            refine z_icmp_ne (tgt := 105) b dX9_weight_96 (by decide) (by omega) (fun c96 => ?_) (fun c96 => ?_)
            · refine w_iload_n b dX9_weight_105 rfl ?_
              exact w_iret b dX9_weight_106 rfl (by omega) (by omega) ⟨iv_eq (by unfold wtF; (repeat' split) <;> omega), rfl⟩
            · refine z_iconst b dX9_weight_99 ?_
              refine w_iload_n b dX9_weight_100 rfl ?_
              refine z_imul b dX9_weight_101 ?_
              refine w_goto (tgt := 106) b dX9_weight_102 (by decide) ?_
              exact w_iret b dX9_weight_106 rfl (by omega) (by omega) ⟨iv_eq (by unfold wtF; (repeat' split) <;> omega), rfl⟩
          · refine w_aload_n b dX9_weight_82 rfl rfl ?_
            refine m_get b dX9_weight_83 lfX9_119 rfl ?_
            refine w_iload_n b dX9_weight_86 rfl ?_
            refine m_ald b dX9_weight_87 rfl (by omega) rfl ?_
            refine w_goto (tgt := 92) b dX9_weight_88 (by decide) ?_
            refine z_iadd b dX9_weight_92 ?_
            refine w_istore_n b dX9_weight_93 (tlt rfl) rfl ?_
            refine w_iload_n b dX9_weight_94 rfl ?_
            refine z_iconst b dX9_weight_95 ?_
            refine z_icmp_ne (tgt := 105) b dX9_weight_96 (by decide) (by omega) (fun c96 => ?_) (fun c96 => ?_)
            · refine w_iload_n b dX9_weight_105 rfl ?_
              exact w_iret b dX9_weight_106 rfl (by omega) (by omega) ⟨iv_eq (by unfold wtF; (repeat' split) <;> omega), rfl⟩
            · refine z_iconst b dX9_weight_99 ?_
              refine w_iload_n b dX9_weight_100 rfl ?_
              refine z_imul b dX9_weight_101 ?_
              refine w_goto (tgt := 106) b dX9_weight_102 (by decide) ?_
              exact w_iret b dX9_weight_106 rfl (by omega) (by omega) ⟨iv_eq (by unfold wtF; (repeat' split) <;> omega), rfl⟩
        · refine w_iload_n b dX9_weight_61 rfl ?_
          refine z_iconst b dX9_weight_62 ?_
          refine z_icmp_ne (tgt := 72) b dX9_weight_63 (by decide) (by omega) (fun c63 => ?_) (fun c63 => ?_)
          · refine z_iconst b dX9_weight_72 ?_
            refine z_iadd b dX9_weight_73 ?_
            refine w_aload_n b dX9_weight_74 rfl rfl ?_
            refine w_iload_n b dX9_weight_75 rfl ?_
            refine c_V1 b dX9_weight_76 lmX9_148 (mp_obj _ _ _ _) (k_X9_hasNumber (by omega)) (tle rfl) (by omega) (by omega) (by omega) ?_
            refine z_ifb_eq (tgt := 91) b dX9_weight_79 (by decide) (fun c79 => ?_) (fun c79 => ?_)
            · refine z_iconst b dX9_weight_91 ?_
              refine z_iadd b dX9_weight_92 ?_
              refine w_istore_n b dX9_weight_93 (tlt rfl) rfl ?_
              refine w_iload_n b dX9_weight_94 rfl ?_
              refine z_iconst b dX9_weight_95 ?_
              refine z_icmp_ne (tgt := 105) b dX9_weight_96 (by decide) (by omega) (fun c96 => ?_) (fun c96 => ?_)
              · refine w_iload_n b dX9_weight_105 rfl ?_
                exact w_iret b dX9_weight_106 rfl (by omega) (by omega) ⟨iv_eq (by unfold wtF; (repeat' split) <;> omega), rfl⟩
              · refine z_iconst b dX9_weight_99 ?_
                refine w_iload_n b dX9_weight_100 rfl ?_
                refine z_imul b dX9_weight_101 ?_
                refine w_goto (tgt := 106) b dX9_weight_102 (by decide) ?_
                exact w_iret b dX9_weight_106 rfl (by omega) (by omega) ⟨iv_eq (by unfold wtF; (repeat' split) <;> omega), rfl⟩
            · refine w_aload_n b dX9_weight_82 rfl rfl ?_
              refine m_get b dX9_weight_83 lfX9_119 rfl ?_
              refine w_iload_n b dX9_weight_86 rfl ?_
              refine m_ald b dX9_weight_87 rfl (by omega) rfl ?_
              refine w_goto (tgt := 92) b dX9_weight_88 (by decide) ?_
              refine z_iadd b dX9_weight_92 ?_
              refine w_istore_n b dX9_weight_93 (tlt rfl) rfl ?_
              refine w_iload_n b dX9_weight_94 rfl ?_
              refine z_iconst b dX9_weight_95 ?_
              refine z_icmp_ne (tgt := 105) b dX9_weight_96 (by decide) (by omega) (fun c96 => ?_) (fun c96 => ?_)
              · refine w_iload_n b dX9_weight_105 rfl ?_
                exact w_iret b dX9_weight_106 rfl (by omega) (by omega) ⟨iv_eq (by unfold wtF; (repeat' split) <;> omega), rfl⟩
              · refine z_iconst b dX9_weight_99 ?_
                refine w_iload_n b dX9_weight_100 rfl ?_
                refine z_imul b dX9_weight_101 ?_
                refine w_goto (tgt := 106) b dX9_weight_102 (by decide) ?_
                exact w_iret b dX9_weight_106 rfl (by omega) (by omega) ⟨iv_eq (by unfold wtF; (repeat' split) <;> omega), rfl⟩
          · refine z_sipush b dX9_weight_66 (by decide) ?_
            refine w_goto (tgt := 73) b dX9_weight_69 (by decide) ?_
            refine z_iadd b dX9_weight_73 ?_
            refine w_aload_n b dX9_weight_74 rfl rfl ?_
            refine w_iload_n b dX9_weight_75 rfl ?_
            refine c_V1 b dX9_weight_76 lmX9_148 (mp_obj _ _ _ _) (k_X9_hasNumber (by omega)) (tle rfl) (by omega) (by omega) (by omega) ?_
            refine z_ifb_eq (tgt := 91) b dX9_weight_79 (by decide) (fun c79 => ?_) (fun c79 => ?_)
            · refine z_iconst b dX9_weight_91 ?_
              refine z_iadd b dX9_weight_92 ?_
              refine w_istore_n b dX9_weight_93 (tlt rfl) rfl ?_
              refine w_iload_n b dX9_weight_94 rfl ?_
              refine z_iconst b dX9_weight_95 ?_
              refine z_icmp_ne (tgt := 105) b dX9_weight_96 (by decide) (by omega) (fun c96 => ?_) (fun c96 => ?_)
              · refine w_iload_n b dX9_weight_105 rfl ?_
                exact w_iret b dX9_weight_106 rfl (by omega) (by omega) ⟨iv_eq (by unfold wtF; (repeat' split) <;> omega), rfl⟩
              · refine z_iconst b dX9_weight_99 ?_
                refine w_iload_n b dX9_weight_100 rfl ?_
                refine z_imul b dX9_weight_101 ?_
                refine w_goto (tgt := 106) b dX9_weight_102 (by decide) ?_
                exact w_iret b dX9_weight_106 rfl (by omega) (by omega) ⟨iv_eq (by unfold wtF; (repeat' split) <;> omega), rfl⟩
            · refine w_aload_n b dX9_weight_82 rfl rfl ?_
              refine m_get b dX9_weight_83 lfX9_119 rfl ?_
              refine w_iload_n b dX9_weight_86 rfl ?_
              refine m_ald b dX9_weight_87 rfl (by omega) rfl ?_
              refine w_goto (tgt := 92) b dX9_weight_88 (by decide) ?_
              refine z_iadd b dX9_weight_92 ?_
              refine w_istore_n b dX9_weight_93 (tlt rfl) rfl ?_
              refine w_iload_n b dX9_weight_94 rfl ?_
              refine z_iconst b dX9_weight_95 ?_
              refine z_icmp_ne (tgt := 105) b dX9_weight_96 (by decide) (by omega) (fun c96 => ?_) (fun c96 => ?_)
              · refine w_iload_n b dX9_weight_105 rfl ?_
                exact w_iret b dX9_weight_106 rfl (by omega) (by omega) ⟨iv_eq (by unfold wtF; (repeat' split) <;> omega), rfl⟩
              · refine z_iconst b dX9_weight_99 ?_
                refine w_iload_n b dX9_weight_100 rfl ?_
                refine z_imul b dX9_weight_101 ?_
                refine w_goto (tgt := 106) b dX9_weight_102 (by decide) ?_
                exact w_iret b dX9_weight_106 rfl (by omega) (by omega) ⟨iv_eq (by unfold wtF; (repeat' split) <;> omega), rfl⟩
      · refine z_bipush b dX9_weight_49 (by decide) ?_
        refine w_goto (tgt := 55) b dX9_weight_51 (by decide) ?_
        refine z_iadd b dX9_weight_55 ?_
        refine w_iload_n b dX9_weight_56 rfl ?_
        refine z_iconst b dX9_weight_57 ?_
        refine z_icmp_eq (tgt := 66) b dX9_weight_58 (by decide) (by omega) (fun c58 => ?_) (fun c58 => ?_)
        · refine z_sipush b dX9_weight_66 (by decide) ?_
          refine w_goto (tgt := 73) b dX9_weight_69 (by decide) ?_
          refine z_iadd b dX9_weight_73 ?_
          refine w_aload_n b dX9_weight_74 rfl rfl ?_
          refine w_iload_n b dX9_weight_75 rfl ?_
          refine c_V1 b dX9_weight_76 lmX9_148 (mp_obj _ _ _ _) (k_X9_hasNumber (by omega)) (tle rfl) (by omega) (by omega) (by omega) ?_
          refine z_ifb_eq (tgt := 91) b dX9_weight_79 (by decide) (fun c79 => ?_) (fun c79 => ?_)
          · refine z_iconst b dX9_weight_91 ?_
            refine z_iadd b dX9_weight_92 ?_
            refine w_istore_n b dX9_weight_93 (tlt rfl) rfl ?_
            refine w_iload_n b dX9_weight_94 rfl ?_
            refine z_iconst b dX9_weight_95 ?_
            refine z_icmp_ne (tgt := 105) b dX9_weight_96 (by decide) (by omega) (fun c96 => ?_) (fun c96 => ?_)
            · refine w_iload_n b dX9_weight_105 rfl ?_
              exact w_iret b dX9_weight_106 rfl (by omega) (by omega) ⟨iv_eq (by unfold wtF; (repeat' split) <;> omega), rfl⟩
            · refine z_iconst b dX9_weight_99 ?_
              refine w_iload_n b dX9_weight_100 rfl ?_
              refine z_imul b dX9_weight_101 ?_
              refine w_goto (tgt := 106) b dX9_weight_102 (by decide) ?_
              exact w_iret b dX9_weight_106 rfl (by omega) (by omega) ⟨iv_eq (by unfold wtF; (repeat' split) <;> omega), rfl⟩
          · refine w_aload_n b dX9_weight_82 rfl rfl ?_
            refine m_get b dX9_weight_83 lfX9_119 rfl ?_
            refine w_iload_n b dX9_weight_86 rfl ?_
            refine m_ald b dX9_weight_87 rfl (by omega) rfl ?_
            refine w_goto (tgt := 92) b dX9_weight_88 (by decide) ?_
            refine z_iadd b dX9_weight_92 ?_
            refine w_istore_n b dX9_weight_93 (tlt rfl) rfl ?_
            refine w_iload_n b dX9_weight_94 rfl ?_
            refine z_iconst b dX9_weight_95 ?_
            refine z_icmp_ne (tgt := 105) b dX9_weight_96 (by decide) (by omega) (fun c96 => ?_) (fun c96 => ?_)
            · refine w_iload_n b dX9_weight_105 rfl ?_
              exact w_iret b dX9_weight_106 rfl (by omega) (by omega) ⟨iv_eq (by unfold wtF; (repeat' split) <;> omega), rfl⟩
            · refine z_iconst b dX9_weight_99 ?_
              refine w_iload_n b dX9_weight_100 rfl ?_
              refine z_imul b dX9_weight_101 ?_
              refine w_goto (tgt := 106) b dX9_weight_102 (by decide) ?_
              exact w_iret b dX9_weight_106 rfl (by omega) (by omega) ⟨iv_eq (by unfold wtF; (repeat' split) <;> omega), rfl⟩
        · refine w_iload_n b dX9_weight_61 rfl ?_
          refine z_iconst b dX9_weight_62 ?_
          refine z_icmp_ne (tgt := 72) b dX9_weight_63 (by decide) (by omega) (fun c63 => ?_) (fun c63 => ?_)
          · refine z_iconst b dX9_weight_72 ?_
            refine z_iadd b dX9_weight_73 ?_
            refine w_aload_n b dX9_weight_74 rfl rfl ?_
            refine w_iload_n b dX9_weight_75 rfl ?_
            refine c_V1 b dX9_weight_76 lmX9_148 (mp_obj _ _ _ _) (k_X9_hasNumber (by omega)) (tle rfl) (by omega) (by omega) (by omega) ?_
            refine z_ifb_eq (tgt := 91) b dX9_weight_79 (by decide) (fun c79 => ?_) (fun c79 => ?_)
            · refine z_iconst b dX9_weight_91 ?_
              refine z_iadd b dX9_weight_92 ?_
              refine w_istore_n b dX9_weight_93 (tlt rfl) rfl ?_
              refine w_iload_n b dX9_weight_94 rfl ?_
              refine z_iconst b dX9_weight_95 ?_
              refine z_icmp_ne (tgt := 105) b dX9_weight_96 (by decide) (by omega) (fun c96 => ?_) (fun c96 => ?_)
              · refine w_iload_n b dX9_weight_105 rfl ?_
                exact w_iret b dX9_weight_106 rfl (by omega) (by omega) ⟨iv_eq (by unfold wtF; (repeat' split) <;> omega), rfl⟩
              · refine z_iconst b dX9_weight_99 ?_
                refine w_iload_n b dX9_weight_100 rfl ?_
                refine z_imul b dX9_weight_101 ?_
                refine w_goto (tgt := 106) b dX9_weight_102 (by decide) ?_
                exact w_iret b dX9_weight_106 rfl (by omega) (by omega) ⟨iv_eq (by unfold wtF; (repeat' split) <;> omega), rfl⟩
            · refine w_aload_n b dX9_weight_82 rfl rfl ?_
              refine m_get b dX9_weight_83 lfX9_119 rfl ?_
              refine w_iload_n b dX9_weight_86 rfl ?_
              refine m_ald b dX9_weight_87 rfl (by omega) rfl ?_
              refine w_goto (tgt := 92) b dX9_weight_88 (by decide) ?_
              refine z_iadd b dX9_weight_92 ?_
              refine w_istore_n b dX9_weight_93 (tlt rfl) rfl ?_
              refine w_iload_n b dX9_weight_94 rfl ?_
              refine z_iconst b dX9_weight_95 ?_
              refine z_icmp_ne (tgt := 105) b dX9_weight_96 (by decide) (by omega) (fun c96 => ?_) (fun c96 => ?_)
              · refine w_iload_n b dX9_weight_105 rfl ?_
                exact w_iret b dX9_weight_106 rfl (by omega) (by omega) ⟨iv_eq (by unfold wtF; (repeat' split) <;> omega), rfl⟩
              · refine z_iconst b dX9_weight_99 ?_
                refine w_iload_n b dX9_weight_100 rfl ?_
                refine z_imul b dX9_weight_101 ?_
                refine w_goto (tgt := 106) b dX9_weight_102 (by decide) ?_
                exact w_iret b dX9_weight_106 rfl (by omega) (by omega) ⟨iv_eq (by unfold wtF; (repeat' split) <;> omega), rfl⟩
          · refine z_sipush b dX9_weight_66 (by decide) ?_
            refine w_goto (tgt := 73) b dX9_weight_69 (by decide) ?_
            refine z_iadd b dX9_weight_73 ?_
            refine w_aload_n b dX9_weight_74 rfl rfl ?_
            refine w_iload_n b dX9_weight_75 rfl ?_
            refine c_V1 b dX9_weight_76 lmX9_148 (mp_obj _ _ _ _) (k_X9_hasNumber (by omega)) (tle rfl) (by omega) (by omega) (by omega) ?_
            refine z_ifb_eq (tgt := 91) b dX9_weight_79 (by decide) (fun c79 => ?_) (fun c79 => ?_)
            · refine z_iconst b dX9_weight_91 ?_
              refine z_iadd b dX9_weight_92 ?_
              refine w_istore_n b dX9_weight_93 (tlt rfl) rfl ?_
              refine w_iload_n b dX9_weight_94 rfl ?_
              refine z_iconst b dX9_weight_95 ?_
              refine z_icmp_ne (tgt := 105) b dX9_weight_96 (by decide) (by omega) (fun c96 => ?_) (fun c96 => ?_)
              · refine w_iload_n b dX9_weight_105 rfl ?_
                exact w_iret b dX9_weight_106 rfl (by omega) (by omega) ⟨iv_eq (by unfold wtF; (repeat' split) <;> omega), rfl⟩
              · refine z_iconst b dX9_weight_99 ?_
                refine w_iload_n b dX9_weight_100 rfl ?_
                refine z_imul b dX9_weight_101 ?_
                refine w_goto (tgt := 106) b dX9_weight_102 (by decide) ?_
                exact w_iret b dX9_weight_106 rfl (by omega) (by omega) ⟨iv_eq (by unfold wtF; (repeat' split) <;> omega), rfl⟩
            · refine w_aload_n b dX9_weight_82 rfl rfl ?_
              refine m_get b dX9_weight_83 lfX9_119 rfl ?_
              refine w_iload_n b dX9_weight_86 rfl ?_
              refine m_ald b dX9_weight_87 rfl (by omega) rfl ?_
              refine w_goto (tgt := 92) b dX9_weight_88 (by decide) ?_
              refine z_iadd b dX9_weight_92 ?_
              refine w_istore_n b dX9_weight_93 (tlt rfl) rfl ?_
              refine w_iload_n b dX9_weight_94 rfl ?_
              refine z_iconst b dX9_weight_95 ?_
              refine z_icmp_ne (tgt := 105) b dX9_weight_96 (by decide) (by omega) (fun c96 => ?_) (fun c96 => ?_)
              · refine w_iload_n b dX9_weight_105 rfl ?_
                exact w_iret b dX9_weight_106 rfl (by omega) (by omega) ⟨iv_eq (by unfold wtF; (repeat' split) <;> omega), rfl⟩
              · refine z_iconst b dX9_weight_99 ?_
                refine w_iload_n b dX9_weight_100 rfl ?_
                refine z_imul b dX9_weight_101 ?_
                refine w_goto (tgt := 106) b dX9_weight_102 (by decide) ?_
                exact w_iret b dX9_weight_106 rfl (by omega) (by omega) ⟨iv_eq (by unfold wtF; (repeat' split) <;> omega), rfl⟩
  · exact absurd hb c5
set_option maxRecDepth 20000 in
theorem k_X9_toss1 {l0 : Launch} {g : Gw} {mo nx : Nat} {h0 : Nat → va_E} {I : Nat → Int} {F : Nat → Int → Int} {d : Int} (hd : inR d) (h35 : ∀ j, 0 ≤ j → j ≤ 7 → 0 ≤ F 35 j ∧ F 35 j ≤ 4) (h36 : 0 ≤ F 36 d ∧ F 36 d ≤ 5) (hb : lsF (F 35 d) d = 0) : MD l0 g 3 mX9_toss (mp mo h0 I F, nx) [.ref mo, .int (iI (d))] 0 0 (some (.int (iI (if F 36 d = 1 ∨ F 36 d = 2 then -15 else F 37 d)))) (mp mo h0 I F, nx) := by
  refine MD.of (by decide +kernel) (by simp [Value.category]) (tle rfl) (fun X b => ?_)
  change WW X g _ _ 0 0 0 [some (.ref mo), some (.int (iI (d)))] [] _
  refine w_aload_n b dX9_toss_0 rfl rfl ?_
  refine w_iload_n b dX9_toss_1 rfl ?_
  refine c_V1 (w := .int (iI (lsF (F 35 d) d))) b dX9_toss_2 lmX9_229 (mp_obj _ _ _ _) (k_X9_lacksStep (by omega) h35) (tle rfl) (by omega) (by omega) (by omega) ?_
  refine z_if_eq (tgt := 14) b dX9_toss_5 (by decide) (by have := lsF_rng (F 35 d) d; omega) (fun c5 => ?_) (fun c5 => ?_)
  · have hd7 := lsF_0 hb
    refine w_aload_n b dX9_toss_14 rfl rfl ?_
    refine w_aload_n b dX9_toss_15 rfl rfl ?_
    refine m_get b dX9_toss_16 lfX9_116 rfl ?_
    refine w_iload_n b dX9_toss_19 rfl ?_
    refine m_ald b dX9_toss_20 rfl (by omega) rfl ?_
    refine c_V1 b dX9_toss_21 lmX9_148 (mp_obj _ _ _ _) (k_X9_hasNumber (by omega)) (tle rfl) (by omega) (by omega) (by omega) ?_
    refine z_ifb_eq (tgt := 36) b dX9_toss_24 (by decide) (fun c24 => ?_) (fun c24 => ?_)
    · refine z_bipush b dX9_toss_36 (by decide) ?_
      exact w_iret b dX9_toss_38 rfl (by omega) (by omega) ⟨iv_eq (by first | rfl | omega | ((try simp only [b2]); ((repeat' split) <;> (first | rfl | omega)))), rfl⟩
    · refine w_aload_n b dX9_toss_27 rfl rfl ?_
      refine m_get b dX9_toss_28 lfX9_119 rfl ?_
      refine w_iload_n b dX9_toss_31 rfl ?_
      refine m_ald b dX9_toss_32 rfl (by omega) rfl ?_
      refine w_goto (tgt := 38) b dX9_toss_33 (by decide) ?_
      exact w_iret b dX9_toss_38 rfl (by omega) (by omega) ⟨iv_eq (by first | rfl | omega | ((try simp only [b2]); ((repeat' split) <;> (first | rfl | omega)))), rfl⟩
  · exact absurd hb c5
