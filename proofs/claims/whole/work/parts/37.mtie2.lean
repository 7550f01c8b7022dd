/-! THE REFERENCE: tie, whole (by p37.py) -/
set_option maxRecDepth 20000 in
theorem k_X9_tieA {l0 : Launch} {g : Gw} {mo nx : Nat} {h0 : Nat → va_E} {I : Nat → Int} {F : Nat → Int → Int} {c : Int} (hci : inR c) (h2_ : 0 ≤ I 2 ∧ I 2 ≤ 12) (h21 : 0 ≤ I 21 ∧ I 21 ≤ 40) (h1_ : 4 ≤ I 1 ∧ I 1 ≤ 40) (h23 : ∀ j, 0 ≤ j → j < 1600 → 0 ≤ F 23 j ∧ F 23 j ≤ 7) (wf : wfC I F) (hc7 : col7 (F 7)) (hb : ¬ (0 ≤ c ∧ c ≤ I 2 - 1) ∨ lenM (F 3) (F 4) (F 5) (I 1) c < 0 ∨ ¬ lenM (F 3) (F 4) (F 5) (I 1) c = I 1 ∨ I 21 = 40) : MM l0 g 4 mX9_tie (mp mo h0 I F, nx) [.ref mo, .int (iI (c))] 0 0 (fun r σ' => r = some (.int (iI (if ¬ (0 ≤ c ∧ c ≤ I 2 - 1) then -1 else if lenM (F 3) (F 4) (F 5) (I 1) c < 0 then -6 else if ¬ lenM (F 3) (F 4) (F 5) (I 1) c = I 1 then -4 else -2))) ∧ ∃ (I' : Nat → Int) (F' : Nat → Int → Int), scr I F I' F' ∧ σ' = (mp mo h0 I' F', nx)) := by
  refine MM.of (by decide +kernel) (by simp [Value.category]) (tle rfl) (fun X b => ?_)
  change WW X g _ _ 0 0 0 [some (.ref mo), some (.int (iI (c))), none, none, none, none, none] [] _
  refine w_aload_n b dX9_tie_0 rfl rfl ?_
  refine w_iload_n b dX9_tie_1 rfl ?_
  refine c_V1 b dX9_tie_2 lmX9_165 (mp_obj _ _ _ _) (k_X9_isChant (by omega) h2_) (tle rfl) (by omega) (by omega) (by omega) ?_
  refine z_ifb_ne (tgt := 10) b dX9_tie_5 (by decide) (fun c5 => ?_) (fun c5 => ?_)
  · refine w_aload_n b dX9_tie_10 rfl rfl ?_
    refine w_iload_n b dX9_tie_11 rfl ?_
    cases hR : callR I F (F 7) c with
    | none =>
      refine w_callV (vs := [_]) b dX9_tie_12 lmX9_168 rfl rfl (mp_obj _ _ _ _) (tle rfl) (by omega) (by omega) (by omega) (k_call0 (c := c) (by omega) h2_ h21 h1_ h23 wf hc7 hR) (fun r9 σ9 hq9 => ?_)
      obtain ⟨rfl, a9, f9, e9, S9, T9, U9, V9, hc9, rfl⟩ := hq9
      refine w_istore_n b dX9_tie_15 (tlt rfl) rfl ?_
      refine w_iload_n b dX9_tie_16 rfl ?_
      refine z_if_ge (tgt := 23) b dX9_tie_17 (by decide) (by omega) (fun c17 => ?_) (fun c17 => ?_)
      · exfalso; omega
      · refine z_bipush b dX9_tie_20 (by decide) ?_
        exact w_iret b dX9_tie_22 rfl (by omega) (by omega) ⟨iv_eq (by rw [if_neg (by omega), callR_none hR]; rfl), _, _, ⟨_, _, _, _, _, _, _, hc9, rfl, rfl⟩, rfl⟩
    | some t =>
      refine w_callV (vs := [_]) b dX9_tie_12 lmX9_168 rfl rfl (mp_obj _ _ _ _) (tle rfl) (by omega) (by omega) (by omega) (k_call1 (c := c) (by omega) h2_ h21 h1_ h23 wf hc7 hR) (fun r9 σ9 hq9 => ?_)
      obtain ⟨rfl, ht9, hc9, S9, T9, U9, V9, rfl⟩ := hq9
      have hlen := callR_some hR
      refine w_istore_n b dX9_tie_15 (tlt rfl) rfl ?_
      refine w_iload_n b dX9_tie_16 rfl ?_
      refine z_if_ge (tgt := 23) b dX9_tie_17 (by decide) (by omega) (fun c17 => ?_) (fun c17 => ?_)
      · refine w_iload_n b dX9_tie_23 rfl ?_
        refine w_aload_n b dX9_tie_24 rfl rfl ?_
        refine m_get (v := .int (iI (I 1))) b dX9_tie_25 lfX9_134 rfl ?_
        refine z_icmp_eq (tgt := 34) b dX9_tie_28 (by decide) (by omega) (fun c28 => ?_) (fun c28 => ?_)
        · refine w_aload_n b dX9_tie_34 rfl rfl ?_
          refine m_get (v := .int (iI (I 21))) b dX9_tie_35 lfX9_71 rfl ?_
          refine z_bipush b dX9_tie_38 (by decide) ?_
          refine z_icmp_ne (tgt := 46) b dX9_tie_40 (by decide) (by omega) (fun c40 => ?_) (fun c40 => ?_)
          · exfalso; rcases hb with z | z | z | z <;> omega
          · refine z_bipush b dX9_tie_43 (by decide) ?_
            exact w_iret b dX9_tie_45 rfl (by omega) (by omega) ⟨iv_eq (by rw [if_neg (by omega), hlen, if_neg (by omega), if_neg (by omega)]), _, _, ⟨_, _, _, _, _, _, _, hc9, rfl, rfl⟩, rfl⟩
        · refine z_bipush b dX9_tie_31 (by decide) ?_
          exact w_iret b dX9_tie_33 rfl (by omega) (by omega) ⟨iv_eq (by rw [if_neg (by omega), hlen, if_neg (by omega), if_pos (by omega)]), _, _, ⟨_, _, _, _, _, _, _, hc9, rfl, rfl⟩, rfl⟩
      · exfalso; omega
  · refine z_iconst b dX9_tie_8 ?_
    exact w_iret b dX9_tie_9 rfl (by omega) (by omega) ⟨iv_eq (by rw [if_pos (by omega)]), _, _, scr_refl hc7, rfl⟩
theorem in7 {z : Int} (h : 0 ≤ z ∧ z ≤ 7) : inR z := ⟨by omega, by omega⟩
set_option maxRecDepth 20000 in
theorem k_X9_tieB {l0 : Launch} {g : Gw} {mo nx : Nat} {h0 : Nat → va_E} {I : Nat → Int} {F : Nat → Int → Int} {c : Int} (hc : 0 ≤ c ∧ c < I 2) (h2_ : 0 ≤ I 2 ∧ I 2 ≤ 12) (h21 : 0 ≤ I 21 ∧ I 21 ≤ 40) (h1_ : 4 ≤ I 1 ∧ I 1 ≤ 40) (h23 : ∀ j, 0 ≤ j → j < 1600 → 0 ≤ F 23 j ∧ F 23 j ≤ 7) (wf : wfC I F) (hc7 : col7 (F 7)) (h18 : ∀ c, 0 ≤ c → c ≤ 7 → 0 ≤ F 18 c ∧ F 18 c ≤ 10) (h20 : ∀ j, 0 ≤ j → j < 80 → 0 ≤ F 20 j ∧ F 20 j ≤ 1000) (h21b : I 21 < 40) {t : CS} (hR : callR I F (F 7) c = some t) (hw : t.1 = I 1) (hen : ¬ enF (I 1) t.2.1 (F 20) (F 18)) : MM l0 g 4 mX9_tie (mp mo h0 I F, nx) [.ref mo, .int (iI (c))] 0 0 (fun r σ' => r = some (.int (iI (-5))) ∧ ∃ (I' : Nat → Int) (F' : Nat → Int → Int), scr I F I' F' ∧ σ' = (mp mo h0 I' F', nx)) := by
  refine MM.of (by decide +kernel) (by simp [Value.category]) (tle rfl) (fun X b => ?_)
  change WW X g _ _ 0 0 0 [some (.ref mo), some (.int (iI (c))), none, none, none, none, none] [] _
  refine w_aload_n b dX9_tie_0 rfl rfl ?_
  refine w_iload_n b dX9_tie_1 rfl ?_
  refine c_V1 b dX9_tie_2 lmX9_165 (mp_obj _ _ _ _) (k_X9_isChant (by omega) h2_) (tle rfl) (by omega) (by omega) (by omega) ?_
  refine z_ifb_ne (tgt := 10) b dX9_tie_5 (by decide) (fun c5 => ?_) (fun c5 => ?_)
  · refine w_aload_n b dX9_tie_10 rfl rfl ?_
    refine w_iload_n b dX9_tie_11 rfl ?_
    refine w_callV (vs := [_]) b dX9_tie_12 lmX9_168 rfl rfl (mp_obj _ _ _ _) (tle rfl) (by omega) (by omega) (by omega) (k_call1 (c := c) hc h2_ h21 h1_ h23 wf hc7 hR) (fun r9 σ9 hq9 => ?_)
    obtain ⟨rfl, ht9, hc9, S9, T9, U9, V9, rfl⟩ := hq9
    refine w_istore_n b dX9_tie_15 (tlt rfl) rfl ?_
    refine w_iload_n b dX9_tie_16 rfl ?_
    refine z_if_ge (tgt := 23) b dX9_tie_17 (by decide) (by omega) (fun c17 => ?_) (fun c17 => ?_)
    · refine w_iload_n b dX9_tie_23 rfl ?_
      refine w_aload_n b dX9_tie_24 rfl rfl ?_
      refine m_get (v := .int (iI (I 1))) b dX9_tie_25 lfX9_134 rfl ?_
      refine z_icmp_eq (tgt := 34) b dX9_tie_28 (by decide) (by omega) (fun c28 => ?_) (fun c28 => ?_)
      · refine w_aload_n b dX9_tie_34 rfl rfl ?_
        refine m_get (v := .int (iI (I 21))) b dX9_tie_35 lfX9_71 rfl ?_
        refine z_bipush b dX9_tie_38 (by decide) ?_
        refine z_icmp_ne (tgt := 46) b dX9_tie_40 (by decide) (by omega) (fun c40 => ?_) (fun c40 => ?_)
        · refine w_aload_n b dX9_tie_46 rfl rfl ?_
          refine c_V0 (w := .int (iI (allA (fun c_1 => sumA (fun i => b2 (t.2.1 i = c_1)) (I 1).toNat 0 0 ≤ sumA (fun l => F 20 (10 * c_1 + l)) (F 18 c_1).toNat 0 0) 8 0 1))) b dX9_tie_47 lmX9_181 (mp_obj _ _ _ _) (k_X9_isEnough (I := va_up I 13 t.1) (F := cS F t.2.1 (endsR I F (F 7) c (F 8)) S9 T9 U9 V9) h1_ (fun j g1 g2 => in7 (hc9 j g1 g2)) h18 h20) (tle rfl) (by omega) (by omega) (by omega) ?_
          refine z_if_ne (tgt := 56) b dX9_tie_50 (by decide) (by have := allA_01 (fun c_1 => sumA (fun i => b2 (t.2.1 i = c_1)) (I 1).toNat 0 0 ≤ sumA (fun l => F 20 (10 * c_1 + l)) (F 18 c_1).toNat 0 0) 8 0 1 (Or.inr rfl); omega) (fun c50 => ?_) (fun c50 => ?_)
          · exact absurd ((allA_8 _).mpr hen) c50
          · refine z_bipush b dX9_tie_53 (by decide) ?_
            exact w_iret b dX9_tie_55 rfl (by omega) (by omega) ⟨iv_eq (by rfl), _, _, ⟨_, _, _, _, _, _, _, hc9, rfl, rfl⟩, rfl⟩
        · exfalso; omega
      · exfalso; omega
    · exfalso; omega
  · exfalso; omega
set_option maxRecDepth 20000 in
theorem k_X9_tieC {l0 : Launch} {g : Gw} {mo nx : Nat} {h0 : Nat → va_E} {I : Nat → Int} {F : Nat → Int → Int} {c : Int} (hc : 0 ≤ c ∧ c < I 2) (h2_ : 0 ≤ I 2 ∧ I 2 ≤ 12) (h21 : 0 ≤ I 21 ∧ I 21 ≤ 40) (h1_ : 4 ≤ I 1 ∧ I 1 ≤ 40) (h23 : ∀ j, 0 ≤ j → j < 1600 → 0 ≤ F 23 j ∧ F 23 j ≤ 7) (wf : wfC I F) (hc7 : col7 (F 7)) (h18 : ∀ c, 0 ≤ c → c ≤ 7 → 0 ≤ F 18 c ∧ F 18 c ≤ 10) (h20 : ∀ j, 0 ≤ j → j < 80 → 0 ≤ F 20 j ∧ F 20 j ≤ 1000) (h21b : I 21 < 40) {t : CS} (hR : callR I F (F 7) c = some t) (hw : t.1 = I 1) (h16 : ∀ j, 0 ≤ j → j ≤ 5 → 1 ≤ F 16 j ∧ F 16 j ≤ 40) (h17 : ∀ j, 0 ≤ j → j ≤ 5 → 1 ≤ F 17 j ∧ F 17 j ≤ 20) (hlz : lz (F 20) (F 18)) (hen : enF (I 1) t.2.1 (F 20) (F 18)) : MM l0 g 4 mX9_tie (mp mo h0 I F, nx) [.ref mo, .int (iI (c))] 0 0 (fun r σ' => r = some (.int (iI (I 21))) ∧ ∃ (S' T' U' V' : Int → Int), σ' = (mp mo h0 (va_up (va_up I 13 t.1) 21 (I 21 + 1)) (va_up (tS (cS F t.2.1 (endsR I F (F 7) c (F 8)) S' T' U' V') (lfF (F 20) t.2.1 (I 1)) (exF t.2.1 (40 * I 21) (I 1) (F 22)) (exF t.2.1 (40 * I 21) (I 1) (F 23)) (exF (sdF (F 20) (F 19) t.2.1) (40 * I 21) (I 1) (F 24)) (exF (stF (endsR I F (F 7) c (F 8))) (40 * I 21) (I 1) (F 25))) 26 (fu (F 26) (I 21) (mxA (mnF (F 16) (F 17) t.2.1 (I 1)) 6 0 0))), nx)) := by
  refine MM.of (by decide +kernel) (by simp [Value.category]) (tle rfl) (fun X b => ?_)
  change WW X g _ _ 0 0 0 [some (.ref mo), some (.int (iI (c))), none, none, none, none, none] [] _
  refine w_aload_n b dX9_tie_0 rfl rfl ?_
  refine w_iload_n b dX9_tie_1 rfl ?_
  refine c_V1 b dX9_tie_2 lmX9_165 (mp_obj _ _ _ _) (k_X9_isChant (by omega) h2_) (tle rfl) (by omega) (by omega) (by omega) ?_
  refine z_ifb_ne (tgt := 10) b dX9_tie_5 (by decide) (fun c5 => ?_) (fun c5 => ?_)
  · refine w_aload_n b dX9_tie_10 rfl rfl ?_
    refine w_iload_n b dX9_tie_11 rfl ?_
    refine w_callV (vs := [_]) b dX9_tie_12 lmX9_168 rfl rfl (mp_obj _ _ _ _) (tle rfl) (by omega) (by omega) (by omega) (k_call1 (c := c) hc h2_ h21 h1_ h23 wf hc7 hR) (fun r9 σ9 hq9 => ?_)
    obtain ⟨rfl, ht9, hc9, S9, T9, U9, V9, rfl⟩ := hq9
    have hend := endsR_spec (e := F 8) wf hc hR
    have hst := (wf c hc.1 hc.2).1
    have hst1 : 0 < F 3 c := by
      rcases Int.lt_or_le 0 (F 3 c) with z | z
      · exact z
      · have := hend.2.2 (by omega)
        omega
    have hsum : ∀ c_1, 0 ≤ c_1 → c_1 ≤ 7 → cntF t.2.1 c_1 (I 1) ≤ sumA (lotF (F 20) c_1) 10 0 0 := fun c_1 g1 g2 => by
      rw [← lz_sum hlz ⟨g1, g2⟩ (h18 c_1 g1 g2)]
      exact hen c_1 g1 g2
    refine w_istore_n b dX9_tie_15 (tlt rfl) rfl ?_
    refine w_iload_n b dX9_tie_16 rfl ?_
    refine z_if_ge (tgt := 23) b dX9_tie_17 (by decide) (by omega) (fun c17 => ?_) (fun c17 => ?_)
    · refine w_iload_n b dX9_tie_23 rfl ?_
      refine w_aload_n b dX9_tie_24 rfl rfl ?_
      refine m_get (v := .int (iI (I 1))) b dX9_tie_25 lfX9_134 rfl ?_
      refine z_icmp_eq (tgt := 34) b dX9_tie_28 (by decide) (by omega) (fun c28 => ?_) (fun c28 => ?_)
      · refine w_aload_n b dX9_tie_34 rfl rfl ?_
        refine m_get (v := .int (iI (I 21))) b dX9_tie_35 lfX9_71 rfl ?_
        refine z_bipush b dX9_tie_38 (by decide) ?_
        refine z_icmp_ne (tgt := 46) b dX9_tie_40 (by decide) (by omega) (fun c40 => ?_) (fun c40 => ?_)
        · refine w_aload_n b dX9_tie_46 rfl rfl ?_
          refine c_V0 (w := .int (iI (allA (fun c_1 => sumA (fun i => b2 (t.2.1 i = c_1)) (I 1).toNat 0 0 ≤ sumA (fun l => F 20 (10 * c_1 + l)) (F 18 c_1).toNat 0 0) 8 0 1))) b dX9_tie_47 lmX9_181 (mp_obj _ _ _ _) (k_X9_isEnough (I := va_up I 13 t.1) (F := cS F t.2.1 (endsR I F (F 7) c (F 8)) S9 T9 U9 V9) h1_ (fun j g1 g2 => in7 (hc9 j g1 g2)) h18 h20) (tle rfl) (by omega) (by omega) (by omega) ?_
          refine z_if_ne (tgt := 56) b dX9_tie_50 (by decide) (by have := allA_01 (fun c_1 => sumA (fun i => b2 (t.2.1 i = c_1)) (I 1).toNat 0 0 ≤ sumA (fun l => F 20 (10 * c_1 + l)) (F 18 c_1).toNat 0 0) 8 0 1 (Or.inr rfl); omega) (fun c50 => ?_) (fun c50 => ?_)
          · refine z_iconst b dX9_tie_56 ?_
            refine w_istore_n b dX9_tie_57 (tlt rfl) rfl ?_
            refine z_iconst b dX9_tie_58 ?_
            refine w_istore b dX9_tie_59 (tlt rfl) rfl ?_
            refine ww_forget 2 ?_
            refine l_tie1 (I := va_up I 13 t.1) (F := cS F t.2.1 (endsR I F (F 7) c (F 8)) S9 T9 U9 V9) b h1_ hc9 h16 h17 6 0 0 (by omega) (by omega) (by omega) ?_
            have hmx := mxA_rng (f := mnF (F 16) (F 17) t.2.1 (I 1)) 6 0 0 (fun j g1 g2 => mnF_rng (by omega) (h17 j (by omega) (by omega))) (by omega)
            refine z_iconst b dX9_tie_95 ?_
            refine w_istore b dX9_tie_96 (tlt rfl) rfl ?_
            refine z_iconst b dX9_tie_98 ?_
            refine w_istore b dX9_tie_99 (tlt rfl) rfl ?_
            refine ww_cast (σ' := (mp mo h0 (va_up I 13 t.1) (tS (cS F t.2.1 (endsR I F (F 7) c (F 8)) S9 T9 U9 V9) (lfF (F 20) t.2.1 0) (exF t.2.1 (40 * I 21) 0 (F 22)) (exF t.2.1 (40 * I 21) 0 (F 23)) (exF (sdF (F 20) (F 19) t.2.1) (40 * I 21) 0 (F 24)) (exF (stF (endsR I F (F 7) c (F 8))) (40 * I 21) 0 (F 25))), nx)) rfl rfl (by rw [lfF_0, exF_0, exF_0, exF_0, exF_0]; exact congrArg (fun z => (mp mo h0 (va_up I 13 t.1) z, nx)) (tS_self _).symm) ?_
            refine l_tie3 (I := va_up I 13 t.1) (F := cS F t.2.1 (endsR I F (F 7) c (F 8)) S9 T9 U9 V9) b h1_ (by show 0 ≤ I 21 ∧ I 21 < 40; omega) hc9 h20 hsum (nst := F 3 c) (by omega) (fun j g1 g2 => by have := hend.1 j g1 g2; exact ⟨this.1, Int.le_trans this.2 (by omega)⟩) (fun i g1 g2 => ⟨F 3 c - 1, by omega, by omega, by show i < endsR I F (F 7) c (F 8) (F 3 c - 1); rw [hend.2.1 hst1, hw]; exact g2⟩) (I 1).toNat 0 0 (by show (0 : Int) + _ = I 1; omega) (by omega) (by omega) (fun j g1 g2 => by omega) ?_
            refine w_aload_n b dX9_tie_201 rfl rfl ?_
            refine m_get b dX9_tie_202 lfX9_86 rfl ?_
            refine w_aload_n b dX9_tie_205 rfl rfl ?_
            refine m_get (v := .int (iI (I 21))) b dX9_tie_206 lfX9_71 rfl ?_
            refine w_iload_n b dX9_tie_209 rfl ?_
            refine m_ast b dX9_tie_210 rfl (by omega) ?_
            refine w_aload_n b dX9_tie_211 rfl rfl ?_
            refine w_dup b dX9_tie_212 rfl ?_
            refine m_get (v := .int (iI (I 21))) b dX9_tie_213 lfX9_71 rfl ?_
            refine z_iconst b dX9_tie_216 ?_
            refine z_iadd b dX9_tie_217 ?_
            refine m_put b dX9_tie_218 lfX9_71 gtX9_21 (tlt rfl) rfl ?_
            refine w_aload_n b dX9_tie_221 rfl rfl ?_
            refine m_get (v := .int (iI (I 21 + 1))) b dX9_tie_222 lfX9_71 rfl ?_
            refine z_iconst b dX9_tie_225 ?_
            refine z_isub b dX9_tie_226 ?_
            exact w_iret b dX9_tie_227 rfl (by omega) (by omega) ⟨iv_eq (by omega), S9, T9, U9, V9, rfl⟩
          · exact absurd hen ((allA_8 _).mp c50)
        · exfalso; omega
      · exfalso; omega
    · exfalso; omega
  · exfalso; omega
