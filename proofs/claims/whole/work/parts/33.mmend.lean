/-! THE REFERENCE: length, colour, closes, told, mends (by p33.py) -/
set_option maxRecDepth 20000 in
theorem k_X9_length {l0 : Launch} {g : Gw} {mo nx : Nat} {h0 : Nat → va_E} {I : Nat → Int} {F : Nat → Int → Int} {c : Int} (hci : inR c) (h2_ : 0 ≤ I 2 ∧ I 2 ≤ 12) (h21 : 0 ≤ I 21 ∧ I 21 ≤ 40) (h1_ : 4 ≤ I 1 ∧ I 1 ≤ 40) (h23 : ∀ j, 0 ≤ j → j < 1600 → 0 ≤ F 23 j ∧ F 23 j ≤ 7) (wf : wfC I F) (hc7 : col7 (F 7)) : MM l0 g 4 mX9_length (mp mo h0 I F, nx) [.ref mo, .int (iI (c))] 0 0 (fun r σ' => r = some (.int (iI (if 0 ≤ c ∧ c ≤ I 2 - 1 then lenM (F 3) (F 4) (F 5) (I 1) c else -1))) ∧ ∃ (I' : Nat → Int) (F' : Nat → Int → Int), scr I F I' F' ∧ σ' = (mp mo h0 I' F', nx)) := by
  refine MM.of (by decide +kernel) (by simp [Value.category]) (tle rfl) (fun X b => ?_)
  change WW X g _ _ 0 0 0 [some (.ref mo), some (.int (iI (c)))] [] _
  refine w_aload_n b dX9_length_0 rfl rfl ?_
  refine w_iload_n b dX9_length_1 rfl ?_
  refine c_V1 b dX9_length_2 lmX9_165 (mp_obj _ _ _ _) (k_X9_isChant (by omega) h2_) (tle rfl) (by omega) (by omega) (by omega) ?_
  refine z_ifb_eq (tgt := 16) b dX9_length_5 (by decide) (fun c5 => ?_) (fun c5 => ?_)
  · refine z_iconst b dX9_length_16 ?_
    exact w_iret b dX9_length_17 rfl (by omega) (by omega) ⟨iv_eq (by rw [if_neg c5]), _, _, scr_refl hc7, rfl⟩
  · refine w_aload_n b dX9_length_8 rfl rfl ?_
    refine w_iload_n b dX9_length_9 rfl ?_
    cases hR : callR I F (F 7) c with
    | none =>
      refine w_callV (vs := [_]) b dX9_length_10 lmX9_168 rfl rfl (mp_obj _ _ _ _) (tle rfl) (by omega) (by omega) (by omega) (k_call0 (c := c) (by omega) h2_ h21 h1_ h23 wf hc7 hR) (fun r9 σ9 hq9 => ?_)
      obtain ⟨rfl, a9, f9, e9, S9, T9, U9, V9, hc9, rfl⟩ := hq9
      refine w_goto (tgt := 17) b dX9_length_13 (by decide) ?_
      exact w_iret b dX9_length_17 rfl (by omega) (by omega) ⟨iv_eq (by rw [if_pos c5, callR_none hR]), _, _, ⟨_, _, _, _, _, _, _, hc9, rfl, rfl⟩, rfl⟩
    | some t =>
      refine w_callV (vs := [_]) b dX9_length_10 lmX9_168 rfl rfl (mp_obj _ _ _ _) (tle rfl) (by omega) (by omega) (by omega) (k_call1 (c := c) (by omega) h2_ h21 h1_ h23 wf hc7 hR) (fun r9 σ9 hq9 => ?_)
      obtain ⟨rfl, ht9, hc9, S9, T9, U9, V9, rfl⟩ := hq9
      have hlen := callR_some hR
      refine w_goto (tgt := 17) b dX9_length_13 (by decide) ?_
      exact w_iret b dX9_length_17 rfl (by omega) (by omega) ⟨iv_eq (by rw [if_pos c5, hlen]), _, _, ⟨_, _, _, _, _, _, _, hc9, rfl, rfl⟩, rfl⟩
set_option maxRecDepth 20000 in
theorem k_X9_closes {l0 : Launch} {g : Gw} {mo nx : Nat} {h0 : Nat → va_E} {I : Nat → Int} {F : Nat → Int → Int} {c : Int} (hci : inR c) (h2_ : 0 ≤ I 2 ∧ I 2 ≤ 12) (h21 : 0 ≤ I 21 ∧ I 21 ≤ 40) (h1_ : 4 ≤ I 1 ∧ I 1 ≤ 40) (h23 : ∀ j, 0 ≤ j → j < 1600 → 0 ≤ F 23 j ∧ F 23 j ≤ 7) (wf : wfC I F) (hc7 : col7 (F 7)) : MM l0 g 4 mX9_closes (mp mo h0 I F, nx) [.ref mo, .int (iI (c))] 0 0 (fun r σ' => r = some (.int (iI (if 0 ≤ c ∧ c ≤ I 2 - 1 then (if lenM (F 3) (F 4) (F 5) (I 1) c < 0 then -6 else b2 (lenM (F 3) (F 4) (F 5) (I 1) c = I 1)) else -1))) ∧ ∃ (I' : Nat → Int) (F' : Nat → Int → Int), scr I F I' F' ∧ σ' = (mp mo h0 I' F', nx)) := by
  refine MM.of (by decide +kernel) (by simp [Value.category]) (tle rfl) (fun X b => ?_)
  change WW X g _ _ 0 0 0 [some (.ref mo), some (.int (iI (c))), none] [] _
  refine w_aload_n b dX9_closes_0 rfl rfl ?_
  refine w_iload_n b dX9_closes_1 rfl ?_
  refine c_V1 b dX9_closes_2 lmX9_165 (mp_obj _ _ _ _) (k_X9_isChant (by omega) h2_) (tle rfl) (by omega) (by omega) (by omega) ?_
  refine z_ifb_ne (tgt := 10) b dX9_closes_5 (by decide) (fun c5 => ?_) (fun c5 => ?_)
  · refine w_aload_n b dX9_closes_10 rfl rfl ?_
    refine w_iload_n b dX9_closes_11 rfl ?_
    cases hR : callR I F (F 7) c with
    | none =>
      refine w_callV (vs := [_]) b dX9_closes_12 lmX9_168 rfl rfl (mp_obj _ _ _ _) (tle rfl) (by omega) (by omega) (by omega) (k_call0 (c := c) (by omega) h2_ h21 h1_ h23 wf hc7 hR) (fun r9 σ9 hq9 => ?_)
      obtain ⟨rfl, a9, f9, e9, S9, T9, U9, V9, hc9, rfl⟩ := hq9
      refine w_istore_n b dX9_closes_15 (tlt rfl) rfl ?_
      refine w_iload_n b dX9_closes_16 rfl ?_
      refine z_if_ge (tgt := 25) b dX9_closes_17 (by decide) (by omega) (fun c17 => ?_) (fun c17 => ?_)
      · exfalso; omega
      · refine z_bipush b dX9_closes_20 (by decide) ?_
        refine w_goto (tgt := 38) b dX9_closes_22 (by decide) ?_
        exact w_iret b dX9_closes_38 rfl (by omega) (by omega) ⟨iv_eq (by rw [if_pos c5, callR_none hR]; rfl), _, _, ⟨_, _, _, _, _, _, _, hc9, rfl, rfl⟩, rfl⟩
    | some t =>
      refine w_callV (vs := [_]) b dX9_closes_12 lmX9_168 rfl rfl (mp_obj _ _ _ _) (tle rfl) (by omega) (by omega) (by omega) (k_call1 (c := c) (by omega) h2_ h21 h1_ h23 wf hc7 hR) (fun r9 σ9 hq9 => ?_)
      obtain ⟨rfl, ht9, hc9, S9, T9, U9, V9, rfl⟩ := hq9
      have hlen := callR_some hR
      refine w_istore_n b dX9_closes_15 (tlt rfl) rfl ?_
      refine w_iload_n b dX9_closes_16 rfl ?_
      refine z_if_ge (tgt := 25) b dX9_closes_17 (by decide) (by omega) (fun c17 => ?_) (fun c17 => ?_)
      · refine w_iload_n b dX9_closes_25 rfl ?_
        refine w_aload_n b dX9_closes_26 rfl rfl ?_
        refine m_get (v := .int (iI (I 1))) b dX9_closes_27 lfX9_134 rfl ?_
        refine z_icmp_ne (tgt := 37) b dX9_closes_30 (by decide) (by omega) (fun c30 => ?_) (fun c30 => ?_)
        · refine z_iconst b dX9_closes_37 ?_
          exact w_iret b dX9_closes_38 rfl (by omega) (by omega) ⟨iv_eq (by rw [if_pos c5, hlen, if_neg (by omega)]; first | (rw [b2_t c30]) | (rw [b2_f c30])), _, _, ⟨_, _, _, _, _, _, _, hc9, rfl, rfl⟩, rfl⟩
        · refine z_iconst b dX9_closes_33 ?_
          refine w_goto (tgt := 38) b dX9_closes_34 (by decide) ?_
          exact w_iret b dX9_closes_38 rfl (by omega) (by omega) ⟨iv_eq (by rw [if_pos c5, hlen, if_neg (by omega)]; first | (rw [b2_t c30]) | (rw [b2_f c30])), _, _, ⟨_, _, _, _, _, _, _, hc9, rfl, rfl⟩, rfl⟩
      · exfalso; omega
  · refine z_iconst b dX9_closes_8 ?_
    exact w_iret b dX9_closes_9 rfl (by omega) (by omega) ⟨iv_eq (by rw [if_neg c5]), _, _, scr_refl hc7, rfl⟩
set_option maxRecDepth 20000 in
theorem k_X9_colour {l0 : Launch} {g : Gw} {mo nx : Nat} {h0 : Nat → va_E} {I : Nat → Int} {F : Nat → Int → Int} {c i : Int} (hci : inR c) (hi : inR i) (h2_ : 0 ≤ I 2 ∧ I 2 ≤ 12) (h21 : 0 ≤ I 21 ∧ I 21 ≤ 40) (h1_ : 4 ≤ I 1 ∧ I 1 ≤ 40) (h23 : ∀ j, 0 ≤ j → j < 1600 → 0 ≤ F 23 j ∧ F 23 j ≤ 7) (wf : wfC I F) (hc7 : col7 (F 7)) : MM l0 g 4 mX9_colour (mp mo h0 I F, nx) [.ref mo, .int (iI (c)), .int (iI (i))] 0 0 (fun r σ' => r = some (.int (iI (if 0 ≤ c ∧ c ≤ I 2 - 1 then (match callR I F (F 7) c with | none => -6 | some t => (if 0 ≤ i ∧ i ≤ t.1 - 1 then t.2.1 i else -4)) else -1))) ∧ ∃ (I' : Nat → Int) (F' : Nat → Int → Int), scr I F I' F' ∧ σ' = (mp mo h0 I' F', nx)) := by
  refine MM.of (by decide +kernel) (by simp [Value.category]) (tle rfl) (fun X b => ?_)
  change WW X g _ _ 0 0 0 [some (.ref mo), some (.int (iI (c))), some (.int (iI (i))), none] [] _
  refine w_aload_n b dX9_colour_0 rfl rfl ?_
  refine w_iload_n b dX9_colour_1 rfl ?_
  refine c_V1 b dX9_colour_2 lmX9_165 (mp_obj _ _ _ _) (k_X9_isChant (by omega) h2_) (tle rfl) (by omega) (by omega) (by omega) ?_
  refine z_ifb_ne (tgt := 10) b dX9_colour_5 (by decide) (fun c5 => ?_) (fun c5 => ?_)
  · refine w_aload_n b dX9_colour_10 rfl rfl ?_
    refine w_iload_n b dX9_colour_11 rfl ?_
    cases hR : callR I F (F 7) c with
    | none =>
      refine w_callV (vs := [_]) b dX9_colour_12 lmX9_168 rfl rfl (mp_obj _ _ _ _) (tle rfl) (by omega) (by omega) (by omega) (k_call0 (c := c) (by omega) h2_ h21 h1_ h23 wf hc7 hR) (fun r9 σ9 hq9 => ?_)
      obtain ⟨rfl, a9, f9, e9, S9, T9, U9, V9, hc9, rfl⟩ := hq9
      refine w_istore_n b dX9_colour_15 (tlt rfl) rfl ?_
      refine w_iload_n b dX9_colour_16 rfl ?_
      refine z_if_ge (tgt := 25) b dX9_colour_17 (by decide) (by omega) (fun c17 => ?_) (fun c17 => ?_)
      · exfalso; omega
      · refine z_bipush b dX9_colour_20 (by decide) ?_
        refine w_goto (tgt := 48) b dX9_colour_22 (by decide) ?_
        exact w_iret b dX9_colour_48 rfl (by omega) (by omega) ⟨iv_eq (by rw [if_pos c5]), _, _, ⟨_, _, _, _, _, _, _, hc9, rfl, rfl⟩, rfl⟩
    | some t =>
      refine w_callV (vs := [_]) b dX9_colour_12 lmX9_168 rfl rfl (mp_obj _ _ _ _) (tle rfl) (by omega) (by omega) (by omega) (k_call1 (c := c) (by omega) h2_ h21 h1_ h23 wf hc7 hR) (fun r9 σ9 hq9 => ?_)
      obtain ⟨rfl, ht9, hc9, S9, T9, U9, V9, rfl⟩ := hq9
      have hlen := callR_some hR
      refine w_istore_n b dX9_colour_15 (tlt rfl) rfl ?_
      refine w_iload_n b dX9_colour_16 rfl ?_
      refine z_if_ge (tgt := 25) b dX9_colour_17 (by decide) (by omega) (fun c17 => ?_) (fun c17 => ?_)
      · refine w_aload_n b dX9_colour_25 rfl rfl ?_
        refine w_iload_n b dX9_colour_26 rfl ?_
        refine z_iconst b dX9_colour_27 ?_
        refine w_iload_n b dX9_colour_28 rfl ?_
        refine z_iconst b dX9_colour_29 ?_
        refine z_isub b dX9_colour_30 ?_
        refine c_V3 b dX9_colour_31 lmX9_137 (mp_obj _ _ _ _) (k_X9_in (by omega) (by omega) (by omega)) (tle rfl) (by omega) (by omega) (by omega) ?_
        refine z_ifb_eq (tgt := 46) b dX9_colour_34 (by decide) (fun c34 => ?_) (fun c34 => ?_)
        · refine z_bipush b dX9_colour_46 (by decide) ?_
          exact w_iret b dX9_colour_48 rfl (by omega) (by omega) ⟨iv_eq (by rw [if_pos c5]; first | (show _ = if _ then _ else _; rw [if_pos c34]) | (show _ = if _ then _ else _; rw [if_neg c34])), _, _, ⟨_, _, _, _, _, _, _, hc9, rfl, rfl⟩, rfl⟩
        · refine w_aload_n b dX9_colour_37 rfl rfl ?_
          refine m_get b dX9_colour_38 lfX9_29 rfl ?_
          refine w_iload_n b dX9_colour_41 rfl ?_
          refine m_ald (v := t.2.1 i) b dX9_colour_42 rfl (by omega) rfl ?_
          refine w_goto (tgt := 48) b dX9_colour_43 (by decide) ?_
          exact w_iret b dX9_colour_48 rfl (by omega) (by omega) ⟨iv_eq (by rw [if_pos c5]; first | (show _ = if _ then _ else _; rw [if_pos c34]) | (show _ = if _ then _ else _; rw [if_neg c34])), _, _, ⟨_, _, _, _, _, _, _, hc9, rfl, rfl⟩, rfl⟩
      · exfalso; omega
  · refine z_iconst b dX9_colour_8 ?_
    exact w_iret b dX9_colour_9 rfl (by omega) (by omega) ⟨iv_eq (by rw [if_neg c5]), _, _, scr_refl hc7, rfl⟩
set_option maxRecDepth 20000 in
theorem k_X9_told0 {l0 : Launch} {g : Gw} {mo nx : Nat} {h0 : Nat → va_E} {I : Nat → Int} {F : Nat → Int → Int} {c s k : Int} (hci : inR c) (hs : inR s) (hk : inR k) (h2_ : 0 ≤ I 2 ∧ I 2 ≤ 12) (h3_ : ∀ j, 0 ≤ j → j < I 2 → 0 ≤ F 3 j ∧ F 3 j ≤ 12) (hb : ¬ (((0 ≤ c ∧ c ≤ I 2 - 1) ∧ (0 ≤ s ∧ s ≤ F 3 c - 1)) ∧ (0 ≤ k ∧ k ≤ 3))) : MD l0 g 2 mX9_told (mp mo h0 I F, nx) [.ref mo, .int (iI (c)), .int (iI (s)), .int (iI (k))] 0 0 (some (.int (iI (-1)))) (mp mo h0 I F, nx) := by
  refine MD.of (by decide +kernel) (by simp [Value.category]) (tle rfl) (fun X b => ?_)
  change WW X g _ _ 0 0 0 [some (.ref mo), some (.int (iI (c))), some (.int (iI (s))), some (.int (iI (k))), none, none] [] _
  refine w_aload_n b dX9_told_0 rfl rfl ?_
  refine w_iload_n b dX9_told_1 rfl ?_
  refine c_V1 b dX9_told_2 lmX9_165 (mp_obj _ _ _ _) (k_X9_isChant (by omega) h2_) (tle rfl) (by omega) (by omega) (by omega) ?_
  refine z_ifb_eq (tgt := 35) b dX9_told_5 (by decide) (fun c5 => ?_) (fun c5 => ?_)
  · refine z_iconst b dX9_told_35 ?_
    exact w_iret b dX9_told_36 rfl (by omega) (by omega) ⟨iv_eq (by first | rfl | omega | ((try simp only [b2]); ((repeat' split) <;> (first | rfl | omega)))), rfl⟩
  · refine w_aload_n b dX9_told_8 rfl rfl ?_
    refine w_iload_n b dX9_told_9 rfl ?_
    refine z_iconst b dX9_told_10 ?_
    refine w_aload_n b dX9_told_11 rfl rfl ?_
    refine m_get b dX9_told_12 lfX9_16 rfl ?_
    refine w_iload_n b dX9_told_15 rfl ?_
    refine m_ald b dX9_told_16 rfl (by omega) rfl ?_
    refine z_iconst b dX9_told_17 ?_
    refine z_isub b dX9_told_18 ?_
    refine c_V3 b dX9_told_19 lmX9_137 (mp_obj _ _ _ _) (k_X9_in (by omega) (by omega) (by have := h3_ c (by omega) (by omega); omega)) (tle rfl) (by omega) (by omega) (by omega) ?_
    refine z_ifb_eq (tgt := 35) b dX9_told_22 (by decide) (fun c22 => ?_) (fun c22 => ?_)
    · refine z_iconst b dX9_told_35 ?_
      exact w_iret b dX9_told_36 rfl (by omega) (by omega) ⟨iv_eq (by first | rfl | omega | ((try simp only [b2]); ((repeat' split) <;> (first | rfl | omega)))), rfl⟩
    · refine w_aload_n b dX9_told_25 rfl rfl ?_
      refine w_iload_n b dX9_told_26 rfl ?_
      refine z_iconst b dX9_told_27 ?_
      refine z_iconst b dX9_told_28 ?_
      refine c_V3 b dX9_told_29 lmX9_137 (mp_obj _ _ _ _) (k_X9_in (by omega) (by omega) (by omega)) (tle rfl) (by omega) (by omega) (by omega) ?_
      refine z_ifb_ne (tgt := 37) b dX9_told_32 (by decide) (fun c32 => ?_) (fun c32 => ?_)
      · exfalso; omega
      · refine z_iconst b dX9_told_35 ?_
        exact w_iret b dX9_told_36 rfl (by omega) (by omega) ⟨iv_eq (by first | rfl | omega | ((try simp only [b2]); ((repeat' split) <;> (first | rfl | omega)))), rfl⟩
set_option maxRecDepth 20000 in
theorem k_X9_told1 {l0 : Launch} {g : Gw} {mo nx : Nat} {h0 : Nat → va_E} {I : Nat → Int} {F : Nat → Int → Int} {c s k : Int} (hok : (0 ≤ c ∧ c ≤ I 2 - 1) ∧ (0 ≤ s ∧ s ≤ F 3 c - 1)) (hk : 0 ≤ k ∧ k ≤ 2) (h2_ : 0 ≤ I 2 ∧ I 2 ≤ 12) (h3_ : ∀ j, 0 ≤ j → j < I 2 → 0 ≤ F 3 j ∧ F 3 j ≤ 12) (h4 : 0 ≤ F 4 (12 * c + s) ∧ F 4 (12 * c + s) ≤ 5) : MD l0 g 2 mX9_told (mp mo h0 I F, nx) [.ref mo, .int (iI (c)), .int (iI (s)), .int (iI (k))] 0 0 (some (.int (iI (if k = 0 then F 4 (12 * c + s) else if k = 1 then (if F 4 (12 * c + s) = 0 ∨ (3 ≤ F 4 (12 * c + s) ∧ F 4 (12 * c + s) ≤ 5) then F 5 (12 * c + s) else -2) else (if F 4 (12 * c + s) = 0 ∨ F 4 (12 * c + s) = 1 then F 6 (12 * c + s) else -2))))) (mp mo h0 I F, nx) := by
  refine MD.of (by decide +kernel) (by simp [Value.category]) (tle rfl) (fun X b => ?_)
  change WW X g _ _ 0 0 0 [some (.ref mo), some (.int (iI (c))), some (.int (iI (s))), some (.int (iI (k))), none, none] [] _
  refine w_aload_n b dX9_told_0 rfl rfl ?_
  refine w_iload_n b dX9_told_1 rfl ?_
  refine c_V1 b dX9_told_2 lmX9_165 (mp_obj _ _ _ _) (k_X9_isChant (by omega) h2_) (tle rfl) (by omega) (by omega) (by omega) ?_
  refine z_ifb_eq (tgt := 35) b dX9_told_5 (by decide) (fun c5 => ?_) (fun c5 => ?_)
  · exfalso; omega
  · refine w_aload_n b dX9_told_8 rfl rfl ?_
    refine w_iload_n b dX9_told_9 rfl ?_
    refine z_iconst b dX9_told_10 ?_
    refine w_aload_n b dX9_told_11 rfl rfl ?_
    have h3c := h3_ c (by omega) (by omega)
    refine m_get b dX9_told_12 lfX9_16 rfl ?_
    refine w_iload_n b dX9_told_15 rfl ?_
    refine m_ald (v := F 3 c) b dX9_told_16 rfl (by omega) rfl ?_
    refine z_iconst b dX9_told_17 ?_
    refine z_isub b dX9_told_18 ?_
    refine c_V3 b dX9_told_19 lmX9_137 (mp_obj _ _ _ _) (k_X9_in (by omega) (by omega) (by have := h3_ c (by omega) (by omega); omega)) (tle rfl) (by omega) (by omega) (by omega) ?_
    refine z_ifb_eq (tgt := 35) b dX9_told_22 (by decide) (fun c22 => ?_) (fun c22 => ?_)
    · exfalso; omega
    · refine w_aload_n b dX9_told_25 rfl rfl ?_
      refine w_iload_n b dX9_told_26 rfl ?_
      refine z_iconst b dX9_told_27 ?_
      refine z_iconst b dX9_told_28 ?_
      refine c_V3 b dX9_told_29 lmX9_137 (mp_obj _ _ _ _) (k_X9_in (by omega) (by omega) (by omega)) (tle rfl) (by omega) (by omega) (by omega) ?_
      refine z_ifb_ne (tgt := 37) b dX9_told_32 (by decide) (fun c32 => ?_) (fun c32 => ?_)
      · refine z_bipush b dX9_told_37 (by decide) ?_
        refine w_iload_n b dX9_told_39 rfl ?_
        refine z_imul b dX9_told_40 ?_
        refine w_iload_n b dX9_told_41 rfl ?_
        refine z_iadd b dX9_told_42 ?_
        refine w_istore b dX9_told_43 (tlt rfl) rfl ?_
        refine w_aload_n b dX9_told_45 rfl rfl ?_
        refine m_get b dX9_told_46 lfX9_20 rfl ?_
        refine w_iload b dX9_told_49 rfl ?_
        refine m_ald b dX9_told_51 rfl (by omega) rfl ?_
        refine w_istore b dX9_told_52 (tlt rfl) rfl ?_
        refine w_iload_n b dX9_told_54 rfl ?_
        refine z_iconst b dX9_told_55 ?_
        refine z_icmp_ne (tgt := 79) b dX9_told_56 (by decide) (by omega) (fun c56 => ?_) (fun c56 => ?_)
        · refine w_iload_n b dX9_told_79 rfl ?_
          refine z_if_ne (tgt := 88) b dX9_told_80 (by decide) (by omega) (fun c80 => ?_) (fun c80 => ?_)
          · refine w_iload_n b dX9_told_88 rfl ?_
            refine z_iconst b dX9_told_89 ?_
            refine z_icmp_ne (tgt := 117) b dX9_told_90 (by decide) (by omega) (fun c90 => ?_) (fun c90 => ?_)
            · refine w_aload_n b dX9_told_117 rfl rfl ?_
              refine w_iload b dX9_told_118 rfl ?_
              refine c_V1 b dX9_told_120 lmX9_141 (mp_obj _ _ _ _) (k_X9_hasColour (by omega)) (tle rfl) (by omega) (by omega) (by omega) ?_
              refine z_ifb_eq (tgt := 136) b dX9_told_123 (by decide) (fun c123 => ?_) (fun c123 => ?_)
              · refine z_bipush b dX9_told_136 (by decide) ?_
                exact w_iret b dX9_told_138 rfl (by omega) (by omega) ⟨iv_eq (by first | rfl | omega | ((try simp only [b2]); ((repeat' split) <;> (first | rfl | omega)))), rfl⟩
              · refine w_aload_n b dX9_told_126 rfl rfl ?_
                refine m_get b dX9_told_127 lfX9_26 rfl ?_
                refine w_iload b dX9_told_130 rfl ?_
                refine m_ald b dX9_told_132 rfl (by omega) rfl ?_
                refine w_goto (tgt := 138) b dX9_told_133 (by decide) ?_
                exact w_iret b dX9_told_138 rfl (by omega) (by omega) ⟨iv_eq (by first | rfl | omega | ((try simp only [b2]); ((repeat' split) <;> (first | rfl | omega)))), rfl⟩
            · refine w_aload_n b dX9_told_93 rfl rfl ?_
              refine w_iload b dX9_told_94 rfl ?_
              refine c_V1 b dX9_told_96 lmX9_148 (mp_obj _ _ _ _) (k_X9_hasNumber (by omega)) (tle rfl) (by omega) (by omega) (by omega) ?_
              refine z_ifb_eq (tgt := 112) b dX9_told_99 (by decide) (fun c99 => ?_) (fun c99 => ?_)
              · refine z_bipush b dX9_told_112 (by decide) ?_
                refine w_goto (tgt := 138) b dX9_told_114 (by decide) ?_
                exact w_iret b dX9_told_138 rfl (by omega) (by omega) ⟨iv_eq (by first | rfl | omega | ((try simp only [b2]); ((repeat' split) <;> (first | rfl | omega)))), rfl⟩
              · refine w_aload_n b dX9_told_102 rfl rfl ?_
                refine m_get b dX9_told_103 lfX9_23 rfl ?_
                refine w_iload b dX9_told_106 rfl ?_
                refine m_ald b dX9_told_108 rfl (by omega) rfl ?_
                refine w_goto (tgt := 138) b dX9_told_109 (by decide) ?_
                exact w_iret b dX9_told_138 rfl (by omega) (by omega) ⟨iv_eq (by first | rfl | omega | ((try simp only [b2]); ((repeat' split) <;> (first | rfl | omega)))), rfl⟩
          · refine w_iload b dX9_told_83 rfl ?_
            refine w_goto (tgt := 138) b dX9_told_85 (by decide) ?_
            exact w_iret b dX9_told_138 rfl (by omega) (by omega) ⟨iv_eq (by first | rfl | omega | ((try simp only [b2]); ((repeat' split) <;> (first | rfl | omega)))), rfl⟩
        · exfalso; omega
      · exfalso; omega
set_option maxRecDepth 20000 in
theorem k_X9_told3 {l0 : Launch} {g : Gw} {mo nx : Nat} {h0 : Nat → va_E} {I : Nat → Int} {F : Nat → Int → Int} {c s : Int} (hok : (0 ≤ c ∧ c ≤ I 2 - 1) ∧ (0 ≤ s ∧ s ≤ F 3 c - 1)) (h2_ : 0 ≤ I 2 ∧ I 2 ≤ 12) (h21 : 0 ≤ I 21 ∧ I 21 ≤ 40) (h1_ : 4 ≤ I 1 ∧ I 1 ≤ 40) (h23 : ∀ j, 0 ≤ j → j < 1600 → 0 ≤ F 23 j ∧ F 23 j ≤ 7) (wf : wfC I F) (hc7 : col7 (F 7)) : MM l0 g 4 mX9_told (mp mo h0 I F, nx) [.ref mo, .int (iI (c)), .int (iI (s)), .int (iI (3))] 0 0 (fun r σ' => r = some (.int (iI (match callR I F (F 7) c with | none => -6 | some _ => endsR I F (F 7) c (F 8) s))) ∧ ∃ (I' : Nat → Int) (F' : Nat → Int → Int), scr I F I' F' ∧ σ' = (mp mo h0 I' F', nx)) := by
  refine MM.of (by decide +kernel) (by simp [Value.category]) (tle rfl) (fun X b => ?_)
  change WW X g _ _ 0 0 0 [some (.ref mo), some (.int (iI (c))), some (.int (iI (s))), some (.int (iI (3))), none, none] [] _
  refine w_aload_n b dX9_told_0 rfl rfl ?_
  refine w_iload_n b dX9_told_1 rfl ?_
  refine c_V1 b dX9_told_2 lmX9_165 (mp_obj _ _ _ _) (k_X9_isChant (by omega) h2_) (tle rfl) (by omega) (by omega) (by omega) ?_
  refine z_ifb_eq (tgt := 35) b dX9_told_5 (by decide) (fun c5 => ?_) (fun c5 => ?_)
  · exfalso; omega
  · refine w_aload_n b dX9_told_8 rfl rfl ?_
    refine w_iload_n b dX9_told_9 rfl ?_
    refine z_iconst b dX9_told_10 ?_
    refine w_aload_n b dX9_told_11 rfl rfl ?_
    have h3c := (wf c (by omega) (by omega)).1
    refine m_get b dX9_told_12 lfX9_16 rfl ?_
    refine w_iload_n b dX9_told_15 rfl ?_
    refine m_ald b dX9_told_16 rfl (by omega) rfl ?_
    refine z_iconst b dX9_told_17 ?_
    refine z_isub b dX9_told_18 ?_
    refine c_V3 b dX9_told_19 lmX9_137 (mp_obj _ _ _ _) (k_X9_in (by omega) (by omega) (by omega)) (tle rfl) (by omega) (by omega) (by omega) ?_
    refine z_ifb_eq (tgt := 35) b dX9_told_22 (by decide) (fun c22 => ?_) (fun c22 => ?_)
    · exfalso; omega
    · refine w_aload_n b dX9_told_25 rfl rfl ?_
      refine w_iload_n b dX9_told_26 rfl ?_
      refine z_iconst b dX9_told_27 ?_
      refine z_iconst b dX9_told_28 ?_
      refine c_V3 b dX9_told_29 lmX9_137 (mp_obj _ _ _ _) (k_X9_in (by omega) (by omega) (by omega)) (tle rfl) (by omega) (by omega) (by omega) ?_
      refine z_ifb_ne (tgt := 37) b dX9_told_32 (by decide) (fun c32 => ?_) (fun c32 => ?_)
      · refine z_bipush b dX9_told_37 (by decide) ?_
        refine w_iload_n b dX9_told_39 rfl ?_
        refine z_imul b dX9_told_40 ?_
        refine w_iload_n b dX9_told_41 rfl ?_
        refine z_iadd b dX9_told_42 ?_
        refine w_istore b dX9_told_43 (tlt rfl) rfl ?_
        refine w_aload_n b dX9_told_45 rfl rfl ?_
        refine m_get b dX9_told_46 lfX9_20 rfl ?_
        refine w_iload b dX9_told_49 rfl ?_
        refine m_ald b dX9_told_51 rfl (by omega) rfl ?_
        refine w_istore b dX9_told_52 (tlt rfl) rfl ?_
        refine w_iload_n b dX9_told_54 rfl ?_
        refine z_iconst b dX9_told_55 ?_
        refine z_icmp_ne (tgt := 79) b dX9_told_56 (by decide) (by omega) (fun c56 => ?_) (fun c56 => ?_)
        · exfalso; omega
        · refine w_aload_n b dX9_told_59 rfl rfl ?_
          refine w_iload_n b dX9_told_60 rfl ?_
          cases hR : callR I F (F 7) c with
          | none =>
            refine w_callV (vs := [_]) b dX9_told_61 lmX9_168 rfl rfl (mp_obj _ _ _ _) (tle rfl) (by omega) (by omega) (by omega) (k_call0 (c := c) (by omega) h2_ h21 h1_ h23 wf hc7 hR) (fun r9 σ9 hq9 => ?_)
            obtain ⟨rfl, a9, f9, e9, S9, T9, U9, V9, hc9, rfl⟩ := hq9
            refine z_if_ge (tgt := 72) b dX9_told_64 (by decide) (by omega) (fun c64 => ?_) (fun c64 => ?_)
            · exfalso; omega
            · refine z_bipush b dX9_told_67 (by decide) ?_
              refine w_goto (tgt := 78) b dX9_told_69 (by decide) ?_
              exact w_iret b dX9_told_78 rfl (by omega) (by omega) ⟨iv_eq (by rfl), _, _, ⟨_, _, _, _, _, _, _, hc9, rfl, rfl⟩, rfl⟩
          | some t =>
            refine w_callV (vs := [_]) b dX9_told_61 lmX9_168 rfl rfl (mp_obj _ _ _ _) (tle rfl) (by omega) (by omega) (by omega) (k_call1 (c := c) (by omega) h2_ h21 h1_ h23 wf hc7 hR) (fun r9 σ9 hq9 => ?_)
            obtain ⟨rfl, ht9, hc9, S9, T9, U9, V9, rfl⟩ := hq9
            have hlen := callR_some hR
            refine z_if_ge (tgt := 72) b dX9_told_64 (by decide) (by omega) (fun c64 => ?_) (fun c64 => ?_)
            · refine w_aload_n b dX9_told_72 rfl rfl ?_
              refine m_get b dX9_told_73 lfX9_32 rfl ?_
              refine w_iload_n b dX9_told_76 rfl ?_
              refine m_ald (v := endsR I F (F 7) c (F 8) s) b dX9_told_77 rfl (by omega) rfl ?_
              exact w_iret b dX9_told_78 rfl (by omega) (by omega) ⟨iv_eq (by rfl), _, _, ⟨_, _, _, _, _, _, _, hc9, rfl, rfl⟩, rfl⟩
            · exfalso; omega
      · exfalso; omega
/-- of one step x (it had was, it is the step s): the numbers v from v on; least change, step, number -/
def fmV (S K N : Int → Int) (w c x was s : Int) : Nat → Int → Int × Int × Int → Int × Int × Int
  | 0, _, p => p
  | n + 1, v, p => fmV S K N w c x was s n (v + 1) (if (if v < was then was - v else v - was) < p.1 ∧ lenM S K (fu N x v) w c = w then ((if v < was then was - v else v - was), s, v) else p)
def fmS (S K N : Int → Int) (w c : Int) : Nat → Int → Int × Int × Int → Int × Int × Int
  | 0, _, p => p
  | n + 1, s, p => fmS S K N w c n (s + 1) (if K (12 * c + s) = 0 then fmV S K N w c (12 * c + s) (N (12 * c + s)) s 40 1 p else p)
/-- the state while a mend is looked for -/
def mI (I : Nat → Int) (a : Int) (p : Int × Int × Int) : Nat → Int := va_up (va_up (va_up I 13 a) 14 p.2.1) 15 p.2.2
theorem mI_13 (I : Nat → Int) (a a' : Int) (p : Int × Int × Int) : va_up (mI I a p) 13 a' = mI I a' p := by
  funext j
  unfold mI va_up
  (repeat' split) <;> first | rfl | omega
theorem mI_p (I : Nat → Int) (a l s v : Int) (p : Int × Int × Int) : va_up (va_up (mI I a p) 14 s) 15 v = mI I a (l, s, v) := by
  funext j
  unfold mI va_up
  (repeat' split) <;> first | rfl | omega
theorem mI_0 (I : Nat → Int) (a l : Int) : mI I a (l, I 14, I 15) = va_up I 13 a := by
  funext j
  unfold mI va_up
  (repeat' split) <;> first | rfl | (exfalso; omega) | simp [*]
theorem cS_5 (F : Nat → Int → Int) (N1 N2 f e S T U V : Int → Int) : va_up (cS (va_up F 5 N1) f e S T U V) 5 N2 = cS (va_up F 5 N2) f e S T U V := by
  funext j
  unfold cS va_up
  (repeat' split) <;> first | rfl | omega
theorem fu_fu (f : Int → Int) (x y v : Int) : fu (fu f x y) x v = fu f x v := by
  funext j
  unfold fu
  split <;> rfl
theorem fu_self (f : Int → Int) (x : Int) : fu f x (f x) = f := by
  funext j
  unfold fu
  split
  · rename_i h; rw [h]
  · rfl
theorem wfC_fu {I I' : Nat → Int} {F : Nat → Int → Int} {x v : Int} {f e S T U V : Int → Int} (hI : I' 2 = I 2) (wf : wfC I F) (hk : F 4 x = 0) (hv : 1 ≤ v ∧ v ≤ 40) : wfC I' (cS (va_up F 5 (fu (F 5) x v)) f e S T U V) := by
  intro c h1 h2
  rw [hI] at h2
  obtain ⟨w0, w⟩ := wf c h1 h2
  refine ⟨w0, fun s h3 h4 => ?_⟩
  obtain ⟨w1, w2, w3, w4, w5⟩ := w s h3 h4
  show (0 ≤ F 4 (12 * c + s) ∧ F 4 (12 * c + s) ≤ 5) ∧ (F 4 (12 * c + s) = 0 → 1 ≤ fu (F 5) x v (12 * c + s) ∧ fu (F 5) x v (12 * c + s) ≤ 40) ∧ ((F 4 (12 * c + s) = 3 ∨ F 4 (12 * c + s) = 5) → 1 ≤ fu (F 5) x v (12 * c + s) ∧ fu (F 5) x v (12 * c + s) ≤ 9) ∧ (F 4 (12 * c + s) = 4 → 0 ≤ fu (F 5) x v (12 * c + s) ∧ fu (F 5) x v (12 * c + s) < c) ∧ ((F 4 (12 * c + s) = 0 ∨ F 4 (12 * c + s) = 1) → 0 ≤ F 6 (12 * c + s) ∧ F 6 (12 * c + s) ≤ 7)
  by_cases e : 12 * c + s = x
  · rw [e, fu_s, hk]
    rw [e] at w5
    refine ⟨by omega, fun _ => hv, fun z => by omega, fun z => by omega, fun z => w5 (by omega)⟩
  · rw [fu_n e]
    exact ⟨w1, w2, w3, w4, w5⟩
theorem fmV_rng {S K N : Int → Int} {w c x was s : Int} (hw : 1 ≤ was ∧ was ≤ 40) : ∀ (n : Nat) (v : Int) (p : Int × Int × Int), (v + n = 41 ∧ 1 ≤ v) → (0 ≤ p.1 ∧ p.1 ≤ 41) → 0 ≤ (fmV S K N w c x was s n v p).1 ∧ (fmV S K N w c x was s n v p).1 ≤ 41 := by
  intro n
  induction n with
  | zero => intro v p _ h; exact h
  | succ n ih =>
    intro v p h1 h
    unfold fmV
    refine ih (v + 1) _ (by omega) ?_
    by_cases hq : (if v < was then was - v else v - was) < p.1 ∧ lenM S K (fu N x v) w c = w
    · rw [if_pos hq]
      show 0 ≤ (if v < was then was - v else v - was) ∧ (if v < was then was - v else v - was) ≤ 41
      split <;> omega
    · rw [if_neg hq]
      exact h
set_option maxRecDepth 20000 in
theorem l_fmV {X : Cx} {l0 : Launch} {g : Gw} {Z : State → Prop} {mo nx : Nat} {h0 : Nat → va_E} {I : Nat → Int} {F : Nat → Int → Int} (b : BX X l0 g mX9_findMend 4 0 0) {c x was s : Int} (h2_ : 0 ≤ I 2 ∧ I 2 ≤ 12) (h21 : 0 ≤ I 21 ∧ I 21 ≤ 40) (h1_ : 4 ≤ I 1 ∧ I 1 ≤ 40) (h23 : ∀ j, 0 ≤ j → j < 1600 → 0 ≤ F 23 j ∧ F 23 j ≤ 7) (wf : wfC I F) (hc : 0 ≤ c ∧ c < I 2) (hx : x = 12 * c + s) (hs : 0 ≤ s ∧ s < F 3 c) (hk : F 4 x = 0) (hwas : 1 ≤ was ∧ was ≤ 40) : ∀ (n : Nat) (v : Int) (p : Int × Int × Int) (y a : Int) (f e S T U V : Int → Int), v + n = 41 → 1 ≤ v → (0 ≤ p.1 ∧ p.1 ≤ 41) → col7 f → (∀ (y' a' : Int) (f' e' S' T' U' V' : Int → Int), col7 f' → WW X g mX9_findMend.2.2.1 Z 0 0 165 [some (.ref mo), some (.int (iI c)), none, some (.int (iI ((fmV (F 3) (F 4) (F 5) (I 1) c x was s n v p).1))), some (.int (iI s)), some (.int (iI x)), some (.int (iI was)), none, none] [] (mp mo h0 (mI I (a') (fmV (F 3) (F 4) (F 5) (I 1) c x was s n v p)) (cS (va_up F 5 (fu (F 5) x (y'))) (f') (e') (S') (T') (U') (V')), nx)) → WW X g mX9_findMend.2.2.1 Z 0 0 85 [some (.ref mo), some (.int (iI c)), none, some (.int (iI (p.1))), some (.int (iI s)), some (.int (iI x)), some (.int (iI was)), some (.int (iI (v))), none] [] (mp mo h0 (mI I (a) (p)) (cS (va_up F 5 (fu (F 5) x (y))) (f) (e) (S) (T) (U) (V)), nx) := by
  intro n
  induction n with
  | zero =>
    intro v p y a f e S T U V h1 h2 h3 hc7 kk
    refine w_iload b dX9_findMend_85 rfl ?_
    refine z_bipush b dX9_findMend_87 (by decide) ?_
    refine z_icmp_ge (tgt := 165) b dX9_findMend_89 (by decide) (by omega) (fun c89 => ?_) (fun c89 => ?_)
    · refine ww_forget 7 ?_
      exact kk y a f e S T U V hc7
    · exfalso; omega
  | succ n ih =>
    intro v p y a f e S T U V h1 h2 h3 hc7 kk
    have hs12 := (wf c hc.1 hc.2).1
    refine w_iload b dX9_findMend_85 rfl ?_
    refine z_bipush b dX9_findMend_87 (by decide) ?_
    refine z_icmp_ge (tgt := 165) b dX9_findMend_89 (by decide) (by omega) (fun c89 => ?_) (fun c89 => ?_)
    · exfalso; omega
    · refine w_iload b dX9_findMend_92 rfl ?_
      refine w_iload b dX9_findMend_94 rfl ?_
      refine z_icmp_ge (tgt := 107) b dX9_findMend_96 (by decide) (by omega) (fun c96 => ?_) (fun c96 => ?_)
      · have hcg : (if v < was then was - v else v - was) = v - was := if_neg (by omega)
        have h2v : 1 ≤ v ∧ v ≤ 40 := by omega
        refine w_iload b dX9_findMend_107 rfl ?_
        refine w_iload b dX9_findMend_109 rfl ?_
        refine z_isub b dX9_findMend_111 ?_
        refine w_istore b dX9_findMend_112 (tlt rfl) rfl ?_
        refine w_iload b dX9_findMend_114 rfl ?_
        refine w_iload_n b dX9_findMend_116 rfl ?_
        refine z_icmp_lt (tgt := 123) b dX9_findMend_117 (by decide) (by omega) (fun c117 => ?_) (fun c117 => ?_)
        · refine w_aload_n b dX9_findMend_123 rfl rfl ?_
          refine m_get b dX9_findMend_124 lfX9_23 rfl ?_
          refine w_iload b dX9_findMend_127 rfl ?_
          refine w_iload b dX9_findMend_129 rfl ?_
          refine m_ast b dX9_findMend_131 rfl (by omega) ?_
          refine ww_cast (σ' := (mp mo h0 (mI I (a) (p)) (cS (va_up F 5 (fu (F 5) x (v))) (f) (e) (S) (T) (U) (V)), nx)) rfl rfl (by rw [← fu_fu (F 5) x y v, cS_5]; rfl) ?_
          refine w_aload_n b dX9_findMend_132 rfl rfl ?_
          refine w_iload_n b dX9_findMend_133 rfl ?_
          cases hR : callR (mI I a p) (cS (va_up F 5 (fu (F 5) x v)) f e S T U V) f c with
          | none =>
            refine w_callV (vs := [_]) b dX9_findMend_134 lmX9_168 rfl rfl (mp_obj _ _ _ _) (tle rfl) (by omega) (by omega) (by omega) (k_call0 (I := mI I a p) (F := cS (va_up F 5 (fu (F 5) x v)) f e S T U V) (c := c) hc h2_ h21 h1_ h23 (wfC_fu (I := I) rfl wf hk h2v) hc7 hR) (fun r9 σ9 hq9 => ?_)
            obtain ⟨rfl, a9, f9, e9, S9, T9, U9, V9, hc9, rfl⟩ := hq9
            have hl9 := callR_none hR
            refine ww_cast (σ' := (mp mo h0 (mI I (a9) (p)) (cS (va_up F 5 (fu (F 5) x (v))) (f9) (e9) (S9) (T9) (U9) (V9)), nx)) rfl rfl (by rw [mI_13, cS_cS]) ?_
            refine w_aload_n b dX9_findMend_137 rfl rfl ?_
            refine m_get (v := .int (iI (I 1))) b dX9_findMend_138 lfX9_134 rfl ?_
            refine z_icmp_ne (tgt := 159) b dX9_findMend_141 (by decide) (by omega) (fun hw9 => ?_) (fun hw9 => ?_)
            · have eF : fmV (F 3) (F 4) (F 5) (I 1) c x was s (n + 1) v p = fmV (F 3) (F 4) (F 5) (I 1) c x was s n (v + 1) p := by
                conv => lhs; unfold fmV
                rw [if_neg (fun z => hw9 (hl9.symm.trans z.2))]
              refine z_iinc b dX9_findMend_159 rfl rfl rfl ?_
              refine w_goto (tgt := 85) b dX9_findMend_162 (by decide) ?_
              refine ww_forget 8 ?_
              exact ih (v + 1) p v a9 f9 _ S9 T9 U9 V9 (by omega) (by omega) h3 hc9 (fun y9 a9 f9 e9 S9 T9 U9 V9 q9 => by
                have q := kk y9 a9 f9 e9 S9 T9 U9 V9 q9
                rw [eF] at q
                exact q)
            · have eF : fmV (F 3) (F 4) (F 5) (I 1) c x was s (n + 1) v p = fmV (F 3) (F 4) (F 5) (I 1) c x was s n (v + 1) (v - was, s, v) := by
                conv => lhs; unfold fmV
                rw [hcg, if_pos ⟨c117, hl9.trans hw9⟩]
              refine w_iload b dX9_findMend_144 rfl ?_
              refine w_istore_n b dX9_findMend_146 (tlt rfl) rfl ?_
              refine w_aload_n b dX9_findMend_147 rfl rfl ?_
              refine w_iload b dX9_findMend_148 rfl ?_
              refine m_put b dX9_findMend_150 lfX9_50 gtX9_14 (tlt rfl) rfl ?_
              refine w_aload_n b dX9_findMend_153 rfl rfl ?_
              refine w_iload b dX9_findMend_154 rfl ?_
              refine m_put b dX9_findMend_156 lfX9_53 gtX9_15 (tlt rfl) rfl ?_
              
              refine ww_forget 8 ?_
              refine ww_cast (σ' := (mp mo h0 (mI I (a9) (v - was, s, v)) (cS (va_up F 5 (fu (F 5) x (v))) (f9) (e9) (S9) (T9) (U9) (V9)), nx)) rfl rfl (by rw [← mI_p (l := v - was)]) ?_
              refine z_iinc b dX9_findMend_159 rfl rfl rfl ?_
              refine w_goto (tgt := 85) b dX9_findMend_162 (by decide) ?_
              exact ih (v + 1) (v - was, s, v) v a9 f9 _ S9 T9 U9 V9 (by omega) (by omega) (by show 0 ≤ v - was ∧ v - was ≤ 41; omega) hc9 (fun y8 a8 f8 e8 S8 T8 U8 V8 q8 => by
                have q := kk y8 a8 f8 e8 S8 T8 U8 V8 q8
                rw [eF] at q
                exact q)
          | some t =>
            refine w_callV (vs := [_]) b dX9_findMend_134 lmX9_168 rfl rfl (mp_obj _ _ _ _) (tle rfl) (by omega) (by omega) (by omega) (k_call1 (I := mI I a p) (F := cS (va_up F 5 (fu (F 5) x v)) f e S T U V) (c := c) hc h2_ h21 h1_ h23 (wfC_fu (I := I) rfl wf hk h2v) hc7 hR) (fun r9 σ9 hq9 => ?_)
            obtain ⟨rfl, ht9, hc9, S9, T9, U9, V9, rfl⟩ := hq9
            have hl9 := callR_some hR
            refine ww_cast (σ' := (mp mo h0 (mI I (t.1) (p)) (cS (va_up F 5 (fu (F 5) x (v))) (t.2.1) (endsR (mI I a p) (cS (va_up F 5 (fu (F 5) x v)) f e S T U V) ((cS (va_up F 5 (fu (F 5) x v)) f e S T U V) 7) c ((cS (va_up F 5 (fu (F 5) x v)) f e S T U V) 8)) (S9) (T9) (U9) (V9)), nx)) rfl rfl (by rw [mI_13, cS_cS]) ?_
            refine w_aload_n b dX9_findMend_137 rfl rfl ?_
            refine m_get (v := .int (iI (I 1))) b dX9_findMend_138 lfX9_134 rfl ?_
            refine z_icmp_ne (tgt := 159) b dX9_findMend_141 (by decide) (by omega) (fun hw9 => ?_) (fun hw9 => ?_)
            · have eF : fmV (F 3) (F 4) (F 5) (I 1) c x was s (n + 1) v p = fmV (F 3) (F 4) (F 5) (I 1) c x was s n (v + 1) p := by
                conv => lhs; unfold fmV
                rw [if_neg (fun z => hw9 (hl9.symm.trans z.2))]
              refine z_iinc b dX9_findMend_159 rfl rfl rfl ?_
              refine w_goto (tgt := 85) b dX9_findMend_162 (by decide) ?_
              refine ww_forget 8 ?_
              exact ih (v + 1) p v t.1 t.2.1 _ S9 T9 U9 V9 (by omega) (by omega) h3 hc9 (fun y9 a9 f9 e9 S9 T9 U9 V9 q9 => by
                have q := kk y9 a9 f9 e9 S9 T9 U9 V9 q9
                rw [eF] at q
                exact q)
            · have eF : fmV (F 3) (F 4) (F 5) (I 1) c x was s (n + 1) v p = fmV (F 3) (F 4) (F 5) (I 1) c x was s n (v + 1) (v - was, s, v) := by
                conv => lhs; unfold fmV
                rw [hcg, if_pos ⟨c117, hl9.trans hw9⟩]
              refine w_iload b dX9_findMend_144 rfl ?_
              refine w_istore_n b dX9_findMend_146 (tlt rfl) rfl ?_
              refine w_aload_n b dX9_findMend_147 rfl rfl ?_
              refine w_iload b dX9_findMend_148 rfl ?_
              refine m_put b dX9_findMend_150 lfX9_50 gtX9_14 (tlt rfl) rfl ?_
              refine w_aload_n b dX9_findMend_153 rfl rfl ?_
              refine w_iload b dX9_findMend_154 rfl ?_
              refine m_put b dX9_findMend_156 lfX9_53 gtX9_15 (tlt rfl) rfl ?_
              
              refine ww_forget 8 ?_
              refine ww_cast (σ' := (mp mo h0 (mI I (t.1) (v - was, s, v)) (cS (va_up F 5 (fu (F 5) x (v))) (t.2.1) (endsR (mI I a p) (cS (va_up F 5 (fu (F 5) x v)) f e S T U V) ((cS (va_up F 5 (fu (F 5) x v)) f e S T U V) 7) c ((cS (va_up F 5 (fu (F 5) x v)) f e S T U V) 8)) (S9) (T9) (U9) (V9)), nx)) rfl rfl (by rw [← mI_p (l := v - was)]) ?_
              refine z_iinc b dX9_findMend_159 rfl rfl rfl ?_
              refine w_goto (tgt := 85) b dX9_findMend_162 (by decide) ?_
              exact ih (v + 1) (v - was, s, v) v t.1 t.2.1 _ S9 T9 U9 V9 (by omega) (by omega) (by show 0 ≤ v - was ∧ v - was ≤ 41; omega) hc9 (fun y8 a8 f8 e8 S8 T8 U8 V8 q8 => by
                have q := kk y8 a8 f8 e8 S8 T8 U8 V8 q8
                rw [eF] at q
                exact q)
        · have eF : fmV (F 3) (F 4) (F 5) (I 1) c x was s (n + 1) v p = fmV (F 3) (F 4) (F 5) (I 1) c x was s n (v + 1) p := by
            conv => lhs; unfold fmV
            rw [hcg, if_neg (fun z => c117 z.1)]
          refine w_goto (tgt := 159) b dX9_findMend_120 (by decide) ?_
          refine z_iinc b dX9_findMend_159 rfl rfl rfl ?_
          refine w_goto (tgt := 85) b dX9_findMend_162 (by decide) ?_
          refine ww_forget 8 ?_
          exact ih (v + 1) p y a f e S T U V (by omega) (by omega) h3 hc7 (fun y9 a9 f9 e9 S9 T9 U9 V9 q9 => by
            have q := kk y9 a9 f9 e9 S9 T9 U9 V9 q9
            rw [eF] at q
            exact q)
      · have hcg : (if v < was then was - v else v - was) = was - v := if_pos (by omega)
        have h2v : 1 ≤ v ∧ v ≤ 40 := by omega
        refine w_iload b dX9_findMend_99 rfl ?_
        refine w_iload b dX9_findMend_101 rfl ?_
        refine z_isub b dX9_findMend_103 ?_
        refine w_goto (tgt := 112) b dX9_findMend_104 (by decide) ?_
        refine w_istore b dX9_findMend_112 (tlt rfl) rfl ?_
        refine w_iload b dX9_findMend_114 rfl ?_
        refine w_iload_n b dX9_findMend_116 rfl ?_
        refine z_icmp_lt (tgt := 123) b dX9_findMend_117 (by decide) (by omega) (fun c117 => ?_) (fun c117 => ?_)
        · refine w_aload_n b dX9_findMend_123 rfl rfl ?_
          refine m_get b dX9_findMend_124 lfX9_23 rfl ?_
          refine w_iload b dX9_findMend_127 rfl ?_
          refine w_iload b dX9_findMend_129 rfl ?_
          refine m_ast b dX9_findMend_131 rfl (by omega) ?_
          refine ww_cast (σ' := (mp mo h0 (mI I (a) (p)) (cS (va_up F 5 (fu (F 5) x (v))) (f) (e) (S) (T) (U) (V)), nx)) rfl rfl (by rw [← fu_fu (F 5) x y v, cS_5]; rfl) ?_
          refine w_aload_n b dX9_findMend_132 rfl rfl ?_
          refine w_iload_n b dX9_findMend_133 rfl ?_
          cases hR : callR (mI I a p) (cS (va_up F 5 (fu (F 5) x v)) f e S T U V) f c with
          | none =>
            refine w_callV (vs := [_]) b dX9_findMend_134 lmX9_168 rfl rfl (mp_obj _ _ _ _) (tle rfl) (by omega) (by omega) (by omega) (k_call0 (I := mI I a p) (F := cS (va_up F 5 (fu (F 5) x v)) f e S T U V) (c := c) hc h2_ h21 h1_ h23 (wfC_fu (I := I) rfl wf hk h2v) hc7 hR) (fun r9 σ9 hq9 => ?_)
            obtain ⟨rfl, a9, f9, e9, S9, T9, U9, V9, hc9, rfl⟩ := hq9
            have hl9 := callR_none hR
            refine ww_cast (σ' := (mp mo h0 (mI I (a9) (p)) (cS (va_up F 5 (fu (F 5) x (v))) (f9) (e9) (S9) (T9) (U9) (V9)), nx)) rfl rfl (by rw [mI_13, cS_cS]) ?_
            refine w_aload_n b dX9_findMend_137 rfl rfl ?_
            refine m_get (v := .int (iI (I 1))) b dX9_findMend_138 lfX9_134 rfl ?_
            refine z_icmp_ne (tgt := 159) b dX9_findMend_141 (by decide) (by omega) (fun hw9 => ?_) (fun hw9 => ?_)
            · have eF : fmV (F 3) (F 4) (F 5) (I 1) c x was s (n + 1) v p = fmV (F 3) (F 4) (F 5) (I 1) c x was s n (v + 1) p := by
                conv => lhs; unfold fmV
                rw [if_neg (fun z => hw9 (hl9.symm.trans z.2))]
              refine z_iinc b dX9_findMend_159 rfl rfl rfl ?_
              refine w_goto (tgt := 85) b dX9_findMend_162 (by decide) ?_
              refine ww_forget 8 ?_
              exact ih (v + 1) p v a9 f9 _ S9 T9 U9 V9 (by omega) (by omega) h3 hc9 (fun y9 a9 f9 e9 S9 T9 U9 V9 q9 => by
                have q := kk y9 a9 f9 e9 S9 T9 U9 V9 q9
                rw [eF] at q
                exact q)
            · have eF : fmV (F 3) (F 4) (F 5) (I 1) c x was s (n + 1) v p = fmV (F 3) (F 4) (F 5) (I 1) c x was s n (v + 1) (was - v, s, v) := by
                conv => lhs; unfold fmV
                rw [hcg, if_pos ⟨c117, hl9.trans hw9⟩]
              refine w_iload b dX9_findMend_144 rfl ?_
              refine w_istore_n b dX9_findMend_146 (tlt rfl) rfl ?_
              refine w_aload_n b dX9_findMend_147 rfl rfl ?_
              refine w_iload b dX9_findMend_148 rfl ?_
              refine m_put b dX9_findMend_150 lfX9_50 gtX9_14 (tlt rfl) rfl ?_
              refine w_aload_n b dX9_findMend_153 rfl rfl ?_
              refine w_iload b dX9_findMend_154 rfl ?_
              refine m_put b dX9_findMend_156 lfX9_53 gtX9_15 (tlt rfl) rfl ?_
              
              refine ww_forget 8 ?_
              refine ww_cast (σ' := (mp mo h0 (mI I (a9) (was - v, s, v)) (cS (va_up F 5 (fu (F 5) x (v))) (f9) (e9) (S9) (T9) (U9) (V9)), nx)) rfl rfl (by rw [← mI_p (l := was - v)]) ?_
              refine z_iinc b dX9_findMend_159 rfl rfl rfl ?_
              refine w_goto (tgt := 85) b dX9_findMend_162 (by decide) ?_
              exact ih (v + 1) (was - v, s, v) v a9 f9 _ S9 T9 U9 V9 (by omega) (by omega) (by show 0 ≤ was - v ∧ was - v ≤ 41; omega) hc9 (fun y8 a8 f8 e8 S8 T8 U8 V8 q8 => by
                have q := kk y8 a8 f8 e8 S8 T8 U8 V8 q8
                rw [eF] at q
                exact q)
          | some t =>
            refine w_callV (vs := [_]) b dX9_findMend_134 lmX9_168 rfl rfl (mp_obj _ _ _ _) (tle rfl) (by omega) (by omega) (by omega) (k_call1 (I := mI I a p) (F := cS (va_up F 5 (fu (F 5) x v)) f e S T U V) (c := c) hc h2_ h21 h1_ h23 (wfC_fu (I := I) rfl wf hk h2v) hc7 hR) (fun r9 σ9 hq9 => ?_)
            obtain ⟨rfl, ht9, hc9, S9, T9, U9, V9, rfl⟩ := hq9
            have hl9 := callR_some hR
            refine ww_cast (σ' := (mp mo h0 (mI I (t.1) (p)) (cS (va_up F 5 (fu (F 5) x (v))) (t.2.1) (endsR (mI I a p) (cS (va_up F 5 (fu (F 5) x v)) f e S T U V) ((cS (va_up F 5 (fu (F 5) x v)) f e S T U V) 7) c ((cS (va_up F 5 (fu (F 5) x v)) f e S T U V) 8)) (S9) (T9) (U9) (V9)), nx)) rfl rfl (by rw [mI_13, cS_cS]) ?_
            refine w_aload_n b dX9_findMend_137 rfl rfl ?_
            refine m_get (v := .int (iI (I 1))) b dX9_findMend_138 lfX9_134 rfl ?_
            refine z_icmp_ne (tgt := 159) b dX9_findMend_141 (by decide) (by omega) (fun hw9 => ?_) (fun hw9 => ?_)
            · have eF : fmV (F 3) (F 4) (F 5) (I 1) c x was s (n + 1) v p = fmV (F 3) (F 4) (F 5) (I 1) c x was s n (v + 1) p := by
                conv => lhs; unfold fmV
                rw [if_neg (fun z => hw9 (hl9.symm.trans z.2))]
              refine z_iinc b dX9_findMend_159 rfl rfl rfl ?_
              refine w_goto (tgt := 85) b dX9_findMend_162 (by decide) ?_
              refine ww_forget 8 ?_
              exact ih (v + 1) p v t.1 t.2.1 _ S9 T9 U9 V9 (by omega) (by omega) h3 hc9 (fun y9 a9 f9 e9 S9 T9 U9 V9 q9 => by
                have q := kk y9 a9 f9 e9 S9 T9 U9 V9 q9
                rw [eF] at q
                exact q)
            · have eF : fmV (F 3) (F 4) (F 5) (I 1) c x was s (n + 1) v p = fmV (F 3) (F 4) (F 5) (I 1) c x was s n (v + 1) (was - v, s, v) := by
                conv => lhs; unfold fmV
                rw [hcg, if_pos ⟨c117, hl9.trans hw9⟩]
              refine w_iload b dX9_findMend_144 rfl ?_
              refine w_istore_n b dX9_findMend_146 (tlt rfl) rfl ?_
              refine w_aload_n b dX9_findMend_147 rfl rfl ?_
              refine w_iload b dX9_findMend_148 rfl ?_
              refine m_put b dX9_findMend_150 lfX9_50 gtX9_14 (tlt rfl) rfl ?_
              refine w_aload_n b dX9_findMend_153 rfl rfl ?_
              refine w_iload b dX9_findMend_154 rfl ?_
              refine m_put b dX9_findMend_156 lfX9_53 gtX9_15 (tlt rfl) rfl ?_
              
              refine ww_forget 8 ?_
              refine ww_cast (σ' := (mp mo h0 (mI I (t.1) (was - v, s, v)) (cS (va_up F 5 (fu (F 5) x (v))) (t.2.1) (endsR (mI I a p) (cS (va_up F 5 (fu (F 5) x v)) f e S T U V) ((cS (va_up F 5 (fu (F 5) x v)) f e S T U V) 7) c ((cS (va_up F 5 (fu (F 5) x v)) f e S T U V) 8)) (S9) (T9) (U9) (V9)), nx)) rfl rfl (by rw [← mI_p (l := was - v)]) ?_
              refine z_iinc b dX9_findMend_159 rfl rfl rfl ?_
              refine w_goto (tgt := 85) b dX9_findMend_162 (by decide) ?_
              exact ih (v + 1) (was - v, s, v) v t.1 t.2.1 _ S9 T9 U9 V9 (by omega) (by omega) (by show 0 ≤ was - v ∧ was - v ≤ 41; omega) hc9 (fun y8 a8 f8 e8 S8 T8 U8 V8 q8 => by
                have q := kk y8 a8 f8 e8 S8 T8 U8 V8 q8
                rw [eF] at q
                exact q)
        · have eF : fmV (F 3) (F 4) (F 5) (I 1) c x was s (n + 1) v p = fmV (F 3) (F 4) (F 5) (I 1) c x was s n (v + 1) p := by
            conv => lhs; unfold fmV
            rw [hcg, if_neg (fun z => c117 z.1)]
          refine w_goto (tgt := 159) b dX9_findMend_120 (by decide) ?_
          refine z_iinc b dX9_findMend_159 rfl rfl rfl ?_
          refine w_goto (tgt := 85) b dX9_findMend_162 (by decide) ?_
          refine ww_forget 8 ?_
          exact ih (v + 1) p y a f e S T U V (by omega) (by omega) h3 hc7 (fun y9 a9 f9 e9 S9 T9 U9 V9 q9 => by
            have q := kk y9 a9 f9 e9 S9 T9 U9 V9 q9
            rw [eF] at q
            exact q)
set_option maxRecDepth 20000 in
theorem l_fmS {X : Cx} {l0 : Launch} {g : Gw} {Z : State → Prop} {mo nx : Nat} {h0 : Nat → va_E} {I : Nat → Int} {F : Nat → Int → Int} (b : BX X l0 g mX9_findMend 4 0 0) {c : Int} (h2_ : 0 ≤ I 2 ∧ I 2 ≤ 12) (h21 : 0 ≤ I 21 ∧ I 21 ≤ 40) (h1_ : 4 ≤ I 1 ∧ I 1 ≤ 40) (h23 : ∀ j, 0 ≤ j → j < 1600 → 0 ≤ F 23 j ∧ F 23 j ≤ 7) (wf : wfC I F) (hc : 0 ≤ c ∧ c < I 2) : ∀ (n : Nat) (s : Int) (p : Int × Int × Int) (a : Int) (f e S T U V : Int → Int), s + n = F 3 c → 0 ≤ s → (0 ≤ p.1 ∧ p.1 ≤ 41) → col7 f → (∀ (a' : Int) (f' e' S' T' U' V' : Int → Int), col7 f' → WW X g mX9_findMend.2.2.1 Z 0 0 180 [some (.ref mo), some (.int (iI c)), none, some (.int (iI ((fmS (F 3) (F 4) (F 5) (I 1) c n s p).1))), none, none, none, none, none] [] (mp mo h0 (mI I (a') (fmS (F 3) (F 4) (F 5) (I 1) c n s p)) (cS F (f') (e') (S') (T') (U') (V')), nx)) → WW X g mX9_findMend.2.2.1 Z 0 0 40 [some (.ref mo), some (.int (iI c)), none, some (.int (iI (p.1))), some (.int (iI (s))), none, none, none, none] [] (mp mo h0 (mI I (a) (p)) (cS F (f) (e) (S) (T) (U) (V)), nx) := by
  intro n
  induction n with
  | zero =>
    intro s p a f e S T U V h1 h2 h3 hc7 kk
    have hs12 := (wf c hc.1 hc.2).1
    refine w_iload b dX9_findMend_40 rfl ?_
    refine w_aload_n b dX9_findMend_42 rfl rfl ?_
    refine m_get b dX9_findMend_43 lfX9_16 rfl ?_
    refine w_iload_n b dX9_findMend_46 rfl ?_
    refine m_ald (v := F 3 c) b dX9_findMend_47 rfl (by omega) rfl ?_
    refine z_icmp_ge (tgt := 180) b dX9_findMend_48 (by decide) (by omega) (fun c48 => ?_) (fun c48 => ?_)
    · refine ww_forget 4 ?_
      exact kk a f e S T U V hc7
    · exfalso; omega
  | succ n ih =>
    intro s p a f e S T U V h1 h2 h3 hc7 kk
    have hs12 := (wf c hc.1 hc.2).1
    obtain ⟨w1, w2, w3, w4, w5⟩ := (wf c hc.1 hc.2).2 s h2 (by omega)
    refine w_iload b dX9_findMend_40 rfl ?_
    refine w_aload_n b dX9_findMend_42 rfl rfl ?_
    refine m_get b dX9_findMend_43 lfX9_16 rfl ?_
    refine w_iload_n b dX9_findMend_46 rfl ?_
    refine m_ald (v := F 3 c) b dX9_findMend_47 rfl (by omega) rfl ?_
    refine z_icmp_ge (tgt := 180) b dX9_findMend_48 (by decide) (by omega) (fun c48 => ?_) (fun c48 => ?_)
    · exfalso; omega
    · refine z_bipush b dX9_findMend_51 (by decide) ?_
      refine w_iload_n b dX9_findMend_53 rfl ?_
      refine z_imul b dX9_findMend_54 ?_
      refine w_iload b dX9_findMend_55 rfl ?_
      refine z_iadd b dX9_findMend_57 ?_
      refine w_istore b dX9_findMend_58 (tlt rfl) rfl ?_
      refine w_aload_n b dX9_findMend_60 rfl rfl ?_
      refine m_get b dX9_findMend_61 lfX9_20 rfl ?_
      refine w_iload b dX9_findMend_64 rfl ?_
      refine m_ald (v := F 4 (12 * c + s)) b dX9_findMend_66 rfl (by omega) rfl ?_
      refine z_if_eq (tgt := 73) b dX9_findMend_67 (by decide) (by omega) (fun c67 => ?_) (fun c67 => ?_)
      · have eF : fmS (F 3) (F 4) (F 5) (I 1) c (n + 1) s p = fmS (F 3) (F 4) (F 5) (I 1) c n (s + 1) (fmV (F 3) (F 4) (F 5) (I 1) c (12 * c + s) (F 5 (12 * c + s)) s 40 1 p) := by
          conv => lhs; unfold fmS
          rw [if_pos c67]
        refine w_aload_n b dX9_findMend_73 rfl rfl ?_
        refine m_get b dX9_findMend_74 lfX9_23 rfl ?_
        refine w_iload b dX9_findMend_77 rfl ?_
        refine m_ald (v := F 5 (12 * c + s)) b dX9_findMend_79 rfl (by omega) rfl ?_
        refine w_istore b dX9_findMend_80 (tlt rfl) rfl ?_
        refine z_iconst b dX9_findMend_82 ?_
        refine w_istore b dX9_findMend_83 (tlt rfl) rfl ?_
        refine ww_cast (σ' := (mp mo h0 (mI I a p) (cS (va_up F 5 (fu (F 5) (12 * c + s) (F 5 (12 * c + s)))) f e S T U V), nx)) rfl rfl (by rw [fu_self, va_up_same]) ?_
        refine l_fmV b h2_ h21 h1_ h23 wf hc rfl (by omega) c67 (w2 c67) 40 1 p _ a f e S T U V (by omega) (by omega) h3 hc7 (fun y7 a7 f7 e7 S7 T7 U7 V7 q7 => ?_)
        refine w_aload_n b dX9_findMend_165 rfl rfl ?_
        refine m_get b dX9_findMend_166 lfX9_23 rfl ?_
        refine w_iload b dX9_findMend_169 rfl ?_
        refine w_iload b dX9_findMend_171 rfl ?_
        refine m_ast b dX9_findMend_173 rfl (by omega) ?_
        refine ww_cast (σ' := (mp mo h0 (mI I (a7) (fmV (F 3) (F 4) (F 5) (I 1) c (12 * c + s) (F 5 (12 * c + s)) s 40 1 p)) (cS F (f7) (e7) (S7) (T7) (U7) (V7)), nx)) rfl rfl (by rw [show fu (cS (va_up F 5 (fu (F 5) (12 * c + s) y7)) f7 e7 S7 T7 U7 V7 5) (12 * c + s) (F 5 (12 * c + s)) = F 5 from (fu_fu _ _ _ _).trans (fu_self _ _), cS_5, va_up_same]) ?_
        refine z_iinc b dX9_findMend_174 rfl rfl rfl ?_
        refine w_goto (tgt := 40) b dX9_findMend_177 (by decide) ?_
        refine ww_forget 5 ?_
        refine ww_forget 6 ?_
        exact ih (s + 1) (fmV (F 3) (F 4) (F 5) (I 1) c (12 * c + s) (F 5 (12 * c + s)) s 40 1 p) a7 f7 e7 S7 T7 U7 V7 (by omega) (by omega) (fmV_rng (w2 c67) 40 1 p (by omega) h3) q7 (fun a8 f8 e8 S8 T8 U8 V8 q8 => by
  have q := kk a8 f8 e8 S8 T8 U8 V8 q8
  rw [eF] at q
  exact q)
      · have eF : fmS (F 3) (F 4) (F 5) (I 1) c (n + 1) s p = fmS (F 3) (F 4) (F 5) (I 1) c n (s + 1) (p) := by
          conv => lhs; unfold fmS
          rw [if_neg c67]
        refine w_goto (tgt := 174) b dX9_findMend_70 (by decide) ?_
        refine z_iinc b dX9_findMend_174 rfl rfl rfl ?_
        refine w_goto (tgt := 40) b dX9_findMend_177 (by decide) ?_
        refine ww_forget 5 ?_
        exact ih (s + 1) (p) a f e S T U V (by omega) (by omega) h3 hc7 (fun a8 f8 e8 S8 T8 U8 V8 q8 => by
          have q := kk a8 f8 e8 S8 T8 U8 V8 q8
          rw [eF] at q
          exact q)
set_option maxRecDepth 20000 in
theorem k_findMend0 {l0 : Launch} {g : Gw} {mo nx : Nat} {h0 : Nat → va_E} {I : Nat → Int} {F : Nat → Int → Int} {c : Int} (hci : inR c) (h2_ : 0 ≤ I 2 ∧ I 2 ≤ 12) (h21 : 0 ≤ I 21 ∧ I 21 ≤ 40) (h1_ : 4 ≤ I 1 ∧ I 1 ≤ 40) (h23 : ∀ j, 0 ≤ j → j < 1600 → 0 ≤ F 23 j ∧ F 23 j ≤ 7) (wf : wfC I F) (hc7 : col7 (F 7)) (hb : ¬ (0 ≤ c ∧ c ≤ I 2 - 1) ∨ lenM (F 3) (F 4) (F 5) (I 1) c < 0 ∨ lenM (F 3) (F 4) (F 5) (I 1) c = I 1) : MM l0 g 4 mX9_findMend (mp mo h0 I F, nx) [.ref mo, .int (iI (c))] 0 0 (fun r σ' => r = some (.int (iI (if ¬ (0 ≤ c ∧ c ≤ I 2 - 1) then -1 else if lenM (F 3) (F 4) (F 5) (I 1) c < 0 then -6 else -4))) ∧ ∃ (I' : Nat → Int) (F' : Nat → Int → Int), scr I F I' F' ∧ σ' = (mp mo h0 I' F', nx)) := by
  refine MM.of (by decide +kernel) (by simp [Value.category]) (tle rfl) (fun X b => ?_)
  change WW X g _ _ 0 0 0 [some (.ref mo), some (.int (iI (c))), none, none, none, none, none, none, none] [] _
  refine w_aload_n b dX9_findMend_0 rfl rfl ?_
  refine w_iload_n b dX9_findMend_1 rfl ?_
  refine c_V1 b dX9_findMend_2 lmX9_165 (mp_obj _ _ _ _) (k_X9_isChant (by omega) h2_) (tle rfl) (by omega) (by omega) (by omega) ?_
  refine z_ifb_ne (tgt := 10) b dX9_findMend_5 (by decide) (fun c5 => ?_) (fun c5 => ?_)
  · refine w_aload_n b dX9_findMend_10 rfl rfl ?_
    refine w_iload_n b dX9_findMend_11 rfl ?_
    cases hR : callR I F (F 7) c with
    | none =>
      refine w_callV (vs := [_]) b dX9_findMend_12 lmX9_168 rfl rfl (mp_obj _ _ _ _) (tle rfl) (by omega) (by omega) (by omega) (k_call0 (c := c) (by omega) h2_ h21 h1_ h23 wf hc7 hR) (fun r9 σ9 hq9 => ?_)
      obtain ⟨rfl, a9, f9, e9, S9, T9, U9, V9, hc9, rfl⟩ := hq9
      refine w_istore_n b dX9_findMend_15 (tlt rfl) rfl ?_
      refine w_iload_n b dX9_findMend_16 rfl ?_
      refine z_if_ge (tgt := 23) b dX9_findMend_17 (by decide) (by omega) (fun c17 => ?_) (fun c17 => ?_)
      · exfalso; omega
      · refine z_bipush b dX9_findMend_20 (by decide) ?_
        exact w_iret b dX9_findMend_22 rfl (by omega) (by omega) ⟨iv_eq (by rw [if_neg (by omega), callR_none hR]; rfl), _, _, ⟨_, _, _, _, _, _, _, hc9, rfl, rfl⟩, rfl⟩
    | some t =>
      refine w_callV (vs := [_]) b dX9_findMend_12 lmX9_168 rfl rfl (mp_obj _ _ _ _) (tle rfl) (by omega) (by omega) (by omega) (k_call1 (c := c) (by omega) h2_ h21 h1_ h23 wf hc7 hR) (fun r9 σ9 hq9 => ?_)
      obtain ⟨rfl, ht9, hc9, S9, T9, U9, V9, rfl⟩ := hq9
      have hlen := callR_some hR
      refine w_istore_n b dX9_findMend_15 (tlt rfl) rfl ?_
      refine w_iload_n b dX9_findMend_16 rfl ?_
      refine z_if_ge (tgt := 23) b dX9_findMend_17 (by decide) (by omega) (fun c17 => ?_) (fun c17 => ?_)
      · refine w_iload_n b dX9_findMend_23 rfl ?_
        refine w_aload_n b dX9_findMend_24 rfl rfl ?_
        refine m_get (v := .int (iI (I 1))) b dX9_findMend_25 lfX9_134 rfl ?_
        refine z_icmp_ne (tgt := 34) b dX9_findMend_28 (by decide) (by omega) (fun c28 => ?_) (fun c28 => ?_)
        · exfalso; rcases hb with z | z | z <;> omega
        · refine z_bipush b dX9_findMend_31 (by decide) ?_
          exact w_iret b dX9_findMend_33 rfl (by omega) (by omega) ⟨iv_eq (by rw [if_neg (by omega), hlen, if_neg (by omega)]), _, _, ⟨_, _, _, _, _, _, _, hc9, rfl, rfl⟩, rfl⟩
      · exfalso; omega
  · refine z_iconst b dX9_findMend_8 ?_
    exact w_iret b dX9_findMend_9 rfl (by omega) (by omega) ⟨iv_eq (by rw [if_pos (by omega)]), _, _, scr_refl hc7, rfl⟩
theorem fmS_rng {I : Nat → Int} {F : Nat → Int → Int} {c : Int} (w : ∀ s : Int, 0 ≤ s → s < F 3 c → (0 ≤ F 4 (12 * c + s) ∧ F 4 (12 * c + s) ≤ 5) ∧ (F 4 (12 * c + s) = 0 → 1 ≤ F 5 (12 * c + s) ∧ F 5 (12 * c + s) ≤ 40) ∧ ((F 4 (12 * c + s) = 3 ∨ F 4 (12 * c + s) = 5) → 1 ≤ F 5 (12 * c + s) ∧ F 5 (12 * c + s) ≤ 9) ∧ (F 4 (12 * c + s) = 4 → 0 ≤ F 5 (12 * c + s) ∧ F 5 (12 * c + s) < c) ∧ ((F 4 (12 * c + s) = 0 ∨ F 4 (12 * c + s) = 1) → 0 ≤ F 6 (12 * c + s) ∧ F 6 (12 * c + s) ≤ 7)) : ∀ (n : Nat) (s : Int) (p : Int × Int × Int), (s + n = F 3 c ∧ 0 ≤ s) → (0 ≤ p.1 ∧ p.1 ≤ 41) → 0 ≤ (fmS (F 3) (F 4) (F 5) (I 1) c n s p).1 ∧ (fmS (F 3) (F 4) (F 5) (I 1) c n s p).1 ≤ 41 := by
  intro n
  induction n with
  | zero => intro s p _ h; exact h
  | succ n ih =>
    intro s p h1 h
    unfold fmS
    refine ih (s + 1) _ (by omega) ?_
    by_cases hk : F 4 (12 * c + s) = 0
    · rw [if_pos hk]
      exact fmV_rng ((w s h1.2 (by omega)).2.1 hk) 40 1 p (by omega) h
    · rw [if_neg hk]
      exact h
set_option maxRecDepth 20000 in
theorem k_findMend1 {l0 : Launch} {g : Gw} {mo nx : Nat} {h0 : Nat → va_E} {I : Nat → Int} {F : Nat → Int → Int} {c : Int} (hc : 0 ≤ c ∧ c < I 2) (h2_ : 0 ≤ I 2 ∧ I 2 ≤ 12) (h21 : 0 ≤ I 21 ∧ I 21 ≤ 40) (h1_ : 4 ≤ I 1 ∧ I 1 ≤ 40) (h23 : ∀ j, 0 ≤ j → j < 1600 → 0 ≤ F 23 j ∧ F 23 j ≤ 7) (wf : wfC I F) (hc7 : col7 (F 7)) (h0_ : 0 ≤ lenM (F 3) (F 4) (F 5) (I 1) c) (hne : ¬ lenM (F 3) (F 4) (F 5) (I 1) c = I 1) : MM l0 g 4 mX9_findMend (mp mo h0 I F, nx) [.ref mo, .int (iI (c))] 0 0 (fun r σ' => r = some (.int (iI (if (fmS (F 3) (F 4) (F 5) (I 1) c (F 3 c).toNat 0 (41, I 14, I 15)).1 < 41 then 0 else -4))) ∧ ∃ (a' : Int) (f' e' S' T' U' V' : Int → Int), col7 f' ∧ σ' = (mp mo h0 (mI I (a') (fmS (F 3) (F 4) (F 5) (I 1) c (F 3 c).toNat 0 (41, I 14, I 15))) (cS F (f') (e') (S') (T') (U') (V')), nx)) := by
  refine MM.of (by decide +kernel) (by simp [Value.category]) (tle rfl) (fun X b => ?_)
  change WW X g _ _ 0 0 0 [some (.ref mo), some (.int (iI (c))), none, none, none, none, none, none, none] [] _
  refine w_aload_n b dX9_findMend_0 rfl rfl ?_
  refine w_iload_n b dX9_findMend_1 rfl ?_
  refine c_V1 b dX9_findMend_2 lmX9_165 (mp_obj _ _ _ _) (k_X9_isChant (by omega) h2_) (tle rfl) (by omega) (by omega) (by omega) ?_
  refine z_ifb_ne (tgt := 10) b dX9_findMend_5 (by decide) (fun c5 => ?_) (fun c5 => ?_)
  · refine w_aload_n b dX9_findMend_10 rfl rfl ?_
    refine w_iload_n b dX9_findMend_11 rfl ?_
    cases hR : callR I F (F 7) c with
    | none =>
      exfalso
      have := callR_none hR
      omega
    | some t =>
      refine w_callV (vs := [_]) b dX9_findMend_12 lmX9_168 rfl rfl (mp_obj _ _ _ _) (tle rfl) (by omega) (by omega) (by omega) (k_call1 (c := c) hc h2_ h21 h1_ h23 wf hc7 hR) (fun r9 σ9 hq9 => ?_)
      obtain ⟨rfl, ht9, hc9, S9, T9, U9, V9, rfl⟩ := hq9
      have hlen := callR_some hR
      refine w_istore_n b dX9_findMend_15 (tlt rfl) rfl ?_
      refine w_iload_n b dX9_findMend_16 rfl ?_
      refine z_if_ge (tgt := 23) b dX9_findMend_17 (by decide) (by omega) (fun c17 => ?_) (fun c17 => ?_)
      · refine w_iload_n b dX9_findMend_23 rfl ?_
        refine w_aload_n b dX9_findMend_24 rfl rfl ?_
        refine m_get (v := .int (iI (I 1))) b dX9_findMend_25 lfX9_134 rfl ?_
        refine z_icmp_ne (tgt := 34) b dX9_findMend_28 (by decide) (by omega) (fun c28 => ?_) (fun c28 => ?_)
        · refine z_bipush b dX9_findMend_34 (by decide) ?_
          refine w_istore_n b dX9_findMend_36 (tlt rfl) rfl ?_
          refine z_iconst b dX9_findMend_37 ?_
          refine w_istore b dX9_findMend_38 (tlt rfl) rfl ?_
          refine ww_forget 2 ?_
          refine ww_cast (σ' := (mp mo h0 (mI I (t.1) (41, I 14, I 15)) (cS F (t.2.1) (endsR I F (F 7) c (F 8)) (S9) (T9) (U9) (V9)), nx)) rfl rfl (by rw [mI_0]) ?_
          have hst := (wf c hc.1 hc.2).1
          refine l_fmS b h2_ h21 h1_ h23 wf hc (F 3 c).toNat 0 (41, I 14, I 15) _ _ _ _ _ _ _ (by omega) (by omega) (by show (0 : Int) ≤ 41 ∧ (41 : Int) ≤ 41; omega) hc9 (fun a8 f8 e8 S8 T8 U8 V8 q8 => ?_)
          have hr8 := fmS_rng (I := I) (wf c hc.1 hc.2).2 (F 3 c).toNat 0 (41, I 14, I 15) (by omega) (by show (0 : Int) ≤ 41 ∧ (41 : Int) ≤ 41; omega)
          refine w_iload_n b dX9_findMend_180 rfl ?_
          refine z_bipush b dX9_findMend_181 (by decide) ?_
          refine z_icmp_ge (tgt := 190) b dX9_findMend_183 (by decide) (by omega) (fun c183 => ?_) (fun c183 => ?_)
          · refine z_bipush b dX9_findMend_190 (by decide) ?_
            exact w_iret b dX9_findMend_192 rfl (by omega) (by omega) ⟨iv_eq (by first | (rw [if_pos (by omega)]) | (rw [if_neg (by omega)])), a8, f8, e8, S8, T8, U8, V8, q8, rfl⟩
          · refine z_iconst b dX9_findMend_186 ?_
            refine w_goto (tgt := 192) b dX9_findMend_187 (by decide) ?_
            exact w_iret b dX9_findMend_192 rfl (by omega) (by omega) ⟨iv_eq (by first | (rw [if_pos (by omega)]) | (rw [if_neg (by omega)])), a8, f8, e8, S8, T8, U8, V8, q8, rfl⟩
        · exfalso; omega
      · exfalso; omega
  · exfalso; omega
set_option maxRecDepth 20000 in
theorem k_X9_mendB {l0 : Launch} {g : Gw} {mo nx : Nat} {h0 : Nat → va_E} {I : Nat → Int} {F : Nat → Int → Int} {c k : Int} (hk : inR k) (hb : ¬ (0 ≤ k ∧ k ≤ 1)) : MD l0 g 5 mX9_mend (mp mo h0 I F, nx) [.ref mo, .int (iI (c)), .int (iI (k))] 0 0 (some (.int (iI (-1)))) (mp mo h0 I F, nx) := by
  refine MD.of (by decide +kernel) (by simp [Value.category]) (tle rfl) (fun X b => ?_)
  change WW X g _ _ 0 0 0 [some (.ref mo), some (.int (iI (c))), some (.int (iI (k))), none] [] _
  refine w_aload_n b dX9_mend_0 rfl rfl ?_
  refine w_iload_n b dX9_mend_1 rfl ?_
  refine z_iconst b dX9_mend_2 ?_
  refine z_iconst b dX9_mend_3 ?_
  refine c_V3 b dX9_mend_4 lmX9_137 (mp_obj _ _ _ _) (k_X9_in (by omega) (by omega) (by omega)) (tle rfl) (by omega) (by omega) (by omega) ?_
  refine z_ifb_ne (tgt := 12) b dX9_mend_7 (by decide) (fun c7 => ?_) (fun c7 => ?_)
  · exfalso; omega
  · refine z_iconst b dX9_mend_10 ?_
    exact w_iret b dX9_mend_11 rfl (by omega) (by omega) ⟨iv_eq (by first | rfl | omega | ((try simp only [b2]); ((repeat' split) <;> (first | rfl | omega)))), rfl⟩
set_option maxRecDepth 20000 in
theorem k_X9_mend0 {l0 : Launch} {g : Gw} {mo nx : Nat} {h0 : Nat → va_E} {I : Nat → Int} {F : Nat → Int → Int} {c k : Int} (hci : inR c) (hk : 0 ≤ k ∧ k ≤ 1) (h2_ : 0 ≤ I 2 ∧ I 2 ≤ 12) (h21 : 0 ≤ I 21 ∧ I 21 ≤ 40) (h1_ : 4 ≤ I 1 ∧ I 1 ≤ 40) (h23 : ∀ j, 0 ≤ j → j < 1600 → 0 ≤ F 23 j ∧ F 23 j ≤ 7) (wf : wfC I F) (hc7 : col7 (F 7)) (hb : ¬ (0 ≤ c ∧ c ≤ I 2 - 1) ∨ lenM (F 3) (F 4) (F 5) (I 1) c < 0 ∨ lenM (F 3) (F 4) (F 5) (I 1) c = I 1) : MM l0 g 5 mX9_mend (mp mo h0 I F, nx) [.ref mo, .int (iI (c)), .int (iI (k))] 0 0 (fun r σ' => r = some (.int (iI (if ¬ (0 ≤ c ∧ c ≤ I 2 - 1) then -1 else if lenM (F 3) (F 4) (F 5) (I 1) c < 0 then -6 else -4))) ∧ ∃ (I' : Nat → Int) (F' : Nat → Int → Int), scr I F I' F' ∧ σ' = (mp mo h0 I' F', nx)) := by
  refine MM.of (by decide +kernel) (by simp [Value.category]) (tle rfl) (fun X b => ?_)
  change WW X g _ _ 0 0 0 [some (.ref mo), some (.int (iI (c))), some (.int (iI (k))), none] [] _
  refine w_aload_n b dX9_mend_0 rfl rfl ?_
  refine w_iload_n b dX9_mend_1 rfl ?_
  refine z_iconst b dX9_mend_2 ?_
  refine z_iconst b dX9_mend_3 ?_
  refine c_V3 b dX9_mend_4 lmX9_137 (mp_obj _ _ _ _) (k_X9_in (by omega) (by omega) (by omega)) (tle rfl) (by omega) (by omega) (by omega) ?_
  refine z_ifb_ne (tgt := 12) b dX9_mend_7 (by decide) (fun c7 => ?_) (fun c7 => ?_)
  · refine w_aload_n b dX9_mend_12 rfl rfl ?_
    refine w_iload_n b dX9_mend_13 rfl ?_
    refine w_callV (vs := [_]) b dX9_mend_14 lmX9_172 rfl rfl (mp_obj _ _ _ _) (tle rfl) (by omega) (by omega) (by omega) (k_findMend0 (by omega) h2_ h21 h1_ h23 wf hc7 hb) (fun r9 σ9 hq9 => ?_)
    obtain ⟨rfl, I9, F9, hs9, rfl⟩ := hq9
    have hv9 : (if ¬ (0 ≤ c ∧ c ≤ I 2 - 1) then -1 else if lenM (F 3) (F 4) (F 5) (I 1) c < 0 then -6 else -4) = -1 ∨ (if ¬ (0 ≤ c ∧ c ≤ I 2 - 1) then -1 else if lenM (F 3) (F 4) (F 5) (I 1) c < 0 then -6 else -4) = -6 ∨ (if ¬ (0 ≤ c ∧ c ≤ I 2 - 1) then -1 else if lenM (F 3) (F 4) (F 5) (I 1) c < 0 then -6 else -4) = -4 := by (repeat' split) <;> omega
    generalize hg9 : (if ¬ (0 ≤ c ∧ c ≤ I 2 - 1) then -1 else if lenM (F 3) (F 4) (F 5) (I 1) c < 0 then -6 else -4) = v9 at hv9 ⊢
    refine w_istore_n b dX9_mend_17 (tlt rfl) rfl ?_
    refine w_iload_n b dX9_mend_18 rfl ?_
    refine z_if_eq (tgt := 26) b dX9_mend_19 (by decide) (by omega) (fun c19 => ?_) (fun c19 => ?_)
    · exfalso; omega
    · refine w_iload_n b dX9_mend_22 rfl ?_
      refine w_goto (tgt := 41) b dX9_mend_23 (by decide) ?_
      exact w_iret b dX9_mend_41 rfl (by omega) (by omega) ⟨rfl, I9, F9, hs9, rfl⟩
  · exfalso; omega
set_option maxRecDepth 20000 in
theorem k_X9_mend1 {l0 : Launch} {g : Gw} {mo nx : Nat} {h0 : Nat → va_E} {I : Nat → Int} {F : Nat → Int → Int} {c k : Int} (hk : 0 ≤ k ∧ k ≤ 1) (hc : 0 ≤ c ∧ c < I 2) (h2_ : 0 ≤ I 2 ∧ I 2 ≤ 12) (h21 : 0 ≤ I 21 ∧ I 21 ≤ 40) (h1_ : 4 ≤ I 1 ∧ I 1 ≤ 40) (h23 : ∀ j, 0 ≤ j → j < 1600 → 0 ≤ F 23 j ∧ F 23 j ≤ 7) (wf : wfC I F) (hc7 : col7 (F 7)) (h0_ : 0 ≤ lenM (F 3) (F 4) (F 5) (I 1) c) (hne : ¬ lenM (F 3) (F 4) (F 5) (I 1) c = I 1) : MM l0 g 5 mX9_mend (mp mo h0 I F, nx) [.ref mo, .int (iI (c)), .int (iI (k))] 0 0 (fun r σ' => r = some (.int (iI (if (fmS (F 3) (F 4) (F 5) (I 1) c (F 3 c).toNat 0 (41, I 14, I 15)).1 < 41 then (if k = 0 then (fmS (F 3) (F 4) (F 5) (I 1) c (F 3 c).toNat 0 (41, I 14, I 15)).2.1 else (fmS (F 3) (F 4) (F 5) (I 1) c (F 3 c).toNat 0 (41, I 14, I 15)).2.2) else -4))) ∧ ∃ (a' : Int) (f' e' S' T' U' V' : Int → Int), col7 f' ∧ σ' = (mp mo h0 (mI I (a') (fmS (F 3) (F 4) (F 5) (I 1) c (F 3 c).toNat 0 (41, I 14, I 15))) (cS F (f') (e') (S') (T') (U') (V')), nx)) := by
  refine MM.of (by decide +kernel) (by simp [Value.category]) (tle rfl) (fun X b => ?_)
  change WW X g _ _ 0 0 0 [some (.ref mo), some (.int (iI (c))), some (.int (iI (k))), none] [] _
  refine w_aload_n b dX9_mend_0 rfl rfl ?_
  refine w_iload_n b dX9_mend_1 rfl ?_
  refine z_iconst b dX9_mend_2 ?_
  refine z_iconst b dX9_mend_3 ?_
  refine c_V3 b dX9_mend_4 lmX9_137 (mp_obj _ _ _ _) (k_X9_in (by omega) (by omega) (by omega)) (tle rfl) (by omega) (by omega) (by omega) ?_
  refine z_ifb_ne (tgt := 12) b dX9_mend_7 (by decide) (fun c7 => ?_) (fun c7 => ?_)
  · refine w_aload_n b dX9_mend_12 rfl rfl ?_
    refine w_iload_n b dX9_mend_13 rfl ?_
    refine w_callV (vs := [_]) b dX9_mend_14 lmX9_172 rfl rfl (mp_obj _ _ _ _) (tle rfl) (by omega) (by omega) (by omega) (k_findMend1 hc h2_ h21 h1_ h23 wf hc7 h0_ hne) (fun r9 σ9 hq9 => ?_)
    obtain ⟨rfl, a9, f9, e9, S9, T9, U9, V9, hc9, rfl⟩ := hq9
    by_cases hl9 : (fmS (F 3) (F 4) (F 5) (I 1) c (F 3 c).toNat 0 (41, I 14, I 15)).1 < 41
    · rw [if_pos hl9]
      refine w_istore_n b dX9_mend_17 (tlt rfl) rfl ?_
      refine w_iload_n b dX9_mend_18 rfl ?_
      refine z_if_eq (tgt := 26) b dX9_mend_19 (by decide) (by omega) (fun c19 => ?_) (fun c19 => ?_)
      · refine w_iload_n b dX9_mend_26 rfl ?_
        refine z_if_ne (tgt := 37) b dX9_mend_27 (by decide) (by omega) (fun c27 => ?_) (fun c27 => ?_)
        · refine w_aload_n b dX9_mend_37 rfl rfl ?_
          refine m_get (v := .int (iI ((fmS (F 3) (F 4) (F 5) (I 1) c (F 3 c).toNat 0 (41, I 14, I 15)).2.2))) b dX9_mend_38 lfX9_53 rfl ?_
          exact w_iret b dX9_mend_41 rfl (by omega) (by omega) ⟨iv_eq (by first | (rw [if_pos c27]) | (rw [if_neg c27])), a9, f9, e9, S9, T9, U9, V9, hc9, rfl⟩
        · refine w_aload_n b dX9_mend_30 rfl rfl ?_
          refine m_get (v := .int (iI ((fmS (F 3) (F 4) (F 5) (I 1) c (F 3 c).toNat 0 (41, I 14, I 15)).2.1))) b dX9_mend_31 lfX9_50 rfl ?_
          refine w_goto (tgt := 41) b dX9_mend_34 (by decide) ?_
          exact w_iret b dX9_mend_41 rfl (by omega) (by omega) ⟨iv_eq (by first | (rw [if_pos c27]) | (rw [if_neg c27])), a9, f9, e9, S9, T9, U9, V9, hc9, rfl⟩
      · exfalso; omega
    · rw [if_neg hl9]
      refine w_istore_n b dX9_mend_17 (tlt rfl) rfl ?_
      refine w_iload_n b dX9_mend_18 rfl ?_
      refine z_if_eq (tgt := 26) b dX9_mend_19 (by decide) (by omega) (fun c19 => ?_) (fun c19 => ?_)
      · exfalso; omega
      · refine w_iload_n b dX9_mend_22 rfl ?_
        refine w_goto (tgt := 41) b dX9_mend_23 (by decide) ?_
        exact w_iret b dX9_mend_41 rfl (by omega) (by omega) ⟨iv_eq (by first | rfl | (rw [if_neg hl9])), a9, f9, e9, S9, T9, U9, V9, hc9, rfl⟩
  · exfalso; omega
set_option maxRecDepth 20000 in
theorem k_X9_mended0 {l0 : Launch} {g : Gw} {mo nx : Nat} {h0 : Nat → va_E} {I : Nat → Int} {F : Nat → Int → Int} {c : Int} (hci : inR c) (h2_ : 0 ≤ I 2 ∧ I 2 ≤ 12) (h21 : 0 ≤ I 21 ∧ I 21 ≤ 40) (h1_ : 4 ≤ I 1 ∧ I 1 ≤ 40) (h23 : ∀ j, 0 ≤ j → j < 1600 → 0 ≤ F 23 j ∧ F 23 j ≤ 7) (wf : wfC I F) (hc7 : col7 (F 7)) (hb : ¬ (0 ≤ c ∧ c ≤ I 2 - 1) ∨ lenM (F 3) (F 4) (F 5) (I 1) c < 0 ∨ lenM (F 3) (F 4) (F 5) (I 1) c = I 1) : MM l0 g 5 mX9_mended (mp mo h0 I F, nx) [.ref mo, .int (iI (c))] 0 0 (fun r σ' => r = some (.int (iI (if ¬ (0 ≤ c ∧ c ≤ I 2 - 1) then -1 else if lenM (F 3) (F 4) (F 5) (I 1) c < 0 then -6 else -4))) ∧ ∃ (I' : Nat → Int) (F' : Nat → Int → Int), scr I F I' F' ∧ σ' = (mp mo h0 I' F', nx)) := by
  refine MM.of (by decide +kernel) (by simp [Value.category]) (tle rfl) (fun X b => ?_)
  change WW X g _ _ 0 0 0 [some (.ref mo), some (.int (iI (c))), none] [] _
  refine w_aload_n b dX9_mended_0 rfl rfl ?_
  refine w_iload_n b dX9_mended_1 rfl ?_
  refine w_callV (vs := [_]) b dX9_mended_2 lmX9_172 rfl rfl (mp_obj _ _ _ _) (tle rfl) (by omega) (by omega) (by omega) (k_findMend0 (by omega) h2_ h21 h1_ h23 wf hc7 hb) (fun r9 σ9 hq9 => ?_)
  obtain ⟨rfl, I9, F9, hs9, rfl⟩ := hq9
  have hv9 : (if ¬ (0 ≤ c ∧ c ≤ I 2 - 1) then -1 else if lenM (F 3) (F 4) (F 5) (I 1) c < 0 then -6 else -4) = -1 ∨ (if ¬ (0 ≤ c ∧ c ≤ I 2 - 1) then -1 else if lenM (F 3) (F 4) (F 5) (I 1) c < 0 then -6 else -4) = -6 ∨ (if ¬ (0 ≤ c ∧ c ≤ I 2 - 1) then -1 else if lenM (F 3) (F 4) (F 5) (I 1) c < 0 then -6 else -4) = -4 := by (repeat' split) <;> omega
  generalize hg9 : (if ¬ (0 ≤ c ∧ c ≤ I 2 - 1) then -1 else if lenM (F 3) (F 4) (F 5) (I 1) c < 0 then -6 else -4) = v9 at hv9 ⊢
  refine w_istore_n b dX9_mended_5 (tlt rfl) rfl ?_
  refine w_iload_n b dX9_mended_6 rfl ?_
  refine z_if_eq (tgt := 12) b dX9_mended_7 (by decide) (by omega) (fun c7 => ?_) (fun c7 => ?_)
  · exfalso; omega
  · refine w_iload_n b dX9_mended_10 rfl ?_
    exact w_iret b dX9_mended_11 rfl (by omega) (by omega) ⟨rfl, I9, F9, hs9, rfl⟩
set_option maxRecDepth 20000 in
theorem k_X9_mended1 {l0 : Launch} {g : Gw} {mo nx : Nat} {h0 : Nat → va_E} {I : Nat → Int} {F : Nat → Int → Int} {c : Int} (hc : 0 ≤ c ∧ c < I 2) (h2_ : 0 ≤ I 2 ∧ I 2 ≤ 12) (h21 : 0 ≤ I 21 ∧ I 21 ≤ 40) (h1_ : 4 ≤ I 1 ∧ I 1 ≤ 40) (h23 : ∀ j, 0 ≤ j → j < 1600 → 0 ≤ F 23 j ∧ F 23 j ≤ 7) (wf : wfC I F) (hc7 : col7 (F 7)) (h0_ : 0 ≤ lenM (F 3) (F 4) (F 5) (I 1) c) (hne : ¬ lenM (F 3) (F 4) (F 5) (I 1) c = I 1) (hl9 : ¬ (fmS (F 3) (F 4) (F 5) (I 1) c (F 3 c).toNat 0 (41, I 14, I 15)).1 < 41) : MM l0 g 5 mX9_mended (mp mo h0 I F, nx) [.ref mo, .int (iI (c))] 0 0 (fun r σ' => r = some (.int (iI (-4))) ∧ ∃ (a' : Int) (f' e' S' T' U' V' : Int → Int), col7 f' ∧ σ' = (mp mo h0 (mI I (a') (fmS (F 3) (F 4) (F 5) (I 1) c (F 3 c).toNat 0 (41, I 14, I 15))) (cS F (f') (e') (S') (T') (U') (V')), nx)) := by
  refine MM.of (by decide +kernel) (by simp [Value.category]) (tle rfl) (fun X b => ?_)
  change WW X g _ _ 0 0 0 [some (.ref mo), some (.int (iI (c))), none] [] _
  refine w_aload_n b dX9_mended_0 rfl rfl ?_
  refine w_iload_n b dX9_mended_1 rfl ?_
  refine w_callV (vs := [_]) b dX9_mended_2 lmX9_172 rfl rfl (mp_obj _ _ _ _) (tle rfl) (by omega) (by omega) (by omega) (k_findMend1 hc h2_ h21 h1_ h23 wf hc7 h0_ hne) (fun r9 σ9 hq9 => ?_)
  obtain ⟨rfl, a9, f9, e9, S9, T9, U9, V9, hc9, rfl⟩ := hq9
  rw [if_neg hl9]
  refine w_istore_n b dX9_mended_5 (tlt rfl) rfl ?_
  refine w_iload_n b dX9_mended_6 rfl ?_
  refine z_if_eq (tgt := 12) b dX9_mended_7 (by decide) (by omega) (fun c7 => ?_) (fun c7 => ?_)
  · exfalso; omega
  · refine w_iload_n b dX9_mended_10 rfl ?_
    exact w_iret b dX9_mended_11 rfl (by omega) (by omega) ⟨rfl, a9, f9, e9, S9, T9, U9, V9, hc9, rfl⟩
/-- what was found as a mend is one -/
def okP (S K N : Int → Int) (w c : Int) (p : Int × Int × Int) : Prop := p.1 < 41 → (0 ≤ p.2.1 ∧ p.2.1 < S c) ∧ K (12 * c + p.2.1) = 0 ∧ (1 ≤ p.2.2 ∧ p.2.2 ≤ 40) ∧ lenM S K (fu N (12 * c + p.2.1) p.2.2) w c = w
theorem okP_V {S K N : Int → Int} {w c was s : Int} (hs : 0 ≤ s ∧ s < S c) (hk : K (12 * c + s) = 0) : ∀ (n : Nat) (v : Int) (p : Int × Int × Int), (v + n = 41 ∧ 1 ≤ v) → okP S K N w c p → okP S K N w c (fmV S K N w c (12 * c + s) was s n v p) := by
  intro n
  induction n with
  | zero => intro v p _ h; exact h
  | succ n ih =>
    intro v p h1 h
    unfold fmV
    refine ih (v + 1) _ (by omega) ?_
    by_cases hq : (if v < was then was - v else v - was) < p.1 ∧ lenM S K (fu N (12 * c + s) v) w c = w
    · rw [if_pos hq]
      exact fun _ => ⟨hs, hk, (by show 1 ≤ v ∧ v ≤ 40; omega), hq.2⟩
    · rw [if_neg hq]
      exact h
theorem okP_S {S K N : Int → Int} {w c : Int} : ∀ (n : Nat) (s : Int) (p : Int × Int × Int), (s + n = S c ∧ 0 ≤ s) → okP S K N w c p → okP S K N w c (fmS S K N w c n s p) := by
  intro n
  induction n with
  | zero => intro s p _ h; exact h
  | succ n ih =>
    intro s p h1 h
    unfold fmS
    refine ih (s + 1) _ (by omega) ?_
    by_cases hk : K (12 * c + s) = 0
    · rw [if_pos hk]
      exact okP_V (by omega) hk 40 1 p (by omega) h
    · rw [if_neg hk]
      exact h
set_option maxRecDepth 20000 in
theorem k_X9_mended2 {l0 : Launch} {g : Gw} {mo nx : Nat} {h0 : Nat → va_E} {I : Nat → Int} {F : Nat → Int → Int} {c : Int} (hc : 0 ≤ c ∧ c < I 2) (h2_ : 0 ≤ I 2 ∧ I 2 ≤ 12) (h21 : 0 ≤ I 21 ∧ I 21 ≤ 40) (h1_ : 4 ≤ I 1 ∧ I 1 ≤ 40) (h23 : ∀ j, 0 ≤ j → j < 1600 → 0 ≤ F 23 j ∧ F 23 j ≤ 7) (wf : wfC I F) (hc7 : col7 (F 7)) (h0_ : 0 ≤ lenM (F 3) (F 4) (F 5) (I 1) c) (hne : ¬ lenM (F 3) (F 4) (F 5) (I 1) c = I 1) (hl9 : (fmS (F 3) (F 4) (F 5) (I 1) c (F 3 c).toNat 0 (41, I 14, I 15)).1 < 41) : MM l0 g 5 mX9_mended (mp mo h0 I F, nx) [.ref mo, .int (iI (c))] 0 0 (fun r σ' => r = some (.int (iI (I 1))) ∧ ∃ (a' : Int) (f' e' S' T' U' V' : Int → Int), col7 f' ∧ σ' = (mp mo h0 (mI I a' (fmS (F 3) (F 4) (F 5) (I 1) c (F 3 c).toNat 0 (41, I 14, I 15))) (cS (va_up F 5 (fu (F 5) (12 * c + (fmS (F 3) (F 4) (F 5) (I 1) c (F 3 c).toNat 0 (41, I 14, I 15)).2.1) (fmS (F 3) (F 4) (F 5) (I 1) c (F 3 c).toNat 0 (41, I 14, I 15)).2.2)) f' e' S' T' U' V'), nx)) := by
  refine MM.of (by decide +kernel) (by simp [Value.category]) (tle rfl) (fun X b => ?_)
  change WW X g _ _ 0 0 0 [some (.ref mo), some (.int (iI (c))), none] [] _
  refine w_aload_n b dX9_mended_0 rfl rfl ?_
  refine w_iload_n b dX9_mended_1 rfl ?_
  refine w_callV (vs := [_]) b dX9_mended_2 lmX9_172 rfl rfl (mp_obj _ _ _ _) (tle rfl) (by omega) (by omega) (by omega) (k_findMend1 hc h2_ h21 h1_ h23 wf hc7 h0_ hne) (fun r9 σ9 hq9 => ?_)
  obtain ⟨rfl, a9, f9, e9, S9, T9, U9, V9, hc9, rfl⟩ := hq9
  rw [if_pos hl9]
  have hst := (wf c hc.1 hc.2).1
  have hok := okP_S (S := F 3) (K := F 4) (N := F 5) (w := I 1) (c := c) (F 3 c).toNat 0 (41, I 14, I 15) (by omega) (fun z => absurd z (by show ¬ (41 : Int) < 41; omega)) hl9
  refine w_istore_n b dX9_mended_5 (tlt rfl) rfl ?_
  refine w_iload_n b dX9_mended_6 rfl ?_
  refine z_if_eq (tgt := 12) b dX9_mended_7 (by decide) (by omega) (fun c7 => ?_) (fun c7 => ?_)
  · refine w_aload_n b dX9_mended_12 rfl rfl ?_
    refine m_get b dX9_mended_13 lfX9_23 rfl ?_
    refine z_bipush b dX9_mended_16 (by decide) ?_
    refine w_iload_n b dX9_mended_18 rfl ?_
    refine z_imul b dX9_mended_19 ?_
    refine w_aload_n b dX9_mended_20 rfl rfl ?_
    refine m_get (v := .int (iI ((fmS (F 3) (F 4) (F 5) (I 1) c (F 3 c).toNat 0 (41, I 14, I 15)).2.1))) b dX9_mended_21 lfX9_50 rfl ?_
    refine z_iadd b dX9_mended_24 ?_
    refine w_aload_n b dX9_mended_25 rfl rfl ?_
    refine m_get (v := .int (iI ((fmS (F 3) (F 4) (F 5) (I 1) c (F 3 c).toNat 0 (41, I 14, I 15)).2.2))) b dX9_mended_26 lfX9_53 rfl ?_
    refine m_ast b dX9_mended_29 rfl (by omega) ?_
    refine ww_cast (σ' := (mp mo h0 (mI I a9 (fmS (F 3) (F 4) (F 5) (I 1) c (F 3 c).toNat 0 (41, I 14, I 15))) (cS (va_up F 5 (fu (F 5) (12 * c + (fmS (F 3) (F 4) (F 5) (I 1) c (F 3 c).toNat 0 (41, I 14, I 15)).2.1) (fmS (F 3) (F 4) (F 5) (I 1) c (F 3 c).toNat 0 (41, I 14, I 15)).2.2)) f9 e9 S9 T9 U9 V9), nx)) rfl rfl (by rw [← cS_5 F (F 5), va_up_same]; rfl) ?_
    refine w_aload_n b dX9_mended_30 rfl rfl ?_
    refine w_iload_n b dX9_mended_31 rfl ?_
    cases hR : callR (mI I a9 (fmS (F 3) (F 4) (F 5) (I 1) c (F 3 c).toNat 0 (41, I 14, I 15))) (cS (va_up F 5 (fu (F 5) (12 * c + (fmS (F 3) (F 4) (F 5) (I 1) c (F 3 c).toNat 0 (41, I 14, I 15)).2.1) (fmS (F 3) (F 4) (F 5) (I 1) c (F 3 c).toNat 0 (41, I 14, I 15)).2.2)) f9 e9 S9 T9 U9 V9) f9 c with
    | none =>
      exfalso
      have hl8 := callR_none hR
      have : lenM (F 3) (F 4) (fu (F 5) (12 * c + (fmS (F 3) (F 4) (F 5) (I 1) c (F 3 c).toNat 0 (41, I 14, I 15)).2.1) (fmS (F 3) (F 4) (F 5) (I 1) c (F 3 c).toNat 0 (41, I 14, I 15)).2.2) (I 1) c = -6 := hl8
      omega
    | some t =>
      refine w_callV (vs := [_]) b dX9_mended_32 lmX9_168 rfl rfl (mp_obj _ _ _ _) (tle rfl) (by omega) (by omega) (by omega) (k_call1 (I := mI I a9 (fmS (F 3) (F 4) (F 5) (I 1) c (F 3 c).toNat 0 (41, I 14, I 15))) (F := cS (va_up F 5 (fu (F 5) (12 * c + (fmS (F 3) (F 4) (F 5) (I 1) c (F 3 c).toNat 0 (41, I 14, I 15)).2.1) (fmS (F 3) (F 4) (F 5) (I 1) c (F 3 c).toNat 0 (41, I 14, I 15)).2.2)) f9 e9 S9 T9 U9 V9) (c := c) hc h2_ h21 h1_ h23 (wfC_fu (I := I) rfl wf hok.2.1 hok.2.2.1) hc9 hR) (fun r9 σ9 hq9 => ?_)
      obtain ⟨rfl, ht8, hc8, S8, T8, U8, V8, rfl⟩ := hq9
      have hl8 := callR_some hR
      have et : t.1 = I 1 := hl8.symm.trans hok.2.2.2
      exact w_iret b dX9_mended_35 rfl (by omega) (by omega) ⟨iv_eq et, t.1, t.2.1, _, S8, T8, U8, V8, hc8, by rw [mI_13, cS_cS]⟩
  · exfalso; omega
