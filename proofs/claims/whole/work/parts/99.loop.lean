/-! THE LAW: its loop (by p99b.py) -/
set_option maxRecDepth 20000 in
theorem l_law {X : Cx} {l0 : Launch} {g : Gw} {Z : State → Prop} {w d mc ms : Nat} (b : BX X l0 g mL_law d mc ms) (hd : 41 ≤ d) (hl : l0.stackTraces = false) (hL : gL g ≤ 3073) : ∀ (n kc ks : Nat) (i : Int) (σ : Sg), 1 ≤ i → i ≤ 5000 → (gL g : Int) - 6 < i + 6 * n → WI w σ → kc + 3 * n ≤ mc → ks + 19 * n ≤ ms → (∀ kc' ks' σ', kc' ≤ mc → ks' ≤ ms → WW X g mL_law.2.2.1 Z kc' ks' 1446 [some (.float 1), some (.ref 0), some (.ref 257), some (.ref 290), none, none, none, none] [] σ') → WW X g mL_law.2.2.1 Z kc ks 33 (LL i) [] σ := by
  intro n
  induction n with
  | zero =>
    intro kc ks i σ i1 i2 i3 hW hkc hks kk
    refine w_iload b dL_law_33 rfl ?_
    refine w_aload_n b dL_law_35 rfl rfl ?_
    refine z_slen b dL_law_36 ?_
    refine z_bipush b dL_law_37 (by decide) ?_
    refine z_isub b dL_law_39 ?_
    refine z_icmp_gt (tgt := 1446) b dL_law_40 (by decide) (by omega) (fun c => ?_) (fun c => ?_)
    · refine ww_forget 4 ?_
      exact kk _ _ σ (by omega) (by omega)
    · exfalso; omega
  | succ n ih =>
    intro kc ks i σ i1 i2 i3 hW hkc hks kk
    refine w_iload b dL_law_33 rfl ?_
    refine w_aload_n b dL_law_35 rfl rfl ?_
    refine z_slen b dL_law_36 ?_
    refine z_bipush b dL_law_37 (by decide) ?_
    refine z_isub b dL_law_39 ?_
    refine z_icmp_gt (tgt := 1446) b dL_law_40 (by decide) (by omega) (fun c => ?_) (fun c => ?_)
    · refine ww_forget 4 ?_
      exact kk _ _ σ (by omega) (by omega)
    · have next : ∀ kc' ks' σ', kc' ≤ kc + 3 → ks' ≤ ks + 19 → WI w σ' → WW X g mL_law.2.2.1 Z kc' ks' 1440 (LL i) [] σ' := fun kc' ks' σ' k1 k2 hW' => by
        refine z_iinc b dL_law_1440 rfl rfl rfl ?_
        refine w_goto (tgt := 33) b dL_law_1443 (by decide) ?_
        exact ih kc' ks' (i + 6) σ' (by omega) (by omega) (by omega) hW' (by omega) (by omega) kk
      have hi : 1 ≤ i ∧ i + 5 < (gL g : Int) ∧ i < 100000 := by omega
      refine w_aload_n b dL_law_43 rfl rfl ?_
      refine w_iload b dL_law_44 rfl ?_
      refine z_sld b dL_law_46 (by omega) ?_
      refine z_bipush b dL_law_47 (by decide) ?_
      refine w_iand b dL_law_49 ?_
      generalize iI (sc g i) &&& iI 63 = x
      by_cases h0 : x.toInt = 0
      · refine w_tswI (off := 150) (tgt := 200) b dL_law_50 (by omega) (by omega) (by rw [h0]; rfl) (by decide) ?_
        exact law_chant b hd hl hi hW (by omega) (by omega) next
      by_cases h1 : x.toInt = 1
      · refine w_tswI (off := 163) (tgt := 213) b dL_law_50 (by omega) (by omega) (by rw [h1]; rfl) (by decide) ?_
        exact law_step b hd hl hi hW (by omega) (by omega) next
      by_cases h2 : x.toInt = 2
      · refine w_tswI (off := 212) (tgt := 262) b dL_law_50 (by omega) (by omega) (by rw [h2]; rfl) (by decide) ?_
        exact law_length b hd hl hi hW (by omega) (by omega) next
      by_cases h3 : x.toInt = 3
      · refine w_tswI (off := 237) (tgt := 287) b dL_law_50 (by omega) (by omega) (by rw [h3]; rfl) (by decide) ?_
        exact law_colour b hd hl hi hW (by omega) (by omega) next
      by_cases h4 : x.toInt = 4
      · refine w_tswI (off := 274) (tgt := 324) b dL_law_50 (by omega) (by omega) (by rw [h4]; rfl) (by decide) ?_
        exact law_closes b hd hl hi hW (by omega) (by omega) next
      by_cases h5 : x.toInt = 5
      · refine w_tswI (off := 299) (tgt := 349) b dL_law_50 (by omega) (by omega) (by rw [h5]; rfl) (by decide) ?_
        exact law_mend b hd hl hi hW (by omega) (by omega) next
      by_cases h6 : x.toInt = 6
      · refine w_tswI (off := 336) (tgt := 386) b dL_law_50 (by omega) (by omega) (by rw [h6]; rfl) (by decide) ?_
        exact law_mended b hd hl hi hW (by omega) (by omega) next
      by_cases h7 : x.toInt = 7
      · refine w_tswI (off := 361) (tgt := 411) b dL_law_50 (by omega) (by omega) (by rw [h7]; rfl) (by decide) ?_
        exact law_told b hd hl hi hW (by omega) (by omega) next
      by_cases h8 : x.toInt = 8
      · refine w_tswI (off := 410) (tgt := 460) b dL_law_50 (by omega) (by omega) (by rw [h8]; rfl) (by decide) ?_
        exact law_hand b hd hl hi hW (by omega) (by omega) next
      by_cases h9 : x.toInt = 9
      · refine w_tswI (off := 459) (tgt := 509) b dL_law_50 (by omega) (by omega) (by rw [h9]; rfl) (by decide) ?_
        exact law_dye b hd hl hi hW (by omega) (by omega) next
      by_cases h10 : x.toInt = 10
      · refine w_tswI (off := 508) (tgt := 558) b dL_law_50 (by omega) (by omega) (by rw [h10]; rfl) (by decide) ?_
        exact law_tie b hd hl hi hW (by omega) (by omega) next
      by_cases h11 : x.toInt = 11
      · refine w_tswI (off := 533) (tgt := 583) b dL_law_50 (by omega) (by omega) (by rw [h11]; rfl) (by decide) ?_
        exact law_knot b hd hl hi hW (by omega) (by omega) next
      by_cases h12 : x.toInt = 12
      · refine w_tswI (off := 570) (tgt := 620) b dL_law_50 (by omega) (by omega) (by rw [h12]; rfl) (by decide) ?_
        exact law_look b hd hl hi hW (by omega) (by omega) next
      by_cases h13 : x.toInt = 13
      · refine w_tswI (off := 619) (tgt := 669) b dL_law_50 (by omega) (by omega) (by rw [h13]; rfl) (by decide) ?_
        exact law_found b hd hl hi hW (by omega) (by omega) next
      by_cases h14 : x.toInt = 14
      · refine w_tswI (off := 668) (tgt := 718) b dL_law_50 (by omega) (by omega) (by rw [h14]; rfl) (by decide) ?_
        exact law_cut b hd hl hi hW (by omega) (by omega) next
      by_cases h15 : x.toInt = 15
      · refine w_tswI (off := 681) (tgt := 731) b dL_law_50 (by omega) (by omega) (by rw [h15]; rfl) (by decide) ?_
        exact law_minutes b hd hl hi hW (by omega) (by omega) next
      by_cases h16 : x.toInt = 16
      · refine w_tswI (off := 706) (tgt := 756) b dL_law_50 (by omega) (by omega) (by rw [h16]; rfl) (by decide) ?_
        exact law_shifts b hd hl hi hW (by omega) (by omega) next
      by_cases h17 : x.toInt = 17
      · refine w_tswI (off := 731) (tgt := 781) b dL_law_50 (by omega) (by omega) (by rw [h17]; rfl) (by decide) ?_
        exact law_wool b hd hl hi hW (by omega) (by omega) next
      by_cases h18 : x.toInt = 18
      · refine w_tswI (off := 756) (tgt := 806) b dL_law_50 (by omega) (by omega) (by rw [h18]; rfl) (by decide) ?_
        exact law_hands b hd hl hi hW (by omega) (by omega) next
      by_cases h19 : x.toInt = 19
      · refine w_tswI (off := 793) (tgt := 843) b dL_law_50 (by omega) (by omega) (by rw [h19]; rfl) (by decide) ?_
        exact law_unlike b hd hl hi hW (by omega) (by omega) next
      by_cases h20 : x.toInt = 20
      · refine w_tswI (off := 830) (tgt := 880) b dL_law_50 (by omega) (by omega) (by rw [h20]; rfl) (by decide) ?_
        exact law_side b hd hl hi hW (by omega) (by omega) next
      by_cases h21 : x.toInt = 21
      · refine w_tswI (off := 879) (tgt := 929) b dL_law_50 (by omega) (by omega) (by rw [h21]; rfl) (by decide) ?_
        exact law_corner b hd hl hi hW (by omega) (by omega) next
      by_cases h22 : x.toInt = 22
      · refine w_tswI (off := 940) (tgt := 990) b dL_law_50 (by omega) (by omega) (by rw [h22]; rfl) (by decide) ?_
        exact law_fits b hd hl hi hW (by omega) (by omega) next
      by_cases h23 : x.toInt = 23
      · refine w_tswI (off := 989) (tgt := 1039) b dL_law_50 (by omega) (by omega) (by rw [h23]; rfl) (by decide) ?_
        exact law_village b hd hl hi hW (by omega) (by omega) next
      by_cases h24 : x.toInt = 24
      · refine w_tswI (off := 1014) (tgt := 1064) b dL_law_50 (by omega) (by omega) (by rw [h24]; rfl) (by decide) ?_
        exact law_tree b hd hl hi hW (by omega) (by omega) next
      by_cases h25 : x.toInt = 25
      · refine w_tswI (off := 1027) (tgt := 1077) b dL_law_50 (by omega) (by omega) (by rw [h25]; rfl) (by decide) ?_
        exact law_link b hd hl hi hW (by omega) (by omega) next
      by_cases h26 : x.toInt = 26
      · refine w_tswI (off := 1052) (tgt := 1102) b dL_law_50 (by omega) (by omega) (by rw [h26]; rfl) (by decide) ?_
        exact law_rivals b hd hl hi hW (by omega) (by omega) next
      by_cases h27 : x.toInt = 27
      · refine w_tswI (off := 1065) (tgt := 1115) b dL_law_50 (by omega) (by omega) (by rw [h27]; rfl) (by decide) ?_
        exact law_count b hd hl hi hW (by omega) (by omega) next
      by_cases h28 : x.toInt = 28
      · refine w_tswI (off := 1090) (tgt := 1140) b dL_law_50 (by omega) (by omega) (by rw [h28]; rfl) (by decide) ?_
        exact law_keep b hd hl hi hW (by omega) (by omega) next
      by_cases h29 : x.toInt = 29
      · refine w_tswI (off := 1151) (tgt := 1201) b dL_law_50 (by omega) (by omega) (by rw [h29]; rfl) (by decide) ?_
        exact law_make b hd hl hi hW (by omega) (by omega) next
      by_cases h30 : x.toInt = 30
      · refine w_tswI (off := 1200) (tgt := 1250) b dL_law_50 (by omega) (by omega) (by rw [h30]; rfl) (by decide) ?_
        exact law_element b hd hl hi hW (by omega) (by omega) next
      by_cases h31 : x.toInt = 31
      · refine w_tswI (off := 1267) (tgt := 1317) b dL_law_50 (by omega) (by omega) (by rw [h31]; rfl) (by decide) ?_
        exact law_copy b hd hl hi hW (by omega) (by omega) next
      by_cases h32 : x.toInt = 32
      · refine w_tswI (off := 1340) (tgt := 1390) b dL_law_50 (by omega) (by omega) (by rw [h32]; rfl) (by decide) ?_
        exact law_weight b hd hl hi hW (by omega) (by omega) next
      by_cases h33 : x.toInt = 33
      · refine w_tswI (off := 1365) (tgt := 1415) b dL_law_50 (by omega) (by omega) (by rw [h33]; rfl) (by decide) ?_
        exact law_toss b hd hl hi hW (by omega) (by omega) next
      refine w_tswO (tgt := 1440) b dL_law_50 (by omega) (by decide) ?_
      exact next _ _ σ (by omega) (by omega) hW
set_option maxRecDepth 20000 in
theorem k_L_cell {l0 : Launch} {g : Gw} {σ : Sg} (hL : gL g ≤ 3073) : MD l0 g 0 mL_cell σ [.float 1, .int (iI 0)] 0 0 (some (.int (iI (if 0 < gL g then sc g 0 else 0)))) σ := by
  refine MD.of (by decide +kernel) (by simp [Value.category]) (tle rfl) (fun X b => ?_)
  change WW X g _ _ 0 0 0 [some (.float 1), some (.int (iI 0))] [] _
  refine w_iload_n b dL_cell_0 rfl ?_
  refine w_aload_n b dL_cell_1 rfl rfl ?_
  refine z_slen b dL_cell_2 ?_
  refine z_icmp_ge (tgt := 12) b dL_cell_3 (by decide) (by omega) (fun c => ?_) (fun c => ?_)
  · refine z_iconst b dL_cell_12 ?_
    exact w_iret b dL_cell_13 rfl (by omega) (by omega) ⟨iv_eq (by rw [if_neg (by omega)]), rfl⟩
  · refine w_aload_n b dL_cell_6 rfl rfl ?_
    refine w_iload_n b dL_cell_7 rfl ?_
    refine z_sld b dL_cell_8 (by omega) ?_
    refine w_goto (tgt := 13) b dL_cell_9 (by decide) ?_
    exact w_iret b dL_cell_13 rfl (by omega) (by omega) ⟨iv_eq (by rw [if_pos (by omega)]), rfl⟩
