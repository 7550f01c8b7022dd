/-! THE LAW: its start (by p99c.py) -/
theorem A0_ne {q : Nat} (h : 4 ≤ q) : A0_ q = fun _ => 0 := by
  unfold A0_
  rw [if_neg (by omega), if_neg (by omega)]
theorem b16_0 : ∀ j, 0 ≤ j → j ≤ 5 → 1 ≤ F0_ 16 j ∧ F0_ 16 j ≤ 40 := fun j h1 h2 => by
  rcases (show j = 0 ∨ j = 1 ∨ j = 2 ∨ j = 3 ∨ j = 4 ∨ j = 5 by omega) with z | z | z | z | z | z <;> (rw [z]; decide)
theorem b17_0 : ∀ j, 0 ≤ j → j ≤ 5 → 1 ≤ F0_ 17 j ∧ F0_ 17 j ≤ 20 := fun j h1 h2 => by
  rcases (show j = 0 ∨ j = 1 ∨ j = 2 ∨ j = 3 ∨ j = 4 ∨ j = 5 by omega) with z | z | z | z | z | z <;> (rw [z]; decide)
theorem z0in : inR (0 : Int) := by decide
theorem z0 {b : Int} (h : 0 ≤ b) : (0 : Int) ≤ 0 ∧ (0 : Int) ≤ b := ⟨Int.le_refl 0, h⟩
theorem RCa_0 {w : Nat} {x : Int} (hw : 4 ≤ w ∧ w ≤ 40) (hwx : (w : Int) = 4 + x % 37) : RCa w C0_ A0_ (I0 x) F0_ := ⟨hwx.symm, hw, rfl, z0 (by decide), rfl, b16_0, rfl, b17_0, fun _ _ _ => rfl, fun _ _ _ => z0 (by decide), fun _ _ _ _ _ _ => by rw [A0_ne (by omega)]; rfl, fun _ _ _ => z0 (by decide), fun _ _ _ _ _ _ => by rw [A0_ne (by omega)]; rfl, fun _ _ _ => z0 (by decide), fun _ _ _ _ _ _ => rfl, fun _ _ _ _ _ _ => by rw [A0_ne (by omega)]; rfl, fun _ _ _ _ _ _ => by rw [A0_ne (by omega)]; rfl, fun _ _ _ _ _ _ => by rw [A0_ne (by omega)]; rfl, fun _ _ _ _ _ _ => by rw [A0_ne (by omega)]; rfl, fun _ _ _ => z0 (by decide), fun _ _ _ => z0 (by decide), fun _ _ _ => z0 (by decide), fun _ _ _ => z0 (by decide), fun _ _ _ => rfl, fun _ _ _ => z0 (by decide)⟩
theorem RSx_0 {w : Nat} {x : Int} (hw : 4 ≤ w ∧ w ≤ 40) (hwx : (w : Int) = 4 + x % 37) : RSx w C0_ A0_ V0_ (va_up (fun _ => nilE) 290 (.inl (3, 1, .inr (.inl (fun _ => 0))))) 291 (I0 x) F0_ (fun _ => 0) (fun _ _ => 0) (fun _ => 0) := by
  refine ⟨⟨rfl, z0 (by decide), fun c h1 h2 => absurd h2 (by show ¬ c < 0; omega), .inl ⟨rfl, rfl⟩, fun c hc => absurd hc (by show ¬ (c : Int) < 0; omega), fun c hc => absurd hc (by show ¬ (c : Int) < 0; omega), fun c s hc => absurd hc (by show ¬ (c : Int) < 0; omega), fun _ _ _ => ⟨z0in, z0in, z0in⟩⟩, RCa_0 hw hwx, fun d d1 d2 => ⟨rfl, .inl rfl, z0 (by decide), z0 (by decide), fun q => absurd q (by show ¬ (3 : Int) ≤ 0; decide), fun i i1 i2 => absurd i2 (by show ¬ i < 0; omega), fun q => absurd q (by show ¬ (0 : Int) = 1; decide), fun _ => by unfold V0_; rw [if_neg (by omega)]⟩, ⟨rfl, z0 (by decide), rfl, fun _ _ _ => ⟨Int.le_refl 0, (by decide : (0 : Int) < 2 ^ 8)⟩, rfl, rfl, fun i i1 i2 => absurd i2 (by show ¬ i < 0; omega), fun _ _ _ => z0 (by decide)⟩, fun _ _ _ => z0 (by decide), fun _ _ _ => z0 (by decide), fun _ _ _ => z0 (by decide), Nat.le_refl _, ⟨_, va_up_self _ _ _⟩⟩
theorem pm_0 {mo : Nat} {fs : List Value} (h : Nat → va_E) : va_up h mo (.inr (9, fs)) = pm mo h fs [] := by
  funext q
  unfold pm
  by_cases c : q = mo
  · rw [if_pos c, c, va_up_self]
  · rw [if_neg c, va_up_ne _ _ c]
    simp
set_option maxRecDepth 20000 in
theorem law_start {X : Cx} {l0 : Launch} {g : Gw} {Z : State → Prop} {d mc ms : Nat} (b : BX X l0 g mL_law d mc ms) (hd : 41 ≤ d) (hl : l0.stackTraces = false) (hL : gL g ≤ 3073) (hmc : 2000 ≤ mc) (hms : 30000 ≤ ms) (kk : ∀ kc' ks' σ', kc' ≤ mc → ks' ≤ ms → WW X g mL_law.2.2.1 Z kc' ks' 1446 [some (.float 1), some (.ref 0), some (.ref 257), some (.ref 290), none, none, none, none] [] σ') : WW X g mL_law.2.2.1 Z 0 0 0 [some (.float 1), none, none, none, none, none, none, none] [] (fun _ => nilE, 0) := by
  have hx : inR (if 0 < gL g then sc g 0 else 0) := by
    split
    · exact sc_in g 0
    · exact ⟨by decide, by decide⟩
  obtain ⟨w, hwx⟩ : ∃ w : Nat, (w : Int) = 4 + (if 0 < gL g then sc g 0 else 0) % 37 := ⟨(4 + (if 0 < gL g then sc g 0 else 0) % 37).toNat, by omega⟩
  have hw : 4 ≤ w ∧ w ≤ 40 := by omega
  refine w_new b dL_law_0 lnL_8 (by omega) (by simp <;> omega) ?_
  change WW X g _ _ (0 + 1) (0 + 5) _ _ _ (va_up (fun _ => nilE) 0 (.inr (8, [.int 0, .null, .null, .null, .null])), 1)
  refine w_dup b dL_law_3 rfl ?_
  refine w_aload_n b dL_law_4 rfl rfl ?_
  refine z_iconst b dL_law_5 ?_
  refine c_S2 b dL_law_6 lmL_17 (k_L_cell hL) (tle rfl) (by omega) (by omega) (by omega) ?_
  refine c_I1 b dL_law_9 lmL_23 (k_X8_init hx hw hwx) (tle rfl) (by omega) (by omega) (by omega) ?_
  refine w_astore_n b dL_law_12 (tlt rfl) rfl rfl ?_
  refine w_new b dL_law_13 lnL_26 (by omega) (by simp <;> omega) ?_
  change WW X g _ _ (0 + 1 + 0 + 256 + 1) (0 + 5 + 0 + 8568 + 42) _ _ _ (va_up (cp w C0_ A0_ V0_ (fun _ => nilE)) 257 (.inr (9, [.int 0, .int 0, .int 0, .null, .null, .null, .null, .null, .null, .null, .null, .null, .null, .int 0, .int 0, .int 0, .null, .null, .null, .null, .null, .int 0, .null, .null, .null, .null, .null, .int 0, .int 0, .int 0, .null, .null, .null, .null, .null, .null, .null, .null, .null, .null, .null, .null])), 258)
  rw [show va_up (cp w C0_ A0_ V0_ (fun _ => nilE)) 257 (.inr (9, [.int 0, .int 0, .int 0, .null, .null, .null, .null, .null, .null, .null, .null, .null, .null, .int 0, .int 0, .int 0, .null, .null, .null, .null, .null, .int 0, .null, .null, .null, .null, .null, .int 0, .int 0, .int 0, .null, .null, .null, .null, .null, .null, .null, .null, .null, .null, .null, .null])) = pm 257 (cp w C0_ A0_ V0_ (fun _ => nilE)) [.int 0, .int 0, .int 0, .null, .null, .null, .null, .null, .null, .null, .null, .null, .null, .int 0, .int 0, .int 0, .null, .null, .null, .null, .null, .int 0, .null, .null, .null, .null, .null, .int 0, .int 0, .int 0, .null, .null, .null, .null, .null, .null, .null, .null, .null, .null, .null, .null] [] from pm_0 _]
  refine w_dup b dL_law_16 rfl ?_
  refine w_aload_n b dL_law_17 rfl rfl ?_
  refine z_iconst b dL_law_18 ?_
  refine c_S2 b dL_law_19 lmL_17 (k_L_cell hL) (tle rfl) (by omega) (by omega) (by omega) ?_
  refine c_I1 b dL_law_22 lmL_28 (k_X9_init (mo := 257) hx) (tle rfl) (by omega) (by omega) (by omega) ?_
  refine w_astore_n b dL_law_25 (tlt rfl) rfl rfl ?_
  refine z_iconst b dL_law_26 ?_
  refine w_newa (t := 3) (N := 1) b dL_law_27 (by decide +kernel) (by decide) rfl (by decide) (by decide) (by decide) (by omega) (by omega) ?_
  refine w_astore_n b dL_law_29 (tlt rfl) rfl rfl ?_
  refine z_iconst b dL_law_30 ?_
  refine w_istore b dL_law_31 (tlt rfl) rfl ?_
  refine ww_cast (L' := LL 1) (σ' := (cp w C0_ A0_ V0_ (mp 257 (va_up (fun _ => nilE) 290 (.inl (3, 1, .inr (.inl (fun _ => 0))))) (I0 (if 0 < gL g then sc g 0 else 0)) F0_), 291)) rfl rfl ?_ ?_
  · rw [← mp_uph (by decide), ← cp_uph (by decide), cp_mp]
    rfl
  exact l_law b hd hl hL 513 _ _ 1 _ (by decide) (by decide) (by omega) ⟨C0_, A0_, V0_, _, 291, _, _, _, _, _, rfl, RSx_0 hw hwx⟩ (by omega) (by omega) kk
