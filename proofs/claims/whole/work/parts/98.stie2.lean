/-! CLASS AND REFERENCE: the call tie (by p98.py) -/
theorem edM_out {N K : Int → Int} {rec : Int → Int → Int × Int → Option (Int × Int)} {c base wide : Int} : ∀ (n : Nat) (s : Int) (p : Int × Int) (e : Int → Int) (j : Int), s + n ≤ j → edM N K rec c base wide n s p e j = e j := by
  intro n
  induction n with
  | zero => intro s p e j _; rfl
  | succ n ih =>
    intro s p e j hj
    unfold edM
    cases msS N K rec (12 * c + s) base wide p with
    | none => rfl
    | some p1 =>
      show edM N K rec c base wide n (s + 1) p1 (fu e s (p1.1 - base)) j = e j
      rw [ih _ _ _ _ (by omega), fu_n (by omega)]
theorem cp_nrm (w : Nat) (C : Nat → Nat → Int) (A : Nat → Int → Int) (V : Nat → Value) (h : Nat → va_E) : cp w C (va_up A 233 (fun j => (iI (A 233 j)).toInt)) V h = cp w C A V h := by
  funext q
  by_cases c : 257 ≤ q
  · rw [cp_ge c, cp_ge c]
  · rw [cp_lt (by omega), cp_lt (by omega)]
    by_cases d : q = 233
    · subst d
      rw [ct_233, ct_233, va_up_self]
      unfold iarr
      simp only [iI_of]
    · rw [va_up_ne _ _ d]
theorem RSx.nrm {w : Nat} {C : Nat → Nat → Int} {A : Nat → Int → Int} {V : Nat → Value} {h : Nat → va_E} {nx : Nat} {I : Nat → Int} {F : Nat → Int → Int} {ca : Nat → Nat} {sa : Nat → Nat → Nat} {own : Nat → Nat} (hS : RSx w C A V h nx I F ca sa own) : RSx w C (va_up A 233 (fun j => (iI (A 233 j)).toInt)) V h nx I F ca sa own := hS.sc ⟨C 230, A 232, fun j => (iI (A 233 j)).toInt, (va_up_same C 230).symm, by rw [va_up_same A 232], id⟩
theorem sim_nrm {l0 : Launch} {g : Gw} {w : Nat} {m8 m9 : Md} {vs : List Value} (H : ∀ C A V h nx I F ca sa own, RSx w C A V h nx I F ca sa own → (∀ j, inR (A 233 j)) → ∃ (d mc ms : Nat) (z : Int) (Q : Sg → Prop), d ≤ 40 ∧ mc ≤ 3 ∧ ms ≤ 19 ∧ MM l0 g d m8 (cp w C A V (mp 257 h I F), nx) (.ref 0 :: vs) mc ms (fun r σ1 => r = some (.int (iI z)) ∧ Q σ1) ∧ ∀ σ1, Q σ1 → ∃ e : Nat, e ≤ 40 ∧ M9 σ1 ∧ MM l0 g e m9 σ1 (.ref 257 :: vs) 0 0 (fun r2 σ2 => r2 = some (.int (iI z)) ∧ WI w σ2)) : SIM l0 g w m8 m9 vs := by
  refine sim_of (fun C A V h nx I F ca sa own hS => ?_)
  have h1 := H C _ V h nx I F ca sa own hS.nrm (fun j => by rw [va_up_self]; exact iI_rng _)
  rw [cp_nrm] at h1
  exact h1
theorem enF_cong {w : Int} {kn kn' L lots : Int → Int} (h : ∀ j, 0 ≤ j → j < w → kn j = kn' j) (hen : enF w kn L lots) : enF w kn' L lots := fun c q1 q2 => by
  rw [← cntF_cong h (Int.le_refl _)]
  exact hen c q1 q2
theorem mnA_cong {s k k' : Int → Int} {h : Int} : ∀ (m : Nat) (i n c l : Int), (∀ j, i ≤ j → j < i + m → k j = k' j) → mnA s k h m i n c l = mnA s k' h m i n c l := by
  intro m
  induction m with
  | zero => intro i n c l _; rfl
  | succ m ih =>
    intro i n c l hj
    rw [mnA_u, mnA_u, hj i (by omega) (by omega)]
    split
    · exact ih _ _ _ _ (fun j q1 q2 => hj j (by omega) (by omega))
    · exact ih _ _ _ _ (fun j q1 q2 => hj j (by omega) (by omega))
theorem mnF_cong {s p k k' : Int → Int} {w : Int} (hk : ∀ j, 0 ≤ j → j < w → k j = k' j) (h : Int) : mnF s p k w h = mnF s p k' w h := by
  unfold mnF
  rw [mnA_cong w.toNat 0 0 0 (-1) (fun j q1 q2 => hk j q1 (by omega))]
theorem s_tie {l0 : Launch} {g : Gw} {w : Nat} {c : Int} (hc : inR c) : SIM l0 g w mX8_tie mX9_tie [.int (iI c)] := sim_nrm fun C A V h nx I F ca sa own hS hA3 => by
  have w1 := hS.ca.w1
  have w2 := hS.ca.w2
  have n2 := hS.dy.n2
  have t2_ := hS.ca.t2
  by_cases b : 0 ≤ c ∧ c < I 2
  · obtain ⟨n, rfl⟩ := Int.eq_ofNat_of_zero_le b.1
    cases q : callR I F (F 7) (n : Int) with
    | none =>
      have hl := callR_none q
      exact sim_sc hS (by decide) (by decide) (k_X8_tie0 hS.dm b.2 hS.ca.w2 (call_none w1 q)) (fun C' A' => mm_n (by rw [if_neg (fun z => z (by omega)), if_pos (by omega)]) (k_X9_tieA hc hS.dy.n2 hS.ca.t2 hS.ca.i1 hS.ca.b23 hS.dy.wf hS.c7 (.inr (.inl (by omega)))))
    | some t =>
      obtain ⟨t', t1, ta⟩ := call_cls (f' := A 232) hS.dy.wf w1 b q
      have hl := callR_some q
      have hrg := callR_rng hS.dy.wf b q
      have ht1 := ta.1
      by_cases e : t.1 = I 1
      · have hk : ∀ j, 0 ≤ j → j < (w : Int) → t.2.1 j = t'.2.1 j := fun j j1 j2 => ta.2.2 j j1 (by omega)
        by_cases e40 : I 21 = 40
        · exact sim_sc hS (by decide) (by decide) (k_X8_tie2 hS.dm hS.ca b.2 hS.k7 t1 (by omega) e40) (fun C' A' => mm_n (by rw [if_neg (fun z => z (by omega)), if_neg (by omega), if_neg (fun z => z (by omega))]) (k_X9_tieA hc hS.dy.n2 hS.ca.t2 hS.ca.i1 hS.ca.b23 hS.dy.wf hS.c7 (.inr (.inr (.inr e40)))))
        · by_cases hen : enF (w : Int) t.2.1 (F 20) (F 18)
          · obtain ⟨r, hr⟩ := Int.eq_ofNat_of_zero_le t2_.1
            have h3 := hS.h3 (n : Int) (by omega) (by omega)
            have hsp := fun e => endsR_spec (f := F 7) (e := e) hS.dy.wf b q
            have hF3 : 0 < F 3 (n : Int) := by
              rcases Int.lt_or_eq_of_le h3.1 with z | z
              · exact z
              · have := (hsp (F 8)).2.2 z.symm
                omega
            have hed8 : endsR I F (F 7) (n : Int) (A 233) = (edM (F 5) (F 4) (ms (F 3) (F 4) (F 5) 11) (n : Int) 0 (w : Int) (F 3 (n : Int)).toNat 0 (0, 0) (A 233)) := by rw [endsR_edM, w1]
            have hsA := hsp (A 233)
            rw [hed8] at hsA
            have hE : ∀ j, 0 ≤ j → j < 12 → inR ((edM (F 5) (F 4) (ms (F 3) (F 4) (F 5) 11) (n : Int) 0 (w : Int) (F 3 (n : Int)).toNat 0 (0, 0) (A 233)) j) := fun j j1 j2 => by
              by_cases z : j < F 3 (n : Int)
              · have := hsA.1 j j1 z
                exact ⟨by omega, by omega⟩
              · rw [edM_out _ _ _ _ _ (by omega)]; exact hA3 j
            have hEx : ∀ i, 0 ≤ i → i < (w : Int) → ∃ j, 0 ≤ j ∧ j < 12 ∧ i < (edM (F 5) (F 4) (ms (F 3) (F 4) (F 5) 11) (n : Int) 0 (w : Int) (F 3 (n : Int)).toNat 0 (0, 0) (A 233)) j := fun i i1 i2 => ⟨F 3 (n : Int) - 1, by omega, by omega, by rw [hsA.2.1 hF3]; omega⟩
            have c7 : col7 t.2.1 := sg_c7 hS.dy.wf t2_ hS.ca.i1 hS.ca.b23 12 (n : Int) (I 1) (0, F 7, 0) t b.1 b.2 (by show (0 : Int) ≤ 0 ∧ (0 : Int) ≤ 1000; omega) hS.c7 q
            have c7' : col7 t'.2.1 := sg_c7 hS.dy.wf t2_ hS.ca.i1 hS.ca.b23 12 (n : Int) (w : Int) (0, A 232, 0) t' b.1 b.2 (by show (0 : Int) ≤ 0 ∧ (0 : Int) ≤ 1000; omega) hS.k7 t1
            obtain ⟨p, hp⟩ := lenM_ex (S := F 3) (K := F 4) (N := F 5) (w := (w : Int)) (c := (n : Int)) (by rw [← w1]; omega)
            have hedj : ∀ j, 0 ≤ j → j < F 3 (n : Int) → endsR I F (F 7) (n : Int) (F 8) j = (edM (F 5) (F 4) (ms (F 3) (F 4) (F 5) 11) (n : Int) 0 (w : Int) (F 3 (n : Int)).toNat 0 (0, 0) (A 233)) j := fun j j1 j2 => by
              rw [endsR_edM, w1]
              exact edM_dep12 h3.1 hp j j1 j2
            have hEx9 : ∀ i, 0 ≤ i → i < (w : Int) → ∃ j, 0 ≤ j ∧ j < F 3 (n : Int) ∧ i < endsR I F (F 7) (n : Int) (F 8) j := fun i i1 i2 => ⟨F 3 (n : Int) - 1, by omega, by omega, by rw [(hsp (F 8)).2.1 hF3]; omega⟩
            have hed : ∀ j, 0 ≤ j → j < (w : Int) → stF (endsR I F (F 7) (n : Int) (F 8)) j = stF (edM (F 5) (F 4) (ms (F 3) (F 4) (F 5) 11) (n : Int) 0 (w : Int) (F 3 (n : Int)).toNat 0 (0, 0) (A 233)) j := fun j j1 j2 => stA_cong 12 0 (F 3 (n : Int)) (by omega) hedj (hEx9 j j1 j2)
            have hst : ∀ j, 0 ≤ j → j < (w : Int) → 0 ≤ stF (endsR I F (F 7) (n : Int) (F 8)) j ∧ stF (endsR I F (F 7) (n : Int) (F 8)) j ≤ 11 := fun j j1 j2 => by
              obtain ⟨x, x1, x2, x3⟩ := hEx9 j j1 j2
              have := (stA_spec 12 0 ⟨x, x1, by omega, x3⟩).1
              unfold stF
              omega
            have h8 := k_X8_tie4 (l0 := l0) (g := g) (r := r) hS.dm hS.ca b.2 hS.k7 t1 (by omega) hr (by omega) (enF_cong hk hen) hE hEx
            refine ⟨33, 0, 0, I 21, _, by decide, by decide, by decide, h8, fun σ1 hq => ⟨4, by decide, ?_, ?_⟩⟩
            · obtain ⟨A2, hL, e1⟩ := hq
              rw [e1]; exact m9_cp
            obtain ⟨A2, hL, e1⟩ := hq
            rw [e1, cp_mp]
            refine MM.mono (k_X9_tieC b hS.dy.n2 t2_ hS.ca.i1 hS.ca.b23 hS.dy.wf hS.c7 hS.ca.b18 hS.ca.b20 (by omega) q e hS.ca.b16 hS.ca.b17 hS.ca.z20 (by rw [w1]; exact hen)) (fun r2 σ2 hq2 => ⟨hq2.1, ?_⟩)
            obtain ⟨S', T', U', V', e2⟩ := hq2.2
            refine ⟨_, A2, V, h, nx, va_up (va_up I 13 t.1) 21 (I 21 + 1), (va_up (tS (cS F t.2.1 (endsR I F (F 7) (n : Int) (F 8)) S' T' U' V') (lfF (F 20) t.2.1 (I 1)) (exF t.2.1 (40 * I 21) (I 1) (F 22)) (exF t.2.1 (40 * I 21) (I 1) (F 23)) (exF (sdF (F 20) (F 19) t.2.1) (40 * I 21) (I 1) (F 24)) (exF (stF (endsR I F (F 7) (n : Int) (F 8))) (40 * I 21) (I 1) (F 25))) 26 (fu (F 26) (I 21) (mxA (mnF (F 16) (F 17) t.2.1 (I 1)) 6 0 0))), ca, sa, own, by rw [e2, cp_mp], ?_⟩
            have hA0 : ∀ x, x ≠ 232 → x ≠ 233 → aW (aM A (edM (F 5) (F 4) (ms (F 3) (F 4) (F 5) 11) (n : Int) 0 (w : Int) (F 3 (n : Int)).toNat 0 (0, 0) (A 233))) t'.2.1 x = A x := fun x x1 x2 => by unfold aW aM; rw [va_up_ne _ _ x1, va_up_ne _ _ x2]
            have h232 : aW (aM A (edM (F 5) (F 4) (ms (F 3) (F 4) (F 5) 11) (n : Int) 0 (w : Int) (F 3 (n : Int)).toNat 0 (0, 0) (A 233))) t'.2.1 232 = t'.2.1 := va_up_self _ _ _
            have h233 : aW (aM A (edM (F 5) (F 4) (ms (F 3) (F 4) (F 5) 11) (n : Int) 0 (w : Int) (F 3 (n : Int)).toNat 0 (0, 0) (A 233))) t'.2.1 233 = (edM (F 5) (F 4) (ms (F 3) (F 4) (F 5) 11) (n : Int) 0 (w : Int) (F 3 (n : Int)).toNat 0 (0, 0) (A 233)) := by unfold aW aM; rw [va_up_ne _ _ (by decide), va_up_self]
            generalize aW (aM A (edM (F 5) (F 4) (ms (F 3) (F 4) (F 5) 11) (n : Int) 0 (w : Int) (F 3 (n : Int)).toNat 0 (0, 0) (A 233))) t'.2.1 = A0 at *
            have hq2_ : ∀ x, 230 ≤ x → x ≠ 232 → x ≠ 233 → A2 x = A x := fun x x0 x1 x2 => by rw [hL.1 x (by omega) (by omega), hA0 x x1 x2]
            have k1 : ∀ j, 0 ≤ j → j < (w : Int) → A2 (30 + 5 * r + 1) j = t.2.1 j := fun j j1 j2 => by
              have hl2 := (hL.2.2 j j1 j2).1
              have := c7' j j1 (by omega)
              rw [h232, if_pos (.inl (by omega))] at hl2
              rw [hl2]
              exact (hk j j1 j2).symm
            have hmw : (mwA (A 2) (A 3) (A2 (30 + 5 * r + 1)) w 0 (0, 0, 0)).1 = mxA (mnF (F 16) (F 17) t.2.1 (w : Int)) 6 0 0 := by
              rw [hS.ca.a2, hS.ca.a3]
              have z := mwA_mx (s := F 16) (p := F 17) (kn := A2 (30 + 5 * r + 1)) (fun j j1 j2 => (hS.ca.b16 j j1 j2).1) (fun j j1 j2 => (hS.ca.b17 j j1 j2).1) (w := w) (fun j j1 j2 => by rw [k1 j j1 j2]; exact (c7 j j1 (by omega)).1) w 0 (0, 0, 0) (by omega) (mwI_0 (fun j j1 j2 => (hS.ca.b17 j j1 j2).1) 0 0)
              refine Eq.trans z (mxA_cong 6 0 0 (fun j j1 j2 => mnF_cong k1 j))
            rw [hmw]
            have hC : ∀ x, x ≠ 230 → x ≠ 1 → x ≠ 30 + 5 * r → cR (cW (cM C t'.2.2) t'.1) r (mxA (mnF (F 16) (F 17) t.2.1 (w : Int)) 6 0 0) x = C x := fun x x0 x1 x2 => by
              unfold cR cW cM
              rw [va_up_ne _ _ x1, va_up_ne _ _ x2, va_up_ne _ _ x0, va_up_ne _ _ x0]
            refine ⟨hS.dy.cong (fun _ _ => rfl) (by rw [hC _ (by decide) (by decide) (by omega)]) rfl rfl rfl rfl rfl rfl, hS.ca.tied (kn := t.2.1) (kn' := t'.2.1) (ed := endsR I F (F 7) (n : Int) (F 8)) hr (by omega) hk c7 hen hed hst hL h232 h233 hA0 (fun x x0 x1 x2 => hC x (by omega) x1 x2) ?_ ?_ rfl rfl rfl rfl rfl rfl ?_ ?_ ?_ ?_ ?_ ?_, hS.sh.cong (fun x x1 _ => hC x (by omega) (by omega) (by omega)) (fun x x1 _ => hq2_ x (by omega) (by omega) (by omega)) (fun _ _ _ => rfl) (Nat.le_refl _) (fun _ _ _ z => ⟨z, rfl⟩) rfl rfl rfl rfl rfl rfl, hS.vi.cong (hC _ (by decide) (by decide) (by omega)) (hq2_ _ (by decide) (by decide) (by decide)) (hq2_ _ (by decide) (by decide) (by decide)) (hq2_ _ (by decide) (by decide) (by decide)) (hq2_ _ (by decide) (by decide) (by decide)) rfl rfl, c7, ?_, hS.h3, hS.nx, hS.out⟩
            · unfold cR; rw [va_up_self]; rfl
            · unfold cR; rw [va_up_ne _ _ (by omega), va_up_self]; rfl
            · show lfF (F 20) t.2.1 (I 1) = _; rw [w1]
            · show exF t.2.1 (40 * I 21) (I 1) (F 22) = _; rw [w1, hr]
            · show exF t.2.1 (40 * I 21) (I 1) (F 23) = _; rw [w1, hr]
            · show exF (sdF (F 20) (F 19) t.2.1) (40 * I 21) (I 1) (F 24) = _; rw [w1, hr]
            · show exF (stF (endsR I F (F 7) (n : Int) (F 8))) (40 * I 21) (I 1) (F 25) = _; rw [w1, hr]
            · show fu (F 26) (I 21) (mxA (mnF (F 16) (F 17) t.2.1 (I 1)) 6 0 0) = _; rw [w1, hr]
            · rw [hL.1 232 (by omega) (by omega), h232]; exact c7'
          · exact sim_sc hS (by decide) (by decide) (k_X8_tie3 hS.dm hS.ca b.2 hS.k7 t1 (by omega) (by omega) (fun z => hen (enF_cong (fun j j1 j2 => (hk j j1 j2).symm) z))) (fun C' A' => mm_n rfl (k_X9_tieB b hS.dy.n2 hS.ca.t2 hS.ca.i1 hS.ca.b23 hS.dy.wf hS.c7 hS.ca.b18 hS.ca.b20 (by omega) q e (by rw [w1]; exact hen)))
      · exact sim_sc hS (by decide) (by decide) (k_X8_tie1 hS.dm hS.ca b.2 hS.k7 t1 (by omega)) (fun C' A' => mm_n (by rw [if_neg (fun z => z (by omega)), if_neg (by omega), if_pos (by omega)]) (k_X9_tieA hc hS.dy.n2 hS.ca.t2 hS.ca.i1 hS.ca.b23 hS.dy.wf hS.c7 (.inr (.inr (.inl (by omega))))))
  · exact sim_sc hS (by decide) (by decide) (mm_md (k_X8_tieN hS.dm hc b)) (fun C' A' => mm_n (if_pos (by omega)) (k_X9_tieA hc hS.dy.n2 hS.ca.t2 hS.ca.i1 hS.ca.b23 hS.dy.wf hS.c7 (.inl (by omega))))
