/-! CLASS AND REFERENCE: tie (by p97.py) -/
theorem RCa.tied {w r : Nat} {C C2 : Nat → Nat → Int} {A A0 A2 : Nat → Int → Int} {I I' : Nat → Int} {F F' : Nat → Int → Int} {kn kn' ed ed' : Int → Int} (hR : RCa w C A I F) (hr : I 21 = (r : Int)) (hf : I 21 < 40) (hk : ∀ j, 0 ≤ j → j < (w : Int) → kn j = kn' j) (hk7 : col7 kn) (hen : enF (w : Int) kn (F 20) (F 18)) (hed : ∀ j, 0 ≤ j → j < (w : Int) → stF ed j = stF ed' j) (hst : ∀ j, 0 ≤ j → j < (w : Int) → 0 ≤ stF ed j ∧ stF ed j ≤ 11) (hL : LY w r A0 8 0 A2) (h232 : A0 232 = kn') (h233 : A0 233 = ed') (hA0 : ∀ q, q ≠ 232 → q ≠ 233 → A0 q = A q) (hC : ∀ q, q < 230 → q ≠ 1 → q ≠ 30 + 5 * r → C2 q = C q) (c1 : C2 1 5 = (r : Int) + 1) (c4 : C2 (30 + 5 * r) 4 = (mxA (mnF (F 16) (F 17) kn (w : Int)) 6 0 0)) (i1 : I' 1 = I 1) (i21 : I' 21 = I 21 + 1) (h16 : F' 16 = F 16) (h17 : F' 17 = F 17) (h18 : F' 18 = F 18) (h19 : F' 19 = F 19) (h20 : F' 20 = lfF (F 20) kn (w : Int)) (h22 : F' 22 = exF kn (40 * (r : Int)) (w : Int) (F 22)) (h23 : F' 23 = exF kn (40 * (r : Int)) (w : Int) (F 23)) (h24 : F' 24 = exF (sdF (F 20) (F 19) kn) (40 * (r : Int)) (w : Int) (F 24)) (h25 : F' 25 = exF (stF ed) (40 * (r : Int)) (w : Int) (F 25)) (h26 : F' 26 = fu (F 26) (r : Int) (mxA (mnF (F 16) (F 17) kn (w : Int)) 6 0 0)) : RCa w C2 A2 I' F' := by
  have w2 := hR.w2
  have hdn : ∀ j, 0 ≤ j → j < (w : Int) → dnP (A0 232) 8 0 j := fun j j1 j2 => by
    have := hk7 j j1 (by omega)
    have := hk j j1 j2
    rw [h232]
    exact .inl (by omega)
  have hq0 : ∀ q, ¬ (30 + 5 * r < q ∧ q ≤ 30 + 5 * r + 4) ∧ q < 230 → ¬ (6 ≤ q ∧ q < 30 ∧ q % 3 = 2) → A2 q = A q := fun q q1 q2 => by rw [hL.1 q q1.1 q2, hA0 q (by omega) (by omega)]
  have hok : ∀ c, 0 ≤ c → c ≤ 7 → okL (lotF (F 20) c) := fun c q1 q2 l l1 l2 => hR.b20 _ (by omega) (by omega)
  have hsum : ∀ c, 0 ≤ c → c ≤ 7 → cntF kn c (w : Int) ≤ sumA (lotF (F 20) c) 10 0 0 := fun c q1 q2 => by
    have z := hen c q1 q2
    rw [lz_sum hR.z20 ⟨q1, q2⟩ (hR.b18 c q1 q2)] at z
    exact z
  have hsd : ∀ i, 0 ≤ i → i < (w : Int) → (0 ≤ ixF (tkF (lotF (F 20) (kn i)) (cntF kn (kn i) i).toNat) ∧ ixF (tkF (lotF (F 20) (kn i)) (cntF kn (kn i) i).toNat) ≤ 9) ∧ ixF (tkF (A (6 + 3 * (kn i).toNat + 2)) (cntF kn (kn i) i).toNat) = ixF (tkF (lotF (F 20) (kn i)) (cntF kn (kn i) i).toNat) := fun i q1 q2 => by
    have k7 := hk7 i q1 (by omega)
    have s1 := hsum (kn i) k7.1 k7.2
    have s2 := cntF_le (kn := kn) (c := kn i) (i := i + 1) (w := (w : Int)) (by omega) (by omega)
    rw [cntF_s q1, b2_t rfl] at s2
    have s3 := cntF_nn kn (kn i) i
    have t1 := tk_ok (hok (kn i) k7.1 k7.2) (cntF kn (kn i) i).toNat (by omega)
    refine ⟨(ix_of t1.1 (by rw [t1.2]; omega)).1, ixF_cong (fun j j1 j2 => tk_cong (fun l l1 l2 => hR.a20 (kn i) l k7.1 k7.2 l1 l2) _ j j1 j2)⟩
  exact ⟨by rw [i1]; exact hR.w1, hR.w2, by rw [c1, i21]; omega, by rw [i21]; have := hR.t2; omega, by rw [hq0 2 (by omega) (by omega), h16]; exact hR.a2, by rw [h16]; exact hR.b16, by rw [hq0 3 (by omega) (by omega), h17]; exact hR.a3, by rw [h17]; exact hR.b17, fun c q1 q2 => by rw [hC _ (by omega) (by omega) (by omega), h18]; exact hR.c18 c q1 q2, by rw [h18]; exact hR.b18, fun c l q1 q2 q3 q4 => by rw [hq0 _ (by omega) (by omega), h19]; exact hR.a19 c l q1 q2 q3 q4, by rw [h19]; exact hR.b19, fun c l q1 q2 q3 q4 => by
    obtain ⟨n, rfl⟩ := Int.eq_ofNat_of_zero_le q1
    rw [Int.toNat_natCast, hL.2.1 n (by omega), h20, lfF_at ⟨q1, q2⟩ (by omega)]
    unfold nTk
    rw [if_pos (by omega), h232, ← cntF_cong hk (Int.le_refl _), hA0 _ (by omega) (by omega)]
    exact tk_cong (fun j j1 j2 => by have z := hR.a20 (n : Int) j (by omega) (by omega) j1 j2; rw [Int.toNat_natCast] at z; exact z) _ l q3 q4, by rw [h20]; exact lfF_rng hR.b20 hk7 hsum (by omega), fun c l q1 q2 q3 q4 => by
    rw [h18] at q3
    have b18 := hR.b18 c q1 q2
    rw [h20, lfF_at ⟨q1, q2⟩ (by omega)]
    have := cntF_nn kn c (w : Int)
    have := hsum c q1 q2
    exact tk_zero (hok c q1 q2) (hR.z20 c l q1 q2 q3 q4) _ (by omega), fun x i x1 x2 i1 i2 => by
    have hl := hL.2.2 i i1 i2
    rw [if_pos (hdn i i1 i2), if_pos (hdn i i1 i2), if_pos (hdn i i1 i2), if_pos (hdn i i1 i2), h232, h233] at hl
    rw [h22]
    unfold exF
    by_cases q : x = (r : Int)
    · rw [q, Int.toNat_natCast, if_pos (by omega), show 40 * (r : Int) + i - 40 * (r : Int) = i by omega]
      exact hl.1.trans ((hk i i1 i2).symm)
    · rw [if_neg (by omega), hq0 _ (by omega) (by omega)]
      exact hR.a22 x i x1 x2 i1 i2, fun x i x1 x2 i1 i2 => by
    have hl := hL.2.2 i i1 i2
    rw [if_pos (hdn i i1 i2), if_pos (hdn i i1 i2), if_pos (hdn i i1 i2), if_pos (hdn i i1 i2), h232, h233] at hl
    rw [h23]
    unfold exF
    by_cases q : x = (r : Int)
    · rw [q, Int.toNat_natCast, if_pos (by omega), show 40 * (r : Int) + i - 40 * (r : Int) = i by omega]
      exact hl.2.1.trans ((hk i i1 i2).symm)
    · rw [if_neg (by omega), hq0 _ (by omega) (by omega)]
      exact hR.a23 x i x1 x2 i1 i2, fun x i x1 x2 i1 i2 => by
    have hl := hL.2.2 i i1 i2
    rw [if_pos (hdn i i1 i2), if_pos (hdn i i1 i2), if_pos (hdn i i1 i2), if_pos (hdn i i1 i2), h232, h233] at hl
    rw [h24]
    unfold exF
    by_cases q : x = (r : Int)
    · rw [q, Int.toNat_natCast, if_pos (by omega), show 40 * (r : Int) + i - 40 * (r : Int) = i by omega]
      exact hl.2.2.1.trans (by
        have k7 := hk7 i i1 (by omega)
        obtain ⟨hix, e⟩ := hsd i i1 i2
        unfold sdC sdF
        rw [← hk i i1 i2, hA0 _ (by omega) (by omega), hA0 _ (by omega) (by omega), ← cntF_cong hk (by omega : i ≤ (w : Int)), e]
        exact hR.a19 (kn i) _ k7.1 k7.2 hix.1 (by omega))
    · rw [if_neg (by omega), hq0 _ (by omega) (by omega)]
      exact hR.a24 x i x1 x2 i1 i2, fun x i x1 x2 i1 i2 => by
    have hl := hL.2.2 i i1 i2
    rw [if_pos (hdn i i1 i2), if_pos (hdn i i1 i2), if_pos (hdn i i1 i2), if_pos (hdn i i1 i2), h232, h233] at hl
    rw [h25]
    unfold exF
    by_cases q : x = (r : Int)
    · rw [q, Int.toNat_natCast, if_pos (by omega), show 40 * (r : Int) + i - 40 * (r : Int) = i by omega]
      exact hl.2.2.2.trans ((hed i i1 i2).symm)
    · rw [if_neg (by omega), hq0 _ (by omega) (by omega)]
      exact hR.a25 x i x1 x2 i1 i2, fun j j1 j2 => by
    rw [h22]
    unfold exF
    split
    · exact hk7 _ (by omega) (by omega)
    · exact hR.b22 j j1 j2, fun j j1 j2 => by
    rw [h23]
    unfold exF
    split
    · exact hk7 _ (by omega) (by omega)
    · exact hR.b23 j j1 j2, fun j j1 j2 => by
    rw [h24]
    unfold exF
    split
    · rename_i z
      have k7 := hk7 (j - 40 * (r : Int)) (by omega) (by omega)
      obtain ⟨hix, _⟩ := hsd (j - 40 * (r : Int)) (by omega) (by omega)
      unfold sdF
      exact hR.b19 _ (by omega) (by omega)
    · exact hR.b24 j j1 j2, fun j j1 j2 => by
    rw [h25]
    unfold exF
    split
    · exact hst _ (by omega) (by omega)
    · exact hR.b25 j j1 j2, fun x q1 q2 => by
    rw [h26]
    by_cases q : x = (r : Int)
    · rw [q, Int.toNat_natCast, fu_s]; exact c4
    · rw [fu_n q, hC _ (by omega) (by omega) (by omega)]; exact hR.c26 x q1 q2, fun x q1 q2 => by
    rw [h26]
    by_cases q : x = (r : Int)
    · rw [q, fu_s]
      exact mxA_rng 6 0 0 (fun j j1 j2 => mnF_rng (by omega) (hR.b17 j j1 (by omega))) (by decide)
    · rw [fu_n q]; exact hR.b26 x q1 q2⟩
