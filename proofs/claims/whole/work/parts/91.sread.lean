/-! CLASS AND REFERENCE: calls that only read, and small ones that write (by p91.py) -/
theorem RSx.dm {w : Nat} {C : Nat → Nat → Int} {A : Nat → Int → Int} {V : Nat → Value} {h : Nat → va_E} {nx : Nat} {I : Nat → Int} {F : Nat → Int → Int} {ca : Nat → Nat} {sa : Nat → Nat → Nat} {own : Nat → Nat} (hS : RSx w C A V h nx I F ca sa own) : RDy (mp 257 h I F) nx C V I F ca sa own := hS.dy.mp
theorem RCa.i1 {w : Nat} {C : Nat → Nat → Int} {A : Nat → Int → Int} {I : Nat → Int} {F : Nat → Int → Int} (hR : RCa w C A I F) : 4 ≤ I 1 ∧ I 1 ≤ 40 := by
  have := hR.w1
  have := hR.w2
  omega
theorem RCa.i1n {w : Nat} {C : Nat → Nat → Int} {A : Nat → Int → Int} {I : Nat → Int} {F : Nat → Int → Int} (hR : RCa w C A I F) : (I 1).toNat = w := by
  have := hR.w1
  omega
theorem s_knot {l0 : Launch} {g : Gw} {w : Nat} {r i : Int} (hr : inR r) (hi : inR i) : SIM l0 g w mX8_knot mX9_knot [.int (iI r), .int (iI i)] := sim_of fun C A V h nx I F ca sa own hS => sim_md (by decide) (by decide) (by decide) (by decide) (k_X8_knot hS.ca hr hi) (k_X9_knot hr hi hS.ca.t2 hS.ca.i1) hS
theorem s_look {l0 : Launch} {g : Gw} {w : Nat} {r i k : Int} (hr : inR r) (hi : inR i) (hk : inR k) : SIM l0 g w mX8_look mX9_look [.int (iI r), .int (iI i), .int (iI k)] := sim_of fun C A V h nx I F ca sa own hS => sim_md (by decide) (by decide) (by decide) (by decide) (k_X8_look hS.ca hr hi hk) (k_X9_look hr hi hk hS.ca.t2 hS.ca.i1 hS.ca.b16 hS.ca.b22 hS.ca.b23) hS
theorem s_minutes {l0 : Launch} {g : Gw} {w : Nat} {r : Int} (hr : inR r) : SIM l0 g w mX8_minutes mX9_minutes [.int (iI r)] := sim_of fun C A V h nx I F ca sa own hS => sim_md (by decide) (by decide) (by decide) (by decide) (k_X8_minutes hS.ca hr) (k_X9_minutes hr hS.ca.t2) hS
theorem s_wool {l0 : Launch} {g : Gw} {w : Nat} {c : Int} (hc : inR c) : SIM l0 g w mX8_wool mX9_wool [.int (iI c)] := sim_of fun C A V h nx I F ca sa own hS => sim_md (by decide) (by decide) (by decide) (by decide) (k_X8_wool hS.ca hc) (k_X9_wool hc hS.ca.b18) hS
theorem s_hands {l0 : Launch} {g : Gw} {w : Nat} {x k : Int} (hx : inR x) (hk : inR k) : SIM l0 g w mX8_hands mX9_hands [.int (iI x), .int (iI k)] := sim_of fun C A V h nx I F ca sa own hS => sim_md (by decide) (by decide) (by decide) (by decide) (k_X8_hands hS.ca hx hk) (k_X9_hands hx hk hS.ca.t2 hS.ca.i1 hS.ca.b16 hS.ca.b22 hS.ca.b23) hS
theorem s_unlike {l0 : Launch} {g : Gw} {w : Nat} {r q : Int} (hr : inR r) (hq : inR q) : SIM l0 g w mX8_unlike mX9_unlike [.int (iI r), .int (iI q)] := sim_of fun C A V h nx I F ca sa own hS => sim_md (by decide) (by decide) (by decide) (by decide) (k_X8_unlike hS.ca hr hq) (k_X9_unlike hr hq hS.ca.t2 hS.ca.i1 hS.ca.b23) hS
theorem s_side {l0 : Launch} {g : Gw} {w : Nat} {n a c : Int} (hn : inR n) (ha : inR a) (hc : inR c) : SIM l0 g w mX8_side mX9_side [.int (iI n), .int (iI a), .int (iI c)] := sim_of fun C A V h nx I F ca sa own hS => sim_md (by decide) (by decide) (by decide) (by decide) (k_X8_side hn ha hc) (k_X9_side hn ha hc) hS
theorem s_corner {l0 : Launch} {g : Gw} {w : Nat} {n m a c : Int} (hn : inR n) (hm : inR m) (ha : inR a) (hc : inR c) : SIM l0 g w mX8_corner mX9_corner [.int (iI n), .int (iI m), .int (iI a), .int (iI c)] := sim_of fun C A V h nx I F ca sa own hS => sim_md (by decide) (by decide) (by decide) (by decide) (k_X8_corner hn hm ha hc) (k_X9_corner hn hm ha hc) hS
theorem s_fits {l0 : Launch} {g : Gw} {w : Nat} {f a c : Int} (hf : inR f) (ha : inR a) (hc : inR c) : SIM l0 g w mX8_fits mX9_fits [.int (iI f), .int (iI a), .int (iI c)] := sim_of fun C A V h nx I F ca sa own hS => sim_md (by decide) (by decide) (by decide) (by decide) (k_X8_fits hf ha hc) (k_X9_fits hf ha hc) hS
theorem s_shifts {l0 : Launch} {g : Gw} {w : Nat} {x : Int} (hx : inR x) : SIM l0 g w mX8_shifts mX9_shifts [.int (iI x)] := sim_of fun C A V h nx I F ca sa own hS => by
  have h8 := k_X8_shifts (l0 := l0) (g := g) (V := V) (h := mp 257 h I F) (nx := nx) hS.ca hx
  by_cases c : 0 ≤ x ∧ x ≤ 1
  · rw [if_pos c] at h8
    have h9 := k_X9_shifts1 (l0 := l0) (g := g) (mo := 257) (h0 := cp w C A V h) (nx := nx) c hS.ca.i1 hS.ca.t2 hS.ca.b22 hS.ca.b24
    rw [hS.ca.i1n] at h9
    exact sim_md (by decide) (by decide) (by decide) (by decide) h8 h9 hS
  · rw [if_neg c] at h8
    exact sim_md (by decide) (by decide) (by decide) (by decide) h8 (k_X9_shifts0 hx c) hS
theorem s_count {l0 : Launch} {g : Gw} {w : Nat} {x : Int} (hx : inR x) : SIM l0 g w mX8_count mX9_count [.int (iI x)] := sim_of fun C A V h nx I F ca sa own hS => by
  have h8 := k_X8_count (l0 := l0) (g := g) (w := w) (A := A) hS.dm hS.ca hx
  by_cases c0 : x = 0
  · subst c0
    rw [if_pos rfl] at h8
    exact sim_md (by decide) (by decide) (by decide) (by decide) h8 k_X9_count0 hS
  by_cases c1 : x = 1
  · subst c1
    rw [if_neg (by decide), if_pos rfl] at h8
    exact sim_md (by decide) (by decide) (by decide) (by decide) h8 k_X9_count1 hS
  by_cases c2 : x = 2
  · subst c2
    rw [if_neg (by decide), if_neg (by decide), if_pos rfl] at h8
    have h9 := k_X9_count2 (l0 := l0) (g := g) (mo := 257) (h0 := cp w C A V h) (nx := nx) hS.ca.i1 hS.ca.t2 hS.ca.b22 hS.ca.b23
    rw [hS.ca.i1n, fa_c] at h9
    exact sim_md (by decide) (by decide) (by decide) (by decide) h8 h9 hS
  by_cases c3 : x = 3
  · subst c3
    rw [if_neg (by decide), if_neg (by decide), if_neg (by decide), if_pos rfl] at h8
    rw [hS.vi.n] at h8
    exact sim_md (by decide) (by decide) (by decide) (by decide) h8 k_X9_count3 hS
  by_cases c4 : x = 4
  · subst c4
    rw [if_neg (by decide), if_neg (by decide), if_neg (by decide), if_neg (by decide), if_pos rfl] at h8
    exact sim_md (by decide) (by decide) (by decide) (by decide) h8 k_X9_count4 hS
  by_cases c5 : x = 5
  · subst c5
    rw [if_neg (by decide), if_neg (by decide), if_neg (by decide), if_neg (by decide), if_neg (by decide), if_pos rfl] at h8
    exact sim_md (by decide) (by decide) (by decide) (by decide) h8 (k_X9_count5 hS.ca.t2) hS
  rw [if_neg c0, if_neg c1, if_neg c2, if_neg c3, if_neg c4, if_neg c5] at h8
  exact sim_md (by decide) (by decide) (by decide) (by decide) h8 (k_X9_countN hx (by omega)) hS
