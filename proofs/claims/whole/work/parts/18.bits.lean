/-! bits of numbers that aren't below 0 -/
theorem nI_xor (a b : Nat) : nI a ^^^ nI b = nI (a ^^^ b) := by
  apply Int32.toBitVec_inj.1
  show BitVec.ofNat 32 a ^^^ BitVec.ofNat 32 b = BitVec.ofNat 32 (a ^^^ b)
  apply BitVec.eq_of_getLsbD_eq
  intro i hi
  simp [BitVec.getLsbD_ofNat, hi]
theorem nI_and (a b : Nat) : nI a &&& nI b = nI (a &&& b) := by
  apply Int32.toBitVec_inj.1
  show BitVec.ofNat 32 a &&& BitVec.ofNat 32 b = BitVec.ofNat 32 (a &&& b)
  apply BitVec.eq_of_getLsbD_eq
  intro i hi
  simp [BitVec.getLsbD_ofNat, hi]
def zx (a b : Int) : Int := ((a.toNat ^^^ b.toNat : Nat) : Int)
def zn (a b : Int) : Int := ((a.toNat &&& b.toNat : Nat) : Int)
theorem iI_xor {a b : Int} (ha : 0 ≤ a) (hb : 0 ≤ b) : iI a ^^^ iI b = iI (zx a b) := by
  obtain ⟨m, rfl⟩ := Int.eq_ofNat_of_zero_le ha
  obtain ⟨n, rfl⟩ := Int.eq_ofNat_of_zero_le hb
  rw [iI_nat, iI_nat, nI_xor]
  exact (iI_nat _).symm
theorem iI_and {a b : Int} (ha : 0 ≤ a) (hb : 0 ≤ b) : iI a &&& iI b = iI (zn a b) := by
  obtain ⟨m, rfl⟩ := Int.eq_ofNat_of_zero_le ha
  obtain ⟨n, rfl⟩ := Int.eq_ofNat_of_zero_le hb
  rw [iI_nat, iI_nat, nI_and]
  exact (iI_nat _).symm
theorem iI_and1 {a : Int} (ha : 0 ≤ a) (ha2 : a < 2147483648) : iI a &&& iI 1 = iI (a % 2) := by
  obtain ⟨m, rfl⟩ := Int.eq_ofNat_of_zero_le ha
  rw [iI_nat]
  have h := pk_andN (n := m) (by omega) (m := 1) 1 (by decide)
  rw [show iI 1 = (1 : Int32) from rfl, h, ← iI_nat]
  congr 1
theorem sh_amt : ∀ n, n < 32 → ((nI n &&& 31).toBitVec.smod 32).toNat = n := by decide +kernel
theorem iI_shr {a k : Int} (ha : 0 ≤ a) (ha2 : a < 2147483648) (hk : 0 ≤ k) (hk2 : k < 32) : iI a >>> (iI k &&& 31) = iI (a / 2 ^ k.toNat) := by
  obtain ⟨m, rfl⟩ := Int.eq_ofNat_of_zero_le ha
  obtain ⟨n, rfl⟩ := Int.eq_ofNat_of_zero_le hk
  rw [iI_nat, iI_nat, pk_shrN (by omega) _ n (sh_amt n (by omega)), ← iI_nat]
  congr 1
theorem iI_shl1 {k : Int} (hk : 0 ≤ k) (hk2 : k < 31) : iI 1 <<< (iI k &&& 31) = iI (2 ^ k.toNat) := by
  obtain ⟨n, rfl⟩ := Int.eq_ofNat_of_zero_le hk
  have h1 : 1 * 2 ^ n < 2 ^ 32 := by rw [Nat.one_mul]; exact Nat.pow_lt_pow_right (by decide) (by omega)
  have h2 := pk_shlN (n := 1) (nI n &&& 31) n (sh_amt n (by omega)) h1
  rw [iI_nat, show iI 1 = nI 1 from rfl, h2, Nat.one_mul, ← iI_nat]
  simp
section ZB
variable {X : Cx} {l0 : Launch} {g : Gw} {μ : Md} {d mc ms : Nat} {Z : State → Prop} {kc ks pc : Nat} {L : List (Option Value)} {st : List Value} {σ : Sg}
theorem z_ixor {x y : Int} (b : BX X l0 g μ d mc ms) (hd : decode μ.2.1 pc = .ok (.ixor, 1)) (h : 0 ≤ x ∧ 0 ≤ y) (kk : WW X g μ.2.2.1 Z kc ks (pc + 1) L (.int (iI (zx x y)) :: st) σ) : WW X g μ.2.2.1 Z kc ks pc L (.int (iI y) :: .int (iI x) :: st) σ := w_ixor b hd (by rw [iI_xor h.1 h.2]; exact kk)
theorem z_iand {x y : Int} (b : BX X l0 g μ d mc ms) (hd : decode μ.2.1 pc = .ok (.iand, 1)) (h : 0 ≤ x ∧ 0 ≤ y) (kk : WW X g μ.2.2.1 Z kc ks (pc + 1) L (.int (iI (zn x y)) :: st) σ) : WW X g μ.2.2.1 Z kc ks pc L (.int (iI y) :: .int (iI x) :: st) σ := w_iand b hd (by rw [iI_and h.1 h.2]; exact kk)
theorem z_iand1 {x : Int} (b : BX X l0 g μ d mc ms) (hd : decode μ.2.1 pc = .ok (.iand, 1)) (h : 0 ≤ x ∧ x < 2147483648) (kk : WW X g μ.2.2.1 Z kc ks (pc + 1) L (.int (iI (x % 2)) :: st) σ) : WW X g μ.2.2.1 Z kc ks pc L (.int (iI 1) :: .int (iI x) :: st) σ := w_iand b hd (by rw [iI_and1 h.1 h.2]; exact kk)
theorem z_ishr {x y : Int} (b : BX X l0 g μ d mc ms) (hd : decode μ.2.1 pc = .ok (.ishr, 1)) (h : 0 ≤ x ∧ x < 2147483648 ∧ 0 ≤ y ∧ y < 32) (kk : WW X g μ.2.2.1 Z kc ks (pc + 1) L (.int (iI (x / 2 ^ y.toNat)) :: st) σ) : WW X g μ.2.2.1 Z kc ks pc L (.int (iI y) :: .int (iI x) :: st) σ := w_ishr b hd (by rw [iI_shr h.1 h.2.1 h.2.2.1 h.2.2.2]; exact kk)
theorem z_ishl1 {y : Int} (b : BX X l0 g μ d mc ms) (hd : decode μ.2.1 pc = .ok (.ishl, 1)) (h : 0 ≤ y ∧ y < 31) (kk : WW X g μ.2.2.1 Z kc ks (pc + 1) L (.int (iI (2 ^ y.toNat)) :: st) σ) : WW X g μ.2.2.1 Z kc ks pc L (.int (iI y) :: .int (iI 1) :: st) σ := w_ishl b hd (by rw [iI_shl1 h.1 h.2]; exact kk)
end ZB
theorem zx_rng {a b : Int} {k : Nat} (ha : 0 ≤ a ∧ a < 2 ^ k) (hb : 0 ≤ b ∧ b < 2 ^ k) : 0 ≤ zx a b ∧ zx a b < 2 ^ k := by
  unfold zx
  have h1 : a.toNat < 2 ^ k := by
    have h := ha.2
    have h0 := ha.1
    have e : ((2 ^ k : Nat) : Int) = 2 ^ k := by simp
    omega
  have h2 : b.toNat < 2 ^ k := by
    have h := hb.2
    have h0 := hb.1
    have e : ((2 ^ k : Nat) : Int) = 2 ^ k := by simp
    omega
  have h3 := Nat.xor_lt_two_pow h1 h2
  have e : ((2 ^ k : Nat) : Int) = 2 ^ k := by simp
  omega
/-- how far apart two ways are, bit by bit -/
def apF (x y : Int) : Int := sumA (fun k => zx x y / 2 ^ k.toNat % 2) 8 0 0
theorem apF_rng (x y : Int) : 0 ≤ apF x y ∧ apF x y ≤ 8 := by
  have h := sumA_bd (f := fun k => zx x y / 2 ^ k.toNat % 2) (lo := 0) (hi := 1) 8 0 0 (fun j _ _ => by omega)
  unfold apF
  omega
/-- the tree's state: groups, links, how many, their sum -/
abbrev TrS : Type := (Int → Int) × (Int → Int) × Int × Int
def trJ (v : Nat) (far a b : Int) (t : TrS) : TrS := (joinA (t.1 b) (t.1 a) v 0 t.1, fu t.2.1 t.2.2.1 (10 * a + b), t.2.2.1 + 1, t.2.2.2 + far)
def trB (W : Int → Int) (v : Nat) (far a : Int) : Nat → Int → TrS → TrS
  | 0, _, t => t
  | n + 1, b, t => trB W v far a n (b + 1) (if apF (W a) (W b) = far ∧ ¬ t.1 a = t.1 b then trJ v far a b t else t)
def trA (W : Int → Int) (v : Nat) (far : Int) : Nat → Int → TrS → TrS
  | 0, _, t => t
  | n + 1, a, t => trA W v far n (a + 1) (trB W v far a ((v : Int) - (a + 1)).toNat (a + 1) t)
def trF (W : Int → Int) (v : Nat) : Nat → Int → TrS → TrS
  | 0, _, t => t
  | n + 1, far, t => trF W v n (far + 1) (trA W v far v 0 t)
def idA : Nat → Int → (Int → Int) → Int → Int
  | 0, _, f => f
  | n + 1, i, f => idA n (i + 1) (fu f i i)
/-- groups are groups: each village's group is a village that is its own group; so many are not their own as there are links -/
def gCt (f : Int → Int) (n : Nat) : Int := sumA (fun i => b2 (¬ f i = i)) n 0 0
def gInv (v : Nat) (t : TrS) : Prop := (∀ i : Int, 0 ≤ i → i < v → (0 ≤ t.1 i ∧ t.1 i < v) ∧ t.1 (t.1 i) = t.1 i) ∧ gCt t.1 v = t.2.2.1
