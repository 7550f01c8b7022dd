theorem tlt {a b : Nat} (h : Nat.ble (a + 1) b = true) : a < b := Nat.le_of_ble_eq_true h
theorem tle {a b : Nat} (h : Nat.ble a b = true) : a ≤ b := Nat.le_of_ble_eq_true h
theorem z_zret {X : Cx} {l0 : Launch} {g : Gw} {μ : Md} {d mc ms kc ks pc : Nat} {L : List (Option Value)} {σ : Sg} {Q : Option Value → Sg → Prop} {z : Int} (b : BX X l0 g μ d mc ms) (hd : decode μ.2.1 pc = .ok (.ireturn, 1)) (hrt : μ.2.2.2 = some .boolean) (hz : z = 0 ∨ z = 1) (hk : kc ≤ mc) (hs : ks ≤ ms) (hq : Q (some (.int (iI z))) σ) : WW X g μ.2.2.1 (ZQ X g Q mc ms) kc ks pc L [.int (iI z)] σ := by
  refine w_zret b hd hrt ?_ hk hs hq
  rcases hz with rfl | rfl <;> rfl
/-- 1 or 0 -/
def b2 (p : Prop) [Decidable p] : Int := if p then 1 else 0
theorem b2_t {p : Prop} [Decidable p] (h : p) : b2 p = 1 := if_pos h
theorem b2_f {p : Prop} [Decidable p] (h : ¬ p) : b2 p = 0 := if_neg h
theorem b2_01 (p : Prop) [Decidable p] : b2 p = 0 ∨ b2 p = 1 := by unfold b2; split <;> simp
theorem b2_eq0 {p : Prop} [Decidable p] : b2 p = 0 ↔ ¬ p := by unfold b2; split <;> simp [*]
theorem b2_rng (p : Prop) [Decidable p] : 0 ≤ b2 p ∧ b2 p ≤ 1 := by rcases b2_01 p with h | h <;> omega
theorem iv_eq {a b : Int} (h : a = b) : some (Value.int (iI a)) = some (Value.int (iI b)) := by rw [h]
theorem b2_in (p : Prop) [Decidable p] : inR (b2 p) := by rcases b2_01 p with h | h <;> rw [h] <;> decide
section TOOLS
variable {X : Cx} {l0 : Launch} {g : Gw} {μ : Md} {d mc ms : Nat} {Z : State → Prop} {kc ks pc : Nat} {L : List (Option Value)} {st : List Value} {σ : Sg}
theorem z_ifb_eq {p : Prop} [Decidable p] {off : Int} {tgt : Nat} (b : BX X l0 g μ d mc ms) (hd : decode μ.2.1 pc = .ok (.ifCond .eq off, 3)) (ht : (pc : Int) + off = (tgt : Int)) (kt : ¬ p → WW X g μ.2.2.1 Z kc ks tgt L st σ) (kf : p → WW X g μ.2.2.1 Z kc ks (pc + 3) L st σ) : WW X g μ.2.2.1 Z kc ks pc L (.int (iI (b2 p)) :: st) σ := z_if_eq b hd ht (b2_in p) (fun h => kt (b2_eq0.mp h)) (fun h => kf (Decidable.not_not.mp (fun z => h (b2_eq0.mpr z))))
theorem z_ifb_ne {p : Prop} [Decidable p] {off : Int} {tgt : Nat} (b : BX X l0 g μ d mc ms) (hd : decode μ.2.1 pc = .ok (.ifCond .ne off, 3)) (ht : (pc : Int) + off = (tgt : Int)) (kt : p → WW X g μ.2.2.1 Z kc ks tgt L st σ) (kf : ¬ p → WW X g μ.2.2.1 Z kc ks (pc + 3) L st σ) : WW X g μ.2.2.1 Z kc ks pc L (.int (iI (b2 p)) :: st) σ := z_if_ne b hd ht (b2_in p) (fun h => kt (Decidable.not_not.mp (fun z => h (b2_eq0.mpr z)))) (fun h => kf (b2_eq0.mp h))
end TOOLS
