/-! History's cells -/
def q4 (a b c d : Nat) : Nat → Option Nat := fun k => some (if k = 0 then a else if k = 1 then b else if k = 2 then c else d)
abbrev HiV (r : Nat) (n : Int32) : va_E := .inr (2, [.ref r, .int n])
abbrev Q4V (cA : Nat → ClassId) (a b c d : Nat) : va_E := .inl (cA 3, 4, .inr (.inr (.inr (.inr (q4 a b c d)))))
theorem vp_arrQ {c : ClassId} {n : Nat} {F F' : Nat → Option Nat} (h : ∀ k, k < n → F k = F' k) : vp_cell c (n, .inr (.inr (.inr (.inr F)))) = vp_cell c (n, .inr (.inr (.inr (.inr F')))) := by
  rw [vp_cell_q, vp_cell_q]
  exact arrV_congr (fun k hk => by rw [h k hk])
theorem lt4 {P : Nat → Prop} (h0 : P 0) (h1 : P 1) (h2 : P 2) (h3 : P 3) : ∀ k, k < 4 → P k := by
  intro k hk
  rcases (show k = 0 ∨ k = 1 ∨ k = 2 ∨ k = 3 by omega) with rfl | rfl | rfl | rfl <;> assumption
theorem q4_0 (a b c d v : Nat) : ∀ k, k < 4 → va_up (q4 a b c d) (0 : Int32).toNatClampNeg (some v) k = q4 v b c d k := lt4 rfl rfl rfl rfl
theorem q4_1 (a b c d v : Nat) : ∀ k, k < 4 → va_up (q4 a b c d) (1 : Int32).toNatClampNeg (some v) k = q4 a v c d k := lt4 rfl rfl rfl rfl
theorem q4_2 (a b c d v : Nat) : ∀ k, k < 4 → va_up (q4 a b c d) (2 : Int32).toNatClampNeg (some v) k = q4 a b v d k := lt4 rfl rfl rfl rfl
theorem q4_3 (a b c d v : Nat) : ∀ k, k < 4 → va_up (q4 a b c d) (3 : Int32).toNatClampNeg (some v) k = q4 a b c v k := lt4 rfl rfl rfl rfl
