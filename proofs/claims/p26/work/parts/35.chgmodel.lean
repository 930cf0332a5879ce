/-! settings put anew: the cells that stay -/
theorem we_upd {cA : Nat → ClassId} {u : FF} {j : Nat} {x : UInt32} (hj : j < 3) : WeV cA (vf_upd u j x) = WeV cA u := by
  have e : (fun k => vf_upd u j x (3 + k)) = fun k => u (3 + k) := by
    funext k
    simp only [vf_upd]
    rw [if_neg (by omega)]
  simp only [WeV, e]
theorem we_put {cA : Nat → ClassId} {u : FF} {j : Nat} {x : UInt32} : (.inl (cA 0, 4, .inr (.inr (.inl (vf_upd (fun k => u (3 + k)) j x)))) : va_E) = WeV cA (vf_upd u (3 + j) x) := by
  have e : vf_upd (fun k => u (3 + k)) j x = fun k => vf_upd u (3 + j) x (3 + k) := by
    funext k
    simp only [vf_upd]
    by_cases h : k = j
    · rw [if_pos h, if_pos (by omega)]
    · rw [if_neg h, if_neg (by omega)]
  rw [e]
theorem sp_upd {u : FF} {j : Nat} {x : UInt32} : ∀ k, k < 3 → (fun k => u k) k = (fun k => vf_upd u (3 + j) x k) k := by
  intro k hk
  simp only [vf_upd]
  rw [if_neg (by omega)]
