/-! acts(o, g, h): helpers; low(v, n) as a function (by wip/p26/acts.py) -/
def lowN (x : Int32) (N : Nat) : Nat := x.toBitVec.toNat % 2 ^ 31 % N
theorem lowN_lt (x : Int32) {N : Nat} (h : 0 < N) : lowN x N < N := Nat.mod_lt _ h
theorem low_det (x : Int32) {N : Nat} (h0 : 0 < N) (hN : N < 2 ^ 31) : (x &&& 2147483647) - (x &&& 2147483647) / nI N * nI N = nI (lowN x N) := by
  rw [pk_and x (m := 2147483647) 31 (by decide), pk_rem (Nat.mod_lt _ (by decide)) h0 hN]
  rfl
abbrev AY : Type := CT5 × Nat × Nat × GG
/-- what acts() answers: 1, and a state of which the invariant holds, at most 100 ticks on -/
abbrev ActP (T : Nat) (r : Int32) (y : AY) : Prop := r = 1 ∧ y.2.1 ≤ 4 ∧ ∃ T', T' ≤ T + 100 ∧ Inv T' y.1
def ActB (G : va_G) (cA : Nat → ClassId) (A : Nat → Prop) (o : Nat) (y : AY) (H : Heap) : Prop := LB G cA A o y.1 y.2.1 y.2.2.1 y.2.2.2 H
theorem one_add (j : Nat) : 1 + nI j = nI (1 + j) := nI_add 1 j
theorem two_add (j : Nat) : 2 + nI j = nI (2 + j) := nI_add 2 j
theorem spd_j {u : FF} {v g : GG} {j : Nat} (hj : j < 3) : spdF u v g (nI j) = spF u (nI j) := by
  unfold spdF
  rw [if_neg (fun h9 => by have := (nI_eq (a := j) (b := 3) (by omega) (by decide)).mp h9; omega)]
theorem spF_j {u : FF} {j : Nat} (hj : j < 3) : spF u (nI j) = u j := by
  unfold spF
  rw [if_neg (nI_pos (by omega)), if_pos (show nI j < 3 from nI_lt (a := j) (b := 3) hj (by decide)), nI_clamp (by omega)]
theorem spF_put {u : FF} {j : Nat} {x : UInt32} (hj : j < 3) : spF (vf_upd u j x) (nI j) = x := by
  rw [spF_j hj]; exact if_pos rfl
theorem nuF_j {v : GG} {j : Nat} (hj : j < 5) : nuF v (nI j) = v j := by
  unfold nuF
  rw [if_neg (nI_pos (by omega)), if_pos (show nI j < 5 from nI_lt (a := j) (b := 5) hj (by decide)), nI_clamp (by omega)]
theorem q6 {P : Nat → Prop} (h0 : P 0) (h1 : P 1) (h2 : P 2) (h3 : P 3) (h4 : P 4) (h5 : P 5) {q : Nat} (hq : q < 6) : P q := by
  rcases (show q = 0 ∨ q = 1 ∨ q = 2 ∨ q = 3 ∨ q = 4 ∨ q = 5 by omega) with rfl | rfl | rfl | rfl | rfl | rfl <;> assumption
theorem bit_lo {q : Nat} (hq : q < 6) : ¬ bitF (nI q) < 1056964608 := q6 (P := fun q => ¬ bitF (nI q) < 1056964608) (by decide +kernel) (by decide +kernel) (by decide +kernel) (by decide +kernel) (by decide +kernel) (by decide +kernel) hq
theorem bit_hi {q : Nat} (hq : q < 6) : bitF (nI q) ≤ 1112014848 := q6 (P := fun q => bitF (nI q) ≤ 1112014848) (by decide +kernel) (by decide +kernel) (by decide +kernel) (by decide +kernel) (by decide +kernel) (by decide +kernel) hq
theorem wei_lo {q : Nat} (hq : q < 5) : ¬ bitF (nI q) < 0 := fun h => bit_lo (q := q) (by omega) (Int32.lt_trans h (by decide))
theorem wei_hi {q : Nat} (hq : q < 5) (h3 : q ≠ 3) : bitF (nI q) ≤ 1082130432 := by
  rcases (show q = 0 ∨ q = 1 ∨ q = 2 ∨ q = 4 by omega) with rfl | rfl | rfl | rfl <;> decide +kernel
theorem valS {q : Nat} (hq : q < 6) : okS (valF (nI q)) := q6 (P := fun q => okS (valF (nI q))) okS_half okS_1 okS_25 okS_10 okS_33 okS_50 hq
theorem fob_ (l : Launch) (G : va_G) (cA : Nat → ClassId) {q : Nat} (hq : q < 6) : Rf l yX8_floatOfBits wsX8_floatOfBits ({ frames := 0, cells := 0, slots := 0, locals := 0 } : Room) G cA [.int (bitF (nI q))] [] (fun r => r = valF (nI q)) := by
  refine q6 (P := fun q => Rf l yX8_floatOfBits wsX8_floatOfBits ({ frames := 0, cells := 0, slots := 0, locals := 0 } : Room) G cA [.int (bitF (nI q))] [] (fun r => r = valF (nI q))) ?_ ?_ ?_ ?_ ?_ ?_ hq
  · exact cX8_floatOfBits_1056964608 l G cA
  · exact cX8_floatOfBits_1065353216 l G cA
  · exact cX8_floatOfBits_1075838976 l G cA
  · exact cX8_floatOfBits_1092616192 l G cA
  · exact cX8_floatOfBits_1079194419 l G cA
  · exact cX8_floatOfBits_1112014848 l G cA
theorem st_nn {x : Int32} (h : x = 0 ∨ x = 1 ∨ x = 2 ∨ x = 3) : ¬ x < 0 := by rcases h with rfl | rfl | rfl | rfl <;> decide
theorem it_one {u : FF} {v : GG} {b : Int32} {x : FF × GG × GG} : itS u v b x 1 = (goF u v x.1 x.2.1 b, goG u v x.1 x.2.1 b, goL u v x.2.1 x.2.2 b) := rfl
theorem char_ok {k : Nat} (hk : k < 128) : ((nI k).toUInt32 % 65536).toInt32 = nI k := by
  rw [pk_char, show (nI k).toBitVec.toNat = k from pk_tn (by omega)]
  congr 1
  omega
theorem nar_ok {k : Nat} (hk : k < 65536) : vp_nar .char (nI k) = nI k := by
  have h := (pk_charN hk).1
  unfold vp_nar
  rw [h]
set_option maxHeartbeats 4000000 in
set_option maxRecDepth 100000 in
/-- low(v, n), as a function -/
theorem cL_low_det (l : Launch) (G : va_G) (cA : Nat → ClassId) (x0 : Int32) (N : Nat) (h0 : 0 < N) (hN : N < 2 ^ 31) : Ri l yL_low wsL_low ({ frames := 0, cells := 0, slots := 0, locals := 0 } : Room) G cA [.int x0, .int (nI N)] [] (fun r => r = nI (lowN x0 N)) := by
  refine ofW2 (cc := cL_low) (maxL := 2) (ret := (some .int)) (own := RL) (by decide) rfl rfl (Nat.le_of_ble_eq_true rfl) rfl ?_
  intro p e s m below meth c ls hx hb hml hr hts hown hlocks hv hl
  obtain ⟨hP, hE, hD0⟩ := hv
  have hK := hE.1
  have hD := hD0
  generalize hH0 : s.heap = H at hP ⊢
  have hS : va_S (fun _ => False) s.heap H [] := hH0 ▸ va_S.rf
  generalize ([] : List Loc) = locs at hS ⊢
  clear hH0 hD0
  replace hl : lv_has ls 2 [(0, .int x0), (1, .int (nI N))] := hl
  refine lv_iload_n hx hb dL_low_0 rfl (lv_at hl 0 rfl) ?_
  refine lv_ldc hx hb hown (hts (.constant RL 8 (2147483647)) (by decide +kernel)) dL_low_1 ?_
  refine lv_iand hx hb dL_low_3 ?_
  refine lv_iload_n hx hb dL_low_4 rfl (lv_at hl 1 rfl) ?_
  refine lv_irem hx hb dL_low_5 (nI_ne0 h0 hN) ?_
  exact en_ri hx hb hr rfl hlocks hS (low_det x0 h0 hN) dL_low_6
