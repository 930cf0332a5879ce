/-! acts(o, g, h): its contract (by wip/p26/acts.py) -/
set_option maxHeartbeats 8000000 in
set_option maxRecDepth 100000 in
/-- acts(o, g, h) -/
theorem cL_acts_ok (l : Launch) (G : va_G) (cA : Nat → ClassId) (A : Nat → Prop) (o : Nat) (u : FF) (v : GG) (f : FF) (g L : GG) (n K : Nat) (ch : GG) (T : Nat) (w1 w0 : Int32) (hn : n ≤ 4) (hT : T ≤ 90000) (hI : Inv T (u, v, f, g, L)) : Met l yL_acts wsL_acts ({ frames := 8, cells := 0, slots := 0, locals := 198 } : Room) (va_Pc [.ref o, .int w1, .int w0] (LbP G cA A o (u, v, f, g, L) n K ch)) (va_Qi (ActP T) (fun y t => ActB G cA A o y t.heap) A) 0 0 A := by
  refine ofW2 (cc := cL_acts) (maxL := 7) (ret := (some .boolean)) (own := RL) (by decide) rfl rfl (Nat.le_of_ble_eq_true rfl) rfl ?_
  intro p e s m below meth c ls hx hb hml hr hts hown hlocks hv hl
  obtain ⟨hE, hN, hL⟩ := hv
  have hA : At G cA A s s.heap [] := ⟨hE, hN, va_S.rf⟩
  obtain ⟨H, hH0⟩ : ∃ H, H = s.heap := ⟨_, rfl⟩
  rw [← hH0] at hL ⊢
  replace hA : At G cA A s H [] := by rw [hH0]; exact hA
  generalize ([] : List Loc) = locs at hA ⊢
  clear hH0
  replace hl : lv_has ls 7 [(0, .ref o), (1, .int w1), (2, .int w0)] := hl
  obtain ⟨j, hj, ej⟩ : ∃ j, j < 12 ∧ lowN w1 12 = j := ⟨_, lowN_lt _ (by decide), rfl⟩
  refine lv_iload_n hx hb dL_acts_0 rfl (lv_at hl 1 rfl) ?_
  refine lv_bipush (v := 12) hx hb dL_acts_1 (by decide) ?_
  refine lr_i (rS (rest := []) ⟨hx, hb, hml, hown, hts⟩ (cL_low_det l G cA w1 12 (by decide) (by decide)) (va_cwS 2 hts gL_acts_L_low rfl rfl rfl mdL_low.2 ⟨Nat.le_of_ble_eq_true rfl, Nat.le_of_ble_eq_true rfl⟩) hA.1 empP empD rfl hl rfl (Nat.le_of_ble_eq_true rfl) dL_acts_3 ⟨Nat.le_of_ble_eq_true rfl, Nat.le_of_ble_eq_true rfl⟩) hA hL (fun r_3 H locs hr_3 hA hL => ?_)
  replace hr_3 : r_3 = nI (lowN w1 12) := hr_3
  rw [ej] at hr_3
  subst hr_3
  refine lv_topi (fun x_6 ex_6 => ?_)
  by_cases s_6 : x_6 = 0
  · rw [s_6] at ex_6 ⊢
    have s_6e := ex_6.symm
    refine lv_tableIn (off := 50) (tgt := 56) hx hb dL_acts_6 (by decide) (by decide) (by decide) (by decide) ?_
    have s_6n1 : ¬ (nI j) = 1 := by rw [s_6e]; decide
    have s_6n2 : ¬ (nI j) = 2 := by rw [s_6e]; decide
    have s_6n3 : ¬ (nI j) = 3 := by rw [s_6e]; decide
    have s_6n4 : ¬ (nI j) = 4 := by rw [s_6e]; decide
    have s_6n5 : ¬ (nI j) = 5 := by rw [s_6e]; decide
    have s_6n6 : ¬ (nI j) = 6 := by rw [s_6e]; decide
    have s_6n7 : ¬ (nI j) = 7 := by rw [s_6e]; decide
    have s_6n8 : ¬ (nI j) = 8 := by rw [s_6e]; decide
    exact acts_0 l G cA A o u v f g L n K ch T w1 w0 hn hT hI hx hb hml hr hts hown hlocks hA hL hl
  have s_6q : ¬ (nI j) = 0 := fun h9 => s_6 (ex_6.trans h9)
  by_cases s_6_1 : x_6 = 1
  · rw [s_6_1] at ex_6 ⊢
    have s_6_1e := ex_6.symm
    refine lv_tableIn (off := 155) (tgt := 161) hx hb dL_acts_6 (by decide) (by decide) (by decide) (by decide) ?_
    have s_6_1n2 : ¬ (nI j) = 2 := by rw [s_6_1e]; decide
    have s_6_1n3 : ¬ (nI j) = 3 := by rw [s_6_1e]; decide
    have s_6_1n4 : ¬ (nI j) = 4 := by rw [s_6_1e]; decide
    have s_6_1n5 : ¬ (nI j) = 5 := by rw [s_6_1e]; decide
    have s_6_1n6 : ¬ (nI j) = 6 := by rw [s_6_1e]; decide
    have s_6_1n7 : ¬ (nI j) = 7 := by rw [s_6_1e]; decide
    have s_6_1n8 : ¬ (nI j) = 8 := by rw [s_6_1e]; decide
    exact acts_1 l G cA A o u v f g L n K ch T w1 w0 hn hT hI hx hb hml hr hts hown hlocks hA hL hl
  have s_6_1q : ¬ (nI j) = 1 := fun h9 => s_6_1 (ex_6.trans h9)
  by_cases s_6_2 : x_6 = 2
  · rw [s_6_2] at ex_6 ⊢
    have s_6_2e := ex_6.symm
    refine lv_tableIn (off := 249) (tgt := 255) hx hb dL_acts_6 (by decide) (by decide) (by decide) (by decide) ?_
    have s_6_2n3 : ¬ (nI j) = 3 := by rw [s_6_2e]; decide
    have s_6_2n4 : ¬ (nI j) = 4 := by rw [s_6_2e]; decide
    have s_6_2n5 : ¬ (nI j) = 5 := by rw [s_6_2e]; decide
    have s_6_2n6 : ¬ (nI j) = 6 := by rw [s_6_2e]; decide
    have s_6_2n7 : ¬ (nI j) = 7 := by rw [s_6_2e]; decide
    have s_6_2n8 : ¬ (nI j) = 8 := by rw [s_6_2e]; decide
    exact acts_2 l G cA A o u v f g L n K ch T w1 w0 hn hT hI hx hb hml hr hts hown hlocks hA hL hl
  have s_6_2q : ¬ (nI j) = 2 := fun h9 => s_6_2 (ex_6.trans h9)
  by_cases s_6_3 : x_6 = 3
  · rw [s_6_3] at ex_6 ⊢
    have s_6_3e := ex_6.symm
    refine lv_tableIn (off := 336) (tgt := 342) hx hb dL_acts_6 (by decide) (by decide) (by decide) (by decide) ?_
    have s_6_3n4 : ¬ (nI j) = 4 := by rw [s_6_3e]; decide
    have s_6_3n5 : ¬ (nI j) = 5 := by rw [s_6_3e]; decide
    have s_6_3n6 : ¬ (nI j) = 6 := by rw [s_6_3e]; decide
    have s_6_3n7 : ¬ (nI j) = 7 := by rw [s_6_3e]; decide
    have s_6_3n8 : ¬ (nI j) = 8 := by rw [s_6_3e]; decide
    exact acts_3 l G cA A o u v f g L n K ch T w1 w0 hn hT hI hx hb hml hr hts hown hlocks hA hL hl
  have s_6_3q : ¬ (nI j) = 3 := fun h9 => s_6_3 (ex_6.trans h9)
  by_cases s_6_4 : x_6 = 4
  · rw [s_6_4] at ex_6 ⊢
    have s_6_4e := ex_6.symm
    refine lv_tableIn (off := 336) (tgt := 342) hx hb dL_acts_6 (by decide) (by decide) (by decide) (by decide) ?_
    have s_6_4n5 : ¬ (nI j) = 5 := by rw [s_6_4e]; decide
    have s_6_4n6 : ¬ (nI j) = 6 := by rw [s_6_4e]; decide
    have s_6_4n7 : ¬ (nI j) = 7 := by rw [s_6_4e]; decide
    have s_6_4n8 : ¬ (nI j) = 8 := by rw [s_6_4e]; decide
    exact acts_3 l G cA A o u v f g L n K ch T w1 w0 hn hT hI hx hb hml hr hts hown hlocks hA hL hl
  have s_6_4q : ¬ (nI j) = 4 := fun h9 => s_6_4 (ex_6.trans h9)
  by_cases s_6_5 : x_6 = 5
  · rw [s_6_5] at ex_6 ⊢
    have s_6_5e := ex_6.symm
    refine lv_tableIn (off := 396) (tgt := 402) hx hb dL_acts_6 (by decide) (by decide) (by decide) (by decide) ?_
    have s_6_5n6 : ¬ (nI j) = 6 := by rw [s_6_5e]; decide
    have s_6_5n7 : ¬ (nI j) = 7 := by rw [s_6_5e]; decide
    have s_6_5n8 : ¬ (nI j) = 8 := by rw [s_6_5e]; decide
    exact acts_5 l G cA A o u v f g L n K ch T w1 w0 hn hT hI hx hb hml hr hts hown hlocks hA hL hl
  have s_6_5q : ¬ (nI j) = 5 := fun h9 => s_6_5 (ex_6.trans h9)
  by_cases s_6_6 : x_6 = 6
  · rw [s_6_6] at ex_6 ⊢
    have s_6_6e := ex_6.symm
    refine lv_tableIn (off := 454) (tgt := 460) hx hb dL_acts_6 (by decide) (by decide) (by decide) (by decide) ?_
    have s_6_6n7 : ¬ (nI j) = 7 := by rw [s_6_6e]; decide
    have s_6_6n8 : ¬ (nI j) = 8 := by rw [s_6_6e]; decide
    exact acts_6 l G cA A o u v f g L n K ch T w1 w0 hn hT hI hx hb hml hr hts hown hlocks hA hL hl
  have s_6_6q : ¬ (nI j) = 6 := fun h9 => s_6_6 (ex_6.trans h9)
  by_cases s_6_7 : x_6 = 7
  · rw [s_6_7] at ex_6 ⊢
    have s_6_7e := ex_6.symm
    refine lv_tableIn (off := 475) (tgt := 481) hx hb dL_acts_6 (by decide) (by decide) (by decide) (by decide) ?_
    have s_6_7n8 : ¬ (nI j) = 8 := by rw [s_6_7e]; decide
    exact acts_7 l G cA A o u v f g L n K ch T w1 w0 hn hT hI hx hb hml hr hts hown hlocks hA hL hl
  have s_6_7q : ¬ (nI j) = 7 := fun h9 => s_6_7 (ex_6.trans h9)
  by_cases s_6_8 : x_6 = 8
  · rw [s_6_8] at ex_6 ⊢
    have s_6_8e := ex_6.symm
    refine lv_tableIn (off := 589) (tgt := 595) hx hb dL_acts_6 (by decide) (by decide) (by decide) (by decide) ?_
    exact acts_8 l G cA A o u v f g L n K ch T w1 w0 hn hT hI hx hb hml hr hts hown hlocks hA hL hl
  have s_6_8q : ¬ (nI j) = 8 := fun h9 => s_6_8 (ex_6.trans h9)
  refine lv_tableOut (tgt := 656) hx hb dL_acts_6 (tab_0_8 s_6 s_6_1 s_6_2 s_6_3 s_6_4 s_6_5 s_6_6 s_6_7 s_6_8) (by decide) ?_
  exact acts_9 l G cA A o u v f g L n K ch T w1 w0 hn hT hI hx hb hml hr hts hown hlocks hA hL hl
