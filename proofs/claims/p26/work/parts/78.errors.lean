/-! errors(o): its contract (by wip/p26/errors.py) -/
set_option maxHeartbeats 8000000 in
set_option maxRecDepth 100000 in
/-- errors(o), no state to go back to -/
theorem cL_errors_z (l : Launch) (G : va_G) (cA : Nat → ClassId) (A : Nat → Prop) (o : Nat) (u : FF) (v : GG) (f : FF) (g L : GG) (n K : Nat) (ch : GG) (hn : n ≤ 4) (hn0 : n = 0) (hf : vf_n32 (f 7)) : Met l yL_errors wsL_errors ({ frames := 7, cells := 0, slots := 0, locals := 160 } : Room) (va_Pc [.ref o] (LbP G cA A o (u, v, f, g, L) n K ch)) (va_Qi (fun r (_ : Unit) => r = 1) (fun _ _ => True) A) 0 0 A := by
  refine ofW2 (cc := cL_errors) (maxL := 3) (ret := (some .boolean)) (own := RL) (by decide) rfl rfl (Nat.le_of_ble_eq_true rfl) rfl ?_
  intro p e s m below meth c ls hx hb hml hr hts hown hlocks hv hl
  obtain ⟨hE, hN, hL⟩ := hv
  have hA : At G cA A s s.heap [] := ⟨hE, hN, va_S.rf⟩
  obtain ⟨H, hH0⟩ : ∃ H, H = s.heap := ⟨_, rfl⟩
  rw [← hH0] at hL ⊢
  replace hA : At G cA A s H [] := by rw [hH0]; exact hA
  generalize ([] : List Loc) = locs at hA ⊢
  clear hH0
  replace hl : lv_has ls 3 [(0, .ref o)] := hl
  refine lv_aload_n hx hb dL_errors_0 rfl (lv_at hl 0 rfl) ?_
  refine lv_iconst (v := 3) hx hb dL_errors_1 (by decide) ?_
  refine lv_iconst (v := 1) hx hb dL_errors_2 (by decide) ?_
  refine lr_i (rS (rest := [.int 3, .ref o]) ⟨hx, hb, hml, hown, hts⟩ (cL_bits_ok l G cA 1) (va_cwS 1 hts gL_errors_L_bits rfl rfl rfl mdL_bits.2 ⟨Nat.le_of_ble_eq_true rfl, Nat.le_of_ble_eq_true rfl⟩) hA.1 empP empD rfl hl rfl (Nat.le_of_ble_eq_true rfl) dL_errors_3 ⟨Nat.le_of_ble_eq_true rfl, Nat.le_of_ble_eq_true rfl⟩) hA hL (fun r_3 H locs hr_3 hA hL => ?_)
  replace hr_3 : r_3 = 1065353216 := hr_3.trans (by decide +kernel)
  subst hr_3
  refine lr_i (rL (rest := []) ⟨hx, hb, hml, hown, hts⟩ (LB_setSpeed_unk l G cA A o (u, v, f, g, L) n K ch 1065353216) (cwV 2 hts gL_errors_X8_setSpeed rfl rfl rfl mdX8_setSpeed ⟨Nat.le_of_ble_eq_true rfl, Nat.le_of_ble_eq_true rfl⟩) hA hL rfl hl rfl (Nat.le_of_ble_eq_true rfl) dL_errors_6 ⟨Nat.le_of_ble_eq_true rfl, Nat.le_of_ble_eq_true rfl⟩) hA hL (fun r_6 H locs hr_6 hA hL => ?_)
  subst hr_6
  refine lv_iconst (v := (-1)) hx hb dL_errors_9 (by decide) ?_
  refine lv_icmp_ne (tgt := 194) hx hb dL_errors_10 (by decide) (fun h9 => absurd (by decide) h9) (fun _ => ?_)
  refine lv_aload_n hx hb dL_errors_13 rfl (lv_at hl 0 rfl) ?_
  refine lv_iconst (v := 0) hx hb dL_errors_14 (by decide) ?_
  refine lv_ldc hx hb hown (hts (.constant RL 119 (2143289344)) (by decide +kernel)) dL_errors_15 ?_
  refine lr_i (rL (rest := []) ⟨hx, hb, hml, hown, hts⟩ (LB_setSpeed_bad_2143289344 l G cA A o (u, v, f, g, L) n K ch 0 (by decide)) (cwV 2 hts gL_errors_X8_setSpeed rfl rfl rfl mdX8_setSpeed ⟨Nat.le_of_ble_eq_true rfl, Nat.le_of_ble_eq_true rfl⟩) hA hL rfl hl rfl (Nat.le_of_ble_eq_true rfl) dL_errors_17 ⟨Nat.le_of_ble_eq_true rfl, Nat.le_of_ble_eq_true rfl⟩) hA hL (fun r_17 H locs hr_17 hA hL => ?_)
  subst hr_17
  refine lv_bipush (v := (-2)) hx hb dL_errors_20 (by decide) ?_
  refine lv_icmp_ne (tgt := 194) hx hb dL_errors_22 (by decide) (fun h9 => absurd (by decide) h9) (fun _ => ?_)
  refine lv_aload_n hx hb dL_errors_25 rfl (lv_at hl 0 rfl) ?_
  refine lv_iconst (v := 4) hx hb dL_errors_26 (by decide) ?_
  refine lv_iconst (v := 0) hx hb dL_errors_27 (by decide) ?_
  refine lr_i (rL (rest := []) ⟨hx, hb, hml, hown, hts⟩ (LB_setWeight_unk l G cA A o (u, v, f, g, L) n K ch 0) (cwV 2 hts gL_errors_X8_setWeight rfl rfl rfl mdX8_setWeight ⟨Nat.le_of_ble_eq_true rfl, Nat.le_of_ble_eq_true rfl⟩) hA hL rfl hl rfl (Nat.le_of_ble_eq_true rfl) dL_errors_28 ⟨Nat.le_of_ble_eq_true rfl, Nat.le_of_ble_eq_true rfl⟩) hA hL (fun r_28 H locs hr_28 hA hL => ?_)
  subst hr_28
  refine lv_iconst (v := (-1)) hx hb dL_errors_31 (by decide) ?_
  refine lv_icmp_ne (tgt := 194) hx hb dL_errors_32 (by decide) (fun h9 => absurd (by decide) h9) (fun _ => ?_)
  refine lv_aload_n hx hb dL_errors_35 rfl (lv_at hl 0 rfl) ?_
  refine lv_iconst (v := 0) hx hb dL_errors_36 (by decide) ?_
  refine lv_ldc hx hb hown (hts (.constant RL 120 (-2147483648)) (by decide +kernel)) dL_errors_37 ?_
  refine lr_i (rL (rest := []) ⟨hx, hb, hml, hown, hts⟩ (LB_setWeight_bad_m2147483648 l G cA A o (u, v, f, g, L) n K ch 0 (by decide)) (cwV 2 hts gL_errors_X8_setWeight rfl rfl rfl mdX8_setWeight ⟨Nat.le_of_ble_eq_true rfl, Nat.le_of_ble_eq_true rfl⟩) hA hL rfl hl rfl (Nat.le_of_ble_eq_true rfl) dL_errors_39 ⟨Nat.le_of_ble_eq_true rfl, Nat.le_of_ble_eq_true rfl⟩) hA hL (fun r_39 H locs hr_39 hA hL => ?_)
  subst hr_39
  refine lv_bipush (v := (-2)) hx hb dL_errors_42 (by decide) ?_
  refine lv_icmp_ne (tgt := 194) hx hb dL_errors_44 (by decide) (fun h9 => absurd (by decide) h9) (fun _ => ?_)
  refine lv_aload_n hx hb dL_errors_47 rfl (lv_at hl 0 rfl) ?_
  refine lv_iconst (v := 0) hx hb dL_errors_48 (by decide) ?_
  refine lv_ldc hx hb hown (hts (.constant RL 121 (1082130433)) (by decide +kernel)) dL_errors_49 ?_
  refine lr_i (rL (rest := []) ⟨hx, hb, hml, hown, hts⟩ (LB_setWeight_bad_1082130433 l G cA A o (u, v, f, g, L) n K ch 0 (by decide)) (cwV 2 hts gL_errors_X8_setWeight rfl rfl rfl mdX8_setWeight ⟨Nat.le_of_ble_eq_true rfl, Nat.le_of_ble_eq_true rfl⟩) hA hL rfl hl rfl (Nat.le_of_ble_eq_true rfl) dL_errors_51 ⟨Nat.le_of_ble_eq_true rfl, Nat.le_of_ble_eq_true rfl⟩) hA hL (fun r_51 H locs hr_51 hA hL => ?_)
  subst hr_51
  refine lv_bipush (v := (-2)) hx hb dL_errors_54 (by decide) ?_
  refine lv_icmp_ne (tgt := 194) hx hb dL_errors_56 (by decide) (fun h9 => absurd (by decide) h9) (fun _ => ?_)
  refine lv_aload_n hx hb dL_errors_59 rfl (lv_at hl 0 rfl) ?_
  refine lv_iconst (v := 5) hx hb dL_errors_60 (by decide) ?_
  refine lv_iconst (v := 1) hx hb dL_errors_61 (by decide) ?_
  refine lr_i (rL (rest := []) ⟨hx, hb, hml, hown, hts⟩ (LB_setNumber_unk l G cA A o (u, v, f, g, L) n K ch 1) (cwV 2 hts gL_errors_X8_setNumber rfl rfl rfl mdX8_setNumber ⟨Nat.le_of_ble_eq_true rfl, Nat.le_of_ble_eq_true rfl⟩) hA hL rfl hl rfl (Nat.le_of_ble_eq_true rfl) dL_errors_62 ⟨Nat.le_of_ble_eq_true rfl, Nat.le_of_ble_eq_true rfl⟩) hA hL (fun r_62 H locs hr_62 hA hL => ?_)
  subst hr_62
  refine lv_iconst (v := (-1)) hx hb dL_errors_65 (by decide) ?_
  refine lv_icmp_ne (tgt := 194) hx hb dL_errors_66 (by decide) (fun h9 => absurd (by decide) h9) (fun _ => ?_)
  refine lv_aload_n hx hb dL_errors_69 rfl (lv_at hl 0 rfl) ?_
  refine lv_iconst (v := 0) hx hb dL_errors_70 (by decide) ?_
  refine lv_iconst (v := 0) hx hb dL_errors_71 (by decide) ?_
  refine lr_i (rL (rest := []) ⟨hx, hb, hml, hown, hts⟩ (LB_setNumber_lo l G cA A o (u, v, f, g, L) n K ch 0 (by decide) 0 (by decide)) (cwV 2 hts gL_errors_X8_setNumber rfl rfl rfl mdX8_setNumber ⟨Nat.le_of_ble_eq_true rfl, Nat.le_of_ble_eq_true rfl⟩) hA hL rfl hl rfl (Nat.le_of_ble_eq_true rfl) dL_errors_72 ⟨Nat.le_of_ble_eq_true rfl, Nat.le_of_ble_eq_true rfl⟩) hA hL (fun r_72 H locs hr_72 hA hL => ?_)
  subst hr_72
  refine lv_bipush (v := (-2)) hx hb dL_errors_75 (by decide) ?_
  refine lv_icmp_ne (tgt := 194) hx hb dL_errors_77 (by decide) (fun h9 => absurd (by decide) h9) (fun _ => ?_)
  refine lv_aload_n hx hb dL_errors_80 rfl (lv_at hl 0 rfl) ?_
  refine lv_iconst (v := 4) hx hb dL_errors_81 (by decide) ?_
  refine lv_bipush (v := 11) hx hb dL_errors_82 (by decide) ?_
  refine lr_i (rL (rest := []) ⟨hx, hb, hml, hown, hts⟩ (LB_setNumber_hi l G cA A o (u, v, f, g, L) n K ch 4 (by decide) 11 (by decide) (by decide)) (cwV 2 hts gL_errors_X8_setNumber rfl rfl rfl mdX8_setNumber ⟨Nat.le_of_ble_eq_true rfl, Nat.le_of_ble_eq_true rfl⟩) hA hL rfl hl rfl (Nat.le_of_ble_eq_true rfl) dL_errors_84 ⟨Nat.le_of_ble_eq_true rfl, Nat.le_of_ble_eq_true rfl⟩) hA hL (fun r_84 H locs hr_84 hA hL => ?_)
  subst hr_84
  refine lv_bipush (v := (-2)) hx hb dL_errors_87 (by decide) ?_
  refine lv_icmp_ne (tgt := 194) hx hb dL_errors_89 (by decide) (fun h9 => absurd (by decide) h9) (fun _ => ?_)
  refine lv_aload_n hx hb dL_errors_92 rfl (lv_at hl 0 rfl) ?_
  refine lv_iconst (v := 1) hx hb dL_errors_93 (by decide) ?_
  refine lv_bipush (v := 6) hx hb dL_errors_94 (by decide) ?_
  refine lr_i (rL (rest := []) ⟨hx, hb, hml, hown, hts⟩ (LB_setNumber_hi l G cA A o (u, v, f, g, L) n K ch 1 (by decide) 6 (by decide) (by decide)) (cwV 2 hts gL_errors_X8_setNumber rfl rfl rfl mdX8_setNumber ⟨Nat.le_of_ble_eq_true rfl, Nat.le_of_ble_eq_true rfl⟩) hA hL rfl hl rfl (Nat.le_of_ble_eq_true rfl) dL_errors_96 ⟨Nat.le_of_ble_eq_true rfl, Nat.le_of_ble_eq_true rfl⟩) hA hL (fun r_96 H locs hr_96 hA hL => ?_)
  subst hr_96
  refine lv_bipush (v := (-2)) hx hb dL_errors_99 (by decide) ?_
  refine lv_icmp_ne (tgt := 194) hx hb dL_errors_101 (by decide) (fun h9 => absurd (by decide) h9) (fun _ => ?_)
  refine lv_aload_n hx hb dL_errors_104 rfl (lv_at hl 0 rfl) ?_
  refine lv_bipush (v := 8) hx hb dL_errors_105 (by decide) ?_
  refine lv_iconst (v := 1) hx hb dL_errors_107 (by decide) ?_
  refine lr_i (rL (rest := []) ⟨hx, hb, hml, hown, hts⟩ (LB_pass_bad l G cA A o (u, v, f, g, L) n K ch 8 1 (Or.inr (Or.inl (by decide)))) (cwV 2 hts gL_errors_X8_pass rfl rfl rfl mdX8_pass ⟨Nat.le_of_ble_eq_true rfl, Nat.le_of_ble_eq_true rfl⟩) hA hL rfl hl rfl (Nat.le_of_ble_eq_true rfl) dL_errors_108 ⟨Nat.le_of_ble_eq_true rfl, Nat.le_of_ble_eq_true rfl⟩) hA hL (fun r_108 H locs hr_108 hA hL => ?_)
  subst hr_108
  refine lv_bipush (v := (-2)) hx hb dL_errors_111 (by decide) ?_
  refine lv_icmp_ne (tgt := 194) hx hb dL_errors_113 (by decide) (fun h9 => absurd (by decide) h9) (fun _ => ?_)
  refine lv_aload_n hx hb dL_errors_116 rfl (lv_at hl 0 rfl) ?_
  refine lv_iconst (v := 0) hx hb dL_errors_117 (by decide) ?_
  refine lv_iconst (v := 0) hx hb dL_errors_118 (by decide) ?_
  refine lr_i (rL (rest := []) ⟨hx, hb, hml, hown, hts⟩ (LB_pass_bad l G cA A o (u, v, f, g, L) n K ch 0 0 (Or.inr (Or.inr (Or.inl (by decide))))) (cwV 2 hts gL_errors_X8_pass rfl rfl rfl mdX8_pass ⟨Nat.le_of_ble_eq_true rfl, Nat.le_of_ble_eq_true rfl⟩) hA hL rfl hl rfl (Nat.le_of_ble_eq_true rfl) dL_errors_119 ⟨Nat.le_of_ble_eq_true rfl, Nat.le_of_ble_eq_true rfl⟩) hA hL (fun r_119 H locs hr_119 hA hL => ?_)
  subst hr_119
  refine lv_bipush (v := (-2)) hx hb dL_errors_122 (by decide) ?_
  refine lv_icmp_ne (tgt := 194) hx hb dL_errors_124 (by decide) (fun h9 => absurd (by decide) h9) (fun _ => ?_)
  refine lv_aload_n hx hb dL_errors_127 rfl (lv_at hl 0 rfl) ?_
  refine lv_iconst (v := 0) hx hb dL_errors_128 (by decide) ?_
  refine lv_bipush (v := 100) hx hb dL_errors_129 (by decide) ?_
  refine lr_i (rL (rest := []) ⟨hx, hb, hml, hown, hts⟩ (LB_pass_bad l G cA A o (u, v, f, g, L) n K ch 0 100 (Or.inr (Or.inr (Or.inr (by decide))))) (cwV 2 hts gL_errors_X8_pass rfl rfl rfl mdX8_pass ⟨Nat.le_of_ble_eq_true rfl, Nat.le_of_ble_eq_true rfl⟩) hA hL rfl hl rfl (Nat.le_of_ble_eq_true rfl) dL_errors_131 ⟨Nat.le_of_ble_eq_true rfl, Nat.le_of_ble_eq_true rfl⟩) hA hL (fun r_131 H locs hr_131 hA hL => ?_)
  subst hr_131
  refine lv_bipush (v := (-2)) hx hb dL_errors_134 (by decide) ?_
  refine lv_icmp_ne (tgt := 194) hx hb dL_errors_136 (by decide) (fun h9 => absurd (by decide) h9) (fun _ => ?_)
  refine lv_aload_n hx hb dL_errors_139 rfl (lv_at hl 0 rfl) ?_
  refine lv_bipush (v := 8) hx hb dL_errors_140 (by decide) ?_
  refine lv_iconst (v := 1) hx hb dL_errors_142 (by decide) ?_
  refine lr_f (rL (rest := []) ⟨hx, hb, hml, hown, hts⟩ (LB_placeIn_bad l G cA A o (u, v, f, g, L) n K ch 8 1 (Or.inr (Or.inl (by decide)))) (cwV 2 hts gL_errors_X8_placeIn rfl rfl rfl mdX8_placeIn ⟨Nat.le_of_ble_eq_true rfl, Nat.le_of_ble_eq_true rfl⟩) hA hL rfl hl rfl (Nat.le_of_ble_eq_true rfl) dL_errors_143 ⟨Nat.le_of_ble_eq_true rfl, Nat.le_of_ble_eq_true rfl⟩) hA hL (fun r_143 H locs hr_143 hA hL => ?_)
  subst hr_143
  refine lr_i (rS (rest := []) ⟨hx, hb, hml, hown, hts⟩ (cL_isNone_ok l G cA nanF) (va_cwS 1 hts gL_errors_L_isNone rfl rfl rfl mdL_isNone.2 ⟨Nat.le_of_ble_eq_true rfl, Nat.le_of_ble_eq_true rfl⟩) hA.1 empP empD rfl hl rfl (Nat.le_of_ble_eq_true rfl) dL_errors_146 ⟨Nat.le_of_ble_eq_true rfl, Nat.le_of_ble_eq_true rfl⟩) hA hL (fun r_146 H locs hr_146 hA hL => ?_)
  rw [nn_nan] at hr_146
  subst hr_146
  refine lv_if_eq (tgt := 194) hx hb dL_errors_149 (by decide) (fun h9 => absurd h9 (by decide)) (fun _ => ?_)
  refine lv_aload_n hx hb dL_errors_152 rfl (lv_at hl 0 rfl) ?_
  refine lv_iconst (v := 0) hx hb dL_errors_153 (by decide) ?_
  refine lv_bipush (v := 100) hx hb dL_errors_154 (by decide) ?_
  refine lr_f (rL (rest := []) ⟨hx, hb, hml, hown, hts⟩ (LB_placeIn_bad l G cA A o (u, v, f, g, L) n K ch 0 100 (Or.inr (Or.inr (Or.inr (by decide))))) (cwV 2 hts gL_errors_X8_placeIn rfl rfl rfl mdX8_placeIn ⟨Nat.le_of_ble_eq_true rfl, Nat.le_of_ble_eq_true rfl⟩) hA hL rfl hl rfl (Nat.le_of_ble_eq_true rfl) dL_errors_156 ⟨Nat.le_of_ble_eq_true rfl, Nat.le_of_ble_eq_true rfl⟩) hA hL (fun r_156 H locs hr_156 hA hL => ?_)
  subst hr_156
  refine lr_i (rS (rest := []) ⟨hx, hb, hml, hown, hts⟩ (cL_isNone_ok l G cA nanF) (va_cwS 1 hts gL_errors_L_isNone rfl rfl rfl mdL_isNone.2 ⟨Nat.le_of_ble_eq_true rfl, Nat.le_of_ble_eq_true rfl⟩) hA.1 empP empD rfl hl rfl (Nat.le_of_ble_eq_true rfl) dL_errors_159 ⟨Nat.le_of_ble_eq_true rfl, Nat.le_of_ble_eq_true rfl⟩) hA hL (fun r_159 H locs hr_159 hA hL => ?_)
  rw [nn_nan] at hr_159
  subst hr_159
  refine lv_if_eq (tgt := 194) hx hb dL_errors_162 (by decide) (fun h9 => absurd h9 (by decide)) (fun _ => ?_)
  refine lv_aload_n hx hb dL_errors_165 rfl (lv_at hl 0 rfl) ?_
  refine lv_iconst (v := 0) hx hb dL_errors_166 (by decide) ?_
  refine lv_iconst (v := 0) hx hb dL_errors_167 (by decide) ?_
  refine lw_f (rL (rest := []) ⟨hx, hb, hml, hown, hts⟩ (LB_placeIn_ok l G cA A o (u, v, f, g, L) n K ch 0 0 (by decide) (by decide) (by decide) (fun k hk => absurd hk (Nat.not_lt_zero k))) (cwV 2 hts gL_errors_X8_placeIn rfl rfl rfl mdX8_placeIn ⟨Nat.le_of_ble_eq_true rfl, Nat.le_of_ble_eq_true rfl⟩) hA hL rfl hl rfl (Nat.le_of_ble_eq_true rfl) dL_errors_168 ⟨Nat.le_of_ble_eq_true rfl, Nat.le_of_ble_eq_true rfl⟩) hA (fun r_168 _ H locs hr_168 hA hL => ?_)
  replace hL : LB G cA A o (u, v, f, g, L) n K ch H := hL
  replace hr_168 : r_168 = f 7 := hr_168
  subst hr_168
  refine lv_aload_n hx hb dL_errors_171 rfl (lv_at hl 0 rfl) ?_
  refine lr_f (rL (rest := [.float (f 7)]) ⟨hx, hb, hml, hown, hts⟩ (LB_place l G cA A o (u, v, f, g, L) n K ch) (cwV 0 hts gL_errors_X8_place rfl rfl rfl mdX8_place ⟨Nat.le_of_ble_eq_true rfl, Nat.le_of_ble_eq_true rfl⟩) hA hL rfl hl rfl (Nat.le_of_ble_eq_true rfl) dL_errors_172 ⟨Nat.le_of_ble_eq_true rfl, Nat.le_of_ble_eq_true rfl⟩) hA hL (fun r_172 H locs hr_172 hA hL => ?_)
  replace hr_172 : r_172 = f 7 := hr_172
  subst hr_172
  refine lv_fcmp hx hb dL_errors_175 ?_
  refine lv_if_ne (tgt := 194) hx hb dL_errors_176 (by decide) (fun c_176 => absurd (cmp_self (of_vf hf) _) c_176) (fun c_176 => ?_)
  refine lv_aload_n hx hb dL_errors_179 rfl (lv_at hl 0 rfl) ?_
  refine lv_bipush (v := 11) hx hb dL_errors_180 (by decide) ?_
  refine lr_i (rL (rest := []) ⟨hx, hb, hml, hown, hts⟩ (LB_count l G cA A o (u, v, f, g, L) n K ch 11) (cwV 1 hts gL_errors_X8_count rfl rfl rfl mdX8_count ⟨Nat.le_of_ble_eq_true rfl, Nat.le_of_ble_eq_true rfl⟩) hA hL rfl hl rfl (Nat.le_of_ble_eq_true rfl) dL_errors_182 ⟨Nat.le_of_ble_eq_true rfl, Nat.le_of_ble_eq_true rfl⟩) hA hL (fun r_182 H locs hr_182 hA hL => ?_)
  replace hr_182 : r_182 = (-2) := hr_182
  subst hr_182
  refine lv_bipush (v := (-2)) hx hb dL_errors_185 (by decide) ?_
  refine lv_icmp_ne (tgt := 194) hx hb dL_errors_187 (by decide) (fun h9 => absurd (by decide) h9) (fun _ => ?_)
  refine lv_iconst (v := 1) hx hb dL_errors_190 (by decide) ?_
  refine lv_goto (tgt := 195) hx hb dL_errors_191 (by decide) ?_
  refine lv_istore_n (lv' := [(1, .int 1), (0, .ref o)]) hx hb dL_errors_195 rfl hl (by decide) rfl (fun ls hl => ?_)
  refine lv_aload_n hx hb dL_errors_196 rfl (lv_at hl 1 rfl) ?_
  refine lw_i (rL (rest := []) ⟨hx, hb, hml, hown, hts⟩ (LB_clearText l G cA A o (u, v, f, g, L) n K ch) (cwV 0 hts gL_errors_X8_clearText rfl rfl rfl mdX8_clearText ⟨Nat.le_of_ble_eq_true rfl, Nat.le_of_ble_eq_true rfl⟩) hA hL rfl hl rfl (Nat.le_of_ble_eq_true rfl) dL_errors_197 ⟨Nat.le_of_ble_eq_true rfl, Nat.le_of_ble_eq_true rfl⟩) hA (fun r_197 _ H locs hr_197 hA hL => ?_)
  replace hL : LB G cA A o (u, v, f, g, L) n 0 ch H := hL
  refine lv_pop hx hb dL_errors_200 rfl ?_
  refine lv_iload_n hx hb dL_errors_201 rfl (lv_at hl 0 rfl) ?_
  refine lv_if_eq (tgt := 218) hx hb dL_errors_202 (by decide) (fun h9 => absurd h9 (by decide)) (fun _ => ?_)
  refine lv_aload_n hx hb dL_errors_205 rfl (lv_at hl 1 rfl) ?_
  refine lw_i (rL (rest := []) ⟨hx, hb, hml, hown, hts⟩ (LB_readBeams_0 l G cA A o (u, v, f, g, L) n ch ) (cwV 0 hts gL_errors_X8_readBeams rfl rfl rfl mdX8_readBeams ⟨Nat.le_of_ble_eq_true rfl, Nat.le_of_ble_eq_true rfl⟩) hA hL rfl hl rfl (Nat.le_of_ble_eq_true rfl) dL_errors_206 ⟨Nat.le_of_ble_eq_true rfl, Nat.le_of_ble_eq_true rfl⟩) hA (fun r_206 _ H locs hr_206 hA hL => ?_)
  replace hL : LB G cA A o (u, v, f, g, L) n 0 ch H := hL
  subst hr_206
  refine lv_bipush (v := (-100)) hx hb dL_errors_209 (by decide) ?_
  refine lv_icmp_ne (tgt := 218) hx hb dL_errors_211 (by decide) (fun h9 => absurd (by decide) h9) (fun _ => ?_)
  refine lv_iconst (v := 1) hx hb dL_errors_214 (by decide) ?_
  refine lv_goto (tgt := 219) hx hb dL_errors_215 (by decide) ?_
  refine lv_istore_n (lv' := [(1, .int 1), (0, .ref o)]) hx hb dL_errors_219 rfl hl (by decide) rfl (fun ls hl => ?_)
  refine lv_aload_n hx hb dL_errors_220 rfl (lv_at hl 1 rfl) ?_
  refine lv_bipush (v := 55) hx hb dL_errors_221 (by decide) ?_
  refine lw_i (rL (rest := []) ⟨hx, hb, hml, hown, hts⟩ (LB_type l G cA A o (u, v, f, g, L) n 0 ch (by decide) 55 (by decide +kernel)) (cwV 1 hts gL_errors_X8_type rfl rfl rfl mdX8_type ⟨Nat.le_of_ble_eq_true rfl, Nat.le_of_ble_eq_true rfl⟩) hA hL rfl hl rfl (Nat.le_of_ble_eq_true rfl) dL_errors_223 ⟨Nat.le_of_ble_eq_true rfl, Nat.le_of_ble_eq_true rfl⟩) hA (fun r_223 _ H locs hr_223 hA hL => ?_)
  replace hL : LB G cA A o (u, v, f, g, L) n 1 (upd ch 0 55) H := hL
  refine lv_pop hx hb dL_errors_226 rfl ?_
  refine lv_aload_n hx hb dL_errors_227 rfl (lv_at hl 1 rfl) ?_
  refine lv_bipush (v := 42) hx hb dL_errors_228 (by decide) ?_
  refine lw_i (rL (rest := []) ⟨hx, hb, hml, hown, hts⟩ (LB_type l G cA A o (u, v, f, g, L) n 1 (upd ch 0 55) (by decide) 42 (by decide +kernel)) (cwV 1 hts gL_errors_X8_type rfl rfl rfl mdX8_type ⟨Nat.le_of_ble_eq_true rfl, Nat.le_of_ble_eq_true rfl⟩) hA hL rfl hl rfl (Nat.le_of_ble_eq_true rfl) dL_errors_230 ⟨Nat.le_of_ble_eq_true rfl, Nat.le_of_ble_eq_true rfl⟩) hA (fun r_230 _ H locs hr_230 hA hL => ?_)
  replace hL : LB G cA A o (u, v, f, g, L) n 2 (upd (upd ch 0 55) 1 42) H := hL
  refine lv_pop hx hb dL_errors_233 rfl ?_
  refine lv_aload_n hx hb dL_errors_234 rfl (lv_at hl 1 rfl) ?_
  refine lv_bipush (v := 48) hx hb dL_errors_235 (by decide) ?_
  refine lw_i (rL (rest := []) ⟨hx, hb, hml, hown, hts⟩ (LB_type l G cA A o (u, v, f, g, L) n 2 (upd (upd ch 0 55) 1 42) (by decide) 48 (by decide +kernel)) (cwV 1 hts gL_errors_X8_type rfl rfl rfl mdX8_type ⟨Nat.le_of_ble_eq_true rfl, Nat.le_of_ble_eq_true rfl⟩) hA hL rfl hl rfl (Nat.le_of_ble_eq_true rfl) dL_errors_237 ⟨Nat.le_of_ble_eq_true rfl, Nat.le_of_ble_eq_true rfl⟩) hA (fun r_237 _ H locs hr_237 hA hL => ?_)
  replace hL : LB G cA A o (u, v, f, g, L) n 3 (upd (upd (upd ch 0 55) 1 42) 2 48) H := hL
  refine lv_pop hx hb dL_errors_240 rfl ?_
  refine lv_iload_n hx hb dL_errors_241 rfl (lv_at hl 0 rfl) ?_
  refine lv_if_eq (tgt := 266) hx hb dL_errors_242 (by decide) (fun h9 => absurd h9 (by decide)) (fun _ => ?_)
  refine lv_aload_n hx hb dL_errors_245 rfl (lv_at hl 1 rfl) ?_
  refine lw_i (rL (rest := []) ⟨hx, hb, hml, hown, hts⟩ (LB_readBeams_3 l G cA A o (u, v, f, g, L) n (upd (upd (upd ch 0 55) 1 42) 2 48) rfl rfl rfl) (cwV 0 hts gL_errors_X8_readBeams rfl rfl rfl mdX8_readBeams ⟨Nat.le_of_ble_eq_true rfl, Nat.le_of_ble_eq_true rfl⟩) hA hL rfl hl rfl (Nat.le_of_ble_eq_true rfl) dL_errors_246 ⟨Nat.le_of_ble_eq_true rfl, Nat.le_of_ble_eq_true rfl⟩) hA (fun r_246 _ H locs hr_246 hA hL => ?_)
  replace hL : LB G cA A o (u, v, f, g, L) n 3 (upd (upd (upd ch 0 55) 1 42) 2 48) H := hL
  subst hr_246
  refine lv_bipush (v := (-102)) hx hb dL_errors_249 (by decide) ?_
  refine lv_icmp_ne (tgt := 266) hx hb dL_errors_251 (by decide) (fun h9 => absurd (by decide) h9) (fun _ => ?_)
  refine lv_aload_n hx hb dL_errors_254 rfl (lv_at hl 1 rfl) ?_
  refine lw_i (rL (rest := []) ⟨hx, hb, hml, hown, hts⟩ (LB_clearText l G cA A o (u, v, f, g, L) n 3 (upd (upd (upd ch 0 55) 1 42) 2 48)) (cwV 0 hts gL_errors_X8_clearText rfl rfl rfl mdX8_clearText ⟨Nat.le_of_ble_eq_true rfl, Nat.le_of_ble_eq_true rfl⟩) hA hL rfl hl rfl (Nat.le_of_ble_eq_true rfl) dL_errors_255 ⟨Nat.le_of_ble_eq_true rfl, Nat.le_of_ble_eq_true rfl⟩) hA (fun r_255 _ H locs hr_255 hA hL => ?_)
  replace hL : LB G cA A o (u, v, f, g, L) n 0 (upd (upd (upd ch 0 55) 1 42) 2 48) H := hL
  replace hr_255 : r_255 = 3 := hr_255
  subst hr_255
  refine lv_iconst (v := 3) hx hb dL_errors_258 (by decide) ?_
  refine lv_icmp_ne (tgt := 266) hx hb dL_errors_259 (by decide) (fun h9 => absurd (by decide) h9) (fun _ => ?_)
  refine lv_iconst (v := 1) hx hb dL_errors_262 (by decide) ?_
  refine lv_goto (tgt := 267) hx hb dL_errors_263 (by decide) ?_
  refine lv_istore_n (lv' := [(1, .int 1), (0, .ref o)]) hx hb dL_errors_267 rfl hl (by decide) rfl (fun ls hl => ?_)
  refine lv_aload_n hx hb dL_errors_268 rfl (lv_at hl 1 rfl) ?_
  refine lv_bipush (v := 55) hx hb dL_errors_269 (by decide) ?_
  refine lw_i (rL (rest := []) ⟨hx, hb, hml, hown, hts⟩ (LB_type l G cA A o (u, v, f, g, L) n 0 (upd (upd (upd ch 0 55) 1 42) 2 48) (by decide) 55 (by decide +kernel)) (cwV 1 hts gL_errors_X8_type rfl rfl rfl mdX8_type ⟨Nat.le_of_ble_eq_true rfl, Nat.le_of_ble_eq_true rfl⟩) hA hL rfl hl rfl (Nat.le_of_ble_eq_true rfl) dL_errors_271 ⟨Nat.le_of_ble_eq_true rfl, Nat.le_of_ble_eq_true rfl⟩) hA (fun r_271 _ H locs hr_271 hA hL => ?_)
  replace hL : LB G cA A o (u, v, f, g, L) n 1 (upd (upd (upd (upd ch 0 55) 1 42) 2 48) 0 55) H := hL
  refine lv_pop hx hb dL_errors_274 rfl ?_
  refine lv_aload_n hx hb dL_errors_275 rfl (lv_at hl 1 rfl) ?_
  refine lv_bipush (v := 56) hx hb dL_errors_276 (by decide) ?_
  refine lw_i (rL (rest := []) ⟨hx, hb, hml, hown, hts⟩ (LB_type l G cA A o (u, v, f, g, L) n 1 (upd (upd (upd (upd ch 0 55) 1 42) 2 48) 0 55) (by decide) 56 (by decide +kernel)) (cwV 1 hts gL_errors_X8_type rfl rfl rfl mdX8_type ⟨Nat.le_of_ble_eq_true rfl, Nat.le_of_ble_eq_true rfl⟩) hA hL rfl hl rfl (Nat.le_of_ble_eq_true rfl) dL_errors_278 ⟨Nat.le_of_ble_eq_true rfl, Nat.le_of_ble_eq_true rfl⟩) hA (fun r_278 _ H locs hr_278 hA hL => ?_)
  replace hL : LB G cA A o (u, v, f, g, L) n 2 (upd (upd (upd (upd (upd ch 0 55) 1 42) 2 48) 0 55) 1 56) H := hL
  refine lv_pop hx hb dL_errors_281 rfl ?_
  refine lv_iload_n hx hb dL_errors_282 rfl (lv_at hl 0 rfl) ?_
  refine lv_if_eq (tgt := 309) hx hb dL_errors_283 (by decide) (fun h9 => absurd h9 (by decide)) (fun _ => ?_)
  refine lv_aload_n hx hb dL_errors_286 rfl (lv_at hl 1 rfl) ?_
  refine lw_i (rL (rest := []) ⟨hx, hb, hml, hown, hts⟩ (LB_readBeams_2 l G cA A o (u, v, f, g, L) n (upd (upd (upd (upd (upd ch 0 55) 1 42) 2 48) 0 55) 1 56) rfl rfl) (cwV 0 hts gL_errors_X8_readBeams rfl rfl rfl mdX8_readBeams ⟨Nat.le_of_ble_eq_true rfl, Nat.le_of_ble_eq_true rfl⟩) hA hL rfl hl rfl (Nat.le_of_ble_eq_true rfl) dL_errors_287 ⟨Nat.le_of_ble_eq_true rfl, Nat.le_of_ble_eq_true rfl⟩) hA (fun r_287 _ H locs hr_287 hA hL => ?_)
  replace hL : LB G cA A o (u, v, f, g, L) n 2 (upd (upd (upd (upd (upd ch 0 55) 1 42) 2 48) 0 55) 1 56) H := hL
  subst hr_287
  refine lv_bipush (v := (-101)) hx hb dL_errors_290 (by decide) ?_
  refine lv_icmp_ne (tgt := 309) hx hb dL_errors_292 (by decide) (fun h9 => absurd (by decide) h9) (fun _ => ?_)
  refine lv_aload_n hx hb dL_errors_295 rfl (lv_at hl 1 rfl) ?_
  refine lv_bipush (v := 10) hx hb dL_errors_296 (by decide) ?_
  refine lr_i (rL (rest := []) ⟨hx, hb, hml, hown, hts⟩ (LB_count l G cA A o (u, v, f, g, L) n 2 (upd (upd (upd (upd (upd ch 0 55) 1 42) 2 48) 0 55) 1 56) 10) (cwV 1 hts gL_errors_X8_count rfl rfl rfl mdX8_count ⟨Nat.le_of_ble_eq_true rfl, Nat.le_of_ble_eq_true rfl⟩) hA hL rfl hl rfl (Nat.le_of_ble_eq_true rfl) dL_errors_298 ⟨Nat.le_of_ble_eq_true rfl, Nat.le_of_ble_eq_true rfl⟩) hA hL (fun r_298 H locs hr_298 hA hL => ?_)
  replace hr_298 : r_298 = 2 := hr_298
  subst hr_298
  refine lv_iconst (v := 2) hx hb dL_errors_301 (by decide) ?_
  refine lv_icmp_ne (tgt := 309) hx hb dL_errors_302 (by decide) (fun h9 => absurd (by decide) h9) (fun _ => ?_)
  refine lv_iconst (v := 1) hx hb dL_errors_305 (by decide) ?_
  refine lv_goto (tgt := 310) hx hb dL_errors_306 (by decide) ?_
  refine lv_istore_n (lv' := [(1, .int 1), (0, .ref o)]) hx hb dL_errors_310 rfl hl (by decide) rfl (fun ls hl => ?_)
  refine lv_aload_n hx hb dL_errors_311 rfl (lv_at hl 1 rfl) ?_
  refine lv_bipush (v := 9) hx hb dL_errors_312 (by decide) ?_
  refine lr_i (rL (rest := []) ⟨hx, hb, hml, hown, hts⟩ (LB_count l G cA A o (u, v, f, g, L) n 2 (upd (upd (upd (upd (upd ch 0 55) 1 42) 2 48) 0 55) 1 56) 9) (cwV 1 hts gL_errors_X8_count rfl rfl rfl mdX8_count ⟨Nat.le_of_ble_eq_true rfl, Nat.le_of_ble_eq_true rfl⟩) hA hL rfl hl rfl (Nat.le_of_ble_eq_true rfl) dL_errors_314 ⟨Nat.le_of_ble_eq_true rfl, Nat.le_of_ble_eq_true rfl⟩) hA hL (fun r_314 H locs hr_314 hA hL => ?_)
  replace hr_314 : r_314 = nI n := hr_314
  subst hr_314
  refine lv_istore_n (lv' := [(2, .int (nI n)), (1, .int 1), (0, .ref o)]) hx hb dL_errors_317 rfl hl (by decide) rfl (fun ls hl => ?_)
  refine lv_iload_n hx hb dL_errors_318 rfl (lv_at hl 1 rfl) ?_
  refine lv_if_eq (tgt := 345) hx hb dL_errors_319 (by decide) (fun h9 => absurd h9 (by decide)) (fun _ => ?_)
  refine lv_aload_n hx hb dL_errors_322 rfl (lv_at hl 2 rfl) ?_
  refine lw_i (T := Unit) (B := fun _ _ => True) (rL (rest := []) ⟨hx, hb, hml, hown, hts⟩ (LB_undo l G cA A o (u, v, f, g, L) n 2 (upd (upd (upd (upd (upd ch 0 55) 1 42) 2 48) 0 55) 1 56) hn) (cwV 0 hts gL_errors_X8_undo rfl rfl rfl mdX8_undo ⟨Nat.le_of_ble_eq_true rfl, Nat.le_of_ble_eq_true rfl⟩) hA hL rfl hl rfl (Nat.le_of_ble_eq_true rfl) dL_errors_323 ⟨Nat.le_of_ble_eq_true rfl, Nat.le_of_ble_eq_true rfl⟩) hA (fun r_323 _ H locs hr_323 hA hL => ?_)
  replace hr_323 : r_323 = (-5) := hr_323.trans (if_pos hn0)
  subst hr_323
  refine lv_iload_n hx hb dL_errors_326 rfl (lv_at hl 0 rfl) ?_
  refine lv_if_le (tgt := 336) hx hb dL_errors_327 (by decide) (fun c_327 => ?_) (fun c_327 => absurd (by rw [hn0]; decide) c_327)
  refine lv_bipush (v := (-5)) hx hb dL_errors_336 (by decide) ?_
  refine lv_icmp_ne (tgt := 345) hx hb dL_errors_338 (by decide) (fun h9 => absurd (by decide) h9) (fun _ => ?_)
  refine lv_iconst (v := 1) hx hb dL_errors_341 (by decide) ?_
  refine lv_goto (tgt := 346) hx hb dL_errors_342 (by decide) ?_
  exact en_l (post := fun r (_ : Unit) => r = 1) (B := fun _ _ => True) () hx hb hr hlocks hA rfl trivial dL_errors_346
set_option maxHeartbeats 8000000 in
set_option maxRecDepth 100000 in
/-- errors(o), a state to go back to -/
theorem cL_errors_n (l : Launch) (G : va_G) (cA : Nat → ClassId) (A : Nat → Prop) (o : Nat) (u : FF) (v : GG) (f : FF) (g L : GG) (n K : Nat) (ch : GG) (hn : n ≤ 4) (hn0 : ¬ n = 0) (hf : vf_n32 (f 7)) : Met l yL_errors wsL_errors ({ frames := 7, cells := 0, slots := 0, locals := 160 } : Room) (va_Pc [.ref o] (LbP G cA A o (u, v, f, g, L) n K ch)) (va_Qi (fun r (_ : Unit) => r = 1) (fun _ _ => True) A) 0 0 A := by
  refine ofW2 (cc := cL_errors) (maxL := 3) (ret := (some .boolean)) (own := RL) (by decide) rfl rfl (Nat.le_of_ble_eq_true rfl) rfl ?_
  intro p e s m below meth c ls hx hb hml hr hts hown hlocks hv hl
  obtain ⟨hE, hN, hL⟩ := hv
  have hA : At G cA A s s.heap [] := ⟨hE, hN, va_S.rf⟩
  obtain ⟨H, hH0⟩ : ∃ H, H = s.heap := ⟨_, rfl⟩
  rw [← hH0] at hL ⊢
  replace hA : At G cA A s H [] := by rw [hH0]; exact hA
  generalize ([] : List Loc) = locs at hA ⊢
  clear hH0
  replace hl : lv_has ls 3 [(0, .ref o)] := hl
  refine lv_aload_n hx hb dL_errors_0 rfl (lv_at hl 0 rfl) ?_
  refine lv_iconst (v := 3) hx hb dL_errors_1 (by decide) ?_
  refine lv_iconst (v := 1) hx hb dL_errors_2 (by decide) ?_
  refine lr_i (rS (rest := [.int 3, .ref o]) ⟨hx, hb, hml, hown, hts⟩ (cL_bits_ok l G cA 1) (va_cwS 1 hts gL_errors_L_bits rfl rfl rfl mdL_bits.2 ⟨Nat.le_of_ble_eq_true rfl, Nat.le_of_ble_eq_true rfl⟩) hA.1 empP empD rfl hl rfl (Nat.le_of_ble_eq_true rfl) dL_errors_3 ⟨Nat.le_of_ble_eq_true rfl, Nat.le_of_ble_eq_true rfl⟩) hA hL (fun r_3 H locs hr_3 hA hL => ?_)
  replace hr_3 : r_3 = 1065353216 := hr_3.trans (by decide +kernel)
  subst hr_3
  refine lr_i (rL (rest := []) ⟨hx, hb, hml, hown, hts⟩ (LB_setSpeed_unk l G cA A o (u, v, f, g, L) n K ch 1065353216) (cwV 2 hts gL_errors_X8_setSpeed rfl rfl rfl mdX8_setSpeed ⟨Nat.le_of_ble_eq_true rfl, Nat.le_of_ble_eq_true rfl⟩) hA hL rfl hl rfl (Nat.le_of_ble_eq_true rfl) dL_errors_6 ⟨Nat.le_of_ble_eq_true rfl, Nat.le_of_ble_eq_true rfl⟩) hA hL (fun r_6 H locs hr_6 hA hL => ?_)
  subst hr_6
  refine lv_iconst (v := (-1)) hx hb dL_errors_9 (by decide) ?_
  refine lv_icmp_ne (tgt := 194) hx hb dL_errors_10 (by decide) (fun h9 => absurd (by decide) h9) (fun _ => ?_)
  refine lv_aload_n hx hb dL_errors_13 rfl (lv_at hl 0 rfl) ?_
  refine lv_iconst (v := 0) hx hb dL_errors_14 (by decide) ?_
  refine lv_ldc hx hb hown (hts (.constant RL 119 (2143289344)) (by decide +kernel)) dL_errors_15 ?_
  refine lr_i (rL (rest := []) ⟨hx, hb, hml, hown, hts⟩ (LB_setSpeed_bad_2143289344 l G cA A o (u, v, f, g, L) n K ch 0 (by decide)) (cwV 2 hts gL_errors_X8_setSpeed rfl rfl rfl mdX8_setSpeed ⟨Nat.le_of_ble_eq_true rfl, Nat.le_of_ble_eq_true rfl⟩) hA hL rfl hl rfl (Nat.le_of_ble_eq_true rfl) dL_errors_17 ⟨Nat.le_of_ble_eq_true rfl, Nat.le_of_ble_eq_true rfl⟩) hA hL (fun r_17 H locs hr_17 hA hL => ?_)
  subst hr_17
  refine lv_bipush (v := (-2)) hx hb dL_errors_20 (by decide) ?_
  refine lv_icmp_ne (tgt := 194) hx hb dL_errors_22 (by decide) (fun h9 => absurd (by decide) h9) (fun _ => ?_)
  refine lv_aload_n hx hb dL_errors_25 rfl (lv_at hl 0 rfl) ?_
  refine lv_iconst (v := 4) hx hb dL_errors_26 (by decide) ?_
  refine lv_iconst (v := 0) hx hb dL_errors_27 (by decide) ?_
  refine lr_i (rL (rest := []) ⟨hx, hb, hml, hown, hts⟩ (LB_setWeight_unk l G cA A o (u, v, f, g, L) n K ch 0) (cwV 2 hts gL_errors_X8_setWeight rfl rfl rfl mdX8_setWeight ⟨Nat.le_of_ble_eq_true rfl, Nat.le_of_ble_eq_true rfl⟩) hA hL rfl hl rfl (Nat.le_of_ble_eq_true rfl) dL_errors_28 ⟨Nat.le_of_ble_eq_true rfl, Nat.le_of_ble_eq_true rfl⟩) hA hL (fun r_28 H locs hr_28 hA hL => ?_)
  subst hr_28
  refine lv_iconst (v := (-1)) hx hb dL_errors_31 (by decide) ?_
  refine lv_icmp_ne (tgt := 194) hx hb dL_errors_32 (by decide) (fun h9 => absurd (by decide) h9) (fun _ => ?_)
  refine lv_aload_n hx hb dL_errors_35 rfl (lv_at hl 0 rfl) ?_
  refine lv_iconst (v := 0) hx hb dL_errors_36 (by decide) ?_
  refine lv_ldc hx hb hown (hts (.constant RL 120 (-2147483648)) (by decide +kernel)) dL_errors_37 ?_
  refine lr_i (rL (rest := []) ⟨hx, hb, hml, hown, hts⟩ (LB_setWeight_bad_m2147483648 l G cA A o (u, v, f, g, L) n K ch 0 (by decide)) (cwV 2 hts gL_errors_X8_setWeight rfl rfl rfl mdX8_setWeight ⟨Nat.le_of_ble_eq_true rfl, Nat.le_of_ble_eq_true rfl⟩) hA hL rfl hl rfl (Nat.le_of_ble_eq_true rfl) dL_errors_39 ⟨Nat.le_of_ble_eq_true rfl, Nat.le_of_ble_eq_true rfl⟩) hA hL (fun r_39 H locs hr_39 hA hL => ?_)
  subst hr_39
  refine lv_bipush (v := (-2)) hx hb dL_errors_42 (by decide) ?_
  refine lv_icmp_ne (tgt := 194) hx hb dL_errors_44 (by decide) (fun h9 => absurd (by decide) h9) (fun _ => ?_)
  refine lv_aload_n hx hb dL_errors_47 rfl (lv_at hl 0 rfl) ?_
  refine lv_iconst (v := 0) hx hb dL_errors_48 (by decide) ?_
  refine lv_ldc hx hb hown (hts (.constant RL 121 (1082130433)) (by decide +kernel)) dL_errors_49 ?_
  refine lr_i (rL (rest := []) ⟨hx, hb, hml, hown, hts⟩ (LB_setWeight_bad_1082130433 l G cA A o (u, v, f, g, L) n K ch 0 (by decide)) (cwV 2 hts gL_errors_X8_setWeight rfl rfl rfl mdX8_setWeight ⟨Nat.le_of_ble_eq_true rfl, Nat.le_of_ble_eq_true rfl⟩) hA hL rfl hl rfl (Nat.le_of_ble_eq_true rfl) dL_errors_51 ⟨Nat.le_of_ble_eq_true rfl, Nat.le_of_ble_eq_true rfl⟩) hA hL (fun r_51 H locs hr_51 hA hL => ?_)
  subst hr_51
  refine lv_bipush (v := (-2)) hx hb dL_errors_54 (by decide) ?_
  refine lv_icmp_ne (tgt := 194) hx hb dL_errors_56 (by decide) (fun h9 => absurd (by decide) h9) (fun _ => ?_)
  refine lv_aload_n hx hb dL_errors_59 rfl (lv_at hl 0 rfl) ?_
  refine lv_iconst (v := 5) hx hb dL_errors_60 (by decide) ?_
  refine lv_iconst (v := 1) hx hb dL_errors_61 (by decide) ?_
  refine lr_i (rL (rest := []) ⟨hx, hb, hml, hown, hts⟩ (LB_setNumber_unk l G cA A o (u, v, f, g, L) n K ch 1) (cwV 2 hts gL_errors_X8_setNumber rfl rfl rfl mdX8_setNumber ⟨Nat.le_of_ble_eq_true rfl, Nat.le_of_ble_eq_true rfl⟩) hA hL rfl hl rfl (Nat.le_of_ble_eq_true rfl) dL_errors_62 ⟨Nat.le_of_ble_eq_true rfl, Nat.le_of_ble_eq_true rfl⟩) hA hL (fun r_62 H locs hr_62 hA hL => ?_)
  subst hr_62
  refine lv_iconst (v := (-1)) hx hb dL_errors_65 (by decide) ?_
  refine lv_icmp_ne (tgt := 194) hx hb dL_errors_66 (by decide) (fun h9 => absurd (by decide) h9) (fun _ => ?_)
  refine lv_aload_n hx hb dL_errors_69 rfl (lv_at hl 0 rfl) ?_
  refine lv_iconst (v := 0) hx hb dL_errors_70 (by decide) ?_
  refine lv_iconst (v := 0) hx hb dL_errors_71 (by decide) ?_
  refine lr_i (rL (rest := []) ⟨hx, hb, hml, hown, hts⟩ (LB_setNumber_lo l G cA A o (u, v, f, g, L) n K ch 0 (by decide) 0 (by decide)) (cwV 2 hts gL_errors_X8_setNumber rfl rfl rfl mdX8_setNumber ⟨Nat.le_of_ble_eq_true rfl, Nat.le_of_ble_eq_true rfl⟩) hA hL rfl hl rfl (Nat.le_of_ble_eq_true rfl) dL_errors_72 ⟨Nat.le_of_ble_eq_true rfl, Nat.le_of_ble_eq_true rfl⟩) hA hL (fun r_72 H locs hr_72 hA hL => ?_)
  subst hr_72
  refine lv_bipush (v := (-2)) hx hb dL_errors_75 (by decide) ?_
  refine lv_icmp_ne (tgt := 194) hx hb dL_errors_77 (by decide) (fun h9 => absurd (by decide) h9) (fun _ => ?_)
  refine lv_aload_n hx hb dL_errors_80 rfl (lv_at hl 0 rfl) ?_
  refine lv_iconst (v := 4) hx hb dL_errors_81 (by decide) ?_
  refine lv_bipush (v := 11) hx hb dL_errors_82 (by decide) ?_
  refine lr_i (rL (rest := []) ⟨hx, hb, hml, hown, hts⟩ (LB_setNumber_hi l G cA A o (u, v, f, g, L) n K ch 4 (by decide) 11 (by decide) (by decide)) (cwV 2 hts gL_errors_X8_setNumber rfl rfl rfl mdX8_setNumber ⟨Nat.le_of_ble_eq_true rfl, Nat.le_of_ble_eq_true rfl⟩) hA hL rfl hl rfl (Nat.le_of_ble_eq_true rfl) dL_errors_84 ⟨Nat.le_of_ble_eq_true rfl, Nat.le_of_ble_eq_true rfl⟩) hA hL (fun r_84 H locs hr_84 hA hL => ?_)
  subst hr_84
  refine lv_bipush (v := (-2)) hx hb dL_errors_87 (by decide) ?_
  refine lv_icmp_ne (tgt := 194) hx hb dL_errors_89 (by decide) (fun h9 => absurd (by decide) h9) (fun _ => ?_)
  refine lv_aload_n hx hb dL_errors_92 rfl (lv_at hl 0 rfl) ?_
  refine lv_iconst (v := 1) hx hb dL_errors_93 (by decide) ?_
  refine lv_bipush (v := 6) hx hb dL_errors_94 (by decide) ?_
  refine lr_i (rL (rest := []) ⟨hx, hb, hml, hown, hts⟩ (LB_setNumber_hi l G cA A o (u, v, f, g, L) n K ch 1 (by decide) 6 (by decide) (by decide)) (cwV 2 hts gL_errors_X8_setNumber rfl rfl rfl mdX8_setNumber ⟨Nat.le_of_ble_eq_true rfl, Nat.le_of_ble_eq_true rfl⟩) hA hL rfl hl rfl (Nat.le_of_ble_eq_true rfl) dL_errors_96 ⟨Nat.le_of_ble_eq_true rfl, Nat.le_of_ble_eq_true rfl⟩) hA hL (fun r_96 H locs hr_96 hA hL => ?_)
  subst hr_96
  refine lv_bipush (v := (-2)) hx hb dL_errors_99 (by decide) ?_
  refine lv_icmp_ne (tgt := 194) hx hb dL_errors_101 (by decide) (fun h9 => absurd (by decide) h9) (fun _ => ?_)
  refine lv_aload_n hx hb dL_errors_104 rfl (lv_at hl 0 rfl) ?_
  refine lv_bipush (v := 8) hx hb dL_errors_105 (by decide) ?_
  refine lv_iconst (v := 1) hx hb dL_errors_107 (by decide) ?_
  refine lr_i (rL (rest := []) ⟨hx, hb, hml, hown, hts⟩ (LB_pass_bad l G cA A o (u, v, f, g, L) n K ch 8 1 (Or.inr (Or.inl (by decide)))) (cwV 2 hts gL_errors_X8_pass rfl rfl rfl mdX8_pass ⟨Nat.le_of_ble_eq_true rfl, Nat.le_of_ble_eq_true rfl⟩) hA hL rfl hl rfl (Nat.le_of_ble_eq_true rfl) dL_errors_108 ⟨Nat.le_of_ble_eq_true rfl, Nat.le_of_ble_eq_true rfl⟩) hA hL (fun r_108 H locs hr_108 hA hL => ?_)
  subst hr_108
  refine lv_bipush (v := (-2)) hx hb dL_errors_111 (by decide) ?_
  refine lv_icmp_ne (tgt := 194) hx hb dL_errors_113 (by decide) (fun h9 => absurd (by decide) h9) (fun _ => ?_)
  refine lv_aload_n hx hb dL_errors_116 rfl (lv_at hl 0 rfl) ?_
  refine lv_iconst (v := 0) hx hb dL_errors_117 (by decide) ?_
  refine lv_iconst (v := 0) hx hb dL_errors_118 (by decide) ?_
  refine lr_i (rL (rest := []) ⟨hx, hb, hml, hown, hts⟩ (LB_pass_bad l G cA A o (u, v, f, g, L) n K ch 0 0 (Or.inr (Or.inr (Or.inl (by decide))))) (cwV 2 hts gL_errors_X8_pass rfl rfl rfl mdX8_pass ⟨Nat.le_of_ble_eq_true rfl, Nat.le_of_ble_eq_true rfl⟩) hA hL rfl hl rfl (Nat.le_of_ble_eq_true rfl) dL_errors_119 ⟨Nat.le_of_ble_eq_true rfl, Nat.le_of_ble_eq_true rfl⟩) hA hL (fun r_119 H locs hr_119 hA hL => ?_)
  subst hr_119
  refine lv_bipush (v := (-2)) hx hb dL_errors_122 (by decide) ?_
  refine lv_icmp_ne (tgt := 194) hx hb dL_errors_124 (by decide) (fun h9 => absurd (by decide) h9) (fun _ => ?_)
  refine lv_aload_n hx hb dL_errors_127 rfl (lv_at hl 0 rfl) ?_
  refine lv_iconst (v := 0) hx hb dL_errors_128 (by decide) ?_
  refine lv_bipush (v := 100) hx hb dL_errors_129 (by decide) ?_
  refine lr_i (rL (rest := []) ⟨hx, hb, hml, hown, hts⟩ (LB_pass_bad l G cA A o (u, v, f, g, L) n K ch 0 100 (Or.inr (Or.inr (Or.inr (by decide))))) (cwV 2 hts gL_errors_X8_pass rfl rfl rfl mdX8_pass ⟨Nat.le_of_ble_eq_true rfl, Nat.le_of_ble_eq_true rfl⟩) hA hL rfl hl rfl (Nat.le_of_ble_eq_true rfl) dL_errors_131 ⟨Nat.le_of_ble_eq_true rfl, Nat.le_of_ble_eq_true rfl⟩) hA hL (fun r_131 H locs hr_131 hA hL => ?_)
  subst hr_131
  refine lv_bipush (v := (-2)) hx hb dL_errors_134 (by decide) ?_
  refine lv_icmp_ne (tgt := 194) hx hb dL_errors_136 (by decide) (fun h9 => absurd (by decide) h9) (fun _ => ?_)
  refine lv_aload_n hx hb dL_errors_139 rfl (lv_at hl 0 rfl) ?_
  refine lv_bipush (v := 8) hx hb dL_errors_140 (by decide) ?_
  refine lv_iconst (v := 1) hx hb dL_errors_142 (by decide) ?_
  refine lr_f (rL (rest := []) ⟨hx, hb, hml, hown, hts⟩ (LB_placeIn_bad l G cA A o (u, v, f, g, L) n K ch 8 1 (Or.inr (Or.inl (by decide)))) (cwV 2 hts gL_errors_X8_placeIn rfl rfl rfl mdX8_placeIn ⟨Nat.le_of_ble_eq_true rfl, Nat.le_of_ble_eq_true rfl⟩) hA hL rfl hl rfl (Nat.le_of_ble_eq_true rfl) dL_errors_143 ⟨Nat.le_of_ble_eq_true rfl, Nat.le_of_ble_eq_true rfl⟩) hA hL (fun r_143 H locs hr_143 hA hL => ?_)
  subst hr_143
  refine lr_i (rS (rest := []) ⟨hx, hb, hml, hown, hts⟩ (cL_isNone_ok l G cA nanF) (va_cwS 1 hts gL_errors_L_isNone rfl rfl rfl mdL_isNone.2 ⟨Nat.le_of_ble_eq_true rfl, Nat.le_of_ble_eq_true rfl⟩) hA.1 empP empD rfl hl rfl (Nat.le_of_ble_eq_true rfl) dL_errors_146 ⟨Nat.le_of_ble_eq_true rfl, Nat.le_of_ble_eq_true rfl⟩) hA hL (fun r_146 H locs hr_146 hA hL => ?_)
  rw [nn_nan] at hr_146
  subst hr_146
  refine lv_if_eq (tgt := 194) hx hb dL_errors_149 (by decide) (fun h9 => absurd h9 (by decide)) (fun _ => ?_)
  refine lv_aload_n hx hb dL_errors_152 rfl (lv_at hl 0 rfl) ?_
  refine lv_iconst (v := 0) hx hb dL_errors_153 (by decide) ?_
  refine lv_bipush (v := 100) hx hb dL_errors_154 (by decide) ?_
  refine lr_f (rL (rest := []) ⟨hx, hb, hml, hown, hts⟩ (LB_placeIn_bad l G cA A o (u, v, f, g, L) n K ch 0 100 (Or.inr (Or.inr (Or.inr (by decide))))) (cwV 2 hts gL_errors_X8_placeIn rfl rfl rfl mdX8_placeIn ⟨Nat.le_of_ble_eq_true rfl, Nat.le_of_ble_eq_true rfl⟩) hA hL rfl hl rfl (Nat.le_of_ble_eq_true rfl) dL_errors_156 ⟨Nat.le_of_ble_eq_true rfl, Nat.le_of_ble_eq_true rfl⟩) hA hL (fun r_156 H locs hr_156 hA hL => ?_)
  subst hr_156
  refine lr_i (rS (rest := []) ⟨hx, hb, hml, hown, hts⟩ (cL_isNone_ok l G cA nanF) (va_cwS 1 hts gL_errors_L_isNone rfl rfl rfl mdL_isNone.2 ⟨Nat.le_of_ble_eq_true rfl, Nat.le_of_ble_eq_true rfl⟩) hA.1 empP empD rfl hl rfl (Nat.le_of_ble_eq_true rfl) dL_errors_159 ⟨Nat.le_of_ble_eq_true rfl, Nat.le_of_ble_eq_true rfl⟩) hA hL (fun r_159 H locs hr_159 hA hL => ?_)
  rw [nn_nan] at hr_159
  subst hr_159
  refine lv_if_eq (tgt := 194) hx hb dL_errors_162 (by decide) (fun h9 => absurd h9 (by decide)) (fun _ => ?_)
  refine lv_aload_n hx hb dL_errors_165 rfl (lv_at hl 0 rfl) ?_
  refine lv_iconst (v := 0) hx hb dL_errors_166 (by decide) ?_
  refine lv_iconst (v := 0) hx hb dL_errors_167 (by decide) ?_
  refine lw_f (rL (rest := []) ⟨hx, hb, hml, hown, hts⟩ (LB_placeIn_ok l G cA A o (u, v, f, g, L) n K ch 0 0 (by decide) (by decide) (by decide) (fun k hk => absurd hk (Nat.not_lt_zero k))) (cwV 2 hts gL_errors_X8_placeIn rfl rfl rfl mdX8_placeIn ⟨Nat.le_of_ble_eq_true rfl, Nat.le_of_ble_eq_true rfl⟩) hA hL rfl hl rfl (Nat.le_of_ble_eq_true rfl) dL_errors_168 ⟨Nat.le_of_ble_eq_true rfl, Nat.le_of_ble_eq_true rfl⟩) hA (fun r_168 _ H locs hr_168 hA hL => ?_)
  replace hL : LB G cA A o (u, v, f, g, L) n K ch H := hL
  replace hr_168 : r_168 = f 7 := hr_168
  subst hr_168
  refine lv_aload_n hx hb dL_errors_171 rfl (lv_at hl 0 rfl) ?_
  refine lr_f (rL (rest := [.float (f 7)]) ⟨hx, hb, hml, hown, hts⟩ (LB_place l G cA A o (u, v, f, g, L) n K ch) (cwV 0 hts gL_errors_X8_place rfl rfl rfl mdX8_place ⟨Nat.le_of_ble_eq_true rfl, Nat.le_of_ble_eq_true rfl⟩) hA hL rfl hl rfl (Nat.le_of_ble_eq_true rfl) dL_errors_172 ⟨Nat.le_of_ble_eq_true rfl, Nat.le_of_ble_eq_true rfl⟩) hA hL (fun r_172 H locs hr_172 hA hL => ?_)
  replace hr_172 : r_172 = f 7 := hr_172
  subst hr_172
  refine lv_fcmp hx hb dL_errors_175 ?_
  refine lv_if_ne (tgt := 194) hx hb dL_errors_176 (by decide) (fun c_176 => absurd (cmp_self (of_vf hf) _) c_176) (fun c_176 => ?_)
  refine lv_aload_n hx hb dL_errors_179 rfl (lv_at hl 0 rfl) ?_
  refine lv_bipush (v := 11) hx hb dL_errors_180 (by decide) ?_
  refine lr_i (rL (rest := []) ⟨hx, hb, hml, hown, hts⟩ (LB_count l G cA A o (u, v, f, g, L) n K ch 11) (cwV 1 hts gL_errors_X8_count rfl rfl rfl mdX8_count ⟨Nat.le_of_ble_eq_true rfl, Nat.le_of_ble_eq_true rfl⟩) hA hL rfl hl rfl (Nat.le_of_ble_eq_true rfl) dL_errors_182 ⟨Nat.le_of_ble_eq_true rfl, Nat.le_of_ble_eq_true rfl⟩) hA hL (fun r_182 H locs hr_182 hA hL => ?_)
  replace hr_182 : r_182 = (-2) := hr_182
  subst hr_182
  refine lv_bipush (v := (-2)) hx hb dL_errors_185 (by decide) ?_
  refine lv_icmp_ne (tgt := 194) hx hb dL_errors_187 (by decide) (fun h9 => absurd (by decide) h9) (fun _ => ?_)
  refine lv_iconst (v := 1) hx hb dL_errors_190 (by decide) ?_
  refine lv_goto (tgt := 195) hx hb dL_errors_191 (by decide) ?_
  refine lv_istore_n (lv' := [(1, .int 1), (0, .ref o)]) hx hb dL_errors_195 rfl hl (by decide) rfl (fun ls hl => ?_)
  refine lv_aload_n hx hb dL_errors_196 rfl (lv_at hl 1 rfl) ?_
  refine lw_i (rL (rest := []) ⟨hx, hb, hml, hown, hts⟩ (LB_clearText l G cA A o (u, v, f, g, L) n K ch) (cwV 0 hts gL_errors_X8_clearText rfl rfl rfl mdX8_clearText ⟨Nat.le_of_ble_eq_true rfl, Nat.le_of_ble_eq_true rfl⟩) hA hL rfl hl rfl (Nat.le_of_ble_eq_true rfl) dL_errors_197 ⟨Nat.le_of_ble_eq_true rfl, Nat.le_of_ble_eq_true rfl⟩) hA (fun r_197 _ H locs hr_197 hA hL => ?_)
  replace hL : LB G cA A o (u, v, f, g, L) n 0 ch H := hL
  refine lv_pop hx hb dL_errors_200 rfl ?_
  refine lv_iload_n hx hb dL_errors_201 rfl (lv_at hl 0 rfl) ?_
  refine lv_if_eq (tgt := 218) hx hb dL_errors_202 (by decide) (fun h9 => absurd h9 (by decide)) (fun _ => ?_)
  refine lv_aload_n hx hb dL_errors_205 rfl (lv_at hl 1 rfl) ?_
  refine lw_i (rL (rest := []) ⟨hx, hb, hml, hown, hts⟩ (LB_readBeams_0 l G cA A o (u, v, f, g, L) n ch ) (cwV 0 hts gL_errors_X8_readBeams rfl rfl rfl mdX8_readBeams ⟨Nat.le_of_ble_eq_true rfl, Nat.le_of_ble_eq_true rfl⟩) hA hL rfl hl rfl (Nat.le_of_ble_eq_true rfl) dL_errors_206 ⟨Nat.le_of_ble_eq_true rfl, Nat.le_of_ble_eq_true rfl⟩) hA (fun r_206 _ H locs hr_206 hA hL => ?_)
  replace hL : LB G cA A o (u, v, f, g, L) n 0 ch H := hL
  subst hr_206
  refine lv_bipush (v := (-100)) hx hb dL_errors_209 (by decide) ?_
  refine lv_icmp_ne (tgt := 218) hx hb dL_errors_211 (by decide) (fun h9 => absurd (by decide) h9) (fun _ => ?_)
  refine lv_iconst (v := 1) hx hb dL_errors_214 (by decide) ?_
  refine lv_goto (tgt := 219) hx hb dL_errors_215 (by decide) ?_
  refine lv_istore_n (lv' := [(1, .int 1), (0, .ref o)]) hx hb dL_errors_219 rfl hl (by decide) rfl (fun ls hl => ?_)
  refine lv_aload_n hx hb dL_errors_220 rfl (lv_at hl 1 rfl) ?_
  refine lv_bipush (v := 55) hx hb dL_errors_221 (by decide) ?_
  refine lw_i (rL (rest := []) ⟨hx, hb, hml, hown, hts⟩ (LB_type l G cA A o (u, v, f, g, L) n 0 ch (by decide) 55 (by decide +kernel)) (cwV 1 hts gL_errors_X8_type rfl rfl rfl mdX8_type ⟨Nat.le_of_ble_eq_true rfl, Nat.le_of_ble_eq_true rfl⟩) hA hL rfl hl rfl (Nat.le_of_ble_eq_true rfl) dL_errors_223 ⟨Nat.le_of_ble_eq_true rfl, Nat.le_of_ble_eq_true rfl⟩) hA (fun r_223 _ H locs hr_223 hA hL => ?_)
  replace hL : LB G cA A o (u, v, f, g, L) n 1 (upd ch 0 55) H := hL
  refine lv_pop hx hb dL_errors_226 rfl ?_
  refine lv_aload_n hx hb dL_errors_227 rfl (lv_at hl 1 rfl) ?_
  refine lv_bipush (v := 42) hx hb dL_errors_228 (by decide) ?_
  refine lw_i (rL (rest := []) ⟨hx, hb, hml, hown, hts⟩ (LB_type l G cA A o (u, v, f, g, L) n 1 (upd ch 0 55) (by decide) 42 (by decide +kernel)) (cwV 1 hts gL_errors_X8_type rfl rfl rfl mdX8_type ⟨Nat.le_of_ble_eq_true rfl, Nat.le_of_ble_eq_true rfl⟩) hA hL rfl hl rfl (Nat.le_of_ble_eq_true rfl) dL_errors_230 ⟨Nat.le_of_ble_eq_true rfl, Nat.le_of_ble_eq_true rfl⟩) hA (fun r_230 _ H locs hr_230 hA hL => ?_)
  replace hL : LB G cA A o (u, v, f, g, L) n 2 (upd (upd ch 0 55) 1 42) H := hL
  refine lv_pop hx hb dL_errors_233 rfl ?_
  refine lv_aload_n hx hb dL_errors_234 rfl (lv_at hl 1 rfl) ?_
  refine lv_bipush (v := 48) hx hb dL_errors_235 (by decide) ?_
  refine lw_i (rL (rest := []) ⟨hx, hb, hml, hown, hts⟩ (LB_type l G cA A o (u, v, f, g, L) n 2 (upd (upd ch 0 55) 1 42) (by decide) 48 (by decide +kernel)) (cwV 1 hts gL_errors_X8_type rfl rfl rfl mdX8_type ⟨Nat.le_of_ble_eq_true rfl, Nat.le_of_ble_eq_true rfl⟩) hA hL rfl hl rfl (Nat.le_of_ble_eq_true rfl) dL_errors_237 ⟨Nat.le_of_ble_eq_true rfl, Nat.le_of_ble_eq_true rfl⟩) hA (fun r_237 _ H locs hr_237 hA hL => ?_)
  replace hL : LB G cA A o (u, v, f, g, L) n 3 (upd (upd (upd ch 0 55) 1 42) 2 48) H := hL
  refine lv_pop hx hb dL_errors_240 rfl ?_
  refine lv_iload_n hx hb dL_errors_241 rfl (lv_at hl 0 rfl) ?_
  refine lv_if_eq (tgt := 266) hx hb dL_errors_242 (by decide) (fun h9 => absurd h9 (by decide)) (fun _ => ?_)
  refine lv_aload_n hx hb dL_errors_245 rfl (lv_at hl 1 rfl) ?_
  refine lw_i (rL (rest := []) ⟨hx, hb, hml, hown, hts⟩ (LB_readBeams_3 l G cA A o (u, v, f, g, L) n (upd (upd (upd ch 0 55) 1 42) 2 48) rfl rfl rfl) (cwV 0 hts gL_errors_X8_readBeams rfl rfl rfl mdX8_readBeams ⟨Nat.le_of_ble_eq_true rfl, Nat.le_of_ble_eq_true rfl⟩) hA hL rfl hl rfl (Nat.le_of_ble_eq_true rfl) dL_errors_246 ⟨Nat.le_of_ble_eq_true rfl, Nat.le_of_ble_eq_true rfl⟩) hA (fun r_246 _ H locs hr_246 hA hL => ?_)
  replace hL : LB G cA A o (u, v, f, g, L) n 3 (upd (upd (upd ch 0 55) 1 42) 2 48) H := hL
  subst hr_246
  refine lv_bipush (v := (-102)) hx hb dL_errors_249 (by decide) ?_
  refine lv_icmp_ne (tgt := 266) hx hb dL_errors_251 (by decide) (fun h9 => absurd (by decide) h9) (fun _ => ?_)
  refine lv_aload_n hx hb dL_errors_254 rfl (lv_at hl 1 rfl) ?_
  refine lw_i (rL (rest := []) ⟨hx, hb, hml, hown, hts⟩ (LB_clearText l G cA A o (u, v, f, g, L) n 3 (upd (upd (upd ch 0 55) 1 42) 2 48)) (cwV 0 hts gL_errors_X8_clearText rfl rfl rfl mdX8_clearText ⟨Nat.le_of_ble_eq_true rfl, Nat.le_of_ble_eq_true rfl⟩) hA hL rfl hl rfl (Nat.le_of_ble_eq_true rfl) dL_errors_255 ⟨Nat.le_of_ble_eq_true rfl, Nat.le_of_ble_eq_true rfl⟩) hA (fun r_255 _ H locs hr_255 hA hL => ?_)
  replace hL : LB G cA A o (u, v, f, g, L) n 0 (upd (upd (upd ch 0 55) 1 42) 2 48) H := hL
  replace hr_255 : r_255 = 3 := hr_255
  subst hr_255
  refine lv_iconst (v := 3) hx hb dL_errors_258 (by decide) ?_
  refine lv_icmp_ne (tgt := 266) hx hb dL_errors_259 (by decide) (fun h9 => absurd (by decide) h9) (fun _ => ?_)
  refine lv_iconst (v := 1) hx hb dL_errors_262 (by decide) ?_
  refine lv_goto (tgt := 267) hx hb dL_errors_263 (by decide) ?_
  refine lv_istore_n (lv' := [(1, .int 1), (0, .ref o)]) hx hb dL_errors_267 rfl hl (by decide) rfl (fun ls hl => ?_)
  refine lv_aload_n hx hb dL_errors_268 rfl (lv_at hl 1 rfl) ?_
  refine lv_bipush (v := 55) hx hb dL_errors_269 (by decide) ?_
  refine lw_i (rL (rest := []) ⟨hx, hb, hml, hown, hts⟩ (LB_type l G cA A o (u, v, f, g, L) n 0 (upd (upd (upd ch 0 55) 1 42) 2 48) (by decide) 55 (by decide +kernel)) (cwV 1 hts gL_errors_X8_type rfl rfl rfl mdX8_type ⟨Nat.le_of_ble_eq_true rfl, Nat.le_of_ble_eq_true rfl⟩) hA hL rfl hl rfl (Nat.le_of_ble_eq_true rfl) dL_errors_271 ⟨Nat.le_of_ble_eq_true rfl, Nat.le_of_ble_eq_true rfl⟩) hA (fun r_271 _ H locs hr_271 hA hL => ?_)
  replace hL : LB G cA A o (u, v, f, g, L) n 1 (upd (upd (upd (upd ch 0 55) 1 42) 2 48) 0 55) H := hL
  refine lv_pop hx hb dL_errors_274 rfl ?_
  refine lv_aload_n hx hb dL_errors_275 rfl (lv_at hl 1 rfl) ?_
  refine lv_bipush (v := 56) hx hb dL_errors_276 (by decide) ?_
  refine lw_i (rL (rest := []) ⟨hx, hb, hml, hown, hts⟩ (LB_type l G cA A o (u, v, f, g, L) n 1 (upd (upd (upd (upd ch 0 55) 1 42) 2 48) 0 55) (by decide) 56 (by decide +kernel)) (cwV 1 hts gL_errors_X8_type rfl rfl rfl mdX8_type ⟨Nat.le_of_ble_eq_true rfl, Nat.le_of_ble_eq_true rfl⟩) hA hL rfl hl rfl (Nat.le_of_ble_eq_true rfl) dL_errors_278 ⟨Nat.le_of_ble_eq_true rfl, Nat.le_of_ble_eq_true rfl⟩) hA (fun r_278 _ H locs hr_278 hA hL => ?_)
  replace hL : LB G cA A o (u, v, f, g, L) n 2 (upd (upd (upd (upd (upd ch 0 55) 1 42) 2 48) 0 55) 1 56) H := hL
  refine lv_pop hx hb dL_errors_281 rfl ?_
  refine lv_iload_n hx hb dL_errors_282 rfl (lv_at hl 0 rfl) ?_
  refine lv_if_eq (tgt := 309) hx hb dL_errors_283 (by decide) (fun h9 => absurd h9 (by decide)) (fun _ => ?_)
  refine lv_aload_n hx hb dL_errors_286 rfl (lv_at hl 1 rfl) ?_
  refine lw_i (rL (rest := []) ⟨hx, hb, hml, hown, hts⟩ (LB_readBeams_2 l G cA A o (u, v, f, g, L) n (upd (upd (upd (upd (upd ch 0 55) 1 42) 2 48) 0 55) 1 56) rfl rfl) (cwV 0 hts gL_errors_X8_readBeams rfl rfl rfl mdX8_readBeams ⟨Nat.le_of_ble_eq_true rfl, Nat.le_of_ble_eq_true rfl⟩) hA hL rfl hl rfl (Nat.le_of_ble_eq_true rfl) dL_errors_287 ⟨Nat.le_of_ble_eq_true rfl, Nat.le_of_ble_eq_true rfl⟩) hA (fun r_287 _ H locs hr_287 hA hL => ?_)
  replace hL : LB G cA A o (u, v, f, g, L) n 2 (upd (upd (upd (upd (upd ch 0 55) 1 42) 2 48) 0 55) 1 56) H := hL
  subst hr_287
  refine lv_bipush (v := (-101)) hx hb dL_errors_290 (by decide) ?_
  refine lv_icmp_ne (tgt := 309) hx hb dL_errors_292 (by decide) (fun h9 => absurd (by decide) h9) (fun _ => ?_)
  refine lv_aload_n hx hb dL_errors_295 rfl (lv_at hl 1 rfl) ?_
  refine lv_bipush (v := 10) hx hb dL_errors_296 (by decide) ?_
  refine lr_i (rL (rest := []) ⟨hx, hb, hml, hown, hts⟩ (LB_count l G cA A o (u, v, f, g, L) n 2 (upd (upd (upd (upd (upd ch 0 55) 1 42) 2 48) 0 55) 1 56) 10) (cwV 1 hts gL_errors_X8_count rfl rfl rfl mdX8_count ⟨Nat.le_of_ble_eq_true rfl, Nat.le_of_ble_eq_true rfl⟩) hA hL rfl hl rfl (Nat.le_of_ble_eq_true rfl) dL_errors_298 ⟨Nat.le_of_ble_eq_true rfl, Nat.le_of_ble_eq_true rfl⟩) hA hL (fun r_298 H locs hr_298 hA hL => ?_)
  replace hr_298 : r_298 = 2 := hr_298
  subst hr_298
  refine lv_iconst (v := 2) hx hb dL_errors_301 (by decide) ?_
  refine lv_icmp_ne (tgt := 309) hx hb dL_errors_302 (by decide) (fun h9 => absurd (by decide) h9) (fun _ => ?_)
  refine lv_iconst (v := 1) hx hb dL_errors_305 (by decide) ?_
  refine lv_goto (tgt := 310) hx hb dL_errors_306 (by decide) ?_
  refine lv_istore_n (lv' := [(1, .int 1), (0, .ref o)]) hx hb dL_errors_310 rfl hl (by decide) rfl (fun ls hl => ?_)
  refine lv_aload_n hx hb dL_errors_311 rfl (lv_at hl 1 rfl) ?_
  refine lv_bipush (v := 9) hx hb dL_errors_312 (by decide) ?_
  refine lr_i (rL (rest := []) ⟨hx, hb, hml, hown, hts⟩ (LB_count l G cA A o (u, v, f, g, L) n 2 (upd (upd (upd (upd (upd ch 0 55) 1 42) 2 48) 0 55) 1 56) 9) (cwV 1 hts gL_errors_X8_count rfl rfl rfl mdX8_count ⟨Nat.le_of_ble_eq_true rfl, Nat.le_of_ble_eq_true rfl⟩) hA hL rfl hl rfl (Nat.le_of_ble_eq_true rfl) dL_errors_314 ⟨Nat.le_of_ble_eq_true rfl, Nat.le_of_ble_eq_true rfl⟩) hA hL (fun r_314 H locs hr_314 hA hL => ?_)
  replace hr_314 : r_314 = nI n := hr_314
  subst hr_314
  refine lv_istore_n (lv' := [(2, .int (nI n)), (1, .int 1), (0, .ref o)]) hx hb dL_errors_317 rfl hl (by decide) rfl (fun ls hl => ?_)
  refine lv_iload_n hx hb dL_errors_318 rfl (lv_at hl 1 rfl) ?_
  refine lv_if_eq (tgt := 345) hx hb dL_errors_319 (by decide) (fun h9 => absurd h9 (by decide)) (fun _ => ?_)
  refine lv_aload_n hx hb dL_errors_322 rfl (lv_at hl 2 rfl) ?_
  refine lw_i (T := Unit) (B := fun _ _ => True) (rL (rest := []) ⟨hx, hb, hml, hown, hts⟩ (LB_undo l G cA A o (u, v, f, g, L) n 2 (upd (upd (upd (upd (upd ch 0 55) 1 42) 2 48) 0 55) 1 56) hn) (cwV 0 hts gL_errors_X8_undo rfl rfl rfl mdX8_undo ⟨Nat.le_of_ble_eq_true rfl, Nat.le_of_ble_eq_true rfl⟩) hA hL rfl hl rfl (Nat.le_of_ble_eq_true rfl) dL_errors_323 ⟨Nat.le_of_ble_eq_true rfl, Nat.le_of_ble_eq_true rfl⟩) hA (fun r_323 _ H locs hr_323 hA hL => ?_)
  replace hr_323 : r_323 = nI (n - 1) := hr_323.trans (if_neg hn0)
  subst hr_323
  refine lv_iload_n hx hb dL_errors_326 rfl (lv_at hl 0 rfl) ?_
  refine lv_if_le (tgt := 336) hx hb dL_errors_327 (by decide) (fun c_327 => absurd c_327 (nI_nle (by omega) (by omega))) (fun c_327 => ?_)
  refine lv_iload_n hx hb dL_errors_330 rfl (lv_at hl 0 rfl) ?_
  refine lv_iconst (v := 1) hx hb dL_errors_331 (by decide) ?_
  refine lv_isub hx hb dL_errors_332 ?_
  refine W.eq (g2 := F0 m 333 ls [.int (nI (n - 1)), .int (nI (n - 1))]) (by rw [(pred_of (nI_ne0 (by omega) (by omega))).2]) ?_
  refine lv_goto (tgt := 338) hx hb dL_errors_333 (by decide) ?_
  refine lv_icmp_ne (tgt := 345) hx hb dL_errors_338 (by decide) (fun c_338 => absurd rfl c_338) (fun c_338 => ?_)
  refine lv_iconst (v := 1) hx hb dL_errors_341 (by decide) ?_
  refine lv_goto (tgt := 346) hx hb dL_errors_342 (by decide) ?_
  exact en_l (post := fun r (_ : Unit) => r = 1) (B := fun _ _ => True) () hx hb hr hlocks hA rfl trivial dL_errors_346
theorem cL_errors_ok (l : Launch) (G : va_G) (cA : Nat → ClassId) (A : Nat → Prop) (o : Nat) (u : FF) (v : GG) (f : FF) (g L : GG) (n K : Nat) (ch : GG) (hn : n ≤ 4) (hf : vf_n32 (f 7)) : Met l yL_errors wsL_errors ({ frames := 7, cells := 0, slots := 0, locals := 160 } : Room) (va_Pc [.ref o] (LbP G cA A o (u, v, f, g, L) n K ch)) (va_Qi (fun r (_ : Unit) => r = 1) (fun _ _ => True) A) 0 0 A := by
  by_cases hn0 : n = 0
  · exact cL_errors_z l G cA A o u v f g L n K ch hn hn0 hf
  · exact cL_errors_n l G cA A o u v f g L n K ch hn hn0 hf
