/-! told(o): its contract over a state of which ToldOk holds (by wip/p26/told.py) -/
/-- what told() asks of a state with J things judged, R of them in the log -/
def ToldOk (u : FF) (v : GG) (f : FF) (g L : GG) (J R : Nat) : Prop := (¬ Op.cmpValue (FP.fcmp (f 7) FP.fconst0) CmpOp.l < 0 ∧ ¬ 0 < Op.cmpValue (FP.fcmp (f 7) 1120403456) CmpOp.g) ∧ (g 13 = 0 → Op.cmpValue (FP.fcmp (f 7) FP.fconst0) CmpOp.l = 0) ∧ (g 13 = 2 → Op.cmpValue (FP.fcmp (f 7) 1120403456) CmpOp.l = 0) ∧ (g 13 = 3 → ¬ 5 < g 15) ∧ (Op.cmpValue (FP.fcmp (u 1) (u 1)) CmpOp.l = 0 ∧ Op.cmpValue (FP.fcmp (u 2) (u 2)) CmpOp.l = 0) ∧ (((g 19 + g 20) + g 21) + g 22 = nI J ∧ J < 2 ^ 31 ∧ R = (if J < 10 then J else 10) ∧ g 18 = nI R) ∧ ∀ i, i < R → ¬ L (i * 5 + 0) < 0 ∧ ¬ 3 < L (i * 5 + 0) ∧ ¬ L (i * 5 + 2) < 1 ∧ ¬ L (i * 5 + 3) < 1 ∧ ¬ 7 < L (i * 5 + 3) ∧ ¬ L (i * 5 + 4) < L (i * 5 + 1) + L (i * 5 + 2) ∧ (i ≠ 0 → ¬ L ((i - 1) * 5 + 1) ≤ L (i * 5 + 4))
theorem ju_at {g L : GG} {i R : Nat} (w : Nat) (hw : w < 5) (hi : i < R) (hR : R ≤ 10) (h18 : g 18 = nI R) : juF g L (nI i) (nI w) = L (i * 5 + w) := by
  unfold juF enF
  rw [if_neg (nI_pos (by omega)), if_neg (nI_pos (by omega)), if_pos (show nI w < 5 from nI_lt (a := w) (b := 5) hw (by decide)), if_neg (nI_pos (by omega)), h18, if_neg (nI_ge hi (by omega)), if_neg (show ¬ 10 ≤ nI i from nI_ge (a := i) (b := 10) (by omega) (by decide)), if_neg (nI_pos (by omega)), if_neg (show ¬ 5 ≤ nI w from nI_ge (a := w) (b := 5) hw (by decide)), show (5 : Int32) = nI 5 from rfl, pk_mul, nI_add, nI_clamp (by omega)]
theorem ju_end {g L : GG} {R : Nat} (hR : R ≤ 10) (h18 : g 18 = nI R) : juF g L (nI R) 0 = -5 := by
  unfold juF enF
  rw [if_neg (nI_pos (by omega)), if_neg (by decide), if_pos (by decide), if_neg (nI_pos (by omega)), h18, if_pos (nI_le (Nat.le_refl _) (by omega))]
theorem pred_of {i : Nat} (h : ¬ nI i = 0) : i ≠ 0 ∧ nI i - 1 = nI (i - 1) := by
  cases i with
  | zero => exact absurd nI_0 h
  | succ j => exact ⟨Nat.succ_ne_zero j, nI_pred j⟩
set_option maxHeartbeats 8000000 in
set_option maxRecDepth 100000 in
/-- told(o), in the state 0 -/
theorem cL_told_0 (l : Launch) (G : va_G) (cA : Nat → ClassId) (A : Nat → Prop) (o : Nat) (u : FF) (v : GG) (f : FF) (g L : GG) (n K : Nat) (ch : GG) (J R : Nat) (hT : ToldOk u v f g L J R) (hs : g 13 = 0) (hLk : LkOk g) (hTh : Met l yL_thing wsL_thing ({ frames := 4, cells := 0, slots := 0, locals := 94 } : Room) (va_Pc [.ref o] (LbP G cA A o (u, v, f, g, L) n K ch)) (va_Qi (fun r (_ : Unit) => r = 1) (fun _ t => LB G cA A o (u, v, f, g, L) n K ch t.heap) A) 0 0 A) : Met l yL_told wsL_told ({ frames := 5, cells := 0, slots := 0, locals := 129 } : Room) (va_Pc [.ref o] (LbP G cA A o (u, v, f, g, L) n K ch)) (va_Qi (fun r (_ : Unit) => r = 1) (fun _ t => LB G cA A o (u, v, f, g, L) n K ch t.heap) A) 0 0 A := by
  refine ofW2 (cc := cL_told) (maxL := 12) (ret := (some .boolean)) (own := RL) (by decide) rfl rfl (Nat.le_of_ble_eq_true rfl) rfl ?_
  intro p e s m below meth c ls hx hb hml hr hts hown hlocks hv hl
  obtain ⟨hE, hN, hL⟩ := hv
  have hA : At G cA A s s.heap [] := ⟨hE, hN, va_S.rf⟩
  obtain ⟨H, hH0⟩ : ∃ H, H = s.heap := ⟨_, rfl⟩
  rw [← hH0] at hL ⊢
  replace hA : At G cA A s H [] := by rw [hH0]; exact hA
  generalize ([] : List Loc) = locs at hA ⊢
  clear hH0
  replace hl : lv_has ls 12 [(0, .ref o)] := hl
  obtain ⟨hJ, hJ31, hRd, h18⟩ := hT.2.2.2.2.2.1
  have hR10 : R ≤ 10 := by rw [hRd]; split <;> omega
  refine lv_aload_n hx hb dL_told_0 rfl (lv_at hl 0 rfl) ?_
  refine lv_iconst (v := 0) hx hb dL_told_1 (by decide) ?_
  refine lr_i (rL (rest := []) ⟨hx, hb, hml, hown, hts⟩ (LB_door l G cA A o (u, v, f, g, L) n K ch 0) (cwV 1 hts gL_told_X8_door rfl rfl rfl mdX8_door ⟨Nat.le_of_ble_eq_true rfl, Nat.le_of_ble_eq_true rfl⟩) hA hL rfl hl rfl (Nat.le_of_ble_eq_true rfl) dL_told_2 ⟨Nat.le_of_ble_eq_true rfl, Nat.le_of_ble_eq_true rfl⟩) hA hL (fun r_2 H locs hr_2 hA hL => ?_)
  replace hr_2 : r_2 = g 13 := hr_2
  rw [hs] at hr_2
  subst hr_2
  refine lv_istore_n (lv' := [(1, .int 0), (0, .ref o)]) hx hb dL_told_5 rfl hl (by decide) rfl (fun ls hl => ?_)
  refine lv_aload_n hx hb dL_told_6 rfl (lv_at hl 1 rfl) ?_
  refine lr_f (rL (rest := []) ⟨hx, hb, hml, hown, hts⟩ (LB_place l G cA A o (u, v, f, g, L) n K ch  ) (cwV 0 hts gL_told_X8_place rfl rfl rfl mdX8_place ⟨Nat.le_of_ble_eq_true rfl, Nat.le_of_ble_eq_true rfl⟩) hA hL rfl hl rfl (Nat.le_of_ble_eq_true rfl) dL_told_7 ⟨Nat.le_of_ble_eq_true rfl, Nat.le_of_ble_eq_true rfl⟩) hA hL (fun r_7 H locs hr_7 hA hL => ?_)
  replace hr_7 : r_7 = f 7 := hr_7
  subst hr_7
  refine lv_fstore_n (lv' := [(2, .float (f 7)), (1, .int 0), (0, .ref o)]) hx hb dL_told_10 rfl hl (by decide) rfl (fun ls hl => ?_)
  refine lv_fload_n hx hb dL_told_11 rfl (lv_at hl 0 rfl) ?_
  refine lv_fconst0 hx hb dL_told_12 ?_
  refine lv_fcmp hx hb dL_told_13 ?_
  refine lv_if_lt (tgt := 71) hx hb dL_told_14 (by decide) (fun c_14 => absurd c_14 hT.1.1) (fun c_14 => ?_)
  refine lv_fload_n hx hb dL_told_17 rfl (lv_at hl 0 rfl) ?_
  refine lv_ldcf hx hb hown (hts (.constantFloat RL 32 (1120403456)) (by decide +kernel)) dL_told_18 ?_
  refine lv_fcmp hx hb dL_told_20 ?_
  refine lv_if_gt (tgt := 71) hx hb dL_told_21 (by decide) (fun c_21 => absurd c_21 hT.1.2) (fun c_21 => ?_)
  refine lv_iload_n hx hb dL_told_24 rfl (lv_at hl 1 rfl) ?_
  refine lv_if_ne (tgt := 34) hx hb dL_told_25 (by decide) (fun h9 => absurd (by decide) h9) (fun _ => ?_)
  refine lv_fload_n hx hb dL_told_28 rfl (lv_at hl 0 rfl) ?_
  refine lv_fconst0 hx hb dL_told_29 ?_
  refine lv_fcmp hx hb dL_told_30 ?_
  refine lv_if_ne (tgt := 71) hx hb dL_told_31 (by decide) (fun c_31 => absurd (hT.2.1 hs) c_31) (fun c_31 => ?_)
  refine lv_iload_n hx hb dL_told_34 rfl (lv_at hl 1 rfl) ?_
  refine lv_iconst (v := 2) hx hb dL_told_35 (by decide) ?_
  refine lv_icmp_ne (tgt := 46) hx hb dL_told_36 (by decide) (fun _ => ?_) (fun h9 => absurd h9 (by decide))
  refine lv_aload_n hx hb dL_told_46 rfl (lv_at hl 2 rfl) ?_
  refine lv_iconst (v := 5) hx hb dL_told_47 (by decide) ?_
  refine lr_i (rL (rest := []) ⟨hx, hb, hml, hown, hts⟩ (LB_door l G cA A o (u, v, f, g, L) n K ch 5) (cwV 1 hts gL_told_X8_door rfl rfl rfl mdX8_door ⟨Nat.le_of_ble_eq_true rfl, Nat.le_of_ble_eq_true rfl⟩) hA hL rfl hl rfl (Nat.le_of_ble_eq_true rfl) dL_told_48 ⟨Nat.le_of_ble_eq_true rfl, Nat.le_of_ble_eq_true rfl⟩) hA hL (fun r_48 H locs hr_48 hA hL => ?_)
  replace hr_48 : r_48 = FP.f2i (f 7) := hr_48
  subst hr_48
  refine lv_fload_n hx hb dL_told_51 rfl (lv_at hl 0 rfl) ?_
  refine lv_f2i hx hb dL_told_52 ?_
  refine lv_icmp_ne (tgt := 71) hx hb dL_told_53 (by decide) (fun c_53 => absurd rfl c_53) (fun c_53 => ?_)
  refine lv_aload_n hx hb dL_told_56 rfl (lv_at hl 2 rfl) ?_
  refine lv_bipush (v := 6) hx hb dL_told_57 (by decide) ?_
  refine lr_i (rL (rest := []) ⟨hx, hb, hml, hown, hts⟩ (LB_door l G cA A o (u, v, f, g, L) n K ch 6) (cwV 1 hts gL_told_X8_door rfl rfl rfl mdX8_door ⟨Nat.le_of_ble_eq_true rfl, Nat.le_of_ble_eq_true rfl⟩) hA hL rfl hl rfl (Nat.le_of_ble_eq_true rfl) dL_told_59 ⟨Nat.le_of_ble_eq_true rfl, Nat.le_of_ble_eq_true rfl⟩) hA hL (fun r_59 H locs hr_59 hA hL => ?_)
  replace hr_59 : r_59 = (-2) := hr_59
  subst hr_59
  refine lv_bipush (v := (-2)) hx hb dL_told_62 (by decide) ?_
  refine lv_icmp_ne (tgt := 71) hx hb dL_told_64 (by decide) (fun h9 => absurd (by decide) h9) (fun _ => ?_)
  refine lv_iconst (v := 1) hx hb dL_told_67 (by decide) ?_
  refine lv_goto (tgt := 72) hx hb dL_told_68 (by decide) ?_
  refine lv_istore_n (lv' := [(3, .int 1), (2, .float (f 7)), (1, .int 0), (0, .ref o)]) hx hb dL_told_72 rfl hl (by decide) rfl (fun ls hl => ?_)
  refine lv_iload_n hx hb dL_told_73 rfl (lv_at hl 2 rfl) ?_
  refine lv_iconst (v := 2) hx hb dL_told_74 (by decide) ?_
  refine lv_icmp_eq (tgt := 86) hx hb dL_told_75 (by decide) (fun h9 => absurd h9 (by decide)) (fun _ => ?_)
  refine lv_aload_n hx hb dL_told_78 rfl (lv_at hl 3 rfl) ?_
  refine lv_iconst (v := 3) hx hb dL_told_79 (by decide) ?_
  refine lr_i (rL (rest := []) ⟨hx, hb, hml, hown, hts⟩ (LB_door l G cA A o (u, v, f, g, L) n K ch 3) (cwV 1 hts gL_told_X8_door rfl rfl rfl mdX8_door ⟨Nat.le_of_ble_eq_true rfl, Nat.le_of_ble_eq_true rfl⟩) hA hL rfl hl rfl (Nat.le_of_ble_eq_true rfl) dL_told_80 ⟨Nat.le_of_ble_eq_true rfl, Nat.le_of_ble_eq_true rfl⟩) hA hL (fun r_80 H locs hr_80 hA hL => ?_)
  rw [show doF _ _ _ = 0 from (by show (if g 13 = 2 then g 14 else 0) = 0; rw [if_neg (by rw [hs]; decide)])] at hr_80
  subst hr_80
  refine lv_if_ne (tgt := 117) hx hb dL_told_83 (by decide) (fun h9 => absurd (by decide) h9) (fun _ => ?_)
  refine lv_iload_n hx hb dL_told_86 rfl (lv_at hl 2 rfl) ?_
  refine lv_iconst (v := 3) hx hb dL_told_87 (by decide) ?_
  refine lv_icmp_eq (tgt := 99) hx hb dL_told_88 (by decide) (fun h9 => absurd h9 (by decide)) (fun _ => ?_)
  refine lv_aload_n hx hb dL_told_91 rfl (lv_at hl 3 rfl) ?_
  refine lv_iconst (v := 4) hx hb dL_told_92 (by decide) ?_
  refine lr_i (rL (rest := []) ⟨hx, hb, hml, hown, hts⟩ (LB_door l G cA A o (u, v, f, g, L) n K ch 4) (cwV 1 hts gL_told_X8_door rfl rfl rfl mdX8_door ⟨Nat.le_of_ble_eq_true rfl, Nat.le_of_ble_eq_true rfl⟩) hA hL rfl hl rfl (Nat.le_of_ble_eq_true rfl) dL_told_93 ⟨Nat.le_of_ble_eq_true rfl, Nat.le_of_ble_eq_true rfl⟩) hA hL (fun r_93 H locs hr_93 hA hL => ?_)
  rw [show doF _ _ _ = 0 from (by show (if g 13 = 3 then g 15 else 0) = 0; rw [if_neg (by rw [hs]; decide)])] at hr_93
  subst hr_93
  refine lv_if_ne (tgt := 117) hx hb dL_told_96 (by decide) (fun h9 => absurd (by decide) h9) (fun _ => ?_)
  refine lv_iload_n hx hb dL_told_99 rfl (lv_at hl 2 rfl) ?_
  refine lv_iconst (v := 3) hx hb dL_told_100 (by decide) ?_
  refine lv_icmp_ne (tgt := 113) hx hb dL_told_101 (by decide) (fun _ => ?_) (fun h9 => absurd h9 (by decide))
  refine lv_iconst (v := 1) hx hb dL_told_113 (by decide) ?_
  refine lv_goto (tgt := 118) hx hb dL_told_114 (by decide) ?_
  refine lv_istore (lv' := [(4, .int 1), (3, .int 1), (2, .float (f 7)), (1, .int 0), (0, .ref o)]) hx hb dL_told_118 hl (by decide) rfl (fun ls hl => ?_)
  refine lv_aload_n hx hb dL_told_120 rfl (lv_at hl 4 rfl) ?_
  refine lv_iconst (v := 1) hx hb dL_told_121 (by decide) ?_
  refine lr_i (rL (rest := []) ⟨hx, hb, hml, hown, hts⟩ (LB_door l G cA A o (u, v, f, g, L) n K ch 1) (cwV 1 hts gL_told_X8_door rfl rfl rfl mdX8_door ⟨Nat.le_of_ble_eq_true rfl, Nat.le_of_ble_eq_true rfl⟩) hA hL rfl hl rfl (Nat.le_of_ble_eq_true rfl) dL_told_122 ⟨Nat.le_of_ble_eq_true rfl, Nat.le_of_ble_eq_true rfl⟩) hA hL (fun r_122 H locs hr_122 hA hL => ?_)
  replace hr_122 : r_122 = g 16 := hr_122
  subst hr_122
  refine lv_aload_n hx hb dL_told_125 rfl (lv_at hl 4 rfl) ?_
  refine lv_iconst (v := 2) hx hb dL_told_126 (by decide) ?_
  refine lr_i (rL (rest := [.int (g 16)]) ⟨hx, hb, hml, hown, hts⟩ (LB_number l G cA A o (u, v, f, g, L) n K ch 2 ) (cwV 1 hts gL_told_X8_number rfl rfl rfl mdX8_number ⟨Nat.le_of_ble_eq_true rfl, Nat.le_of_ble_eq_true rfl⟩) hA hL rfl hl rfl (Nat.le_of_ble_eq_true rfl) dL_told_127 ⟨Nat.le_of_ble_eq_true rfl, Nat.le_of_ble_eq_true rfl⟩) hA hL (fun r_127 H locs hr_127 hA hL => ?_)
  replace hr_127 : r_127 = v 2 := hr_127
  subst hr_127
  refine lv_icmp_le (tgt := 137) hx hb dL_told_130 (by decide) (fun c_130 => ?_) (fun c_130 => ?_)
  · skip
    refine lv_iconst (v := 0) hx hb dL_told_137 (by decide) ?_
    refine lv_istore (lv' := [(5, .int 0), (4, .int 1), (3, .int 1), (2, .float (f 7)), (1, .int 0), (0, .ref o)]) hx hb dL_told_138 hl (by decide) rfl (fun ls hl => ?_)
    refine lv_aload_n hx hb dL_told_140 rfl (lv_at hl 5 rfl) ?_
    refine lv_iconst (v := 3) hx hb dL_told_141 (by decide) ?_
    refine lr_f (rL (rest := []) ⟨hx, hb, hml, hown, hts⟩ (LB_speed l G cA A o (u, v, f, g, L) n K ch 3) (cwV 1 hts gL_told_X8_speed rfl rfl rfl mdX8_speed ⟨Nat.le_of_ble_eq_true rfl, Nat.le_of_ble_eq_true rfl⟩) hA hL rfl hl rfl (Nat.le_of_ble_eq_true rfl) dL_told_142 ⟨Nat.le_of_ble_eq_true rfl, Nat.le_of_ble_eq_true rfl⟩) hA hL (fun r_142 H locs hr_142 hA hL => ?_)
    replace hr_142 : r_142 = spF u (scF v g) := hr_142
    rw [show spF u (scF v g) = u 1 from by unfold scF; rw [if_pos c_130]; rfl] at hr_142
    subst hr_142
    refine lv_iload hx hb dL_told_145 (lv_at hl 0 rfl) ?_
    refine lv_if_eq (tgt := 158) hx hb dL_told_147 (by decide) (fun _ => ?_) (fun h9 => absurd (by decide) h9)
    refine lv_aload_n hx hb dL_told_158 rfl (lv_at hl 5 rfl) ?_
    refine lv_iconst (v := 1) hx hb dL_told_159 (by decide) ?_
    refine lr_f (rL (rest := [.float (u 1)]) ⟨hx, hb, hml, hown, hts⟩ (LB_speed l G cA A o (u, v, f, g, L) n K ch 1) (cwV 1 hts gL_told_X8_speed rfl rfl rfl mdX8_speed ⟨Nat.le_of_ble_eq_true rfl, Nat.le_of_ble_eq_true rfl⟩) hA hL rfl hl rfl (Nat.le_of_ble_eq_true rfl) dL_told_160 ⟨Nat.le_of_ble_eq_true rfl, Nat.le_of_ble_eq_true rfl⟩) hA hL (fun r_160 H locs hr_160 hA hL => ?_)
    replace hr_160 : r_160 = u 1 := hr_160
    subst hr_160
    refine lv_fcmp hx hb dL_told_163 ?_
    refine lv_if_ne (tgt := 213) hx hb dL_told_164 (by decide) (fun c_164 => absurd hT.2.2.2.2.1.1 c_164) (fun c_164 => ?_)
    refine lv_aload_n hx hb dL_told_167 rfl (lv_at hl 5 rfl) ?_
    refine lv_iconst (v := 4) hx hb dL_told_168 (by decide) ?_
    refine lr_f (rL (rest := []) ⟨hx, hb, hml, hown, hts⟩ (LB_speed l G cA A o (u, v, f, g, L) n K ch 4) (cwV 1 hts gL_told_X8_speed rfl rfl rfl mdX8_speed ⟨Nat.le_of_ble_eq_true rfl, Nat.le_of_ble_eq_true rfl⟩) hA hL rfl hl rfl (Nat.le_of_ble_eq_true rfl) dL_told_169 ⟨Nat.le_of_ble_eq_true rfl, Nat.le_of_ble_eq_true rfl⟩) hA hL (fun r_169 H locs hr_169 hA hL => ?_)
    replace hr_169 : r_169 = nanF := hr_169
    subst hr_169
    refine lr_i (rS (rest := []) ⟨hx, hb, hml, hown, hts⟩ (cL_isNone_ok l G cA nanF) (va_cwS 1 hts gL_told_L_isNone rfl rfl rfl mdL_isNone.2 ⟨Nat.le_of_ble_eq_true rfl, Nat.le_of_ble_eq_true rfl⟩) hA.1 empP empD rfl hl rfl (Nat.le_of_ble_eq_true rfl) dL_told_172 ⟨Nat.le_of_ble_eq_true rfl, Nat.le_of_ble_eq_true rfl⟩) hA hL (fun r_172 H locs hr_172 hA hL => ?_)
    rw [nn_nan] at hr_172
    subst hr_172
    refine lv_if_eq (tgt := 213) hx hb dL_told_175 (by decide) (fun h9 => absurd h9 (by decide)) (fun _ => ?_)
    refine lv_aload_n hx hb dL_told_178 rfl (lv_at hl 5 rfl) ?_
    refine lv_iconst (v := 4) hx hb dL_told_179 (by decide) ?_
    refine lr_f (rL (rest := []) ⟨hx, hb, hml, hown, hts⟩ (LB_weight l G cA A o (u, v, f, g, L) n K ch 4 ) (cwV 1 hts gL_told_X8_weight rfl rfl rfl mdX8_weight ⟨Nat.le_of_ble_eq_true rfl, Nat.le_of_ble_eq_true rfl⟩) hA hL rfl hl rfl (Nat.le_of_ble_eq_true rfl) dL_told_180 ⟨Nat.le_of_ble_eq_true rfl, Nat.le_of_ble_eq_true rfl⟩) hA hL (fun r_180 H locs hr_180 hA hL => ?_)
    replace hr_180 : r_180 = nanF := hr_180
    subst hr_180
    refine lr_i (rS (rest := []) ⟨hx, hb, hml, hown, hts⟩ (cL_isNone_ok l G cA nanF) (va_cwS 1 hts gL_told_L_isNone rfl rfl rfl mdL_isNone.2 ⟨Nat.le_of_ble_eq_true rfl, Nat.le_of_ble_eq_true rfl⟩) hA.1 empP empD rfl hl rfl (Nat.le_of_ble_eq_true rfl) dL_told_183 ⟨Nat.le_of_ble_eq_true rfl, Nat.le_of_ble_eq_true rfl⟩) hA hL (fun r_183 H locs hr_183 hA hL => ?_)
    rw [nn_nan] at hr_183
    subst hr_183
    refine lv_if_eq (tgt := 213) hx hb dL_told_186 (by decide) (fun h9 => absurd h9 (by decide)) (fun _ => ?_)
    refine lv_aload_n hx hb dL_told_189 rfl (lv_at hl 5 rfl) ?_
    refine lv_iconst (v := (-1)) hx hb dL_told_190 (by decide) ?_
    refine lr_f (rL (rest := []) ⟨hx, hb, hml, hown, hts⟩ (LB_score l G cA A o (u, v, f, g, L) n K ch (-1) hLk (fun h9 => absurd (by decide) h9)) (cwV 1 hts gL_told_X8_score rfl rfl rfl mdX8_score ⟨Nat.le_of_ble_eq_true rfl, Nat.le_of_ble_eq_true rfl⟩) hA hL rfl hl rfl (Nat.le_of_ble_eq_true rfl) dL_told_191 ⟨Nat.le_of_ble_eq_true rfl, Nat.le_of_ble_eq_true rfl⟩) hA hL (fun r_191 H locs hr_191 hA hL => ?_)
    replace hr_191 : r_191 = nanF := hr_191
    subst hr_191
    refine lr_i (rS (rest := []) ⟨hx, hb, hml, hown, hts⟩ (cL_isNone_ok l G cA nanF) (va_cwS 1 hts gL_told_L_isNone rfl rfl rfl mdL_isNone.2 ⟨Nat.le_of_ble_eq_true rfl, Nat.le_of_ble_eq_true rfl⟩) hA.1 empP empD rfl hl rfl (Nat.le_of_ble_eq_true rfl) dL_told_194 ⟨Nat.le_of_ble_eq_true rfl, Nat.le_of_ble_eq_true rfl⟩) hA hL (fun r_194 H locs hr_194 hA hL => ?_)
    rw [nn_nan] at hr_194
    subst hr_194
    refine lv_if_eq (tgt := 213) hx hb dL_told_197 (by decide) (fun h9 => absurd h9 (by decide)) (fun _ => ?_)
    refine lv_aload_n hx hb dL_told_200 rfl (lv_at hl 5 rfl) ?_
    refine lv_iconst (v := 5) hx hb dL_told_201 (by decide) ?_
    refine lr_i (rL (rest := []) ⟨hx, hb, hml, hown, hts⟩ (LB_number l G cA A o (u, v, f, g, L) n K ch 5 ) (cwV 1 hts gL_told_X8_number rfl rfl rfl mdX8_number ⟨Nat.le_of_ble_eq_true rfl, Nat.le_of_ble_eq_true rfl⟩) hA hL rfl hl rfl (Nat.le_of_ble_eq_true rfl) dL_told_202 ⟨Nat.le_of_ble_eq_true rfl, Nat.le_of_ble_eq_true rfl⟩) hA hL (fun r_202 H locs hr_202 hA hL => ?_)
    replace hr_202 : r_202 = (-1) := hr_202
    subst hr_202
    refine lv_iconst (v := (-1)) hx hb dL_told_205 (by decide) ?_
    refine lv_icmp_ne (tgt := 213) hx hb dL_told_206 (by decide) (fun h9 => absurd (by decide) h9) (fun _ => ?_)
    refine lv_iconst (v := 1) hx hb dL_told_209 (by decide) ?_
    refine lv_goto (tgt := 214) hx hb dL_told_210 (by decide) ?_
    refine lv_istore (lv' := [(6, .int 1), (5, .int 0), (4, .int 1), (3, .int 1), (2, .float (f 7)), (1, .int 0), (0, .ref o)]) hx hb dL_told_214 hl (by decide) rfl (fun ls hl => ?_)
    refine lv_aload_n hx hb dL_told_216 rfl (lv_at hl 6 rfl) ?_
    refine lv_iconst (v := 1) hx hb dL_told_217 (by decide) ?_
    refine lr_i (rL (rest := []) ⟨hx, hb, hml, hown, hts⟩ (LB_count l G cA A o (u, v, f, g, L) n K ch 1 ) (cwV 1 hts gL_told_X8_count rfl rfl rfl mdX8_count ⟨Nat.le_of_ble_eq_true rfl, Nat.le_of_ble_eq_true rfl⟩) hA hL rfl hl rfl (Nat.le_of_ble_eq_true rfl) dL_told_218 ⟨Nat.le_of_ble_eq_true rfl, Nat.le_of_ble_eq_true rfl⟩) hA hL (fun r_218 H locs hr_218 hA hL => ?_)
    replace hr_218 : r_218 = g 19 := hr_218
    subst hr_218
    refine lv_aload_n hx hb dL_told_221 rfl (lv_at hl 6 rfl) ?_
    refine lv_iconst (v := 2) hx hb dL_told_222 (by decide) ?_
    refine lr_i (rL (rest := [.int (g 19)]) ⟨hx, hb, hml, hown, hts⟩ (LB_count l G cA A o (u, v, f, g, L) n K ch 2 ) (cwV 1 hts gL_told_X8_count rfl rfl rfl mdX8_count ⟨Nat.le_of_ble_eq_true rfl, Nat.le_of_ble_eq_true rfl⟩) hA hL rfl hl rfl (Nat.le_of_ble_eq_true rfl) dL_told_223 ⟨Nat.le_of_ble_eq_true rfl, Nat.le_of_ble_eq_true rfl⟩) hA hL (fun r_223 H locs hr_223 hA hL => ?_)
    replace hr_223 : r_223 = g 20 := hr_223
    subst hr_223
    refine lv_iadd hx hb dL_told_226 ?_
    refine lv_aload_n hx hb dL_told_227 rfl (lv_at hl 6 rfl) ?_
    refine lv_iconst (v := 3) hx hb dL_told_228 (by decide) ?_
    refine lr_i (rL (rest := [.int ((g 19) + (g 20))]) ⟨hx, hb, hml, hown, hts⟩ (LB_count l G cA A o (u, v, f, g, L) n K ch 3 ) (cwV 1 hts gL_told_X8_count rfl rfl rfl mdX8_count ⟨Nat.le_of_ble_eq_true rfl, Nat.le_of_ble_eq_true rfl⟩) hA hL rfl hl rfl (Nat.le_of_ble_eq_true rfl) dL_told_229 ⟨Nat.le_of_ble_eq_true rfl, Nat.le_of_ble_eq_true rfl⟩) hA hL (fun r_229 H locs hr_229 hA hL => ?_)
    replace hr_229 : r_229 = g 21 := hr_229
    subst hr_229
    refine lv_iadd hx hb dL_told_232 ?_
    refine lv_aload_n hx hb dL_told_233 rfl (lv_at hl 6 rfl) ?_
    refine lv_iconst (v := 4) hx hb dL_told_234 (by decide) ?_
    refine lr_i (rL (rest := [.int (((g 19) + (g 20)) + (g 21))]) ⟨hx, hb, hml, hown, hts⟩ (LB_count l G cA A o (u, v, f, g, L) n K ch 4 ) (cwV 1 hts gL_told_X8_count rfl rfl rfl mdX8_count ⟨Nat.le_of_ble_eq_true rfl, Nat.le_of_ble_eq_true rfl⟩) hA hL rfl hl rfl (Nat.le_of_ble_eq_true rfl) dL_told_235 ⟨Nat.le_of_ble_eq_true rfl, Nat.le_of_ble_eq_true rfl⟩) hA hL (fun r_235 H locs hr_235 hA hL => ?_)
    replace hr_235 : r_235 = g 22 := hr_235
    subst hr_235
    refine lv_iadd hx hb dL_told_238 ?_
    rw [hJ]
    refine lv_istore (lv' := [(7, .int (nI J)), (6, .int 1), (5, .int 0), (4, .int 1), (3, .int 1), (2, .float (f 7)), (1, .int 0), (0, .ref o)]) hx hb dL_told_239 hl (by decide) rfl (fun ls hl => ?_)
    refine lv_iload hx hb dL_told_241 (lv_at hl 0 rfl) ?_
    refine lv_bipush (v := 10) hx hb dL_told_243 (by decide) ?_
    refine lv_icmp_ge (tgt := 253) hx hb dL_told_245 (by decide) (fun c_245 => ?_) (fun c_245 => ?_)
    · skip
      refine lv_bipush (v := 10) hx hb dL_told_253 (by decide) ?_
      have hRR : R = 10 := by rw [hRd, if_neg (by have := (nI_leI (a := 10) (b := J) (by decide) hJ31).mp c_245; omega)]
      refine W.eq (g2 := F0 m 255 ls [.int (nI R)]) (by rw [hRR]; rfl) ?_
      refine lv_istore (lv' := [(8, .int (nI R)), (7, .int (nI J)), (6, .int 1), (5, .int 0), (4, .int 1), (3, .int 1), (2, .float (f 7)), (1, .int 0), (0, .ref o)]) hx hb dL_told_255 hl (by decide) rfl (fun ls hl => ?_)
      refine lv_iconst (v := 0) hx hb dL_told_257 (by decide) ?_
      refine lv_istore (lv' := [(9, .int 0), (8, .int (nI R)), (7, .int (nI J)), (6, .int 1), (5, .int 0), (4, .int 1), (3, .int 1), (2, .float (f 7)), (1, .int 0), (0, .ref o)]) hx hb dL_told_258 hl (by decide) rfl (fun ls hl => ?_)
      obtain ⟨i, hi0⟩ : ∃ i : Nat, i = 0 := ⟨_, rfl⟩
      replace hl : lv_has ls 12 [(9, .int (nI i)), (8, .int (nI R)), (7, .int (nI J)), (6, .int 1), (5, .int 0), (4, .int 1), (3, .int 1), (2, .float (f 7)), (1, .int 0), (0, .ref o)] := by rw [hi0]; exact hl
      obtain ⟨nn, hn⟩ : ∃ nn : Nat, R < i + nn := ⟨R + 1, by omega⟩
      have hi : i ≤ R := by omega
      clear hi0
      revert hl
      revert hL
      revert hA
      revert hi
      revert hn
      revert ls
      revert locs
      revert H
      revert i
      induction nn with
      | zero => intro i H locs ls hn hi; exact absurd hn (by omega)
      | succ nn ih =>
        intro i H locs ls hn hi hA hL hl
        refine lv_iload hx hb dL_told_260 (lv_at hl 0 rfl) ?_
        refine lv_iload hx hb dL_told_262 (lv_at hl 1 rfl) ?_
        refine lv_icmp_ge (tgt := 403) hx hb dL_told_264 (by decide) (fun c_264 => ?_) (fun c_264 => ?_)
        · skip
          obtain rfl : R = i := (eq_of_le hi (by omega) c_264).symm
          refine lv_iload_n hx hb dL_told_403 rfl (lv_at hl 6 rfl) ?_
          refine lv_if_eq (tgt := 462) hx hb dL_told_404 (by decide) (fun h9 => absurd h9 (by decide)) (fun _ => ?_)
          refine lv_iload hx hb dL_told_407 (lv_at hl 5 rfl) ?_
          refine lv_if_eq (tgt := 462) hx hb dL_told_409 (by decide) (fun h9 => absurd h9 (by decide)) (fun _ => ?_)
          refine lv_iload hx hb dL_told_412 (lv_at hl 3 rfl) ?_
          refine lv_if_eq (tgt := 462) hx hb dL_told_414 (by decide) (fun h9 => absurd h9 (by decide)) (fun _ => ?_)
          refine lv_aload_n hx hb dL_told_417 rfl (lv_at hl 9 rfl) ?_
          refine lv_iload hx hb dL_told_418 (lv_at hl 1 rfl) ?_
          refine lv_iconst (v := 0) hx hb dL_told_420 (by decide) ?_
          refine lr_i (rL (rest := []) ⟨hx, hb, hml, hown, hts⟩ (LB_judged l G cA A o (u, v, f, g, L) n K ch (nI R) 0 ) (cwV 2 hts gL_told_X8_judged rfl rfl rfl mdX8_judged ⟨Nat.le_of_ble_eq_true rfl, Nat.le_of_ble_eq_true rfl⟩) hA hL rfl hl rfl (Nat.le_of_ble_eq_true rfl) dL_told_421 ⟨Nat.le_of_ble_eq_true rfl, Nat.le_of_ble_eq_true rfl⟩) hA hL (fun r_421 H locs hr_421 hA hL => ?_)
          rw [ju_end hR10 h18] at hr_421
          subst hr_421
          refine lv_bipush (v := (-5)) hx hb dL_told_424 (by decide) ?_
          refine lv_icmp_ne (tgt := 462) hx hb dL_told_426 (by decide) (fun h9 => absurd (by decide) h9) (fun _ => ?_)
          refine lv_aload_n hx hb dL_told_429 rfl (lv_at hl 9 rfl) ?_
          refine lv_iconst (v := (-1)) hx hb dL_told_430 (by decide) ?_
          refine lv_iconst (v := 0) hx hb dL_told_431 (by decide) ?_
          refine lr_i (rL (rest := []) ⟨hx, hb, hml, hown, hts⟩ (LB_judged l G cA A o (u, v, f, g, L) n K ch (-1) 0 ) (cwV 2 hts gL_told_X8_judged rfl rfl rfl mdX8_judged ⟨Nat.le_of_ble_eq_true rfl, Nat.le_of_ble_eq_true rfl⟩) hA hL rfl hl rfl (Nat.le_of_ble_eq_true rfl) dL_told_432 ⟨Nat.le_of_ble_eq_true rfl, Nat.le_of_ble_eq_true rfl⟩) hA hL (fun r_432 H locs hr_432 hA hL => ?_)
          replace hr_432 : r_432 = (-2) := hr_432
          subst hr_432
          refine lv_bipush (v := (-2)) hx hb dL_told_435 (by decide) ?_
          refine lv_icmp_ne (tgt := 462) hx hb dL_told_437 (by decide) (fun h9 => absurd (by decide) h9) (fun _ => ?_)
          refine lv_aload_n hx hb dL_told_440 rfl (lv_at hl 9 rfl) ?_
          refine lv_iconst (v := 0) hx hb dL_told_441 (by decide) ?_
          refine lv_iconst (v := 5) hx hb dL_told_442 (by decide) ?_
          refine lr_i (rL (rest := []) ⟨hx, hb, hml, hown, hts⟩ (LB_judged l G cA A o (u, v, f, g, L) n K ch 0 5 ) (cwV 2 hts gL_told_X8_judged rfl rfl rfl mdX8_judged ⟨Nat.le_of_ble_eq_true rfl, Nat.le_of_ble_eq_true rfl⟩) hA hL rfl hl rfl (Nat.le_of_ble_eq_true rfl) dL_told_443 ⟨Nat.le_of_ble_eq_true rfl, Nat.le_of_ble_eq_true rfl⟩) hA hL (fun r_443 H locs hr_443 hA hL => ?_)
          replace hr_443 : r_443 = (-2) := hr_443
          subst hr_443
          refine lv_bipush (v := (-2)) hx hb dL_told_446 (by decide) ?_
          refine lv_icmp_ne (tgt := 462) hx hb dL_told_448 (by decide) (fun h9 => absurd (by decide) h9) (fun _ => ?_)
          refine lv_aload_n hx hb dL_told_451 rfl (lv_at hl 9 rfl) ?_
          refine lw_i (rLS (rest := []) ⟨hx, hb, hml, hown, hts⟩ (hTh) (va_cwS 1 hts gL_told_L_thing rfl rfl rfl mdL_thing.2 ⟨Nat.le_of_ble_eq_true rfl, Nat.le_of_ble_eq_true rfl⟩) hA hL rfl hl rfl (Nat.le_of_ble_eq_true rfl) dL_told_452 ⟨Nat.le_of_ble_eq_true rfl, Nat.le_of_ble_eq_true rfl⟩) hA (fun r_452 _ H locs hr_452 hA hL => ?_)
          replace hL : LB G cA A o (u, v, f, g, L) n K ch H := hL
          subst hr_452
          refine lv_if_eq (tgt := 462) hx hb dL_told_455 (by decide) (fun h9 => absurd h9 (by decide)) (fun _ => ?_)
          refine lv_iconst (v := 1) hx hb dL_told_458 (by decide) ?_
          refine lv_goto (tgt := 463) hx hb dL_told_459 (by decide) ?_
          exact en_l (post := fun r (_ : Unit) => r = 1) (B := fun _ H => LB G cA A o (u, v, f, g, L) n K ch H) () hx hb hr hlocks hA rfl hL dL_told_463
        · skip
          have hlt : i < R := lt_of_nle hi (by omega) c_264
          have h8 := hT.2.2.2.2.2.2 i hlt
          refine lv_aload_n hx hb dL_told_267 rfl (lv_at hl 9 rfl) ?_
          refine lv_iload hx hb dL_told_268 (lv_at hl 0 rfl) ?_
          refine lv_iconst (v := 0) hx hb dL_told_270 (by decide) ?_
          refine lr_i (rL (rest := []) ⟨hx, hb, hml, hown, hts⟩ (LB_judged l G cA A o (u, v, f, g, L) n K ch (nI i) 0 ) (cwV 2 hts gL_told_X8_judged rfl rfl rfl mdX8_judged ⟨Nat.le_of_ble_eq_true rfl, Nat.le_of_ble_eq_true rfl⟩) hA hL rfl hl rfl (Nat.le_of_ble_eq_true rfl) dL_told_271 ⟨Nat.le_of_ble_eq_true rfl, Nat.le_of_ble_eq_true rfl⟩) hA hL (fun r_271 H locs hr_271 hA hL => ?_)
          replace hr_271 : r_271 = L (i * 5 + 0) := hr_271.trans (ju_at 0 (by decide) hlt hR10 h18)
          subst hr_271
          refine lv_if_lt (tgt := 326) hx hb dL_told_274 (by decide) (fun c_274 => absurd c_274 h8.1) (fun c_274 => ?_)
          refine lv_aload_n hx hb dL_told_277 rfl (lv_at hl 9 rfl) ?_
          refine lv_iload hx hb dL_told_278 (lv_at hl 0 rfl) ?_
          refine lv_iconst (v := 0) hx hb dL_told_280 (by decide) ?_
          refine lr_i (rL (rest := []) ⟨hx, hb, hml, hown, hts⟩ (LB_judged l G cA A o (u, v, f, g, L) n K ch (nI i) 0 ) (cwV 2 hts gL_told_X8_judged rfl rfl rfl mdX8_judged ⟨Nat.le_of_ble_eq_true rfl, Nat.le_of_ble_eq_true rfl⟩) hA hL rfl hl rfl (Nat.le_of_ble_eq_true rfl) dL_told_281 ⟨Nat.le_of_ble_eq_true rfl, Nat.le_of_ble_eq_true rfl⟩) hA hL (fun r_281 H locs hr_281 hA hL => ?_)
          replace hr_281 : r_281 = L (i * 5 + 0) := hr_281.trans (ju_at 0 (by decide) hlt hR10 h18)
          subst hr_281
          refine lv_iconst (v := 3) hx hb dL_told_284 (by decide) ?_
          refine lv_icmp_gt (tgt := 326) hx hb dL_told_285 (by decide) (fun c_285 => absurd c_285 h8.2.1) (fun c_285 => ?_)
          refine lv_aload_n hx hb dL_told_288 rfl (lv_at hl 9 rfl) ?_
          refine lv_iload hx hb dL_told_289 (lv_at hl 0 rfl) ?_
          refine lv_iconst (v := 2) hx hb dL_told_291 (by decide) ?_
          refine lr_i (rL (rest := []) ⟨hx, hb, hml, hown, hts⟩ (LB_judged l G cA A o (u, v, f, g, L) n K ch (nI i) 2 ) (cwV 2 hts gL_told_X8_judged rfl rfl rfl mdX8_judged ⟨Nat.le_of_ble_eq_true rfl, Nat.le_of_ble_eq_true rfl⟩) hA hL rfl hl rfl (Nat.le_of_ble_eq_true rfl) dL_told_292 ⟨Nat.le_of_ble_eq_true rfl, Nat.le_of_ble_eq_true rfl⟩) hA hL (fun r_292 H locs hr_292 hA hL => ?_)
          replace hr_292 : r_292 = L (i * 5 + 2) := hr_292.trans (ju_at 2 (by decide) hlt hR10 h18)
          subst hr_292
          refine lv_iconst (v := 1) hx hb dL_told_295 (by decide) ?_
          refine lv_icmp_lt (tgt := 326) hx hb dL_told_296 (by decide) (fun c_296 => absurd c_296 h8.2.2.1) (fun c_296 => ?_)
          refine lv_aload_n hx hb dL_told_299 rfl (lv_at hl 9 rfl) ?_
          refine lv_iload hx hb dL_told_300 (lv_at hl 0 rfl) ?_
          refine lv_iconst (v := 3) hx hb dL_told_302 (by decide) ?_
          refine lr_i (rL (rest := []) ⟨hx, hb, hml, hown, hts⟩ (LB_judged l G cA A o (u, v, f, g, L) n K ch (nI i) 3 ) (cwV 2 hts gL_told_X8_judged rfl rfl rfl mdX8_judged ⟨Nat.le_of_ble_eq_true rfl, Nat.le_of_ble_eq_true rfl⟩) hA hL rfl hl rfl (Nat.le_of_ble_eq_true rfl) dL_told_303 ⟨Nat.le_of_ble_eq_true rfl, Nat.le_of_ble_eq_true rfl⟩) hA hL (fun r_303 H locs hr_303 hA hL => ?_)
          replace hr_303 : r_303 = L (i * 5 + 3) := hr_303.trans (ju_at 3 (by decide) hlt hR10 h18)
          subst hr_303
          refine lv_iconst (v := 1) hx hb dL_told_306 (by decide) ?_
          refine lv_icmp_lt (tgt := 326) hx hb dL_told_307 (by decide) (fun c_307 => absurd c_307 h8.2.2.2.1) (fun c_307 => ?_)
          refine lv_aload_n hx hb dL_told_310 rfl (lv_at hl 9 rfl) ?_
          refine lv_iload hx hb dL_told_311 (lv_at hl 0 rfl) ?_
          refine lv_iconst (v := 3) hx hb dL_told_313 (by decide) ?_
          refine lr_i (rL (rest := []) ⟨hx, hb, hml, hown, hts⟩ (LB_judged l G cA A o (u, v, f, g, L) n K ch (nI i) 3 ) (cwV 2 hts gL_told_X8_judged rfl rfl rfl mdX8_judged ⟨Nat.le_of_ble_eq_true rfl, Nat.le_of_ble_eq_true rfl⟩) hA hL rfl hl rfl (Nat.le_of_ble_eq_true rfl) dL_told_314 ⟨Nat.le_of_ble_eq_true rfl, Nat.le_of_ble_eq_true rfl⟩) hA hL (fun r_314 H locs hr_314 hA hL => ?_)
          replace hr_314 : r_314 = L (i * 5 + 3) := hr_314.trans (ju_at 3 (by decide) hlt hR10 h18)
          subst hr_314
          refine lv_bipush (v := 7) hx hb dL_told_317 (by decide) ?_
          refine lv_icmp_gt (tgt := 326) hx hb dL_told_319 (by decide) (fun c_319 => absurd c_319 h8.2.2.2.2.1) (fun c_319 => ?_)
          refine lv_iconst (v := 1) hx hb dL_told_322 (by decide) ?_
          refine lv_goto (tgt := 327) hx hb dL_told_323 (by decide) ?_
          refine lv_istore (lv' := [(10, .int 1), (9, .int (nI i)), (8, .int (nI R)), (7, .int (nI J)), (6, .int 1), (5, .int 0), (4, .int 1), (3, .int 1), (2, .float (f 7)), (1, .int 0), (0, .ref o)]) hx hb dL_told_327 hl (by decide) rfl (fun ls hl => ?_)
          refine lv_aload_n hx hb dL_told_329 rfl (lv_at hl 10 rfl) ?_
          refine lv_iload hx hb dL_told_330 (lv_at hl 1 rfl) ?_
          refine lv_iconst (v := 4) hx hb dL_told_332 (by decide) ?_
          refine lr_i (rL (rest := []) ⟨hx, hb, hml, hown, hts⟩ (LB_judged l G cA A o (u, v, f, g, L) n K ch (nI i) 4 ) (cwV 2 hts gL_told_X8_judged rfl rfl rfl mdX8_judged ⟨Nat.le_of_ble_eq_true rfl, Nat.le_of_ble_eq_true rfl⟩) hA hL rfl hl rfl (Nat.le_of_ble_eq_true rfl) dL_told_333 ⟨Nat.le_of_ble_eq_true rfl, Nat.le_of_ble_eq_true rfl⟩) hA hL (fun r_333 H locs hr_333 hA hL => ?_)
          replace hr_333 : r_333 = L (i * 5 + 4) := hr_333.trans (ju_at 4 (by decide) hlt hR10 h18)
          subst hr_333
          refine lv_aload_n hx hb dL_told_336 rfl (lv_at hl 10 rfl) ?_
          refine lv_iload hx hb dL_told_337 (lv_at hl 1 rfl) ?_
          refine lv_iconst (v := 1) hx hb dL_told_339 (by decide) ?_
          refine lr_i (rL (rest := [.int (L (i * 5 + 4))]) ⟨hx, hb, hml, hown, hts⟩ (LB_judged l G cA A o (u, v, f, g, L) n K ch (nI i) 1 ) (cwV 2 hts gL_told_X8_judged rfl rfl rfl mdX8_judged ⟨Nat.le_of_ble_eq_true rfl, Nat.le_of_ble_eq_true rfl⟩) hA hL rfl hl rfl (Nat.le_of_ble_eq_true rfl) dL_told_340 ⟨Nat.le_of_ble_eq_true rfl, Nat.le_of_ble_eq_true rfl⟩) hA hL (fun r_340 H locs hr_340 hA hL => ?_)
          replace hr_340 : r_340 = L (i * 5 + 1) := hr_340.trans (ju_at 1 (by decide) hlt hR10 h18)
          subst hr_340
          refine lv_aload_n hx hb dL_told_343 rfl (lv_at hl 10 rfl) ?_
          refine lv_iload hx hb dL_told_344 (lv_at hl 1 rfl) ?_
          refine lv_iconst (v := 2) hx hb dL_told_346 (by decide) ?_
          refine lr_i (rL (rest := [.int (L (i * 5 + 1)), .int (L (i * 5 + 4))]) ⟨hx, hb, hml, hown, hts⟩ (LB_judged l G cA A o (u, v, f, g, L) n K ch (nI i) 2 ) (cwV 2 hts gL_told_X8_judged rfl rfl rfl mdX8_judged ⟨Nat.le_of_ble_eq_true rfl, Nat.le_of_ble_eq_true rfl⟩) hA hL rfl hl rfl (Nat.le_of_ble_eq_true rfl) dL_told_347 ⟨Nat.le_of_ble_eq_true rfl, Nat.le_of_ble_eq_true rfl⟩) hA hL (fun r_347 H locs hr_347 hA hL => ?_)
          replace hr_347 : r_347 = L (i * 5 + 2) := hr_347.trans (ju_at 2 (by decide) hlt hR10 h18)
          subst hr_347
          refine lv_iadd hx hb dL_told_350 ?_
          refine lv_icmp_lt (tgt := 382) hx hb dL_told_351 (by decide) (fun c_351 => absurd c_351 h8.2.2.2.2.2.1) (fun c_351 => ?_)
          refine lv_iload hx hb dL_told_354 (lv_at hl 1 rfl) ?_
          refine lv_if_eq (tgt := 378) hx hb dL_told_356 (by decide) (fun c_356 => ?_) (fun c_356 => ?_)
          · skip
            refine lv_iconst (v := 1) hx hb dL_told_378 (by decide) ?_
            refine lv_goto (tgt := 383) hx hb dL_told_379 (by decide) ?_
            refine lv_istore (lv' := [(11, .int 1), (10, .int 1), (9, .int (nI i)), (8, .int (nI R)), (7, .int (nI J)), (6, .int 1), (5, .int 0), (4, .int 1), (3, .int 1), (2, .float (f 7)), (1, .int 0), (0, .ref o)]) hx hb dL_told_383 hl (by decide) rfl (fun ls hl => ?_)
            refine lv_iload hx hb dL_told_385 (lv_at hl 1 rfl) ?_
            refine lv_if_eq (tgt := 395) hx hb dL_told_387 (by decide) (fun h9 => absurd h9 (by decide)) (fun _ => ?_)
            refine lv_iload hx hb dL_told_390 (lv_at hl 0 rfl) ?_
            refine lv_if_ne (tgt := 397) hx hb dL_told_392 (by decide) (fun _ => ?_) (fun h9 => absurd h9 (by decide))
            refine lv_iinc (v := ((nI i) + 1)) (lv' := [(9, .int ((nI i) + 1)), (11, .int 1), (10, .int 1), (8, .int (nI R)), (7, .int (nI J)), (6, .int 1), (5, .int 0), (4, .int 1), (3, .int 1), (2, .float (f 7)), (1, .int 0), (0, .ref o)]) hx hb dL_told_397 hl (k := 2) rfl rfl (by decide) rfl (fun ls hl => ?_)
            refine lv_goto (tgt := 260) hx hb dL_told_400 (by decide) ?_
            replace hl : lv_has ls 12 [(9, .int (nI (i + 1))), (11, .int 1), (10, .int 1), (8, .int (nI R)), (7, .int (nI J)), (6, .int 1), (5, .int 0), (4, .int 1), (3, .int 1), (2, .float (f 7)), (1, .int 0), (0, .ref o)] := by rw [← nI_1]; exact hl
            exact ih (i + 1) _ _ _ (by omega) (by omega) hA hL (lv_sub hl [0, 3, 4, 5, 6, 7, 8, 9, 10, 11] rfl)
          · skip
            refine lv_aload_n hx hb dL_told_359 rfl (lv_at hl 10 rfl) ?_
            refine lv_iload hx hb dL_told_360 (lv_at hl 1 rfl) ?_
            refine lv_iconst (v := 4) hx hb dL_told_362 (by decide) ?_
            refine lr_i (rL (rest := []) ⟨hx, hb, hml, hown, hts⟩ (LB_judged l G cA A o (u, v, f, g, L) n K ch (nI i) 4 ) (cwV 2 hts gL_told_X8_judged rfl rfl rfl mdX8_judged ⟨Nat.le_of_ble_eq_true rfl, Nat.le_of_ble_eq_true rfl⟩) hA hL rfl hl rfl (Nat.le_of_ble_eq_true rfl) dL_told_363 ⟨Nat.le_of_ble_eq_true rfl, Nat.le_of_ble_eq_true rfl⟩) hA hL (fun r_363 H locs hr_363 hA hL => ?_)
            replace hr_363 : r_363 = L (i * 5 + 4) := hr_363.trans (ju_at 4 (by decide) hlt hR10 h18)
            subst hr_363
            refine lv_aload_n hx hb dL_told_366 rfl (lv_at hl 10 rfl) ?_
            refine lv_iload hx hb dL_told_367 (lv_at hl 1 rfl) ?_
            refine lv_iconst (v := 1) hx hb dL_told_369 (by decide) ?_
            refine lv_isub hx hb dL_told_370 ?_
            refine lv_iconst (v := 1) hx hb dL_told_371 (by decide) ?_
            refine lr_i (rL (rest := [.int (L (i * 5 + 4))]) ⟨hx, hb, hml, hown, hts⟩ (LB_judged l G cA A o (u, v, f, g, L) n K ch ((nI i) - 1) 1 ) (cwV 2 hts gL_told_X8_judged rfl rfl rfl mdX8_judged ⟨Nat.le_of_ble_eq_true rfl, Nat.le_of_ble_eq_true rfl⟩) hA hL rfl hl rfl (Nat.le_of_ble_eq_true rfl) dL_told_372 ⟨Nat.le_of_ble_eq_true rfl, Nat.le_of_ble_eq_true rfl⟩) hA hL (fun r_372 H locs hr_372 hA hL => ?_)
            rw [(pred_of c_356).2] at hr_372
            replace hr_372 : r_372 = L ((i - 1) * 5 + 1) := hr_372.trans (ju_at 1 (by decide) (by omega) hR10 h18)
            subst hr_372
            refine lv_icmp_ge (tgt := 382) hx hb dL_told_375 (by decide) (fun c_375 => absurd c_375 (h8.2.2.2.2.2.2 (pred_of c_356).1)) (fun c_375 => ?_)
            refine lv_iconst (v := 1) hx hb dL_told_378 (by decide) ?_
            refine lv_goto (tgt := 383) hx hb dL_told_379 (by decide) ?_
            refine lv_istore (lv' := [(11, .int 1), (10, .int 1), (9, .int (nI i)), (8, .int (nI R)), (7, .int (nI J)), (6, .int 1), (5, .int 0), (4, .int 1), (3, .int 1), (2, .float (f 7)), (1, .int 0), (0, .ref o)]) hx hb dL_told_383 hl (by decide) rfl (fun ls hl => ?_)
            refine lv_iload hx hb dL_told_385 (lv_at hl 1 rfl) ?_
            refine lv_if_eq (tgt := 395) hx hb dL_told_387 (by decide) (fun h9 => absurd h9 (by decide)) (fun _ => ?_)
            refine lv_iload hx hb dL_told_390 (lv_at hl 0 rfl) ?_
            refine lv_if_ne (tgt := 397) hx hb dL_told_392 (by decide) (fun _ => ?_) (fun h9 => absurd h9 (by decide))
            refine lv_iinc (v := ((nI i) + 1)) (lv' := [(9, .int ((nI i) + 1)), (11, .int 1), (10, .int 1), (8, .int (nI R)), (7, .int (nI J)), (6, .int 1), (5, .int 0), (4, .int 1), (3, .int 1), (2, .float (f 7)), (1, .int 0), (0, .ref o)]) hx hb dL_told_397 hl (k := 2) rfl rfl (by decide) rfl (fun ls hl => ?_)
            refine lv_goto (tgt := 260) hx hb dL_told_400 (by decide) ?_
            replace hl : lv_has ls 12 [(9, .int (nI (i + 1))), (11, .int 1), (10, .int 1), (8, .int (nI R)), (7, .int (nI J)), (6, .int 1), (5, .int 0), (4, .int 1), (3, .int 1), (2, .float (f 7)), (1, .int 0), (0, .ref o)] := by rw [← nI_1]; exact hl
            exact ih (i + 1) _ _ _ (by omega) (by omega) hA hL (lv_sub hl [0, 3, 4, 5, 6, 7, 8, 9, 10, 11] rfl)
    · skip
      refine lv_iload hx hb dL_told_248 (lv_at hl 0 rfl) ?_
      refine lv_goto (tgt := 255) hx hb dL_told_250 (by decide) ?_
      have hRR : R = J := by rw [hRd, if_pos (Nat.lt_of_not_le (fun h9 => c_245 ((nI_leI (a := 10) (b := J) (by decide) hJ31).mpr h9)))]
      refine W.eq (g2 := F0 m 255 ls [.int (nI R)]) (by rw [hRR]) ?_
      refine lv_istore (lv' := [(8, .int (nI R)), (7, .int (nI J)), (6, .int 1), (5, .int 0), (4, .int 1), (3, .int 1), (2, .float (f 7)), (1, .int 0), (0, .ref o)]) hx hb dL_told_255 hl (by decide) rfl (fun ls hl => ?_)
      refine lv_iconst (v := 0) hx hb dL_told_257 (by decide) ?_
      refine lv_istore (lv' := [(9, .int 0), (8, .int (nI R)), (7, .int (nI J)), (6, .int 1), (5, .int 0), (4, .int 1), (3, .int 1), (2, .float (f 7)), (1, .int 0), (0, .ref o)]) hx hb dL_told_258 hl (by decide) rfl (fun ls hl => ?_)
      obtain ⟨i, hi0⟩ : ∃ i : Nat, i = 0 := ⟨_, rfl⟩
      replace hl : lv_has ls 12 [(9, .int (nI i)), (8, .int (nI R)), (7, .int (nI J)), (6, .int 1), (5, .int 0), (4, .int 1), (3, .int 1), (2, .float (f 7)), (1, .int 0), (0, .ref o)] := by rw [hi0]; exact hl
      obtain ⟨nn, hn⟩ : ∃ nn : Nat, R < i + nn := ⟨R + 1, by omega⟩
      have hi : i ≤ R := by omega
      clear hi0
      revert hl
      revert hL
      revert hA
      revert hi
      revert hn
      revert ls
      revert locs
      revert H
      revert i
      induction nn with
      | zero => intro i H locs ls hn hi; exact absurd hn (by omega)
      | succ nn ih =>
        intro i H locs ls hn hi hA hL hl
        refine lv_iload hx hb dL_told_260 (lv_at hl 0 rfl) ?_
        refine lv_iload hx hb dL_told_262 (lv_at hl 1 rfl) ?_
        refine lv_icmp_ge (tgt := 403) hx hb dL_told_264 (by decide) (fun c_264_1 => ?_) (fun c_264_1 => ?_)
        · skip
          obtain rfl : R = i := (eq_of_le hi (by omega) c_264_1).symm
          refine lv_iload_n hx hb dL_told_403 rfl (lv_at hl 6 rfl) ?_
          refine lv_if_eq (tgt := 462) hx hb dL_told_404 (by decide) (fun h9 => absurd h9 (by decide)) (fun _ => ?_)
          refine lv_iload hx hb dL_told_407 (lv_at hl 5 rfl) ?_
          refine lv_if_eq (tgt := 462) hx hb dL_told_409 (by decide) (fun h9 => absurd h9 (by decide)) (fun _ => ?_)
          refine lv_iload hx hb dL_told_412 (lv_at hl 3 rfl) ?_
          refine lv_if_eq (tgt := 462) hx hb dL_told_414 (by decide) (fun h9 => absurd h9 (by decide)) (fun _ => ?_)
          refine lv_aload_n hx hb dL_told_417 rfl (lv_at hl 9 rfl) ?_
          refine lv_iload hx hb dL_told_418 (lv_at hl 1 rfl) ?_
          refine lv_iconst (v := 0) hx hb dL_told_420 (by decide) ?_
          refine lr_i (rL (rest := []) ⟨hx, hb, hml, hown, hts⟩ (LB_judged l G cA A o (u, v, f, g, L) n K ch (nI R) 0 ) (cwV 2 hts gL_told_X8_judged rfl rfl rfl mdX8_judged ⟨Nat.le_of_ble_eq_true rfl, Nat.le_of_ble_eq_true rfl⟩) hA hL rfl hl rfl (Nat.le_of_ble_eq_true rfl) dL_told_421 ⟨Nat.le_of_ble_eq_true rfl, Nat.le_of_ble_eq_true rfl⟩) hA hL (fun r_421_1 H locs hr_421_1 hA hL => ?_)
          rw [ju_end hR10 h18] at hr_421_1
          subst hr_421_1
          refine lv_bipush (v := (-5)) hx hb dL_told_424 (by decide) ?_
          refine lv_icmp_ne (tgt := 462) hx hb dL_told_426 (by decide) (fun h9 => absurd (by decide) h9) (fun _ => ?_)
          refine lv_aload_n hx hb dL_told_429 rfl (lv_at hl 9 rfl) ?_
          refine lv_iconst (v := (-1)) hx hb dL_told_430 (by decide) ?_
          refine lv_iconst (v := 0) hx hb dL_told_431 (by decide) ?_
          refine lr_i (rL (rest := []) ⟨hx, hb, hml, hown, hts⟩ (LB_judged l G cA A o (u, v, f, g, L) n K ch (-1) 0 ) (cwV 2 hts gL_told_X8_judged rfl rfl rfl mdX8_judged ⟨Nat.le_of_ble_eq_true rfl, Nat.le_of_ble_eq_true rfl⟩) hA hL rfl hl rfl (Nat.le_of_ble_eq_true rfl) dL_told_432 ⟨Nat.le_of_ble_eq_true rfl, Nat.le_of_ble_eq_true rfl⟩) hA hL (fun r_432_1 H locs hr_432_1 hA hL => ?_)
          replace hr_432_1 : r_432_1 = (-2) := hr_432_1
          subst hr_432_1
          refine lv_bipush (v := (-2)) hx hb dL_told_435 (by decide) ?_
          refine lv_icmp_ne (tgt := 462) hx hb dL_told_437 (by decide) (fun h9 => absurd (by decide) h9) (fun _ => ?_)
          refine lv_aload_n hx hb dL_told_440 rfl (lv_at hl 9 rfl) ?_
          refine lv_iconst (v := 0) hx hb dL_told_441 (by decide) ?_
          refine lv_iconst (v := 5) hx hb dL_told_442 (by decide) ?_
          refine lr_i (rL (rest := []) ⟨hx, hb, hml, hown, hts⟩ (LB_judged l G cA A o (u, v, f, g, L) n K ch 0 5 ) (cwV 2 hts gL_told_X8_judged rfl rfl rfl mdX8_judged ⟨Nat.le_of_ble_eq_true rfl, Nat.le_of_ble_eq_true rfl⟩) hA hL rfl hl rfl (Nat.le_of_ble_eq_true rfl) dL_told_443 ⟨Nat.le_of_ble_eq_true rfl, Nat.le_of_ble_eq_true rfl⟩) hA hL (fun r_443_1 H locs hr_443_1 hA hL => ?_)
          replace hr_443_1 : r_443_1 = (-2) := hr_443_1
          subst hr_443_1
          refine lv_bipush (v := (-2)) hx hb dL_told_446 (by decide) ?_
          refine lv_icmp_ne (tgt := 462) hx hb dL_told_448 (by decide) (fun h9 => absurd (by decide) h9) (fun _ => ?_)
          refine lv_aload_n hx hb dL_told_451 rfl (lv_at hl 9 rfl) ?_
          refine lw_i (rLS (rest := []) ⟨hx, hb, hml, hown, hts⟩ (hTh) (va_cwS 1 hts gL_told_L_thing rfl rfl rfl mdL_thing.2 ⟨Nat.le_of_ble_eq_true rfl, Nat.le_of_ble_eq_true rfl⟩) hA hL rfl hl rfl (Nat.le_of_ble_eq_true rfl) dL_told_452 ⟨Nat.le_of_ble_eq_true rfl, Nat.le_of_ble_eq_true rfl⟩) hA (fun r_452_1 _ H locs hr_452_1 hA hL => ?_)
          replace hL : LB G cA A o (u, v, f, g, L) n K ch H := hL
          subst hr_452_1
          refine lv_if_eq (tgt := 462) hx hb dL_told_455 (by decide) (fun h9 => absurd h9 (by decide)) (fun _ => ?_)
          refine lv_iconst (v := 1) hx hb dL_told_458 (by decide) ?_
          refine lv_goto (tgt := 463) hx hb dL_told_459 (by decide) ?_
          exact en_l (post := fun r (_ : Unit) => r = 1) (B := fun _ H => LB G cA A o (u, v, f, g, L) n K ch H) () hx hb hr hlocks hA rfl hL dL_told_463
        · skip
          have hlt : i < R := lt_of_nle hi (by omega) c_264_1
          have h8 := hT.2.2.2.2.2.2 i hlt
          refine lv_aload_n hx hb dL_told_267 rfl (lv_at hl 9 rfl) ?_
          refine lv_iload hx hb dL_told_268 (lv_at hl 0 rfl) ?_
          refine lv_iconst (v := 0) hx hb dL_told_270 (by decide) ?_
          refine lr_i (rL (rest := []) ⟨hx, hb, hml, hown, hts⟩ (LB_judged l G cA A o (u, v, f, g, L) n K ch (nI i) 0 ) (cwV 2 hts gL_told_X8_judged rfl rfl rfl mdX8_judged ⟨Nat.le_of_ble_eq_true rfl, Nat.le_of_ble_eq_true rfl⟩) hA hL rfl hl rfl (Nat.le_of_ble_eq_true rfl) dL_told_271 ⟨Nat.le_of_ble_eq_true rfl, Nat.le_of_ble_eq_true rfl⟩) hA hL (fun r_271_1 H locs hr_271_1 hA hL => ?_)
          replace hr_271_1 : r_271_1 = L (i * 5 + 0) := hr_271_1.trans (ju_at 0 (by decide) hlt hR10 h18)
          subst hr_271_1
          refine lv_if_lt (tgt := 326) hx hb dL_told_274 (by decide) (fun c_274_1 => absurd c_274_1 h8.1) (fun c_274_1 => ?_)
          refine lv_aload_n hx hb dL_told_277 rfl (lv_at hl 9 rfl) ?_
          refine lv_iload hx hb dL_told_278 (lv_at hl 0 rfl) ?_
          refine lv_iconst (v := 0) hx hb dL_told_280 (by decide) ?_
          refine lr_i (rL (rest := []) ⟨hx, hb, hml, hown, hts⟩ (LB_judged l G cA A o (u, v, f, g, L) n K ch (nI i) 0 ) (cwV 2 hts gL_told_X8_judged rfl rfl rfl mdX8_judged ⟨Nat.le_of_ble_eq_true rfl, Nat.le_of_ble_eq_true rfl⟩) hA hL rfl hl rfl (Nat.le_of_ble_eq_true rfl) dL_told_281 ⟨Nat.le_of_ble_eq_true rfl, Nat.le_of_ble_eq_true rfl⟩) hA hL (fun r_281_1 H locs hr_281_1 hA hL => ?_)
          replace hr_281_1 : r_281_1 = L (i * 5 + 0) := hr_281_1.trans (ju_at 0 (by decide) hlt hR10 h18)
          subst hr_281_1
          refine lv_iconst (v := 3) hx hb dL_told_284 (by decide) ?_
          refine lv_icmp_gt (tgt := 326) hx hb dL_told_285 (by decide) (fun c_285_1 => absurd c_285_1 h8.2.1) (fun c_285_1 => ?_)
          refine lv_aload_n hx hb dL_told_288 rfl (lv_at hl 9 rfl) ?_
          refine lv_iload hx hb dL_told_289 (lv_at hl 0 rfl) ?_
          refine lv_iconst (v := 2) hx hb dL_told_291 (by decide) ?_
          refine lr_i (rL (rest := []) ⟨hx, hb, hml, hown, hts⟩ (LB_judged l G cA A o (u, v, f, g, L) n K ch (nI i) 2 ) (cwV 2 hts gL_told_X8_judged rfl rfl rfl mdX8_judged ⟨Nat.le_of_ble_eq_true rfl, Nat.le_of_ble_eq_true rfl⟩) hA hL rfl hl rfl (Nat.le_of_ble_eq_true rfl) dL_told_292 ⟨Nat.le_of_ble_eq_true rfl, Nat.le_of_ble_eq_true rfl⟩) hA hL (fun r_292_1 H locs hr_292_1 hA hL => ?_)
          replace hr_292_1 : r_292_1 = L (i * 5 + 2) := hr_292_1.trans (ju_at 2 (by decide) hlt hR10 h18)
          subst hr_292_1
          refine lv_iconst (v := 1) hx hb dL_told_295 (by decide) ?_
          refine lv_icmp_lt (tgt := 326) hx hb dL_told_296 (by decide) (fun c_296_1 => absurd c_296_1 h8.2.2.1) (fun c_296_1 => ?_)
          refine lv_aload_n hx hb dL_told_299 rfl (lv_at hl 9 rfl) ?_
          refine lv_iload hx hb dL_told_300 (lv_at hl 0 rfl) ?_
          refine lv_iconst (v := 3) hx hb dL_told_302 (by decide) ?_
          refine lr_i (rL (rest := []) ⟨hx, hb, hml, hown, hts⟩ (LB_judged l G cA A o (u, v, f, g, L) n K ch (nI i) 3 ) (cwV 2 hts gL_told_X8_judged rfl rfl rfl mdX8_judged ⟨Nat.le_of_ble_eq_true rfl, Nat.le_of_ble_eq_true rfl⟩) hA hL rfl hl rfl (Nat.le_of_ble_eq_true rfl) dL_told_303 ⟨Nat.le_of_ble_eq_true rfl, Nat.le_of_ble_eq_true rfl⟩) hA hL (fun r_303_1 H locs hr_303_1 hA hL => ?_)
          replace hr_303_1 : r_303_1 = L (i * 5 + 3) := hr_303_1.trans (ju_at 3 (by decide) hlt hR10 h18)
          subst hr_303_1
          refine lv_iconst (v := 1) hx hb dL_told_306 (by decide) ?_
          refine lv_icmp_lt (tgt := 326) hx hb dL_told_307 (by decide) (fun c_307_1 => absurd c_307_1 h8.2.2.2.1) (fun c_307_1 => ?_)
          refine lv_aload_n hx hb dL_told_310 rfl (lv_at hl 9 rfl) ?_
          refine lv_iload hx hb dL_told_311 (lv_at hl 0 rfl) ?_
          refine lv_iconst (v := 3) hx hb dL_told_313 (by decide) ?_
          refine lr_i (rL (rest := []) ⟨hx, hb, hml, hown, hts⟩ (LB_judged l G cA A o (u, v, f, g, L) n K ch (nI i) 3 ) (cwV 2 hts gL_told_X8_judged rfl rfl rfl mdX8_judged ⟨Nat.le_of_ble_eq_true rfl, Nat.le_of_ble_eq_true rfl⟩) hA hL rfl hl rfl (Nat.le_of_ble_eq_true rfl) dL_told_314 ⟨Nat.le_of_ble_eq_true rfl, Nat.le_of_ble_eq_true rfl⟩) hA hL (fun r_314_1 H locs hr_314_1 hA hL => ?_)
          replace hr_314_1 : r_314_1 = L (i * 5 + 3) := hr_314_1.trans (ju_at 3 (by decide) hlt hR10 h18)
          subst hr_314_1
          refine lv_bipush (v := 7) hx hb dL_told_317 (by decide) ?_
          refine lv_icmp_gt (tgt := 326) hx hb dL_told_319 (by decide) (fun c_319_1 => absurd c_319_1 h8.2.2.2.2.1) (fun c_319_1 => ?_)
          refine lv_iconst (v := 1) hx hb dL_told_322 (by decide) ?_
          refine lv_goto (tgt := 327) hx hb dL_told_323 (by decide) ?_
          refine lv_istore (lv' := [(10, .int 1), (9, .int (nI i)), (8, .int (nI R)), (7, .int (nI J)), (6, .int 1), (5, .int 0), (4, .int 1), (3, .int 1), (2, .float (f 7)), (1, .int 0), (0, .ref o)]) hx hb dL_told_327 hl (by decide) rfl (fun ls hl => ?_)
          refine lv_aload_n hx hb dL_told_329 rfl (lv_at hl 10 rfl) ?_
          refine lv_iload hx hb dL_told_330 (lv_at hl 1 rfl) ?_
          refine lv_iconst (v := 4) hx hb dL_told_332 (by decide) ?_
          refine lr_i (rL (rest := []) ⟨hx, hb, hml, hown, hts⟩ (LB_judged l G cA A o (u, v, f, g, L) n K ch (nI i) 4 ) (cwV 2 hts gL_told_X8_judged rfl rfl rfl mdX8_judged ⟨Nat.le_of_ble_eq_true rfl, Nat.le_of_ble_eq_true rfl⟩) hA hL rfl hl rfl (Nat.le_of_ble_eq_true rfl) dL_told_333 ⟨Nat.le_of_ble_eq_true rfl, Nat.le_of_ble_eq_true rfl⟩) hA hL (fun r_333_1 H locs hr_333_1 hA hL => ?_)
          replace hr_333_1 : r_333_1 = L (i * 5 + 4) := hr_333_1.trans (ju_at 4 (by decide) hlt hR10 h18)
          subst hr_333_1
          refine lv_aload_n hx hb dL_told_336 rfl (lv_at hl 10 rfl) ?_
          refine lv_iload hx hb dL_told_337 (lv_at hl 1 rfl) ?_
          refine lv_iconst (v := 1) hx hb dL_told_339 (by decide) ?_
          refine lr_i (rL (rest := [.int (L (i * 5 + 4))]) ⟨hx, hb, hml, hown, hts⟩ (LB_judged l G cA A o (u, v, f, g, L) n K ch (nI i) 1 ) (cwV 2 hts gL_told_X8_judged rfl rfl rfl mdX8_judged ⟨Nat.le_of_ble_eq_true rfl, Nat.le_of_ble_eq_true rfl⟩) hA hL rfl hl rfl (Nat.le_of_ble_eq_true rfl) dL_told_340 ⟨Nat.le_of_ble_eq_true rfl, Nat.le_of_ble_eq_true rfl⟩) hA hL (fun r_340_1 H locs hr_340_1 hA hL => ?_)
          replace hr_340_1 : r_340_1 = L (i * 5 + 1) := hr_340_1.trans (ju_at 1 (by decide) hlt hR10 h18)
          subst hr_340_1
          refine lv_aload_n hx hb dL_told_343 rfl (lv_at hl 10 rfl) ?_
          refine lv_iload hx hb dL_told_344 (lv_at hl 1 rfl) ?_
          refine lv_iconst (v := 2) hx hb dL_told_346 (by decide) ?_
          refine lr_i (rL (rest := [.int (L (i * 5 + 1)), .int (L (i * 5 + 4))]) ⟨hx, hb, hml, hown, hts⟩ (LB_judged l G cA A o (u, v, f, g, L) n K ch (nI i) 2 ) (cwV 2 hts gL_told_X8_judged rfl rfl rfl mdX8_judged ⟨Nat.le_of_ble_eq_true rfl, Nat.le_of_ble_eq_true rfl⟩) hA hL rfl hl rfl (Nat.le_of_ble_eq_true rfl) dL_told_347 ⟨Nat.le_of_ble_eq_true rfl, Nat.le_of_ble_eq_true rfl⟩) hA hL (fun r_347_1 H locs hr_347_1 hA hL => ?_)
          replace hr_347_1 : r_347_1 = L (i * 5 + 2) := hr_347_1.trans (ju_at 2 (by decide) hlt hR10 h18)
          subst hr_347_1
          refine lv_iadd hx hb dL_told_350 ?_
          refine lv_icmp_lt (tgt := 382) hx hb dL_told_351 (by decide) (fun c_351_1 => absurd c_351_1 h8.2.2.2.2.2.1) (fun c_351_1 => ?_)
          refine lv_iload hx hb dL_told_354 (lv_at hl 1 rfl) ?_
          refine lv_if_eq (tgt := 378) hx hb dL_told_356 (by decide) (fun c_356_1 => ?_) (fun c_356_1 => ?_)
          · skip
            refine lv_iconst (v := 1) hx hb dL_told_378 (by decide) ?_
            refine lv_goto (tgt := 383) hx hb dL_told_379 (by decide) ?_
            refine lv_istore (lv' := [(11, .int 1), (10, .int 1), (9, .int (nI i)), (8, .int (nI R)), (7, .int (nI J)), (6, .int 1), (5, .int 0), (4, .int 1), (3, .int 1), (2, .float (f 7)), (1, .int 0), (0, .ref o)]) hx hb dL_told_383 hl (by decide) rfl (fun ls hl => ?_)
            refine lv_iload hx hb dL_told_385 (lv_at hl 1 rfl) ?_
            refine lv_if_eq (tgt := 395) hx hb dL_told_387 (by decide) (fun h9 => absurd h9 (by decide)) (fun _ => ?_)
            refine lv_iload hx hb dL_told_390 (lv_at hl 0 rfl) ?_
            refine lv_if_ne (tgt := 397) hx hb dL_told_392 (by decide) (fun _ => ?_) (fun h9 => absurd h9 (by decide))
            refine lv_iinc (v := ((nI i) + 1)) (lv' := [(9, .int ((nI i) + 1)), (11, .int 1), (10, .int 1), (8, .int (nI R)), (7, .int (nI J)), (6, .int 1), (5, .int 0), (4, .int 1), (3, .int 1), (2, .float (f 7)), (1, .int 0), (0, .ref o)]) hx hb dL_told_397 hl (k := 2) rfl rfl (by decide) rfl (fun ls hl => ?_)
            refine lv_goto (tgt := 260) hx hb dL_told_400 (by decide) ?_
            replace hl : lv_has ls 12 [(9, .int (nI (i + 1))), (11, .int 1), (10, .int 1), (8, .int (nI R)), (7, .int (nI J)), (6, .int 1), (5, .int 0), (4, .int 1), (3, .int 1), (2, .float (f 7)), (1, .int 0), (0, .ref o)] := by rw [← nI_1]; exact hl
            exact ih (i + 1) _ _ _ (by omega) (by omega) hA hL (lv_sub hl [0, 3, 4, 5, 6, 7, 8, 9, 10, 11] rfl)
          · skip
            refine lv_aload_n hx hb dL_told_359 rfl (lv_at hl 10 rfl) ?_
            refine lv_iload hx hb dL_told_360 (lv_at hl 1 rfl) ?_
            refine lv_iconst (v := 4) hx hb dL_told_362 (by decide) ?_
            refine lr_i (rL (rest := []) ⟨hx, hb, hml, hown, hts⟩ (LB_judged l G cA A o (u, v, f, g, L) n K ch (nI i) 4 ) (cwV 2 hts gL_told_X8_judged rfl rfl rfl mdX8_judged ⟨Nat.le_of_ble_eq_true rfl, Nat.le_of_ble_eq_true rfl⟩) hA hL rfl hl rfl (Nat.le_of_ble_eq_true rfl) dL_told_363 ⟨Nat.le_of_ble_eq_true rfl, Nat.le_of_ble_eq_true rfl⟩) hA hL (fun r_363_1 H locs hr_363_1 hA hL => ?_)
            replace hr_363_1 : r_363_1 = L (i * 5 + 4) := hr_363_1.trans (ju_at 4 (by decide) hlt hR10 h18)
            subst hr_363_1
            refine lv_aload_n hx hb dL_told_366 rfl (lv_at hl 10 rfl) ?_
            refine lv_iload hx hb dL_told_367 (lv_at hl 1 rfl) ?_
            refine lv_iconst (v := 1) hx hb dL_told_369 (by decide) ?_
            refine lv_isub hx hb dL_told_370 ?_
            refine lv_iconst (v := 1) hx hb dL_told_371 (by decide) ?_
            refine lr_i (rL (rest := [.int (L (i * 5 + 4))]) ⟨hx, hb, hml, hown, hts⟩ (LB_judged l G cA A o (u, v, f, g, L) n K ch ((nI i) - 1) 1 ) (cwV 2 hts gL_told_X8_judged rfl rfl rfl mdX8_judged ⟨Nat.le_of_ble_eq_true rfl, Nat.le_of_ble_eq_true rfl⟩) hA hL rfl hl rfl (Nat.le_of_ble_eq_true rfl) dL_told_372 ⟨Nat.le_of_ble_eq_true rfl, Nat.le_of_ble_eq_true rfl⟩) hA hL (fun r_372_1 H locs hr_372_1 hA hL => ?_)
            rw [(pred_of c_356_1).2] at hr_372_1
            replace hr_372_1 : r_372_1 = L ((i - 1) * 5 + 1) := hr_372_1.trans (ju_at 1 (by decide) (by omega) hR10 h18)
            subst hr_372_1
            refine lv_icmp_ge (tgt := 382) hx hb dL_told_375 (by decide) (fun c_375_1 => absurd c_375_1 (h8.2.2.2.2.2.2 (pred_of c_356_1).1)) (fun c_375_1 => ?_)
            refine lv_iconst (v := 1) hx hb dL_told_378 (by decide) ?_
            refine lv_goto (tgt := 383) hx hb dL_told_379 (by decide) ?_
            refine lv_istore (lv' := [(11, .int 1), (10, .int 1), (9, .int (nI i)), (8, .int (nI R)), (7, .int (nI J)), (6, .int 1), (5, .int 0), (4, .int 1), (3, .int 1), (2, .float (f 7)), (1, .int 0), (0, .ref o)]) hx hb dL_told_383 hl (by decide) rfl (fun ls hl => ?_)
            refine lv_iload hx hb dL_told_385 (lv_at hl 1 rfl) ?_
            refine lv_if_eq (tgt := 395) hx hb dL_told_387 (by decide) (fun h9 => absurd h9 (by decide)) (fun _ => ?_)
            refine lv_iload hx hb dL_told_390 (lv_at hl 0 rfl) ?_
            refine lv_if_ne (tgt := 397) hx hb dL_told_392 (by decide) (fun _ => ?_) (fun h9 => absurd h9 (by decide))
            refine lv_iinc (v := ((nI i) + 1)) (lv' := [(9, .int ((nI i) + 1)), (11, .int 1), (10, .int 1), (8, .int (nI R)), (7, .int (nI J)), (6, .int 1), (5, .int 0), (4, .int 1), (3, .int 1), (2, .float (f 7)), (1, .int 0), (0, .ref o)]) hx hb dL_told_397 hl (k := 2) rfl rfl (by decide) rfl (fun ls hl => ?_)
            refine lv_goto (tgt := 260) hx hb dL_told_400 (by decide) ?_
            replace hl : lv_has ls 12 [(9, .int (nI (i + 1))), (11, .int 1), (10, .int 1), (8, .int (nI R)), (7, .int (nI J)), (6, .int 1), (5, .int 0), (4, .int 1), (3, .int 1), (2, .float (f 7)), (1, .int 0), (0, .ref o)] := by rw [← nI_1]; exact hl
            exact ih (i + 1) _ _ _ (by omega) (by omega) hA hL (lv_sub hl [0, 3, 4, 5, 6, 7, 8, 9, 10, 11] rfl)
  · skip
    refine lv_iconst (v := 1) hx hb dL_told_133 (by decide) ?_
    refine lv_goto (tgt := 138) hx hb dL_told_134 (by decide) ?_
    refine lv_istore (lv' := [(5, .int 1), (4, .int 1), (3, .int 1), (2, .float (f 7)), (1, .int 0), (0, .ref o)]) hx hb dL_told_138 hl (by decide) rfl (fun ls hl => ?_)
    refine lv_aload_n hx hb dL_told_140 rfl (lv_at hl 5 rfl) ?_
    refine lv_iconst (v := 3) hx hb dL_told_141 (by decide) ?_
    refine lr_f (rL (rest := []) ⟨hx, hb, hml, hown, hts⟩ (LB_speed l G cA A o (u, v, f, g, L) n K ch 3) (cwV 1 hts gL_told_X8_speed rfl rfl rfl mdX8_speed ⟨Nat.le_of_ble_eq_true rfl, Nat.le_of_ble_eq_true rfl⟩) hA hL rfl hl rfl (Nat.le_of_ble_eq_true rfl) dL_told_142 ⟨Nat.le_of_ble_eq_true rfl, Nat.le_of_ble_eq_true rfl⟩) hA hL (fun r_142_1 H locs hr_142_1 hA hL => ?_)
    replace hr_142_1 : r_142_1 = spF u (scF v g) := hr_142_1
    rw [show spF u (scF v g) = u 2 from by unfold scF; rw [if_neg c_130]; rfl] at hr_142_1
    subst hr_142_1
    refine lv_iload hx hb dL_told_145 (lv_at hl 0 rfl) ?_
    refine lv_if_eq (tgt := 158) hx hb dL_told_147 (by decide) (fun h9 => absurd h9 (by decide)) (fun _ => ?_)
    refine lv_aload_n hx hb dL_told_150 rfl (lv_at hl 5 rfl) ?_
    refine lv_iconst (v := 2) hx hb dL_told_151 (by decide) ?_
    refine lr_f (rL (rest := [.float (u 2)]) ⟨hx, hb, hml, hown, hts⟩ (LB_speed l G cA A o (u, v, f, g, L) n K ch 2) (cwV 1 hts gL_told_X8_speed rfl rfl rfl mdX8_speed ⟨Nat.le_of_ble_eq_true rfl, Nat.le_of_ble_eq_true rfl⟩) hA hL rfl hl rfl (Nat.le_of_ble_eq_true rfl) dL_told_152 ⟨Nat.le_of_ble_eq_true rfl, Nat.le_of_ble_eq_true rfl⟩) hA hL (fun r_152 H locs hr_152 hA hL => ?_)
    replace hr_152 : r_152 = u 2 := hr_152
    subst hr_152
    refine lv_goto (tgt := 163) hx hb dL_told_155 (by decide) ?_
    refine lv_fcmp hx hb dL_told_163 ?_
    refine lv_if_ne (tgt := 213) hx hb dL_told_164 (by decide) (fun c_164_1 => absurd hT.2.2.2.2.1.2 c_164_1) (fun c_164_1 => ?_)
    refine lv_aload_n hx hb dL_told_167 rfl (lv_at hl 5 rfl) ?_
    refine lv_iconst (v := 4) hx hb dL_told_168 (by decide) ?_
    refine lr_f (rL (rest := []) ⟨hx, hb, hml, hown, hts⟩ (LB_speed l G cA A o (u, v, f, g, L) n K ch 4) (cwV 1 hts gL_told_X8_speed rfl rfl rfl mdX8_speed ⟨Nat.le_of_ble_eq_true rfl, Nat.le_of_ble_eq_true rfl⟩) hA hL rfl hl rfl (Nat.le_of_ble_eq_true rfl) dL_told_169 ⟨Nat.le_of_ble_eq_true rfl, Nat.le_of_ble_eq_true rfl⟩) hA hL (fun r_169_1 H locs hr_169_1 hA hL => ?_)
    replace hr_169_1 : r_169_1 = nanF := hr_169_1
    subst hr_169_1
    refine lr_i (rS (rest := []) ⟨hx, hb, hml, hown, hts⟩ (cL_isNone_ok l G cA nanF) (va_cwS 1 hts gL_told_L_isNone rfl rfl rfl mdL_isNone.2 ⟨Nat.le_of_ble_eq_true rfl, Nat.le_of_ble_eq_true rfl⟩) hA.1 empP empD rfl hl rfl (Nat.le_of_ble_eq_true rfl) dL_told_172 ⟨Nat.le_of_ble_eq_true rfl, Nat.le_of_ble_eq_true rfl⟩) hA hL (fun r_172_1 H locs hr_172_1 hA hL => ?_)
    rw [nn_nan] at hr_172_1
    subst hr_172_1
    refine lv_if_eq (tgt := 213) hx hb dL_told_175 (by decide) (fun h9 => absurd h9 (by decide)) (fun _ => ?_)
    refine lv_aload_n hx hb dL_told_178 rfl (lv_at hl 5 rfl) ?_
    refine lv_iconst (v := 4) hx hb dL_told_179 (by decide) ?_
    refine lr_f (rL (rest := []) ⟨hx, hb, hml, hown, hts⟩ (LB_weight l G cA A o (u, v, f, g, L) n K ch 4 ) (cwV 1 hts gL_told_X8_weight rfl rfl rfl mdX8_weight ⟨Nat.le_of_ble_eq_true rfl, Nat.le_of_ble_eq_true rfl⟩) hA hL rfl hl rfl (Nat.le_of_ble_eq_true rfl) dL_told_180 ⟨Nat.le_of_ble_eq_true rfl, Nat.le_of_ble_eq_true rfl⟩) hA hL (fun r_180_1 H locs hr_180_1 hA hL => ?_)
    replace hr_180_1 : r_180_1 = nanF := hr_180_1
    subst hr_180_1
    refine lr_i (rS (rest := []) ⟨hx, hb, hml, hown, hts⟩ (cL_isNone_ok l G cA nanF) (va_cwS 1 hts gL_told_L_isNone rfl rfl rfl mdL_isNone.2 ⟨Nat.le_of_ble_eq_true rfl, Nat.le_of_ble_eq_true rfl⟩) hA.1 empP empD rfl hl rfl (Nat.le_of_ble_eq_true rfl) dL_told_183 ⟨Nat.le_of_ble_eq_true rfl, Nat.le_of_ble_eq_true rfl⟩) hA hL (fun r_183_1 H locs hr_183_1 hA hL => ?_)
    rw [nn_nan] at hr_183_1
    subst hr_183_1
    refine lv_if_eq (tgt := 213) hx hb dL_told_186 (by decide) (fun h9 => absurd h9 (by decide)) (fun _ => ?_)
    refine lv_aload_n hx hb dL_told_189 rfl (lv_at hl 5 rfl) ?_
    refine lv_iconst (v := (-1)) hx hb dL_told_190 (by decide) ?_
    refine lr_f (rL (rest := []) ⟨hx, hb, hml, hown, hts⟩ (LB_score l G cA A o (u, v, f, g, L) n K ch (-1) hLk (fun h9 => absurd (by decide) h9)) (cwV 1 hts gL_told_X8_score rfl rfl rfl mdX8_score ⟨Nat.le_of_ble_eq_true rfl, Nat.le_of_ble_eq_true rfl⟩) hA hL rfl hl rfl (Nat.le_of_ble_eq_true rfl) dL_told_191 ⟨Nat.le_of_ble_eq_true rfl, Nat.le_of_ble_eq_true rfl⟩) hA hL (fun r_191_1 H locs hr_191_1 hA hL => ?_)
    replace hr_191_1 : r_191_1 = nanF := hr_191_1
    subst hr_191_1
    refine lr_i (rS (rest := []) ⟨hx, hb, hml, hown, hts⟩ (cL_isNone_ok l G cA nanF) (va_cwS 1 hts gL_told_L_isNone rfl rfl rfl mdL_isNone.2 ⟨Nat.le_of_ble_eq_true rfl, Nat.le_of_ble_eq_true rfl⟩) hA.1 empP empD rfl hl rfl (Nat.le_of_ble_eq_true rfl) dL_told_194 ⟨Nat.le_of_ble_eq_true rfl, Nat.le_of_ble_eq_true rfl⟩) hA hL (fun r_194_1 H locs hr_194_1 hA hL => ?_)
    rw [nn_nan] at hr_194_1
    subst hr_194_1
    refine lv_if_eq (tgt := 213) hx hb dL_told_197 (by decide) (fun h9 => absurd h9 (by decide)) (fun _ => ?_)
    refine lv_aload_n hx hb dL_told_200 rfl (lv_at hl 5 rfl) ?_
    refine lv_iconst (v := 5) hx hb dL_told_201 (by decide) ?_
    refine lr_i (rL (rest := []) ⟨hx, hb, hml, hown, hts⟩ (LB_number l G cA A o (u, v, f, g, L) n K ch 5 ) (cwV 1 hts gL_told_X8_number rfl rfl rfl mdX8_number ⟨Nat.le_of_ble_eq_true rfl, Nat.le_of_ble_eq_true rfl⟩) hA hL rfl hl rfl (Nat.le_of_ble_eq_true rfl) dL_told_202 ⟨Nat.le_of_ble_eq_true rfl, Nat.le_of_ble_eq_true rfl⟩) hA hL (fun r_202_1 H locs hr_202_1 hA hL => ?_)
    replace hr_202_1 : r_202_1 = (-1) := hr_202_1
    subst hr_202_1
    refine lv_iconst (v := (-1)) hx hb dL_told_205 (by decide) ?_
    refine lv_icmp_ne (tgt := 213) hx hb dL_told_206 (by decide) (fun h9 => absurd (by decide) h9) (fun _ => ?_)
    refine lv_iconst (v := 1) hx hb dL_told_209 (by decide) ?_
    refine lv_goto (tgt := 214) hx hb dL_told_210 (by decide) ?_
    refine lv_istore (lv' := [(6, .int 1), (5, .int 1), (4, .int 1), (3, .int 1), (2, .float (f 7)), (1, .int 0), (0, .ref o)]) hx hb dL_told_214 hl (by decide) rfl (fun ls hl => ?_)
    refine lv_aload_n hx hb dL_told_216 rfl (lv_at hl 6 rfl) ?_
    refine lv_iconst (v := 1) hx hb dL_told_217 (by decide) ?_
    refine lr_i (rL (rest := []) ⟨hx, hb, hml, hown, hts⟩ (LB_count l G cA A o (u, v, f, g, L) n K ch 1 ) (cwV 1 hts gL_told_X8_count rfl rfl rfl mdX8_count ⟨Nat.le_of_ble_eq_true rfl, Nat.le_of_ble_eq_true rfl⟩) hA hL rfl hl rfl (Nat.le_of_ble_eq_true rfl) dL_told_218 ⟨Nat.le_of_ble_eq_true rfl, Nat.le_of_ble_eq_true rfl⟩) hA hL (fun r_218_1 H locs hr_218_1 hA hL => ?_)
    replace hr_218_1 : r_218_1 = g 19 := hr_218_1
    subst hr_218_1
    refine lv_aload_n hx hb dL_told_221 rfl (lv_at hl 6 rfl) ?_
    refine lv_iconst (v := 2) hx hb dL_told_222 (by decide) ?_
    refine lr_i (rL (rest := [.int (g 19)]) ⟨hx, hb, hml, hown, hts⟩ (LB_count l G cA A o (u, v, f, g, L) n K ch 2 ) (cwV 1 hts gL_told_X8_count rfl rfl rfl mdX8_count ⟨Nat.le_of_ble_eq_true rfl, Nat.le_of_ble_eq_true rfl⟩) hA hL rfl hl rfl (Nat.le_of_ble_eq_true rfl) dL_told_223 ⟨Nat.le_of_ble_eq_true rfl, Nat.le_of_ble_eq_true rfl⟩) hA hL (fun r_223_1 H locs hr_223_1 hA hL => ?_)
    replace hr_223_1 : r_223_1 = g 20 := hr_223_1
    subst hr_223_1
    refine lv_iadd hx hb dL_told_226 ?_
    refine lv_aload_n hx hb dL_told_227 rfl (lv_at hl 6 rfl) ?_
    refine lv_iconst (v := 3) hx hb dL_told_228 (by decide) ?_
    refine lr_i (rL (rest := [.int ((g 19) + (g 20))]) ⟨hx, hb, hml, hown, hts⟩ (LB_count l G cA A o (u, v, f, g, L) n K ch 3 ) (cwV 1 hts gL_told_X8_count rfl rfl rfl mdX8_count ⟨Nat.le_of_ble_eq_true rfl, Nat.le_of_ble_eq_true rfl⟩) hA hL rfl hl rfl (Nat.le_of_ble_eq_true rfl) dL_told_229 ⟨Nat.le_of_ble_eq_true rfl, Nat.le_of_ble_eq_true rfl⟩) hA hL (fun r_229_1 H locs hr_229_1 hA hL => ?_)
    replace hr_229_1 : r_229_1 = g 21 := hr_229_1
    subst hr_229_1
    refine lv_iadd hx hb dL_told_232 ?_
    refine lv_aload_n hx hb dL_told_233 rfl (lv_at hl 6 rfl) ?_
    refine lv_iconst (v := 4) hx hb dL_told_234 (by decide) ?_
    refine lr_i (rL (rest := [.int (((g 19) + (g 20)) + (g 21))]) ⟨hx, hb, hml, hown, hts⟩ (LB_count l G cA A o (u, v, f, g, L) n K ch 4 ) (cwV 1 hts gL_told_X8_count rfl rfl rfl mdX8_count ⟨Nat.le_of_ble_eq_true rfl, Nat.le_of_ble_eq_true rfl⟩) hA hL rfl hl rfl (Nat.le_of_ble_eq_true rfl) dL_told_235 ⟨Nat.le_of_ble_eq_true rfl, Nat.le_of_ble_eq_true rfl⟩) hA hL (fun r_235_1 H locs hr_235_1 hA hL => ?_)
    replace hr_235_1 : r_235_1 = g 22 := hr_235_1
    subst hr_235_1
    refine lv_iadd hx hb dL_told_238 ?_
    rw [hJ]
    refine lv_istore (lv' := [(7, .int (nI J)), (6, .int 1), (5, .int 1), (4, .int 1), (3, .int 1), (2, .float (f 7)), (1, .int 0), (0, .ref o)]) hx hb dL_told_239 hl (by decide) rfl (fun ls hl => ?_)
    refine lv_iload hx hb dL_told_241 (lv_at hl 0 rfl) ?_
    refine lv_bipush (v := 10) hx hb dL_told_243 (by decide) ?_
    refine lv_icmp_ge (tgt := 253) hx hb dL_told_245 (by decide) (fun c_245_1 => ?_) (fun c_245_1 => ?_)
    · skip
      refine lv_bipush (v := 10) hx hb dL_told_253 (by decide) ?_
      have hRR : R = 10 := by rw [hRd, if_neg (by have := (nI_leI (a := 10) (b := J) (by decide) hJ31).mp c_245_1; omega)]
      refine W.eq (g2 := F0 m 255 ls [.int (nI R)]) (by rw [hRR]; rfl) ?_
      refine lv_istore (lv' := [(8, .int (nI R)), (7, .int (nI J)), (6, .int 1), (5, .int 1), (4, .int 1), (3, .int 1), (2, .float (f 7)), (1, .int 0), (0, .ref o)]) hx hb dL_told_255 hl (by decide) rfl (fun ls hl => ?_)
      refine lv_iconst (v := 0) hx hb dL_told_257 (by decide) ?_
      refine lv_istore (lv' := [(9, .int 0), (8, .int (nI R)), (7, .int (nI J)), (6, .int 1), (5, .int 1), (4, .int 1), (3, .int 1), (2, .float (f 7)), (1, .int 0), (0, .ref o)]) hx hb dL_told_258 hl (by decide) rfl (fun ls hl => ?_)
      obtain ⟨i, hi0⟩ : ∃ i : Nat, i = 0 := ⟨_, rfl⟩
      replace hl : lv_has ls 12 [(9, .int (nI i)), (8, .int (nI R)), (7, .int (nI J)), (6, .int 1), (5, .int 1), (4, .int 1), (3, .int 1), (2, .float (f 7)), (1, .int 0), (0, .ref o)] := by rw [hi0]; exact hl
      obtain ⟨nn, hn⟩ : ∃ nn : Nat, R < i + nn := ⟨R + 1, by omega⟩
      have hi : i ≤ R := by omega
      clear hi0
      revert hl
      revert hL
      revert hA
      revert hi
      revert hn
      revert ls
      revert locs
      revert H
      revert i
      induction nn with
      | zero => intro i H locs ls hn hi; exact absurd hn (by omega)
      | succ nn ih =>
        intro i H locs ls hn hi hA hL hl
        refine lv_iload hx hb dL_told_260 (lv_at hl 0 rfl) ?_
        refine lv_iload hx hb dL_told_262 (lv_at hl 1 rfl) ?_
        refine lv_icmp_ge (tgt := 403) hx hb dL_told_264 (by decide) (fun c_264_2 => ?_) (fun c_264_2 => ?_)
        · skip
          obtain rfl : R = i := (eq_of_le hi (by omega) c_264_2).symm
          refine lv_iload_n hx hb dL_told_403 rfl (lv_at hl 6 rfl) ?_
          refine lv_if_eq (tgt := 462) hx hb dL_told_404 (by decide) (fun h9 => absurd h9 (by decide)) (fun _ => ?_)
          refine lv_iload hx hb dL_told_407 (lv_at hl 5 rfl) ?_
          refine lv_if_eq (tgt := 462) hx hb dL_told_409 (by decide) (fun h9 => absurd h9 (by decide)) (fun _ => ?_)
          refine lv_iload hx hb dL_told_412 (lv_at hl 3 rfl) ?_
          refine lv_if_eq (tgt := 462) hx hb dL_told_414 (by decide) (fun h9 => absurd h9 (by decide)) (fun _ => ?_)
          refine lv_aload_n hx hb dL_told_417 rfl (lv_at hl 9 rfl) ?_
          refine lv_iload hx hb dL_told_418 (lv_at hl 1 rfl) ?_
          refine lv_iconst (v := 0) hx hb dL_told_420 (by decide) ?_
          refine lr_i (rL (rest := []) ⟨hx, hb, hml, hown, hts⟩ (LB_judged l G cA A o (u, v, f, g, L) n K ch (nI R) 0 ) (cwV 2 hts gL_told_X8_judged rfl rfl rfl mdX8_judged ⟨Nat.le_of_ble_eq_true rfl, Nat.le_of_ble_eq_true rfl⟩) hA hL rfl hl rfl (Nat.le_of_ble_eq_true rfl) dL_told_421 ⟨Nat.le_of_ble_eq_true rfl, Nat.le_of_ble_eq_true rfl⟩) hA hL (fun r_421_2 H locs hr_421_2 hA hL => ?_)
          rw [ju_end hR10 h18] at hr_421_2
          subst hr_421_2
          refine lv_bipush (v := (-5)) hx hb dL_told_424 (by decide) ?_
          refine lv_icmp_ne (tgt := 462) hx hb dL_told_426 (by decide) (fun h9 => absurd (by decide) h9) (fun _ => ?_)
          refine lv_aload_n hx hb dL_told_429 rfl (lv_at hl 9 rfl) ?_
          refine lv_iconst (v := (-1)) hx hb dL_told_430 (by decide) ?_
          refine lv_iconst (v := 0) hx hb dL_told_431 (by decide) ?_
          refine lr_i (rL (rest := []) ⟨hx, hb, hml, hown, hts⟩ (LB_judged l G cA A o (u, v, f, g, L) n K ch (-1) 0 ) (cwV 2 hts gL_told_X8_judged rfl rfl rfl mdX8_judged ⟨Nat.le_of_ble_eq_true rfl, Nat.le_of_ble_eq_true rfl⟩) hA hL rfl hl rfl (Nat.le_of_ble_eq_true rfl) dL_told_432 ⟨Nat.le_of_ble_eq_true rfl, Nat.le_of_ble_eq_true rfl⟩) hA hL (fun r_432_2 H locs hr_432_2 hA hL => ?_)
          replace hr_432_2 : r_432_2 = (-2) := hr_432_2
          subst hr_432_2
          refine lv_bipush (v := (-2)) hx hb dL_told_435 (by decide) ?_
          refine lv_icmp_ne (tgt := 462) hx hb dL_told_437 (by decide) (fun h9 => absurd (by decide) h9) (fun _ => ?_)
          refine lv_aload_n hx hb dL_told_440 rfl (lv_at hl 9 rfl) ?_
          refine lv_iconst (v := 0) hx hb dL_told_441 (by decide) ?_
          refine lv_iconst (v := 5) hx hb dL_told_442 (by decide) ?_
          refine lr_i (rL (rest := []) ⟨hx, hb, hml, hown, hts⟩ (LB_judged l G cA A o (u, v, f, g, L) n K ch 0 5 ) (cwV 2 hts gL_told_X8_judged rfl rfl rfl mdX8_judged ⟨Nat.le_of_ble_eq_true rfl, Nat.le_of_ble_eq_true rfl⟩) hA hL rfl hl rfl (Nat.le_of_ble_eq_true rfl) dL_told_443 ⟨Nat.le_of_ble_eq_true rfl, Nat.le_of_ble_eq_true rfl⟩) hA hL (fun r_443_2 H locs hr_443_2 hA hL => ?_)
          replace hr_443_2 : r_443_2 = (-2) := hr_443_2
          subst hr_443_2
          refine lv_bipush (v := (-2)) hx hb dL_told_446 (by decide) ?_
          refine lv_icmp_ne (tgt := 462) hx hb dL_told_448 (by decide) (fun h9 => absurd (by decide) h9) (fun _ => ?_)
          refine lv_aload_n hx hb dL_told_451 rfl (lv_at hl 9 rfl) ?_
          refine lw_i (rLS (rest := []) ⟨hx, hb, hml, hown, hts⟩ (hTh) (va_cwS 1 hts gL_told_L_thing rfl rfl rfl mdL_thing.2 ⟨Nat.le_of_ble_eq_true rfl, Nat.le_of_ble_eq_true rfl⟩) hA hL rfl hl rfl (Nat.le_of_ble_eq_true rfl) dL_told_452 ⟨Nat.le_of_ble_eq_true rfl, Nat.le_of_ble_eq_true rfl⟩) hA (fun r_452_2 _ H locs hr_452_2 hA hL => ?_)
          replace hL : LB G cA A o (u, v, f, g, L) n K ch H := hL
          subst hr_452_2
          refine lv_if_eq (tgt := 462) hx hb dL_told_455 (by decide) (fun h9 => absurd h9 (by decide)) (fun _ => ?_)
          refine lv_iconst (v := 1) hx hb dL_told_458 (by decide) ?_
          refine lv_goto (tgt := 463) hx hb dL_told_459 (by decide) ?_
          exact en_l (post := fun r (_ : Unit) => r = 1) (B := fun _ H => LB G cA A o (u, v, f, g, L) n K ch H) () hx hb hr hlocks hA rfl hL dL_told_463
        · skip
          have hlt : i < R := lt_of_nle hi (by omega) c_264_2
          have h8 := hT.2.2.2.2.2.2 i hlt
          refine lv_aload_n hx hb dL_told_267 rfl (lv_at hl 9 rfl) ?_
          refine lv_iload hx hb dL_told_268 (lv_at hl 0 rfl) ?_
          refine lv_iconst (v := 0) hx hb dL_told_270 (by decide) ?_
          refine lr_i (rL (rest := []) ⟨hx, hb, hml, hown, hts⟩ (LB_judged l G cA A o (u, v, f, g, L) n K ch (nI i) 0 ) (cwV 2 hts gL_told_X8_judged rfl rfl rfl mdX8_judged ⟨Nat.le_of_ble_eq_true rfl, Nat.le_of_ble_eq_true rfl⟩) hA hL rfl hl rfl (Nat.le_of_ble_eq_true rfl) dL_told_271 ⟨Nat.le_of_ble_eq_true rfl, Nat.le_of_ble_eq_true rfl⟩) hA hL (fun r_271_2 H locs hr_271_2 hA hL => ?_)
          replace hr_271_2 : r_271_2 = L (i * 5 + 0) := hr_271_2.trans (ju_at 0 (by decide) hlt hR10 h18)
          subst hr_271_2
          refine lv_if_lt (tgt := 326) hx hb dL_told_274 (by decide) (fun c_274_2 => absurd c_274_2 h8.1) (fun c_274_2 => ?_)
          refine lv_aload_n hx hb dL_told_277 rfl (lv_at hl 9 rfl) ?_
          refine lv_iload hx hb dL_told_278 (lv_at hl 0 rfl) ?_
          refine lv_iconst (v := 0) hx hb dL_told_280 (by decide) ?_
          refine lr_i (rL (rest := []) ⟨hx, hb, hml, hown, hts⟩ (LB_judged l G cA A o (u, v, f, g, L) n K ch (nI i) 0 ) (cwV 2 hts gL_told_X8_judged rfl rfl rfl mdX8_judged ⟨Nat.le_of_ble_eq_true rfl, Nat.le_of_ble_eq_true rfl⟩) hA hL rfl hl rfl (Nat.le_of_ble_eq_true rfl) dL_told_281 ⟨Nat.le_of_ble_eq_true rfl, Nat.le_of_ble_eq_true rfl⟩) hA hL (fun r_281_2 H locs hr_281_2 hA hL => ?_)
          replace hr_281_2 : r_281_2 = L (i * 5 + 0) := hr_281_2.trans (ju_at 0 (by decide) hlt hR10 h18)
          subst hr_281_2
          refine lv_iconst (v := 3) hx hb dL_told_284 (by decide) ?_
          refine lv_icmp_gt (tgt := 326) hx hb dL_told_285 (by decide) (fun c_285_2 => absurd c_285_2 h8.2.1) (fun c_285_2 => ?_)
          refine lv_aload_n hx hb dL_told_288 rfl (lv_at hl 9 rfl) ?_
          refine lv_iload hx hb dL_told_289 (lv_at hl 0 rfl) ?_
          refine lv_iconst (v := 2) hx hb dL_told_291 (by decide) ?_
          refine lr_i (rL (rest := []) ⟨hx, hb, hml, hown, hts⟩ (LB_judged l G cA A o (u, v, f, g, L) n K ch (nI i) 2 ) (cwV 2 hts gL_told_X8_judged rfl rfl rfl mdX8_judged ⟨Nat.le_of_ble_eq_true rfl, Nat.le_of_ble_eq_true rfl⟩) hA hL rfl hl rfl (Nat.le_of_ble_eq_true rfl) dL_told_292 ⟨Nat.le_of_ble_eq_true rfl, Nat.le_of_ble_eq_true rfl⟩) hA hL (fun r_292_2 H locs hr_292_2 hA hL => ?_)
          replace hr_292_2 : r_292_2 = L (i * 5 + 2) := hr_292_2.trans (ju_at 2 (by decide) hlt hR10 h18)
          subst hr_292_2
          refine lv_iconst (v := 1) hx hb dL_told_295 (by decide) ?_
          refine lv_icmp_lt (tgt := 326) hx hb dL_told_296 (by decide) (fun c_296_2 => absurd c_296_2 h8.2.2.1) (fun c_296_2 => ?_)
          refine lv_aload_n hx hb dL_told_299 rfl (lv_at hl 9 rfl) ?_
          refine lv_iload hx hb dL_told_300 (lv_at hl 0 rfl) ?_
          refine lv_iconst (v := 3) hx hb dL_told_302 (by decide) ?_
          refine lr_i (rL (rest := []) ⟨hx, hb, hml, hown, hts⟩ (LB_judged l G cA A o (u, v, f, g, L) n K ch (nI i) 3 ) (cwV 2 hts gL_told_X8_judged rfl rfl rfl mdX8_judged ⟨Nat.le_of_ble_eq_true rfl, Nat.le_of_ble_eq_true rfl⟩) hA hL rfl hl rfl (Nat.le_of_ble_eq_true rfl) dL_told_303 ⟨Nat.le_of_ble_eq_true rfl, Nat.le_of_ble_eq_true rfl⟩) hA hL (fun r_303_2 H locs hr_303_2 hA hL => ?_)
          replace hr_303_2 : r_303_2 = L (i * 5 + 3) := hr_303_2.trans (ju_at 3 (by decide) hlt hR10 h18)
          subst hr_303_2
          refine lv_iconst (v := 1) hx hb dL_told_306 (by decide) ?_
          refine lv_icmp_lt (tgt := 326) hx hb dL_told_307 (by decide) (fun c_307_2 => absurd c_307_2 h8.2.2.2.1) (fun c_307_2 => ?_)
          refine lv_aload_n hx hb dL_told_310 rfl (lv_at hl 9 rfl) ?_
          refine lv_iload hx hb dL_told_311 (lv_at hl 0 rfl) ?_
          refine lv_iconst (v := 3) hx hb dL_told_313 (by decide) ?_
          refine lr_i (rL (rest := []) ⟨hx, hb, hml, hown, hts⟩ (LB_judged l G cA A o (u, v, f, g, L) n K ch (nI i) 3 ) (cwV 2 hts gL_told_X8_judged rfl rfl rfl mdX8_judged ⟨Nat.le_of_ble_eq_true rfl, Nat.le_of_ble_eq_true rfl⟩) hA hL rfl hl rfl (Nat.le_of_ble_eq_true rfl) dL_told_314 ⟨Nat.le_of_ble_eq_true rfl, Nat.le_of_ble_eq_true rfl⟩) hA hL (fun r_314_2 H locs hr_314_2 hA hL => ?_)
          replace hr_314_2 : r_314_2 = L (i * 5 + 3) := hr_314_2.trans (ju_at 3 (by decide) hlt hR10 h18)
          subst hr_314_2
          refine lv_bipush (v := 7) hx hb dL_told_317 (by decide) ?_
          refine lv_icmp_gt (tgt := 326) hx hb dL_told_319 (by decide) (fun c_319_2 => absurd c_319_2 h8.2.2.2.2.1) (fun c_319_2 => ?_)
          refine lv_iconst (v := 1) hx hb dL_told_322 (by decide) ?_
          refine lv_goto (tgt := 327) hx hb dL_told_323 (by decide) ?_
          refine lv_istore (lv' := [(10, .int 1), (9, .int (nI i)), (8, .int (nI R)), (7, .int (nI J)), (6, .int 1), (5, .int 1), (4, .int 1), (3, .int 1), (2, .float (f 7)), (1, .int 0), (0, .ref o)]) hx hb dL_told_327 hl (by decide) rfl (fun ls hl => ?_)
          refine lv_aload_n hx hb dL_told_329 rfl (lv_at hl 10 rfl) ?_
          refine lv_iload hx hb dL_told_330 (lv_at hl 1 rfl) ?_
          refine lv_iconst (v := 4) hx hb dL_told_332 (by decide) ?_
          refine lr_i (rL (rest := []) ⟨hx, hb, hml, hown, hts⟩ (LB_judged l G cA A o (u, v, f, g, L) n K ch (nI i) 4 ) (cwV 2 hts gL_told_X8_judged rfl rfl rfl mdX8_judged ⟨Nat.le_of_ble_eq_true rfl, Nat.le_of_ble_eq_true rfl⟩) hA hL rfl hl rfl (Nat.le_of_ble_eq_true rfl) dL_told_333 ⟨Nat.le_of_ble_eq_true rfl, Nat.le_of_ble_eq_true rfl⟩) hA hL (fun r_333_2 H locs hr_333_2 hA hL => ?_)
          replace hr_333_2 : r_333_2 = L (i * 5 + 4) := hr_333_2.trans (ju_at 4 (by decide) hlt hR10 h18)
          subst hr_333_2
          refine lv_aload_n hx hb dL_told_336 rfl (lv_at hl 10 rfl) ?_
          refine lv_iload hx hb dL_told_337 (lv_at hl 1 rfl) ?_
          refine lv_iconst (v := 1) hx hb dL_told_339 (by decide) ?_
          refine lr_i (rL (rest := [.int (L (i * 5 + 4))]) ⟨hx, hb, hml, hown, hts⟩ (LB_judged l G cA A o (u, v, f, g, L) n K ch (nI i) 1 ) (cwV 2 hts gL_told_X8_judged rfl rfl rfl mdX8_judged ⟨Nat.le_of_ble_eq_true rfl, Nat.le_of_ble_eq_true rfl⟩) hA hL rfl hl rfl (Nat.le_of_ble_eq_true rfl) dL_told_340 ⟨Nat.le_of_ble_eq_true rfl, Nat.le_of_ble_eq_true rfl⟩) hA hL (fun r_340_2 H locs hr_340_2 hA hL => ?_)
          replace hr_340_2 : r_340_2 = L (i * 5 + 1) := hr_340_2.trans (ju_at 1 (by decide) hlt hR10 h18)
          subst hr_340_2
          refine lv_aload_n hx hb dL_told_343 rfl (lv_at hl 10 rfl) ?_
          refine lv_iload hx hb dL_told_344 (lv_at hl 1 rfl) ?_
          refine lv_iconst (v := 2) hx hb dL_told_346 (by decide) ?_
          refine lr_i (rL (rest := [.int (L (i * 5 + 1)), .int (L (i * 5 + 4))]) ⟨hx, hb, hml, hown, hts⟩ (LB_judged l G cA A o (u, v, f, g, L) n K ch (nI i) 2 ) (cwV 2 hts gL_told_X8_judged rfl rfl rfl mdX8_judged ⟨Nat.le_of_ble_eq_true rfl, Nat.le_of_ble_eq_true rfl⟩) hA hL rfl hl rfl (Nat.le_of_ble_eq_true rfl) dL_told_347 ⟨Nat.le_of_ble_eq_true rfl, Nat.le_of_ble_eq_true rfl⟩) hA hL (fun r_347_2 H locs hr_347_2 hA hL => ?_)
          replace hr_347_2 : r_347_2 = L (i * 5 + 2) := hr_347_2.trans (ju_at 2 (by decide) hlt hR10 h18)
          subst hr_347_2
          refine lv_iadd hx hb dL_told_350 ?_
          refine lv_icmp_lt (tgt := 382) hx hb dL_told_351 (by decide) (fun c_351_2 => absurd c_351_2 h8.2.2.2.2.2.1) (fun c_351_2 => ?_)
          refine lv_iload hx hb dL_told_354 (lv_at hl 1 rfl) ?_
          refine lv_if_eq (tgt := 378) hx hb dL_told_356 (by decide) (fun c_356_2 => ?_) (fun c_356_2 => ?_)
          · skip
            refine lv_iconst (v := 1) hx hb dL_told_378 (by decide) ?_
            refine lv_goto (tgt := 383) hx hb dL_told_379 (by decide) ?_
            refine lv_istore (lv' := [(11, .int 1), (10, .int 1), (9, .int (nI i)), (8, .int (nI R)), (7, .int (nI J)), (6, .int 1), (5, .int 1), (4, .int 1), (3, .int 1), (2, .float (f 7)), (1, .int 0), (0, .ref o)]) hx hb dL_told_383 hl (by decide) rfl (fun ls hl => ?_)
            refine lv_iload hx hb dL_told_385 (lv_at hl 1 rfl) ?_
            refine lv_if_eq (tgt := 395) hx hb dL_told_387 (by decide) (fun h9 => absurd h9 (by decide)) (fun _ => ?_)
            refine lv_iload hx hb dL_told_390 (lv_at hl 0 rfl) ?_
            refine lv_if_ne (tgt := 397) hx hb dL_told_392 (by decide) (fun _ => ?_) (fun h9 => absurd h9 (by decide))
            refine lv_iinc (v := ((nI i) + 1)) (lv' := [(9, .int ((nI i) + 1)), (11, .int 1), (10, .int 1), (8, .int (nI R)), (7, .int (nI J)), (6, .int 1), (5, .int 1), (4, .int 1), (3, .int 1), (2, .float (f 7)), (1, .int 0), (0, .ref o)]) hx hb dL_told_397 hl (k := 2) rfl rfl (by decide) rfl (fun ls hl => ?_)
            refine lv_goto (tgt := 260) hx hb dL_told_400 (by decide) ?_
            replace hl : lv_has ls 12 [(9, .int (nI (i + 1))), (11, .int 1), (10, .int 1), (8, .int (nI R)), (7, .int (nI J)), (6, .int 1), (5, .int 1), (4, .int 1), (3, .int 1), (2, .float (f 7)), (1, .int 0), (0, .ref o)] := by rw [← nI_1]; exact hl
            exact ih (i + 1) _ _ _ (by omega) (by omega) hA hL (lv_sub hl [0, 3, 4, 5, 6, 7, 8, 9, 10, 11] rfl)
          · skip
            refine lv_aload_n hx hb dL_told_359 rfl (lv_at hl 10 rfl) ?_
            refine lv_iload hx hb dL_told_360 (lv_at hl 1 rfl) ?_
            refine lv_iconst (v := 4) hx hb dL_told_362 (by decide) ?_
            refine lr_i (rL (rest := []) ⟨hx, hb, hml, hown, hts⟩ (LB_judged l G cA A o (u, v, f, g, L) n K ch (nI i) 4 ) (cwV 2 hts gL_told_X8_judged rfl rfl rfl mdX8_judged ⟨Nat.le_of_ble_eq_true rfl, Nat.le_of_ble_eq_true rfl⟩) hA hL rfl hl rfl (Nat.le_of_ble_eq_true rfl) dL_told_363 ⟨Nat.le_of_ble_eq_true rfl, Nat.le_of_ble_eq_true rfl⟩) hA hL (fun r_363_2 H locs hr_363_2 hA hL => ?_)
            replace hr_363_2 : r_363_2 = L (i * 5 + 4) := hr_363_2.trans (ju_at 4 (by decide) hlt hR10 h18)
            subst hr_363_2
            refine lv_aload_n hx hb dL_told_366 rfl (lv_at hl 10 rfl) ?_
            refine lv_iload hx hb dL_told_367 (lv_at hl 1 rfl) ?_
            refine lv_iconst (v := 1) hx hb dL_told_369 (by decide) ?_
            refine lv_isub hx hb dL_told_370 ?_
            refine lv_iconst (v := 1) hx hb dL_told_371 (by decide) ?_
            refine lr_i (rL (rest := [.int (L (i * 5 + 4))]) ⟨hx, hb, hml, hown, hts⟩ (LB_judged l G cA A o (u, v, f, g, L) n K ch ((nI i) - 1) 1 ) (cwV 2 hts gL_told_X8_judged rfl rfl rfl mdX8_judged ⟨Nat.le_of_ble_eq_true rfl, Nat.le_of_ble_eq_true rfl⟩) hA hL rfl hl rfl (Nat.le_of_ble_eq_true rfl) dL_told_372 ⟨Nat.le_of_ble_eq_true rfl, Nat.le_of_ble_eq_true rfl⟩) hA hL (fun r_372_2 H locs hr_372_2 hA hL => ?_)
            rw [(pred_of c_356_2).2] at hr_372_2
            replace hr_372_2 : r_372_2 = L ((i - 1) * 5 + 1) := hr_372_2.trans (ju_at 1 (by decide) (by omega) hR10 h18)
            subst hr_372_2
            refine lv_icmp_ge (tgt := 382) hx hb dL_told_375 (by decide) (fun c_375_2 => absurd c_375_2 (h8.2.2.2.2.2.2 (pred_of c_356_2).1)) (fun c_375_2 => ?_)
            refine lv_iconst (v := 1) hx hb dL_told_378 (by decide) ?_
            refine lv_goto (tgt := 383) hx hb dL_told_379 (by decide) ?_
            refine lv_istore (lv' := [(11, .int 1), (10, .int 1), (9, .int (nI i)), (8, .int (nI R)), (7, .int (nI J)), (6, .int 1), (5, .int 1), (4, .int 1), (3, .int 1), (2, .float (f 7)), (1, .int 0), (0, .ref o)]) hx hb dL_told_383 hl (by decide) rfl (fun ls hl => ?_)
            refine lv_iload hx hb dL_told_385 (lv_at hl 1 rfl) ?_
            refine lv_if_eq (tgt := 395) hx hb dL_told_387 (by decide) (fun h9 => absurd h9 (by decide)) (fun _ => ?_)
            refine lv_iload hx hb dL_told_390 (lv_at hl 0 rfl) ?_
            refine lv_if_ne (tgt := 397) hx hb dL_told_392 (by decide) (fun _ => ?_) (fun h9 => absurd h9 (by decide))
            refine lv_iinc (v := ((nI i) + 1)) (lv' := [(9, .int ((nI i) + 1)), (11, .int 1), (10, .int 1), (8, .int (nI R)), (7, .int (nI J)), (6, .int 1), (5, .int 1), (4, .int 1), (3, .int 1), (2, .float (f 7)), (1, .int 0), (0, .ref o)]) hx hb dL_told_397 hl (k := 2) rfl rfl (by decide) rfl (fun ls hl => ?_)
            refine lv_goto (tgt := 260) hx hb dL_told_400 (by decide) ?_
            replace hl : lv_has ls 12 [(9, .int (nI (i + 1))), (11, .int 1), (10, .int 1), (8, .int (nI R)), (7, .int (nI J)), (6, .int 1), (5, .int 1), (4, .int 1), (3, .int 1), (2, .float (f 7)), (1, .int 0), (0, .ref o)] := by rw [← nI_1]; exact hl
            exact ih (i + 1) _ _ _ (by omega) (by omega) hA hL (lv_sub hl [0, 3, 4, 5, 6, 7, 8, 9, 10, 11] rfl)
    · skip
      refine lv_iload hx hb dL_told_248 (lv_at hl 0 rfl) ?_
      refine lv_goto (tgt := 255) hx hb dL_told_250 (by decide) ?_
      have hRR : R = J := by rw [hRd, if_pos (Nat.lt_of_not_le (fun h9 => c_245_1 ((nI_leI (a := 10) (b := J) (by decide) hJ31).mpr h9)))]
      refine W.eq (g2 := F0 m 255 ls [.int (nI R)]) (by rw [hRR]) ?_
      refine lv_istore (lv' := [(8, .int (nI R)), (7, .int (nI J)), (6, .int 1), (5, .int 1), (4, .int 1), (3, .int 1), (2, .float (f 7)), (1, .int 0), (0, .ref o)]) hx hb dL_told_255 hl (by decide) rfl (fun ls hl => ?_)
      refine lv_iconst (v := 0) hx hb dL_told_257 (by decide) ?_
      refine lv_istore (lv' := [(9, .int 0), (8, .int (nI R)), (7, .int (nI J)), (6, .int 1), (5, .int 1), (4, .int 1), (3, .int 1), (2, .float (f 7)), (1, .int 0), (0, .ref o)]) hx hb dL_told_258 hl (by decide) rfl (fun ls hl => ?_)
      obtain ⟨i, hi0⟩ : ∃ i : Nat, i = 0 := ⟨_, rfl⟩
      replace hl : lv_has ls 12 [(9, .int (nI i)), (8, .int (nI R)), (7, .int (nI J)), (6, .int 1), (5, .int 1), (4, .int 1), (3, .int 1), (2, .float (f 7)), (1, .int 0), (0, .ref o)] := by rw [hi0]; exact hl
      obtain ⟨nn, hn⟩ : ∃ nn : Nat, R < i + nn := ⟨R + 1, by omega⟩
      have hi : i ≤ R := by omega
      clear hi0
      revert hl
      revert hL
      revert hA
      revert hi
      revert hn
      revert ls
      revert locs
      revert H
      revert i
      induction nn with
      | zero => intro i H locs ls hn hi; exact absurd hn (by omega)
      | succ nn ih =>
        intro i H locs ls hn hi hA hL hl
        refine lv_iload hx hb dL_told_260 (lv_at hl 0 rfl) ?_
        refine lv_iload hx hb dL_told_262 (lv_at hl 1 rfl) ?_
        refine lv_icmp_ge (tgt := 403) hx hb dL_told_264 (by decide) (fun c_264_3 => ?_) (fun c_264_3 => ?_)
        · skip
          obtain rfl : R = i := (eq_of_le hi (by omega) c_264_3).symm
          refine lv_iload_n hx hb dL_told_403 rfl (lv_at hl 6 rfl) ?_
          refine lv_if_eq (tgt := 462) hx hb dL_told_404 (by decide) (fun h9 => absurd h9 (by decide)) (fun _ => ?_)
          refine lv_iload hx hb dL_told_407 (lv_at hl 5 rfl) ?_
          refine lv_if_eq (tgt := 462) hx hb dL_told_409 (by decide) (fun h9 => absurd h9 (by decide)) (fun _ => ?_)
          refine lv_iload hx hb dL_told_412 (lv_at hl 3 rfl) ?_
          refine lv_if_eq (tgt := 462) hx hb dL_told_414 (by decide) (fun h9 => absurd h9 (by decide)) (fun _ => ?_)
          refine lv_aload_n hx hb dL_told_417 rfl (lv_at hl 9 rfl) ?_
          refine lv_iload hx hb dL_told_418 (lv_at hl 1 rfl) ?_
          refine lv_iconst (v := 0) hx hb dL_told_420 (by decide) ?_
          refine lr_i (rL (rest := []) ⟨hx, hb, hml, hown, hts⟩ (LB_judged l G cA A o (u, v, f, g, L) n K ch (nI R) 0 ) (cwV 2 hts gL_told_X8_judged rfl rfl rfl mdX8_judged ⟨Nat.le_of_ble_eq_true rfl, Nat.le_of_ble_eq_true rfl⟩) hA hL rfl hl rfl (Nat.le_of_ble_eq_true rfl) dL_told_421 ⟨Nat.le_of_ble_eq_true rfl, Nat.le_of_ble_eq_true rfl⟩) hA hL (fun r_421_3 H locs hr_421_3 hA hL => ?_)
          rw [ju_end hR10 h18] at hr_421_3
          subst hr_421_3
          refine lv_bipush (v := (-5)) hx hb dL_told_424 (by decide) ?_
          refine lv_icmp_ne (tgt := 462) hx hb dL_told_426 (by decide) (fun h9 => absurd (by decide) h9) (fun _ => ?_)
          refine lv_aload_n hx hb dL_told_429 rfl (lv_at hl 9 rfl) ?_
          refine lv_iconst (v := (-1)) hx hb dL_told_430 (by decide) ?_
          refine lv_iconst (v := 0) hx hb dL_told_431 (by decide) ?_
          refine lr_i (rL (rest := []) ⟨hx, hb, hml, hown, hts⟩ (LB_judged l G cA A o (u, v, f, g, L) n K ch (-1) 0 ) (cwV 2 hts gL_told_X8_judged rfl rfl rfl mdX8_judged ⟨Nat.le_of_ble_eq_true rfl, Nat.le_of_ble_eq_true rfl⟩) hA hL rfl hl rfl (Nat.le_of_ble_eq_true rfl) dL_told_432 ⟨Nat.le_of_ble_eq_true rfl, Nat.le_of_ble_eq_true rfl⟩) hA hL (fun r_432_3 H locs hr_432_3 hA hL => ?_)
          replace hr_432_3 : r_432_3 = (-2) := hr_432_3
          subst hr_432_3
          refine lv_bipush (v := (-2)) hx hb dL_told_435 (by decide) ?_
          refine lv_icmp_ne (tgt := 462) hx hb dL_told_437 (by decide) (fun h9 => absurd (by decide) h9) (fun _ => ?_)
          refine lv_aload_n hx hb dL_told_440 rfl (lv_at hl 9 rfl) ?_
          refine lv_iconst (v := 0) hx hb dL_told_441 (by decide) ?_
          refine lv_iconst (v := 5) hx hb dL_told_442 (by decide) ?_
          refine lr_i (rL (rest := []) ⟨hx, hb, hml, hown, hts⟩ (LB_judged l G cA A o (u, v, f, g, L) n K ch 0 5 ) (cwV 2 hts gL_told_X8_judged rfl rfl rfl mdX8_judged ⟨Nat.le_of_ble_eq_true rfl, Nat.le_of_ble_eq_true rfl⟩) hA hL rfl hl rfl (Nat.le_of_ble_eq_true rfl) dL_told_443 ⟨Nat.le_of_ble_eq_true rfl, Nat.le_of_ble_eq_true rfl⟩) hA hL (fun r_443_3 H locs hr_443_3 hA hL => ?_)
          replace hr_443_3 : r_443_3 = (-2) := hr_443_3
          subst hr_443_3
          refine lv_bipush (v := (-2)) hx hb dL_told_446 (by decide) ?_
          refine lv_icmp_ne (tgt := 462) hx hb dL_told_448 (by decide) (fun h9 => absurd (by decide) h9) (fun _ => ?_)
          refine lv_aload_n hx hb dL_told_451 rfl (lv_at hl 9 rfl) ?_
          refine lw_i (rLS (rest := []) ⟨hx, hb, hml, hown, hts⟩ (hTh) (va_cwS 1 hts gL_told_L_thing rfl rfl rfl mdL_thing.2 ⟨Nat.le_of_ble_eq_true rfl, Nat.le_of_ble_eq_true rfl⟩) hA hL rfl hl rfl (Nat.le_of_ble_eq_true rfl) dL_told_452 ⟨Nat.le_of_ble_eq_true rfl, Nat.le_of_ble_eq_true rfl⟩) hA (fun r_452_3 _ H locs hr_452_3 hA hL => ?_)
          replace hL : LB G cA A o (u, v, f, g, L) n K ch H := hL
          subst hr_452_3
          refine lv_if_eq (tgt := 462) hx hb dL_told_455 (by decide) (fun h9 => absurd h9 (by decide)) (fun _ => ?_)
          refine lv_iconst (v := 1) hx hb dL_told_458 (by decide) ?_
          refine lv_goto (tgt := 463) hx hb dL_told_459 (by decide) ?_
          exact en_l (post := fun r (_ : Unit) => r = 1) (B := fun _ H => LB G cA A o (u, v, f, g, L) n K ch H) () hx hb hr hlocks hA rfl hL dL_told_463
        · skip
          have hlt : i < R := lt_of_nle hi (by omega) c_264_3
          have h8 := hT.2.2.2.2.2.2 i hlt
          refine lv_aload_n hx hb dL_told_267 rfl (lv_at hl 9 rfl) ?_
          refine lv_iload hx hb dL_told_268 (lv_at hl 0 rfl) ?_
          refine lv_iconst (v := 0) hx hb dL_told_270 (by decide) ?_
          refine lr_i (rL (rest := []) ⟨hx, hb, hml, hown, hts⟩ (LB_judged l G cA A o (u, v, f, g, L) n K ch (nI i) 0 ) (cwV 2 hts gL_told_X8_judged rfl rfl rfl mdX8_judged ⟨Nat.le_of_ble_eq_true rfl, Nat.le_of_ble_eq_true rfl⟩) hA hL rfl hl rfl (Nat.le_of_ble_eq_true rfl) dL_told_271 ⟨Nat.le_of_ble_eq_true rfl, Nat.le_of_ble_eq_true rfl⟩) hA hL (fun r_271_3 H locs hr_271_3 hA hL => ?_)
          replace hr_271_3 : r_271_3 = L (i * 5 + 0) := hr_271_3.trans (ju_at 0 (by decide) hlt hR10 h18)
          subst hr_271_3
          refine lv_if_lt (tgt := 326) hx hb dL_told_274 (by decide) (fun c_274_3 => absurd c_274_3 h8.1) (fun c_274_3 => ?_)
          refine lv_aload_n hx hb dL_told_277 rfl (lv_at hl 9 rfl) ?_
          refine lv_iload hx hb dL_told_278 (lv_at hl 0 rfl) ?_
          refine lv_iconst (v := 0) hx hb dL_told_280 (by decide) ?_
          refine lr_i (rL (rest := []) ⟨hx, hb, hml, hown, hts⟩ (LB_judged l G cA A o (u, v, f, g, L) n K ch (nI i) 0 ) (cwV 2 hts gL_told_X8_judged rfl rfl rfl mdX8_judged ⟨Nat.le_of_ble_eq_true rfl, Nat.le_of_ble_eq_true rfl⟩) hA hL rfl hl rfl (Nat.le_of_ble_eq_true rfl) dL_told_281 ⟨Nat.le_of_ble_eq_true rfl, Nat.le_of_ble_eq_true rfl⟩) hA hL (fun r_281_3 H locs hr_281_3 hA hL => ?_)
          replace hr_281_3 : r_281_3 = L (i * 5 + 0) := hr_281_3.trans (ju_at 0 (by decide) hlt hR10 h18)
          subst hr_281_3
          refine lv_iconst (v := 3) hx hb dL_told_284 (by decide) ?_
          refine lv_icmp_gt (tgt := 326) hx hb dL_told_285 (by decide) (fun c_285_3 => absurd c_285_3 h8.2.1) (fun c_285_3 => ?_)
          refine lv_aload_n hx hb dL_told_288 rfl (lv_at hl 9 rfl) ?_
          refine lv_iload hx hb dL_told_289 (lv_at hl 0 rfl) ?_
          refine lv_iconst (v := 2) hx hb dL_told_291 (by decide) ?_
          refine lr_i (rL (rest := []) ⟨hx, hb, hml, hown, hts⟩ (LB_judged l G cA A o (u, v, f, g, L) n K ch (nI i) 2 ) (cwV 2 hts gL_told_X8_judged rfl rfl rfl mdX8_judged ⟨Nat.le_of_ble_eq_true rfl, Nat.le_of_ble_eq_true rfl⟩) hA hL rfl hl rfl (Nat.le_of_ble_eq_true rfl) dL_told_292 ⟨Nat.le_of_ble_eq_true rfl, Nat.le_of_ble_eq_true rfl⟩) hA hL (fun r_292_3 H locs hr_292_3 hA hL => ?_)
          replace hr_292_3 : r_292_3 = L (i * 5 + 2) := hr_292_3.trans (ju_at 2 (by decide) hlt hR10 h18)
          subst hr_292_3
          refine lv_iconst (v := 1) hx hb dL_told_295 (by decide) ?_
          refine lv_icmp_lt (tgt := 326) hx hb dL_told_296 (by decide) (fun c_296_3 => absurd c_296_3 h8.2.2.1) (fun c_296_3 => ?_)
          refine lv_aload_n hx hb dL_told_299 rfl (lv_at hl 9 rfl) ?_
          refine lv_iload hx hb dL_told_300 (lv_at hl 0 rfl) ?_
          refine lv_iconst (v := 3) hx hb dL_told_302 (by decide) ?_
          refine lr_i (rL (rest := []) ⟨hx, hb, hml, hown, hts⟩ (LB_judged l G cA A o (u, v, f, g, L) n K ch (nI i) 3 ) (cwV 2 hts gL_told_X8_judged rfl rfl rfl mdX8_judged ⟨Nat.le_of_ble_eq_true rfl, Nat.le_of_ble_eq_true rfl⟩) hA hL rfl hl rfl (Nat.le_of_ble_eq_true rfl) dL_told_303 ⟨Nat.le_of_ble_eq_true rfl, Nat.le_of_ble_eq_true rfl⟩) hA hL (fun r_303_3 H locs hr_303_3 hA hL => ?_)
          replace hr_303_3 : r_303_3 = L (i * 5 + 3) := hr_303_3.trans (ju_at 3 (by decide) hlt hR10 h18)
          subst hr_303_3
          refine lv_iconst (v := 1) hx hb dL_told_306 (by decide) ?_
          refine lv_icmp_lt (tgt := 326) hx hb dL_told_307 (by decide) (fun c_307_3 => absurd c_307_3 h8.2.2.2.1) (fun c_307_3 => ?_)
          refine lv_aload_n hx hb dL_told_310 rfl (lv_at hl 9 rfl) ?_
          refine lv_iload hx hb dL_told_311 (lv_at hl 0 rfl) ?_
          refine lv_iconst (v := 3) hx hb dL_told_313 (by decide) ?_
          refine lr_i (rL (rest := []) ⟨hx, hb, hml, hown, hts⟩ (LB_judged l G cA A o (u, v, f, g, L) n K ch (nI i) 3 ) (cwV 2 hts gL_told_X8_judged rfl rfl rfl mdX8_judged ⟨Nat.le_of_ble_eq_true rfl, Nat.le_of_ble_eq_true rfl⟩) hA hL rfl hl rfl (Nat.le_of_ble_eq_true rfl) dL_told_314 ⟨Nat.le_of_ble_eq_true rfl, Nat.le_of_ble_eq_true rfl⟩) hA hL (fun r_314_3 H locs hr_314_3 hA hL => ?_)
          replace hr_314_3 : r_314_3 = L (i * 5 + 3) := hr_314_3.trans (ju_at 3 (by decide) hlt hR10 h18)
          subst hr_314_3
          refine lv_bipush (v := 7) hx hb dL_told_317 (by decide) ?_
          refine lv_icmp_gt (tgt := 326) hx hb dL_told_319 (by decide) (fun c_319_3 => absurd c_319_3 h8.2.2.2.2.1) (fun c_319_3 => ?_)
          refine lv_iconst (v := 1) hx hb dL_told_322 (by decide) ?_
          refine lv_goto (tgt := 327) hx hb dL_told_323 (by decide) ?_
          refine lv_istore (lv' := [(10, .int 1), (9, .int (nI i)), (8, .int (nI R)), (7, .int (nI J)), (6, .int 1), (5, .int 1), (4, .int 1), (3, .int 1), (2, .float (f 7)), (1, .int 0), (0, .ref o)]) hx hb dL_told_327 hl (by decide) rfl (fun ls hl => ?_)
          refine lv_aload_n hx hb dL_told_329 rfl (lv_at hl 10 rfl) ?_
          refine lv_iload hx hb dL_told_330 (lv_at hl 1 rfl) ?_
          refine lv_iconst (v := 4) hx hb dL_told_332 (by decide) ?_
          refine lr_i (rL (rest := []) ⟨hx, hb, hml, hown, hts⟩ (LB_judged l G cA A o (u, v, f, g, L) n K ch (nI i) 4 ) (cwV 2 hts gL_told_X8_judged rfl rfl rfl mdX8_judged ⟨Nat.le_of_ble_eq_true rfl, Nat.le_of_ble_eq_true rfl⟩) hA hL rfl hl rfl (Nat.le_of_ble_eq_true rfl) dL_told_333 ⟨Nat.le_of_ble_eq_true rfl, Nat.le_of_ble_eq_true rfl⟩) hA hL (fun r_333_3 H locs hr_333_3 hA hL => ?_)
          replace hr_333_3 : r_333_3 = L (i * 5 + 4) := hr_333_3.trans (ju_at 4 (by decide) hlt hR10 h18)
          subst hr_333_3
          refine lv_aload_n hx hb dL_told_336 rfl (lv_at hl 10 rfl) ?_
          refine lv_iload hx hb dL_told_337 (lv_at hl 1 rfl) ?_
          refine lv_iconst (v := 1) hx hb dL_told_339 (by decide) ?_
          refine lr_i (rL (rest := [.int (L (i * 5 + 4))]) ⟨hx, hb, hml, hown, hts⟩ (LB_judged l G cA A o (u, v, f, g, L) n K ch (nI i) 1 ) (cwV 2 hts gL_told_X8_judged rfl rfl rfl mdX8_judged ⟨Nat.le_of_ble_eq_true rfl, Nat.le_of_ble_eq_true rfl⟩) hA hL rfl hl rfl (Nat.le_of_ble_eq_true rfl) dL_told_340 ⟨Nat.le_of_ble_eq_true rfl, Nat.le_of_ble_eq_true rfl⟩) hA hL (fun r_340_3 H locs hr_340_3 hA hL => ?_)
          replace hr_340_3 : r_340_3 = L (i * 5 + 1) := hr_340_3.trans (ju_at 1 (by decide) hlt hR10 h18)
          subst hr_340_3
          refine lv_aload_n hx hb dL_told_343 rfl (lv_at hl 10 rfl) ?_
          refine lv_iload hx hb dL_told_344 (lv_at hl 1 rfl) ?_
          refine lv_iconst (v := 2) hx hb dL_told_346 (by decide) ?_
          refine lr_i (rL (rest := [.int (L (i * 5 + 1)), .int (L (i * 5 + 4))]) ⟨hx, hb, hml, hown, hts⟩ (LB_judged l G cA A o (u, v, f, g, L) n K ch (nI i) 2 ) (cwV 2 hts gL_told_X8_judged rfl rfl rfl mdX8_judged ⟨Nat.le_of_ble_eq_true rfl, Nat.le_of_ble_eq_true rfl⟩) hA hL rfl hl rfl (Nat.le_of_ble_eq_true rfl) dL_told_347 ⟨Nat.le_of_ble_eq_true rfl, Nat.le_of_ble_eq_true rfl⟩) hA hL (fun r_347_3 H locs hr_347_3 hA hL => ?_)
          replace hr_347_3 : r_347_3 = L (i * 5 + 2) := hr_347_3.trans (ju_at 2 (by decide) hlt hR10 h18)
          subst hr_347_3
          refine lv_iadd hx hb dL_told_350 ?_
          refine lv_icmp_lt (tgt := 382) hx hb dL_told_351 (by decide) (fun c_351_3 => absurd c_351_3 h8.2.2.2.2.2.1) (fun c_351_3 => ?_)
          refine lv_iload hx hb dL_told_354 (lv_at hl 1 rfl) ?_
          refine lv_if_eq (tgt := 378) hx hb dL_told_356 (by decide) (fun c_356_3 => ?_) (fun c_356_3 => ?_)
          · skip
            refine lv_iconst (v := 1) hx hb dL_told_378 (by decide) ?_
            refine lv_goto (tgt := 383) hx hb dL_told_379 (by decide) ?_
            refine lv_istore (lv' := [(11, .int 1), (10, .int 1), (9, .int (nI i)), (8, .int (nI R)), (7, .int (nI J)), (6, .int 1), (5, .int 1), (4, .int 1), (3, .int 1), (2, .float (f 7)), (1, .int 0), (0, .ref o)]) hx hb dL_told_383 hl (by decide) rfl (fun ls hl => ?_)
            refine lv_iload hx hb dL_told_385 (lv_at hl 1 rfl) ?_
            refine lv_if_eq (tgt := 395) hx hb dL_told_387 (by decide) (fun h9 => absurd h9 (by decide)) (fun _ => ?_)
            refine lv_iload hx hb dL_told_390 (lv_at hl 0 rfl) ?_
            refine lv_if_ne (tgt := 397) hx hb dL_told_392 (by decide) (fun _ => ?_) (fun h9 => absurd h9 (by decide))
            refine lv_iinc (v := ((nI i) + 1)) (lv' := [(9, .int ((nI i) + 1)), (11, .int 1), (10, .int 1), (8, .int (nI R)), (7, .int (nI J)), (6, .int 1), (5, .int 1), (4, .int 1), (3, .int 1), (2, .float (f 7)), (1, .int 0), (0, .ref o)]) hx hb dL_told_397 hl (k := 2) rfl rfl (by decide) rfl (fun ls hl => ?_)
            refine lv_goto (tgt := 260) hx hb dL_told_400 (by decide) ?_
            replace hl : lv_has ls 12 [(9, .int (nI (i + 1))), (11, .int 1), (10, .int 1), (8, .int (nI R)), (7, .int (nI J)), (6, .int 1), (5, .int 1), (4, .int 1), (3, .int 1), (2, .float (f 7)), (1, .int 0), (0, .ref o)] := by rw [← nI_1]; exact hl
            exact ih (i + 1) _ _ _ (by omega) (by omega) hA hL (lv_sub hl [0, 3, 4, 5, 6, 7, 8, 9, 10, 11] rfl)
          · skip
            refine lv_aload_n hx hb dL_told_359 rfl (lv_at hl 10 rfl) ?_
            refine lv_iload hx hb dL_told_360 (lv_at hl 1 rfl) ?_
            refine lv_iconst (v := 4) hx hb dL_told_362 (by decide) ?_
            refine lr_i (rL (rest := []) ⟨hx, hb, hml, hown, hts⟩ (LB_judged l G cA A o (u, v, f, g, L) n K ch (nI i) 4 ) (cwV 2 hts gL_told_X8_judged rfl rfl rfl mdX8_judged ⟨Nat.le_of_ble_eq_true rfl, Nat.le_of_ble_eq_true rfl⟩) hA hL rfl hl rfl (Nat.le_of_ble_eq_true rfl) dL_told_363 ⟨Nat.le_of_ble_eq_true rfl, Nat.le_of_ble_eq_true rfl⟩) hA hL (fun r_363_3 H locs hr_363_3 hA hL => ?_)
            replace hr_363_3 : r_363_3 = L (i * 5 + 4) := hr_363_3.trans (ju_at 4 (by decide) hlt hR10 h18)
            subst hr_363_3
            refine lv_aload_n hx hb dL_told_366 rfl (lv_at hl 10 rfl) ?_
            refine lv_iload hx hb dL_told_367 (lv_at hl 1 rfl) ?_
            refine lv_iconst (v := 1) hx hb dL_told_369 (by decide) ?_
            refine lv_isub hx hb dL_told_370 ?_
            refine lv_iconst (v := 1) hx hb dL_told_371 (by decide) ?_
            refine lr_i (rL (rest := [.int (L (i * 5 + 4))]) ⟨hx, hb, hml, hown, hts⟩ (LB_judged l G cA A o (u, v, f, g, L) n K ch ((nI i) - 1) 1 ) (cwV 2 hts gL_told_X8_judged rfl rfl rfl mdX8_judged ⟨Nat.le_of_ble_eq_true rfl, Nat.le_of_ble_eq_true rfl⟩) hA hL rfl hl rfl (Nat.le_of_ble_eq_true rfl) dL_told_372 ⟨Nat.le_of_ble_eq_true rfl, Nat.le_of_ble_eq_true rfl⟩) hA hL (fun r_372_3 H locs hr_372_3 hA hL => ?_)
            rw [(pred_of c_356_3).2] at hr_372_3
            replace hr_372_3 : r_372_3 = L ((i - 1) * 5 + 1) := hr_372_3.trans (ju_at 1 (by decide) (by omega) hR10 h18)
            subst hr_372_3
            refine lv_icmp_ge (tgt := 382) hx hb dL_told_375 (by decide) (fun c_375_3 => absurd c_375_3 (h8.2.2.2.2.2.2 (pred_of c_356_3).1)) (fun c_375_3 => ?_)
            refine lv_iconst (v := 1) hx hb dL_told_378 (by decide) ?_
            refine lv_goto (tgt := 383) hx hb dL_told_379 (by decide) ?_
            refine lv_istore (lv' := [(11, .int 1), (10, .int 1), (9, .int (nI i)), (8, .int (nI R)), (7, .int (nI J)), (6, .int 1), (5, .int 1), (4, .int 1), (3, .int 1), (2, .float (f 7)), (1, .int 0), (0, .ref o)]) hx hb dL_told_383 hl (by decide) rfl (fun ls hl => ?_)
            refine lv_iload hx hb dL_told_385 (lv_at hl 1 rfl) ?_
            refine lv_if_eq (tgt := 395) hx hb dL_told_387 (by decide) (fun h9 => absurd h9 (by decide)) (fun _ => ?_)
            refine lv_iload hx hb dL_told_390 (lv_at hl 0 rfl) ?_
            refine lv_if_ne (tgt := 397) hx hb dL_told_392 (by decide) (fun _ => ?_) (fun h9 => absurd h9 (by decide))
            refine lv_iinc (v := ((nI i) + 1)) (lv' := [(9, .int ((nI i) + 1)), (11, .int 1), (10, .int 1), (8, .int (nI R)), (7, .int (nI J)), (6, .int 1), (5, .int 1), (4, .int 1), (3, .int 1), (2, .float (f 7)), (1, .int 0), (0, .ref o)]) hx hb dL_told_397 hl (k := 2) rfl rfl (by decide) rfl (fun ls hl => ?_)
            refine lv_goto (tgt := 260) hx hb dL_told_400 (by decide) ?_
            replace hl : lv_has ls 12 [(9, .int (nI (i + 1))), (11, .int 1), (10, .int 1), (8, .int (nI R)), (7, .int (nI J)), (6, .int 1), (5, .int 1), (4, .int 1), (3, .int 1), (2, .float (f 7)), (1, .int 0), (0, .ref o)] := by rw [← nI_1]; exact hl
            exact ih (i + 1) _ _ _ (by omega) (by omega) hA hL (lv_sub hl [0, 3, 4, 5, 6, 7, 8, 9, 10, 11] rfl)
set_option maxHeartbeats 8000000 in
set_option maxRecDepth 100000 in
/-- told(o), in the state 1 -/
theorem cL_told_1 (l : Launch) (G : va_G) (cA : Nat → ClassId) (A : Nat → Prop) (o : Nat) (u : FF) (v : GG) (f : FF) (g L : GG) (n K : Nat) (ch : GG) (J R : Nat) (hT : ToldOk u v f g L J R) (hs : g 13 = 1) (hLk : LkOk g) (hTh : Met l yL_thing wsL_thing ({ frames := 4, cells := 0, slots := 0, locals := 94 } : Room) (va_Pc [.ref o] (LbP G cA A o (u, v, f, g, L) n K ch)) (va_Qi (fun r (_ : Unit) => r = 1) (fun _ t => LB G cA A o (u, v, f, g, L) n K ch t.heap) A) 0 0 A) : Met l yL_told wsL_told ({ frames := 5, cells := 0, slots := 0, locals := 129 } : Room) (va_Pc [.ref o] (LbP G cA A o (u, v, f, g, L) n K ch)) (va_Qi (fun r (_ : Unit) => r = 1) (fun _ t => LB G cA A o (u, v, f, g, L) n K ch t.heap) A) 0 0 A := by
  refine ofW2 (cc := cL_told) (maxL := 12) (ret := (some .boolean)) (own := RL) (by decide) rfl rfl (Nat.le_of_ble_eq_true rfl) rfl ?_
  intro p e s m below meth c ls hx hb hml hr hts hown hlocks hv hl
  obtain ⟨hE, hN, hL⟩ := hv
  have hA : At G cA A s s.heap [] := ⟨hE, hN, va_S.rf⟩
  obtain ⟨H, hH0⟩ : ∃ H, H = s.heap := ⟨_, rfl⟩
  rw [← hH0] at hL ⊢
  replace hA : At G cA A s H [] := by rw [hH0]; exact hA
  generalize ([] : List Loc) = locs at hA ⊢
  clear hH0
  replace hl : lv_has ls 12 [(0, .ref o)] := hl
  obtain ⟨hJ, hJ31, hRd, h18⟩ := hT.2.2.2.2.2.1
  have hR10 : R ≤ 10 := by rw [hRd]; split <;> omega
  refine lv_aload_n hx hb dL_told_0 rfl (lv_at hl 0 rfl) ?_
  refine lv_iconst (v := 0) hx hb dL_told_1 (by decide) ?_
  refine lr_i (rL (rest := []) ⟨hx, hb, hml, hown, hts⟩ (LB_door l G cA A o (u, v, f, g, L) n K ch 0) (cwV 1 hts gL_told_X8_door rfl rfl rfl mdX8_door ⟨Nat.le_of_ble_eq_true rfl, Nat.le_of_ble_eq_true rfl⟩) hA hL rfl hl rfl (Nat.le_of_ble_eq_true rfl) dL_told_2 ⟨Nat.le_of_ble_eq_true rfl, Nat.le_of_ble_eq_true rfl⟩) hA hL (fun r_2 H locs hr_2 hA hL => ?_)
  replace hr_2 : r_2 = g 13 := hr_2
  rw [hs] at hr_2
  subst hr_2
  refine lv_istore_n (lv' := [(1, .int 1), (0, .ref o)]) hx hb dL_told_5 rfl hl (by decide) rfl (fun ls hl => ?_)
  refine lv_aload_n hx hb dL_told_6 rfl (lv_at hl 1 rfl) ?_
  refine lr_f (rL (rest := []) ⟨hx, hb, hml, hown, hts⟩ (LB_place l G cA A o (u, v, f, g, L) n K ch  ) (cwV 0 hts gL_told_X8_place rfl rfl rfl mdX8_place ⟨Nat.le_of_ble_eq_true rfl, Nat.le_of_ble_eq_true rfl⟩) hA hL rfl hl rfl (Nat.le_of_ble_eq_true rfl) dL_told_7 ⟨Nat.le_of_ble_eq_true rfl, Nat.le_of_ble_eq_true rfl⟩) hA hL (fun r_7 H locs hr_7 hA hL => ?_)
  replace hr_7 : r_7 = f 7 := hr_7
  subst hr_7
  refine lv_fstore_n (lv' := [(2, .float (f 7)), (1, .int 1), (0, .ref o)]) hx hb dL_told_10 rfl hl (by decide) rfl (fun ls hl => ?_)
  refine lv_fload_n hx hb dL_told_11 rfl (lv_at hl 0 rfl) ?_
  refine lv_fconst0 hx hb dL_told_12 ?_
  refine lv_fcmp hx hb dL_told_13 ?_
  refine lv_if_lt (tgt := 71) hx hb dL_told_14 (by decide) (fun c_14 => absurd c_14 hT.1.1) (fun c_14 => ?_)
  refine lv_fload_n hx hb dL_told_17 rfl (lv_at hl 0 rfl) ?_
  refine lv_ldcf hx hb hown (hts (.constantFloat RL 32 (1120403456)) (by decide +kernel)) dL_told_18 ?_
  refine lv_fcmp hx hb dL_told_20 ?_
  refine lv_if_gt (tgt := 71) hx hb dL_told_21 (by decide) (fun c_21 => absurd c_21 hT.1.2) (fun c_21 => ?_)
  refine lv_iload_n hx hb dL_told_24 rfl (lv_at hl 1 rfl) ?_
  refine lv_if_ne (tgt := 34) hx hb dL_told_25 (by decide) (fun _ => ?_) (fun h9 => absurd h9 (by decide))
  refine lv_iload_n hx hb dL_told_34 rfl (lv_at hl 1 rfl) ?_
  refine lv_iconst (v := 2) hx hb dL_told_35 (by decide) ?_
  refine lv_icmp_ne (tgt := 46) hx hb dL_told_36 (by decide) (fun _ => ?_) (fun h9 => absurd h9 (by decide))
  refine lv_aload_n hx hb dL_told_46 rfl (lv_at hl 2 rfl) ?_
  refine lv_iconst (v := 5) hx hb dL_told_47 (by decide) ?_
  refine lr_i (rL (rest := []) ⟨hx, hb, hml, hown, hts⟩ (LB_door l G cA A o (u, v, f, g, L) n K ch 5) (cwV 1 hts gL_told_X8_door rfl rfl rfl mdX8_door ⟨Nat.le_of_ble_eq_true rfl, Nat.le_of_ble_eq_true rfl⟩) hA hL rfl hl rfl (Nat.le_of_ble_eq_true rfl) dL_told_48 ⟨Nat.le_of_ble_eq_true rfl, Nat.le_of_ble_eq_true rfl⟩) hA hL (fun r_48 H locs hr_48 hA hL => ?_)
  replace hr_48 : r_48 = FP.f2i (f 7) := hr_48
  subst hr_48
  refine lv_fload_n hx hb dL_told_51 rfl (lv_at hl 0 rfl) ?_
  refine lv_f2i hx hb dL_told_52 ?_
  refine lv_icmp_ne (tgt := 71) hx hb dL_told_53 (by decide) (fun c_53 => absurd rfl c_53) (fun c_53 => ?_)
  refine lv_aload_n hx hb dL_told_56 rfl (lv_at hl 2 rfl) ?_
  refine lv_bipush (v := 6) hx hb dL_told_57 (by decide) ?_
  refine lr_i (rL (rest := []) ⟨hx, hb, hml, hown, hts⟩ (LB_door l G cA A o (u, v, f, g, L) n K ch 6) (cwV 1 hts gL_told_X8_door rfl rfl rfl mdX8_door ⟨Nat.le_of_ble_eq_true rfl, Nat.le_of_ble_eq_true rfl⟩) hA hL rfl hl rfl (Nat.le_of_ble_eq_true rfl) dL_told_59 ⟨Nat.le_of_ble_eq_true rfl, Nat.le_of_ble_eq_true rfl⟩) hA hL (fun r_59 H locs hr_59 hA hL => ?_)
  replace hr_59 : r_59 = (-2) := hr_59
  subst hr_59
  refine lv_bipush (v := (-2)) hx hb dL_told_62 (by decide) ?_
  refine lv_icmp_ne (tgt := 71) hx hb dL_told_64 (by decide) (fun h9 => absurd (by decide) h9) (fun _ => ?_)
  refine lv_iconst (v := 1) hx hb dL_told_67 (by decide) ?_
  refine lv_goto (tgt := 72) hx hb dL_told_68 (by decide) ?_
  refine lv_istore_n (lv' := [(3, .int 1), (2, .float (f 7)), (1, .int 1), (0, .ref o)]) hx hb dL_told_72 rfl hl (by decide) rfl (fun ls hl => ?_)
  refine lv_iload_n hx hb dL_told_73 rfl (lv_at hl 2 rfl) ?_
  refine lv_iconst (v := 2) hx hb dL_told_74 (by decide) ?_
  refine lv_icmp_eq (tgt := 86) hx hb dL_told_75 (by decide) (fun h9 => absurd h9 (by decide)) (fun _ => ?_)
  refine lv_aload_n hx hb dL_told_78 rfl (lv_at hl 3 rfl) ?_
  refine lv_iconst (v := 3) hx hb dL_told_79 (by decide) ?_
  refine lr_i (rL (rest := []) ⟨hx, hb, hml, hown, hts⟩ (LB_door l G cA A o (u, v, f, g, L) n K ch 3) (cwV 1 hts gL_told_X8_door rfl rfl rfl mdX8_door ⟨Nat.le_of_ble_eq_true rfl, Nat.le_of_ble_eq_true rfl⟩) hA hL rfl hl rfl (Nat.le_of_ble_eq_true rfl) dL_told_80 ⟨Nat.le_of_ble_eq_true rfl, Nat.le_of_ble_eq_true rfl⟩) hA hL (fun r_80 H locs hr_80 hA hL => ?_)
  rw [show doF _ _ _ = 0 from (by show (if g 13 = 2 then g 14 else 0) = 0; rw [if_neg (by rw [hs]; decide)])] at hr_80
  subst hr_80
  refine lv_if_ne (tgt := 117) hx hb dL_told_83 (by decide) (fun h9 => absurd (by decide) h9) (fun _ => ?_)
  refine lv_iload_n hx hb dL_told_86 rfl (lv_at hl 2 rfl) ?_
  refine lv_iconst (v := 3) hx hb dL_told_87 (by decide) ?_
  refine lv_icmp_eq (tgt := 99) hx hb dL_told_88 (by decide) (fun h9 => absurd h9 (by decide)) (fun _ => ?_)
  refine lv_aload_n hx hb dL_told_91 rfl (lv_at hl 3 rfl) ?_
  refine lv_iconst (v := 4) hx hb dL_told_92 (by decide) ?_
  refine lr_i (rL (rest := []) ⟨hx, hb, hml, hown, hts⟩ (LB_door l G cA A o (u, v, f, g, L) n K ch 4) (cwV 1 hts gL_told_X8_door rfl rfl rfl mdX8_door ⟨Nat.le_of_ble_eq_true rfl, Nat.le_of_ble_eq_true rfl⟩) hA hL rfl hl rfl (Nat.le_of_ble_eq_true rfl) dL_told_93 ⟨Nat.le_of_ble_eq_true rfl, Nat.le_of_ble_eq_true rfl⟩) hA hL (fun r_93 H locs hr_93 hA hL => ?_)
  rw [show doF _ _ _ = 0 from (by show (if g 13 = 3 then g 15 else 0) = 0; rw [if_neg (by rw [hs]; decide)])] at hr_93
  subst hr_93
  refine lv_if_ne (tgt := 117) hx hb dL_told_96 (by decide) (fun h9 => absurd (by decide) h9) (fun _ => ?_)
  refine lv_iload_n hx hb dL_told_99 rfl (lv_at hl 2 rfl) ?_
  refine lv_iconst (v := 3) hx hb dL_told_100 (by decide) ?_
  refine lv_icmp_ne (tgt := 113) hx hb dL_told_101 (by decide) (fun _ => ?_) (fun h9 => absurd h9 (by decide))
  refine lv_iconst (v := 1) hx hb dL_told_113 (by decide) ?_
  refine lv_goto (tgt := 118) hx hb dL_told_114 (by decide) ?_
  refine lv_istore (lv' := [(4, .int 1), (3, .int 1), (2, .float (f 7)), (1, .int 1), (0, .ref o)]) hx hb dL_told_118 hl (by decide) rfl (fun ls hl => ?_)
  refine lv_aload_n hx hb dL_told_120 rfl (lv_at hl 4 rfl) ?_
  refine lv_iconst (v := 1) hx hb dL_told_121 (by decide) ?_
  refine lr_i (rL (rest := []) ⟨hx, hb, hml, hown, hts⟩ (LB_door l G cA A o (u, v, f, g, L) n K ch 1) (cwV 1 hts gL_told_X8_door rfl rfl rfl mdX8_door ⟨Nat.le_of_ble_eq_true rfl, Nat.le_of_ble_eq_true rfl⟩) hA hL rfl hl rfl (Nat.le_of_ble_eq_true rfl) dL_told_122 ⟨Nat.le_of_ble_eq_true rfl, Nat.le_of_ble_eq_true rfl⟩) hA hL (fun r_122 H locs hr_122 hA hL => ?_)
  replace hr_122 : r_122 = g 16 := hr_122
  subst hr_122
  refine lv_aload_n hx hb dL_told_125 rfl (lv_at hl 4 rfl) ?_
  refine lv_iconst (v := 2) hx hb dL_told_126 (by decide) ?_
  refine lr_i (rL (rest := [.int (g 16)]) ⟨hx, hb, hml, hown, hts⟩ (LB_number l G cA A o (u, v, f, g, L) n K ch 2 ) (cwV 1 hts gL_told_X8_number rfl rfl rfl mdX8_number ⟨Nat.le_of_ble_eq_true rfl, Nat.le_of_ble_eq_true rfl⟩) hA hL rfl hl rfl (Nat.le_of_ble_eq_true rfl) dL_told_127 ⟨Nat.le_of_ble_eq_true rfl, Nat.le_of_ble_eq_true rfl⟩) hA hL (fun r_127 H locs hr_127 hA hL => ?_)
  replace hr_127 : r_127 = v 2 := hr_127
  subst hr_127
  refine lv_icmp_le (tgt := 137) hx hb dL_told_130 (by decide) (fun c_130 => ?_) (fun c_130 => ?_)
  · skip
    refine lv_iconst (v := 0) hx hb dL_told_137 (by decide) ?_
    refine lv_istore (lv' := [(5, .int 0), (4, .int 1), (3, .int 1), (2, .float (f 7)), (1, .int 1), (0, .ref o)]) hx hb dL_told_138 hl (by decide) rfl (fun ls hl => ?_)
    refine lv_aload_n hx hb dL_told_140 rfl (lv_at hl 5 rfl) ?_
    refine lv_iconst (v := 3) hx hb dL_told_141 (by decide) ?_
    refine lr_f (rL (rest := []) ⟨hx, hb, hml, hown, hts⟩ (LB_speed l G cA A o (u, v, f, g, L) n K ch 3) (cwV 1 hts gL_told_X8_speed rfl rfl rfl mdX8_speed ⟨Nat.le_of_ble_eq_true rfl, Nat.le_of_ble_eq_true rfl⟩) hA hL rfl hl rfl (Nat.le_of_ble_eq_true rfl) dL_told_142 ⟨Nat.le_of_ble_eq_true rfl, Nat.le_of_ble_eq_true rfl⟩) hA hL (fun r_142 H locs hr_142 hA hL => ?_)
    replace hr_142 : r_142 = spF u (scF v g) := hr_142
    rw [show spF u (scF v g) = u 1 from by unfold scF; rw [if_pos c_130]; rfl] at hr_142
    subst hr_142
    refine lv_iload hx hb dL_told_145 (lv_at hl 0 rfl) ?_
    refine lv_if_eq (tgt := 158) hx hb dL_told_147 (by decide) (fun _ => ?_) (fun h9 => absurd (by decide) h9)
    refine lv_aload_n hx hb dL_told_158 rfl (lv_at hl 5 rfl) ?_
    refine lv_iconst (v := 1) hx hb dL_told_159 (by decide) ?_
    refine lr_f (rL (rest := [.float (u 1)]) ⟨hx, hb, hml, hown, hts⟩ (LB_speed l G cA A o (u, v, f, g, L) n K ch 1) (cwV 1 hts gL_told_X8_speed rfl rfl rfl mdX8_speed ⟨Nat.le_of_ble_eq_true rfl, Nat.le_of_ble_eq_true rfl⟩) hA hL rfl hl rfl (Nat.le_of_ble_eq_true rfl) dL_told_160 ⟨Nat.le_of_ble_eq_true rfl, Nat.le_of_ble_eq_true rfl⟩) hA hL (fun r_160 H locs hr_160 hA hL => ?_)
    replace hr_160 : r_160 = u 1 := hr_160
    subst hr_160
    refine lv_fcmp hx hb dL_told_163 ?_
    refine lv_if_ne (tgt := 213) hx hb dL_told_164 (by decide) (fun c_164 => absurd hT.2.2.2.2.1.1 c_164) (fun c_164 => ?_)
    refine lv_aload_n hx hb dL_told_167 rfl (lv_at hl 5 rfl) ?_
    refine lv_iconst (v := 4) hx hb dL_told_168 (by decide) ?_
    refine lr_f (rL (rest := []) ⟨hx, hb, hml, hown, hts⟩ (LB_speed l G cA A o (u, v, f, g, L) n K ch 4) (cwV 1 hts gL_told_X8_speed rfl rfl rfl mdX8_speed ⟨Nat.le_of_ble_eq_true rfl, Nat.le_of_ble_eq_true rfl⟩) hA hL rfl hl rfl (Nat.le_of_ble_eq_true rfl) dL_told_169 ⟨Nat.le_of_ble_eq_true rfl, Nat.le_of_ble_eq_true rfl⟩) hA hL (fun r_169 H locs hr_169 hA hL => ?_)
    replace hr_169 : r_169 = nanF := hr_169
    subst hr_169
    refine lr_i (rS (rest := []) ⟨hx, hb, hml, hown, hts⟩ (cL_isNone_ok l G cA nanF) (va_cwS 1 hts gL_told_L_isNone rfl rfl rfl mdL_isNone.2 ⟨Nat.le_of_ble_eq_true rfl, Nat.le_of_ble_eq_true rfl⟩) hA.1 empP empD rfl hl rfl (Nat.le_of_ble_eq_true rfl) dL_told_172 ⟨Nat.le_of_ble_eq_true rfl, Nat.le_of_ble_eq_true rfl⟩) hA hL (fun r_172 H locs hr_172 hA hL => ?_)
    rw [nn_nan] at hr_172
    subst hr_172
    refine lv_if_eq (tgt := 213) hx hb dL_told_175 (by decide) (fun h9 => absurd h9 (by decide)) (fun _ => ?_)
    refine lv_aload_n hx hb dL_told_178 rfl (lv_at hl 5 rfl) ?_
    refine lv_iconst (v := 4) hx hb dL_told_179 (by decide) ?_
    refine lr_f (rL (rest := []) ⟨hx, hb, hml, hown, hts⟩ (LB_weight l G cA A o (u, v, f, g, L) n K ch 4 ) (cwV 1 hts gL_told_X8_weight rfl rfl rfl mdX8_weight ⟨Nat.le_of_ble_eq_true rfl, Nat.le_of_ble_eq_true rfl⟩) hA hL rfl hl rfl (Nat.le_of_ble_eq_true rfl) dL_told_180 ⟨Nat.le_of_ble_eq_true rfl, Nat.le_of_ble_eq_true rfl⟩) hA hL (fun r_180 H locs hr_180 hA hL => ?_)
    replace hr_180 : r_180 = nanF := hr_180
    subst hr_180
    refine lr_i (rS (rest := []) ⟨hx, hb, hml, hown, hts⟩ (cL_isNone_ok l G cA nanF) (va_cwS 1 hts gL_told_L_isNone rfl rfl rfl mdL_isNone.2 ⟨Nat.le_of_ble_eq_true rfl, Nat.le_of_ble_eq_true rfl⟩) hA.1 empP empD rfl hl rfl (Nat.le_of_ble_eq_true rfl) dL_told_183 ⟨Nat.le_of_ble_eq_true rfl, Nat.le_of_ble_eq_true rfl⟩) hA hL (fun r_183 H locs hr_183 hA hL => ?_)
    rw [nn_nan] at hr_183
    subst hr_183
    refine lv_if_eq (tgt := 213) hx hb dL_told_186 (by decide) (fun h9 => absurd h9 (by decide)) (fun _ => ?_)
    refine lv_aload_n hx hb dL_told_189 rfl (lv_at hl 5 rfl) ?_
    refine lv_iconst (v := (-1)) hx hb dL_told_190 (by decide) ?_
    refine lr_f (rL (rest := []) ⟨hx, hb, hml, hown, hts⟩ (LB_score l G cA A o (u, v, f, g, L) n K ch (-1) hLk (fun h9 => absurd (by decide) h9)) (cwV 1 hts gL_told_X8_score rfl rfl rfl mdX8_score ⟨Nat.le_of_ble_eq_true rfl, Nat.le_of_ble_eq_true rfl⟩) hA hL rfl hl rfl (Nat.le_of_ble_eq_true rfl) dL_told_191 ⟨Nat.le_of_ble_eq_true rfl, Nat.le_of_ble_eq_true rfl⟩) hA hL (fun r_191 H locs hr_191 hA hL => ?_)
    replace hr_191 : r_191 = nanF := hr_191
    subst hr_191
    refine lr_i (rS (rest := []) ⟨hx, hb, hml, hown, hts⟩ (cL_isNone_ok l G cA nanF) (va_cwS 1 hts gL_told_L_isNone rfl rfl rfl mdL_isNone.2 ⟨Nat.le_of_ble_eq_true rfl, Nat.le_of_ble_eq_true rfl⟩) hA.1 empP empD rfl hl rfl (Nat.le_of_ble_eq_true rfl) dL_told_194 ⟨Nat.le_of_ble_eq_true rfl, Nat.le_of_ble_eq_true rfl⟩) hA hL (fun r_194 H locs hr_194 hA hL => ?_)
    rw [nn_nan] at hr_194
    subst hr_194
    refine lv_if_eq (tgt := 213) hx hb dL_told_197 (by decide) (fun h9 => absurd h9 (by decide)) (fun _ => ?_)
    refine lv_aload_n hx hb dL_told_200 rfl (lv_at hl 5 rfl) ?_
    refine lv_iconst (v := 5) hx hb dL_told_201 (by decide) ?_
    refine lr_i (rL (rest := []) ⟨hx, hb, hml, hown, hts⟩ (LB_number l G cA A o (u, v, f, g, L) n K ch 5 ) (cwV 1 hts gL_told_X8_number rfl rfl rfl mdX8_number ⟨Nat.le_of_ble_eq_true rfl, Nat.le_of_ble_eq_true rfl⟩) hA hL rfl hl rfl (Nat.le_of_ble_eq_true rfl) dL_told_202 ⟨Nat.le_of_ble_eq_true rfl, Nat.le_of_ble_eq_true rfl⟩) hA hL (fun r_202 H locs hr_202 hA hL => ?_)
    replace hr_202 : r_202 = (-1) := hr_202
    subst hr_202
    refine lv_iconst (v := (-1)) hx hb dL_told_205 (by decide) ?_
    refine lv_icmp_ne (tgt := 213) hx hb dL_told_206 (by decide) (fun h9 => absurd (by decide) h9) (fun _ => ?_)
    refine lv_iconst (v := 1) hx hb dL_told_209 (by decide) ?_
    refine lv_goto (tgt := 214) hx hb dL_told_210 (by decide) ?_
    refine lv_istore (lv' := [(6, .int 1), (5, .int 0), (4, .int 1), (3, .int 1), (2, .float (f 7)), (1, .int 1), (0, .ref o)]) hx hb dL_told_214 hl (by decide) rfl (fun ls hl => ?_)
    refine lv_aload_n hx hb dL_told_216 rfl (lv_at hl 6 rfl) ?_
    refine lv_iconst (v := 1) hx hb dL_told_217 (by decide) ?_
    refine lr_i (rL (rest := []) ⟨hx, hb, hml, hown, hts⟩ (LB_count l G cA A o (u, v, f, g, L) n K ch 1 ) (cwV 1 hts gL_told_X8_count rfl rfl rfl mdX8_count ⟨Nat.le_of_ble_eq_true rfl, Nat.le_of_ble_eq_true rfl⟩) hA hL rfl hl rfl (Nat.le_of_ble_eq_true rfl) dL_told_218 ⟨Nat.le_of_ble_eq_true rfl, Nat.le_of_ble_eq_true rfl⟩) hA hL (fun r_218 H locs hr_218 hA hL => ?_)
    replace hr_218 : r_218 = g 19 := hr_218
    subst hr_218
    refine lv_aload_n hx hb dL_told_221 rfl (lv_at hl 6 rfl) ?_
    refine lv_iconst (v := 2) hx hb dL_told_222 (by decide) ?_
    refine lr_i (rL (rest := [.int (g 19)]) ⟨hx, hb, hml, hown, hts⟩ (LB_count l G cA A o (u, v, f, g, L) n K ch 2 ) (cwV 1 hts gL_told_X8_count rfl rfl rfl mdX8_count ⟨Nat.le_of_ble_eq_true rfl, Nat.le_of_ble_eq_true rfl⟩) hA hL rfl hl rfl (Nat.le_of_ble_eq_true rfl) dL_told_223 ⟨Nat.le_of_ble_eq_true rfl, Nat.le_of_ble_eq_true rfl⟩) hA hL (fun r_223 H locs hr_223 hA hL => ?_)
    replace hr_223 : r_223 = g 20 := hr_223
    subst hr_223
    refine lv_iadd hx hb dL_told_226 ?_
    refine lv_aload_n hx hb dL_told_227 rfl (lv_at hl 6 rfl) ?_
    refine lv_iconst (v := 3) hx hb dL_told_228 (by decide) ?_
    refine lr_i (rL (rest := [.int ((g 19) + (g 20))]) ⟨hx, hb, hml, hown, hts⟩ (LB_count l G cA A o (u, v, f, g, L) n K ch 3 ) (cwV 1 hts gL_told_X8_count rfl rfl rfl mdX8_count ⟨Nat.le_of_ble_eq_true rfl, Nat.le_of_ble_eq_true rfl⟩) hA hL rfl hl rfl (Nat.le_of_ble_eq_true rfl) dL_told_229 ⟨Nat.le_of_ble_eq_true rfl, Nat.le_of_ble_eq_true rfl⟩) hA hL (fun r_229 H locs hr_229 hA hL => ?_)
    replace hr_229 : r_229 = g 21 := hr_229
    subst hr_229
    refine lv_iadd hx hb dL_told_232 ?_
    refine lv_aload_n hx hb dL_told_233 rfl (lv_at hl 6 rfl) ?_
    refine lv_iconst (v := 4) hx hb dL_told_234 (by decide) ?_
    refine lr_i (rL (rest := [.int (((g 19) + (g 20)) + (g 21))]) ⟨hx, hb, hml, hown, hts⟩ (LB_count l G cA A o (u, v, f, g, L) n K ch 4 ) (cwV 1 hts gL_told_X8_count rfl rfl rfl mdX8_count ⟨Nat.le_of_ble_eq_true rfl, Nat.le_of_ble_eq_true rfl⟩) hA hL rfl hl rfl (Nat.le_of_ble_eq_true rfl) dL_told_235 ⟨Nat.le_of_ble_eq_true rfl, Nat.le_of_ble_eq_true rfl⟩) hA hL (fun r_235 H locs hr_235 hA hL => ?_)
    replace hr_235 : r_235 = g 22 := hr_235
    subst hr_235
    refine lv_iadd hx hb dL_told_238 ?_
    rw [hJ]
    refine lv_istore (lv' := [(7, .int (nI J)), (6, .int 1), (5, .int 0), (4, .int 1), (3, .int 1), (2, .float (f 7)), (1, .int 1), (0, .ref o)]) hx hb dL_told_239 hl (by decide) rfl (fun ls hl => ?_)
    refine lv_iload hx hb dL_told_241 (lv_at hl 0 rfl) ?_
    refine lv_bipush (v := 10) hx hb dL_told_243 (by decide) ?_
    refine lv_icmp_ge (tgt := 253) hx hb dL_told_245 (by decide) (fun c_245 => ?_) (fun c_245 => ?_)
    · skip
      refine lv_bipush (v := 10) hx hb dL_told_253 (by decide) ?_
      have hRR : R = 10 := by rw [hRd, if_neg (by have := (nI_leI (a := 10) (b := J) (by decide) hJ31).mp c_245; omega)]
      refine W.eq (g2 := F0 m 255 ls [.int (nI R)]) (by rw [hRR]; rfl) ?_
      refine lv_istore (lv' := [(8, .int (nI R)), (7, .int (nI J)), (6, .int 1), (5, .int 0), (4, .int 1), (3, .int 1), (2, .float (f 7)), (1, .int 1), (0, .ref o)]) hx hb dL_told_255 hl (by decide) rfl (fun ls hl => ?_)
      refine lv_iconst (v := 0) hx hb dL_told_257 (by decide) ?_
      refine lv_istore (lv' := [(9, .int 0), (8, .int (nI R)), (7, .int (nI J)), (6, .int 1), (5, .int 0), (4, .int 1), (3, .int 1), (2, .float (f 7)), (1, .int 1), (0, .ref o)]) hx hb dL_told_258 hl (by decide) rfl (fun ls hl => ?_)
      obtain ⟨i, hi0⟩ : ∃ i : Nat, i = 0 := ⟨_, rfl⟩
      replace hl : lv_has ls 12 [(9, .int (nI i)), (8, .int (nI R)), (7, .int (nI J)), (6, .int 1), (5, .int 0), (4, .int 1), (3, .int 1), (2, .float (f 7)), (1, .int 1), (0, .ref o)] := by rw [hi0]; exact hl
      obtain ⟨nn, hn⟩ : ∃ nn : Nat, R < i + nn := ⟨R + 1, by omega⟩
      have hi : i ≤ R := by omega
      clear hi0
      revert hl
      revert hL
      revert hA
      revert hi
      revert hn
      revert ls
      revert locs
      revert H
      revert i
      induction nn with
      | zero => intro i H locs ls hn hi; exact absurd hn (by omega)
      | succ nn ih =>
        intro i H locs ls hn hi hA hL hl
        refine lv_iload hx hb dL_told_260 (lv_at hl 0 rfl) ?_
        refine lv_iload hx hb dL_told_262 (lv_at hl 1 rfl) ?_
        refine lv_icmp_ge (tgt := 403) hx hb dL_told_264 (by decide) (fun c_264 => ?_) (fun c_264 => ?_)
        · skip
          obtain rfl : R = i := (eq_of_le hi (by omega) c_264).symm
          refine lv_iload_n hx hb dL_told_403 rfl (lv_at hl 6 rfl) ?_
          refine lv_if_eq (tgt := 462) hx hb dL_told_404 (by decide) (fun h9 => absurd h9 (by decide)) (fun _ => ?_)
          refine lv_iload hx hb dL_told_407 (lv_at hl 5 rfl) ?_
          refine lv_if_eq (tgt := 462) hx hb dL_told_409 (by decide) (fun h9 => absurd h9 (by decide)) (fun _ => ?_)
          refine lv_iload hx hb dL_told_412 (lv_at hl 3 rfl) ?_
          refine lv_if_eq (tgt := 462) hx hb dL_told_414 (by decide) (fun h9 => absurd h9 (by decide)) (fun _ => ?_)
          refine lv_aload_n hx hb dL_told_417 rfl (lv_at hl 9 rfl) ?_
          refine lv_iload hx hb dL_told_418 (lv_at hl 1 rfl) ?_
          refine lv_iconst (v := 0) hx hb dL_told_420 (by decide) ?_
          refine lr_i (rL (rest := []) ⟨hx, hb, hml, hown, hts⟩ (LB_judged l G cA A o (u, v, f, g, L) n K ch (nI R) 0 ) (cwV 2 hts gL_told_X8_judged rfl rfl rfl mdX8_judged ⟨Nat.le_of_ble_eq_true rfl, Nat.le_of_ble_eq_true rfl⟩) hA hL rfl hl rfl (Nat.le_of_ble_eq_true rfl) dL_told_421 ⟨Nat.le_of_ble_eq_true rfl, Nat.le_of_ble_eq_true rfl⟩) hA hL (fun r_421 H locs hr_421 hA hL => ?_)
          rw [ju_end hR10 h18] at hr_421
          subst hr_421
          refine lv_bipush (v := (-5)) hx hb dL_told_424 (by decide) ?_
          refine lv_icmp_ne (tgt := 462) hx hb dL_told_426 (by decide) (fun h9 => absurd (by decide) h9) (fun _ => ?_)
          refine lv_aload_n hx hb dL_told_429 rfl (lv_at hl 9 rfl) ?_
          refine lv_iconst (v := (-1)) hx hb dL_told_430 (by decide) ?_
          refine lv_iconst (v := 0) hx hb dL_told_431 (by decide) ?_
          refine lr_i (rL (rest := []) ⟨hx, hb, hml, hown, hts⟩ (LB_judged l G cA A o (u, v, f, g, L) n K ch (-1) 0 ) (cwV 2 hts gL_told_X8_judged rfl rfl rfl mdX8_judged ⟨Nat.le_of_ble_eq_true rfl, Nat.le_of_ble_eq_true rfl⟩) hA hL rfl hl rfl (Nat.le_of_ble_eq_true rfl) dL_told_432 ⟨Nat.le_of_ble_eq_true rfl, Nat.le_of_ble_eq_true rfl⟩) hA hL (fun r_432 H locs hr_432 hA hL => ?_)
          replace hr_432 : r_432 = (-2) := hr_432
          subst hr_432
          refine lv_bipush (v := (-2)) hx hb dL_told_435 (by decide) ?_
          refine lv_icmp_ne (tgt := 462) hx hb dL_told_437 (by decide) (fun h9 => absurd (by decide) h9) (fun _ => ?_)
          refine lv_aload_n hx hb dL_told_440 rfl (lv_at hl 9 rfl) ?_
          refine lv_iconst (v := 0) hx hb dL_told_441 (by decide) ?_
          refine lv_iconst (v := 5) hx hb dL_told_442 (by decide) ?_
          refine lr_i (rL (rest := []) ⟨hx, hb, hml, hown, hts⟩ (LB_judged l G cA A o (u, v, f, g, L) n K ch 0 5 ) (cwV 2 hts gL_told_X8_judged rfl rfl rfl mdX8_judged ⟨Nat.le_of_ble_eq_true rfl, Nat.le_of_ble_eq_true rfl⟩) hA hL rfl hl rfl (Nat.le_of_ble_eq_true rfl) dL_told_443 ⟨Nat.le_of_ble_eq_true rfl, Nat.le_of_ble_eq_true rfl⟩) hA hL (fun r_443 H locs hr_443 hA hL => ?_)
          replace hr_443 : r_443 = (-2) := hr_443
          subst hr_443
          refine lv_bipush (v := (-2)) hx hb dL_told_446 (by decide) ?_
          refine lv_icmp_ne (tgt := 462) hx hb dL_told_448 (by decide) (fun h9 => absurd (by decide) h9) (fun _ => ?_)
          refine lv_aload_n hx hb dL_told_451 rfl (lv_at hl 9 rfl) ?_
          refine lw_i (rLS (rest := []) ⟨hx, hb, hml, hown, hts⟩ (hTh) (va_cwS 1 hts gL_told_L_thing rfl rfl rfl mdL_thing.2 ⟨Nat.le_of_ble_eq_true rfl, Nat.le_of_ble_eq_true rfl⟩) hA hL rfl hl rfl (Nat.le_of_ble_eq_true rfl) dL_told_452 ⟨Nat.le_of_ble_eq_true rfl, Nat.le_of_ble_eq_true rfl⟩) hA (fun r_452 _ H locs hr_452 hA hL => ?_)
          replace hL : LB G cA A o (u, v, f, g, L) n K ch H := hL
          subst hr_452
          refine lv_if_eq (tgt := 462) hx hb dL_told_455 (by decide) (fun h9 => absurd h9 (by decide)) (fun _ => ?_)
          refine lv_iconst (v := 1) hx hb dL_told_458 (by decide) ?_
          refine lv_goto (tgt := 463) hx hb dL_told_459 (by decide) ?_
          exact en_l (post := fun r (_ : Unit) => r = 1) (B := fun _ H => LB G cA A o (u, v, f, g, L) n K ch H) () hx hb hr hlocks hA rfl hL dL_told_463
        · skip
          have hlt : i < R := lt_of_nle hi (by omega) c_264
          have h8 := hT.2.2.2.2.2.2 i hlt
          refine lv_aload_n hx hb dL_told_267 rfl (lv_at hl 9 rfl) ?_
          refine lv_iload hx hb dL_told_268 (lv_at hl 0 rfl) ?_
          refine lv_iconst (v := 0) hx hb dL_told_270 (by decide) ?_
          refine lr_i (rL (rest := []) ⟨hx, hb, hml, hown, hts⟩ (LB_judged l G cA A o (u, v, f, g, L) n K ch (nI i) 0 ) (cwV 2 hts gL_told_X8_judged rfl rfl rfl mdX8_judged ⟨Nat.le_of_ble_eq_true rfl, Nat.le_of_ble_eq_true rfl⟩) hA hL rfl hl rfl (Nat.le_of_ble_eq_true rfl) dL_told_271 ⟨Nat.le_of_ble_eq_true rfl, Nat.le_of_ble_eq_true rfl⟩) hA hL (fun r_271 H locs hr_271 hA hL => ?_)
          replace hr_271 : r_271 = L (i * 5 + 0) := hr_271.trans (ju_at 0 (by decide) hlt hR10 h18)
          subst hr_271
          refine lv_if_lt (tgt := 326) hx hb dL_told_274 (by decide) (fun c_274 => absurd c_274 h8.1) (fun c_274 => ?_)
          refine lv_aload_n hx hb dL_told_277 rfl (lv_at hl 9 rfl) ?_
          refine lv_iload hx hb dL_told_278 (lv_at hl 0 rfl) ?_
          refine lv_iconst (v := 0) hx hb dL_told_280 (by decide) ?_
          refine lr_i (rL (rest := []) ⟨hx, hb, hml, hown, hts⟩ (LB_judged l G cA A o (u, v, f, g, L) n K ch (nI i) 0 ) (cwV 2 hts gL_told_X8_judged rfl rfl rfl mdX8_judged ⟨Nat.le_of_ble_eq_true rfl, Nat.le_of_ble_eq_true rfl⟩) hA hL rfl hl rfl (Nat.le_of_ble_eq_true rfl) dL_told_281 ⟨Nat.le_of_ble_eq_true rfl, Nat.le_of_ble_eq_true rfl⟩) hA hL (fun r_281 H locs hr_281 hA hL => ?_)
          replace hr_281 : r_281 = L (i * 5 + 0) := hr_281.trans (ju_at 0 (by decide) hlt hR10 h18)
          subst hr_281
          refine lv_iconst (v := 3) hx hb dL_told_284 (by decide) ?_
          refine lv_icmp_gt (tgt := 326) hx hb dL_told_285 (by decide) (fun c_285 => absurd c_285 h8.2.1) (fun c_285 => ?_)
          refine lv_aload_n hx hb dL_told_288 rfl (lv_at hl 9 rfl) ?_
          refine lv_iload hx hb dL_told_289 (lv_at hl 0 rfl) ?_
          refine lv_iconst (v := 2) hx hb dL_told_291 (by decide) ?_
          refine lr_i (rL (rest := []) ⟨hx, hb, hml, hown, hts⟩ (LB_judged l G cA A o (u, v, f, g, L) n K ch (nI i) 2 ) (cwV 2 hts gL_told_X8_judged rfl rfl rfl mdX8_judged ⟨Nat.le_of_ble_eq_true rfl, Nat.le_of_ble_eq_true rfl⟩) hA hL rfl hl rfl (Nat.le_of_ble_eq_true rfl) dL_told_292 ⟨Nat.le_of_ble_eq_true rfl, Nat.le_of_ble_eq_true rfl⟩) hA hL (fun r_292 H locs hr_292 hA hL => ?_)
          replace hr_292 : r_292 = L (i * 5 + 2) := hr_292.trans (ju_at 2 (by decide) hlt hR10 h18)
          subst hr_292
          refine lv_iconst (v := 1) hx hb dL_told_295 (by decide) ?_
          refine lv_icmp_lt (tgt := 326) hx hb dL_told_296 (by decide) (fun c_296 => absurd c_296 h8.2.2.1) (fun c_296 => ?_)
          refine lv_aload_n hx hb dL_told_299 rfl (lv_at hl 9 rfl) ?_
          refine lv_iload hx hb dL_told_300 (lv_at hl 0 rfl) ?_
          refine lv_iconst (v := 3) hx hb dL_told_302 (by decide) ?_
          refine lr_i (rL (rest := []) ⟨hx, hb, hml, hown, hts⟩ (LB_judged l G cA A o (u, v, f, g, L) n K ch (nI i) 3 ) (cwV 2 hts gL_told_X8_judged rfl rfl rfl mdX8_judged ⟨Nat.le_of_ble_eq_true rfl, Nat.le_of_ble_eq_true rfl⟩) hA hL rfl hl rfl (Nat.le_of_ble_eq_true rfl) dL_told_303 ⟨Nat.le_of_ble_eq_true rfl, Nat.le_of_ble_eq_true rfl⟩) hA hL (fun r_303 H locs hr_303 hA hL => ?_)
          replace hr_303 : r_303 = L (i * 5 + 3) := hr_303.trans (ju_at 3 (by decide) hlt hR10 h18)
          subst hr_303
          refine lv_iconst (v := 1) hx hb dL_told_306 (by decide) ?_
          refine lv_icmp_lt (tgt := 326) hx hb dL_told_307 (by decide) (fun c_307 => absurd c_307 h8.2.2.2.1) (fun c_307 => ?_)
          refine lv_aload_n hx hb dL_told_310 rfl (lv_at hl 9 rfl) ?_
          refine lv_iload hx hb dL_told_311 (lv_at hl 0 rfl) ?_
          refine lv_iconst (v := 3) hx hb dL_told_313 (by decide) ?_
          refine lr_i (rL (rest := []) ⟨hx, hb, hml, hown, hts⟩ (LB_judged l G cA A o (u, v, f, g, L) n K ch (nI i) 3 ) (cwV 2 hts gL_told_X8_judged rfl rfl rfl mdX8_judged ⟨Nat.le_of_ble_eq_true rfl, Nat.le_of_ble_eq_true rfl⟩) hA hL rfl hl rfl (Nat.le_of_ble_eq_true rfl) dL_told_314 ⟨Nat.le_of_ble_eq_true rfl, Nat.le_of_ble_eq_true rfl⟩) hA hL (fun r_314 H locs hr_314 hA hL => ?_)
          replace hr_314 : r_314 = L (i * 5 + 3) := hr_314.trans (ju_at 3 (by decide) hlt hR10 h18)
          subst hr_314
          refine lv_bipush (v := 7) hx hb dL_told_317 (by decide) ?_
          refine lv_icmp_gt (tgt := 326) hx hb dL_told_319 (by decide) (fun c_319 => absurd c_319 h8.2.2.2.2.1) (fun c_319 => ?_)
          refine lv_iconst (v := 1) hx hb dL_told_322 (by decide) ?_
          refine lv_goto (tgt := 327) hx hb dL_told_323 (by decide) ?_
          refine lv_istore (lv' := [(10, .int 1), (9, .int (nI i)), (8, .int (nI R)), (7, .int (nI J)), (6, .int 1), (5, .int 0), (4, .int 1), (3, .int 1), (2, .float (f 7)), (1, .int 1), (0, .ref o)]) hx hb dL_told_327 hl (by decide) rfl (fun ls hl => ?_)
          refine lv_aload_n hx hb dL_told_329 rfl (lv_at hl 10 rfl) ?_
          refine lv_iload hx hb dL_told_330 (lv_at hl 1 rfl) ?_
          refine lv_iconst (v := 4) hx hb dL_told_332 (by decide) ?_
          refine lr_i (rL (rest := []) ⟨hx, hb, hml, hown, hts⟩ (LB_judged l G cA A o (u, v, f, g, L) n K ch (nI i) 4 ) (cwV 2 hts gL_told_X8_judged rfl rfl rfl mdX8_judged ⟨Nat.le_of_ble_eq_true rfl, Nat.le_of_ble_eq_true rfl⟩) hA hL rfl hl rfl (Nat.le_of_ble_eq_true rfl) dL_told_333 ⟨Nat.le_of_ble_eq_true rfl, Nat.le_of_ble_eq_true rfl⟩) hA hL (fun r_333 H locs hr_333 hA hL => ?_)
          replace hr_333 : r_333 = L (i * 5 + 4) := hr_333.trans (ju_at 4 (by decide) hlt hR10 h18)
          subst hr_333
          refine lv_aload_n hx hb dL_told_336 rfl (lv_at hl 10 rfl) ?_
          refine lv_iload hx hb dL_told_337 (lv_at hl 1 rfl) ?_
          refine lv_iconst (v := 1) hx hb dL_told_339 (by decide) ?_
          refine lr_i (rL (rest := [.int (L (i * 5 + 4))]) ⟨hx, hb, hml, hown, hts⟩ (LB_judged l G cA A o (u, v, f, g, L) n K ch (nI i) 1 ) (cwV 2 hts gL_told_X8_judged rfl rfl rfl mdX8_judged ⟨Nat.le_of_ble_eq_true rfl, Nat.le_of_ble_eq_true rfl⟩) hA hL rfl hl rfl (Nat.le_of_ble_eq_true rfl) dL_told_340 ⟨Nat.le_of_ble_eq_true rfl, Nat.le_of_ble_eq_true rfl⟩) hA hL (fun r_340 H locs hr_340 hA hL => ?_)
          replace hr_340 : r_340 = L (i * 5 + 1) := hr_340.trans (ju_at 1 (by decide) hlt hR10 h18)
          subst hr_340
          refine lv_aload_n hx hb dL_told_343 rfl (lv_at hl 10 rfl) ?_
          refine lv_iload hx hb dL_told_344 (lv_at hl 1 rfl) ?_
          refine lv_iconst (v := 2) hx hb dL_told_346 (by decide) ?_
          refine lr_i (rL (rest := [.int (L (i * 5 + 1)), .int (L (i * 5 + 4))]) ⟨hx, hb, hml, hown, hts⟩ (LB_judged l G cA A o (u, v, f, g, L) n K ch (nI i) 2 ) (cwV 2 hts gL_told_X8_judged rfl rfl rfl mdX8_judged ⟨Nat.le_of_ble_eq_true rfl, Nat.le_of_ble_eq_true rfl⟩) hA hL rfl hl rfl (Nat.le_of_ble_eq_true rfl) dL_told_347 ⟨Nat.le_of_ble_eq_true rfl, Nat.le_of_ble_eq_true rfl⟩) hA hL (fun r_347 H locs hr_347 hA hL => ?_)
          replace hr_347 : r_347 = L (i * 5 + 2) := hr_347.trans (ju_at 2 (by decide) hlt hR10 h18)
          subst hr_347
          refine lv_iadd hx hb dL_told_350 ?_
          refine lv_icmp_lt (tgt := 382) hx hb dL_told_351 (by decide) (fun c_351 => absurd c_351 h8.2.2.2.2.2.1) (fun c_351 => ?_)
          refine lv_iload hx hb dL_told_354 (lv_at hl 1 rfl) ?_
          refine lv_if_eq (tgt := 378) hx hb dL_told_356 (by decide) (fun c_356 => ?_) (fun c_356 => ?_)
          · skip
            refine lv_iconst (v := 1) hx hb dL_told_378 (by decide) ?_
            refine lv_goto (tgt := 383) hx hb dL_told_379 (by decide) ?_
            refine lv_istore (lv' := [(11, .int 1), (10, .int 1), (9, .int (nI i)), (8, .int (nI R)), (7, .int (nI J)), (6, .int 1), (5, .int 0), (4, .int 1), (3, .int 1), (2, .float (f 7)), (1, .int 1), (0, .ref o)]) hx hb dL_told_383 hl (by decide) rfl (fun ls hl => ?_)
            refine lv_iload hx hb dL_told_385 (lv_at hl 1 rfl) ?_
            refine lv_if_eq (tgt := 395) hx hb dL_told_387 (by decide) (fun h9 => absurd h9 (by decide)) (fun _ => ?_)
            refine lv_iload hx hb dL_told_390 (lv_at hl 0 rfl) ?_
            refine lv_if_ne (tgt := 397) hx hb dL_told_392 (by decide) (fun _ => ?_) (fun h9 => absurd h9 (by decide))
            refine lv_iinc (v := ((nI i) + 1)) (lv' := [(9, .int ((nI i) + 1)), (11, .int 1), (10, .int 1), (8, .int (nI R)), (7, .int (nI J)), (6, .int 1), (5, .int 0), (4, .int 1), (3, .int 1), (2, .float (f 7)), (1, .int 1), (0, .ref o)]) hx hb dL_told_397 hl (k := 2) rfl rfl (by decide) rfl (fun ls hl => ?_)
            refine lv_goto (tgt := 260) hx hb dL_told_400 (by decide) ?_
            replace hl : lv_has ls 12 [(9, .int (nI (i + 1))), (11, .int 1), (10, .int 1), (8, .int (nI R)), (7, .int (nI J)), (6, .int 1), (5, .int 0), (4, .int 1), (3, .int 1), (2, .float (f 7)), (1, .int 1), (0, .ref o)] := by rw [← nI_1]; exact hl
            exact ih (i + 1) _ _ _ (by omega) (by omega) hA hL (lv_sub hl [0, 3, 4, 5, 6, 7, 8, 9, 10, 11] rfl)
          · skip
            refine lv_aload_n hx hb dL_told_359 rfl (lv_at hl 10 rfl) ?_
            refine lv_iload hx hb dL_told_360 (lv_at hl 1 rfl) ?_
            refine lv_iconst (v := 4) hx hb dL_told_362 (by decide) ?_
            refine lr_i (rL (rest := []) ⟨hx, hb, hml, hown, hts⟩ (LB_judged l G cA A o (u, v, f, g, L) n K ch (nI i) 4 ) (cwV 2 hts gL_told_X8_judged rfl rfl rfl mdX8_judged ⟨Nat.le_of_ble_eq_true rfl, Nat.le_of_ble_eq_true rfl⟩) hA hL rfl hl rfl (Nat.le_of_ble_eq_true rfl) dL_told_363 ⟨Nat.le_of_ble_eq_true rfl, Nat.le_of_ble_eq_true rfl⟩) hA hL (fun r_363 H locs hr_363 hA hL => ?_)
            replace hr_363 : r_363 = L (i * 5 + 4) := hr_363.trans (ju_at 4 (by decide) hlt hR10 h18)
            subst hr_363
            refine lv_aload_n hx hb dL_told_366 rfl (lv_at hl 10 rfl) ?_
            refine lv_iload hx hb dL_told_367 (lv_at hl 1 rfl) ?_
            refine lv_iconst (v := 1) hx hb dL_told_369 (by decide) ?_
            refine lv_isub hx hb dL_told_370 ?_
            refine lv_iconst (v := 1) hx hb dL_told_371 (by decide) ?_
            refine lr_i (rL (rest := [.int (L (i * 5 + 4))]) ⟨hx, hb, hml, hown, hts⟩ (LB_judged l G cA A o (u, v, f, g, L) n K ch ((nI i) - 1) 1 ) (cwV 2 hts gL_told_X8_judged rfl rfl rfl mdX8_judged ⟨Nat.le_of_ble_eq_true rfl, Nat.le_of_ble_eq_true rfl⟩) hA hL rfl hl rfl (Nat.le_of_ble_eq_true rfl) dL_told_372 ⟨Nat.le_of_ble_eq_true rfl, Nat.le_of_ble_eq_true rfl⟩) hA hL (fun r_372 H locs hr_372 hA hL => ?_)
            rw [(pred_of c_356).2] at hr_372
            replace hr_372 : r_372 = L ((i - 1) * 5 + 1) := hr_372.trans (ju_at 1 (by decide) (by omega) hR10 h18)
            subst hr_372
            refine lv_icmp_ge (tgt := 382) hx hb dL_told_375 (by decide) (fun c_375 => absurd c_375 (h8.2.2.2.2.2.2 (pred_of c_356).1)) (fun c_375 => ?_)
            refine lv_iconst (v := 1) hx hb dL_told_378 (by decide) ?_
            refine lv_goto (tgt := 383) hx hb dL_told_379 (by decide) ?_
            refine lv_istore (lv' := [(11, .int 1), (10, .int 1), (9, .int (nI i)), (8, .int (nI R)), (7, .int (nI J)), (6, .int 1), (5, .int 0), (4, .int 1), (3, .int 1), (2, .float (f 7)), (1, .int 1), (0, .ref o)]) hx hb dL_told_383 hl (by decide) rfl (fun ls hl => ?_)
            refine lv_iload hx hb dL_told_385 (lv_at hl 1 rfl) ?_
            refine lv_if_eq (tgt := 395) hx hb dL_told_387 (by decide) (fun h9 => absurd h9 (by decide)) (fun _ => ?_)
            refine lv_iload hx hb dL_told_390 (lv_at hl 0 rfl) ?_
            refine lv_if_ne (tgt := 397) hx hb dL_told_392 (by decide) (fun _ => ?_) (fun h9 => absurd h9 (by decide))
            refine lv_iinc (v := ((nI i) + 1)) (lv' := [(9, .int ((nI i) + 1)), (11, .int 1), (10, .int 1), (8, .int (nI R)), (7, .int (nI J)), (6, .int 1), (5, .int 0), (4, .int 1), (3, .int 1), (2, .float (f 7)), (1, .int 1), (0, .ref o)]) hx hb dL_told_397 hl (k := 2) rfl rfl (by decide) rfl (fun ls hl => ?_)
            refine lv_goto (tgt := 260) hx hb dL_told_400 (by decide) ?_
            replace hl : lv_has ls 12 [(9, .int (nI (i + 1))), (11, .int 1), (10, .int 1), (8, .int (nI R)), (7, .int (nI J)), (6, .int 1), (5, .int 0), (4, .int 1), (3, .int 1), (2, .float (f 7)), (1, .int 1), (0, .ref o)] := by rw [← nI_1]; exact hl
            exact ih (i + 1) _ _ _ (by omega) (by omega) hA hL (lv_sub hl [0, 3, 4, 5, 6, 7, 8, 9, 10, 11] rfl)
    · skip
      refine lv_iload hx hb dL_told_248 (lv_at hl 0 rfl) ?_
      refine lv_goto (tgt := 255) hx hb dL_told_250 (by decide) ?_
      have hRR : R = J := by rw [hRd, if_pos (Nat.lt_of_not_le (fun h9 => c_245 ((nI_leI (a := 10) (b := J) (by decide) hJ31).mpr h9)))]
      refine W.eq (g2 := F0 m 255 ls [.int (nI R)]) (by rw [hRR]) ?_
      refine lv_istore (lv' := [(8, .int (nI R)), (7, .int (nI J)), (6, .int 1), (5, .int 0), (4, .int 1), (3, .int 1), (2, .float (f 7)), (1, .int 1), (0, .ref o)]) hx hb dL_told_255 hl (by decide) rfl (fun ls hl => ?_)
      refine lv_iconst (v := 0) hx hb dL_told_257 (by decide) ?_
      refine lv_istore (lv' := [(9, .int 0), (8, .int (nI R)), (7, .int (nI J)), (6, .int 1), (5, .int 0), (4, .int 1), (3, .int 1), (2, .float (f 7)), (1, .int 1), (0, .ref o)]) hx hb dL_told_258 hl (by decide) rfl (fun ls hl => ?_)
      obtain ⟨i, hi0⟩ : ∃ i : Nat, i = 0 := ⟨_, rfl⟩
      replace hl : lv_has ls 12 [(9, .int (nI i)), (8, .int (nI R)), (7, .int (nI J)), (6, .int 1), (5, .int 0), (4, .int 1), (3, .int 1), (2, .float (f 7)), (1, .int 1), (0, .ref o)] := by rw [hi0]; exact hl
      obtain ⟨nn, hn⟩ : ∃ nn : Nat, R < i + nn := ⟨R + 1, by omega⟩
      have hi : i ≤ R := by omega
      clear hi0
      revert hl
      revert hL
      revert hA
      revert hi
      revert hn
      revert ls
      revert locs
      revert H
      revert i
      induction nn with
      | zero => intro i H locs ls hn hi; exact absurd hn (by omega)
      | succ nn ih =>
        intro i H locs ls hn hi hA hL hl
        refine lv_iload hx hb dL_told_260 (lv_at hl 0 rfl) ?_
        refine lv_iload hx hb dL_told_262 (lv_at hl 1 rfl) ?_
        refine lv_icmp_ge (tgt := 403) hx hb dL_told_264 (by decide) (fun c_264_1 => ?_) (fun c_264_1 => ?_)
        · skip
          obtain rfl : R = i := (eq_of_le hi (by omega) c_264_1).symm
          refine lv_iload_n hx hb dL_told_403 rfl (lv_at hl 6 rfl) ?_
          refine lv_if_eq (tgt := 462) hx hb dL_told_404 (by decide) (fun h9 => absurd h9 (by decide)) (fun _ => ?_)
          refine lv_iload hx hb dL_told_407 (lv_at hl 5 rfl) ?_
          refine lv_if_eq (tgt := 462) hx hb dL_told_409 (by decide) (fun h9 => absurd h9 (by decide)) (fun _ => ?_)
          refine lv_iload hx hb dL_told_412 (lv_at hl 3 rfl) ?_
          refine lv_if_eq (tgt := 462) hx hb dL_told_414 (by decide) (fun h9 => absurd h9 (by decide)) (fun _ => ?_)
          refine lv_aload_n hx hb dL_told_417 rfl (lv_at hl 9 rfl) ?_
          refine lv_iload hx hb dL_told_418 (lv_at hl 1 rfl) ?_
          refine lv_iconst (v := 0) hx hb dL_told_420 (by decide) ?_
          refine lr_i (rL (rest := []) ⟨hx, hb, hml, hown, hts⟩ (LB_judged l G cA A o (u, v, f, g, L) n K ch (nI R) 0 ) (cwV 2 hts gL_told_X8_judged rfl rfl rfl mdX8_judged ⟨Nat.le_of_ble_eq_true rfl, Nat.le_of_ble_eq_true rfl⟩) hA hL rfl hl rfl (Nat.le_of_ble_eq_true rfl) dL_told_421 ⟨Nat.le_of_ble_eq_true rfl, Nat.le_of_ble_eq_true rfl⟩) hA hL (fun r_421_1 H locs hr_421_1 hA hL => ?_)
          rw [ju_end hR10 h18] at hr_421_1
          subst hr_421_1
          refine lv_bipush (v := (-5)) hx hb dL_told_424 (by decide) ?_
          refine lv_icmp_ne (tgt := 462) hx hb dL_told_426 (by decide) (fun h9 => absurd (by decide) h9) (fun _ => ?_)
          refine lv_aload_n hx hb dL_told_429 rfl (lv_at hl 9 rfl) ?_
          refine lv_iconst (v := (-1)) hx hb dL_told_430 (by decide) ?_
          refine lv_iconst (v := 0) hx hb dL_told_431 (by decide) ?_
          refine lr_i (rL (rest := []) ⟨hx, hb, hml, hown, hts⟩ (LB_judged l G cA A o (u, v, f, g, L) n K ch (-1) 0 ) (cwV 2 hts gL_told_X8_judged rfl rfl rfl mdX8_judged ⟨Nat.le_of_ble_eq_true rfl, Nat.le_of_ble_eq_true rfl⟩) hA hL rfl hl rfl (Nat.le_of_ble_eq_true rfl) dL_told_432 ⟨Nat.le_of_ble_eq_true rfl, Nat.le_of_ble_eq_true rfl⟩) hA hL (fun r_432_1 H locs hr_432_1 hA hL => ?_)
          replace hr_432_1 : r_432_1 = (-2) := hr_432_1
          subst hr_432_1
          refine lv_bipush (v := (-2)) hx hb dL_told_435 (by decide) ?_
          refine lv_icmp_ne (tgt := 462) hx hb dL_told_437 (by decide) (fun h9 => absurd (by decide) h9) (fun _ => ?_)
          refine lv_aload_n hx hb dL_told_440 rfl (lv_at hl 9 rfl) ?_
          refine lv_iconst (v := 0) hx hb dL_told_441 (by decide) ?_
          refine lv_iconst (v := 5) hx hb dL_told_442 (by decide) ?_
          refine lr_i (rL (rest := []) ⟨hx, hb, hml, hown, hts⟩ (LB_judged l G cA A o (u, v, f, g, L) n K ch 0 5 ) (cwV 2 hts gL_told_X8_judged rfl rfl rfl mdX8_judged ⟨Nat.le_of_ble_eq_true rfl, Nat.le_of_ble_eq_true rfl⟩) hA hL rfl hl rfl (Nat.le_of_ble_eq_true rfl) dL_told_443 ⟨Nat.le_of_ble_eq_true rfl, Nat.le_of_ble_eq_true rfl⟩) hA hL (fun r_443_1 H locs hr_443_1 hA hL => ?_)
          replace hr_443_1 : r_443_1 = (-2) := hr_443_1
          subst hr_443_1
          refine lv_bipush (v := (-2)) hx hb dL_told_446 (by decide) ?_
          refine lv_icmp_ne (tgt := 462) hx hb dL_told_448 (by decide) (fun h9 => absurd (by decide) h9) (fun _ => ?_)
          refine lv_aload_n hx hb dL_told_451 rfl (lv_at hl 9 rfl) ?_
          refine lw_i (rLS (rest := []) ⟨hx, hb, hml, hown, hts⟩ (hTh) (va_cwS 1 hts gL_told_L_thing rfl rfl rfl mdL_thing.2 ⟨Nat.le_of_ble_eq_true rfl, Nat.le_of_ble_eq_true rfl⟩) hA hL rfl hl rfl (Nat.le_of_ble_eq_true rfl) dL_told_452 ⟨Nat.le_of_ble_eq_true rfl, Nat.le_of_ble_eq_true rfl⟩) hA (fun r_452_1 _ H locs hr_452_1 hA hL => ?_)
          replace hL : LB G cA A o (u, v, f, g, L) n K ch H := hL
          subst hr_452_1
          refine lv_if_eq (tgt := 462) hx hb dL_told_455 (by decide) (fun h9 => absurd h9 (by decide)) (fun _ => ?_)
          refine lv_iconst (v := 1) hx hb dL_told_458 (by decide) ?_
          refine lv_goto (tgt := 463) hx hb dL_told_459 (by decide) ?_
          exact en_l (post := fun r (_ : Unit) => r = 1) (B := fun _ H => LB G cA A o (u, v, f, g, L) n K ch H) () hx hb hr hlocks hA rfl hL dL_told_463
        · skip
          have hlt : i < R := lt_of_nle hi (by omega) c_264_1
          have h8 := hT.2.2.2.2.2.2 i hlt
          refine lv_aload_n hx hb dL_told_267 rfl (lv_at hl 9 rfl) ?_
          refine lv_iload hx hb dL_told_268 (lv_at hl 0 rfl) ?_
          refine lv_iconst (v := 0) hx hb dL_told_270 (by decide) ?_
          refine lr_i (rL (rest := []) ⟨hx, hb, hml, hown, hts⟩ (LB_judged l G cA A o (u, v, f, g, L) n K ch (nI i) 0 ) (cwV 2 hts gL_told_X8_judged rfl rfl rfl mdX8_judged ⟨Nat.le_of_ble_eq_true rfl, Nat.le_of_ble_eq_true rfl⟩) hA hL rfl hl rfl (Nat.le_of_ble_eq_true rfl) dL_told_271 ⟨Nat.le_of_ble_eq_true rfl, Nat.le_of_ble_eq_true rfl⟩) hA hL (fun r_271_1 H locs hr_271_1 hA hL => ?_)
          replace hr_271_1 : r_271_1 = L (i * 5 + 0) := hr_271_1.trans (ju_at 0 (by decide) hlt hR10 h18)
          subst hr_271_1
          refine lv_if_lt (tgt := 326) hx hb dL_told_274 (by decide) (fun c_274_1 => absurd c_274_1 h8.1) (fun c_274_1 => ?_)
          refine lv_aload_n hx hb dL_told_277 rfl (lv_at hl 9 rfl) ?_
          refine lv_iload hx hb dL_told_278 (lv_at hl 0 rfl) ?_
          refine lv_iconst (v := 0) hx hb dL_told_280 (by decide) ?_
          refine lr_i (rL (rest := []) ⟨hx, hb, hml, hown, hts⟩ (LB_judged l G cA A o (u, v, f, g, L) n K ch (nI i) 0 ) (cwV 2 hts gL_told_X8_judged rfl rfl rfl mdX8_judged ⟨Nat.le_of_ble_eq_true rfl, Nat.le_of_ble_eq_true rfl⟩) hA hL rfl hl rfl (Nat.le_of_ble_eq_true rfl) dL_told_281 ⟨Nat.le_of_ble_eq_true rfl, Nat.le_of_ble_eq_true rfl⟩) hA hL (fun r_281_1 H locs hr_281_1 hA hL => ?_)
          replace hr_281_1 : r_281_1 = L (i * 5 + 0) := hr_281_1.trans (ju_at 0 (by decide) hlt hR10 h18)
          subst hr_281_1
          refine lv_iconst (v := 3) hx hb dL_told_284 (by decide) ?_
          refine lv_icmp_gt (tgt := 326) hx hb dL_told_285 (by decide) (fun c_285_1 => absurd c_285_1 h8.2.1) (fun c_285_1 => ?_)
          refine lv_aload_n hx hb dL_told_288 rfl (lv_at hl 9 rfl) ?_
          refine lv_iload hx hb dL_told_289 (lv_at hl 0 rfl) ?_
          refine lv_iconst (v := 2) hx hb dL_told_291 (by decide) ?_
          refine lr_i (rL (rest := []) ⟨hx, hb, hml, hown, hts⟩ (LB_judged l G cA A o (u, v, f, g, L) n K ch (nI i) 2 ) (cwV 2 hts gL_told_X8_judged rfl rfl rfl mdX8_judged ⟨Nat.le_of_ble_eq_true rfl, Nat.le_of_ble_eq_true rfl⟩) hA hL rfl hl rfl (Nat.le_of_ble_eq_true rfl) dL_told_292 ⟨Nat.le_of_ble_eq_true rfl, Nat.le_of_ble_eq_true rfl⟩) hA hL (fun r_292_1 H locs hr_292_1 hA hL => ?_)
          replace hr_292_1 : r_292_1 = L (i * 5 + 2) := hr_292_1.trans (ju_at 2 (by decide) hlt hR10 h18)
          subst hr_292_1
          refine lv_iconst (v := 1) hx hb dL_told_295 (by decide) ?_
          refine lv_icmp_lt (tgt := 326) hx hb dL_told_296 (by decide) (fun c_296_1 => absurd c_296_1 h8.2.2.1) (fun c_296_1 => ?_)
          refine lv_aload_n hx hb dL_told_299 rfl (lv_at hl 9 rfl) ?_
          refine lv_iload hx hb dL_told_300 (lv_at hl 0 rfl) ?_
          refine lv_iconst (v := 3) hx hb dL_told_302 (by decide) ?_
          refine lr_i (rL (rest := []) ⟨hx, hb, hml, hown, hts⟩ (LB_judged l G cA A o (u, v, f, g, L) n K ch (nI i) 3 ) (cwV 2 hts gL_told_X8_judged rfl rfl rfl mdX8_judged ⟨Nat.le_of_ble_eq_true rfl, Nat.le_of_ble_eq_true rfl⟩) hA hL rfl hl rfl (Nat.le_of_ble_eq_true rfl) dL_told_303 ⟨Nat.le_of_ble_eq_true rfl, Nat.le_of_ble_eq_true rfl⟩) hA hL (fun r_303_1 H locs hr_303_1 hA hL => ?_)
          replace hr_303_1 : r_303_1 = L (i * 5 + 3) := hr_303_1.trans (ju_at 3 (by decide) hlt hR10 h18)
          subst hr_303_1
          refine lv_iconst (v := 1) hx hb dL_told_306 (by decide) ?_
          refine lv_icmp_lt (tgt := 326) hx hb dL_told_307 (by decide) (fun c_307_1 => absurd c_307_1 h8.2.2.2.1) (fun c_307_1 => ?_)
          refine lv_aload_n hx hb dL_told_310 rfl (lv_at hl 9 rfl) ?_
          refine lv_iload hx hb dL_told_311 (lv_at hl 0 rfl) ?_
          refine lv_iconst (v := 3) hx hb dL_told_313 (by decide) ?_
          refine lr_i (rL (rest := []) ⟨hx, hb, hml, hown, hts⟩ (LB_judged l G cA A o (u, v, f, g, L) n K ch (nI i) 3 ) (cwV 2 hts gL_told_X8_judged rfl rfl rfl mdX8_judged ⟨Nat.le_of_ble_eq_true rfl, Nat.le_of_ble_eq_true rfl⟩) hA hL rfl hl rfl (Nat.le_of_ble_eq_true rfl) dL_told_314 ⟨Nat.le_of_ble_eq_true rfl, Nat.le_of_ble_eq_true rfl⟩) hA hL (fun r_314_1 H locs hr_314_1 hA hL => ?_)
          replace hr_314_1 : r_314_1 = L (i * 5 + 3) := hr_314_1.trans (ju_at 3 (by decide) hlt hR10 h18)
          subst hr_314_1
          refine lv_bipush (v := 7) hx hb dL_told_317 (by decide) ?_
          refine lv_icmp_gt (tgt := 326) hx hb dL_told_319 (by decide) (fun c_319_1 => absurd c_319_1 h8.2.2.2.2.1) (fun c_319_1 => ?_)
          refine lv_iconst (v := 1) hx hb dL_told_322 (by decide) ?_
          refine lv_goto (tgt := 327) hx hb dL_told_323 (by decide) ?_
          refine lv_istore (lv' := [(10, .int 1), (9, .int (nI i)), (8, .int (nI R)), (7, .int (nI J)), (6, .int 1), (5, .int 0), (4, .int 1), (3, .int 1), (2, .float (f 7)), (1, .int 1), (0, .ref o)]) hx hb dL_told_327 hl (by decide) rfl (fun ls hl => ?_)
          refine lv_aload_n hx hb dL_told_329 rfl (lv_at hl 10 rfl) ?_
          refine lv_iload hx hb dL_told_330 (lv_at hl 1 rfl) ?_
          refine lv_iconst (v := 4) hx hb dL_told_332 (by decide) ?_
          refine lr_i (rL (rest := []) ⟨hx, hb, hml, hown, hts⟩ (LB_judged l G cA A o (u, v, f, g, L) n K ch (nI i) 4 ) (cwV 2 hts gL_told_X8_judged rfl rfl rfl mdX8_judged ⟨Nat.le_of_ble_eq_true rfl, Nat.le_of_ble_eq_true rfl⟩) hA hL rfl hl rfl (Nat.le_of_ble_eq_true rfl) dL_told_333 ⟨Nat.le_of_ble_eq_true rfl, Nat.le_of_ble_eq_true rfl⟩) hA hL (fun r_333_1 H locs hr_333_1 hA hL => ?_)
          replace hr_333_1 : r_333_1 = L (i * 5 + 4) := hr_333_1.trans (ju_at 4 (by decide) hlt hR10 h18)
          subst hr_333_1
          refine lv_aload_n hx hb dL_told_336 rfl (lv_at hl 10 rfl) ?_
          refine lv_iload hx hb dL_told_337 (lv_at hl 1 rfl) ?_
          refine lv_iconst (v := 1) hx hb dL_told_339 (by decide) ?_
          refine lr_i (rL (rest := [.int (L (i * 5 + 4))]) ⟨hx, hb, hml, hown, hts⟩ (LB_judged l G cA A o (u, v, f, g, L) n K ch (nI i) 1 ) (cwV 2 hts gL_told_X8_judged rfl rfl rfl mdX8_judged ⟨Nat.le_of_ble_eq_true rfl, Nat.le_of_ble_eq_true rfl⟩) hA hL rfl hl rfl (Nat.le_of_ble_eq_true rfl) dL_told_340 ⟨Nat.le_of_ble_eq_true rfl, Nat.le_of_ble_eq_true rfl⟩) hA hL (fun r_340_1 H locs hr_340_1 hA hL => ?_)
          replace hr_340_1 : r_340_1 = L (i * 5 + 1) := hr_340_1.trans (ju_at 1 (by decide) hlt hR10 h18)
          subst hr_340_1
          refine lv_aload_n hx hb dL_told_343 rfl (lv_at hl 10 rfl) ?_
          refine lv_iload hx hb dL_told_344 (lv_at hl 1 rfl) ?_
          refine lv_iconst (v := 2) hx hb dL_told_346 (by decide) ?_
          refine lr_i (rL (rest := [.int (L (i * 5 + 1)), .int (L (i * 5 + 4))]) ⟨hx, hb, hml, hown, hts⟩ (LB_judged l G cA A o (u, v, f, g, L) n K ch (nI i) 2 ) (cwV 2 hts gL_told_X8_judged rfl rfl rfl mdX8_judged ⟨Nat.le_of_ble_eq_true rfl, Nat.le_of_ble_eq_true rfl⟩) hA hL rfl hl rfl (Nat.le_of_ble_eq_true rfl) dL_told_347 ⟨Nat.le_of_ble_eq_true rfl, Nat.le_of_ble_eq_true rfl⟩) hA hL (fun r_347_1 H locs hr_347_1 hA hL => ?_)
          replace hr_347_1 : r_347_1 = L (i * 5 + 2) := hr_347_1.trans (ju_at 2 (by decide) hlt hR10 h18)
          subst hr_347_1
          refine lv_iadd hx hb dL_told_350 ?_
          refine lv_icmp_lt (tgt := 382) hx hb dL_told_351 (by decide) (fun c_351_1 => absurd c_351_1 h8.2.2.2.2.2.1) (fun c_351_1 => ?_)
          refine lv_iload hx hb dL_told_354 (lv_at hl 1 rfl) ?_
          refine lv_if_eq (tgt := 378) hx hb dL_told_356 (by decide) (fun c_356_1 => ?_) (fun c_356_1 => ?_)
          · skip
            refine lv_iconst (v := 1) hx hb dL_told_378 (by decide) ?_
            refine lv_goto (tgt := 383) hx hb dL_told_379 (by decide) ?_
            refine lv_istore (lv' := [(11, .int 1), (10, .int 1), (9, .int (nI i)), (8, .int (nI R)), (7, .int (nI J)), (6, .int 1), (5, .int 0), (4, .int 1), (3, .int 1), (2, .float (f 7)), (1, .int 1), (0, .ref o)]) hx hb dL_told_383 hl (by decide) rfl (fun ls hl => ?_)
            refine lv_iload hx hb dL_told_385 (lv_at hl 1 rfl) ?_
            refine lv_if_eq (tgt := 395) hx hb dL_told_387 (by decide) (fun h9 => absurd h9 (by decide)) (fun _ => ?_)
            refine lv_iload hx hb dL_told_390 (lv_at hl 0 rfl) ?_
            refine lv_if_ne (tgt := 397) hx hb dL_told_392 (by decide) (fun _ => ?_) (fun h9 => absurd h9 (by decide))
            refine lv_iinc (v := ((nI i) + 1)) (lv' := [(9, .int ((nI i) + 1)), (11, .int 1), (10, .int 1), (8, .int (nI R)), (7, .int (nI J)), (6, .int 1), (5, .int 0), (4, .int 1), (3, .int 1), (2, .float (f 7)), (1, .int 1), (0, .ref o)]) hx hb dL_told_397 hl (k := 2) rfl rfl (by decide) rfl (fun ls hl => ?_)
            refine lv_goto (tgt := 260) hx hb dL_told_400 (by decide) ?_
            replace hl : lv_has ls 12 [(9, .int (nI (i + 1))), (11, .int 1), (10, .int 1), (8, .int (nI R)), (7, .int (nI J)), (6, .int 1), (5, .int 0), (4, .int 1), (3, .int 1), (2, .float (f 7)), (1, .int 1), (0, .ref o)] := by rw [← nI_1]; exact hl
            exact ih (i + 1) _ _ _ (by omega) (by omega) hA hL (lv_sub hl [0, 3, 4, 5, 6, 7, 8, 9, 10, 11] rfl)
          · skip
            refine lv_aload_n hx hb dL_told_359 rfl (lv_at hl 10 rfl) ?_
            refine lv_iload hx hb dL_told_360 (lv_at hl 1 rfl) ?_
            refine lv_iconst (v := 4) hx hb dL_told_362 (by decide) ?_
            refine lr_i (rL (rest := []) ⟨hx, hb, hml, hown, hts⟩ (LB_judged l G cA A o (u, v, f, g, L) n K ch (nI i) 4 ) (cwV 2 hts gL_told_X8_judged rfl rfl rfl mdX8_judged ⟨Nat.le_of_ble_eq_true rfl, Nat.le_of_ble_eq_true rfl⟩) hA hL rfl hl rfl (Nat.le_of_ble_eq_true rfl) dL_told_363 ⟨Nat.le_of_ble_eq_true rfl, Nat.le_of_ble_eq_true rfl⟩) hA hL (fun r_363_1 H locs hr_363_1 hA hL => ?_)
            replace hr_363_1 : r_363_1 = L (i * 5 + 4) := hr_363_1.trans (ju_at 4 (by decide) hlt hR10 h18)
            subst hr_363_1
            refine lv_aload_n hx hb dL_told_366 rfl (lv_at hl 10 rfl) ?_
            refine lv_iload hx hb dL_told_367 (lv_at hl 1 rfl) ?_
            refine lv_iconst (v := 1) hx hb dL_told_369 (by decide) ?_
            refine lv_isub hx hb dL_told_370 ?_
            refine lv_iconst (v := 1) hx hb dL_told_371 (by decide) ?_
            refine lr_i (rL (rest := [.int (L (i * 5 + 4))]) ⟨hx, hb, hml, hown, hts⟩ (LB_judged l G cA A o (u, v, f, g, L) n K ch ((nI i) - 1) 1 ) (cwV 2 hts gL_told_X8_judged rfl rfl rfl mdX8_judged ⟨Nat.le_of_ble_eq_true rfl, Nat.le_of_ble_eq_true rfl⟩) hA hL rfl hl rfl (Nat.le_of_ble_eq_true rfl) dL_told_372 ⟨Nat.le_of_ble_eq_true rfl, Nat.le_of_ble_eq_true rfl⟩) hA hL (fun r_372_1 H locs hr_372_1 hA hL => ?_)
            rw [(pred_of c_356_1).2] at hr_372_1
            replace hr_372_1 : r_372_1 = L ((i - 1) * 5 + 1) := hr_372_1.trans (ju_at 1 (by decide) (by omega) hR10 h18)
            subst hr_372_1
            refine lv_icmp_ge (tgt := 382) hx hb dL_told_375 (by decide) (fun c_375_1 => absurd c_375_1 (h8.2.2.2.2.2.2 (pred_of c_356_1).1)) (fun c_375_1 => ?_)
            refine lv_iconst (v := 1) hx hb dL_told_378 (by decide) ?_
            refine lv_goto (tgt := 383) hx hb dL_told_379 (by decide) ?_
            refine lv_istore (lv' := [(11, .int 1), (10, .int 1), (9, .int (nI i)), (8, .int (nI R)), (7, .int (nI J)), (6, .int 1), (5, .int 0), (4, .int 1), (3, .int 1), (2, .float (f 7)), (1, .int 1), (0, .ref o)]) hx hb dL_told_383 hl (by decide) rfl (fun ls hl => ?_)
            refine lv_iload hx hb dL_told_385 (lv_at hl 1 rfl) ?_
            refine lv_if_eq (tgt := 395) hx hb dL_told_387 (by decide) (fun h9 => absurd h9 (by decide)) (fun _ => ?_)
            refine lv_iload hx hb dL_told_390 (lv_at hl 0 rfl) ?_
            refine lv_if_ne (tgt := 397) hx hb dL_told_392 (by decide) (fun _ => ?_) (fun h9 => absurd h9 (by decide))
            refine lv_iinc (v := ((nI i) + 1)) (lv' := [(9, .int ((nI i) + 1)), (11, .int 1), (10, .int 1), (8, .int (nI R)), (7, .int (nI J)), (6, .int 1), (5, .int 0), (4, .int 1), (3, .int 1), (2, .float (f 7)), (1, .int 1), (0, .ref o)]) hx hb dL_told_397 hl (k := 2) rfl rfl (by decide) rfl (fun ls hl => ?_)
            refine lv_goto (tgt := 260) hx hb dL_told_400 (by decide) ?_
            replace hl : lv_has ls 12 [(9, .int (nI (i + 1))), (11, .int 1), (10, .int 1), (8, .int (nI R)), (7, .int (nI J)), (6, .int 1), (5, .int 0), (4, .int 1), (3, .int 1), (2, .float (f 7)), (1, .int 1), (0, .ref o)] := by rw [← nI_1]; exact hl
            exact ih (i + 1) _ _ _ (by omega) (by omega) hA hL (lv_sub hl [0, 3, 4, 5, 6, 7, 8, 9, 10, 11] rfl)
  · skip
    refine lv_iconst (v := 1) hx hb dL_told_133 (by decide) ?_
    refine lv_goto (tgt := 138) hx hb dL_told_134 (by decide) ?_
    refine lv_istore (lv' := [(5, .int 1), (4, .int 1), (3, .int 1), (2, .float (f 7)), (1, .int 1), (0, .ref o)]) hx hb dL_told_138 hl (by decide) rfl (fun ls hl => ?_)
    refine lv_aload_n hx hb dL_told_140 rfl (lv_at hl 5 rfl) ?_
    refine lv_iconst (v := 3) hx hb dL_told_141 (by decide) ?_
    refine lr_f (rL (rest := []) ⟨hx, hb, hml, hown, hts⟩ (LB_speed l G cA A o (u, v, f, g, L) n K ch 3) (cwV 1 hts gL_told_X8_speed rfl rfl rfl mdX8_speed ⟨Nat.le_of_ble_eq_true rfl, Nat.le_of_ble_eq_true rfl⟩) hA hL rfl hl rfl (Nat.le_of_ble_eq_true rfl) dL_told_142 ⟨Nat.le_of_ble_eq_true rfl, Nat.le_of_ble_eq_true rfl⟩) hA hL (fun r_142_1 H locs hr_142_1 hA hL => ?_)
    replace hr_142_1 : r_142_1 = spF u (scF v g) := hr_142_1
    rw [show spF u (scF v g) = u 2 from by unfold scF; rw [if_neg c_130]; rfl] at hr_142_1
    subst hr_142_1
    refine lv_iload hx hb dL_told_145 (lv_at hl 0 rfl) ?_
    refine lv_if_eq (tgt := 158) hx hb dL_told_147 (by decide) (fun h9 => absurd h9 (by decide)) (fun _ => ?_)
    refine lv_aload_n hx hb dL_told_150 rfl (lv_at hl 5 rfl) ?_
    refine lv_iconst (v := 2) hx hb dL_told_151 (by decide) ?_
    refine lr_f (rL (rest := [.float (u 2)]) ⟨hx, hb, hml, hown, hts⟩ (LB_speed l G cA A o (u, v, f, g, L) n K ch 2) (cwV 1 hts gL_told_X8_speed rfl rfl rfl mdX8_speed ⟨Nat.le_of_ble_eq_true rfl, Nat.le_of_ble_eq_true rfl⟩) hA hL rfl hl rfl (Nat.le_of_ble_eq_true rfl) dL_told_152 ⟨Nat.le_of_ble_eq_true rfl, Nat.le_of_ble_eq_true rfl⟩) hA hL (fun r_152 H locs hr_152 hA hL => ?_)
    replace hr_152 : r_152 = u 2 := hr_152
    subst hr_152
    refine lv_goto (tgt := 163) hx hb dL_told_155 (by decide) ?_
    refine lv_fcmp hx hb dL_told_163 ?_
    refine lv_if_ne (tgt := 213) hx hb dL_told_164 (by decide) (fun c_164_1 => absurd hT.2.2.2.2.1.2 c_164_1) (fun c_164_1 => ?_)
    refine lv_aload_n hx hb dL_told_167 rfl (lv_at hl 5 rfl) ?_
    refine lv_iconst (v := 4) hx hb dL_told_168 (by decide) ?_
    refine lr_f (rL (rest := []) ⟨hx, hb, hml, hown, hts⟩ (LB_speed l G cA A o (u, v, f, g, L) n K ch 4) (cwV 1 hts gL_told_X8_speed rfl rfl rfl mdX8_speed ⟨Nat.le_of_ble_eq_true rfl, Nat.le_of_ble_eq_true rfl⟩) hA hL rfl hl rfl (Nat.le_of_ble_eq_true rfl) dL_told_169 ⟨Nat.le_of_ble_eq_true rfl, Nat.le_of_ble_eq_true rfl⟩) hA hL (fun r_169_1 H locs hr_169_1 hA hL => ?_)
    replace hr_169_1 : r_169_1 = nanF := hr_169_1
    subst hr_169_1
    refine lr_i (rS (rest := []) ⟨hx, hb, hml, hown, hts⟩ (cL_isNone_ok l G cA nanF) (va_cwS 1 hts gL_told_L_isNone rfl rfl rfl mdL_isNone.2 ⟨Nat.le_of_ble_eq_true rfl, Nat.le_of_ble_eq_true rfl⟩) hA.1 empP empD rfl hl rfl (Nat.le_of_ble_eq_true rfl) dL_told_172 ⟨Nat.le_of_ble_eq_true rfl, Nat.le_of_ble_eq_true rfl⟩) hA hL (fun r_172_1 H locs hr_172_1 hA hL => ?_)
    rw [nn_nan] at hr_172_1
    subst hr_172_1
    refine lv_if_eq (tgt := 213) hx hb dL_told_175 (by decide) (fun h9 => absurd h9 (by decide)) (fun _ => ?_)
    refine lv_aload_n hx hb dL_told_178 rfl (lv_at hl 5 rfl) ?_
    refine lv_iconst (v := 4) hx hb dL_told_179 (by decide) ?_
    refine lr_f (rL (rest := []) ⟨hx, hb, hml, hown, hts⟩ (LB_weight l G cA A o (u, v, f, g, L) n K ch 4 ) (cwV 1 hts gL_told_X8_weight rfl rfl rfl mdX8_weight ⟨Nat.le_of_ble_eq_true rfl, Nat.le_of_ble_eq_true rfl⟩) hA hL rfl hl rfl (Nat.le_of_ble_eq_true rfl) dL_told_180 ⟨Nat.le_of_ble_eq_true rfl, Nat.le_of_ble_eq_true rfl⟩) hA hL (fun r_180_1 H locs hr_180_1 hA hL => ?_)
    replace hr_180_1 : r_180_1 = nanF := hr_180_1
    subst hr_180_1
    refine lr_i (rS (rest := []) ⟨hx, hb, hml, hown, hts⟩ (cL_isNone_ok l G cA nanF) (va_cwS 1 hts gL_told_L_isNone rfl rfl rfl mdL_isNone.2 ⟨Nat.le_of_ble_eq_true rfl, Nat.le_of_ble_eq_true rfl⟩) hA.1 empP empD rfl hl rfl (Nat.le_of_ble_eq_true rfl) dL_told_183 ⟨Nat.le_of_ble_eq_true rfl, Nat.le_of_ble_eq_true rfl⟩) hA hL (fun r_183_1 H locs hr_183_1 hA hL => ?_)
    rw [nn_nan] at hr_183_1
    subst hr_183_1
    refine lv_if_eq (tgt := 213) hx hb dL_told_186 (by decide) (fun h9 => absurd h9 (by decide)) (fun _ => ?_)
    refine lv_aload_n hx hb dL_told_189 rfl (lv_at hl 5 rfl) ?_
    refine lv_iconst (v := (-1)) hx hb dL_told_190 (by decide) ?_
    refine lr_f (rL (rest := []) ⟨hx, hb, hml, hown, hts⟩ (LB_score l G cA A o (u, v, f, g, L) n K ch (-1) hLk (fun h9 => absurd (by decide) h9)) (cwV 1 hts gL_told_X8_score rfl rfl rfl mdX8_score ⟨Nat.le_of_ble_eq_true rfl, Nat.le_of_ble_eq_true rfl⟩) hA hL rfl hl rfl (Nat.le_of_ble_eq_true rfl) dL_told_191 ⟨Nat.le_of_ble_eq_true rfl, Nat.le_of_ble_eq_true rfl⟩) hA hL (fun r_191_1 H locs hr_191_1 hA hL => ?_)
    replace hr_191_1 : r_191_1 = nanF := hr_191_1
    subst hr_191_1
    refine lr_i (rS (rest := []) ⟨hx, hb, hml, hown, hts⟩ (cL_isNone_ok l G cA nanF) (va_cwS 1 hts gL_told_L_isNone rfl rfl rfl mdL_isNone.2 ⟨Nat.le_of_ble_eq_true rfl, Nat.le_of_ble_eq_true rfl⟩) hA.1 empP empD rfl hl rfl (Nat.le_of_ble_eq_true rfl) dL_told_194 ⟨Nat.le_of_ble_eq_true rfl, Nat.le_of_ble_eq_true rfl⟩) hA hL (fun r_194_1 H locs hr_194_1 hA hL => ?_)
    rw [nn_nan] at hr_194_1
    subst hr_194_1
    refine lv_if_eq (tgt := 213) hx hb dL_told_197 (by decide) (fun h9 => absurd h9 (by decide)) (fun _ => ?_)
    refine lv_aload_n hx hb dL_told_200 rfl (lv_at hl 5 rfl) ?_
    refine lv_iconst (v := 5) hx hb dL_told_201 (by decide) ?_
    refine lr_i (rL (rest := []) ⟨hx, hb, hml, hown, hts⟩ (LB_number l G cA A o (u, v, f, g, L) n K ch 5 ) (cwV 1 hts gL_told_X8_number rfl rfl rfl mdX8_number ⟨Nat.le_of_ble_eq_true rfl, Nat.le_of_ble_eq_true rfl⟩) hA hL rfl hl rfl (Nat.le_of_ble_eq_true rfl) dL_told_202 ⟨Nat.le_of_ble_eq_true rfl, Nat.le_of_ble_eq_true rfl⟩) hA hL (fun r_202_1 H locs hr_202_1 hA hL => ?_)
    replace hr_202_1 : r_202_1 = (-1) := hr_202_1
    subst hr_202_1
    refine lv_iconst (v := (-1)) hx hb dL_told_205 (by decide) ?_
    refine lv_icmp_ne (tgt := 213) hx hb dL_told_206 (by decide) (fun h9 => absurd (by decide) h9) (fun _ => ?_)
    refine lv_iconst (v := 1) hx hb dL_told_209 (by decide) ?_
    refine lv_goto (tgt := 214) hx hb dL_told_210 (by decide) ?_
    refine lv_istore (lv' := [(6, .int 1), (5, .int 1), (4, .int 1), (3, .int 1), (2, .float (f 7)), (1, .int 1), (0, .ref o)]) hx hb dL_told_214 hl (by decide) rfl (fun ls hl => ?_)
    refine lv_aload_n hx hb dL_told_216 rfl (lv_at hl 6 rfl) ?_
    refine lv_iconst (v := 1) hx hb dL_told_217 (by decide) ?_
    refine lr_i (rL (rest := []) ⟨hx, hb, hml, hown, hts⟩ (LB_count l G cA A o (u, v, f, g, L) n K ch 1 ) (cwV 1 hts gL_told_X8_count rfl rfl rfl mdX8_count ⟨Nat.le_of_ble_eq_true rfl, Nat.le_of_ble_eq_true rfl⟩) hA hL rfl hl rfl (Nat.le_of_ble_eq_true rfl) dL_told_218 ⟨Nat.le_of_ble_eq_true rfl, Nat.le_of_ble_eq_true rfl⟩) hA hL (fun r_218_1 H locs hr_218_1 hA hL => ?_)
    replace hr_218_1 : r_218_1 = g 19 := hr_218_1
    subst hr_218_1
    refine lv_aload_n hx hb dL_told_221 rfl (lv_at hl 6 rfl) ?_
    refine lv_iconst (v := 2) hx hb dL_told_222 (by decide) ?_
    refine lr_i (rL (rest := [.int (g 19)]) ⟨hx, hb, hml, hown, hts⟩ (LB_count l G cA A o (u, v, f, g, L) n K ch 2 ) (cwV 1 hts gL_told_X8_count rfl rfl rfl mdX8_count ⟨Nat.le_of_ble_eq_true rfl, Nat.le_of_ble_eq_true rfl⟩) hA hL rfl hl rfl (Nat.le_of_ble_eq_true rfl) dL_told_223 ⟨Nat.le_of_ble_eq_true rfl, Nat.le_of_ble_eq_true rfl⟩) hA hL (fun r_223_1 H locs hr_223_1 hA hL => ?_)
    replace hr_223_1 : r_223_1 = g 20 := hr_223_1
    subst hr_223_1
    refine lv_iadd hx hb dL_told_226 ?_
    refine lv_aload_n hx hb dL_told_227 rfl (lv_at hl 6 rfl) ?_
    refine lv_iconst (v := 3) hx hb dL_told_228 (by decide) ?_
    refine lr_i (rL (rest := [.int ((g 19) + (g 20))]) ⟨hx, hb, hml, hown, hts⟩ (LB_count l G cA A o (u, v, f, g, L) n K ch 3 ) (cwV 1 hts gL_told_X8_count rfl rfl rfl mdX8_count ⟨Nat.le_of_ble_eq_true rfl, Nat.le_of_ble_eq_true rfl⟩) hA hL rfl hl rfl (Nat.le_of_ble_eq_true rfl) dL_told_229 ⟨Nat.le_of_ble_eq_true rfl, Nat.le_of_ble_eq_true rfl⟩) hA hL (fun r_229_1 H locs hr_229_1 hA hL => ?_)
    replace hr_229_1 : r_229_1 = g 21 := hr_229_1
    subst hr_229_1
    refine lv_iadd hx hb dL_told_232 ?_
    refine lv_aload_n hx hb dL_told_233 rfl (lv_at hl 6 rfl) ?_
    refine lv_iconst (v := 4) hx hb dL_told_234 (by decide) ?_
    refine lr_i (rL (rest := [.int (((g 19) + (g 20)) + (g 21))]) ⟨hx, hb, hml, hown, hts⟩ (LB_count l G cA A o (u, v, f, g, L) n K ch 4 ) (cwV 1 hts gL_told_X8_count rfl rfl rfl mdX8_count ⟨Nat.le_of_ble_eq_true rfl, Nat.le_of_ble_eq_true rfl⟩) hA hL rfl hl rfl (Nat.le_of_ble_eq_true rfl) dL_told_235 ⟨Nat.le_of_ble_eq_true rfl, Nat.le_of_ble_eq_true rfl⟩) hA hL (fun r_235_1 H locs hr_235_1 hA hL => ?_)
    replace hr_235_1 : r_235_1 = g 22 := hr_235_1
    subst hr_235_1
    refine lv_iadd hx hb dL_told_238 ?_
    rw [hJ]
    refine lv_istore (lv' := [(7, .int (nI J)), (6, .int 1), (5, .int 1), (4, .int 1), (3, .int 1), (2, .float (f 7)), (1, .int 1), (0, .ref o)]) hx hb dL_told_239 hl (by decide) rfl (fun ls hl => ?_)
    refine lv_iload hx hb dL_told_241 (lv_at hl 0 rfl) ?_
    refine lv_bipush (v := 10) hx hb dL_told_243 (by decide) ?_
    refine lv_icmp_ge (tgt := 253) hx hb dL_told_245 (by decide) (fun c_245_1 => ?_) (fun c_245_1 => ?_)
    · skip
      refine lv_bipush (v := 10) hx hb dL_told_253 (by decide) ?_
      have hRR : R = 10 := by rw [hRd, if_neg (by have := (nI_leI (a := 10) (b := J) (by decide) hJ31).mp c_245_1; omega)]
      refine W.eq (g2 := F0 m 255 ls [.int (nI R)]) (by rw [hRR]; rfl) ?_
      refine lv_istore (lv' := [(8, .int (nI R)), (7, .int (nI J)), (6, .int 1), (5, .int 1), (4, .int 1), (3, .int 1), (2, .float (f 7)), (1, .int 1), (0, .ref o)]) hx hb dL_told_255 hl (by decide) rfl (fun ls hl => ?_)
      refine lv_iconst (v := 0) hx hb dL_told_257 (by decide) ?_
      refine lv_istore (lv' := [(9, .int 0), (8, .int (nI R)), (7, .int (nI J)), (6, .int 1), (5, .int 1), (4, .int 1), (3, .int 1), (2, .float (f 7)), (1, .int 1), (0, .ref o)]) hx hb dL_told_258 hl (by decide) rfl (fun ls hl => ?_)
      obtain ⟨i, hi0⟩ : ∃ i : Nat, i = 0 := ⟨_, rfl⟩
      replace hl : lv_has ls 12 [(9, .int (nI i)), (8, .int (nI R)), (7, .int (nI J)), (6, .int 1), (5, .int 1), (4, .int 1), (3, .int 1), (2, .float (f 7)), (1, .int 1), (0, .ref o)] := by rw [hi0]; exact hl
      obtain ⟨nn, hn⟩ : ∃ nn : Nat, R < i + nn := ⟨R + 1, by omega⟩
      have hi : i ≤ R := by omega
      clear hi0
      revert hl
      revert hL
      revert hA
      revert hi
      revert hn
      revert ls
      revert locs
      revert H
      revert i
      induction nn with
      | zero => intro i H locs ls hn hi; exact absurd hn (by omega)
      | succ nn ih =>
        intro i H locs ls hn hi hA hL hl
        refine lv_iload hx hb dL_told_260 (lv_at hl 0 rfl) ?_
        refine lv_iload hx hb dL_told_262 (lv_at hl 1 rfl) ?_
        refine lv_icmp_ge (tgt := 403) hx hb dL_told_264 (by decide) (fun c_264_2 => ?_) (fun c_264_2 => ?_)
        · skip
          obtain rfl : R = i := (eq_of_le hi (by omega) c_264_2).symm
          refine lv_iload_n hx hb dL_told_403 rfl (lv_at hl 6 rfl) ?_
          refine lv_if_eq (tgt := 462) hx hb dL_told_404 (by decide) (fun h9 => absurd h9 (by decide)) (fun _ => ?_)
          refine lv_iload hx hb dL_told_407 (lv_at hl 5 rfl) ?_
          refine lv_if_eq (tgt := 462) hx hb dL_told_409 (by decide) (fun h9 => absurd h9 (by decide)) (fun _ => ?_)
          refine lv_iload hx hb dL_told_412 (lv_at hl 3 rfl) ?_
          refine lv_if_eq (tgt := 462) hx hb dL_told_414 (by decide) (fun h9 => absurd h9 (by decide)) (fun _ => ?_)
          refine lv_aload_n hx hb dL_told_417 rfl (lv_at hl 9 rfl) ?_
          refine lv_iload hx hb dL_told_418 (lv_at hl 1 rfl) ?_
          refine lv_iconst (v := 0) hx hb dL_told_420 (by decide) ?_
          refine lr_i (rL (rest := []) ⟨hx, hb, hml, hown, hts⟩ (LB_judged l G cA A o (u, v, f, g, L) n K ch (nI R) 0 ) (cwV 2 hts gL_told_X8_judged rfl rfl rfl mdX8_judged ⟨Nat.le_of_ble_eq_true rfl, Nat.le_of_ble_eq_true rfl⟩) hA hL rfl hl rfl (Nat.le_of_ble_eq_true rfl) dL_told_421 ⟨Nat.le_of_ble_eq_true rfl, Nat.le_of_ble_eq_true rfl⟩) hA hL (fun r_421_2 H locs hr_421_2 hA hL => ?_)
          rw [ju_end hR10 h18] at hr_421_2
          subst hr_421_2
          refine lv_bipush (v := (-5)) hx hb dL_told_424 (by decide) ?_
          refine lv_icmp_ne (tgt := 462) hx hb dL_told_426 (by decide) (fun h9 => absurd (by decide) h9) (fun _ => ?_)
          refine lv_aload_n hx hb dL_told_429 rfl (lv_at hl 9 rfl) ?_
          refine lv_iconst (v := (-1)) hx hb dL_told_430 (by decide) ?_
          refine lv_iconst (v := 0) hx hb dL_told_431 (by decide) ?_
          refine lr_i (rL (rest := []) ⟨hx, hb, hml, hown, hts⟩ (LB_judged l G cA A o (u, v, f, g, L) n K ch (-1) 0 ) (cwV 2 hts gL_told_X8_judged rfl rfl rfl mdX8_judged ⟨Nat.le_of_ble_eq_true rfl, Nat.le_of_ble_eq_true rfl⟩) hA hL rfl hl rfl (Nat.le_of_ble_eq_true rfl) dL_told_432 ⟨Nat.le_of_ble_eq_true rfl, Nat.le_of_ble_eq_true rfl⟩) hA hL (fun r_432_2 H locs hr_432_2 hA hL => ?_)
          replace hr_432_2 : r_432_2 = (-2) := hr_432_2
          subst hr_432_2
          refine lv_bipush (v := (-2)) hx hb dL_told_435 (by decide) ?_
          refine lv_icmp_ne (tgt := 462) hx hb dL_told_437 (by decide) (fun h9 => absurd (by decide) h9) (fun _ => ?_)
          refine lv_aload_n hx hb dL_told_440 rfl (lv_at hl 9 rfl) ?_
          refine lv_iconst (v := 0) hx hb dL_told_441 (by decide) ?_
          refine lv_iconst (v := 5) hx hb dL_told_442 (by decide) ?_
          refine lr_i (rL (rest := []) ⟨hx, hb, hml, hown, hts⟩ (LB_judged l G cA A o (u, v, f, g, L) n K ch 0 5 ) (cwV 2 hts gL_told_X8_judged rfl rfl rfl mdX8_judged ⟨Nat.le_of_ble_eq_true rfl, Nat.le_of_ble_eq_true rfl⟩) hA hL rfl hl rfl (Nat.le_of_ble_eq_true rfl) dL_told_443 ⟨Nat.le_of_ble_eq_true rfl, Nat.le_of_ble_eq_true rfl⟩) hA hL (fun r_443_2 H locs hr_443_2 hA hL => ?_)
          replace hr_443_2 : r_443_2 = (-2) := hr_443_2
          subst hr_443_2
          refine lv_bipush (v := (-2)) hx hb dL_told_446 (by decide) ?_
          refine lv_icmp_ne (tgt := 462) hx hb dL_told_448 (by decide) (fun h9 => absurd (by decide) h9) (fun _ => ?_)
          refine lv_aload_n hx hb dL_told_451 rfl (lv_at hl 9 rfl) ?_
          refine lw_i (rLS (rest := []) ⟨hx, hb, hml, hown, hts⟩ (hTh) (va_cwS 1 hts gL_told_L_thing rfl rfl rfl mdL_thing.2 ⟨Nat.le_of_ble_eq_true rfl, Nat.le_of_ble_eq_true rfl⟩) hA hL rfl hl rfl (Nat.le_of_ble_eq_true rfl) dL_told_452 ⟨Nat.le_of_ble_eq_true rfl, Nat.le_of_ble_eq_true rfl⟩) hA (fun r_452_2 _ H locs hr_452_2 hA hL => ?_)
          replace hL : LB G cA A o (u, v, f, g, L) n K ch H := hL
          subst hr_452_2
          refine lv_if_eq (tgt := 462) hx hb dL_told_455 (by decide) (fun h9 => absurd h9 (by decide)) (fun _ => ?_)
          refine lv_iconst (v := 1) hx hb dL_told_458 (by decide) ?_
          refine lv_goto (tgt := 463) hx hb dL_told_459 (by decide) ?_
          exact en_l (post := fun r (_ : Unit) => r = 1) (B := fun _ H => LB G cA A o (u, v, f, g, L) n K ch H) () hx hb hr hlocks hA rfl hL dL_told_463
        · skip
          have hlt : i < R := lt_of_nle hi (by omega) c_264_2
          have h8 := hT.2.2.2.2.2.2 i hlt
          refine lv_aload_n hx hb dL_told_267 rfl (lv_at hl 9 rfl) ?_
          refine lv_iload hx hb dL_told_268 (lv_at hl 0 rfl) ?_
          refine lv_iconst (v := 0) hx hb dL_told_270 (by decide) ?_
          refine lr_i (rL (rest := []) ⟨hx, hb, hml, hown, hts⟩ (LB_judged l G cA A o (u, v, f, g, L) n K ch (nI i) 0 ) (cwV 2 hts gL_told_X8_judged rfl rfl rfl mdX8_judged ⟨Nat.le_of_ble_eq_true rfl, Nat.le_of_ble_eq_true rfl⟩) hA hL rfl hl rfl (Nat.le_of_ble_eq_true rfl) dL_told_271 ⟨Nat.le_of_ble_eq_true rfl, Nat.le_of_ble_eq_true rfl⟩) hA hL (fun r_271_2 H locs hr_271_2 hA hL => ?_)
          replace hr_271_2 : r_271_2 = L (i * 5 + 0) := hr_271_2.trans (ju_at 0 (by decide) hlt hR10 h18)
          subst hr_271_2
          refine lv_if_lt (tgt := 326) hx hb dL_told_274 (by decide) (fun c_274_2 => absurd c_274_2 h8.1) (fun c_274_2 => ?_)
          refine lv_aload_n hx hb dL_told_277 rfl (lv_at hl 9 rfl) ?_
          refine lv_iload hx hb dL_told_278 (lv_at hl 0 rfl) ?_
          refine lv_iconst (v := 0) hx hb dL_told_280 (by decide) ?_
          refine lr_i (rL (rest := []) ⟨hx, hb, hml, hown, hts⟩ (LB_judged l G cA A o (u, v, f, g, L) n K ch (nI i) 0 ) (cwV 2 hts gL_told_X8_judged rfl rfl rfl mdX8_judged ⟨Nat.le_of_ble_eq_true rfl, Nat.le_of_ble_eq_true rfl⟩) hA hL rfl hl rfl (Nat.le_of_ble_eq_true rfl) dL_told_281 ⟨Nat.le_of_ble_eq_true rfl, Nat.le_of_ble_eq_true rfl⟩) hA hL (fun r_281_2 H locs hr_281_2 hA hL => ?_)
          replace hr_281_2 : r_281_2 = L (i * 5 + 0) := hr_281_2.trans (ju_at 0 (by decide) hlt hR10 h18)
          subst hr_281_2
          refine lv_iconst (v := 3) hx hb dL_told_284 (by decide) ?_
          refine lv_icmp_gt (tgt := 326) hx hb dL_told_285 (by decide) (fun c_285_2 => absurd c_285_2 h8.2.1) (fun c_285_2 => ?_)
          refine lv_aload_n hx hb dL_told_288 rfl (lv_at hl 9 rfl) ?_
          refine lv_iload hx hb dL_told_289 (lv_at hl 0 rfl) ?_
          refine lv_iconst (v := 2) hx hb dL_told_291 (by decide) ?_
          refine lr_i (rL (rest := []) ⟨hx, hb, hml, hown, hts⟩ (LB_judged l G cA A o (u, v, f, g, L) n K ch (nI i) 2 ) (cwV 2 hts gL_told_X8_judged rfl rfl rfl mdX8_judged ⟨Nat.le_of_ble_eq_true rfl, Nat.le_of_ble_eq_true rfl⟩) hA hL rfl hl rfl (Nat.le_of_ble_eq_true rfl) dL_told_292 ⟨Nat.le_of_ble_eq_true rfl, Nat.le_of_ble_eq_true rfl⟩) hA hL (fun r_292_2 H locs hr_292_2 hA hL => ?_)
          replace hr_292_2 : r_292_2 = L (i * 5 + 2) := hr_292_2.trans (ju_at 2 (by decide) hlt hR10 h18)
          subst hr_292_2
          refine lv_iconst (v := 1) hx hb dL_told_295 (by decide) ?_
          refine lv_icmp_lt (tgt := 326) hx hb dL_told_296 (by decide) (fun c_296_2 => absurd c_296_2 h8.2.2.1) (fun c_296_2 => ?_)
          refine lv_aload_n hx hb dL_told_299 rfl (lv_at hl 9 rfl) ?_
          refine lv_iload hx hb dL_told_300 (lv_at hl 0 rfl) ?_
          refine lv_iconst (v := 3) hx hb dL_told_302 (by decide) ?_
          refine lr_i (rL (rest := []) ⟨hx, hb, hml, hown, hts⟩ (LB_judged l G cA A o (u, v, f, g, L) n K ch (nI i) 3 ) (cwV 2 hts gL_told_X8_judged rfl rfl rfl mdX8_judged ⟨Nat.le_of_ble_eq_true rfl, Nat.le_of_ble_eq_true rfl⟩) hA hL rfl hl rfl (Nat.le_of_ble_eq_true rfl) dL_told_303 ⟨Nat.le_of_ble_eq_true rfl, Nat.le_of_ble_eq_true rfl⟩) hA hL (fun r_303_2 H locs hr_303_2 hA hL => ?_)
          replace hr_303_2 : r_303_2 = L (i * 5 + 3) := hr_303_2.trans (ju_at 3 (by decide) hlt hR10 h18)
          subst hr_303_2
          refine lv_iconst (v := 1) hx hb dL_told_306 (by decide) ?_
          refine lv_icmp_lt (tgt := 326) hx hb dL_told_307 (by decide) (fun c_307_2 => absurd c_307_2 h8.2.2.2.1) (fun c_307_2 => ?_)
          refine lv_aload_n hx hb dL_told_310 rfl (lv_at hl 9 rfl) ?_
          refine lv_iload hx hb dL_told_311 (lv_at hl 0 rfl) ?_
          refine lv_iconst (v := 3) hx hb dL_told_313 (by decide) ?_
          refine lr_i (rL (rest := []) ⟨hx, hb, hml, hown, hts⟩ (LB_judged l G cA A o (u, v, f, g, L) n K ch (nI i) 3 ) (cwV 2 hts gL_told_X8_judged rfl rfl rfl mdX8_judged ⟨Nat.le_of_ble_eq_true rfl, Nat.le_of_ble_eq_true rfl⟩) hA hL rfl hl rfl (Nat.le_of_ble_eq_true rfl) dL_told_314 ⟨Nat.le_of_ble_eq_true rfl, Nat.le_of_ble_eq_true rfl⟩) hA hL (fun r_314_2 H locs hr_314_2 hA hL => ?_)
          replace hr_314_2 : r_314_2 = L (i * 5 + 3) := hr_314_2.trans (ju_at 3 (by decide) hlt hR10 h18)
          subst hr_314_2
          refine lv_bipush (v := 7) hx hb dL_told_317 (by decide) ?_
          refine lv_icmp_gt (tgt := 326) hx hb dL_told_319 (by decide) (fun c_319_2 => absurd c_319_2 h8.2.2.2.2.1) (fun c_319_2 => ?_)
          refine lv_iconst (v := 1) hx hb dL_told_322 (by decide) ?_
          refine lv_goto (tgt := 327) hx hb dL_told_323 (by decide) ?_
          refine lv_istore (lv' := [(10, .int 1), (9, .int (nI i)), (8, .int (nI R)), (7, .int (nI J)), (6, .int 1), (5, .int 1), (4, .int 1), (3, .int 1), (2, .float (f 7)), (1, .int 1), (0, .ref o)]) hx hb dL_told_327 hl (by decide) rfl (fun ls hl => ?_)
          refine lv_aload_n hx hb dL_told_329 rfl (lv_at hl 10 rfl) ?_
          refine lv_iload hx hb dL_told_330 (lv_at hl 1 rfl) ?_
          refine lv_iconst (v := 4) hx hb dL_told_332 (by decide) ?_
          refine lr_i (rL (rest := []) ⟨hx, hb, hml, hown, hts⟩ (LB_judged l G cA A o (u, v, f, g, L) n K ch (nI i) 4 ) (cwV 2 hts gL_told_X8_judged rfl rfl rfl mdX8_judged ⟨Nat.le_of_ble_eq_true rfl, Nat.le_of_ble_eq_true rfl⟩) hA hL rfl hl rfl (Nat.le_of_ble_eq_true rfl) dL_told_333 ⟨Nat.le_of_ble_eq_true rfl, Nat.le_of_ble_eq_true rfl⟩) hA hL (fun r_333_2 H locs hr_333_2 hA hL => ?_)
          replace hr_333_2 : r_333_2 = L (i * 5 + 4) := hr_333_2.trans (ju_at 4 (by decide) hlt hR10 h18)
          subst hr_333_2
          refine lv_aload_n hx hb dL_told_336 rfl (lv_at hl 10 rfl) ?_
          refine lv_iload hx hb dL_told_337 (lv_at hl 1 rfl) ?_
          refine lv_iconst (v := 1) hx hb dL_told_339 (by decide) ?_
          refine lr_i (rL (rest := [.int (L (i * 5 + 4))]) ⟨hx, hb, hml, hown, hts⟩ (LB_judged l G cA A o (u, v, f, g, L) n K ch (nI i) 1 ) (cwV 2 hts gL_told_X8_judged rfl rfl rfl mdX8_judged ⟨Nat.le_of_ble_eq_true rfl, Nat.le_of_ble_eq_true rfl⟩) hA hL rfl hl rfl (Nat.le_of_ble_eq_true rfl) dL_told_340 ⟨Nat.le_of_ble_eq_true rfl, Nat.le_of_ble_eq_true rfl⟩) hA hL (fun r_340_2 H locs hr_340_2 hA hL => ?_)
          replace hr_340_2 : r_340_2 = L (i * 5 + 1) := hr_340_2.trans (ju_at 1 (by decide) hlt hR10 h18)
          subst hr_340_2
          refine lv_aload_n hx hb dL_told_343 rfl (lv_at hl 10 rfl) ?_
          refine lv_iload hx hb dL_told_344 (lv_at hl 1 rfl) ?_
          refine lv_iconst (v := 2) hx hb dL_told_346 (by decide) ?_
          refine lr_i (rL (rest := [.int (L (i * 5 + 1)), .int (L (i * 5 + 4))]) ⟨hx, hb, hml, hown, hts⟩ (LB_judged l G cA A o (u, v, f, g, L) n K ch (nI i) 2 ) (cwV 2 hts gL_told_X8_judged rfl rfl rfl mdX8_judged ⟨Nat.le_of_ble_eq_true rfl, Nat.le_of_ble_eq_true rfl⟩) hA hL rfl hl rfl (Nat.le_of_ble_eq_true rfl) dL_told_347 ⟨Nat.le_of_ble_eq_true rfl, Nat.le_of_ble_eq_true rfl⟩) hA hL (fun r_347_2 H locs hr_347_2 hA hL => ?_)
          replace hr_347_2 : r_347_2 = L (i * 5 + 2) := hr_347_2.trans (ju_at 2 (by decide) hlt hR10 h18)
          subst hr_347_2
          refine lv_iadd hx hb dL_told_350 ?_
          refine lv_icmp_lt (tgt := 382) hx hb dL_told_351 (by decide) (fun c_351_2 => absurd c_351_2 h8.2.2.2.2.2.1) (fun c_351_2 => ?_)
          refine lv_iload hx hb dL_told_354 (lv_at hl 1 rfl) ?_
          refine lv_if_eq (tgt := 378) hx hb dL_told_356 (by decide) (fun c_356_2 => ?_) (fun c_356_2 => ?_)
          · skip
            refine lv_iconst (v := 1) hx hb dL_told_378 (by decide) ?_
            refine lv_goto (tgt := 383) hx hb dL_told_379 (by decide) ?_
            refine lv_istore (lv' := [(11, .int 1), (10, .int 1), (9, .int (nI i)), (8, .int (nI R)), (7, .int (nI J)), (6, .int 1), (5, .int 1), (4, .int 1), (3, .int 1), (2, .float (f 7)), (1, .int 1), (0, .ref o)]) hx hb dL_told_383 hl (by decide) rfl (fun ls hl => ?_)
            refine lv_iload hx hb dL_told_385 (lv_at hl 1 rfl) ?_
            refine lv_if_eq (tgt := 395) hx hb dL_told_387 (by decide) (fun h9 => absurd h9 (by decide)) (fun _ => ?_)
            refine lv_iload hx hb dL_told_390 (lv_at hl 0 rfl) ?_
            refine lv_if_ne (tgt := 397) hx hb dL_told_392 (by decide) (fun _ => ?_) (fun h9 => absurd h9 (by decide))
            refine lv_iinc (v := ((nI i) + 1)) (lv' := [(9, .int ((nI i) + 1)), (11, .int 1), (10, .int 1), (8, .int (nI R)), (7, .int (nI J)), (6, .int 1), (5, .int 1), (4, .int 1), (3, .int 1), (2, .float (f 7)), (1, .int 1), (0, .ref o)]) hx hb dL_told_397 hl (k := 2) rfl rfl (by decide) rfl (fun ls hl => ?_)
            refine lv_goto (tgt := 260) hx hb dL_told_400 (by decide) ?_
            replace hl : lv_has ls 12 [(9, .int (nI (i + 1))), (11, .int 1), (10, .int 1), (8, .int (nI R)), (7, .int (nI J)), (6, .int 1), (5, .int 1), (4, .int 1), (3, .int 1), (2, .float (f 7)), (1, .int 1), (0, .ref o)] := by rw [← nI_1]; exact hl
            exact ih (i + 1) _ _ _ (by omega) (by omega) hA hL (lv_sub hl [0, 3, 4, 5, 6, 7, 8, 9, 10, 11] rfl)
          · skip
            refine lv_aload_n hx hb dL_told_359 rfl (lv_at hl 10 rfl) ?_
            refine lv_iload hx hb dL_told_360 (lv_at hl 1 rfl) ?_
            refine lv_iconst (v := 4) hx hb dL_told_362 (by decide) ?_
            refine lr_i (rL (rest := []) ⟨hx, hb, hml, hown, hts⟩ (LB_judged l G cA A o (u, v, f, g, L) n K ch (nI i) 4 ) (cwV 2 hts gL_told_X8_judged rfl rfl rfl mdX8_judged ⟨Nat.le_of_ble_eq_true rfl, Nat.le_of_ble_eq_true rfl⟩) hA hL rfl hl rfl (Nat.le_of_ble_eq_true rfl) dL_told_363 ⟨Nat.le_of_ble_eq_true rfl, Nat.le_of_ble_eq_true rfl⟩) hA hL (fun r_363_2 H locs hr_363_2 hA hL => ?_)
            replace hr_363_2 : r_363_2 = L (i * 5 + 4) := hr_363_2.trans (ju_at 4 (by decide) hlt hR10 h18)
            subst hr_363_2
            refine lv_aload_n hx hb dL_told_366 rfl (lv_at hl 10 rfl) ?_
            refine lv_iload hx hb dL_told_367 (lv_at hl 1 rfl) ?_
            refine lv_iconst (v := 1) hx hb dL_told_369 (by decide) ?_
            refine lv_isub hx hb dL_told_370 ?_
            refine lv_iconst (v := 1) hx hb dL_told_371 (by decide) ?_
            refine lr_i (rL (rest := [.int (L (i * 5 + 4))]) ⟨hx, hb, hml, hown, hts⟩ (LB_judged l G cA A o (u, v, f, g, L) n K ch ((nI i) - 1) 1 ) (cwV 2 hts gL_told_X8_judged rfl rfl rfl mdX8_judged ⟨Nat.le_of_ble_eq_true rfl, Nat.le_of_ble_eq_true rfl⟩) hA hL rfl hl rfl (Nat.le_of_ble_eq_true rfl) dL_told_372 ⟨Nat.le_of_ble_eq_true rfl, Nat.le_of_ble_eq_true rfl⟩) hA hL (fun r_372_2 H locs hr_372_2 hA hL => ?_)
            rw [(pred_of c_356_2).2] at hr_372_2
            replace hr_372_2 : r_372_2 = L ((i - 1) * 5 + 1) := hr_372_2.trans (ju_at 1 (by decide) (by omega) hR10 h18)
            subst hr_372_2
            refine lv_icmp_ge (tgt := 382) hx hb dL_told_375 (by decide) (fun c_375_2 => absurd c_375_2 (h8.2.2.2.2.2.2 (pred_of c_356_2).1)) (fun c_375_2 => ?_)
            refine lv_iconst (v := 1) hx hb dL_told_378 (by decide) ?_
            refine lv_goto (tgt := 383) hx hb dL_told_379 (by decide) ?_
            refine lv_istore (lv' := [(11, .int 1), (10, .int 1), (9, .int (nI i)), (8, .int (nI R)), (7, .int (nI J)), (6, .int 1), (5, .int 1), (4, .int 1), (3, .int 1), (2, .float (f 7)), (1, .int 1), (0, .ref o)]) hx hb dL_told_383 hl (by decide) rfl (fun ls hl => ?_)
            refine lv_iload hx hb dL_told_385 (lv_at hl 1 rfl) ?_
            refine lv_if_eq (tgt := 395) hx hb dL_told_387 (by decide) (fun h9 => absurd h9 (by decide)) (fun _ => ?_)
            refine lv_iload hx hb dL_told_390 (lv_at hl 0 rfl) ?_
            refine lv_if_ne (tgt := 397) hx hb dL_told_392 (by decide) (fun _ => ?_) (fun h9 => absurd h9 (by decide))
            refine lv_iinc (v := ((nI i) + 1)) (lv' := [(9, .int ((nI i) + 1)), (11, .int 1), (10, .int 1), (8, .int (nI R)), (7, .int (nI J)), (6, .int 1), (5, .int 1), (4, .int 1), (3, .int 1), (2, .float (f 7)), (1, .int 1), (0, .ref o)]) hx hb dL_told_397 hl (k := 2) rfl rfl (by decide) rfl (fun ls hl => ?_)
            refine lv_goto (tgt := 260) hx hb dL_told_400 (by decide) ?_
            replace hl : lv_has ls 12 [(9, .int (nI (i + 1))), (11, .int 1), (10, .int 1), (8, .int (nI R)), (7, .int (nI J)), (6, .int 1), (5, .int 1), (4, .int 1), (3, .int 1), (2, .float (f 7)), (1, .int 1), (0, .ref o)] := by rw [← nI_1]; exact hl
            exact ih (i + 1) _ _ _ (by omega) (by omega) hA hL (lv_sub hl [0, 3, 4, 5, 6, 7, 8, 9, 10, 11] rfl)
    · skip
      refine lv_iload hx hb dL_told_248 (lv_at hl 0 rfl) ?_
      refine lv_goto (tgt := 255) hx hb dL_told_250 (by decide) ?_
      have hRR : R = J := by rw [hRd, if_pos (Nat.lt_of_not_le (fun h9 => c_245_1 ((nI_leI (a := 10) (b := J) (by decide) hJ31).mpr h9)))]
      refine W.eq (g2 := F0 m 255 ls [.int (nI R)]) (by rw [hRR]) ?_
      refine lv_istore (lv' := [(8, .int (nI R)), (7, .int (nI J)), (6, .int 1), (5, .int 1), (4, .int 1), (3, .int 1), (2, .float (f 7)), (1, .int 1), (0, .ref o)]) hx hb dL_told_255 hl (by decide) rfl (fun ls hl => ?_)
      refine lv_iconst (v := 0) hx hb dL_told_257 (by decide) ?_
      refine lv_istore (lv' := [(9, .int 0), (8, .int (nI R)), (7, .int (nI J)), (6, .int 1), (5, .int 1), (4, .int 1), (3, .int 1), (2, .float (f 7)), (1, .int 1), (0, .ref o)]) hx hb dL_told_258 hl (by decide) rfl (fun ls hl => ?_)
      obtain ⟨i, hi0⟩ : ∃ i : Nat, i = 0 := ⟨_, rfl⟩
      replace hl : lv_has ls 12 [(9, .int (nI i)), (8, .int (nI R)), (7, .int (nI J)), (6, .int 1), (5, .int 1), (4, .int 1), (3, .int 1), (2, .float (f 7)), (1, .int 1), (0, .ref o)] := by rw [hi0]; exact hl
      obtain ⟨nn, hn⟩ : ∃ nn : Nat, R < i + nn := ⟨R + 1, by omega⟩
      have hi : i ≤ R := by omega
      clear hi0
      revert hl
      revert hL
      revert hA
      revert hi
      revert hn
      revert ls
      revert locs
      revert H
      revert i
      induction nn with
      | zero => intro i H locs ls hn hi; exact absurd hn (by omega)
      | succ nn ih =>
        intro i H locs ls hn hi hA hL hl
        refine lv_iload hx hb dL_told_260 (lv_at hl 0 rfl) ?_
        refine lv_iload hx hb dL_told_262 (lv_at hl 1 rfl) ?_
        refine lv_icmp_ge (tgt := 403) hx hb dL_told_264 (by decide) (fun c_264_3 => ?_) (fun c_264_3 => ?_)
        · skip
          obtain rfl : R = i := (eq_of_le hi (by omega) c_264_3).symm
          refine lv_iload_n hx hb dL_told_403 rfl (lv_at hl 6 rfl) ?_
          refine lv_if_eq (tgt := 462) hx hb dL_told_404 (by decide) (fun h9 => absurd h9 (by decide)) (fun _ => ?_)
          refine lv_iload hx hb dL_told_407 (lv_at hl 5 rfl) ?_
          refine lv_if_eq (tgt := 462) hx hb dL_told_409 (by decide) (fun h9 => absurd h9 (by decide)) (fun _ => ?_)
          refine lv_iload hx hb dL_told_412 (lv_at hl 3 rfl) ?_
          refine lv_if_eq (tgt := 462) hx hb dL_told_414 (by decide) (fun h9 => absurd h9 (by decide)) (fun _ => ?_)
          refine lv_aload_n hx hb dL_told_417 rfl (lv_at hl 9 rfl) ?_
          refine lv_iload hx hb dL_told_418 (lv_at hl 1 rfl) ?_
          refine lv_iconst (v := 0) hx hb dL_told_420 (by decide) ?_
          refine lr_i (rL (rest := []) ⟨hx, hb, hml, hown, hts⟩ (LB_judged l G cA A o (u, v, f, g, L) n K ch (nI R) 0 ) (cwV 2 hts gL_told_X8_judged rfl rfl rfl mdX8_judged ⟨Nat.le_of_ble_eq_true rfl, Nat.le_of_ble_eq_true rfl⟩) hA hL rfl hl rfl (Nat.le_of_ble_eq_true rfl) dL_told_421 ⟨Nat.le_of_ble_eq_true rfl, Nat.le_of_ble_eq_true rfl⟩) hA hL (fun r_421_3 H locs hr_421_3 hA hL => ?_)
          rw [ju_end hR10 h18] at hr_421_3
          subst hr_421_3
          refine lv_bipush (v := (-5)) hx hb dL_told_424 (by decide) ?_
          refine lv_icmp_ne (tgt := 462) hx hb dL_told_426 (by decide) (fun h9 => absurd (by decide) h9) (fun _ => ?_)
          refine lv_aload_n hx hb dL_told_429 rfl (lv_at hl 9 rfl) ?_
          refine lv_iconst (v := (-1)) hx hb dL_told_430 (by decide) ?_
          refine lv_iconst (v := 0) hx hb dL_told_431 (by decide) ?_
          refine lr_i (rL (rest := []) ⟨hx, hb, hml, hown, hts⟩ (LB_judged l G cA A o (u, v, f, g, L) n K ch (-1) 0 ) (cwV 2 hts gL_told_X8_judged rfl rfl rfl mdX8_judged ⟨Nat.le_of_ble_eq_true rfl, Nat.le_of_ble_eq_true rfl⟩) hA hL rfl hl rfl (Nat.le_of_ble_eq_true rfl) dL_told_432 ⟨Nat.le_of_ble_eq_true rfl, Nat.le_of_ble_eq_true rfl⟩) hA hL (fun r_432_3 H locs hr_432_3 hA hL => ?_)
          replace hr_432_3 : r_432_3 = (-2) := hr_432_3
          subst hr_432_3
          refine lv_bipush (v := (-2)) hx hb dL_told_435 (by decide) ?_
          refine lv_icmp_ne (tgt := 462) hx hb dL_told_437 (by decide) (fun h9 => absurd (by decide) h9) (fun _ => ?_)
          refine lv_aload_n hx hb dL_told_440 rfl (lv_at hl 9 rfl) ?_
          refine lv_iconst (v := 0) hx hb dL_told_441 (by decide) ?_
          refine lv_iconst (v := 5) hx hb dL_told_442 (by decide) ?_
          refine lr_i (rL (rest := []) ⟨hx, hb, hml, hown, hts⟩ (LB_judged l G cA A o (u, v, f, g, L) n K ch 0 5 ) (cwV 2 hts gL_told_X8_judged rfl rfl rfl mdX8_judged ⟨Nat.le_of_ble_eq_true rfl, Nat.le_of_ble_eq_true rfl⟩) hA hL rfl hl rfl (Nat.le_of_ble_eq_true rfl) dL_told_443 ⟨Nat.le_of_ble_eq_true rfl, Nat.le_of_ble_eq_true rfl⟩) hA hL (fun r_443_3 H locs hr_443_3 hA hL => ?_)
          replace hr_443_3 : r_443_3 = (-2) := hr_443_3
          subst hr_443_3
          refine lv_bipush (v := (-2)) hx hb dL_told_446 (by decide) ?_
          refine lv_icmp_ne (tgt := 462) hx hb dL_told_448 (by decide) (fun h9 => absurd (by decide) h9) (fun _ => ?_)
          refine lv_aload_n hx hb dL_told_451 rfl (lv_at hl 9 rfl) ?_
          refine lw_i (rLS (rest := []) ⟨hx, hb, hml, hown, hts⟩ (hTh) (va_cwS 1 hts gL_told_L_thing rfl rfl rfl mdL_thing.2 ⟨Nat.le_of_ble_eq_true rfl, Nat.le_of_ble_eq_true rfl⟩) hA hL rfl hl rfl (Nat.le_of_ble_eq_true rfl) dL_told_452 ⟨Nat.le_of_ble_eq_true rfl, Nat.le_of_ble_eq_true rfl⟩) hA (fun r_452_3 _ H locs hr_452_3 hA hL => ?_)
          replace hL : LB G cA A o (u, v, f, g, L) n K ch H := hL
          subst hr_452_3
          refine lv_if_eq (tgt := 462) hx hb dL_told_455 (by decide) (fun h9 => absurd h9 (by decide)) (fun _ => ?_)
          refine lv_iconst (v := 1) hx hb dL_told_458 (by decide) ?_
          refine lv_goto (tgt := 463) hx hb dL_told_459 (by decide) ?_
          exact en_l (post := fun r (_ : Unit) => r = 1) (B := fun _ H => LB G cA A o (u, v, f, g, L) n K ch H) () hx hb hr hlocks hA rfl hL dL_told_463
        · skip
          have hlt : i < R := lt_of_nle hi (by omega) c_264_3
          have h8 := hT.2.2.2.2.2.2 i hlt
          refine lv_aload_n hx hb dL_told_267 rfl (lv_at hl 9 rfl) ?_
          refine lv_iload hx hb dL_told_268 (lv_at hl 0 rfl) ?_
          refine lv_iconst (v := 0) hx hb dL_told_270 (by decide) ?_
          refine lr_i (rL (rest := []) ⟨hx, hb, hml, hown, hts⟩ (LB_judged l G cA A o (u, v, f, g, L) n K ch (nI i) 0 ) (cwV 2 hts gL_told_X8_judged rfl rfl rfl mdX8_judged ⟨Nat.le_of_ble_eq_true rfl, Nat.le_of_ble_eq_true rfl⟩) hA hL rfl hl rfl (Nat.le_of_ble_eq_true rfl) dL_told_271 ⟨Nat.le_of_ble_eq_true rfl, Nat.le_of_ble_eq_true rfl⟩) hA hL (fun r_271_3 H locs hr_271_3 hA hL => ?_)
          replace hr_271_3 : r_271_3 = L (i * 5 + 0) := hr_271_3.trans (ju_at 0 (by decide) hlt hR10 h18)
          subst hr_271_3
          refine lv_if_lt (tgt := 326) hx hb dL_told_274 (by decide) (fun c_274_3 => absurd c_274_3 h8.1) (fun c_274_3 => ?_)
          refine lv_aload_n hx hb dL_told_277 rfl (lv_at hl 9 rfl) ?_
          refine lv_iload hx hb dL_told_278 (lv_at hl 0 rfl) ?_
          refine lv_iconst (v := 0) hx hb dL_told_280 (by decide) ?_
          refine lr_i (rL (rest := []) ⟨hx, hb, hml, hown, hts⟩ (LB_judged l G cA A o (u, v, f, g, L) n K ch (nI i) 0 ) (cwV 2 hts gL_told_X8_judged rfl rfl rfl mdX8_judged ⟨Nat.le_of_ble_eq_true rfl, Nat.le_of_ble_eq_true rfl⟩) hA hL rfl hl rfl (Nat.le_of_ble_eq_true rfl) dL_told_281 ⟨Nat.le_of_ble_eq_true rfl, Nat.le_of_ble_eq_true rfl⟩) hA hL (fun r_281_3 H locs hr_281_3 hA hL => ?_)
          replace hr_281_3 : r_281_3 = L (i * 5 + 0) := hr_281_3.trans (ju_at 0 (by decide) hlt hR10 h18)
          subst hr_281_3
          refine lv_iconst (v := 3) hx hb dL_told_284 (by decide) ?_
          refine lv_icmp_gt (tgt := 326) hx hb dL_told_285 (by decide) (fun c_285_3 => absurd c_285_3 h8.2.1) (fun c_285_3 => ?_)
          refine lv_aload_n hx hb dL_told_288 rfl (lv_at hl 9 rfl) ?_
          refine lv_iload hx hb dL_told_289 (lv_at hl 0 rfl) ?_
          refine lv_iconst (v := 2) hx hb dL_told_291 (by decide) ?_
          refine lr_i (rL (rest := []) ⟨hx, hb, hml, hown, hts⟩ (LB_judged l G cA A o (u, v, f, g, L) n K ch (nI i) 2 ) (cwV 2 hts gL_told_X8_judged rfl rfl rfl mdX8_judged ⟨Nat.le_of_ble_eq_true rfl, Nat.le_of_ble_eq_true rfl⟩) hA hL rfl hl rfl (Nat.le_of_ble_eq_true rfl) dL_told_292 ⟨Nat.le_of_ble_eq_true rfl, Nat.le_of_ble_eq_true rfl⟩) hA hL (fun r_292_3 H locs hr_292_3 hA hL => ?_)
          replace hr_292_3 : r_292_3 = L (i * 5 + 2) := hr_292_3.trans (ju_at 2 (by decide) hlt hR10 h18)
          subst hr_292_3
          refine lv_iconst (v := 1) hx hb dL_told_295 (by decide) ?_
          refine lv_icmp_lt (tgt := 326) hx hb dL_told_296 (by decide) (fun c_296_3 => absurd c_296_3 h8.2.2.1) (fun c_296_3 => ?_)
          refine lv_aload_n hx hb dL_told_299 rfl (lv_at hl 9 rfl) ?_
          refine lv_iload hx hb dL_told_300 (lv_at hl 0 rfl) ?_
          refine lv_iconst (v := 3) hx hb dL_told_302 (by decide) ?_
          refine lr_i (rL (rest := []) ⟨hx, hb, hml, hown, hts⟩ (LB_judged l G cA A o (u, v, f, g, L) n K ch (nI i) 3 ) (cwV 2 hts gL_told_X8_judged rfl rfl rfl mdX8_judged ⟨Nat.le_of_ble_eq_true rfl, Nat.le_of_ble_eq_true rfl⟩) hA hL rfl hl rfl (Nat.le_of_ble_eq_true rfl) dL_told_303 ⟨Nat.le_of_ble_eq_true rfl, Nat.le_of_ble_eq_true rfl⟩) hA hL (fun r_303_3 H locs hr_303_3 hA hL => ?_)
          replace hr_303_3 : r_303_3 = L (i * 5 + 3) := hr_303_3.trans (ju_at 3 (by decide) hlt hR10 h18)
          subst hr_303_3
          refine lv_iconst (v := 1) hx hb dL_told_306 (by decide) ?_
          refine lv_icmp_lt (tgt := 326) hx hb dL_told_307 (by decide) (fun c_307_3 => absurd c_307_3 h8.2.2.2.1) (fun c_307_3 => ?_)
          refine lv_aload_n hx hb dL_told_310 rfl (lv_at hl 9 rfl) ?_
          refine lv_iload hx hb dL_told_311 (lv_at hl 0 rfl) ?_
          refine lv_iconst (v := 3) hx hb dL_told_313 (by decide) ?_
          refine lr_i (rL (rest := []) ⟨hx, hb, hml, hown, hts⟩ (LB_judged l G cA A o (u, v, f, g, L) n K ch (nI i) 3 ) (cwV 2 hts gL_told_X8_judged rfl rfl rfl mdX8_judged ⟨Nat.le_of_ble_eq_true rfl, Nat.le_of_ble_eq_true rfl⟩) hA hL rfl hl rfl (Nat.le_of_ble_eq_true rfl) dL_told_314 ⟨Nat.le_of_ble_eq_true rfl, Nat.le_of_ble_eq_true rfl⟩) hA hL (fun r_314_3 H locs hr_314_3 hA hL => ?_)
          replace hr_314_3 : r_314_3 = L (i * 5 + 3) := hr_314_3.trans (ju_at 3 (by decide) hlt hR10 h18)
          subst hr_314_3
          refine lv_bipush (v := 7) hx hb dL_told_317 (by decide) ?_
          refine lv_icmp_gt (tgt := 326) hx hb dL_told_319 (by decide) (fun c_319_3 => absurd c_319_3 h8.2.2.2.2.1) (fun c_319_3 => ?_)
          refine lv_iconst (v := 1) hx hb dL_told_322 (by decide) ?_
          refine lv_goto (tgt := 327) hx hb dL_told_323 (by decide) ?_
          refine lv_istore (lv' := [(10, .int 1), (9, .int (nI i)), (8, .int (nI R)), (7, .int (nI J)), (6, .int 1), (5, .int 1), (4, .int 1), (3, .int 1), (2, .float (f 7)), (1, .int 1), (0, .ref o)]) hx hb dL_told_327 hl (by decide) rfl (fun ls hl => ?_)
          refine lv_aload_n hx hb dL_told_329 rfl (lv_at hl 10 rfl) ?_
          refine lv_iload hx hb dL_told_330 (lv_at hl 1 rfl) ?_
          refine lv_iconst (v := 4) hx hb dL_told_332 (by decide) ?_
          refine lr_i (rL (rest := []) ⟨hx, hb, hml, hown, hts⟩ (LB_judged l G cA A o (u, v, f, g, L) n K ch (nI i) 4 ) (cwV 2 hts gL_told_X8_judged rfl rfl rfl mdX8_judged ⟨Nat.le_of_ble_eq_true rfl, Nat.le_of_ble_eq_true rfl⟩) hA hL rfl hl rfl (Nat.le_of_ble_eq_true rfl) dL_told_333 ⟨Nat.le_of_ble_eq_true rfl, Nat.le_of_ble_eq_true rfl⟩) hA hL (fun r_333_3 H locs hr_333_3 hA hL => ?_)
          replace hr_333_3 : r_333_3 = L (i * 5 + 4) := hr_333_3.trans (ju_at 4 (by decide) hlt hR10 h18)
          subst hr_333_3
          refine lv_aload_n hx hb dL_told_336 rfl (lv_at hl 10 rfl) ?_
          refine lv_iload hx hb dL_told_337 (lv_at hl 1 rfl) ?_
          refine lv_iconst (v := 1) hx hb dL_told_339 (by decide) ?_
          refine lr_i (rL (rest := [.int (L (i * 5 + 4))]) ⟨hx, hb, hml, hown, hts⟩ (LB_judged l G cA A o (u, v, f, g, L) n K ch (nI i) 1 ) (cwV 2 hts gL_told_X8_judged rfl rfl rfl mdX8_judged ⟨Nat.le_of_ble_eq_true rfl, Nat.le_of_ble_eq_true rfl⟩) hA hL rfl hl rfl (Nat.le_of_ble_eq_true rfl) dL_told_340 ⟨Nat.le_of_ble_eq_true rfl, Nat.le_of_ble_eq_true rfl⟩) hA hL (fun r_340_3 H locs hr_340_3 hA hL => ?_)
          replace hr_340_3 : r_340_3 = L (i * 5 + 1) := hr_340_3.trans (ju_at 1 (by decide) hlt hR10 h18)
          subst hr_340_3
          refine lv_aload_n hx hb dL_told_343 rfl (lv_at hl 10 rfl) ?_
          refine lv_iload hx hb dL_told_344 (lv_at hl 1 rfl) ?_
          refine lv_iconst (v := 2) hx hb dL_told_346 (by decide) ?_
          refine lr_i (rL (rest := [.int (L (i * 5 + 1)), .int (L (i * 5 + 4))]) ⟨hx, hb, hml, hown, hts⟩ (LB_judged l G cA A o (u, v, f, g, L) n K ch (nI i) 2 ) (cwV 2 hts gL_told_X8_judged rfl rfl rfl mdX8_judged ⟨Nat.le_of_ble_eq_true rfl, Nat.le_of_ble_eq_true rfl⟩) hA hL rfl hl rfl (Nat.le_of_ble_eq_true rfl) dL_told_347 ⟨Nat.le_of_ble_eq_true rfl, Nat.le_of_ble_eq_true rfl⟩) hA hL (fun r_347_3 H locs hr_347_3 hA hL => ?_)
          replace hr_347_3 : r_347_3 = L (i * 5 + 2) := hr_347_3.trans (ju_at 2 (by decide) hlt hR10 h18)
          subst hr_347_3
          refine lv_iadd hx hb dL_told_350 ?_
          refine lv_icmp_lt (tgt := 382) hx hb dL_told_351 (by decide) (fun c_351_3 => absurd c_351_3 h8.2.2.2.2.2.1) (fun c_351_3 => ?_)
          refine lv_iload hx hb dL_told_354 (lv_at hl 1 rfl) ?_
          refine lv_if_eq (tgt := 378) hx hb dL_told_356 (by decide) (fun c_356_3 => ?_) (fun c_356_3 => ?_)
          · skip
            refine lv_iconst (v := 1) hx hb dL_told_378 (by decide) ?_
            refine lv_goto (tgt := 383) hx hb dL_told_379 (by decide) ?_
            refine lv_istore (lv' := [(11, .int 1), (10, .int 1), (9, .int (nI i)), (8, .int (nI R)), (7, .int (nI J)), (6, .int 1), (5, .int 1), (4, .int 1), (3, .int 1), (2, .float (f 7)), (1, .int 1), (0, .ref o)]) hx hb dL_told_383 hl (by decide) rfl (fun ls hl => ?_)
            refine lv_iload hx hb dL_told_385 (lv_at hl 1 rfl) ?_
            refine lv_if_eq (tgt := 395) hx hb dL_told_387 (by decide) (fun h9 => absurd h9 (by decide)) (fun _ => ?_)
            refine lv_iload hx hb dL_told_390 (lv_at hl 0 rfl) ?_
            refine lv_if_ne (tgt := 397) hx hb dL_told_392 (by decide) (fun _ => ?_) (fun h9 => absurd h9 (by decide))
            refine lv_iinc (v := ((nI i) + 1)) (lv' := [(9, .int ((nI i) + 1)), (11, .int 1), (10, .int 1), (8, .int (nI R)), (7, .int (nI J)), (6, .int 1), (5, .int 1), (4, .int 1), (3, .int 1), (2, .float (f 7)), (1, .int 1), (0, .ref o)]) hx hb dL_told_397 hl (k := 2) rfl rfl (by decide) rfl (fun ls hl => ?_)
            refine lv_goto (tgt := 260) hx hb dL_told_400 (by decide) ?_
            replace hl : lv_has ls 12 [(9, .int (nI (i + 1))), (11, .int 1), (10, .int 1), (8, .int (nI R)), (7, .int (nI J)), (6, .int 1), (5, .int 1), (4, .int 1), (3, .int 1), (2, .float (f 7)), (1, .int 1), (0, .ref o)] := by rw [← nI_1]; exact hl
            exact ih (i + 1) _ _ _ (by omega) (by omega) hA hL (lv_sub hl [0, 3, 4, 5, 6, 7, 8, 9, 10, 11] rfl)
          · skip
            refine lv_aload_n hx hb dL_told_359 rfl (lv_at hl 10 rfl) ?_
            refine lv_iload hx hb dL_told_360 (lv_at hl 1 rfl) ?_
            refine lv_iconst (v := 4) hx hb dL_told_362 (by decide) ?_
            refine lr_i (rL (rest := []) ⟨hx, hb, hml, hown, hts⟩ (LB_judged l G cA A o (u, v, f, g, L) n K ch (nI i) 4 ) (cwV 2 hts gL_told_X8_judged rfl rfl rfl mdX8_judged ⟨Nat.le_of_ble_eq_true rfl, Nat.le_of_ble_eq_true rfl⟩) hA hL rfl hl rfl (Nat.le_of_ble_eq_true rfl) dL_told_363 ⟨Nat.le_of_ble_eq_true rfl, Nat.le_of_ble_eq_true rfl⟩) hA hL (fun r_363_3 H locs hr_363_3 hA hL => ?_)
            replace hr_363_3 : r_363_3 = L (i * 5 + 4) := hr_363_3.trans (ju_at 4 (by decide) hlt hR10 h18)
            subst hr_363_3
            refine lv_aload_n hx hb dL_told_366 rfl (lv_at hl 10 rfl) ?_
            refine lv_iload hx hb dL_told_367 (lv_at hl 1 rfl) ?_
            refine lv_iconst (v := 1) hx hb dL_told_369 (by decide) ?_
            refine lv_isub hx hb dL_told_370 ?_
            refine lv_iconst (v := 1) hx hb dL_told_371 (by decide) ?_
            refine lr_i (rL (rest := [.int (L (i * 5 + 4))]) ⟨hx, hb, hml, hown, hts⟩ (LB_judged l G cA A o (u, v, f, g, L) n K ch ((nI i) - 1) 1 ) (cwV 2 hts gL_told_X8_judged rfl rfl rfl mdX8_judged ⟨Nat.le_of_ble_eq_true rfl, Nat.le_of_ble_eq_true rfl⟩) hA hL rfl hl rfl (Nat.le_of_ble_eq_true rfl) dL_told_372 ⟨Nat.le_of_ble_eq_true rfl, Nat.le_of_ble_eq_true rfl⟩) hA hL (fun r_372_3 H locs hr_372_3 hA hL => ?_)
            rw [(pred_of c_356_3).2] at hr_372_3
            replace hr_372_3 : r_372_3 = L ((i - 1) * 5 + 1) := hr_372_3.trans (ju_at 1 (by decide) (by omega) hR10 h18)
            subst hr_372_3
            refine lv_icmp_ge (tgt := 382) hx hb dL_told_375 (by decide) (fun c_375_3 => absurd c_375_3 (h8.2.2.2.2.2.2 (pred_of c_356_3).1)) (fun c_375_3 => ?_)
            refine lv_iconst (v := 1) hx hb dL_told_378 (by decide) ?_
            refine lv_goto (tgt := 383) hx hb dL_told_379 (by decide) ?_
            refine lv_istore (lv' := [(11, .int 1), (10, .int 1), (9, .int (nI i)), (8, .int (nI R)), (7, .int (nI J)), (6, .int 1), (5, .int 1), (4, .int 1), (3, .int 1), (2, .float (f 7)), (1, .int 1), (0, .ref o)]) hx hb dL_told_383 hl (by decide) rfl (fun ls hl => ?_)
            refine lv_iload hx hb dL_told_385 (lv_at hl 1 rfl) ?_
            refine lv_if_eq (tgt := 395) hx hb dL_told_387 (by decide) (fun h9 => absurd h9 (by decide)) (fun _ => ?_)
            refine lv_iload hx hb dL_told_390 (lv_at hl 0 rfl) ?_
            refine lv_if_ne (tgt := 397) hx hb dL_told_392 (by decide) (fun _ => ?_) (fun h9 => absurd h9 (by decide))
            refine lv_iinc (v := ((nI i) + 1)) (lv' := [(9, .int ((nI i) + 1)), (11, .int 1), (10, .int 1), (8, .int (nI R)), (7, .int (nI J)), (6, .int 1), (5, .int 1), (4, .int 1), (3, .int 1), (2, .float (f 7)), (1, .int 1), (0, .ref o)]) hx hb dL_told_397 hl (k := 2) rfl rfl (by decide) rfl (fun ls hl => ?_)
            refine lv_goto (tgt := 260) hx hb dL_told_400 (by decide) ?_
            replace hl : lv_has ls 12 [(9, .int (nI (i + 1))), (11, .int 1), (10, .int 1), (8, .int (nI R)), (7, .int (nI J)), (6, .int 1), (5, .int 1), (4, .int 1), (3, .int 1), (2, .float (f 7)), (1, .int 1), (0, .ref o)] := by rw [← nI_1]; exact hl
            exact ih (i + 1) _ _ _ (by omega) (by omega) hA hL (lv_sub hl [0, 3, 4, 5, 6, 7, 8, 9, 10, 11] rfl)
set_option maxHeartbeats 8000000 in
set_option maxRecDepth 100000 in
/-- told(o), in the state 2 -/
theorem cL_told_2 (l : Launch) (G : va_G) (cA : Nat → ClassId) (A : Nat → Prop) (o : Nat) (u : FF) (v : GG) (f : FF) (g L : GG) (n K : Nat) (ch : GG) (J R : Nat) (hT : ToldOk u v f g L J R) (hs : g 13 = 2) (hLk : LkOk g) (hTh : Met l yL_thing wsL_thing ({ frames := 4, cells := 0, slots := 0, locals := 94 } : Room) (va_Pc [.ref o] (LbP G cA A o (u, v, f, g, L) n K ch)) (va_Qi (fun r (_ : Unit) => r = 1) (fun _ t => LB G cA A o (u, v, f, g, L) n K ch t.heap) A) 0 0 A) : Met l yL_told wsL_told ({ frames := 5, cells := 0, slots := 0, locals := 129 } : Room) (va_Pc [.ref o] (LbP G cA A o (u, v, f, g, L) n K ch)) (va_Qi (fun r (_ : Unit) => r = 1) (fun _ t => LB G cA A o (u, v, f, g, L) n K ch t.heap) A) 0 0 A := by
  refine ofW2 (cc := cL_told) (maxL := 12) (ret := (some .boolean)) (own := RL) (by decide) rfl rfl (Nat.le_of_ble_eq_true rfl) rfl ?_
  intro p e s m below meth c ls hx hb hml hr hts hown hlocks hv hl
  obtain ⟨hE, hN, hL⟩ := hv
  have hA : At G cA A s s.heap [] := ⟨hE, hN, va_S.rf⟩
  obtain ⟨H, hH0⟩ : ∃ H, H = s.heap := ⟨_, rfl⟩
  rw [← hH0] at hL ⊢
  replace hA : At G cA A s H [] := by rw [hH0]; exact hA
  generalize ([] : List Loc) = locs at hA ⊢
  clear hH0
  replace hl : lv_has ls 12 [(0, .ref o)] := hl
  obtain ⟨hJ, hJ31, hRd, h18⟩ := hT.2.2.2.2.2.1
  have hR10 : R ≤ 10 := by rw [hRd]; split <;> omega
  refine lv_aload_n hx hb dL_told_0 rfl (lv_at hl 0 rfl) ?_
  refine lv_iconst (v := 0) hx hb dL_told_1 (by decide) ?_
  refine lr_i (rL (rest := []) ⟨hx, hb, hml, hown, hts⟩ (LB_door l G cA A o (u, v, f, g, L) n K ch 0) (cwV 1 hts gL_told_X8_door rfl rfl rfl mdX8_door ⟨Nat.le_of_ble_eq_true rfl, Nat.le_of_ble_eq_true rfl⟩) hA hL rfl hl rfl (Nat.le_of_ble_eq_true rfl) dL_told_2 ⟨Nat.le_of_ble_eq_true rfl, Nat.le_of_ble_eq_true rfl⟩) hA hL (fun r_2 H locs hr_2 hA hL => ?_)
  replace hr_2 : r_2 = g 13 := hr_2
  rw [hs] at hr_2
  subst hr_2
  refine lv_istore_n (lv' := [(1, .int 2), (0, .ref o)]) hx hb dL_told_5 rfl hl (by decide) rfl (fun ls hl => ?_)
  refine lv_aload_n hx hb dL_told_6 rfl (lv_at hl 1 rfl) ?_
  refine lr_f (rL (rest := []) ⟨hx, hb, hml, hown, hts⟩ (LB_place l G cA A o (u, v, f, g, L) n K ch  ) (cwV 0 hts gL_told_X8_place rfl rfl rfl mdX8_place ⟨Nat.le_of_ble_eq_true rfl, Nat.le_of_ble_eq_true rfl⟩) hA hL rfl hl rfl (Nat.le_of_ble_eq_true rfl) dL_told_7 ⟨Nat.le_of_ble_eq_true rfl, Nat.le_of_ble_eq_true rfl⟩) hA hL (fun r_7 H locs hr_7 hA hL => ?_)
  replace hr_7 : r_7 = f 7 := hr_7
  subst hr_7
  refine lv_fstore_n (lv' := [(2, .float (f 7)), (1, .int 2), (0, .ref o)]) hx hb dL_told_10 rfl hl (by decide) rfl (fun ls hl => ?_)
  refine lv_fload_n hx hb dL_told_11 rfl (lv_at hl 0 rfl) ?_
  refine lv_fconst0 hx hb dL_told_12 ?_
  refine lv_fcmp hx hb dL_told_13 ?_
  refine lv_if_lt (tgt := 71) hx hb dL_told_14 (by decide) (fun c_14 => absurd c_14 hT.1.1) (fun c_14 => ?_)
  refine lv_fload_n hx hb dL_told_17 rfl (lv_at hl 0 rfl) ?_
  refine lv_ldcf hx hb hown (hts (.constantFloat RL 32 (1120403456)) (by decide +kernel)) dL_told_18 ?_
  refine lv_fcmp hx hb dL_told_20 ?_
  refine lv_if_gt (tgt := 71) hx hb dL_told_21 (by decide) (fun c_21 => absurd c_21 hT.1.2) (fun c_21 => ?_)
  refine lv_iload_n hx hb dL_told_24 rfl (lv_at hl 1 rfl) ?_
  refine lv_if_ne (tgt := 34) hx hb dL_told_25 (by decide) (fun _ => ?_) (fun h9 => absurd h9 (by decide))
  refine lv_iload_n hx hb dL_told_34 rfl (lv_at hl 1 rfl) ?_
  refine lv_iconst (v := 2) hx hb dL_told_35 (by decide) ?_
  refine lv_icmp_ne (tgt := 46) hx hb dL_told_36 (by decide) (fun h9 => absurd (by decide) h9) (fun _ => ?_)
  refine lv_fload_n hx hb dL_told_39 rfl (lv_at hl 0 rfl) ?_
  refine lv_ldcf hx hb hown (hts (.constantFloat RL 32 (1120403456)) (by decide +kernel)) dL_told_40 ?_
  refine lv_fcmp hx hb dL_told_42 ?_
  refine lv_if_ne (tgt := 71) hx hb dL_told_43 (by decide) (fun c_43 => absurd (hT.2.2.1 hs) c_43) (fun c_43 => ?_)
  refine lv_aload_n hx hb dL_told_46 rfl (lv_at hl 2 rfl) ?_
  refine lv_iconst (v := 5) hx hb dL_told_47 (by decide) ?_
  refine lr_i (rL (rest := []) ⟨hx, hb, hml, hown, hts⟩ (LB_door l G cA A o (u, v, f, g, L) n K ch 5) (cwV 1 hts gL_told_X8_door rfl rfl rfl mdX8_door ⟨Nat.le_of_ble_eq_true rfl, Nat.le_of_ble_eq_true rfl⟩) hA hL rfl hl rfl (Nat.le_of_ble_eq_true rfl) dL_told_48 ⟨Nat.le_of_ble_eq_true rfl, Nat.le_of_ble_eq_true rfl⟩) hA hL (fun r_48 H locs hr_48 hA hL => ?_)
  replace hr_48 : r_48 = FP.f2i (f 7) := hr_48
  subst hr_48
  refine lv_fload_n hx hb dL_told_51 rfl (lv_at hl 0 rfl) ?_
  refine lv_f2i hx hb dL_told_52 ?_
  refine lv_icmp_ne (tgt := 71) hx hb dL_told_53 (by decide) (fun c_53 => absurd rfl c_53) (fun c_53 => ?_)
  refine lv_aload_n hx hb dL_told_56 rfl (lv_at hl 2 rfl) ?_
  refine lv_bipush (v := 6) hx hb dL_told_57 (by decide) ?_
  refine lr_i (rL (rest := []) ⟨hx, hb, hml, hown, hts⟩ (LB_door l G cA A o (u, v, f, g, L) n K ch 6) (cwV 1 hts gL_told_X8_door rfl rfl rfl mdX8_door ⟨Nat.le_of_ble_eq_true rfl, Nat.le_of_ble_eq_true rfl⟩) hA hL rfl hl rfl (Nat.le_of_ble_eq_true rfl) dL_told_59 ⟨Nat.le_of_ble_eq_true rfl, Nat.le_of_ble_eq_true rfl⟩) hA hL (fun r_59 H locs hr_59 hA hL => ?_)
  replace hr_59 : r_59 = (-2) := hr_59
  subst hr_59
  refine lv_bipush (v := (-2)) hx hb dL_told_62 (by decide) ?_
  refine lv_icmp_ne (tgt := 71) hx hb dL_told_64 (by decide) (fun h9 => absurd (by decide) h9) (fun _ => ?_)
  refine lv_iconst (v := 1) hx hb dL_told_67 (by decide) ?_
  refine lv_goto (tgt := 72) hx hb dL_told_68 (by decide) ?_
  refine lv_istore_n (lv' := [(3, .int 1), (2, .float (f 7)), (1, .int 2), (0, .ref o)]) hx hb dL_told_72 rfl hl (by decide) rfl (fun ls hl => ?_)
  refine lv_iload_n hx hb dL_told_73 rfl (lv_at hl 2 rfl) ?_
  refine lv_iconst (v := 2) hx hb dL_told_74 (by decide) ?_
  refine lv_icmp_eq (tgt := 86) hx hb dL_told_75 (by decide) (fun _ => ?_) (fun h9 => absurd (by decide) h9)
  refine lv_iload_n hx hb dL_told_86 rfl (lv_at hl 2 rfl) ?_
  refine lv_iconst (v := 3) hx hb dL_told_87 (by decide) ?_
  refine lv_icmp_eq (tgt := 99) hx hb dL_told_88 (by decide) (fun h9 => absurd h9 (by decide)) (fun _ => ?_)
  refine lv_aload_n hx hb dL_told_91 rfl (lv_at hl 3 rfl) ?_
  refine lv_iconst (v := 4) hx hb dL_told_92 (by decide) ?_
  refine lr_i (rL (rest := []) ⟨hx, hb, hml, hown, hts⟩ (LB_door l G cA A o (u, v, f, g, L) n K ch 4) (cwV 1 hts gL_told_X8_door rfl rfl rfl mdX8_door ⟨Nat.le_of_ble_eq_true rfl, Nat.le_of_ble_eq_true rfl⟩) hA hL rfl hl rfl (Nat.le_of_ble_eq_true rfl) dL_told_93 ⟨Nat.le_of_ble_eq_true rfl, Nat.le_of_ble_eq_true rfl⟩) hA hL (fun r_93 H locs hr_93 hA hL => ?_)
  rw [show doF _ _ _ = 0 from (by show (if g 13 = 3 then g 15 else 0) = 0; rw [if_neg (by rw [hs]; decide)])] at hr_93
  subst hr_93
  refine lv_if_ne (tgt := 117) hx hb dL_told_96 (by decide) (fun h9 => absurd (by decide) h9) (fun _ => ?_)
  refine lv_iload_n hx hb dL_told_99 rfl (lv_at hl 2 rfl) ?_
  refine lv_iconst (v := 3) hx hb dL_told_100 (by decide) ?_
  refine lv_icmp_ne (tgt := 113) hx hb dL_told_101 (by decide) (fun _ => ?_) (fun h9 => absurd h9 (by decide))
  refine lv_iconst (v := 1) hx hb dL_told_113 (by decide) ?_
  refine lv_goto (tgt := 118) hx hb dL_told_114 (by decide) ?_
  refine lv_istore (lv' := [(4, .int 1), (3, .int 1), (2, .float (f 7)), (1, .int 2), (0, .ref o)]) hx hb dL_told_118 hl (by decide) rfl (fun ls hl => ?_)
  refine lv_aload_n hx hb dL_told_120 rfl (lv_at hl 4 rfl) ?_
  refine lv_iconst (v := 1) hx hb dL_told_121 (by decide) ?_
  refine lr_i (rL (rest := []) ⟨hx, hb, hml, hown, hts⟩ (LB_door l G cA A o (u, v, f, g, L) n K ch 1) (cwV 1 hts gL_told_X8_door rfl rfl rfl mdX8_door ⟨Nat.le_of_ble_eq_true rfl, Nat.le_of_ble_eq_true rfl⟩) hA hL rfl hl rfl (Nat.le_of_ble_eq_true rfl) dL_told_122 ⟨Nat.le_of_ble_eq_true rfl, Nat.le_of_ble_eq_true rfl⟩) hA hL (fun r_122 H locs hr_122 hA hL => ?_)
  replace hr_122 : r_122 = g 16 := hr_122
  subst hr_122
  refine lv_aload_n hx hb dL_told_125 rfl (lv_at hl 4 rfl) ?_
  refine lv_iconst (v := 2) hx hb dL_told_126 (by decide) ?_
  refine lr_i (rL (rest := [.int (g 16)]) ⟨hx, hb, hml, hown, hts⟩ (LB_number l G cA A o (u, v, f, g, L) n K ch 2 ) (cwV 1 hts gL_told_X8_number rfl rfl rfl mdX8_number ⟨Nat.le_of_ble_eq_true rfl, Nat.le_of_ble_eq_true rfl⟩) hA hL rfl hl rfl (Nat.le_of_ble_eq_true rfl) dL_told_127 ⟨Nat.le_of_ble_eq_true rfl, Nat.le_of_ble_eq_true rfl⟩) hA hL (fun r_127 H locs hr_127 hA hL => ?_)
  replace hr_127 : r_127 = v 2 := hr_127
  subst hr_127
  refine lv_icmp_le (tgt := 137) hx hb dL_told_130 (by decide) (fun c_130 => ?_) (fun c_130 => ?_)
  · skip
    refine lv_iconst (v := 0) hx hb dL_told_137 (by decide) ?_
    refine lv_istore (lv' := [(5, .int 0), (4, .int 1), (3, .int 1), (2, .float (f 7)), (1, .int 2), (0, .ref o)]) hx hb dL_told_138 hl (by decide) rfl (fun ls hl => ?_)
    refine lv_aload_n hx hb dL_told_140 rfl (lv_at hl 5 rfl) ?_
    refine lv_iconst (v := 3) hx hb dL_told_141 (by decide) ?_
    refine lr_f (rL (rest := []) ⟨hx, hb, hml, hown, hts⟩ (LB_speed l G cA A o (u, v, f, g, L) n K ch 3) (cwV 1 hts gL_told_X8_speed rfl rfl rfl mdX8_speed ⟨Nat.le_of_ble_eq_true rfl, Nat.le_of_ble_eq_true rfl⟩) hA hL rfl hl rfl (Nat.le_of_ble_eq_true rfl) dL_told_142 ⟨Nat.le_of_ble_eq_true rfl, Nat.le_of_ble_eq_true rfl⟩) hA hL (fun r_142 H locs hr_142 hA hL => ?_)
    replace hr_142 : r_142 = spF u (scF v g) := hr_142
    rw [show spF u (scF v g) = u 1 from by unfold scF; rw [if_pos c_130]; rfl] at hr_142
    subst hr_142
    refine lv_iload hx hb dL_told_145 (lv_at hl 0 rfl) ?_
    refine lv_if_eq (tgt := 158) hx hb dL_told_147 (by decide) (fun _ => ?_) (fun h9 => absurd (by decide) h9)
    refine lv_aload_n hx hb dL_told_158 rfl (lv_at hl 5 rfl) ?_
    refine lv_iconst (v := 1) hx hb dL_told_159 (by decide) ?_
    refine lr_f (rL (rest := [.float (u 1)]) ⟨hx, hb, hml, hown, hts⟩ (LB_speed l G cA A o (u, v, f, g, L) n K ch 1) (cwV 1 hts gL_told_X8_speed rfl rfl rfl mdX8_speed ⟨Nat.le_of_ble_eq_true rfl, Nat.le_of_ble_eq_true rfl⟩) hA hL rfl hl rfl (Nat.le_of_ble_eq_true rfl) dL_told_160 ⟨Nat.le_of_ble_eq_true rfl, Nat.le_of_ble_eq_true rfl⟩) hA hL (fun r_160 H locs hr_160 hA hL => ?_)
    replace hr_160 : r_160 = u 1 := hr_160
    subst hr_160
    refine lv_fcmp hx hb dL_told_163 ?_
    refine lv_if_ne (tgt := 213) hx hb dL_told_164 (by decide) (fun c_164 => absurd hT.2.2.2.2.1.1 c_164) (fun c_164 => ?_)
    refine lv_aload_n hx hb dL_told_167 rfl (lv_at hl 5 rfl) ?_
    refine lv_iconst (v := 4) hx hb dL_told_168 (by decide) ?_
    refine lr_f (rL (rest := []) ⟨hx, hb, hml, hown, hts⟩ (LB_speed l G cA A o (u, v, f, g, L) n K ch 4) (cwV 1 hts gL_told_X8_speed rfl rfl rfl mdX8_speed ⟨Nat.le_of_ble_eq_true rfl, Nat.le_of_ble_eq_true rfl⟩) hA hL rfl hl rfl (Nat.le_of_ble_eq_true rfl) dL_told_169 ⟨Nat.le_of_ble_eq_true rfl, Nat.le_of_ble_eq_true rfl⟩) hA hL (fun r_169 H locs hr_169 hA hL => ?_)
    replace hr_169 : r_169 = nanF := hr_169
    subst hr_169
    refine lr_i (rS (rest := []) ⟨hx, hb, hml, hown, hts⟩ (cL_isNone_ok l G cA nanF) (va_cwS 1 hts gL_told_L_isNone rfl rfl rfl mdL_isNone.2 ⟨Nat.le_of_ble_eq_true rfl, Nat.le_of_ble_eq_true rfl⟩) hA.1 empP empD rfl hl rfl (Nat.le_of_ble_eq_true rfl) dL_told_172 ⟨Nat.le_of_ble_eq_true rfl, Nat.le_of_ble_eq_true rfl⟩) hA hL (fun r_172 H locs hr_172 hA hL => ?_)
    rw [nn_nan] at hr_172
    subst hr_172
    refine lv_if_eq (tgt := 213) hx hb dL_told_175 (by decide) (fun h9 => absurd h9 (by decide)) (fun _ => ?_)
    refine lv_aload_n hx hb dL_told_178 rfl (lv_at hl 5 rfl) ?_
    refine lv_iconst (v := 4) hx hb dL_told_179 (by decide) ?_
    refine lr_f (rL (rest := []) ⟨hx, hb, hml, hown, hts⟩ (LB_weight l G cA A o (u, v, f, g, L) n K ch 4 ) (cwV 1 hts gL_told_X8_weight rfl rfl rfl mdX8_weight ⟨Nat.le_of_ble_eq_true rfl, Nat.le_of_ble_eq_true rfl⟩) hA hL rfl hl rfl (Nat.le_of_ble_eq_true rfl) dL_told_180 ⟨Nat.le_of_ble_eq_true rfl, Nat.le_of_ble_eq_true rfl⟩) hA hL (fun r_180 H locs hr_180 hA hL => ?_)
    replace hr_180 : r_180 = nanF := hr_180
    subst hr_180
    refine lr_i (rS (rest := []) ⟨hx, hb, hml, hown, hts⟩ (cL_isNone_ok l G cA nanF) (va_cwS 1 hts gL_told_L_isNone rfl rfl rfl mdL_isNone.2 ⟨Nat.le_of_ble_eq_true rfl, Nat.le_of_ble_eq_true rfl⟩) hA.1 empP empD rfl hl rfl (Nat.le_of_ble_eq_true rfl) dL_told_183 ⟨Nat.le_of_ble_eq_true rfl, Nat.le_of_ble_eq_true rfl⟩) hA hL (fun r_183 H locs hr_183 hA hL => ?_)
    rw [nn_nan] at hr_183
    subst hr_183
    refine lv_if_eq (tgt := 213) hx hb dL_told_186 (by decide) (fun h9 => absurd h9 (by decide)) (fun _ => ?_)
    refine lv_aload_n hx hb dL_told_189 rfl (lv_at hl 5 rfl) ?_
    refine lv_iconst (v := (-1)) hx hb dL_told_190 (by decide) ?_
    refine lr_f (rL (rest := []) ⟨hx, hb, hml, hown, hts⟩ (LB_score l G cA A o (u, v, f, g, L) n K ch (-1) hLk (fun h9 => absurd (by decide) h9)) (cwV 1 hts gL_told_X8_score rfl rfl rfl mdX8_score ⟨Nat.le_of_ble_eq_true rfl, Nat.le_of_ble_eq_true rfl⟩) hA hL rfl hl rfl (Nat.le_of_ble_eq_true rfl) dL_told_191 ⟨Nat.le_of_ble_eq_true rfl, Nat.le_of_ble_eq_true rfl⟩) hA hL (fun r_191 H locs hr_191 hA hL => ?_)
    replace hr_191 : r_191 = nanF := hr_191
    subst hr_191
    refine lr_i (rS (rest := []) ⟨hx, hb, hml, hown, hts⟩ (cL_isNone_ok l G cA nanF) (va_cwS 1 hts gL_told_L_isNone rfl rfl rfl mdL_isNone.2 ⟨Nat.le_of_ble_eq_true rfl, Nat.le_of_ble_eq_true rfl⟩) hA.1 empP empD rfl hl rfl (Nat.le_of_ble_eq_true rfl) dL_told_194 ⟨Nat.le_of_ble_eq_true rfl, Nat.le_of_ble_eq_true rfl⟩) hA hL (fun r_194 H locs hr_194 hA hL => ?_)
    rw [nn_nan] at hr_194
    subst hr_194
    refine lv_if_eq (tgt := 213) hx hb dL_told_197 (by decide) (fun h9 => absurd h9 (by decide)) (fun _ => ?_)
    refine lv_aload_n hx hb dL_told_200 rfl (lv_at hl 5 rfl) ?_
    refine lv_iconst (v := 5) hx hb dL_told_201 (by decide) ?_
    refine lr_i (rL (rest := []) ⟨hx, hb, hml, hown, hts⟩ (LB_number l G cA A o (u, v, f, g, L) n K ch 5 ) (cwV 1 hts gL_told_X8_number rfl rfl rfl mdX8_number ⟨Nat.le_of_ble_eq_true rfl, Nat.le_of_ble_eq_true rfl⟩) hA hL rfl hl rfl (Nat.le_of_ble_eq_true rfl) dL_told_202 ⟨Nat.le_of_ble_eq_true rfl, Nat.le_of_ble_eq_true rfl⟩) hA hL (fun r_202 H locs hr_202 hA hL => ?_)
    replace hr_202 : r_202 = (-1) := hr_202
    subst hr_202
    refine lv_iconst (v := (-1)) hx hb dL_told_205 (by decide) ?_
    refine lv_icmp_ne (tgt := 213) hx hb dL_told_206 (by decide) (fun h9 => absurd (by decide) h9) (fun _ => ?_)
    refine lv_iconst (v := 1) hx hb dL_told_209 (by decide) ?_
    refine lv_goto (tgt := 214) hx hb dL_told_210 (by decide) ?_
    refine lv_istore (lv' := [(6, .int 1), (5, .int 0), (4, .int 1), (3, .int 1), (2, .float (f 7)), (1, .int 2), (0, .ref o)]) hx hb dL_told_214 hl (by decide) rfl (fun ls hl => ?_)
    refine lv_aload_n hx hb dL_told_216 rfl (lv_at hl 6 rfl) ?_
    refine lv_iconst (v := 1) hx hb dL_told_217 (by decide) ?_
    refine lr_i (rL (rest := []) ⟨hx, hb, hml, hown, hts⟩ (LB_count l G cA A o (u, v, f, g, L) n K ch 1 ) (cwV 1 hts gL_told_X8_count rfl rfl rfl mdX8_count ⟨Nat.le_of_ble_eq_true rfl, Nat.le_of_ble_eq_true rfl⟩) hA hL rfl hl rfl (Nat.le_of_ble_eq_true rfl) dL_told_218 ⟨Nat.le_of_ble_eq_true rfl, Nat.le_of_ble_eq_true rfl⟩) hA hL (fun r_218 H locs hr_218 hA hL => ?_)
    replace hr_218 : r_218 = g 19 := hr_218
    subst hr_218
    refine lv_aload_n hx hb dL_told_221 rfl (lv_at hl 6 rfl) ?_
    refine lv_iconst (v := 2) hx hb dL_told_222 (by decide) ?_
    refine lr_i (rL (rest := [.int (g 19)]) ⟨hx, hb, hml, hown, hts⟩ (LB_count l G cA A o (u, v, f, g, L) n K ch 2 ) (cwV 1 hts gL_told_X8_count rfl rfl rfl mdX8_count ⟨Nat.le_of_ble_eq_true rfl, Nat.le_of_ble_eq_true rfl⟩) hA hL rfl hl rfl (Nat.le_of_ble_eq_true rfl) dL_told_223 ⟨Nat.le_of_ble_eq_true rfl, Nat.le_of_ble_eq_true rfl⟩) hA hL (fun r_223 H locs hr_223 hA hL => ?_)
    replace hr_223 : r_223 = g 20 := hr_223
    subst hr_223
    refine lv_iadd hx hb dL_told_226 ?_
    refine lv_aload_n hx hb dL_told_227 rfl (lv_at hl 6 rfl) ?_
    refine lv_iconst (v := 3) hx hb dL_told_228 (by decide) ?_
    refine lr_i (rL (rest := [.int ((g 19) + (g 20))]) ⟨hx, hb, hml, hown, hts⟩ (LB_count l G cA A o (u, v, f, g, L) n K ch 3 ) (cwV 1 hts gL_told_X8_count rfl rfl rfl mdX8_count ⟨Nat.le_of_ble_eq_true rfl, Nat.le_of_ble_eq_true rfl⟩) hA hL rfl hl rfl (Nat.le_of_ble_eq_true rfl) dL_told_229 ⟨Nat.le_of_ble_eq_true rfl, Nat.le_of_ble_eq_true rfl⟩) hA hL (fun r_229 H locs hr_229 hA hL => ?_)
    replace hr_229 : r_229 = g 21 := hr_229
    subst hr_229
    refine lv_iadd hx hb dL_told_232 ?_
    refine lv_aload_n hx hb dL_told_233 rfl (lv_at hl 6 rfl) ?_
    refine lv_iconst (v := 4) hx hb dL_told_234 (by decide) ?_
    refine lr_i (rL (rest := [.int (((g 19) + (g 20)) + (g 21))]) ⟨hx, hb, hml, hown, hts⟩ (LB_count l G cA A o (u, v, f, g, L) n K ch 4 ) (cwV 1 hts gL_told_X8_count rfl rfl rfl mdX8_count ⟨Nat.le_of_ble_eq_true rfl, Nat.le_of_ble_eq_true rfl⟩) hA hL rfl hl rfl (Nat.le_of_ble_eq_true rfl) dL_told_235 ⟨Nat.le_of_ble_eq_true rfl, Nat.le_of_ble_eq_true rfl⟩) hA hL (fun r_235 H locs hr_235 hA hL => ?_)
    replace hr_235 : r_235 = g 22 := hr_235
    subst hr_235
    refine lv_iadd hx hb dL_told_238 ?_
    rw [hJ]
    refine lv_istore (lv' := [(7, .int (nI J)), (6, .int 1), (5, .int 0), (4, .int 1), (3, .int 1), (2, .float (f 7)), (1, .int 2), (0, .ref o)]) hx hb dL_told_239 hl (by decide) rfl (fun ls hl => ?_)
    refine lv_iload hx hb dL_told_241 (lv_at hl 0 rfl) ?_
    refine lv_bipush (v := 10) hx hb dL_told_243 (by decide) ?_
    refine lv_icmp_ge (tgt := 253) hx hb dL_told_245 (by decide) (fun c_245 => ?_) (fun c_245 => ?_)
    · skip
      refine lv_bipush (v := 10) hx hb dL_told_253 (by decide) ?_
      have hRR : R = 10 := by rw [hRd, if_neg (by have := (nI_leI (a := 10) (b := J) (by decide) hJ31).mp c_245; omega)]
      refine W.eq (g2 := F0 m 255 ls [.int (nI R)]) (by rw [hRR]; rfl) ?_
      refine lv_istore (lv' := [(8, .int (nI R)), (7, .int (nI J)), (6, .int 1), (5, .int 0), (4, .int 1), (3, .int 1), (2, .float (f 7)), (1, .int 2), (0, .ref o)]) hx hb dL_told_255 hl (by decide) rfl (fun ls hl => ?_)
      refine lv_iconst (v := 0) hx hb dL_told_257 (by decide) ?_
      refine lv_istore (lv' := [(9, .int 0), (8, .int (nI R)), (7, .int (nI J)), (6, .int 1), (5, .int 0), (4, .int 1), (3, .int 1), (2, .float (f 7)), (1, .int 2), (0, .ref o)]) hx hb dL_told_258 hl (by decide) rfl (fun ls hl => ?_)
      obtain ⟨i, hi0⟩ : ∃ i : Nat, i = 0 := ⟨_, rfl⟩
      replace hl : lv_has ls 12 [(9, .int (nI i)), (8, .int (nI R)), (7, .int (nI J)), (6, .int 1), (5, .int 0), (4, .int 1), (3, .int 1), (2, .float (f 7)), (1, .int 2), (0, .ref o)] := by rw [hi0]; exact hl
      obtain ⟨nn, hn⟩ : ∃ nn : Nat, R < i + nn := ⟨R + 1, by omega⟩
      have hi : i ≤ R := by omega
      clear hi0
      revert hl
      revert hL
      revert hA
      revert hi
      revert hn
      revert ls
      revert locs
      revert H
      revert i
      induction nn with
      | zero => intro i H locs ls hn hi; exact absurd hn (by omega)
      | succ nn ih =>
        intro i H locs ls hn hi hA hL hl
        refine lv_iload hx hb dL_told_260 (lv_at hl 0 rfl) ?_
        refine lv_iload hx hb dL_told_262 (lv_at hl 1 rfl) ?_
        refine lv_icmp_ge (tgt := 403) hx hb dL_told_264 (by decide) (fun c_264 => ?_) (fun c_264 => ?_)
        · skip
          obtain rfl : R = i := (eq_of_le hi (by omega) c_264).symm
          refine lv_iload_n hx hb dL_told_403 rfl (lv_at hl 6 rfl) ?_
          refine lv_if_eq (tgt := 462) hx hb dL_told_404 (by decide) (fun h9 => absurd h9 (by decide)) (fun _ => ?_)
          refine lv_iload hx hb dL_told_407 (lv_at hl 5 rfl) ?_
          refine lv_if_eq (tgt := 462) hx hb dL_told_409 (by decide) (fun h9 => absurd h9 (by decide)) (fun _ => ?_)
          refine lv_iload hx hb dL_told_412 (lv_at hl 3 rfl) ?_
          refine lv_if_eq (tgt := 462) hx hb dL_told_414 (by decide) (fun h9 => absurd h9 (by decide)) (fun _ => ?_)
          refine lv_aload_n hx hb dL_told_417 rfl (lv_at hl 9 rfl) ?_
          refine lv_iload hx hb dL_told_418 (lv_at hl 1 rfl) ?_
          refine lv_iconst (v := 0) hx hb dL_told_420 (by decide) ?_
          refine lr_i (rL (rest := []) ⟨hx, hb, hml, hown, hts⟩ (LB_judged l G cA A o (u, v, f, g, L) n K ch (nI R) 0 ) (cwV 2 hts gL_told_X8_judged rfl rfl rfl mdX8_judged ⟨Nat.le_of_ble_eq_true rfl, Nat.le_of_ble_eq_true rfl⟩) hA hL rfl hl rfl (Nat.le_of_ble_eq_true rfl) dL_told_421 ⟨Nat.le_of_ble_eq_true rfl, Nat.le_of_ble_eq_true rfl⟩) hA hL (fun r_421 H locs hr_421 hA hL => ?_)
          rw [ju_end hR10 h18] at hr_421
          subst hr_421
          refine lv_bipush (v := (-5)) hx hb dL_told_424 (by decide) ?_
          refine lv_icmp_ne (tgt := 462) hx hb dL_told_426 (by decide) (fun h9 => absurd (by decide) h9) (fun _ => ?_)
          refine lv_aload_n hx hb dL_told_429 rfl (lv_at hl 9 rfl) ?_
          refine lv_iconst (v := (-1)) hx hb dL_told_430 (by decide) ?_
          refine lv_iconst (v := 0) hx hb dL_told_431 (by decide) ?_
          refine lr_i (rL (rest := []) ⟨hx, hb, hml, hown, hts⟩ (LB_judged l G cA A o (u, v, f, g, L) n K ch (-1) 0 ) (cwV 2 hts gL_told_X8_judged rfl rfl rfl mdX8_judged ⟨Nat.le_of_ble_eq_true rfl, Nat.le_of_ble_eq_true rfl⟩) hA hL rfl hl rfl (Nat.le_of_ble_eq_true rfl) dL_told_432 ⟨Nat.le_of_ble_eq_true rfl, Nat.le_of_ble_eq_true rfl⟩) hA hL (fun r_432 H locs hr_432 hA hL => ?_)
          replace hr_432 : r_432 = (-2) := hr_432
          subst hr_432
          refine lv_bipush (v := (-2)) hx hb dL_told_435 (by decide) ?_
          refine lv_icmp_ne (tgt := 462) hx hb dL_told_437 (by decide) (fun h9 => absurd (by decide) h9) (fun _ => ?_)
          refine lv_aload_n hx hb dL_told_440 rfl (lv_at hl 9 rfl) ?_
          refine lv_iconst (v := 0) hx hb dL_told_441 (by decide) ?_
          refine lv_iconst (v := 5) hx hb dL_told_442 (by decide) ?_
          refine lr_i (rL (rest := []) ⟨hx, hb, hml, hown, hts⟩ (LB_judged l G cA A o (u, v, f, g, L) n K ch 0 5 ) (cwV 2 hts gL_told_X8_judged rfl rfl rfl mdX8_judged ⟨Nat.le_of_ble_eq_true rfl, Nat.le_of_ble_eq_true rfl⟩) hA hL rfl hl rfl (Nat.le_of_ble_eq_true rfl) dL_told_443 ⟨Nat.le_of_ble_eq_true rfl, Nat.le_of_ble_eq_true rfl⟩) hA hL (fun r_443 H locs hr_443 hA hL => ?_)
          replace hr_443 : r_443 = (-2) := hr_443
          subst hr_443
          refine lv_bipush (v := (-2)) hx hb dL_told_446 (by decide) ?_
          refine lv_icmp_ne (tgt := 462) hx hb dL_told_448 (by decide) (fun h9 => absurd (by decide) h9) (fun _ => ?_)
          refine lv_aload_n hx hb dL_told_451 rfl (lv_at hl 9 rfl) ?_
          refine lw_i (rLS (rest := []) ⟨hx, hb, hml, hown, hts⟩ (hTh) (va_cwS 1 hts gL_told_L_thing rfl rfl rfl mdL_thing.2 ⟨Nat.le_of_ble_eq_true rfl, Nat.le_of_ble_eq_true rfl⟩) hA hL rfl hl rfl (Nat.le_of_ble_eq_true rfl) dL_told_452 ⟨Nat.le_of_ble_eq_true rfl, Nat.le_of_ble_eq_true rfl⟩) hA (fun r_452 _ H locs hr_452 hA hL => ?_)
          replace hL : LB G cA A o (u, v, f, g, L) n K ch H := hL
          subst hr_452
          refine lv_if_eq (tgt := 462) hx hb dL_told_455 (by decide) (fun h9 => absurd h9 (by decide)) (fun _ => ?_)
          refine lv_iconst (v := 1) hx hb dL_told_458 (by decide) ?_
          refine lv_goto (tgt := 463) hx hb dL_told_459 (by decide) ?_
          exact en_l (post := fun r (_ : Unit) => r = 1) (B := fun _ H => LB G cA A o (u, v, f, g, L) n K ch H) () hx hb hr hlocks hA rfl hL dL_told_463
        · skip
          have hlt : i < R := lt_of_nle hi (by omega) c_264
          have h8 := hT.2.2.2.2.2.2 i hlt
          refine lv_aload_n hx hb dL_told_267 rfl (lv_at hl 9 rfl) ?_
          refine lv_iload hx hb dL_told_268 (lv_at hl 0 rfl) ?_
          refine lv_iconst (v := 0) hx hb dL_told_270 (by decide) ?_
          refine lr_i (rL (rest := []) ⟨hx, hb, hml, hown, hts⟩ (LB_judged l G cA A o (u, v, f, g, L) n K ch (nI i) 0 ) (cwV 2 hts gL_told_X8_judged rfl rfl rfl mdX8_judged ⟨Nat.le_of_ble_eq_true rfl, Nat.le_of_ble_eq_true rfl⟩) hA hL rfl hl rfl (Nat.le_of_ble_eq_true rfl) dL_told_271 ⟨Nat.le_of_ble_eq_true rfl, Nat.le_of_ble_eq_true rfl⟩) hA hL (fun r_271 H locs hr_271 hA hL => ?_)
          replace hr_271 : r_271 = L (i * 5 + 0) := hr_271.trans (ju_at 0 (by decide) hlt hR10 h18)
          subst hr_271
          refine lv_if_lt (tgt := 326) hx hb dL_told_274 (by decide) (fun c_274 => absurd c_274 h8.1) (fun c_274 => ?_)
          refine lv_aload_n hx hb dL_told_277 rfl (lv_at hl 9 rfl) ?_
          refine lv_iload hx hb dL_told_278 (lv_at hl 0 rfl) ?_
          refine lv_iconst (v := 0) hx hb dL_told_280 (by decide) ?_
          refine lr_i (rL (rest := []) ⟨hx, hb, hml, hown, hts⟩ (LB_judged l G cA A o (u, v, f, g, L) n K ch (nI i) 0 ) (cwV 2 hts gL_told_X8_judged rfl rfl rfl mdX8_judged ⟨Nat.le_of_ble_eq_true rfl, Nat.le_of_ble_eq_true rfl⟩) hA hL rfl hl rfl (Nat.le_of_ble_eq_true rfl) dL_told_281 ⟨Nat.le_of_ble_eq_true rfl, Nat.le_of_ble_eq_true rfl⟩) hA hL (fun r_281 H locs hr_281 hA hL => ?_)
          replace hr_281 : r_281 = L (i * 5 + 0) := hr_281.trans (ju_at 0 (by decide) hlt hR10 h18)
          subst hr_281
          refine lv_iconst (v := 3) hx hb dL_told_284 (by decide) ?_
          refine lv_icmp_gt (tgt := 326) hx hb dL_told_285 (by decide) (fun c_285 => absurd c_285 h8.2.1) (fun c_285 => ?_)
          refine lv_aload_n hx hb dL_told_288 rfl (lv_at hl 9 rfl) ?_
          refine lv_iload hx hb dL_told_289 (lv_at hl 0 rfl) ?_
          refine lv_iconst (v := 2) hx hb dL_told_291 (by decide) ?_
          refine lr_i (rL (rest := []) ⟨hx, hb, hml, hown, hts⟩ (LB_judged l G cA A o (u, v, f, g, L) n K ch (nI i) 2 ) (cwV 2 hts gL_told_X8_judged rfl rfl rfl mdX8_judged ⟨Nat.le_of_ble_eq_true rfl, Nat.le_of_ble_eq_true rfl⟩) hA hL rfl hl rfl (Nat.le_of_ble_eq_true rfl) dL_told_292 ⟨Nat.le_of_ble_eq_true rfl, Nat.le_of_ble_eq_true rfl⟩) hA hL (fun r_292 H locs hr_292 hA hL => ?_)
          replace hr_292 : r_292 = L (i * 5 + 2) := hr_292.trans (ju_at 2 (by decide) hlt hR10 h18)
          subst hr_292
          refine lv_iconst (v := 1) hx hb dL_told_295 (by decide) ?_
          refine lv_icmp_lt (tgt := 326) hx hb dL_told_296 (by decide) (fun c_296 => absurd c_296 h8.2.2.1) (fun c_296 => ?_)
          refine lv_aload_n hx hb dL_told_299 rfl (lv_at hl 9 rfl) ?_
          refine lv_iload hx hb dL_told_300 (lv_at hl 0 rfl) ?_
          refine lv_iconst (v := 3) hx hb dL_told_302 (by decide) ?_
          refine lr_i (rL (rest := []) ⟨hx, hb, hml, hown, hts⟩ (LB_judged l G cA A o (u, v, f, g, L) n K ch (nI i) 3 ) (cwV 2 hts gL_told_X8_judged rfl rfl rfl mdX8_judged ⟨Nat.le_of_ble_eq_true rfl, Nat.le_of_ble_eq_true rfl⟩) hA hL rfl hl rfl (Nat.le_of_ble_eq_true rfl) dL_told_303 ⟨Nat.le_of_ble_eq_true rfl, Nat.le_of_ble_eq_true rfl⟩) hA hL (fun r_303 H locs hr_303 hA hL => ?_)
          replace hr_303 : r_303 = L (i * 5 + 3) := hr_303.trans (ju_at 3 (by decide) hlt hR10 h18)
          subst hr_303
          refine lv_iconst (v := 1) hx hb dL_told_306 (by decide) ?_
          refine lv_icmp_lt (tgt := 326) hx hb dL_told_307 (by decide) (fun c_307 => absurd c_307 h8.2.2.2.1) (fun c_307 => ?_)
          refine lv_aload_n hx hb dL_told_310 rfl (lv_at hl 9 rfl) ?_
          refine lv_iload hx hb dL_told_311 (lv_at hl 0 rfl) ?_
          refine lv_iconst (v := 3) hx hb dL_told_313 (by decide) ?_
          refine lr_i (rL (rest := []) ⟨hx, hb, hml, hown, hts⟩ (LB_judged l G cA A o (u, v, f, g, L) n K ch (nI i) 3 ) (cwV 2 hts gL_told_X8_judged rfl rfl rfl mdX8_judged ⟨Nat.le_of_ble_eq_true rfl, Nat.le_of_ble_eq_true rfl⟩) hA hL rfl hl rfl (Nat.le_of_ble_eq_true rfl) dL_told_314 ⟨Nat.le_of_ble_eq_true rfl, Nat.le_of_ble_eq_true rfl⟩) hA hL (fun r_314 H locs hr_314 hA hL => ?_)
          replace hr_314 : r_314 = L (i * 5 + 3) := hr_314.trans (ju_at 3 (by decide) hlt hR10 h18)
          subst hr_314
          refine lv_bipush (v := 7) hx hb dL_told_317 (by decide) ?_
          refine lv_icmp_gt (tgt := 326) hx hb dL_told_319 (by decide) (fun c_319 => absurd c_319 h8.2.2.2.2.1) (fun c_319 => ?_)
          refine lv_iconst (v := 1) hx hb dL_told_322 (by decide) ?_
          refine lv_goto (tgt := 327) hx hb dL_told_323 (by decide) ?_
          refine lv_istore (lv' := [(10, .int 1), (9, .int (nI i)), (8, .int (nI R)), (7, .int (nI J)), (6, .int 1), (5, .int 0), (4, .int 1), (3, .int 1), (2, .float (f 7)), (1, .int 2), (0, .ref o)]) hx hb dL_told_327 hl (by decide) rfl (fun ls hl => ?_)
          refine lv_aload_n hx hb dL_told_329 rfl (lv_at hl 10 rfl) ?_
          refine lv_iload hx hb dL_told_330 (lv_at hl 1 rfl) ?_
          refine lv_iconst (v := 4) hx hb dL_told_332 (by decide) ?_
          refine lr_i (rL (rest := []) ⟨hx, hb, hml, hown, hts⟩ (LB_judged l G cA A o (u, v, f, g, L) n K ch (nI i) 4 ) (cwV 2 hts gL_told_X8_judged rfl rfl rfl mdX8_judged ⟨Nat.le_of_ble_eq_true rfl, Nat.le_of_ble_eq_true rfl⟩) hA hL rfl hl rfl (Nat.le_of_ble_eq_true rfl) dL_told_333 ⟨Nat.le_of_ble_eq_true rfl, Nat.le_of_ble_eq_true rfl⟩) hA hL (fun r_333 H locs hr_333 hA hL => ?_)
          replace hr_333 : r_333 = L (i * 5 + 4) := hr_333.trans (ju_at 4 (by decide) hlt hR10 h18)
          subst hr_333
          refine lv_aload_n hx hb dL_told_336 rfl (lv_at hl 10 rfl) ?_
          refine lv_iload hx hb dL_told_337 (lv_at hl 1 rfl) ?_
          refine lv_iconst (v := 1) hx hb dL_told_339 (by decide) ?_
          refine lr_i (rL (rest := [.int (L (i * 5 + 4))]) ⟨hx, hb, hml, hown, hts⟩ (LB_judged l G cA A o (u, v, f, g, L) n K ch (nI i) 1 ) (cwV 2 hts gL_told_X8_judged rfl rfl rfl mdX8_judged ⟨Nat.le_of_ble_eq_true rfl, Nat.le_of_ble_eq_true rfl⟩) hA hL rfl hl rfl (Nat.le_of_ble_eq_true rfl) dL_told_340 ⟨Nat.le_of_ble_eq_true rfl, Nat.le_of_ble_eq_true rfl⟩) hA hL (fun r_340 H locs hr_340 hA hL => ?_)
          replace hr_340 : r_340 = L (i * 5 + 1) := hr_340.trans (ju_at 1 (by decide) hlt hR10 h18)
          subst hr_340
          refine lv_aload_n hx hb dL_told_343 rfl (lv_at hl 10 rfl) ?_
          refine lv_iload hx hb dL_told_344 (lv_at hl 1 rfl) ?_
          refine lv_iconst (v := 2) hx hb dL_told_346 (by decide) ?_
          refine lr_i (rL (rest := [.int (L (i * 5 + 1)), .int (L (i * 5 + 4))]) ⟨hx, hb, hml, hown, hts⟩ (LB_judged l G cA A o (u, v, f, g, L) n K ch (nI i) 2 ) (cwV 2 hts gL_told_X8_judged rfl rfl rfl mdX8_judged ⟨Nat.le_of_ble_eq_true rfl, Nat.le_of_ble_eq_true rfl⟩) hA hL rfl hl rfl (Nat.le_of_ble_eq_true rfl) dL_told_347 ⟨Nat.le_of_ble_eq_true rfl, Nat.le_of_ble_eq_true rfl⟩) hA hL (fun r_347 H locs hr_347 hA hL => ?_)
          replace hr_347 : r_347 = L (i * 5 + 2) := hr_347.trans (ju_at 2 (by decide) hlt hR10 h18)
          subst hr_347
          refine lv_iadd hx hb dL_told_350 ?_
          refine lv_icmp_lt (tgt := 382) hx hb dL_told_351 (by decide) (fun c_351 => absurd c_351 h8.2.2.2.2.2.1) (fun c_351 => ?_)
          refine lv_iload hx hb dL_told_354 (lv_at hl 1 rfl) ?_
          refine lv_if_eq (tgt := 378) hx hb dL_told_356 (by decide) (fun c_356 => ?_) (fun c_356 => ?_)
          · skip
            refine lv_iconst (v := 1) hx hb dL_told_378 (by decide) ?_
            refine lv_goto (tgt := 383) hx hb dL_told_379 (by decide) ?_
            refine lv_istore (lv' := [(11, .int 1), (10, .int 1), (9, .int (nI i)), (8, .int (nI R)), (7, .int (nI J)), (6, .int 1), (5, .int 0), (4, .int 1), (3, .int 1), (2, .float (f 7)), (1, .int 2), (0, .ref o)]) hx hb dL_told_383 hl (by decide) rfl (fun ls hl => ?_)
            refine lv_iload hx hb dL_told_385 (lv_at hl 1 rfl) ?_
            refine lv_if_eq (tgt := 395) hx hb dL_told_387 (by decide) (fun h9 => absurd h9 (by decide)) (fun _ => ?_)
            refine lv_iload hx hb dL_told_390 (lv_at hl 0 rfl) ?_
            refine lv_if_ne (tgt := 397) hx hb dL_told_392 (by decide) (fun _ => ?_) (fun h9 => absurd h9 (by decide))
            refine lv_iinc (v := ((nI i) + 1)) (lv' := [(9, .int ((nI i) + 1)), (11, .int 1), (10, .int 1), (8, .int (nI R)), (7, .int (nI J)), (6, .int 1), (5, .int 0), (4, .int 1), (3, .int 1), (2, .float (f 7)), (1, .int 2), (0, .ref o)]) hx hb dL_told_397 hl (k := 2) rfl rfl (by decide) rfl (fun ls hl => ?_)
            refine lv_goto (tgt := 260) hx hb dL_told_400 (by decide) ?_
            replace hl : lv_has ls 12 [(9, .int (nI (i + 1))), (11, .int 1), (10, .int 1), (8, .int (nI R)), (7, .int (nI J)), (6, .int 1), (5, .int 0), (4, .int 1), (3, .int 1), (2, .float (f 7)), (1, .int 2), (0, .ref o)] := by rw [← nI_1]; exact hl
            exact ih (i + 1) _ _ _ (by omega) (by omega) hA hL (lv_sub hl [0, 3, 4, 5, 6, 7, 8, 9, 10, 11] rfl)
          · skip
            refine lv_aload_n hx hb dL_told_359 rfl (lv_at hl 10 rfl) ?_
            refine lv_iload hx hb dL_told_360 (lv_at hl 1 rfl) ?_
            refine lv_iconst (v := 4) hx hb dL_told_362 (by decide) ?_
            refine lr_i (rL (rest := []) ⟨hx, hb, hml, hown, hts⟩ (LB_judged l G cA A o (u, v, f, g, L) n K ch (nI i) 4 ) (cwV 2 hts gL_told_X8_judged rfl rfl rfl mdX8_judged ⟨Nat.le_of_ble_eq_true rfl, Nat.le_of_ble_eq_true rfl⟩) hA hL rfl hl rfl (Nat.le_of_ble_eq_true rfl) dL_told_363 ⟨Nat.le_of_ble_eq_true rfl, Nat.le_of_ble_eq_true rfl⟩) hA hL (fun r_363 H locs hr_363 hA hL => ?_)
            replace hr_363 : r_363 = L (i * 5 + 4) := hr_363.trans (ju_at 4 (by decide) hlt hR10 h18)
            subst hr_363
            refine lv_aload_n hx hb dL_told_366 rfl (lv_at hl 10 rfl) ?_
            refine lv_iload hx hb dL_told_367 (lv_at hl 1 rfl) ?_
            refine lv_iconst (v := 1) hx hb dL_told_369 (by decide) ?_
            refine lv_isub hx hb dL_told_370 ?_
            refine lv_iconst (v := 1) hx hb dL_told_371 (by decide) ?_
            refine lr_i (rL (rest := [.int (L (i * 5 + 4))]) ⟨hx, hb, hml, hown, hts⟩ (LB_judged l G cA A o (u, v, f, g, L) n K ch ((nI i) - 1) 1 ) (cwV 2 hts gL_told_X8_judged rfl rfl rfl mdX8_judged ⟨Nat.le_of_ble_eq_true rfl, Nat.le_of_ble_eq_true rfl⟩) hA hL rfl hl rfl (Nat.le_of_ble_eq_true rfl) dL_told_372 ⟨Nat.le_of_ble_eq_true rfl, Nat.le_of_ble_eq_true rfl⟩) hA hL (fun r_372 H locs hr_372 hA hL => ?_)
            rw [(pred_of c_356).2] at hr_372
            replace hr_372 : r_372 = L ((i - 1) * 5 + 1) := hr_372.trans (ju_at 1 (by decide) (by omega) hR10 h18)
            subst hr_372
            refine lv_icmp_ge (tgt := 382) hx hb dL_told_375 (by decide) (fun c_375 => absurd c_375 (h8.2.2.2.2.2.2 (pred_of c_356).1)) (fun c_375 => ?_)
            refine lv_iconst (v := 1) hx hb dL_told_378 (by decide) ?_
            refine lv_goto (tgt := 383) hx hb dL_told_379 (by decide) ?_
            refine lv_istore (lv' := [(11, .int 1), (10, .int 1), (9, .int (nI i)), (8, .int (nI R)), (7, .int (nI J)), (6, .int 1), (5, .int 0), (4, .int 1), (3, .int 1), (2, .float (f 7)), (1, .int 2), (0, .ref o)]) hx hb dL_told_383 hl (by decide) rfl (fun ls hl => ?_)
            refine lv_iload hx hb dL_told_385 (lv_at hl 1 rfl) ?_
            refine lv_if_eq (tgt := 395) hx hb dL_told_387 (by decide) (fun h9 => absurd h9 (by decide)) (fun _ => ?_)
            refine lv_iload hx hb dL_told_390 (lv_at hl 0 rfl) ?_
            refine lv_if_ne (tgt := 397) hx hb dL_told_392 (by decide) (fun _ => ?_) (fun h9 => absurd h9 (by decide))
            refine lv_iinc (v := ((nI i) + 1)) (lv' := [(9, .int ((nI i) + 1)), (11, .int 1), (10, .int 1), (8, .int (nI R)), (7, .int (nI J)), (6, .int 1), (5, .int 0), (4, .int 1), (3, .int 1), (2, .float (f 7)), (1, .int 2), (0, .ref o)]) hx hb dL_told_397 hl (k := 2) rfl rfl (by decide) rfl (fun ls hl => ?_)
            refine lv_goto (tgt := 260) hx hb dL_told_400 (by decide) ?_
            replace hl : lv_has ls 12 [(9, .int (nI (i + 1))), (11, .int 1), (10, .int 1), (8, .int (nI R)), (7, .int (nI J)), (6, .int 1), (5, .int 0), (4, .int 1), (3, .int 1), (2, .float (f 7)), (1, .int 2), (0, .ref o)] := by rw [← nI_1]; exact hl
            exact ih (i + 1) _ _ _ (by omega) (by omega) hA hL (lv_sub hl [0, 3, 4, 5, 6, 7, 8, 9, 10, 11] rfl)
    · skip
      refine lv_iload hx hb dL_told_248 (lv_at hl 0 rfl) ?_
      refine lv_goto (tgt := 255) hx hb dL_told_250 (by decide) ?_
      have hRR : R = J := by rw [hRd, if_pos (Nat.lt_of_not_le (fun h9 => c_245 ((nI_leI (a := 10) (b := J) (by decide) hJ31).mpr h9)))]
      refine W.eq (g2 := F0 m 255 ls [.int (nI R)]) (by rw [hRR]) ?_
      refine lv_istore (lv' := [(8, .int (nI R)), (7, .int (nI J)), (6, .int 1), (5, .int 0), (4, .int 1), (3, .int 1), (2, .float (f 7)), (1, .int 2), (0, .ref o)]) hx hb dL_told_255 hl (by decide) rfl (fun ls hl => ?_)
      refine lv_iconst (v := 0) hx hb dL_told_257 (by decide) ?_
      refine lv_istore (lv' := [(9, .int 0), (8, .int (nI R)), (7, .int (nI J)), (6, .int 1), (5, .int 0), (4, .int 1), (3, .int 1), (2, .float (f 7)), (1, .int 2), (0, .ref o)]) hx hb dL_told_258 hl (by decide) rfl (fun ls hl => ?_)
      obtain ⟨i, hi0⟩ : ∃ i : Nat, i = 0 := ⟨_, rfl⟩
      replace hl : lv_has ls 12 [(9, .int (nI i)), (8, .int (nI R)), (7, .int (nI J)), (6, .int 1), (5, .int 0), (4, .int 1), (3, .int 1), (2, .float (f 7)), (1, .int 2), (0, .ref o)] := by rw [hi0]; exact hl
      obtain ⟨nn, hn⟩ : ∃ nn : Nat, R < i + nn := ⟨R + 1, by omega⟩
      have hi : i ≤ R := by omega
      clear hi0
      revert hl
      revert hL
      revert hA
      revert hi
      revert hn
      revert ls
      revert locs
      revert H
      revert i
      induction nn with
      | zero => intro i H locs ls hn hi; exact absurd hn (by omega)
      | succ nn ih =>
        intro i H locs ls hn hi hA hL hl
        refine lv_iload hx hb dL_told_260 (lv_at hl 0 rfl) ?_
        refine lv_iload hx hb dL_told_262 (lv_at hl 1 rfl) ?_
        refine lv_icmp_ge (tgt := 403) hx hb dL_told_264 (by decide) (fun c_264_1 => ?_) (fun c_264_1 => ?_)
        · skip
          obtain rfl : R = i := (eq_of_le hi (by omega) c_264_1).symm
          refine lv_iload_n hx hb dL_told_403 rfl (lv_at hl 6 rfl) ?_
          refine lv_if_eq (tgt := 462) hx hb dL_told_404 (by decide) (fun h9 => absurd h9 (by decide)) (fun _ => ?_)
          refine lv_iload hx hb dL_told_407 (lv_at hl 5 rfl) ?_
          refine lv_if_eq (tgt := 462) hx hb dL_told_409 (by decide) (fun h9 => absurd h9 (by decide)) (fun _ => ?_)
          refine lv_iload hx hb dL_told_412 (lv_at hl 3 rfl) ?_
          refine lv_if_eq (tgt := 462) hx hb dL_told_414 (by decide) (fun h9 => absurd h9 (by decide)) (fun _ => ?_)
          refine lv_aload_n hx hb dL_told_417 rfl (lv_at hl 9 rfl) ?_
          refine lv_iload hx hb dL_told_418 (lv_at hl 1 rfl) ?_
          refine lv_iconst (v := 0) hx hb dL_told_420 (by decide) ?_
          refine lr_i (rL (rest := []) ⟨hx, hb, hml, hown, hts⟩ (LB_judged l G cA A o (u, v, f, g, L) n K ch (nI R) 0 ) (cwV 2 hts gL_told_X8_judged rfl rfl rfl mdX8_judged ⟨Nat.le_of_ble_eq_true rfl, Nat.le_of_ble_eq_true rfl⟩) hA hL rfl hl rfl (Nat.le_of_ble_eq_true rfl) dL_told_421 ⟨Nat.le_of_ble_eq_true rfl, Nat.le_of_ble_eq_true rfl⟩) hA hL (fun r_421_1 H locs hr_421_1 hA hL => ?_)
          rw [ju_end hR10 h18] at hr_421_1
          subst hr_421_1
          refine lv_bipush (v := (-5)) hx hb dL_told_424 (by decide) ?_
          refine lv_icmp_ne (tgt := 462) hx hb dL_told_426 (by decide) (fun h9 => absurd (by decide) h9) (fun _ => ?_)
          refine lv_aload_n hx hb dL_told_429 rfl (lv_at hl 9 rfl) ?_
          refine lv_iconst (v := (-1)) hx hb dL_told_430 (by decide) ?_
          refine lv_iconst (v := 0) hx hb dL_told_431 (by decide) ?_
          refine lr_i (rL (rest := []) ⟨hx, hb, hml, hown, hts⟩ (LB_judged l G cA A o (u, v, f, g, L) n K ch (-1) 0 ) (cwV 2 hts gL_told_X8_judged rfl rfl rfl mdX8_judged ⟨Nat.le_of_ble_eq_true rfl, Nat.le_of_ble_eq_true rfl⟩) hA hL rfl hl rfl (Nat.le_of_ble_eq_true rfl) dL_told_432 ⟨Nat.le_of_ble_eq_true rfl, Nat.le_of_ble_eq_true rfl⟩) hA hL (fun r_432_1 H locs hr_432_1 hA hL => ?_)
          replace hr_432_1 : r_432_1 = (-2) := hr_432_1
          subst hr_432_1
          refine lv_bipush (v := (-2)) hx hb dL_told_435 (by decide) ?_
          refine lv_icmp_ne (tgt := 462) hx hb dL_told_437 (by decide) (fun h9 => absurd (by decide) h9) (fun _ => ?_)
          refine lv_aload_n hx hb dL_told_440 rfl (lv_at hl 9 rfl) ?_
          refine lv_iconst (v := 0) hx hb dL_told_441 (by decide) ?_
          refine lv_iconst (v := 5) hx hb dL_told_442 (by decide) ?_
          refine lr_i (rL (rest := []) ⟨hx, hb, hml, hown, hts⟩ (LB_judged l G cA A o (u, v, f, g, L) n K ch 0 5 ) (cwV 2 hts gL_told_X8_judged rfl rfl rfl mdX8_judged ⟨Nat.le_of_ble_eq_true rfl, Nat.le_of_ble_eq_true rfl⟩) hA hL rfl hl rfl (Nat.le_of_ble_eq_true rfl) dL_told_443 ⟨Nat.le_of_ble_eq_true rfl, Nat.le_of_ble_eq_true rfl⟩) hA hL (fun r_443_1 H locs hr_443_1 hA hL => ?_)
          replace hr_443_1 : r_443_1 = (-2) := hr_443_1
          subst hr_443_1
          refine lv_bipush (v := (-2)) hx hb dL_told_446 (by decide) ?_
          refine lv_icmp_ne (tgt := 462) hx hb dL_told_448 (by decide) (fun h9 => absurd (by decide) h9) (fun _ => ?_)
          refine lv_aload_n hx hb dL_told_451 rfl (lv_at hl 9 rfl) ?_
          refine lw_i (rLS (rest := []) ⟨hx, hb, hml, hown, hts⟩ (hTh) (va_cwS 1 hts gL_told_L_thing rfl rfl rfl mdL_thing.2 ⟨Nat.le_of_ble_eq_true rfl, Nat.le_of_ble_eq_true rfl⟩) hA hL rfl hl rfl (Nat.le_of_ble_eq_true rfl) dL_told_452 ⟨Nat.le_of_ble_eq_true rfl, Nat.le_of_ble_eq_true rfl⟩) hA (fun r_452_1 _ H locs hr_452_1 hA hL => ?_)
          replace hL : LB G cA A o (u, v, f, g, L) n K ch H := hL
          subst hr_452_1
          refine lv_if_eq (tgt := 462) hx hb dL_told_455 (by decide) (fun h9 => absurd h9 (by decide)) (fun _ => ?_)
          refine lv_iconst (v := 1) hx hb dL_told_458 (by decide) ?_
          refine lv_goto (tgt := 463) hx hb dL_told_459 (by decide) ?_
          exact en_l (post := fun r (_ : Unit) => r = 1) (B := fun _ H => LB G cA A o (u, v, f, g, L) n K ch H) () hx hb hr hlocks hA rfl hL dL_told_463
        · skip
          have hlt : i < R := lt_of_nle hi (by omega) c_264_1
          have h8 := hT.2.2.2.2.2.2 i hlt
          refine lv_aload_n hx hb dL_told_267 rfl (lv_at hl 9 rfl) ?_
          refine lv_iload hx hb dL_told_268 (lv_at hl 0 rfl) ?_
          refine lv_iconst (v := 0) hx hb dL_told_270 (by decide) ?_
          refine lr_i (rL (rest := []) ⟨hx, hb, hml, hown, hts⟩ (LB_judged l G cA A o (u, v, f, g, L) n K ch (nI i) 0 ) (cwV 2 hts gL_told_X8_judged rfl rfl rfl mdX8_judged ⟨Nat.le_of_ble_eq_true rfl, Nat.le_of_ble_eq_true rfl⟩) hA hL rfl hl rfl (Nat.le_of_ble_eq_true rfl) dL_told_271 ⟨Nat.le_of_ble_eq_true rfl, Nat.le_of_ble_eq_true rfl⟩) hA hL (fun r_271_1 H locs hr_271_1 hA hL => ?_)
          replace hr_271_1 : r_271_1 = L (i * 5 + 0) := hr_271_1.trans (ju_at 0 (by decide) hlt hR10 h18)
          subst hr_271_1
          refine lv_if_lt (tgt := 326) hx hb dL_told_274 (by decide) (fun c_274_1 => absurd c_274_1 h8.1) (fun c_274_1 => ?_)
          refine lv_aload_n hx hb dL_told_277 rfl (lv_at hl 9 rfl) ?_
          refine lv_iload hx hb dL_told_278 (lv_at hl 0 rfl) ?_
          refine lv_iconst (v := 0) hx hb dL_told_280 (by decide) ?_
          refine lr_i (rL (rest := []) ⟨hx, hb, hml, hown, hts⟩ (LB_judged l G cA A o (u, v, f, g, L) n K ch (nI i) 0 ) (cwV 2 hts gL_told_X8_judged rfl rfl rfl mdX8_judged ⟨Nat.le_of_ble_eq_true rfl, Nat.le_of_ble_eq_true rfl⟩) hA hL rfl hl rfl (Nat.le_of_ble_eq_true rfl) dL_told_281 ⟨Nat.le_of_ble_eq_true rfl, Nat.le_of_ble_eq_true rfl⟩) hA hL (fun r_281_1 H locs hr_281_1 hA hL => ?_)
          replace hr_281_1 : r_281_1 = L (i * 5 + 0) := hr_281_1.trans (ju_at 0 (by decide) hlt hR10 h18)
          subst hr_281_1
          refine lv_iconst (v := 3) hx hb dL_told_284 (by decide) ?_
          refine lv_icmp_gt (tgt := 326) hx hb dL_told_285 (by decide) (fun c_285_1 => absurd c_285_1 h8.2.1) (fun c_285_1 => ?_)
          refine lv_aload_n hx hb dL_told_288 rfl (lv_at hl 9 rfl) ?_
          refine lv_iload hx hb dL_told_289 (lv_at hl 0 rfl) ?_
          refine lv_iconst (v := 2) hx hb dL_told_291 (by decide) ?_
          refine lr_i (rL (rest := []) ⟨hx, hb, hml, hown, hts⟩ (LB_judged l G cA A o (u, v, f, g, L) n K ch (nI i) 2 ) (cwV 2 hts gL_told_X8_judged rfl rfl rfl mdX8_judged ⟨Nat.le_of_ble_eq_true rfl, Nat.le_of_ble_eq_true rfl⟩) hA hL rfl hl rfl (Nat.le_of_ble_eq_true rfl) dL_told_292 ⟨Nat.le_of_ble_eq_true rfl, Nat.le_of_ble_eq_true rfl⟩) hA hL (fun r_292_1 H locs hr_292_1 hA hL => ?_)
          replace hr_292_1 : r_292_1 = L (i * 5 + 2) := hr_292_1.trans (ju_at 2 (by decide) hlt hR10 h18)
          subst hr_292_1
          refine lv_iconst (v := 1) hx hb dL_told_295 (by decide) ?_
          refine lv_icmp_lt (tgt := 326) hx hb dL_told_296 (by decide) (fun c_296_1 => absurd c_296_1 h8.2.2.1) (fun c_296_1 => ?_)
          refine lv_aload_n hx hb dL_told_299 rfl (lv_at hl 9 rfl) ?_
          refine lv_iload hx hb dL_told_300 (lv_at hl 0 rfl) ?_
          refine lv_iconst (v := 3) hx hb dL_told_302 (by decide) ?_
          refine lr_i (rL (rest := []) ⟨hx, hb, hml, hown, hts⟩ (LB_judged l G cA A o (u, v, f, g, L) n K ch (nI i) 3 ) (cwV 2 hts gL_told_X8_judged rfl rfl rfl mdX8_judged ⟨Nat.le_of_ble_eq_true rfl, Nat.le_of_ble_eq_true rfl⟩) hA hL rfl hl rfl (Nat.le_of_ble_eq_true rfl) dL_told_303 ⟨Nat.le_of_ble_eq_true rfl, Nat.le_of_ble_eq_true rfl⟩) hA hL (fun r_303_1 H locs hr_303_1 hA hL => ?_)
          replace hr_303_1 : r_303_1 = L (i * 5 + 3) := hr_303_1.trans (ju_at 3 (by decide) hlt hR10 h18)
          subst hr_303_1
          refine lv_iconst (v := 1) hx hb dL_told_306 (by decide) ?_
          refine lv_icmp_lt (tgt := 326) hx hb dL_told_307 (by decide) (fun c_307_1 => absurd c_307_1 h8.2.2.2.1) (fun c_307_1 => ?_)
          refine lv_aload_n hx hb dL_told_310 rfl (lv_at hl 9 rfl) ?_
          refine lv_iload hx hb dL_told_311 (lv_at hl 0 rfl) ?_
          refine lv_iconst (v := 3) hx hb dL_told_313 (by decide) ?_
          refine lr_i (rL (rest := []) ⟨hx, hb, hml, hown, hts⟩ (LB_judged l G cA A o (u, v, f, g, L) n K ch (nI i) 3 ) (cwV 2 hts gL_told_X8_judged rfl rfl rfl mdX8_judged ⟨Nat.le_of_ble_eq_true rfl, Nat.le_of_ble_eq_true rfl⟩) hA hL rfl hl rfl (Nat.le_of_ble_eq_true rfl) dL_told_314 ⟨Nat.le_of_ble_eq_true rfl, Nat.le_of_ble_eq_true rfl⟩) hA hL (fun r_314_1 H locs hr_314_1 hA hL => ?_)
          replace hr_314_1 : r_314_1 = L (i * 5 + 3) := hr_314_1.trans (ju_at 3 (by decide) hlt hR10 h18)
          subst hr_314_1
          refine lv_bipush (v := 7) hx hb dL_told_317 (by decide) ?_
          refine lv_icmp_gt (tgt := 326) hx hb dL_told_319 (by decide) (fun c_319_1 => absurd c_319_1 h8.2.2.2.2.1) (fun c_319_1 => ?_)
          refine lv_iconst (v := 1) hx hb dL_told_322 (by decide) ?_
          refine lv_goto (tgt := 327) hx hb dL_told_323 (by decide) ?_
          refine lv_istore (lv' := [(10, .int 1), (9, .int (nI i)), (8, .int (nI R)), (7, .int (nI J)), (6, .int 1), (5, .int 0), (4, .int 1), (3, .int 1), (2, .float (f 7)), (1, .int 2), (0, .ref o)]) hx hb dL_told_327 hl (by decide) rfl (fun ls hl => ?_)
          refine lv_aload_n hx hb dL_told_329 rfl (lv_at hl 10 rfl) ?_
          refine lv_iload hx hb dL_told_330 (lv_at hl 1 rfl) ?_
          refine lv_iconst (v := 4) hx hb dL_told_332 (by decide) ?_
          refine lr_i (rL (rest := []) ⟨hx, hb, hml, hown, hts⟩ (LB_judged l G cA A o (u, v, f, g, L) n K ch (nI i) 4 ) (cwV 2 hts gL_told_X8_judged rfl rfl rfl mdX8_judged ⟨Nat.le_of_ble_eq_true rfl, Nat.le_of_ble_eq_true rfl⟩) hA hL rfl hl rfl (Nat.le_of_ble_eq_true rfl) dL_told_333 ⟨Nat.le_of_ble_eq_true rfl, Nat.le_of_ble_eq_true rfl⟩) hA hL (fun r_333_1 H locs hr_333_1 hA hL => ?_)
          replace hr_333_1 : r_333_1 = L (i * 5 + 4) := hr_333_1.trans (ju_at 4 (by decide) hlt hR10 h18)
          subst hr_333_1
          refine lv_aload_n hx hb dL_told_336 rfl (lv_at hl 10 rfl) ?_
          refine lv_iload hx hb dL_told_337 (lv_at hl 1 rfl) ?_
          refine lv_iconst (v := 1) hx hb dL_told_339 (by decide) ?_
          refine lr_i (rL (rest := [.int (L (i * 5 + 4))]) ⟨hx, hb, hml, hown, hts⟩ (LB_judged l G cA A o (u, v, f, g, L) n K ch (nI i) 1 ) (cwV 2 hts gL_told_X8_judged rfl rfl rfl mdX8_judged ⟨Nat.le_of_ble_eq_true rfl, Nat.le_of_ble_eq_true rfl⟩) hA hL rfl hl rfl (Nat.le_of_ble_eq_true rfl) dL_told_340 ⟨Nat.le_of_ble_eq_true rfl, Nat.le_of_ble_eq_true rfl⟩) hA hL (fun r_340_1 H locs hr_340_1 hA hL => ?_)
          replace hr_340_1 : r_340_1 = L (i * 5 + 1) := hr_340_1.trans (ju_at 1 (by decide) hlt hR10 h18)
          subst hr_340_1
          refine lv_aload_n hx hb dL_told_343 rfl (lv_at hl 10 rfl) ?_
          refine lv_iload hx hb dL_told_344 (lv_at hl 1 rfl) ?_
          refine lv_iconst (v := 2) hx hb dL_told_346 (by decide) ?_
          refine lr_i (rL (rest := [.int (L (i * 5 + 1)), .int (L (i * 5 + 4))]) ⟨hx, hb, hml, hown, hts⟩ (LB_judged l G cA A o (u, v, f, g, L) n K ch (nI i) 2 ) (cwV 2 hts gL_told_X8_judged rfl rfl rfl mdX8_judged ⟨Nat.le_of_ble_eq_true rfl, Nat.le_of_ble_eq_true rfl⟩) hA hL rfl hl rfl (Nat.le_of_ble_eq_true rfl) dL_told_347 ⟨Nat.le_of_ble_eq_true rfl, Nat.le_of_ble_eq_true rfl⟩) hA hL (fun r_347_1 H locs hr_347_1 hA hL => ?_)
          replace hr_347_1 : r_347_1 = L (i * 5 + 2) := hr_347_1.trans (ju_at 2 (by decide) hlt hR10 h18)
          subst hr_347_1
          refine lv_iadd hx hb dL_told_350 ?_
          refine lv_icmp_lt (tgt := 382) hx hb dL_told_351 (by decide) (fun c_351_1 => absurd c_351_1 h8.2.2.2.2.2.1) (fun c_351_1 => ?_)
          refine lv_iload hx hb dL_told_354 (lv_at hl 1 rfl) ?_
          refine lv_if_eq (tgt := 378) hx hb dL_told_356 (by decide) (fun c_356_1 => ?_) (fun c_356_1 => ?_)
          · skip
            refine lv_iconst (v := 1) hx hb dL_told_378 (by decide) ?_
            refine lv_goto (tgt := 383) hx hb dL_told_379 (by decide) ?_
            refine lv_istore (lv' := [(11, .int 1), (10, .int 1), (9, .int (nI i)), (8, .int (nI R)), (7, .int (nI J)), (6, .int 1), (5, .int 0), (4, .int 1), (3, .int 1), (2, .float (f 7)), (1, .int 2), (0, .ref o)]) hx hb dL_told_383 hl (by decide) rfl (fun ls hl => ?_)
            refine lv_iload hx hb dL_told_385 (lv_at hl 1 rfl) ?_
            refine lv_if_eq (tgt := 395) hx hb dL_told_387 (by decide) (fun h9 => absurd h9 (by decide)) (fun _ => ?_)
            refine lv_iload hx hb dL_told_390 (lv_at hl 0 rfl) ?_
            refine lv_if_ne (tgt := 397) hx hb dL_told_392 (by decide) (fun _ => ?_) (fun h9 => absurd h9 (by decide))
            refine lv_iinc (v := ((nI i) + 1)) (lv' := [(9, .int ((nI i) + 1)), (11, .int 1), (10, .int 1), (8, .int (nI R)), (7, .int (nI J)), (6, .int 1), (5, .int 0), (4, .int 1), (3, .int 1), (2, .float (f 7)), (1, .int 2), (0, .ref o)]) hx hb dL_told_397 hl (k := 2) rfl rfl (by decide) rfl (fun ls hl => ?_)
            refine lv_goto (tgt := 260) hx hb dL_told_400 (by decide) ?_
            replace hl : lv_has ls 12 [(9, .int (nI (i + 1))), (11, .int 1), (10, .int 1), (8, .int (nI R)), (7, .int (nI J)), (6, .int 1), (5, .int 0), (4, .int 1), (3, .int 1), (2, .float (f 7)), (1, .int 2), (0, .ref o)] := by rw [← nI_1]; exact hl
            exact ih (i + 1) _ _ _ (by omega) (by omega) hA hL (lv_sub hl [0, 3, 4, 5, 6, 7, 8, 9, 10, 11] rfl)
          · skip
            refine lv_aload_n hx hb dL_told_359 rfl (lv_at hl 10 rfl) ?_
            refine lv_iload hx hb dL_told_360 (lv_at hl 1 rfl) ?_
            refine lv_iconst (v := 4) hx hb dL_told_362 (by decide) ?_
            refine lr_i (rL (rest := []) ⟨hx, hb, hml, hown, hts⟩ (LB_judged l G cA A o (u, v, f, g, L) n K ch (nI i) 4 ) (cwV 2 hts gL_told_X8_judged rfl rfl rfl mdX8_judged ⟨Nat.le_of_ble_eq_true rfl, Nat.le_of_ble_eq_true rfl⟩) hA hL rfl hl rfl (Nat.le_of_ble_eq_true rfl) dL_told_363 ⟨Nat.le_of_ble_eq_true rfl, Nat.le_of_ble_eq_true rfl⟩) hA hL (fun r_363_1 H locs hr_363_1 hA hL => ?_)
            replace hr_363_1 : r_363_1 = L (i * 5 + 4) := hr_363_1.trans (ju_at 4 (by decide) hlt hR10 h18)
            subst hr_363_1
            refine lv_aload_n hx hb dL_told_366 rfl (lv_at hl 10 rfl) ?_
            refine lv_iload hx hb dL_told_367 (lv_at hl 1 rfl) ?_
            refine lv_iconst (v := 1) hx hb dL_told_369 (by decide) ?_
            refine lv_isub hx hb dL_told_370 ?_
            refine lv_iconst (v := 1) hx hb dL_told_371 (by decide) ?_
            refine lr_i (rL (rest := [.int (L (i * 5 + 4))]) ⟨hx, hb, hml, hown, hts⟩ (LB_judged l G cA A o (u, v, f, g, L) n K ch ((nI i) - 1) 1 ) (cwV 2 hts gL_told_X8_judged rfl rfl rfl mdX8_judged ⟨Nat.le_of_ble_eq_true rfl, Nat.le_of_ble_eq_true rfl⟩) hA hL rfl hl rfl (Nat.le_of_ble_eq_true rfl) dL_told_372 ⟨Nat.le_of_ble_eq_true rfl, Nat.le_of_ble_eq_true rfl⟩) hA hL (fun r_372_1 H locs hr_372_1 hA hL => ?_)
            rw [(pred_of c_356_1).2] at hr_372_1
            replace hr_372_1 : r_372_1 = L ((i - 1) * 5 + 1) := hr_372_1.trans (ju_at 1 (by decide) (by omega) hR10 h18)
            subst hr_372_1
            refine lv_icmp_ge (tgt := 382) hx hb dL_told_375 (by decide) (fun c_375_1 => absurd c_375_1 (h8.2.2.2.2.2.2 (pred_of c_356_1).1)) (fun c_375_1 => ?_)
            refine lv_iconst (v := 1) hx hb dL_told_378 (by decide) ?_
            refine lv_goto (tgt := 383) hx hb dL_told_379 (by decide) ?_
            refine lv_istore (lv' := [(11, .int 1), (10, .int 1), (9, .int (nI i)), (8, .int (nI R)), (7, .int (nI J)), (6, .int 1), (5, .int 0), (4, .int 1), (3, .int 1), (2, .float (f 7)), (1, .int 2), (0, .ref o)]) hx hb dL_told_383 hl (by decide) rfl (fun ls hl => ?_)
            refine lv_iload hx hb dL_told_385 (lv_at hl 1 rfl) ?_
            refine lv_if_eq (tgt := 395) hx hb dL_told_387 (by decide) (fun h9 => absurd h9 (by decide)) (fun _ => ?_)
            refine lv_iload hx hb dL_told_390 (lv_at hl 0 rfl) ?_
            refine lv_if_ne (tgt := 397) hx hb dL_told_392 (by decide) (fun _ => ?_) (fun h9 => absurd h9 (by decide))
            refine lv_iinc (v := ((nI i) + 1)) (lv' := [(9, .int ((nI i) + 1)), (11, .int 1), (10, .int 1), (8, .int (nI R)), (7, .int (nI J)), (6, .int 1), (5, .int 0), (4, .int 1), (3, .int 1), (2, .float (f 7)), (1, .int 2), (0, .ref o)]) hx hb dL_told_397 hl (k := 2) rfl rfl (by decide) rfl (fun ls hl => ?_)
            refine lv_goto (tgt := 260) hx hb dL_told_400 (by decide) ?_
            replace hl : lv_has ls 12 [(9, .int (nI (i + 1))), (11, .int 1), (10, .int 1), (8, .int (nI R)), (7, .int (nI J)), (6, .int 1), (5, .int 0), (4, .int 1), (3, .int 1), (2, .float (f 7)), (1, .int 2), (0, .ref o)] := by rw [← nI_1]; exact hl
            exact ih (i + 1) _ _ _ (by omega) (by omega) hA hL (lv_sub hl [0, 3, 4, 5, 6, 7, 8, 9, 10, 11] rfl)
  · skip
    refine lv_iconst (v := 1) hx hb dL_told_133 (by decide) ?_
    refine lv_goto (tgt := 138) hx hb dL_told_134 (by decide) ?_
    refine lv_istore (lv' := [(5, .int 1), (4, .int 1), (3, .int 1), (2, .float (f 7)), (1, .int 2), (0, .ref o)]) hx hb dL_told_138 hl (by decide) rfl (fun ls hl => ?_)
    refine lv_aload_n hx hb dL_told_140 rfl (lv_at hl 5 rfl) ?_
    refine lv_iconst (v := 3) hx hb dL_told_141 (by decide) ?_
    refine lr_f (rL (rest := []) ⟨hx, hb, hml, hown, hts⟩ (LB_speed l G cA A o (u, v, f, g, L) n K ch 3) (cwV 1 hts gL_told_X8_speed rfl rfl rfl mdX8_speed ⟨Nat.le_of_ble_eq_true rfl, Nat.le_of_ble_eq_true rfl⟩) hA hL rfl hl rfl (Nat.le_of_ble_eq_true rfl) dL_told_142 ⟨Nat.le_of_ble_eq_true rfl, Nat.le_of_ble_eq_true rfl⟩) hA hL (fun r_142_1 H locs hr_142_1 hA hL => ?_)
    replace hr_142_1 : r_142_1 = spF u (scF v g) := hr_142_1
    rw [show spF u (scF v g) = u 2 from by unfold scF; rw [if_neg c_130]; rfl] at hr_142_1
    subst hr_142_1
    refine lv_iload hx hb dL_told_145 (lv_at hl 0 rfl) ?_
    refine lv_if_eq (tgt := 158) hx hb dL_told_147 (by decide) (fun h9 => absurd h9 (by decide)) (fun _ => ?_)
    refine lv_aload_n hx hb dL_told_150 rfl (lv_at hl 5 rfl) ?_
    refine lv_iconst (v := 2) hx hb dL_told_151 (by decide) ?_
    refine lr_f (rL (rest := [.float (u 2)]) ⟨hx, hb, hml, hown, hts⟩ (LB_speed l G cA A o (u, v, f, g, L) n K ch 2) (cwV 1 hts gL_told_X8_speed rfl rfl rfl mdX8_speed ⟨Nat.le_of_ble_eq_true rfl, Nat.le_of_ble_eq_true rfl⟩) hA hL rfl hl rfl (Nat.le_of_ble_eq_true rfl) dL_told_152 ⟨Nat.le_of_ble_eq_true rfl, Nat.le_of_ble_eq_true rfl⟩) hA hL (fun r_152 H locs hr_152 hA hL => ?_)
    replace hr_152 : r_152 = u 2 := hr_152
    subst hr_152
    refine lv_goto (tgt := 163) hx hb dL_told_155 (by decide) ?_
    refine lv_fcmp hx hb dL_told_163 ?_
    refine lv_if_ne (tgt := 213) hx hb dL_told_164 (by decide) (fun c_164_1 => absurd hT.2.2.2.2.1.2 c_164_1) (fun c_164_1 => ?_)
    refine lv_aload_n hx hb dL_told_167 rfl (lv_at hl 5 rfl) ?_
    refine lv_iconst (v := 4) hx hb dL_told_168 (by decide) ?_
    refine lr_f (rL (rest := []) ⟨hx, hb, hml, hown, hts⟩ (LB_speed l G cA A o (u, v, f, g, L) n K ch 4) (cwV 1 hts gL_told_X8_speed rfl rfl rfl mdX8_speed ⟨Nat.le_of_ble_eq_true rfl, Nat.le_of_ble_eq_true rfl⟩) hA hL rfl hl rfl (Nat.le_of_ble_eq_true rfl) dL_told_169 ⟨Nat.le_of_ble_eq_true rfl, Nat.le_of_ble_eq_true rfl⟩) hA hL (fun r_169_1 H locs hr_169_1 hA hL => ?_)
    replace hr_169_1 : r_169_1 = nanF := hr_169_1
    subst hr_169_1
    refine lr_i (rS (rest := []) ⟨hx, hb, hml, hown, hts⟩ (cL_isNone_ok l G cA nanF) (va_cwS 1 hts gL_told_L_isNone rfl rfl rfl mdL_isNone.2 ⟨Nat.le_of_ble_eq_true rfl, Nat.le_of_ble_eq_true rfl⟩) hA.1 empP empD rfl hl rfl (Nat.le_of_ble_eq_true rfl) dL_told_172 ⟨Nat.le_of_ble_eq_true rfl, Nat.le_of_ble_eq_true rfl⟩) hA hL (fun r_172_1 H locs hr_172_1 hA hL => ?_)
    rw [nn_nan] at hr_172_1
    subst hr_172_1
    refine lv_if_eq (tgt := 213) hx hb dL_told_175 (by decide) (fun h9 => absurd h9 (by decide)) (fun _ => ?_)
    refine lv_aload_n hx hb dL_told_178 rfl (lv_at hl 5 rfl) ?_
    refine lv_iconst (v := 4) hx hb dL_told_179 (by decide) ?_
    refine lr_f (rL (rest := []) ⟨hx, hb, hml, hown, hts⟩ (LB_weight l G cA A o (u, v, f, g, L) n K ch 4 ) (cwV 1 hts gL_told_X8_weight rfl rfl rfl mdX8_weight ⟨Nat.le_of_ble_eq_true rfl, Nat.le_of_ble_eq_true rfl⟩) hA hL rfl hl rfl (Nat.le_of_ble_eq_true rfl) dL_told_180 ⟨Nat.le_of_ble_eq_true rfl, Nat.le_of_ble_eq_true rfl⟩) hA hL (fun r_180_1 H locs hr_180_1 hA hL => ?_)
    replace hr_180_1 : r_180_1 = nanF := hr_180_1
    subst hr_180_1
    refine lr_i (rS (rest := []) ⟨hx, hb, hml, hown, hts⟩ (cL_isNone_ok l G cA nanF) (va_cwS 1 hts gL_told_L_isNone rfl rfl rfl mdL_isNone.2 ⟨Nat.le_of_ble_eq_true rfl, Nat.le_of_ble_eq_true rfl⟩) hA.1 empP empD rfl hl rfl (Nat.le_of_ble_eq_true rfl) dL_told_183 ⟨Nat.le_of_ble_eq_true rfl, Nat.le_of_ble_eq_true rfl⟩) hA hL (fun r_183_1 H locs hr_183_1 hA hL => ?_)
    rw [nn_nan] at hr_183_1
    subst hr_183_1
    refine lv_if_eq (tgt := 213) hx hb dL_told_186 (by decide) (fun h9 => absurd h9 (by decide)) (fun _ => ?_)
    refine lv_aload_n hx hb dL_told_189 rfl (lv_at hl 5 rfl) ?_
    refine lv_iconst (v := (-1)) hx hb dL_told_190 (by decide) ?_
    refine lr_f (rL (rest := []) ⟨hx, hb, hml, hown, hts⟩ (LB_score l G cA A o (u, v, f, g, L) n K ch (-1) hLk (fun h9 => absurd (by decide) h9)) (cwV 1 hts gL_told_X8_score rfl rfl rfl mdX8_score ⟨Nat.le_of_ble_eq_true rfl, Nat.le_of_ble_eq_true rfl⟩) hA hL rfl hl rfl (Nat.le_of_ble_eq_true rfl) dL_told_191 ⟨Nat.le_of_ble_eq_true rfl, Nat.le_of_ble_eq_true rfl⟩) hA hL (fun r_191_1 H locs hr_191_1 hA hL => ?_)
    replace hr_191_1 : r_191_1 = nanF := hr_191_1
    subst hr_191_1
    refine lr_i (rS (rest := []) ⟨hx, hb, hml, hown, hts⟩ (cL_isNone_ok l G cA nanF) (va_cwS 1 hts gL_told_L_isNone rfl rfl rfl mdL_isNone.2 ⟨Nat.le_of_ble_eq_true rfl, Nat.le_of_ble_eq_true rfl⟩) hA.1 empP empD rfl hl rfl (Nat.le_of_ble_eq_true rfl) dL_told_194 ⟨Nat.le_of_ble_eq_true rfl, Nat.le_of_ble_eq_true rfl⟩) hA hL (fun r_194_1 H locs hr_194_1 hA hL => ?_)
    rw [nn_nan] at hr_194_1
    subst hr_194_1
    refine lv_if_eq (tgt := 213) hx hb dL_told_197 (by decide) (fun h9 => absurd h9 (by decide)) (fun _ => ?_)
    refine lv_aload_n hx hb dL_told_200 rfl (lv_at hl 5 rfl) ?_
    refine lv_iconst (v := 5) hx hb dL_told_201 (by decide) ?_
    refine lr_i (rL (rest := []) ⟨hx, hb, hml, hown, hts⟩ (LB_number l G cA A o (u, v, f, g, L) n K ch 5 ) (cwV 1 hts gL_told_X8_number rfl rfl rfl mdX8_number ⟨Nat.le_of_ble_eq_true rfl, Nat.le_of_ble_eq_true rfl⟩) hA hL rfl hl rfl (Nat.le_of_ble_eq_true rfl) dL_told_202 ⟨Nat.le_of_ble_eq_true rfl, Nat.le_of_ble_eq_true rfl⟩) hA hL (fun r_202_1 H locs hr_202_1 hA hL => ?_)
    replace hr_202_1 : r_202_1 = (-1) := hr_202_1
    subst hr_202_1
    refine lv_iconst (v := (-1)) hx hb dL_told_205 (by decide) ?_
    refine lv_icmp_ne (tgt := 213) hx hb dL_told_206 (by decide) (fun h9 => absurd (by decide) h9) (fun _ => ?_)
    refine lv_iconst (v := 1) hx hb dL_told_209 (by decide) ?_
    refine lv_goto (tgt := 214) hx hb dL_told_210 (by decide) ?_
    refine lv_istore (lv' := [(6, .int 1), (5, .int 1), (4, .int 1), (3, .int 1), (2, .float (f 7)), (1, .int 2), (0, .ref o)]) hx hb dL_told_214 hl (by decide) rfl (fun ls hl => ?_)
    refine lv_aload_n hx hb dL_told_216 rfl (lv_at hl 6 rfl) ?_
    refine lv_iconst (v := 1) hx hb dL_told_217 (by decide) ?_
    refine lr_i (rL (rest := []) ⟨hx, hb, hml, hown, hts⟩ (LB_count l G cA A o (u, v, f, g, L) n K ch 1 ) (cwV 1 hts gL_told_X8_count rfl rfl rfl mdX8_count ⟨Nat.le_of_ble_eq_true rfl, Nat.le_of_ble_eq_true rfl⟩) hA hL rfl hl rfl (Nat.le_of_ble_eq_true rfl) dL_told_218 ⟨Nat.le_of_ble_eq_true rfl, Nat.le_of_ble_eq_true rfl⟩) hA hL (fun r_218_1 H locs hr_218_1 hA hL => ?_)
    replace hr_218_1 : r_218_1 = g 19 := hr_218_1
    subst hr_218_1
    refine lv_aload_n hx hb dL_told_221 rfl (lv_at hl 6 rfl) ?_
    refine lv_iconst (v := 2) hx hb dL_told_222 (by decide) ?_
    refine lr_i (rL (rest := [.int (g 19)]) ⟨hx, hb, hml, hown, hts⟩ (LB_count l G cA A o (u, v, f, g, L) n K ch 2 ) (cwV 1 hts gL_told_X8_count rfl rfl rfl mdX8_count ⟨Nat.le_of_ble_eq_true rfl, Nat.le_of_ble_eq_true rfl⟩) hA hL rfl hl rfl (Nat.le_of_ble_eq_true rfl) dL_told_223 ⟨Nat.le_of_ble_eq_true rfl, Nat.le_of_ble_eq_true rfl⟩) hA hL (fun r_223_1 H locs hr_223_1 hA hL => ?_)
    replace hr_223_1 : r_223_1 = g 20 := hr_223_1
    subst hr_223_1
    refine lv_iadd hx hb dL_told_226 ?_
    refine lv_aload_n hx hb dL_told_227 rfl (lv_at hl 6 rfl) ?_
    refine lv_iconst (v := 3) hx hb dL_told_228 (by decide) ?_
    refine lr_i (rL (rest := [.int ((g 19) + (g 20))]) ⟨hx, hb, hml, hown, hts⟩ (LB_count l G cA A o (u, v, f, g, L) n K ch 3 ) (cwV 1 hts gL_told_X8_count rfl rfl rfl mdX8_count ⟨Nat.le_of_ble_eq_true rfl, Nat.le_of_ble_eq_true rfl⟩) hA hL rfl hl rfl (Nat.le_of_ble_eq_true rfl) dL_told_229 ⟨Nat.le_of_ble_eq_true rfl, Nat.le_of_ble_eq_true rfl⟩) hA hL (fun r_229_1 H locs hr_229_1 hA hL => ?_)
    replace hr_229_1 : r_229_1 = g 21 := hr_229_1
    subst hr_229_1
    refine lv_iadd hx hb dL_told_232 ?_
    refine lv_aload_n hx hb dL_told_233 rfl (lv_at hl 6 rfl) ?_
    refine lv_iconst (v := 4) hx hb dL_told_234 (by decide) ?_
    refine lr_i (rL (rest := [.int (((g 19) + (g 20)) + (g 21))]) ⟨hx, hb, hml, hown, hts⟩ (LB_count l G cA A o (u, v, f, g, L) n K ch 4 ) (cwV 1 hts gL_told_X8_count rfl rfl rfl mdX8_count ⟨Nat.le_of_ble_eq_true rfl, Nat.le_of_ble_eq_true rfl⟩) hA hL rfl hl rfl (Nat.le_of_ble_eq_true rfl) dL_told_235 ⟨Nat.le_of_ble_eq_true rfl, Nat.le_of_ble_eq_true rfl⟩) hA hL (fun r_235_1 H locs hr_235_1 hA hL => ?_)
    replace hr_235_1 : r_235_1 = g 22 := hr_235_1
    subst hr_235_1
    refine lv_iadd hx hb dL_told_238 ?_
    rw [hJ]
    refine lv_istore (lv' := [(7, .int (nI J)), (6, .int 1), (5, .int 1), (4, .int 1), (3, .int 1), (2, .float (f 7)), (1, .int 2), (0, .ref o)]) hx hb dL_told_239 hl (by decide) rfl (fun ls hl => ?_)
    refine lv_iload hx hb dL_told_241 (lv_at hl 0 rfl) ?_
    refine lv_bipush (v := 10) hx hb dL_told_243 (by decide) ?_
    refine lv_icmp_ge (tgt := 253) hx hb dL_told_245 (by decide) (fun c_245_1 => ?_) (fun c_245_1 => ?_)
    · skip
      refine lv_bipush (v := 10) hx hb dL_told_253 (by decide) ?_
      have hRR : R = 10 := by rw [hRd, if_neg (by have := (nI_leI (a := 10) (b := J) (by decide) hJ31).mp c_245_1; omega)]
      refine W.eq (g2 := F0 m 255 ls [.int (nI R)]) (by rw [hRR]; rfl) ?_
      refine lv_istore (lv' := [(8, .int (nI R)), (7, .int (nI J)), (6, .int 1), (5, .int 1), (4, .int 1), (3, .int 1), (2, .float (f 7)), (1, .int 2), (0, .ref o)]) hx hb dL_told_255 hl (by decide) rfl (fun ls hl => ?_)
      refine lv_iconst (v := 0) hx hb dL_told_257 (by decide) ?_
      refine lv_istore (lv' := [(9, .int 0), (8, .int (nI R)), (7, .int (nI J)), (6, .int 1), (5, .int 1), (4, .int 1), (3, .int 1), (2, .float (f 7)), (1, .int 2), (0, .ref o)]) hx hb dL_told_258 hl (by decide) rfl (fun ls hl => ?_)
      obtain ⟨i, hi0⟩ : ∃ i : Nat, i = 0 := ⟨_, rfl⟩
      replace hl : lv_has ls 12 [(9, .int (nI i)), (8, .int (nI R)), (7, .int (nI J)), (6, .int 1), (5, .int 1), (4, .int 1), (3, .int 1), (2, .float (f 7)), (1, .int 2), (0, .ref o)] := by rw [hi0]; exact hl
      obtain ⟨nn, hn⟩ : ∃ nn : Nat, R < i + nn := ⟨R + 1, by omega⟩
      have hi : i ≤ R := by omega
      clear hi0
      revert hl
      revert hL
      revert hA
      revert hi
      revert hn
      revert ls
      revert locs
      revert H
      revert i
      induction nn with
      | zero => intro i H locs ls hn hi; exact absurd hn (by omega)
      | succ nn ih =>
        intro i H locs ls hn hi hA hL hl
        refine lv_iload hx hb dL_told_260 (lv_at hl 0 rfl) ?_
        refine lv_iload hx hb dL_told_262 (lv_at hl 1 rfl) ?_
        refine lv_icmp_ge (tgt := 403) hx hb dL_told_264 (by decide) (fun c_264_2 => ?_) (fun c_264_2 => ?_)
        · skip
          obtain rfl : R = i := (eq_of_le hi (by omega) c_264_2).symm
          refine lv_iload_n hx hb dL_told_403 rfl (lv_at hl 6 rfl) ?_
          refine lv_if_eq (tgt := 462) hx hb dL_told_404 (by decide) (fun h9 => absurd h9 (by decide)) (fun _ => ?_)
          refine lv_iload hx hb dL_told_407 (lv_at hl 5 rfl) ?_
          refine lv_if_eq (tgt := 462) hx hb dL_told_409 (by decide) (fun h9 => absurd h9 (by decide)) (fun _ => ?_)
          refine lv_iload hx hb dL_told_412 (lv_at hl 3 rfl) ?_
          refine lv_if_eq (tgt := 462) hx hb dL_told_414 (by decide) (fun h9 => absurd h9 (by decide)) (fun _ => ?_)
          refine lv_aload_n hx hb dL_told_417 rfl (lv_at hl 9 rfl) ?_
          refine lv_iload hx hb dL_told_418 (lv_at hl 1 rfl) ?_
          refine lv_iconst (v := 0) hx hb dL_told_420 (by decide) ?_
          refine lr_i (rL (rest := []) ⟨hx, hb, hml, hown, hts⟩ (LB_judged l G cA A o (u, v, f, g, L) n K ch (nI R) 0 ) (cwV 2 hts gL_told_X8_judged rfl rfl rfl mdX8_judged ⟨Nat.le_of_ble_eq_true rfl, Nat.le_of_ble_eq_true rfl⟩) hA hL rfl hl rfl (Nat.le_of_ble_eq_true rfl) dL_told_421 ⟨Nat.le_of_ble_eq_true rfl, Nat.le_of_ble_eq_true rfl⟩) hA hL (fun r_421_2 H locs hr_421_2 hA hL => ?_)
          rw [ju_end hR10 h18] at hr_421_2
          subst hr_421_2
          refine lv_bipush (v := (-5)) hx hb dL_told_424 (by decide) ?_
          refine lv_icmp_ne (tgt := 462) hx hb dL_told_426 (by decide) (fun h9 => absurd (by decide) h9) (fun _ => ?_)
          refine lv_aload_n hx hb dL_told_429 rfl (lv_at hl 9 rfl) ?_
          refine lv_iconst (v := (-1)) hx hb dL_told_430 (by decide) ?_
          refine lv_iconst (v := 0) hx hb dL_told_431 (by decide) ?_
          refine lr_i (rL (rest := []) ⟨hx, hb, hml, hown, hts⟩ (LB_judged l G cA A o (u, v, f, g, L) n K ch (-1) 0 ) (cwV 2 hts gL_told_X8_judged rfl rfl rfl mdX8_judged ⟨Nat.le_of_ble_eq_true rfl, Nat.le_of_ble_eq_true rfl⟩) hA hL rfl hl rfl (Nat.le_of_ble_eq_true rfl) dL_told_432 ⟨Nat.le_of_ble_eq_true rfl, Nat.le_of_ble_eq_true rfl⟩) hA hL (fun r_432_2 H locs hr_432_2 hA hL => ?_)
          replace hr_432_2 : r_432_2 = (-2) := hr_432_2
          subst hr_432_2
          refine lv_bipush (v := (-2)) hx hb dL_told_435 (by decide) ?_
          refine lv_icmp_ne (tgt := 462) hx hb dL_told_437 (by decide) (fun h9 => absurd (by decide) h9) (fun _ => ?_)
          refine lv_aload_n hx hb dL_told_440 rfl (lv_at hl 9 rfl) ?_
          refine lv_iconst (v := 0) hx hb dL_told_441 (by decide) ?_
          refine lv_iconst (v := 5) hx hb dL_told_442 (by decide) ?_
          refine lr_i (rL (rest := []) ⟨hx, hb, hml, hown, hts⟩ (LB_judged l G cA A o (u, v, f, g, L) n K ch 0 5 ) (cwV 2 hts gL_told_X8_judged rfl rfl rfl mdX8_judged ⟨Nat.le_of_ble_eq_true rfl, Nat.le_of_ble_eq_true rfl⟩) hA hL rfl hl rfl (Nat.le_of_ble_eq_true rfl) dL_told_443 ⟨Nat.le_of_ble_eq_true rfl, Nat.le_of_ble_eq_true rfl⟩) hA hL (fun r_443_2 H locs hr_443_2 hA hL => ?_)
          replace hr_443_2 : r_443_2 = (-2) := hr_443_2
          subst hr_443_2
          refine lv_bipush (v := (-2)) hx hb dL_told_446 (by decide) ?_
          refine lv_icmp_ne (tgt := 462) hx hb dL_told_448 (by decide) (fun h9 => absurd (by decide) h9) (fun _ => ?_)
          refine lv_aload_n hx hb dL_told_451 rfl (lv_at hl 9 rfl) ?_
          refine lw_i (rLS (rest := []) ⟨hx, hb, hml, hown, hts⟩ (hTh) (va_cwS 1 hts gL_told_L_thing rfl rfl rfl mdL_thing.2 ⟨Nat.le_of_ble_eq_true rfl, Nat.le_of_ble_eq_true rfl⟩) hA hL rfl hl rfl (Nat.le_of_ble_eq_true rfl) dL_told_452 ⟨Nat.le_of_ble_eq_true rfl, Nat.le_of_ble_eq_true rfl⟩) hA (fun r_452_2 _ H locs hr_452_2 hA hL => ?_)
          replace hL : LB G cA A o (u, v, f, g, L) n K ch H := hL
          subst hr_452_2
          refine lv_if_eq (tgt := 462) hx hb dL_told_455 (by decide) (fun h9 => absurd h9 (by decide)) (fun _ => ?_)
          refine lv_iconst (v := 1) hx hb dL_told_458 (by decide) ?_
          refine lv_goto (tgt := 463) hx hb dL_told_459 (by decide) ?_
          exact en_l (post := fun r (_ : Unit) => r = 1) (B := fun _ H => LB G cA A o (u, v, f, g, L) n K ch H) () hx hb hr hlocks hA rfl hL dL_told_463
        · skip
          have hlt : i < R := lt_of_nle hi (by omega) c_264_2
          have h8 := hT.2.2.2.2.2.2 i hlt
          refine lv_aload_n hx hb dL_told_267 rfl (lv_at hl 9 rfl) ?_
          refine lv_iload hx hb dL_told_268 (lv_at hl 0 rfl) ?_
          refine lv_iconst (v := 0) hx hb dL_told_270 (by decide) ?_
          refine lr_i (rL (rest := []) ⟨hx, hb, hml, hown, hts⟩ (LB_judged l G cA A o (u, v, f, g, L) n K ch (nI i) 0 ) (cwV 2 hts gL_told_X8_judged rfl rfl rfl mdX8_judged ⟨Nat.le_of_ble_eq_true rfl, Nat.le_of_ble_eq_true rfl⟩) hA hL rfl hl rfl (Nat.le_of_ble_eq_true rfl) dL_told_271 ⟨Nat.le_of_ble_eq_true rfl, Nat.le_of_ble_eq_true rfl⟩) hA hL (fun r_271_2 H locs hr_271_2 hA hL => ?_)
          replace hr_271_2 : r_271_2 = L (i * 5 + 0) := hr_271_2.trans (ju_at 0 (by decide) hlt hR10 h18)
          subst hr_271_2
          refine lv_if_lt (tgt := 326) hx hb dL_told_274 (by decide) (fun c_274_2 => absurd c_274_2 h8.1) (fun c_274_2 => ?_)
          refine lv_aload_n hx hb dL_told_277 rfl (lv_at hl 9 rfl) ?_
          refine lv_iload hx hb dL_told_278 (lv_at hl 0 rfl) ?_
          refine lv_iconst (v := 0) hx hb dL_told_280 (by decide) ?_
          refine lr_i (rL (rest := []) ⟨hx, hb, hml, hown, hts⟩ (LB_judged l G cA A o (u, v, f, g, L) n K ch (nI i) 0 ) (cwV 2 hts gL_told_X8_judged rfl rfl rfl mdX8_judged ⟨Nat.le_of_ble_eq_true rfl, Nat.le_of_ble_eq_true rfl⟩) hA hL rfl hl rfl (Nat.le_of_ble_eq_true rfl) dL_told_281 ⟨Nat.le_of_ble_eq_true rfl, Nat.le_of_ble_eq_true rfl⟩) hA hL (fun r_281_2 H locs hr_281_2 hA hL => ?_)
          replace hr_281_2 : r_281_2 = L (i * 5 + 0) := hr_281_2.trans (ju_at 0 (by decide) hlt hR10 h18)
          subst hr_281_2
          refine lv_iconst (v := 3) hx hb dL_told_284 (by decide) ?_
          refine lv_icmp_gt (tgt := 326) hx hb dL_told_285 (by decide) (fun c_285_2 => absurd c_285_2 h8.2.1) (fun c_285_2 => ?_)
          refine lv_aload_n hx hb dL_told_288 rfl (lv_at hl 9 rfl) ?_
          refine lv_iload hx hb dL_told_289 (lv_at hl 0 rfl) ?_
          refine lv_iconst (v := 2) hx hb dL_told_291 (by decide) ?_
          refine lr_i (rL (rest := []) ⟨hx, hb, hml, hown, hts⟩ (LB_judged l G cA A o (u, v, f, g, L) n K ch (nI i) 2 ) (cwV 2 hts gL_told_X8_judged rfl rfl rfl mdX8_judged ⟨Nat.le_of_ble_eq_true rfl, Nat.le_of_ble_eq_true rfl⟩) hA hL rfl hl rfl (Nat.le_of_ble_eq_true rfl) dL_told_292 ⟨Nat.le_of_ble_eq_true rfl, Nat.le_of_ble_eq_true rfl⟩) hA hL (fun r_292_2 H locs hr_292_2 hA hL => ?_)
          replace hr_292_2 : r_292_2 = L (i * 5 + 2) := hr_292_2.trans (ju_at 2 (by decide) hlt hR10 h18)
          subst hr_292_2
          refine lv_iconst (v := 1) hx hb dL_told_295 (by decide) ?_
          refine lv_icmp_lt (tgt := 326) hx hb dL_told_296 (by decide) (fun c_296_2 => absurd c_296_2 h8.2.2.1) (fun c_296_2 => ?_)
          refine lv_aload_n hx hb dL_told_299 rfl (lv_at hl 9 rfl) ?_
          refine lv_iload hx hb dL_told_300 (lv_at hl 0 rfl) ?_
          refine lv_iconst (v := 3) hx hb dL_told_302 (by decide) ?_
          refine lr_i (rL (rest := []) ⟨hx, hb, hml, hown, hts⟩ (LB_judged l G cA A o (u, v, f, g, L) n K ch (nI i) 3 ) (cwV 2 hts gL_told_X8_judged rfl rfl rfl mdX8_judged ⟨Nat.le_of_ble_eq_true rfl, Nat.le_of_ble_eq_true rfl⟩) hA hL rfl hl rfl (Nat.le_of_ble_eq_true rfl) dL_told_303 ⟨Nat.le_of_ble_eq_true rfl, Nat.le_of_ble_eq_true rfl⟩) hA hL (fun r_303_2 H locs hr_303_2 hA hL => ?_)
          replace hr_303_2 : r_303_2 = L (i * 5 + 3) := hr_303_2.trans (ju_at 3 (by decide) hlt hR10 h18)
          subst hr_303_2
          refine lv_iconst (v := 1) hx hb dL_told_306 (by decide) ?_
          refine lv_icmp_lt (tgt := 326) hx hb dL_told_307 (by decide) (fun c_307_2 => absurd c_307_2 h8.2.2.2.1) (fun c_307_2 => ?_)
          refine lv_aload_n hx hb dL_told_310 rfl (lv_at hl 9 rfl) ?_
          refine lv_iload hx hb dL_told_311 (lv_at hl 0 rfl) ?_
          refine lv_iconst (v := 3) hx hb dL_told_313 (by decide) ?_
          refine lr_i (rL (rest := []) ⟨hx, hb, hml, hown, hts⟩ (LB_judged l G cA A o (u, v, f, g, L) n K ch (nI i) 3 ) (cwV 2 hts gL_told_X8_judged rfl rfl rfl mdX8_judged ⟨Nat.le_of_ble_eq_true rfl, Nat.le_of_ble_eq_true rfl⟩) hA hL rfl hl rfl (Nat.le_of_ble_eq_true rfl) dL_told_314 ⟨Nat.le_of_ble_eq_true rfl, Nat.le_of_ble_eq_true rfl⟩) hA hL (fun r_314_2 H locs hr_314_2 hA hL => ?_)
          replace hr_314_2 : r_314_2 = L (i * 5 + 3) := hr_314_2.trans (ju_at 3 (by decide) hlt hR10 h18)
          subst hr_314_2
          refine lv_bipush (v := 7) hx hb dL_told_317 (by decide) ?_
          refine lv_icmp_gt (tgt := 326) hx hb dL_told_319 (by decide) (fun c_319_2 => absurd c_319_2 h8.2.2.2.2.1) (fun c_319_2 => ?_)
          refine lv_iconst (v := 1) hx hb dL_told_322 (by decide) ?_
          refine lv_goto (tgt := 327) hx hb dL_told_323 (by decide) ?_
          refine lv_istore (lv' := [(10, .int 1), (9, .int (nI i)), (8, .int (nI R)), (7, .int (nI J)), (6, .int 1), (5, .int 1), (4, .int 1), (3, .int 1), (2, .float (f 7)), (1, .int 2), (0, .ref o)]) hx hb dL_told_327 hl (by decide) rfl (fun ls hl => ?_)
          refine lv_aload_n hx hb dL_told_329 rfl (lv_at hl 10 rfl) ?_
          refine lv_iload hx hb dL_told_330 (lv_at hl 1 rfl) ?_
          refine lv_iconst (v := 4) hx hb dL_told_332 (by decide) ?_
          refine lr_i (rL (rest := []) ⟨hx, hb, hml, hown, hts⟩ (LB_judged l G cA A o (u, v, f, g, L) n K ch (nI i) 4 ) (cwV 2 hts gL_told_X8_judged rfl rfl rfl mdX8_judged ⟨Nat.le_of_ble_eq_true rfl, Nat.le_of_ble_eq_true rfl⟩) hA hL rfl hl rfl (Nat.le_of_ble_eq_true rfl) dL_told_333 ⟨Nat.le_of_ble_eq_true rfl, Nat.le_of_ble_eq_true rfl⟩) hA hL (fun r_333_2 H locs hr_333_2 hA hL => ?_)
          replace hr_333_2 : r_333_2 = L (i * 5 + 4) := hr_333_2.trans (ju_at 4 (by decide) hlt hR10 h18)
          subst hr_333_2
          refine lv_aload_n hx hb dL_told_336 rfl (lv_at hl 10 rfl) ?_
          refine lv_iload hx hb dL_told_337 (lv_at hl 1 rfl) ?_
          refine lv_iconst (v := 1) hx hb dL_told_339 (by decide) ?_
          refine lr_i (rL (rest := [.int (L (i * 5 + 4))]) ⟨hx, hb, hml, hown, hts⟩ (LB_judged l G cA A o (u, v, f, g, L) n K ch (nI i) 1 ) (cwV 2 hts gL_told_X8_judged rfl rfl rfl mdX8_judged ⟨Nat.le_of_ble_eq_true rfl, Nat.le_of_ble_eq_true rfl⟩) hA hL rfl hl rfl (Nat.le_of_ble_eq_true rfl) dL_told_340 ⟨Nat.le_of_ble_eq_true rfl, Nat.le_of_ble_eq_true rfl⟩) hA hL (fun r_340_2 H locs hr_340_2 hA hL => ?_)
          replace hr_340_2 : r_340_2 = L (i * 5 + 1) := hr_340_2.trans (ju_at 1 (by decide) hlt hR10 h18)
          subst hr_340_2
          refine lv_aload_n hx hb dL_told_343 rfl (lv_at hl 10 rfl) ?_
          refine lv_iload hx hb dL_told_344 (lv_at hl 1 rfl) ?_
          refine lv_iconst (v := 2) hx hb dL_told_346 (by decide) ?_
          refine lr_i (rL (rest := [.int (L (i * 5 + 1)), .int (L (i * 5 + 4))]) ⟨hx, hb, hml, hown, hts⟩ (LB_judged l G cA A o (u, v, f, g, L) n K ch (nI i) 2 ) (cwV 2 hts gL_told_X8_judged rfl rfl rfl mdX8_judged ⟨Nat.le_of_ble_eq_true rfl, Nat.le_of_ble_eq_true rfl⟩) hA hL rfl hl rfl (Nat.le_of_ble_eq_true rfl) dL_told_347 ⟨Nat.le_of_ble_eq_true rfl, Nat.le_of_ble_eq_true rfl⟩) hA hL (fun r_347_2 H locs hr_347_2 hA hL => ?_)
          replace hr_347_2 : r_347_2 = L (i * 5 + 2) := hr_347_2.trans (ju_at 2 (by decide) hlt hR10 h18)
          subst hr_347_2
          refine lv_iadd hx hb dL_told_350 ?_
          refine lv_icmp_lt (tgt := 382) hx hb dL_told_351 (by decide) (fun c_351_2 => absurd c_351_2 h8.2.2.2.2.2.1) (fun c_351_2 => ?_)
          refine lv_iload hx hb dL_told_354 (lv_at hl 1 rfl) ?_
          refine lv_if_eq (tgt := 378) hx hb dL_told_356 (by decide) (fun c_356_2 => ?_) (fun c_356_2 => ?_)
          · skip
            refine lv_iconst (v := 1) hx hb dL_told_378 (by decide) ?_
            refine lv_goto (tgt := 383) hx hb dL_told_379 (by decide) ?_
            refine lv_istore (lv' := [(11, .int 1), (10, .int 1), (9, .int (nI i)), (8, .int (nI R)), (7, .int (nI J)), (6, .int 1), (5, .int 1), (4, .int 1), (3, .int 1), (2, .float (f 7)), (1, .int 2), (0, .ref o)]) hx hb dL_told_383 hl (by decide) rfl (fun ls hl => ?_)
            refine lv_iload hx hb dL_told_385 (lv_at hl 1 rfl) ?_
            refine lv_if_eq (tgt := 395) hx hb dL_told_387 (by decide) (fun h9 => absurd h9 (by decide)) (fun _ => ?_)
            refine lv_iload hx hb dL_told_390 (lv_at hl 0 rfl) ?_
            refine lv_if_ne (tgt := 397) hx hb dL_told_392 (by decide) (fun _ => ?_) (fun h9 => absurd h9 (by decide))
            refine lv_iinc (v := ((nI i) + 1)) (lv' := [(9, .int ((nI i) + 1)), (11, .int 1), (10, .int 1), (8, .int (nI R)), (7, .int (nI J)), (6, .int 1), (5, .int 1), (4, .int 1), (3, .int 1), (2, .float (f 7)), (1, .int 2), (0, .ref o)]) hx hb dL_told_397 hl (k := 2) rfl rfl (by decide) rfl (fun ls hl => ?_)
            refine lv_goto (tgt := 260) hx hb dL_told_400 (by decide) ?_
            replace hl : lv_has ls 12 [(9, .int (nI (i + 1))), (11, .int 1), (10, .int 1), (8, .int (nI R)), (7, .int (nI J)), (6, .int 1), (5, .int 1), (4, .int 1), (3, .int 1), (2, .float (f 7)), (1, .int 2), (0, .ref o)] := by rw [← nI_1]; exact hl
            exact ih (i + 1) _ _ _ (by omega) (by omega) hA hL (lv_sub hl [0, 3, 4, 5, 6, 7, 8, 9, 10, 11] rfl)
          · skip
            refine lv_aload_n hx hb dL_told_359 rfl (lv_at hl 10 rfl) ?_
            refine lv_iload hx hb dL_told_360 (lv_at hl 1 rfl) ?_
            refine lv_iconst (v := 4) hx hb dL_told_362 (by decide) ?_
            refine lr_i (rL (rest := []) ⟨hx, hb, hml, hown, hts⟩ (LB_judged l G cA A o (u, v, f, g, L) n K ch (nI i) 4 ) (cwV 2 hts gL_told_X8_judged rfl rfl rfl mdX8_judged ⟨Nat.le_of_ble_eq_true rfl, Nat.le_of_ble_eq_true rfl⟩) hA hL rfl hl rfl (Nat.le_of_ble_eq_true rfl) dL_told_363 ⟨Nat.le_of_ble_eq_true rfl, Nat.le_of_ble_eq_true rfl⟩) hA hL (fun r_363_2 H locs hr_363_2 hA hL => ?_)
            replace hr_363_2 : r_363_2 = L (i * 5 + 4) := hr_363_2.trans (ju_at 4 (by decide) hlt hR10 h18)
            subst hr_363_2
            refine lv_aload_n hx hb dL_told_366 rfl (lv_at hl 10 rfl) ?_
            refine lv_iload hx hb dL_told_367 (lv_at hl 1 rfl) ?_
            refine lv_iconst (v := 1) hx hb dL_told_369 (by decide) ?_
            refine lv_isub hx hb dL_told_370 ?_
            refine lv_iconst (v := 1) hx hb dL_told_371 (by decide) ?_
            refine lr_i (rL (rest := [.int (L (i * 5 + 4))]) ⟨hx, hb, hml, hown, hts⟩ (LB_judged l G cA A o (u, v, f, g, L) n K ch ((nI i) - 1) 1 ) (cwV 2 hts gL_told_X8_judged rfl rfl rfl mdX8_judged ⟨Nat.le_of_ble_eq_true rfl, Nat.le_of_ble_eq_true rfl⟩) hA hL rfl hl rfl (Nat.le_of_ble_eq_true rfl) dL_told_372 ⟨Nat.le_of_ble_eq_true rfl, Nat.le_of_ble_eq_true rfl⟩) hA hL (fun r_372_2 H locs hr_372_2 hA hL => ?_)
            rw [(pred_of c_356_2).2] at hr_372_2
            replace hr_372_2 : r_372_2 = L ((i - 1) * 5 + 1) := hr_372_2.trans (ju_at 1 (by decide) (by omega) hR10 h18)
            subst hr_372_2
            refine lv_icmp_ge (tgt := 382) hx hb dL_told_375 (by decide) (fun c_375_2 => absurd c_375_2 (h8.2.2.2.2.2.2 (pred_of c_356_2).1)) (fun c_375_2 => ?_)
            refine lv_iconst (v := 1) hx hb dL_told_378 (by decide) ?_
            refine lv_goto (tgt := 383) hx hb dL_told_379 (by decide) ?_
            refine lv_istore (lv' := [(11, .int 1), (10, .int 1), (9, .int (nI i)), (8, .int (nI R)), (7, .int (nI J)), (6, .int 1), (5, .int 1), (4, .int 1), (3, .int 1), (2, .float (f 7)), (1, .int 2), (0, .ref o)]) hx hb dL_told_383 hl (by decide) rfl (fun ls hl => ?_)
            refine lv_iload hx hb dL_told_385 (lv_at hl 1 rfl) ?_
            refine lv_if_eq (tgt := 395) hx hb dL_told_387 (by decide) (fun h9 => absurd h9 (by decide)) (fun _ => ?_)
            refine lv_iload hx hb dL_told_390 (lv_at hl 0 rfl) ?_
            refine lv_if_ne (tgt := 397) hx hb dL_told_392 (by decide) (fun _ => ?_) (fun h9 => absurd h9 (by decide))
            refine lv_iinc (v := ((nI i) + 1)) (lv' := [(9, .int ((nI i) + 1)), (11, .int 1), (10, .int 1), (8, .int (nI R)), (7, .int (nI J)), (6, .int 1), (5, .int 1), (4, .int 1), (3, .int 1), (2, .float (f 7)), (1, .int 2), (0, .ref o)]) hx hb dL_told_397 hl (k := 2) rfl rfl (by decide) rfl (fun ls hl => ?_)
            refine lv_goto (tgt := 260) hx hb dL_told_400 (by decide) ?_
            replace hl : lv_has ls 12 [(9, .int (nI (i + 1))), (11, .int 1), (10, .int 1), (8, .int (nI R)), (7, .int (nI J)), (6, .int 1), (5, .int 1), (4, .int 1), (3, .int 1), (2, .float (f 7)), (1, .int 2), (0, .ref o)] := by rw [← nI_1]; exact hl
            exact ih (i + 1) _ _ _ (by omega) (by omega) hA hL (lv_sub hl [0, 3, 4, 5, 6, 7, 8, 9, 10, 11] rfl)
    · skip
      refine lv_iload hx hb dL_told_248 (lv_at hl 0 rfl) ?_
      refine lv_goto (tgt := 255) hx hb dL_told_250 (by decide) ?_
      have hRR : R = J := by rw [hRd, if_pos (Nat.lt_of_not_le (fun h9 => c_245_1 ((nI_leI (a := 10) (b := J) (by decide) hJ31).mpr h9)))]
      refine W.eq (g2 := F0 m 255 ls [.int (nI R)]) (by rw [hRR]) ?_
      refine lv_istore (lv' := [(8, .int (nI R)), (7, .int (nI J)), (6, .int 1), (5, .int 1), (4, .int 1), (3, .int 1), (2, .float (f 7)), (1, .int 2), (0, .ref o)]) hx hb dL_told_255 hl (by decide) rfl (fun ls hl => ?_)
      refine lv_iconst (v := 0) hx hb dL_told_257 (by decide) ?_
      refine lv_istore (lv' := [(9, .int 0), (8, .int (nI R)), (7, .int (nI J)), (6, .int 1), (5, .int 1), (4, .int 1), (3, .int 1), (2, .float (f 7)), (1, .int 2), (0, .ref o)]) hx hb dL_told_258 hl (by decide) rfl (fun ls hl => ?_)
      obtain ⟨i, hi0⟩ : ∃ i : Nat, i = 0 := ⟨_, rfl⟩
      replace hl : lv_has ls 12 [(9, .int (nI i)), (8, .int (nI R)), (7, .int (nI J)), (6, .int 1), (5, .int 1), (4, .int 1), (3, .int 1), (2, .float (f 7)), (1, .int 2), (0, .ref o)] := by rw [hi0]; exact hl
      obtain ⟨nn, hn⟩ : ∃ nn : Nat, R < i + nn := ⟨R + 1, by omega⟩
      have hi : i ≤ R := by omega
      clear hi0
      revert hl
      revert hL
      revert hA
      revert hi
      revert hn
      revert ls
      revert locs
      revert H
      revert i
      induction nn with
      | zero => intro i H locs ls hn hi; exact absurd hn (by omega)
      | succ nn ih =>
        intro i H locs ls hn hi hA hL hl
        refine lv_iload hx hb dL_told_260 (lv_at hl 0 rfl) ?_
        refine lv_iload hx hb dL_told_262 (lv_at hl 1 rfl) ?_
        refine lv_icmp_ge (tgt := 403) hx hb dL_told_264 (by decide) (fun c_264_3 => ?_) (fun c_264_3 => ?_)
        · skip
          obtain rfl : R = i := (eq_of_le hi (by omega) c_264_3).symm
          refine lv_iload_n hx hb dL_told_403 rfl (lv_at hl 6 rfl) ?_
          refine lv_if_eq (tgt := 462) hx hb dL_told_404 (by decide) (fun h9 => absurd h9 (by decide)) (fun _ => ?_)
          refine lv_iload hx hb dL_told_407 (lv_at hl 5 rfl) ?_
          refine lv_if_eq (tgt := 462) hx hb dL_told_409 (by decide) (fun h9 => absurd h9 (by decide)) (fun _ => ?_)
          refine lv_iload hx hb dL_told_412 (lv_at hl 3 rfl) ?_
          refine lv_if_eq (tgt := 462) hx hb dL_told_414 (by decide) (fun h9 => absurd h9 (by decide)) (fun _ => ?_)
          refine lv_aload_n hx hb dL_told_417 rfl (lv_at hl 9 rfl) ?_
          refine lv_iload hx hb dL_told_418 (lv_at hl 1 rfl) ?_
          refine lv_iconst (v := 0) hx hb dL_told_420 (by decide) ?_
          refine lr_i (rL (rest := []) ⟨hx, hb, hml, hown, hts⟩ (LB_judged l G cA A o (u, v, f, g, L) n K ch (nI R) 0 ) (cwV 2 hts gL_told_X8_judged rfl rfl rfl mdX8_judged ⟨Nat.le_of_ble_eq_true rfl, Nat.le_of_ble_eq_true rfl⟩) hA hL rfl hl rfl (Nat.le_of_ble_eq_true rfl) dL_told_421 ⟨Nat.le_of_ble_eq_true rfl, Nat.le_of_ble_eq_true rfl⟩) hA hL (fun r_421_3 H locs hr_421_3 hA hL => ?_)
          rw [ju_end hR10 h18] at hr_421_3
          subst hr_421_3
          refine lv_bipush (v := (-5)) hx hb dL_told_424 (by decide) ?_
          refine lv_icmp_ne (tgt := 462) hx hb dL_told_426 (by decide) (fun h9 => absurd (by decide) h9) (fun _ => ?_)
          refine lv_aload_n hx hb dL_told_429 rfl (lv_at hl 9 rfl) ?_
          refine lv_iconst (v := (-1)) hx hb dL_told_430 (by decide) ?_
          refine lv_iconst (v := 0) hx hb dL_told_431 (by decide) ?_
          refine lr_i (rL (rest := []) ⟨hx, hb, hml, hown, hts⟩ (LB_judged l G cA A o (u, v, f, g, L) n K ch (-1) 0 ) (cwV 2 hts gL_told_X8_judged rfl rfl rfl mdX8_judged ⟨Nat.le_of_ble_eq_true rfl, Nat.le_of_ble_eq_true rfl⟩) hA hL rfl hl rfl (Nat.le_of_ble_eq_true rfl) dL_told_432 ⟨Nat.le_of_ble_eq_true rfl, Nat.le_of_ble_eq_true rfl⟩) hA hL (fun r_432_3 H locs hr_432_3 hA hL => ?_)
          replace hr_432_3 : r_432_3 = (-2) := hr_432_3
          subst hr_432_3
          refine lv_bipush (v := (-2)) hx hb dL_told_435 (by decide) ?_
          refine lv_icmp_ne (tgt := 462) hx hb dL_told_437 (by decide) (fun h9 => absurd (by decide) h9) (fun _ => ?_)
          refine lv_aload_n hx hb dL_told_440 rfl (lv_at hl 9 rfl) ?_
          refine lv_iconst (v := 0) hx hb dL_told_441 (by decide) ?_
          refine lv_iconst (v := 5) hx hb dL_told_442 (by decide) ?_
          refine lr_i (rL (rest := []) ⟨hx, hb, hml, hown, hts⟩ (LB_judged l G cA A o (u, v, f, g, L) n K ch 0 5 ) (cwV 2 hts gL_told_X8_judged rfl rfl rfl mdX8_judged ⟨Nat.le_of_ble_eq_true rfl, Nat.le_of_ble_eq_true rfl⟩) hA hL rfl hl rfl (Nat.le_of_ble_eq_true rfl) dL_told_443 ⟨Nat.le_of_ble_eq_true rfl, Nat.le_of_ble_eq_true rfl⟩) hA hL (fun r_443_3 H locs hr_443_3 hA hL => ?_)
          replace hr_443_3 : r_443_3 = (-2) := hr_443_3
          subst hr_443_3
          refine lv_bipush (v := (-2)) hx hb dL_told_446 (by decide) ?_
          refine lv_icmp_ne (tgt := 462) hx hb dL_told_448 (by decide) (fun h9 => absurd (by decide) h9) (fun _ => ?_)
          refine lv_aload_n hx hb dL_told_451 rfl (lv_at hl 9 rfl) ?_
          refine lw_i (rLS (rest := []) ⟨hx, hb, hml, hown, hts⟩ (hTh) (va_cwS 1 hts gL_told_L_thing rfl rfl rfl mdL_thing.2 ⟨Nat.le_of_ble_eq_true rfl, Nat.le_of_ble_eq_true rfl⟩) hA hL rfl hl rfl (Nat.le_of_ble_eq_true rfl) dL_told_452 ⟨Nat.le_of_ble_eq_true rfl, Nat.le_of_ble_eq_true rfl⟩) hA (fun r_452_3 _ H locs hr_452_3 hA hL => ?_)
          replace hL : LB G cA A o (u, v, f, g, L) n K ch H := hL
          subst hr_452_3
          refine lv_if_eq (tgt := 462) hx hb dL_told_455 (by decide) (fun h9 => absurd h9 (by decide)) (fun _ => ?_)
          refine lv_iconst (v := 1) hx hb dL_told_458 (by decide) ?_
          refine lv_goto (tgt := 463) hx hb dL_told_459 (by decide) ?_
          exact en_l (post := fun r (_ : Unit) => r = 1) (B := fun _ H => LB G cA A o (u, v, f, g, L) n K ch H) () hx hb hr hlocks hA rfl hL dL_told_463
        · skip
          have hlt : i < R := lt_of_nle hi (by omega) c_264_3
          have h8 := hT.2.2.2.2.2.2 i hlt
          refine lv_aload_n hx hb dL_told_267 rfl (lv_at hl 9 rfl) ?_
          refine lv_iload hx hb dL_told_268 (lv_at hl 0 rfl) ?_
          refine lv_iconst (v := 0) hx hb dL_told_270 (by decide) ?_
          refine lr_i (rL (rest := []) ⟨hx, hb, hml, hown, hts⟩ (LB_judged l G cA A o (u, v, f, g, L) n K ch (nI i) 0 ) (cwV 2 hts gL_told_X8_judged rfl rfl rfl mdX8_judged ⟨Nat.le_of_ble_eq_true rfl, Nat.le_of_ble_eq_true rfl⟩) hA hL rfl hl rfl (Nat.le_of_ble_eq_true rfl) dL_told_271 ⟨Nat.le_of_ble_eq_true rfl, Nat.le_of_ble_eq_true rfl⟩) hA hL (fun r_271_3 H locs hr_271_3 hA hL => ?_)
          replace hr_271_3 : r_271_3 = L (i * 5 + 0) := hr_271_3.trans (ju_at 0 (by decide) hlt hR10 h18)
          subst hr_271_3
          refine lv_if_lt (tgt := 326) hx hb dL_told_274 (by decide) (fun c_274_3 => absurd c_274_3 h8.1) (fun c_274_3 => ?_)
          refine lv_aload_n hx hb dL_told_277 rfl (lv_at hl 9 rfl) ?_
          refine lv_iload hx hb dL_told_278 (lv_at hl 0 rfl) ?_
          refine lv_iconst (v := 0) hx hb dL_told_280 (by decide) ?_
          refine lr_i (rL (rest := []) ⟨hx, hb, hml, hown, hts⟩ (LB_judged l G cA A o (u, v, f, g, L) n K ch (nI i) 0 ) (cwV 2 hts gL_told_X8_judged rfl rfl rfl mdX8_judged ⟨Nat.le_of_ble_eq_true rfl, Nat.le_of_ble_eq_true rfl⟩) hA hL rfl hl rfl (Nat.le_of_ble_eq_true rfl) dL_told_281 ⟨Nat.le_of_ble_eq_true rfl, Nat.le_of_ble_eq_true rfl⟩) hA hL (fun r_281_3 H locs hr_281_3 hA hL => ?_)
          replace hr_281_3 : r_281_3 = L (i * 5 + 0) := hr_281_3.trans (ju_at 0 (by decide) hlt hR10 h18)
          subst hr_281_3
          refine lv_iconst (v := 3) hx hb dL_told_284 (by decide) ?_
          refine lv_icmp_gt (tgt := 326) hx hb dL_told_285 (by decide) (fun c_285_3 => absurd c_285_3 h8.2.1) (fun c_285_3 => ?_)
          refine lv_aload_n hx hb dL_told_288 rfl (lv_at hl 9 rfl) ?_
          refine lv_iload hx hb dL_told_289 (lv_at hl 0 rfl) ?_
          refine lv_iconst (v := 2) hx hb dL_told_291 (by decide) ?_
          refine lr_i (rL (rest := []) ⟨hx, hb, hml, hown, hts⟩ (LB_judged l G cA A o (u, v, f, g, L) n K ch (nI i) 2 ) (cwV 2 hts gL_told_X8_judged rfl rfl rfl mdX8_judged ⟨Nat.le_of_ble_eq_true rfl, Nat.le_of_ble_eq_true rfl⟩) hA hL rfl hl rfl (Nat.le_of_ble_eq_true rfl) dL_told_292 ⟨Nat.le_of_ble_eq_true rfl, Nat.le_of_ble_eq_true rfl⟩) hA hL (fun r_292_3 H locs hr_292_3 hA hL => ?_)
          replace hr_292_3 : r_292_3 = L (i * 5 + 2) := hr_292_3.trans (ju_at 2 (by decide) hlt hR10 h18)
          subst hr_292_3
          refine lv_iconst (v := 1) hx hb dL_told_295 (by decide) ?_
          refine lv_icmp_lt (tgt := 326) hx hb dL_told_296 (by decide) (fun c_296_3 => absurd c_296_3 h8.2.2.1) (fun c_296_3 => ?_)
          refine lv_aload_n hx hb dL_told_299 rfl (lv_at hl 9 rfl) ?_
          refine lv_iload hx hb dL_told_300 (lv_at hl 0 rfl) ?_
          refine lv_iconst (v := 3) hx hb dL_told_302 (by decide) ?_
          refine lr_i (rL (rest := []) ⟨hx, hb, hml, hown, hts⟩ (LB_judged l G cA A o (u, v, f, g, L) n K ch (nI i) 3 ) (cwV 2 hts gL_told_X8_judged rfl rfl rfl mdX8_judged ⟨Nat.le_of_ble_eq_true rfl, Nat.le_of_ble_eq_true rfl⟩) hA hL rfl hl rfl (Nat.le_of_ble_eq_true rfl) dL_told_303 ⟨Nat.le_of_ble_eq_true rfl, Nat.le_of_ble_eq_true rfl⟩) hA hL (fun r_303_3 H locs hr_303_3 hA hL => ?_)
          replace hr_303_3 : r_303_3 = L (i * 5 + 3) := hr_303_3.trans (ju_at 3 (by decide) hlt hR10 h18)
          subst hr_303_3
          refine lv_iconst (v := 1) hx hb dL_told_306 (by decide) ?_
          refine lv_icmp_lt (tgt := 326) hx hb dL_told_307 (by decide) (fun c_307_3 => absurd c_307_3 h8.2.2.2.1) (fun c_307_3 => ?_)
          refine lv_aload_n hx hb dL_told_310 rfl (lv_at hl 9 rfl) ?_
          refine lv_iload hx hb dL_told_311 (lv_at hl 0 rfl) ?_
          refine lv_iconst (v := 3) hx hb dL_told_313 (by decide) ?_
          refine lr_i (rL (rest := []) ⟨hx, hb, hml, hown, hts⟩ (LB_judged l G cA A o (u, v, f, g, L) n K ch (nI i) 3 ) (cwV 2 hts gL_told_X8_judged rfl rfl rfl mdX8_judged ⟨Nat.le_of_ble_eq_true rfl, Nat.le_of_ble_eq_true rfl⟩) hA hL rfl hl rfl (Nat.le_of_ble_eq_true rfl) dL_told_314 ⟨Nat.le_of_ble_eq_true rfl, Nat.le_of_ble_eq_true rfl⟩) hA hL (fun r_314_3 H locs hr_314_3 hA hL => ?_)
          replace hr_314_3 : r_314_3 = L (i * 5 + 3) := hr_314_3.trans (ju_at 3 (by decide) hlt hR10 h18)
          subst hr_314_3
          refine lv_bipush (v := 7) hx hb dL_told_317 (by decide) ?_
          refine lv_icmp_gt (tgt := 326) hx hb dL_told_319 (by decide) (fun c_319_3 => absurd c_319_3 h8.2.2.2.2.1) (fun c_319_3 => ?_)
          refine lv_iconst (v := 1) hx hb dL_told_322 (by decide) ?_
          refine lv_goto (tgt := 327) hx hb dL_told_323 (by decide) ?_
          refine lv_istore (lv' := [(10, .int 1), (9, .int (nI i)), (8, .int (nI R)), (7, .int (nI J)), (6, .int 1), (5, .int 1), (4, .int 1), (3, .int 1), (2, .float (f 7)), (1, .int 2), (0, .ref o)]) hx hb dL_told_327 hl (by decide) rfl (fun ls hl => ?_)
          refine lv_aload_n hx hb dL_told_329 rfl (lv_at hl 10 rfl) ?_
          refine lv_iload hx hb dL_told_330 (lv_at hl 1 rfl) ?_
          refine lv_iconst (v := 4) hx hb dL_told_332 (by decide) ?_
          refine lr_i (rL (rest := []) ⟨hx, hb, hml, hown, hts⟩ (LB_judged l G cA A o (u, v, f, g, L) n K ch (nI i) 4 ) (cwV 2 hts gL_told_X8_judged rfl rfl rfl mdX8_judged ⟨Nat.le_of_ble_eq_true rfl, Nat.le_of_ble_eq_true rfl⟩) hA hL rfl hl rfl (Nat.le_of_ble_eq_true rfl) dL_told_333 ⟨Nat.le_of_ble_eq_true rfl, Nat.le_of_ble_eq_true rfl⟩) hA hL (fun r_333_3 H locs hr_333_3 hA hL => ?_)
          replace hr_333_3 : r_333_3 = L (i * 5 + 4) := hr_333_3.trans (ju_at 4 (by decide) hlt hR10 h18)
          subst hr_333_3
          refine lv_aload_n hx hb dL_told_336 rfl (lv_at hl 10 rfl) ?_
          refine lv_iload hx hb dL_told_337 (lv_at hl 1 rfl) ?_
          refine lv_iconst (v := 1) hx hb dL_told_339 (by decide) ?_
          refine lr_i (rL (rest := [.int (L (i * 5 + 4))]) ⟨hx, hb, hml, hown, hts⟩ (LB_judged l G cA A o (u, v, f, g, L) n K ch (nI i) 1 ) (cwV 2 hts gL_told_X8_judged rfl rfl rfl mdX8_judged ⟨Nat.le_of_ble_eq_true rfl, Nat.le_of_ble_eq_true rfl⟩) hA hL rfl hl rfl (Nat.le_of_ble_eq_true rfl) dL_told_340 ⟨Nat.le_of_ble_eq_true rfl, Nat.le_of_ble_eq_true rfl⟩) hA hL (fun r_340_3 H locs hr_340_3 hA hL => ?_)
          replace hr_340_3 : r_340_3 = L (i * 5 + 1) := hr_340_3.trans (ju_at 1 (by decide) hlt hR10 h18)
          subst hr_340_3
          refine lv_aload_n hx hb dL_told_343 rfl (lv_at hl 10 rfl) ?_
          refine lv_iload hx hb dL_told_344 (lv_at hl 1 rfl) ?_
          refine lv_iconst (v := 2) hx hb dL_told_346 (by decide) ?_
          refine lr_i (rL (rest := [.int (L (i * 5 + 1)), .int (L (i * 5 + 4))]) ⟨hx, hb, hml, hown, hts⟩ (LB_judged l G cA A o (u, v, f, g, L) n K ch (nI i) 2 ) (cwV 2 hts gL_told_X8_judged rfl rfl rfl mdX8_judged ⟨Nat.le_of_ble_eq_true rfl, Nat.le_of_ble_eq_true rfl⟩) hA hL rfl hl rfl (Nat.le_of_ble_eq_true rfl) dL_told_347 ⟨Nat.le_of_ble_eq_true rfl, Nat.le_of_ble_eq_true rfl⟩) hA hL (fun r_347_3 H locs hr_347_3 hA hL => ?_)
          replace hr_347_3 : r_347_3 = L (i * 5 + 2) := hr_347_3.trans (ju_at 2 (by decide) hlt hR10 h18)
          subst hr_347_3
          refine lv_iadd hx hb dL_told_350 ?_
          refine lv_icmp_lt (tgt := 382) hx hb dL_told_351 (by decide) (fun c_351_3 => absurd c_351_3 h8.2.2.2.2.2.1) (fun c_351_3 => ?_)
          refine lv_iload hx hb dL_told_354 (lv_at hl 1 rfl) ?_
          refine lv_if_eq (tgt := 378) hx hb dL_told_356 (by decide) (fun c_356_3 => ?_) (fun c_356_3 => ?_)
          · skip
            refine lv_iconst (v := 1) hx hb dL_told_378 (by decide) ?_
            refine lv_goto (tgt := 383) hx hb dL_told_379 (by decide) ?_
            refine lv_istore (lv' := [(11, .int 1), (10, .int 1), (9, .int (nI i)), (8, .int (nI R)), (7, .int (nI J)), (6, .int 1), (5, .int 1), (4, .int 1), (3, .int 1), (2, .float (f 7)), (1, .int 2), (0, .ref o)]) hx hb dL_told_383 hl (by decide) rfl (fun ls hl => ?_)
            refine lv_iload hx hb dL_told_385 (lv_at hl 1 rfl) ?_
            refine lv_if_eq (tgt := 395) hx hb dL_told_387 (by decide) (fun h9 => absurd h9 (by decide)) (fun _ => ?_)
            refine lv_iload hx hb dL_told_390 (lv_at hl 0 rfl) ?_
            refine lv_if_ne (tgt := 397) hx hb dL_told_392 (by decide) (fun _ => ?_) (fun h9 => absurd h9 (by decide))
            refine lv_iinc (v := ((nI i) + 1)) (lv' := [(9, .int ((nI i) + 1)), (11, .int 1), (10, .int 1), (8, .int (nI R)), (7, .int (nI J)), (6, .int 1), (5, .int 1), (4, .int 1), (3, .int 1), (2, .float (f 7)), (1, .int 2), (0, .ref o)]) hx hb dL_told_397 hl (k := 2) rfl rfl (by decide) rfl (fun ls hl => ?_)
            refine lv_goto (tgt := 260) hx hb dL_told_400 (by decide) ?_
            replace hl : lv_has ls 12 [(9, .int (nI (i + 1))), (11, .int 1), (10, .int 1), (8, .int (nI R)), (7, .int (nI J)), (6, .int 1), (5, .int 1), (4, .int 1), (3, .int 1), (2, .float (f 7)), (1, .int 2), (0, .ref o)] := by rw [← nI_1]; exact hl
            exact ih (i + 1) _ _ _ (by omega) (by omega) hA hL (lv_sub hl [0, 3, 4, 5, 6, 7, 8, 9, 10, 11] rfl)
          · skip
            refine lv_aload_n hx hb dL_told_359 rfl (lv_at hl 10 rfl) ?_
            refine lv_iload hx hb dL_told_360 (lv_at hl 1 rfl) ?_
            refine lv_iconst (v := 4) hx hb dL_told_362 (by decide) ?_
            refine lr_i (rL (rest := []) ⟨hx, hb, hml, hown, hts⟩ (LB_judged l G cA A o (u, v, f, g, L) n K ch (nI i) 4 ) (cwV 2 hts gL_told_X8_judged rfl rfl rfl mdX8_judged ⟨Nat.le_of_ble_eq_true rfl, Nat.le_of_ble_eq_true rfl⟩) hA hL rfl hl rfl (Nat.le_of_ble_eq_true rfl) dL_told_363 ⟨Nat.le_of_ble_eq_true rfl, Nat.le_of_ble_eq_true rfl⟩) hA hL (fun r_363_3 H locs hr_363_3 hA hL => ?_)
            replace hr_363_3 : r_363_3 = L (i * 5 + 4) := hr_363_3.trans (ju_at 4 (by decide) hlt hR10 h18)
            subst hr_363_3
            refine lv_aload_n hx hb dL_told_366 rfl (lv_at hl 10 rfl) ?_
            refine lv_iload hx hb dL_told_367 (lv_at hl 1 rfl) ?_
            refine lv_iconst (v := 1) hx hb dL_told_369 (by decide) ?_
            refine lv_isub hx hb dL_told_370 ?_
            refine lv_iconst (v := 1) hx hb dL_told_371 (by decide) ?_
            refine lr_i (rL (rest := [.int (L (i * 5 + 4))]) ⟨hx, hb, hml, hown, hts⟩ (LB_judged l G cA A o (u, v, f, g, L) n K ch ((nI i) - 1) 1 ) (cwV 2 hts gL_told_X8_judged rfl rfl rfl mdX8_judged ⟨Nat.le_of_ble_eq_true rfl, Nat.le_of_ble_eq_true rfl⟩) hA hL rfl hl rfl (Nat.le_of_ble_eq_true rfl) dL_told_372 ⟨Nat.le_of_ble_eq_true rfl, Nat.le_of_ble_eq_true rfl⟩) hA hL (fun r_372_3 H locs hr_372_3 hA hL => ?_)
            rw [(pred_of c_356_3).2] at hr_372_3
            replace hr_372_3 : r_372_3 = L ((i - 1) * 5 + 1) := hr_372_3.trans (ju_at 1 (by decide) (by omega) hR10 h18)
            subst hr_372_3
            refine lv_icmp_ge (tgt := 382) hx hb dL_told_375 (by decide) (fun c_375_3 => absurd c_375_3 (h8.2.2.2.2.2.2 (pred_of c_356_3).1)) (fun c_375_3 => ?_)
            refine lv_iconst (v := 1) hx hb dL_told_378 (by decide) ?_
            refine lv_goto (tgt := 383) hx hb dL_told_379 (by decide) ?_
            refine lv_istore (lv' := [(11, .int 1), (10, .int 1), (9, .int (nI i)), (8, .int (nI R)), (7, .int (nI J)), (6, .int 1), (5, .int 1), (4, .int 1), (3, .int 1), (2, .float (f 7)), (1, .int 2), (0, .ref o)]) hx hb dL_told_383 hl (by decide) rfl (fun ls hl => ?_)
            refine lv_iload hx hb dL_told_385 (lv_at hl 1 rfl) ?_
            refine lv_if_eq (tgt := 395) hx hb dL_told_387 (by decide) (fun h9 => absurd h9 (by decide)) (fun _ => ?_)
            refine lv_iload hx hb dL_told_390 (lv_at hl 0 rfl) ?_
            refine lv_if_ne (tgt := 397) hx hb dL_told_392 (by decide) (fun _ => ?_) (fun h9 => absurd h9 (by decide))
            refine lv_iinc (v := ((nI i) + 1)) (lv' := [(9, .int ((nI i) + 1)), (11, .int 1), (10, .int 1), (8, .int (nI R)), (7, .int (nI J)), (6, .int 1), (5, .int 1), (4, .int 1), (3, .int 1), (2, .float (f 7)), (1, .int 2), (0, .ref o)]) hx hb dL_told_397 hl (k := 2) rfl rfl (by decide) rfl (fun ls hl => ?_)
            refine lv_goto (tgt := 260) hx hb dL_told_400 (by decide) ?_
            replace hl : lv_has ls 12 [(9, .int (nI (i + 1))), (11, .int 1), (10, .int 1), (8, .int (nI R)), (7, .int (nI J)), (6, .int 1), (5, .int 1), (4, .int 1), (3, .int 1), (2, .float (f 7)), (1, .int 2), (0, .ref o)] := by rw [← nI_1]; exact hl
            exact ih (i + 1) _ _ _ (by omega) (by omega) hA hL (lv_sub hl [0, 3, 4, 5, 6, 7, 8, 9, 10, 11] rfl)
set_option maxHeartbeats 8000000 in
set_option maxRecDepth 100000 in
/-- told(o), in the state 3 -/
theorem cL_told_3 (l : Launch) (G : va_G) (cA : Nat → ClassId) (A : Nat → Prop) (o : Nat) (u : FF) (v : GG) (f : FF) (g L : GG) (n K : Nat) (ch : GG) (J R : Nat) (hT : ToldOk u v f g L J R) (hs : g 13 = 3) (hLk : LkOk g) (hTh : Met l yL_thing wsL_thing ({ frames := 4, cells := 0, slots := 0, locals := 94 } : Room) (va_Pc [.ref o] (LbP G cA A o (u, v, f, g, L) n K ch)) (va_Qi (fun r (_ : Unit) => r = 1) (fun _ t => LB G cA A o (u, v, f, g, L) n K ch t.heap) A) 0 0 A) : Met l yL_told wsL_told ({ frames := 5, cells := 0, slots := 0, locals := 129 } : Room) (va_Pc [.ref o] (LbP G cA A o (u, v, f, g, L) n K ch)) (va_Qi (fun r (_ : Unit) => r = 1) (fun _ t => LB G cA A o (u, v, f, g, L) n K ch t.heap) A) 0 0 A := by
  refine ofW2 (cc := cL_told) (maxL := 12) (ret := (some .boolean)) (own := RL) (by decide) rfl rfl (Nat.le_of_ble_eq_true rfl) rfl ?_
  intro p e s m below meth c ls hx hb hml hr hts hown hlocks hv hl
  obtain ⟨hE, hN, hL⟩ := hv
  have hA : At G cA A s s.heap [] := ⟨hE, hN, va_S.rf⟩
  obtain ⟨H, hH0⟩ : ∃ H, H = s.heap := ⟨_, rfl⟩
  rw [← hH0] at hL ⊢
  replace hA : At G cA A s H [] := by rw [hH0]; exact hA
  generalize ([] : List Loc) = locs at hA ⊢
  clear hH0
  replace hl : lv_has ls 12 [(0, .ref o)] := hl
  obtain ⟨hJ, hJ31, hRd, h18⟩ := hT.2.2.2.2.2.1
  have hR10 : R ≤ 10 := by rw [hRd]; split <;> omega
  refine lv_aload_n hx hb dL_told_0 rfl (lv_at hl 0 rfl) ?_
  refine lv_iconst (v := 0) hx hb dL_told_1 (by decide) ?_
  refine lr_i (rL (rest := []) ⟨hx, hb, hml, hown, hts⟩ (LB_door l G cA A o (u, v, f, g, L) n K ch 0) (cwV 1 hts gL_told_X8_door rfl rfl rfl mdX8_door ⟨Nat.le_of_ble_eq_true rfl, Nat.le_of_ble_eq_true rfl⟩) hA hL rfl hl rfl (Nat.le_of_ble_eq_true rfl) dL_told_2 ⟨Nat.le_of_ble_eq_true rfl, Nat.le_of_ble_eq_true rfl⟩) hA hL (fun r_2 H locs hr_2 hA hL => ?_)
  replace hr_2 : r_2 = g 13 := hr_2
  rw [hs] at hr_2
  subst hr_2
  refine lv_istore_n (lv' := [(1, .int 3), (0, .ref o)]) hx hb dL_told_5 rfl hl (by decide) rfl (fun ls hl => ?_)
  refine lv_aload_n hx hb dL_told_6 rfl (lv_at hl 1 rfl) ?_
  refine lr_f (rL (rest := []) ⟨hx, hb, hml, hown, hts⟩ (LB_place l G cA A o (u, v, f, g, L) n K ch  ) (cwV 0 hts gL_told_X8_place rfl rfl rfl mdX8_place ⟨Nat.le_of_ble_eq_true rfl, Nat.le_of_ble_eq_true rfl⟩) hA hL rfl hl rfl (Nat.le_of_ble_eq_true rfl) dL_told_7 ⟨Nat.le_of_ble_eq_true rfl, Nat.le_of_ble_eq_true rfl⟩) hA hL (fun r_7 H locs hr_7 hA hL => ?_)
  replace hr_7 : r_7 = f 7 := hr_7
  subst hr_7
  refine lv_fstore_n (lv' := [(2, .float (f 7)), (1, .int 3), (0, .ref o)]) hx hb dL_told_10 rfl hl (by decide) rfl (fun ls hl => ?_)
  refine lv_fload_n hx hb dL_told_11 rfl (lv_at hl 0 rfl) ?_
  refine lv_fconst0 hx hb dL_told_12 ?_
  refine lv_fcmp hx hb dL_told_13 ?_
  refine lv_if_lt (tgt := 71) hx hb dL_told_14 (by decide) (fun c_14 => absurd c_14 hT.1.1) (fun c_14 => ?_)
  refine lv_fload_n hx hb dL_told_17 rfl (lv_at hl 0 rfl) ?_
  refine lv_ldcf hx hb hown (hts (.constantFloat RL 32 (1120403456)) (by decide +kernel)) dL_told_18 ?_
  refine lv_fcmp hx hb dL_told_20 ?_
  refine lv_if_gt (tgt := 71) hx hb dL_told_21 (by decide) (fun c_21 => absurd c_21 hT.1.2) (fun c_21 => ?_)
  refine lv_iload_n hx hb dL_told_24 rfl (lv_at hl 1 rfl) ?_
  refine lv_if_ne (tgt := 34) hx hb dL_told_25 (by decide) (fun _ => ?_) (fun h9 => absurd h9 (by decide))
  refine lv_iload_n hx hb dL_told_34 rfl (lv_at hl 1 rfl) ?_
  refine lv_iconst (v := 2) hx hb dL_told_35 (by decide) ?_
  refine lv_icmp_ne (tgt := 46) hx hb dL_told_36 (by decide) (fun _ => ?_) (fun h9 => absurd h9 (by decide))
  refine lv_aload_n hx hb dL_told_46 rfl (lv_at hl 2 rfl) ?_
  refine lv_iconst (v := 5) hx hb dL_told_47 (by decide) ?_
  refine lr_i (rL (rest := []) ⟨hx, hb, hml, hown, hts⟩ (LB_door l G cA A o (u, v, f, g, L) n K ch 5) (cwV 1 hts gL_told_X8_door rfl rfl rfl mdX8_door ⟨Nat.le_of_ble_eq_true rfl, Nat.le_of_ble_eq_true rfl⟩) hA hL rfl hl rfl (Nat.le_of_ble_eq_true rfl) dL_told_48 ⟨Nat.le_of_ble_eq_true rfl, Nat.le_of_ble_eq_true rfl⟩) hA hL (fun r_48 H locs hr_48 hA hL => ?_)
  replace hr_48 : r_48 = FP.f2i (f 7) := hr_48
  subst hr_48
  refine lv_fload_n hx hb dL_told_51 rfl (lv_at hl 0 rfl) ?_
  refine lv_f2i hx hb dL_told_52 ?_
  refine lv_icmp_ne (tgt := 71) hx hb dL_told_53 (by decide) (fun c_53 => absurd rfl c_53) (fun c_53 => ?_)
  refine lv_aload_n hx hb dL_told_56 rfl (lv_at hl 2 rfl) ?_
  refine lv_bipush (v := 6) hx hb dL_told_57 (by decide) ?_
  refine lr_i (rL (rest := []) ⟨hx, hb, hml, hown, hts⟩ (LB_door l G cA A o (u, v, f, g, L) n K ch 6) (cwV 1 hts gL_told_X8_door rfl rfl rfl mdX8_door ⟨Nat.le_of_ble_eq_true rfl, Nat.le_of_ble_eq_true rfl⟩) hA hL rfl hl rfl (Nat.le_of_ble_eq_true rfl) dL_told_59 ⟨Nat.le_of_ble_eq_true rfl, Nat.le_of_ble_eq_true rfl⟩) hA hL (fun r_59 H locs hr_59 hA hL => ?_)
  replace hr_59 : r_59 = (-2) := hr_59
  subst hr_59
  refine lv_bipush (v := (-2)) hx hb dL_told_62 (by decide) ?_
  refine lv_icmp_ne (tgt := 71) hx hb dL_told_64 (by decide) (fun h9 => absurd (by decide) h9) (fun _ => ?_)
  refine lv_iconst (v := 1) hx hb dL_told_67 (by decide) ?_
  refine lv_goto (tgt := 72) hx hb dL_told_68 (by decide) ?_
  refine lv_istore_n (lv' := [(3, .int 1), (2, .float (f 7)), (1, .int 3), (0, .ref o)]) hx hb dL_told_72 rfl hl (by decide) rfl (fun ls hl => ?_)
  refine lv_iload_n hx hb dL_told_73 rfl (lv_at hl 2 rfl) ?_
  refine lv_iconst (v := 2) hx hb dL_told_74 (by decide) ?_
  refine lv_icmp_eq (tgt := 86) hx hb dL_told_75 (by decide) (fun h9 => absurd h9 (by decide)) (fun _ => ?_)
  refine lv_aload_n hx hb dL_told_78 rfl (lv_at hl 3 rfl) ?_
  refine lv_iconst (v := 3) hx hb dL_told_79 (by decide) ?_
  refine lr_i (rL (rest := []) ⟨hx, hb, hml, hown, hts⟩ (LB_door l G cA A o (u, v, f, g, L) n K ch 3) (cwV 1 hts gL_told_X8_door rfl rfl rfl mdX8_door ⟨Nat.le_of_ble_eq_true rfl, Nat.le_of_ble_eq_true rfl⟩) hA hL rfl hl rfl (Nat.le_of_ble_eq_true rfl) dL_told_80 ⟨Nat.le_of_ble_eq_true rfl, Nat.le_of_ble_eq_true rfl⟩) hA hL (fun r_80 H locs hr_80 hA hL => ?_)
  rw [show doF _ _ _ = 0 from (by show (if g 13 = 2 then g 14 else 0) = 0; rw [if_neg (by rw [hs]; decide)])] at hr_80
  subst hr_80
  refine lv_if_ne (tgt := 117) hx hb dL_told_83 (by decide) (fun h9 => absurd (by decide) h9) (fun _ => ?_)
  refine lv_iload_n hx hb dL_told_86 rfl (lv_at hl 2 rfl) ?_
  refine lv_iconst (v := 3) hx hb dL_told_87 (by decide) ?_
  refine lv_icmp_eq (tgt := 99) hx hb dL_told_88 (by decide) (fun _ => ?_) (fun h9 => absurd (by decide) h9)
  refine lv_iload_n hx hb dL_told_99 rfl (lv_at hl 2 rfl) ?_
  refine lv_iconst (v := 3) hx hb dL_told_100 (by decide) ?_
  refine lv_icmp_ne (tgt := 113) hx hb dL_told_101 (by decide) (fun h9 => absurd (by decide) h9) (fun _ => ?_)
  refine lv_aload_n hx hb dL_told_104 rfl (lv_at hl 3 rfl) ?_
  refine lv_iconst (v := 4) hx hb dL_told_105 (by decide) ?_
  refine lr_i (rL (rest := []) ⟨hx, hb, hml, hown, hts⟩ (LB_door l G cA A o (u, v, f, g, L) n K ch 4) (cwV 1 hts gL_told_X8_door rfl rfl rfl mdX8_door ⟨Nat.le_of_ble_eq_true rfl, Nat.le_of_ble_eq_true rfl⟩) hA hL rfl hl rfl (Nat.le_of_ble_eq_true rfl) dL_told_106 ⟨Nat.le_of_ble_eq_true rfl, Nat.le_of_ble_eq_true rfl⟩) hA hL (fun r_106 H locs hr_106 hA hL => ?_)
  rw [show doF _ _ _ = g 15 from (by show (if g 13 = 3 then g 15 else 0) = g 15; rw [if_pos hs])] at hr_106
  subst hr_106
  refine lv_iconst (v := 5) hx hb dL_told_109 (by decide) ?_
  refine lv_icmp_gt (tgt := 117) hx hb dL_told_110 (by decide) (fun c_110 => absurd c_110 (hT.2.2.2.1 hs)) (fun c_110 => ?_)
  refine lv_iconst (v := 1) hx hb dL_told_113 (by decide) ?_
  refine lv_goto (tgt := 118) hx hb dL_told_114 (by decide) ?_
  refine lv_istore (lv' := [(4, .int 1), (3, .int 1), (2, .float (f 7)), (1, .int 3), (0, .ref o)]) hx hb dL_told_118 hl (by decide) rfl (fun ls hl => ?_)
  refine lv_aload_n hx hb dL_told_120 rfl (lv_at hl 4 rfl) ?_
  refine lv_iconst (v := 1) hx hb dL_told_121 (by decide) ?_
  refine lr_i (rL (rest := []) ⟨hx, hb, hml, hown, hts⟩ (LB_door l G cA A o (u, v, f, g, L) n K ch 1) (cwV 1 hts gL_told_X8_door rfl rfl rfl mdX8_door ⟨Nat.le_of_ble_eq_true rfl, Nat.le_of_ble_eq_true rfl⟩) hA hL rfl hl rfl (Nat.le_of_ble_eq_true rfl) dL_told_122 ⟨Nat.le_of_ble_eq_true rfl, Nat.le_of_ble_eq_true rfl⟩) hA hL (fun r_122 H locs hr_122 hA hL => ?_)
  replace hr_122 : r_122 = g 16 := hr_122
  subst hr_122
  refine lv_aload_n hx hb dL_told_125 rfl (lv_at hl 4 rfl) ?_
  refine lv_iconst (v := 2) hx hb dL_told_126 (by decide) ?_
  refine lr_i (rL (rest := [.int (g 16)]) ⟨hx, hb, hml, hown, hts⟩ (LB_number l G cA A o (u, v, f, g, L) n K ch 2 ) (cwV 1 hts gL_told_X8_number rfl rfl rfl mdX8_number ⟨Nat.le_of_ble_eq_true rfl, Nat.le_of_ble_eq_true rfl⟩) hA hL rfl hl rfl (Nat.le_of_ble_eq_true rfl) dL_told_127 ⟨Nat.le_of_ble_eq_true rfl, Nat.le_of_ble_eq_true rfl⟩) hA hL (fun r_127 H locs hr_127 hA hL => ?_)
  replace hr_127 : r_127 = v 2 := hr_127
  subst hr_127
  refine lv_icmp_le (tgt := 137) hx hb dL_told_130 (by decide) (fun c_130 => ?_) (fun c_130 => ?_)
  · skip
    refine lv_iconst (v := 0) hx hb dL_told_137 (by decide) ?_
    refine lv_istore (lv' := [(5, .int 0), (4, .int 1), (3, .int 1), (2, .float (f 7)), (1, .int 3), (0, .ref o)]) hx hb dL_told_138 hl (by decide) rfl (fun ls hl => ?_)
    refine lv_aload_n hx hb dL_told_140 rfl (lv_at hl 5 rfl) ?_
    refine lv_iconst (v := 3) hx hb dL_told_141 (by decide) ?_
    refine lr_f (rL (rest := []) ⟨hx, hb, hml, hown, hts⟩ (LB_speed l G cA A o (u, v, f, g, L) n K ch 3) (cwV 1 hts gL_told_X8_speed rfl rfl rfl mdX8_speed ⟨Nat.le_of_ble_eq_true rfl, Nat.le_of_ble_eq_true rfl⟩) hA hL rfl hl rfl (Nat.le_of_ble_eq_true rfl) dL_told_142 ⟨Nat.le_of_ble_eq_true rfl, Nat.le_of_ble_eq_true rfl⟩) hA hL (fun r_142 H locs hr_142 hA hL => ?_)
    replace hr_142 : r_142 = spF u (scF v g) := hr_142
    rw [show spF u (scF v g) = u 1 from by unfold scF; rw [if_pos c_130]; rfl] at hr_142
    subst hr_142
    refine lv_iload hx hb dL_told_145 (lv_at hl 0 rfl) ?_
    refine lv_if_eq (tgt := 158) hx hb dL_told_147 (by decide) (fun _ => ?_) (fun h9 => absurd (by decide) h9)
    refine lv_aload_n hx hb dL_told_158 rfl (lv_at hl 5 rfl) ?_
    refine lv_iconst (v := 1) hx hb dL_told_159 (by decide) ?_
    refine lr_f (rL (rest := [.float (u 1)]) ⟨hx, hb, hml, hown, hts⟩ (LB_speed l G cA A o (u, v, f, g, L) n K ch 1) (cwV 1 hts gL_told_X8_speed rfl rfl rfl mdX8_speed ⟨Nat.le_of_ble_eq_true rfl, Nat.le_of_ble_eq_true rfl⟩) hA hL rfl hl rfl (Nat.le_of_ble_eq_true rfl) dL_told_160 ⟨Nat.le_of_ble_eq_true rfl, Nat.le_of_ble_eq_true rfl⟩) hA hL (fun r_160 H locs hr_160 hA hL => ?_)
    replace hr_160 : r_160 = u 1 := hr_160
    subst hr_160
    refine lv_fcmp hx hb dL_told_163 ?_
    refine lv_if_ne (tgt := 213) hx hb dL_told_164 (by decide) (fun c_164 => absurd hT.2.2.2.2.1.1 c_164) (fun c_164 => ?_)
    refine lv_aload_n hx hb dL_told_167 rfl (lv_at hl 5 rfl) ?_
    refine lv_iconst (v := 4) hx hb dL_told_168 (by decide) ?_
    refine lr_f (rL (rest := []) ⟨hx, hb, hml, hown, hts⟩ (LB_speed l G cA A o (u, v, f, g, L) n K ch 4) (cwV 1 hts gL_told_X8_speed rfl rfl rfl mdX8_speed ⟨Nat.le_of_ble_eq_true rfl, Nat.le_of_ble_eq_true rfl⟩) hA hL rfl hl rfl (Nat.le_of_ble_eq_true rfl) dL_told_169 ⟨Nat.le_of_ble_eq_true rfl, Nat.le_of_ble_eq_true rfl⟩) hA hL (fun r_169 H locs hr_169 hA hL => ?_)
    replace hr_169 : r_169 = nanF := hr_169
    subst hr_169
    refine lr_i (rS (rest := []) ⟨hx, hb, hml, hown, hts⟩ (cL_isNone_ok l G cA nanF) (va_cwS 1 hts gL_told_L_isNone rfl rfl rfl mdL_isNone.2 ⟨Nat.le_of_ble_eq_true rfl, Nat.le_of_ble_eq_true rfl⟩) hA.1 empP empD rfl hl rfl (Nat.le_of_ble_eq_true rfl) dL_told_172 ⟨Nat.le_of_ble_eq_true rfl, Nat.le_of_ble_eq_true rfl⟩) hA hL (fun r_172 H locs hr_172 hA hL => ?_)
    rw [nn_nan] at hr_172
    subst hr_172
    refine lv_if_eq (tgt := 213) hx hb dL_told_175 (by decide) (fun h9 => absurd h9 (by decide)) (fun _ => ?_)
    refine lv_aload_n hx hb dL_told_178 rfl (lv_at hl 5 rfl) ?_
    refine lv_iconst (v := 4) hx hb dL_told_179 (by decide) ?_
    refine lr_f (rL (rest := []) ⟨hx, hb, hml, hown, hts⟩ (LB_weight l G cA A o (u, v, f, g, L) n K ch 4 ) (cwV 1 hts gL_told_X8_weight rfl rfl rfl mdX8_weight ⟨Nat.le_of_ble_eq_true rfl, Nat.le_of_ble_eq_true rfl⟩) hA hL rfl hl rfl (Nat.le_of_ble_eq_true rfl) dL_told_180 ⟨Nat.le_of_ble_eq_true rfl, Nat.le_of_ble_eq_true rfl⟩) hA hL (fun r_180 H locs hr_180 hA hL => ?_)
    replace hr_180 : r_180 = nanF := hr_180
    subst hr_180
    refine lr_i (rS (rest := []) ⟨hx, hb, hml, hown, hts⟩ (cL_isNone_ok l G cA nanF) (va_cwS 1 hts gL_told_L_isNone rfl rfl rfl mdL_isNone.2 ⟨Nat.le_of_ble_eq_true rfl, Nat.le_of_ble_eq_true rfl⟩) hA.1 empP empD rfl hl rfl (Nat.le_of_ble_eq_true rfl) dL_told_183 ⟨Nat.le_of_ble_eq_true rfl, Nat.le_of_ble_eq_true rfl⟩) hA hL (fun r_183 H locs hr_183 hA hL => ?_)
    rw [nn_nan] at hr_183
    subst hr_183
    refine lv_if_eq (tgt := 213) hx hb dL_told_186 (by decide) (fun h9 => absurd h9 (by decide)) (fun _ => ?_)
    refine lv_aload_n hx hb dL_told_189 rfl (lv_at hl 5 rfl) ?_
    refine lv_iconst (v := (-1)) hx hb dL_told_190 (by decide) ?_
    refine lr_f (rL (rest := []) ⟨hx, hb, hml, hown, hts⟩ (LB_score l G cA A o (u, v, f, g, L) n K ch (-1) hLk (fun h9 => absurd (by decide) h9)) (cwV 1 hts gL_told_X8_score rfl rfl rfl mdX8_score ⟨Nat.le_of_ble_eq_true rfl, Nat.le_of_ble_eq_true rfl⟩) hA hL rfl hl rfl (Nat.le_of_ble_eq_true rfl) dL_told_191 ⟨Nat.le_of_ble_eq_true rfl, Nat.le_of_ble_eq_true rfl⟩) hA hL (fun r_191 H locs hr_191 hA hL => ?_)
    replace hr_191 : r_191 = nanF := hr_191
    subst hr_191
    refine lr_i (rS (rest := []) ⟨hx, hb, hml, hown, hts⟩ (cL_isNone_ok l G cA nanF) (va_cwS 1 hts gL_told_L_isNone rfl rfl rfl mdL_isNone.2 ⟨Nat.le_of_ble_eq_true rfl, Nat.le_of_ble_eq_true rfl⟩) hA.1 empP empD rfl hl rfl (Nat.le_of_ble_eq_true rfl) dL_told_194 ⟨Nat.le_of_ble_eq_true rfl, Nat.le_of_ble_eq_true rfl⟩) hA hL (fun r_194 H locs hr_194 hA hL => ?_)
    rw [nn_nan] at hr_194
    subst hr_194
    refine lv_if_eq (tgt := 213) hx hb dL_told_197 (by decide) (fun h9 => absurd h9 (by decide)) (fun _ => ?_)
    refine lv_aload_n hx hb dL_told_200 rfl (lv_at hl 5 rfl) ?_
    refine lv_iconst (v := 5) hx hb dL_told_201 (by decide) ?_
    refine lr_i (rL (rest := []) ⟨hx, hb, hml, hown, hts⟩ (LB_number l G cA A o (u, v, f, g, L) n K ch 5 ) (cwV 1 hts gL_told_X8_number rfl rfl rfl mdX8_number ⟨Nat.le_of_ble_eq_true rfl, Nat.le_of_ble_eq_true rfl⟩) hA hL rfl hl rfl (Nat.le_of_ble_eq_true rfl) dL_told_202 ⟨Nat.le_of_ble_eq_true rfl, Nat.le_of_ble_eq_true rfl⟩) hA hL (fun r_202 H locs hr_202 hA hL => ?_)
    replace hr_202 : r_202 = (-1) := hr_202
    subst hr_202
    refine lv_iconst (v := (-1)) hx hb dL_told_205 (by decide) ?_
    refine lv_icmp_ne (tgt := 213) hx hb dL_told_206 (by decide) (fun h9 => absurd (by decide) h9) (fun _ => ?_)
    refine lv_iconst (v := 1) hx hb dL_told_209 (by decide) ?_
    refine lv_goto (tgt := 214) hx hb dL_told_210 (by decide) ?_
    refine lv_istore (lv' := [(6, .int 1), (5, .int 0), (4, .int 1), (3, .int 1), (2, .float (f 7)), (1, .int 3), (0, .ref o)]) hx hb dL_told_214 hl (by decide) rfl (fun ls hl => ?_)
    refine lv_aload_n hx hb dL_told_216 rfl (lv_at hl 6 rfl) ?_
    refine lv_iconst (v := 1) hx hb dL_told_217 (by decide) ?_
    refine lr_i (rL (rest := []) ⟨hx, hb, hml, hown, hts⟩ (LB_count l G cA A o (u, v, f, g, L) n K ch 1 ) (cwV 1 hts gL_told_X8_count rfl rfl rfl mdX8_count ⟨Nat.le_of_ble_eq_true rfl, Nat.le_of_ble_eq_true rfl⟩) hA hL rfl hl rfl (Nat.le_of_ble_eq_true rfl) dL_told_218 ⟨Nat.le_of_ble_eq_true rfl, Nat.le_of_ble_eq_true rfl⟩) hA hL (fun r_218 H locs hr_218 hA hL => ?_)
    replace hr_218 : r_218 = g 19 := hr_218
    subst hr_218
    refine lv_aload_n hx hb dL_told_221 rfl (lv_at hl 6 rfl) ?_
    refine lv_iconst (v := 2) hx hb dL_told_222 (by decide) ?_
    refine lr_i (rL (rest := [.int (g 19)]) ⟨hx, hb, hml, hown, hts⟩ (LB_count l G cA A o (u, v, f, g, L) n K ch 2 ) (cwV 1 hts gL_told_X8_count rfl rfl rfl mdX8_count ⟨Nat.le_of_ble_eq_true rfl, Nat.le_of_ble_eq_true rfl⟩) hA hL rfl hl rfl (Nat.le_of_ble_eq_true rfl) dL_told_223 ⟨Nat.le_of_ble_eq_true rfl, Nat.le_of_ble_eq_true rfl⟩) hA hL (fun r_223 H locs hr_223 hA hL => ?_)
    replace hr_223 : r_223 = g 20 := hr_223
    subst hr_223
    refine lv_iadd hx hb dL_told_226 ?_
    refine lv_aload_n hx hb dL_told_227 rfl (lv_at hl 6 rfl) ?_
    refine lv_iconst (v := 3) hx hb dL_told_228 (by decide) ?_
    refine lr_i (rL (rest := [.int ((g 19) + (g 20))]) ⟨hx, hb, hml, hown, hts⟩ (LB_count l G cA A o (u, v, f, g, L) n K ch 3 ) (cwV 1 hts gL_told_X8_count rfl rfl rfl mdX8_count ⟨Nat.le_of_ble_eq_true rfl, Nat.le_of_ble_eq_true rfl⟩) hA hL rfl hl rfl (Nat.le_of_ble_eq_true rfl) dL_told_229 ⟨Nat.le_of_ble_eq_true rfl, Nat.le_of_ble_eq_true rfl⟩) hA hL (fun r_229 H locs hr_229 hA hL => ?_)
    replace hr_229 : r_229 = g 21 := hr_229
    subst hr_229
    refine lv_iadd hx hb dL_told_232 ?_
    refine lv_aload_n hx hb dL_told_233 rfl (lv_at hl 6 rfl) ?_
    refine lv_iconst (v := 4) hx hb dL_told_234 (by decide) ?_
    refine lr_i (rL (rest := [.int (((g 19) + (g 20)) + (g 21))]) ⟨hx, hb, hml, hown, hts⟩ (LB_count l G cA A o (u, v, f, g, L) n K ch 4 ) (cwV 1 hts gL_told_X8_count rfl rfl rfl mdX8_count ⟨Nat.le_of_ble_eq_true rfl, Nat.le_of_ble_eq_true rfl⟩) hA hL rfl hl rfl (Nat.le_of_ble_eq_true rfl) dL_told_235 ⟨Nat.le_of_ble_eq_true rfl, Nat.le_of_ble_eq_true rfl⟩) hA hL (fun r_235 H locs hr_235 hA hL => ?_)
    replace hr_235 : r_235 = g 22 := hr_235
    subst hr_235
    refine lv_iadd hx hb dL_told_238 ?_
    rw [hJ]
    refine lv_istore (lv' := [(7, .int (nI J)), (6, .int 1), (5, .int 0), (4, .int 1), (3, .int 1), (2, .float (f 7)), (1, .int 3), (0, .ref o)]) hx hb dL_told_239 hl (by decide) rfl (fun ls hl => ?_)
    refine lv_iload hx hb dL_told_241 (lv_at hl 0 rfl) ?_
    refine lv_bipush (v := 10) hx hb dL_told_243 (by decide) ?_
    refine lv_icmp_ge (tgt := 253) hx hb dL_told_245 (by decide) (fun c_245 => ?_) (fun c_245 => ?_)
    · skip
      refine lv_bipush (v := 10) hx hb dL_told_253 (by decide) ?_
      have hRR : R = 10 := by rw [hRd, if_neg (by have := (nI_leI (a := 10) (b := J) (by decide) hJ31).mp c_245; omega)]
      refine W.eq (g2 := F0 m 255 ls [.int (nI R)]) (by rw [hRR]; rfl) ?_
      refine lv_istore (lv' := [(8, .int (nI R)), (7, .int (nI J)), (6, .int 1), (5, .int 0), (4, .int 1), (3, .int 1), (2, .float (f 7)), (1, .int 3), (0, .ref o)]) hx hb dL_told_255 hl (by decide) rfl (fun ls hl => ?_)
      refine lv_iconst (v := 0) hx hb dL_told_257 (by decide) ?_
      refine lv_istore (lv' := [(9, .int 0), (8, .int (nI R)), (7, .int (nI J)), (6, .int 1), (5, .int 0), (4, .int 1), (3, .int 1), (2, .float (f 7)), (1, .int 3), (0, .ref o)]) hx hb dL_told_258 hl (by decide) rfl (fun ls hl => ?_)
      obtain ⟨i, hi0⟩ : ∃ i : Nat, i = 0 := ⟨_, rfl⟩
      replace hl : lv_has ls 12 [(9, .int (nI i)), (8, .int (nI R)), (7, .int (nI J)), (6, .int 1), (5, .int 0), (4, .int 1), (3, .int 1), (2, .float (f 7)), (1, .int 3), (0, .ref o)] := by rw [hi0]; exact hl
      obtain ⟨nn, hn⟩ : ∃ nn : Nat, R < i + nn := ⟨R + 1, by omega⟩
      have hi : i ≤ R := by omega
      clear hi0
      revert hl
      revert hL
      revert hA
      revert hi
      revert hn
      revert ls
      revert locs
      revert H
      revert i
      induction nn with
      | zero => intro i H locs ls hn hi; exact absurd hn (by omega)
      | succ nn ih =>
        intro i H locs ls hn hi hA hL hl
        refine lv_iload hx hb dL_told_260 (lv_at hl 0 rfl) ?_
        refine lv_iload hx hb dL_told_262 (lv_at hl 1 rfl) ?_
        refine lv_icmp_ge (tgt := 403) hx hb dL_told_264 (by decide) (fun c_264 => ?_) (fun c_264 => ?_)
        · skip
          obtain rfl : R = i := (eq_of_le hi (by omega) c_264).symm
          refine lv_iload_n hx hb dL_told_403 rfl (lv_at hl 6 rfl) ?_
          refine lv_if_eq (tgt := 462) hx hb dL_told_404 (by decide) (fun h9 => absurd h9 (by decide)) (fun _ => ?_)
          refine lv_iload hx hb dL_told_407 (lv_at hl 5 rfl) ?_
          refine lv_if_eq (tgt := 462) hx hb dL_told_409 (by decide) (fun h9 => absurd h9 (by decide)) (fun _ => ?_)
          refine lv_iload hx hb dL_told_412 (lv_at hl 3 rfl) ?_
          refine lv_if_eq (tgt := 462) hx hb dL_told_414 (by decide) (fun h9 => absurd h9 (by decide)) (fun _ => ?_)
          refine lv_aload_n hx hb dL_told_417 rfl (lv_at hl 9 rfl) ?_
          refine lv_iload hx hb dL_told_418 (lv_at hl 1 rfl) ?_
          refine lv_iconst (v := 0) hx hb dL_told_420 (by decide) ?_
          refine lr_i (rL (rest := []) ⟨hx, hb, hml, hown, hts⟩ (LB_judged l G cA A o (u, v, f, g, L) n K ch (nI R) 0 ) (cwV 2 hts gL_told_X8_judged rfl rfl rfl mdX8_judged ⟨Nat.le_of_ble_eq_true rfl, Nat.le_of_ble_eq_true rfl⟩) hA hL rfl hl rfl (Nat.le_of_ble_eq_true rfl) dL_told_421 ⟨Nat.le_of_ble_eq_true rfl, Nat.le_of_ble_eq_true rfl⟩) hA hL (fun r_421 H locs hr_421 hA hL => ?_)
          rw [ju_end hR10 h18] at hr_421
          subst hr_421
          refine lv_bipush (v := (-5)) hx hb dL_told_424 (by decide) ?_
          refine lv_icmp_ne (tgt := 462) hx hb dL_told_426 (by decide) (fun h9 => absurd (by decide) h9) (fun _ => ?_)
          refine lv_aload_n hx hb dL_told_429 rfl (lv_at hl 9 rfl) ?_
          refine lv_iconst (v := (-1)) hx hb dL_told_430 (by decide) ?_
          refine lv_iconst (v := 0) hx hb dL_told_431 (by decide) ?_
          refine lr_i (rL (rest := []) ⟨hx, hb, hml, hown, hts⟩ (LB_judged l G cA A o (u, v, f, g, L) n K ch (-1) 0 ) (cwV 2 hts gL_told_X8_judged rfl rfl rfl mdX8_judged ⟨Nat.le_of_ble_eq_true rfl, Nat.le_of_ble_eq_true rfl⟩) hA hL rfl hl rfl (Nat.le_of_ble_eq_true rfl) dL_told_432 ⟨Nat.le_of_ble_eq_true rfl, Nat.le_of_ble_eq_true rfl⟩) hA hL (fun r_432 H locs hr_432 hA hL => ?_)
          replace hr_432 : r_432 = (-2) := hr_432
          subst hr_432
          refine lv_bipush (v := (-2)) hx hb dL_told_435 (by decide) ?_
          refine lv_icmp_ne (tgt := 462) hx hb dL_told_437 (by decide) (fun h9 => absurd (by decide) h9) (fun _ => ?_)
          refine lv_aload_n hx hb dL_told_440 rfl (lv_at hl 9 rfl) ?_
          refine lv_iconst (v := 0) hx hb dL_told_441 (by decide) ?_
          refine lv_iconst (v := 5) hx hb dL_told_442 (by decide) ?_
          refine lr_i (rL (rest := []) ⟨hx, hb, hml, hown, hts⟩ (LB_judged l G cA A o (u, v, f, g, L) n K ch 0 5 ) (cwV 2 hts gL_told_X8_judged rfl rfl rfl mdX8_judged ⟨Nat.le_of_ble_eq_true rfl, Nat.le_of_ble_eq_true rfl⟩) hA hL rfl hl rfl (Nat.le_of_ble_eq_true rfl) dL_told_443 ⟨Nat.le_of_ble_eq_true rfl, Nat.le_of_ble_eq_true rfl⟩) hA hL (fun r_443 H locs hr_443 hA hL => ?_)
          replace hr_443 : r_443 = (-2) := hr_443
          subst hr_443
          refine lv_bipush (v := (-2)) hx hb dL_told_446 (by decide) ?_
          refine lv_icmp_ne (tgt := 462) hx hb dL_told_448 (by decide) (fun h9 => absurd (by decide) h9) (fun _ => ?_)
          refine lv_aload_n hx hb dL_told_451 rfl (lv_at hl 9 rfl) ?_
          refine lw_i (rLS (rest := []) ⟨hx, hb, hml, hown, hts⟩ (hTh) (va_cwS 1 hts gL_told_L_thing rfl rfl rfl mdL_thing.2 ⟨Nat.le_of_ble_eq_true rfl, Nat.le_of_ble_eq_true rfl⟩) hA hL rfl hl rfl (Nat.le_of_ble_eq_true rfl) dL_told_452 ⟨Nat.le_of_ble_eq_true rfl, Nat.le_of_ble_eq_true rfl⟩) hA (fun r_452 _ H locs hr_452 hA hL => ?_)
          replace hL : LB G cA A o (u, v, f, g, L) n K ch H := hL
          subst hr_452
          refine lv_if_eq (tgt := 462) hx hb dL_told_455 (by decide) (fun h9 => absurd h9 (by decide)) (fun _ => ?_)
          refine lv_iconst (v := 1) hx hb dL_told_458 (by decide) ?_
          refine lv_goto (tgt := 463) hx hb dL_told_459 (by decide) ?_
          exact en_l (post := fun r (_ : Unit) => r = 1) (B := fun _ H => LB G cA A o (u, v, f, g, L) n K ch H) () hx hb hr hlocks hA rfl hL dL_told_463
        · skip
          have hlt : i < R := lt_of_nle hi (by omega) c_264
          have h8 := hT.2.2.2.2.2.2 i hlt
          refine lv_aload_n hx hb dL_told_267 rfl (lv_at hl 9 rfl) ?_
          refine lv_iload hx hb dL_told_268 (lv_at hl 0 rfl) ?_
          refine lv_iconst (v := 0) hx hb dL_told_270 (by decide) ?_
          refine lr_i (rL (rest := []) ⟨hx, hb, hml, hown, hts⟩ (LB_judged l G cA A o (u, v, f, g, L) n K ch (nI i) 0 ) (cwV 2 hts gL_told_X8_judged rfl rfl rfl mdX8_judged ⟨Nat.le_of_ble_eq_true rfl, Nat.le_of_ble_eq_true rfl⟩) hA hL rfl hl rfl (Nat.le_of_ble_eq_true rfl) dL_told_271 ⟨Nat.le_of_ble_eq_true rfl, Nat.le_of_ble_eq_true rfl⟩) hA hL (fun r_271 H locs hr_271 hA hL => ?_)
          replace hr_271 : r_271 = L (i * 5 + 0) := hr_271.trans (ju_at 0 (by decide) hlt hR10 h18)
          subst hr_271
          refine lv_if_lt (tgt := 326) hx hb dL_told_274 (by decide) (fun c_274 => absurd c_274 h8.1) (fun c_274 => ?_)
          refine lv_aload_n hx hb dL_told_277 rfl (lv_at hl 9 rfl) ?_
          refine lv_iload hx hb dL_told_278 (lv_at hl 0 rfl) ?_
          refine lv_iconst (v := 0) hx hb dL_told_280 (by decide) ?_
          refine lr_i (rL (rest := []) ⟨hx, hb, hml, hown, hts⟩ (LB_judged l G cA A o (u, v, f, g, L) n K ch (nI i) 0 ) (cwV 2 hts gL_told_X8_judged rfl rfl rfl mdX8_judged ⟨Nat.le_of_ble_eq_true rfl, Nat.le_of_ble_eq_true rfl⟩) hA hL rfl hl rfl (Nat.le_of_ble_eq_true rfl) dL_told_281 ⟨Nat.le_of_ble_eq_true rfl, Nat.le_of_ble_eq_true rfl⟩) hA hL (fun r_281 H locs hr_281 hA hL => ?_)
          replace hr_281 : r_281 = L (i * 5 + 0) := hr_281.trans (ju_at 0 (by decide) hlt hR10 h18)
          subst hr_281
          refine lv_iconst (v := 3) hx hb dL_told_284 (by decide) ?_
          refine lv_icmp_gt (tgt := 326) hx hb dL_told_285 (by decide) (fun c_285 => absurd c_285 h8.2.1) (fun c_285 => ?_)
          refine lv_aload_n hx hb dL_told_288 rfl (lv_at hl 9 rfl) ?_
          refine lv_iload hx hb dL_told_289 (lv_at hl 0 rfl) ?_
          refine lv_iconst (v := 2) hx hb dL_told_291 (by decide) ?_
          refine lr_i (rL (rest := []) ⟨hx, hb, hml, hown, hts⟩ (LB_judged l G cA A o (u, v, f, g, L) n K ch (nI i) 2 ) (cwV 2 hts gL_told_X8_judged rfl rfl rfl mdX8_judged ⟨Nat.le_of_ble_eq_true rfl, Nat.le_of_ble_eq_true rfl⟩) hA hL rfl hl rfl (Nat.le_of_ble_eq_true rfl) dL_told_292 ⟨Nat.le_of_ble_eq_true rfl, Nat.le_of_ble_eq_true rfl⟩) hA hL (fun r_292 H locs hr_292 hA hL => ?_)
          replace hr_292 : r_292 = L (i * 5 + 2) := hr_292.trans (ju_at 2 (by decide) hlt hR10 h18)
          subst hr_292
          refine lv_iconst (v := 1) hx hb dL_told_295 (by decide) ?_
          refine lv_icmp_lt (tgt := 326) hx hb dL_told_296 (by decide) (fun c_296 => absurd c_296 h8.2.2.1) (fun c_296 => ?_)
          refine lv_aload_n hx hb dL_told_299 rfl (lv_at hl 9 rfl) ?_
          refine lv_iload hx hb dL_told_300 (lv_at hl 0 rfl) ?_
          refine lv_iconst (v := 3) hx hb dL_told_302 (by decide) ?_
          refine lr_i (rL (rest := []) ⟨hx, hb, hml, hown, hts⟩ (LB_judged l G cA A o (u, v, f, g, L) n K ch (nI i) 3 ) (cwV 2 hts gL_told_X8_judged rfl rfl rfl mdX8_judged ⟨Nat.le_of_ble_eq_true rfl, Nat.le_of_ble_eq_true rfl⟩) hA hL rfl hl rfl (Nat.le_of_ble_eq_true rfl) dL_told_303 ⟨Nat.le_of_ble_eq_true rfl, Nat.le_of_ble_eq_true rfl⟩) hA hL (fun r_303 H locs hr_303 hA hL => ?_)
          replace hr_303 : r_303 = L (i * 5 + 3) := hr_303.trans (ju_at 3 (by decide) hlt hR10 h18)
          subst hr_303
          refine lv_iconst (v := 1) hx hb dL_told_306 (by decide) ?_
          refine lv_icmp_lt (tgt := 326) hx hb dL_told_307 (by decide) (fun c_307 => absurd c_307 h8.2.2.2.1) (fun c_307 => ?_)
          refine lv_aload_n hx hb dL_told_310 rfl (lv_at hl 9 rfl) ?_
          refine lv_iload hx hb dL_told_311 (lv_at hl 0 rfl) ?_
          refine lv_iconst (v := 3) hx hb dL_told_313 (by decide) ?_
          refine lr_i (rL (rest := []) ⟨hx, hb, hml, hown, hts⟩ (LB_judged l G cA A o (u, v, f, g, L) n K ch (nI i) 3 ) (cwV 2 hts gL_told_X8_judged rfl rfl rfl mdX8_judged ⟨Nat.le_of_ble_eq_true rfl, Nat.le_of_ble_eq_true rfl⟩) hA hL rfl hl rfl (Nat.le_of_ble_eq_true rfl) dL_told_314 ⟨Nat.le_of_ble_eq_true rfl, Nat.le_of_ble_eq_true rfl⟩) hA hL (fun r_314 H locs hr_314 hA hL => ?_)
          replace hr_314 : r_314 = L (i * 5 + 3) := hr_314.trans (ju_at 3 (by decide) hlt hR10 h18)
          subst hr_314
          refine lv_bipush (v := 7) hx hb dL_told_317 (by decide) ?_
          refine lv_icmp_gt (tgt := 326) hx hb dL_told_319 (by decide) (fun c_319 => absurd c_319 h8.2.2.2.2.1) (fun c_319 => ?_)
          refine lv_iconst (v := 1) hx hb dL_told_322 (by decide) ?_
          refine lv_goto (tgt := 327) hx hb dL_told_323 (by decide) ?_
          refine lv_istore (lv' := [(10, .int 1), (9, .int (nI i)), (8, .int (nI R)), (7, .int (nI J)), (6, .int 1), (5, .int 0), (4, .int 1), (3, .int 1), (2, .float (f 7)), (1, .int 3), (0, .ref o)]) hx hb dL_told_327 hl (by decide) rfl (fun ls hl => ?_)
          refine lv_aload_n hx hb dL_told_329 rfl (lv_at hl 10 rfl) ?_
          refine lv_iload hx hb dL_told_330 (lv_at hl 1 rfl) ?_
          refine lv_iconst (v := 4) hx hb dL_told_332 (by decide) ?_
          refine lr_i (rL (rest := []) ⟨hx, hb, hml, hown, hts⟩ (LB_judged l G cA A o (u, v, f, g, L) n K ch (nI i) 4 ) (cwV 2 hts gL_told_X8_judged rfl rfl rfl mdX8_judged ⟨Nat.le_of_ble_eq_true rfl, Nat.le_of_ble_eq_true rfl⟩) hA hL rfl hl rfl (Nat.le_of_ble_eq_true rfl) dL_told_333 ⟨Nat.le_of_ble_eq_true rfl, Nat.le_of_ble_eq_true rfl⟩) hA hL (fun r_333 H locs hr_333 hA hL => ?_)
          replace hr_333 : r_333 = L (i * 5 + 4) := hr_333.trans (ju_at 4 (by decide) hlt hR10 h18)
          subst hr_333
          refine lv_aload_n hx hb dL_told_336 rfl (lv_at hl 10 rfl) ?_
          refine lv_iload hx hb dL_told_337 (lv_at hl 1 rfl) ?_
          refine lv_iconst (v := 1) hx hb dL_told_339 (by decide) ?_
          refine lr_i (rL (rest := [.int (L (i * 5 + 4))]) ⟨hx, hb, hml, hown, hts⟩ (LB_judged l G cA A o (u, v, f, g, L) n K ch (nI i) 1 ) (cwV 2 hts gL_told_X8_judged rfl rfl rfl mdX8_judged ⟨Nat.le_of_ble_eq_true rfl, Nat.le_of_ble_eq_true rfl⟩) hA hL rfl hl rfl (Nat.le_of_ble_eq_true rfl) dL_told_340 ⟨Nat.le_of_ble_eq_true rfl, Nat.le_of_ble_eq_true rfl⟩) hA hL (fun r_340 H locs hr_340 hA hL => ?_)
          replace hr_340 : r_340 = L (i * 5 + 1) := hr_340.trans (ju_at 1 (by decide) hlt hR10 h18)
          subst hr_340
          refine lv_aload_n hx hb dL_told_343 rfl (lv_at hl 10 rfl) ?_
          refine lv_iload hx hb dL_told_344 (lv_at hl 1 rfl) ?_
          refine lv_iconst (v := 2) hx hb dL_told_346 (by decide) ?_
          refine lr_i (rL (rest := [.int (L (i * 5 + 1)), .int (L (i * 5 + 4))]) ⟨hx, hb, hml, hown, hts⟩ (LB_judged l G cA A o (u, v, f, g, L) n K ch (nI i) 2 ) (cwV 2 hts gL_told_X8_judged rfl rfl rfl mdX8_judged ⟨Nat.le_of_ble_eq_true rfl, Nat.le_of_ble_eq_true rfl⟩) hA hL rfl hl rfl (Nat.le_of_ble_eq_true rfl) dL_told_347 ⟨Nat.le_of_ble_eq_true rfl, Nat.le_of_ble_eq_true rfl⟩) hA hL (fun r_347 H locs hr_347 hA hL => ?_)
          replace hr_347 : r_347 = L (i * 5 + 2) := hr_347.trans (ju_at 2 (by decide) hlt hR10 h18)
          subst hr_347
          refine lv_iadd hx hb dL_told_350 ?_
          refine lv_icmp_lt (tgt := 382) hx hb dL_told_351 (by decide) (fun c_351 => absurd c_351 h8.2.2.2.2.2.1) (fun c_351 => ?_)
          refine lv_iload hx hb dL_told_354 (lv_at hl 1 rfl) ?_
          refine lv_if_eq (tgt := 378) hx hb dL_told_356 (by decide) (fun c_356 => ?_) (fun c_356 => ?_)
          · skip
            refine lv_iconst (v := 1) hx hb dL_told_378 (by decide) ?_
            refine lv_goto (tgt := 383) hx hb dL_told_379 (by decide) ?_
            refine lv_istore (lv' := [(11, .int 1), (10, .int 1), (9, .int (nI i)), (8, .int (nI R)), (7, .int (nI J)), (6, .int 1), (5, .int 0), (4, .int 1), (3, .int 1), (2, .float (f 7)), (1, .int 3), (0, .ref o)]) hx hb dL_told_383 hl (by decide) rfl (fun ls hl => ?_)
            refine lv_iload hx hb dL_told_385 (lv_at hl 1 rfl) ?_
            refine lv_if_eq (tgt := 395) hx hb dL_told_387 (by decide) (fun h9 => absurd h9 (by decide)) (fun _ => ?_)
            refine lv_iload hx hb dL_told_390 (lv_at hl 0 rfl) ?_
            refine lv_if_ne (tgt := 397) hx hb dL_told_392 (by decide) (fun _ => ?_) (fun h9 => absurd h9 (by decide))
            refine lv_iinc (v := ((nI i) + 1)) (lv' := [(9, .int ((nI i) + 1)), (11, .int 1), (10, .int 1), (8, .int (nI R)), (7, .int (nI J)), (6, .int 1), (5, .int 0), (4, .int 1), (3, .int 1), (2, .float (f 7)), (1, .int 3), (0, .ref o)]) hx hb dL_told_397 hl (k := 2) rfl rfl (by decide) rfl (fun ls hl => ?_)
            refine lv_goto (tgt := 260) hx hb dL_told_400 (by decide) ?_
            replace hl : lv_has ls 12 [(9, .int (nI (i + 1))), (11, .int 1), (10, .int 1), (8, .int (nI R)), (7, .int (nI J)), (6, .int 1), (5, .int 0), (4, .int 1), (3, .int 1), (2, .float (f 7)), (1, .int 3), (0, .ref o)] := by rw [← nI_1]; exact hl
            exact ih (i + 1) _ _ _ (by omega) (by omega) hA hL (lv_sub hl [0, 3, 4, 5, 6, 7, 8, 9, 10, 11] rfl)
          · skip
            refine lv_aload_n hx hb dL_told_359 rfl (lv_at hl 10 rfl) ?_
            refine lv_iload hx hb dL_told_360 (lv_at hl 1 rfl) ?_
            refine lv_iconst (v := 4) hx hb dL_told_362 (by decide) ?_
            refine lr_i (rL (rest := []) ⟨hx, hb, hml, hown, hts⟩ (LB_judged l G cA A o (u, v, f, g, L) n K ch (nI i) 4 ) (cwV 2 hts gL_told_X8_judged rfl rfl rfl mdX8_judged ⟨Nat.le_of_ble_eq_true rfl, Nat.le_of_ble_eq_true rfl⟩) hA hL rfl hl rfl (Nat.le_of_ble_eq_true rfl) dL_told_363 ⟨Nat.le_of_ble_eq_true rfl, Nat.le_of_ble_eq_true rfl⟩) hA hL (fun r_363 H locs hr_363 hA hL => ?_)
            replace hr_363 : r_363 = L (i * 5 + 4) := hr_363.trans (ju_at 4 (by decide) hlt hR10 h18)
            subst hr_363
            refine lv_aload_n hx hb dL_told_366 rfl (lv_at hl 10 rfl) ?_
            refine lv_iload hx hb dL_told_367 (lv_at hl 1 rfl) ?_
            refine lv_iconst (v := 1) hx hb dL_told_369 (by decide) ?_
            refine lv_isub hx hb dL_told_370 ?_
            refine lv_iconst (v := 1) hx hb dL_told_371 (by decide) ?_
            refine lr_i (rL (rest := [.int (L (i * 5 + 4))]) ⟨hx, hb, hml, hown, hts⟩ (LB_judged l G cA A o (u, v, f, g, L) n K ch ((nI i) - 1) 1 ) (cwV 2 hts gL_told_X8_judged rfl rfl rfl mdX8_judged ⟨Nat.le_of_ble_eq_true rfl, Nat.le_of_ble_eq_true rfl⟩) hA hL rfl hl rfl (Nat.le_of_ble_eq_true rfl) dL_told_372 ⟨Nat.le_of_ble_eq_true rfl, Nat.le_of_ble_eq_true rfl⟩) hA hL (fun r_372 H locs hr_372 hA hL => ?_)
            rw [(pred_of c_356).2] at hr_372
            replace hr_372 : r_372 = L ((i - 1) * 5 + 1) := hr_372.trans (ju_at 1 (by decide) (by omega) hR10 h18)
            subst hr_372
            refine lv_icmp_ge (tgt := 382) hx hb dL_told_375 (by decide) (fun c_375 => absurd c_375 (h8.2.2.2.2.2.2 (pred_of c_356).1)) (fun c_375 => ?_)
            refine lv_iconst (v := 1) hx hb dL_told_378 (by decide) ?_
            refine lv_goto (tgt := 383) hx hb dL_told_379 (by decide) ?_
            refine lv_istore (lv' := [(11, .int 1), (10, .int 1), (9, .int (nI i)), (8, .int (nI R)), (7, .int (nI J)), (6, .int 1), (5, .int 0), (4, .int 1), (3, .int 1), (2, .float (f 7)), (1, .int 3), (0, .ref o)]) hx hb dL_told_383 hl (by decide) rfl (fun ls hl => ?_)
            refine lv_iload hx hb dL_told_385 (lv_at hl 1 rfl) ?_
            refine lv_if_eq (tgt := 395) hx hb dL_told_387 (by decide) (fun h9 => absurd h9 (by decide)) (fun _ => ?_)
            refine lv_iload hx hb dL_told_390 (lv_at hl 0 rfl) ?_
            refine lv_if_ne (tgt := 397) hx hb dL_told_392 (by decide) (fun _ => ?_) (fun h9 => absurd h9 (by decide))
            refine lv_iinc (v := ((nI i) + 1)) (lv' := [(9, .int ((nI i) + 1)), (11, .int 1), (10, .int 1), (8, .int (nI R)), (7, .int (nI J)), (6, .int 1), (5, .int 0), (4, .int 1), (3, .int 1), (2, .float (f 7)), (1, .int 3), (0, .ref o)]) hx hb dL_told_397 hl (k := 2) rfl rfl (by decide) rfl (fun ls hl => ?_)
            refine lv_goto (tgt := 260) hx hb dL_told_400 (by decide) ?_
            replace hl : lv_has ls 12 [(9, .int (nI (i + 1))), (11, .int 1), (10, .int 1), (8, .int (nI R)), (7, .int (nI J)), (6, .int 1), (5, .int 0), (4, .int 1), (3, .int 1), (2, .float (f 7)), (1, .int 3), (0, .ref o)] := by rw [← nI_1]; exact hl
            exact ih (i + 1) _ _ _ (by omega) (by omega) hA hL (lv_sub hl [0, 3, 4, 5, 6, 7, 8, 9, 10, 11] rfl)
    · skip
      refine lv_iload hx hb dL_told_248 (lv_at hl 0 rfl) ?_
      refine lv_goto (tgt := 255) hx hb dL_told_250 (by decide) ?_
      have hRR : R = J := by rw [hRd, if_pos (Nat.lt_of_not_le (fun h9 => c_245 ((nI_leI (a := 10) (b := J) (by decide) hJ31).mpr h9)))]
      refine W.eq (g2 := F0 m 255 ls [.int (nI R)]) (by rw [hRR]) ?_
      refine lv_istore (lv' := [(8, .int (nI R)), (7, .int (nI J)), (6, .int 1), (5, .int 0), (4, .int 1), (3, .int 1), (2, .float (f 7)), (1, .int 3), (0, .ref o)]) hx hb dL_told_255 hl (by decide) rfl (fun ls hl => ?_)
      refine lv_iconst (v := 0) hx hb dL_told_257 (by decide) ?_
      refine lv_istore (lv' := [(9, .int 0), (8, .int (nI R)), (7, .int (nI J)), (6, .int 1), (5, .int 0), (4, .int 1), (3, .int 1), (2, .float (f 7)), (1, .int 3), (0, .ref o)]) hx hb dL_told_258 hl (by decide) rfl (fun ls hl => ?_)
      obtain ⟨i, hi0⟩ : ∃ i : Nat, i = 0 := ⟨_, rfl⟩
      replace hl : lv_has ls 12 [(9, .int (nI i)), (8, .int (nI R)), (7, .int (nI J)), (6, .int 1), (5, .int 0), (4, .int 1), (3, .int 1), (2, .float (f 7)), (1, .int 3), (0, .ref o)] := by rw [hi0]; exact hl
      obtain ⟨nn, hn⟩ : ∃ nn : Nat, R < i + nn := ⟨R + 1, by omega⟩
      have hi : i ≤ R := by omega
      clear hi0
      revert hl
      revert hL
      revert hA
      revert hi
      revert hn
      revert ls
      revert locs
      revert H
      revert i
      induction nn with
      | zero => intro i H locs ls hn hi; exact absurd hn (by omega)
      | succ nn ih =>
        intro i H locs ls hn hi hA hL hl
        refine lv_iload hx hb dL_told_260 (lv_at hl 0 rfl) ?_
        refine lv_iload hx hb dL_told_262 (lv_at hl 1 rfl) ?_
        refine lv_icmp_ge (tgt := 403) hx hb dL_told_264 (by decide) (fun c_264_1 => ?_) (fun c_264_1 => ?_)
        · skip
          obtain rfl : R = i := (eq_of_le hi (by omega) c_264_1).symm
          refine lv_iload_n hx hb dL_told_403 rfl (lv_at hl 6 rfl) ?_
          refine lv_if_eq (tgt := 462) hx hb dL_told_404 (by decide) (fun h9 => absurd h9 (by decide)) (fun _ => ?_)
          refine lv_iload hx hb dL_told_407 (lv_at hl 5 rfl) ?_
          refine lv_if_eq (tgt := 462) hx hb dL_told_409 (by decide) (fun h9 => absurd h9 (by decide)) (fun _ => ?_)
          refine lv_iload hx hb dL_told_412 (lv_at hl 3 rfl) ?_
          refine lv_if_eq (tgt := 462) hx hb dL_told_414 (by decide) (fun h9 => absurd h9 (by decide)) (fun _ => ?_)
          refine lv_aload_n hx hb dL_told_417 rfl (lv_at hl 9 rfl) ?_
          refine lv_iload hx hb dL_told_418 (lv_at hl 1 rfl) ?_
          refine lv_iconst (v := 0) hx hb dL_told_420 (by decide) ?_
          refine lr_i (rL (rest := []) ⟨hx, hb, hml, hown, hts⟩ (LB_judged l G cA A o (u, v, f, g, L) n K ch (nI R) 0 ) (cwV 2 hts gL_told_X8_judged rfl rfl rfl mdX8_judged ⟨Nat.le_of_ble_eq_true rfl, Nat.le_of_ble_eq_true rfl⟩) hA hL rfl hl rfl (Nat.le_of_ble_eq_true rfl) dL_told_421 ⟨Nat.le_of_ble_eq_true rfl, Nat.le_of_ble_eq_true rfl⟩) hA hL (fun r_421_1 H locs hr_421_1 hA hL => ?_)
          rw [ju_end hR10 h18] at hr_421_1
          subst hr_421_1
          refine lv_bipush (v := (-5)) hx hb dL_told_424 (by decide) ?_
          refine lv_icmp_ne (tgt := 462) hx hb dL_told_426 (by decide) (fun h9 => absurd (by decide) h9) (fun _ => ?_)
          refine lv_aload_n hx hb dL_told_429 rfl (lv_at hl 9 rfl) ?_
          refine lv_iconst (v := (-1)) hx hb dL_told_430 (by decide) ?_
          refine lv_iconst (v := 0) hx hb dL_told_431 (by decide) ?_
          refine lr_i (rL (rest := []) ⟨hx, hb, hml, hown, hts⟩ (LB_judged l G cA A o (u, v, f, g, L) n K ch (-1) 0 ) (cwV 2 hts gL_told_X8_judged rfl rfl rfl mdX8_judged ⟨Nat.le_of_ble_eq_true rfl, Nat.le_of_ble_eq_true rfl⟩) hA hL rfl hl rfl (Nat.le_of_ble_eq_true rfl) dL_told_432 ⟨Nat.le_of_ble_eq_true rfl, Nat.le_of_ble_eq_true rfl⟩) hA hL (fun r_432_1 H locs hr_432_1 hA hL => ?_)
          replace hr_432_1 : r_432_1 = (-2) := hr_432_1
          subst hr_432_1
          refine lv_bipush (v := (-2)) hx hb dL_told_435 (by decide) ?_
          refine lv_icmp_ne (tgt := 462) hx hb dL_told_437 (by decide) (fun h9 => absurd (by decide) h9) (fun _ => ?_)
          refine lv_aload_n hx hb dL_told_440 rfl (lv_at hl 9 rfl) ?_
          refine lv_iconst (v := 0) hx hb dL_told_441 (by decide) ?_
          refine lv_iconst (v := 5) hx hb dL_told_442 (by decide) ?_
          refine lr_i (rL (rest := []) ⟨hx, hb, hml, hown, hts⟩ (LB_judged l G cA A o (u, v, f, g, L) n K ch 0 5 ) (cwV 2 hts gL_told_X8_judged rfl rfl rfl mdX8_judged ⟨Nat.le_of_ble_eq_true rfl, Nat.le_of_ble_eq_true rfl⟩) hA hL rfl hl rfl (Nat.le_of_ble_eq_true rfl) dL_told_443 ⟨Nat.le_of_ble_eq_true rfl, Nat.le_of_ble_eq_true rfl⟩) hA hL (fun r_443_1 H locs hr_443_1 hA hL => ?_)
          replace hr_443_1 : r_443_1 = (-2) := hr_443_1
          subst hr_443_1
          refine lv_bipush (v := (-2)) hx hb dL_told_446 (by decide) ?_
          refine lv_icmp_ne (tgt := 462) hx hb dL_told_448 (by decide) (fun h9 => absurd (by decide) h9) (fun _ => ?_)
          refine lv_aload_n hx hb dL_told_451 rfl (lv_at hl 9 rfl) ?_
          refine lw_i (rLS (rest := []) ⟨hx, hb, hml, hown, hts⟩ (hTh) (va_cwS 1 hts gL_told_L_thing rfl rfl rfl mdL_thing.2 ⟨Nat.le_of_ble_eq_true rfl, Nat.le_of_ble_eq_true rfl⟩) hA hL rfl hl rfl (Nat.le_of_ble_eq_true rfl) dL_told_452 ⟨Nat.le_of_ble_eq_true rfl, Nat.le_of_ble_eq_true rfl⟩) hA (fun r_452_1 _ H locs hr_452_1 hA hL => ?_)
          replace hL : LB G cA A o (u, v, f, g, L) n K ch H := hL
          subst hr_452_1
          refine lv_if_eq (tgt := 462) hx hb dL_told_455 (by decide) (fun h9 => absurd h9 (by decide)) (fun _ => ?_)
          refine lv_iconst (v := 1) hx hb dL_told_458 (by decide) ?_
          refine lv_goto (tgt := 463) hx hb dL_told_459 (by decide) ?_
          exact en_l (post := fun r (_ : Unit) => r = 1) (B := fun _ H => LB G cA A o (u, v, f, g, L) n K ch H) () hx hb hr hlocks hA rfl hL dL_told_463
        · skip
          have hlt : i < R := lt_of_nle hi (by omega) c_264_1
          have h8 := hT.2.2.2.2.2.2 i hlt
          refine lv_aload_n hx hb dL_told_267 rfl (lv_at hl 9 rfl) ?_
          refine lv_iload hx hb dL_told_268 (lv_at hl 0 rfl) ?_
          refine lv_iconst (v := 0) hx hb dL_told_270 (by decide) ?_
          refine lr_i (rL (rest := []) ⟨hx, hb, hml, hown, hts⟩ (LB_judged l G cA A o (u, v, f, g, L) n K ch (nI i) 0 ) (cwV 2 hts gL_told_X8_judged rfl rfl rfl mdX8_judged ⟨Nat.le_of_ble_eq_true rfl, Nat.le_of_ble_eq_true rfl⟩) hA hL rfl hl rfl (Nat.le_of_ble_eq_true rfl) dL_told_271 ⟨Nat.le_of_ble_eq_true rfl, Nat.le_of_ble_eq_true rfl⟩) hA hL (fun r_271_1 H locs hr_271_1 hA hL => ?_)
          replace hr_271_1 : r_271_1 = L (i * 5 + 0) := hr_271_1.trans (ju_at 0 (by decide) hlt hR10 h18)
          subst hr_271_1
          refine lv_if_lt (tgt := 326) hx hb dL_told_274 (by decide) (fun c_274_1 => absurd c_274_1 h8.1) (fun c_274_1 => ?_)
          refine lv_aload_n hx hb dL_told_277 rfl (lv_at hl 9 rfl) ?_
          refine lv_iload hx hb dL_told_278 (lv_at hl 0 rfl) ?_
          refine lv_iconst (v := 0) hx hb dL_told_280 (by decide) ?_
          refine lr_i (rL (rest := []) ⟨hx, hb, hml, hown, hts⟩ (LB_judged l G cA A o (u, v, f, g, L) n K ch (nI i) 0 ) (cwV 2 hts gL_told_X8_judged rfl rfl rfl mdX8_judged ⟨Nat.le_of_ble_eq_true rfl, Nat.le_of_ble_eq_true rfl⟩) hA hL rfl hl rfl (Nat.le_of_ble_eq_true rfl) dL_told_281 ⟨Nat.le_of_ble_eq_true rfl, Nat.le_of_ble_eq_true rfl⟩) hA hL (fun r_281_1 H locs hr_281_1 hA hL => ?_)
          replace hr_281_1 : r_281_1 = L (i * 5 + 0) := hr_281_1.trans (ju_at 0 (by decide) hlt hR10 h18)
          subst hr_281_1
          refine lv_iconst (v := 3) hx hb dL_told_284 (by decide) ?_
          refine lv_icmp_gt (tgt := 326) hx hb dL_told_285 (by decide) (fun c_285_1 => absurd c_285_1 h8.2.1) (fun c_285_1 => ?_)
          refine lv_aload_n hx hb dL_told_288 rfl (lv_at hl 9 rfl) ?_
          refine lv_iload hx hb dL_told_289 (lv_at hl 0 rfl) ?_
          refine lv_iconst (v := 2) hx hb dL_told_291 (by decide) ?_
          refine lr_i (rL (rest := []) ⟨hx, hb, hml, hown, hts⟩ (LB_judged l G cA A o (u, v, f, g, L) n K ch (nI i) 2 ) (cwV 2 hts gL_told_X8_judged rfl rfl rfl mdX8_judged ⟨Nat.le_of_ble_eq_true rfl, Nat.le_of_ble_eq_true rfl⟩) hA hL rfl hl rfl (Nat.le_of_ble_eq_true rfl) dL_told_292 ⟨Nat.le_of_ble_eq_true rfl, Nat.le_of_ble_eq_true rfl⟩) hA hL (fun r_292_1 H locs hr_292_1 hA hL => ?_)
          replace hr_292_1 : r_292_1 = L (i * 5 + 2) := hr_292_1.trans (ju_at 2 (by decide) hlt hR10 h18)
          subst hr_292_1
          refine lv_iconst (v := 1) hx hb dL_told_295 (by decide) ?_
          refine lv_icmp_lt (tgt := 326) hx hb dL_told_296 (by decide) (fun c_296_1 => absurd c_296_1 h8.2.2.1) (fun c_296_1 => ?_)
          refine lv_aload_n hx hb dL_told_299 rfl (lv_at hl 9 rfl) ?_
          refine lv_iload hx hb dL_told_300 (lv_at hl 0 rfl) ?_
          refine lv_iconst (v := 3) hx hb dL_told_302 (by decide) ?_
          refine lr_i (rL (rest := []) ⟨hx, hb, hml, hown, hts⟩ (LB_judged l G cA A o (u, v, f, g, L) n K ch (nI i) 3 ) (cwV 2 hts gL_told_X8_judged rfl rfl rfl mdX8_judged ⟨Nat.le_of_ble_eq_true rfl, Nat.le_of_ble_eq_true rfl⟩) hA hL rfl hl rfl (Nat.le_of_ble_eq_true rfl) dL_told_303 ⟨Nat.le_of_ble_eq_true rfl, Nat.le_of_ble_eq_true rfl⟩) hA hL (fun r_303_1 H locs hr_303_1 hA hL => ?_)
          replace hr_303_1 : r_303_1 = L (i * 5 + 3) := hr_303_1.trans (ju_at 3 (by decide) hlt hR10 h18)
          subst hr_303_1
          refine lv_iconst (v := 1) hx hb dL_told_306 (by decide) ?_
          refine lv_icmp_lt (tgt := 326) hx hb dL_told_307 (by decide) (fun c_307_1 => absurd c_307_1 h8.2.2.2.1) (fun c_307_1 => ?_)
          refine lv_aload_n hx hb dL_told_310 rfl (lv_at hl 9 rfl) ?_
          refine lv_iload hx hb dL_told_311 (lv_at hl 0 rfl) ?_
          refine lv_iconst (v := 3) hx hb dL_told_313 (by decide) ?_
          refine lr_i (rL (rest := []) ⟨hx, hb, hml, hown, hts⟩ (LB_judged l G cA A o (u, v, f, g, L) n K ch (nI i) 3 ) (cwV 2 hts gL_told_X8_judged rfl rfl rfl mdX8_judged ⟨Nat.le_of_ble_eq_true rfl, Nat.le_of_ble_eq_true rfl⟩) hA hL rfl hl rfl (Nat.le_of_ble_eq_true rfl) dL_told_314 ⟨Nat.le_of_ble_eq_true rfl, Nat.le_of_ble_eq_true rfl⟩) hA hL (fun r_314_1 H locs hr_314_1 hA hL => ?_)
          replace hr_314_1 : r_314_1 = L (i * 5 + 3) := hr_314_1.trans (ju_at 3 (by decide) hlt hR10 h18)
          subst hr_314_1
          refine lv_bipush (v := 7) hx hb dL_told_317 (by decide) ?_
          refine lv_icmp_gt (tgt := 326) hx hb dL_told_319 (by decide) (fun c_319_1 => absurd c_319_1 h8.2.2.2.2.1) (fun c_319_1 => ?_)
          refine lv_iconst (v := 1) hx hb dL_told_322 (by decide) ?_
          refine lv_goto (tgt := 327) hx hb dL_told_323 (by decide) ?_
          refine lv_istore (lv' := [(10, .int 1), (9, .int (nI i)), (8, .int (nI R)), (7, .int (nI J)), (6, .int 1), (5, .int 0), (4, .int 1), (3, .int 1), (2, .float (f 7)), (1, .int 3), (0, .ref o)]) hx hb dL_told_327 hl (by decide) rfl (fun ls hl => ?_)
          refine lv_aload_n hx hb dL_told_329 rfl (lv_at hl 10 rfl) ?_
          refine lv_iload hx hb dL_told_330 (lv_at hl 1 rfl) ?_
          refine lv_iconst (v := 4) hx hb dL_told_332 (by decide) ?_
          refine lr_i (rL (rest := []) ⟨hx, hb, hml, hown, hts⟩ (LB_judged l G cA A o (u, v, f, g, L) n K ch (nI i) 4 ) (cwV 2 hts gL_told_X8_judged rfl rfl rfl mdX8_judged ⟨Nat.le_of_ble_eq_true rfl, Nat.le_of_ble_eq_true rfl⟩) hA hL rfl hl rfl (Nat.le_of_ble_eq_true rfl) dL_told_333 ⟨Nat.le_of_ble_eq_true rfl, Nat.le_of_ble_eq_true rfl⟩) hA hL (fun r_333_1 H locs hr_333_1 hA hL => ?_)
          replace hr_333_1 : r_333_1 = L (i * 5 + 4) := hr_333_1.trans (ju_at 4 (by decide) hlt hR10 h18)
          subst hr_333_1
          refine lv_aload_n hx hb dL_told_336 rfl (lv_at hl 10 rfl) ?_
          refine lv_iload hx hb dL_told_337 (lv_at hl 1 rfl) ?_
          refine lv_iconst (v := 1) hx hb dL_told_339 (by decide) ?_
          refine lr_i (rL (rest := [.int (L (i * 5 + 4))]) ⟨hx, hb, hml, hown, hts⟩ (LB_judged l G cA A o (u, v, f, g, L) n K ch (nI i) 1 ) (cwV 2 hts gL_told_X8_judged rfl rfl rfl mdX8_judged ⟨Nat.le_of_ble_eq_true rfl, Nat.le_of_ble_eq_true rfl⟩) hA hL rfl hl rfl (Nat.le_of_ble_eq_true rfl) dL_told_340 ⟨Nat.le_of_ble_eq_true rfl, Nat.le_of_ble_eq_true rfl⟩) hA hL (fun r_340_1 H locs hr_340_1 hA hL => ?_)
          replace hr_340_1 : r_340_1 = L (i * 5 + 1) := hr_340_1.trans (ju_at 1 (by decide) hlt hR10 h18)
          subst hr_340_1
          refine lv_aload_n hx hb dL_told_343 rfl (lv_at hl 10 rfl) ?_
          refine lv_iload hx hb dL_told_344 (lv_at hl 1 rfl) ?_
          refine lv_iconst (v := 2) hx hb dL_told_346 (by decide) ?_
          refine lr_i (rL (rest := [.int (L (i * 5 + 1)), .int (L (i * 5 + 4))]) ⟨hx, hb, hml, hown, hts⟩ (LB_judged l G cA A o (u, v, f, g, L) n K ch (nI i) 2 ) (cwV 2 hts gL_told_X8_judged rfl rfl rfl mdX8_judged ⟨Nat.le_of_ble_eq_true rfl, Nat.le_of_ble_eq_true rfl⟩) hA hL rfl hl rfl (Nat.le_of_ble_eq_true rfl) dL_told_347 ⟨Nat.le_of_ble_eq_true rfl, Nat.le_of_ble_eq_true rfl⟩) hA hL (fun r_347_1 H locs hr_347_1 hA hL => ?_)
          replace hr_347_1 : r_347_1 = L (i * 5 + 2) := hr_347_1.trans (ju_at 2 (by decide) hlt hR10 h18)
          subst hr_347_1
          refine lv_iadd hx hb dL_told_350 ?_
          refine lv_icmp_lt (tgt := 382) hx hb dL_told_351 (by decide) (fun c_351_1 => absurd c_351_1 h8.2.2.2.2.2.1) (fun c_351_1 => ?_)
          refine lv_iload hx hb dL_told_354 (lv_at hl 1 rfl) ?_
          refine lv_if_eq (tgt := 378) hx hb dL_told_356 (by decide) (fun c_356_1 => ?_) (fun c_356_1 => ?_)
          · skip
            refine lv_iconst (v := 1) hx hb dL_told_378 (by decide) ?_
            refine lv_goto (tgt := 383) hx hb dL_told_379 (by decide) ?_
            refine lv_istore (lv' := [(11, .int 1), (10, .int 1), (9, .int (nI i)), (8, .int (nI R)), (7, .int (nI J)), (6, .int 1), (5, .int 0), (4, .int 1), (3, .int 1), (2, .float (f 7)), (1, .int 3), (0, .ref o)]) hx hb dL_told_383 hl (by decide) rfl (fun ls hl => ?_)
            refine lv_iload hx hb dL_told_385 (lv_at hl 1 rfl) ?_
            refine lv_if_eq (tgt := 395) hx hb dL_told_387 (by decide) (fun h9 => absurd h9 (by decide)) (fun _ => ?_)
            refine lv_iload hx hb dL_told_390 (lv_at hl 0 rfl) ?_
            refine lv_if_ne (tgt := 397) hx hb dL_told_392 (by decide) (fun _ => ?_) (fun h9 => absurd h9 (by decide))
            refine lv_iinc (v := ((nI i) + 1)) (lv' := [(9, .int ((nI i) + 1)), (11, .int 1), (10, .int 1), (8, .int (nI R)), (7, .int (nI J)), (6, .int 1), (5, .int 0), (4, .int 1), (3, .int 1), (2, .float (f 7)), (1, .int 3), (0, .ref o)]) hx hb dL_told_397 hl (k := 2) rfl rfl (by decide) rfl (fun ls hl => ?_)
            refine lv_goto (tgt := 260) hx hb dL_told_400 (by decide) ?_
            replace hl : lv_has ls 12 [(9, .int (nI (i + 1))), (11, .int 1), (10, .int 1), (8, .int (nI R)), (7, .int (nI J)), (6, .int 1), (5, .int 0), (4, .int 1), (3, .int 1), (2, .float (f 7)), (1, .int 3), (0, .ref o)] := by rw [← nI_1]; exact hl
            exact ih (i + 1) _ _ _ (by omega) (by omega) hA hL (lv_sub hl [0, 3, 4, 5, 6, 7, 8, 9, 10, 11] rfl)
          · skip
            refine lv_aload_n hx hb dL_told_359 rfl (lv_at hl 10 rfl) ?_
            refine lv_iload hx hb dL_told_360 (lv_at hl 1 rfl) ?_
            refine lv_iconst (v := 4) hx hb dL_told_362 (by decide) ?_
            refine lr_i (rL (rest := []) ⟨hx, hb, hml, hown, hts⟩ (LB_judged l G cA A o (u, v, f, g, L) n K ch (nI i) 4 ) (cwV 2 hts gL_told_X8_judged rfl rfl rfl mdX8_judged ⟨Nat.le_of_ble_eq_true rfl, Nat.le_of_ble_eq_true rfl⟩) hA hL rfl hl rfl (Nat.le_of_ble_eq_true rfl) dL_told_363 ⟨Nat.le_of_ble_eq_true rfl, Nat.le_of_ble_eq_true rfl⟩) hA hL (fun r_363_1 H locs hr_363_1 hA hL => ?_)
            replace hr_363_1 : r_363_1 = L (i * 5 + 4) := hr_363_1.trans (ju_at 4 (by decide) hlt hR10 h18)
            subst hr_363_1
            refine lv_aload_n hx hb dL_told_366 rfl (lv_at hl 10 rfl) ?_
            refine lv_iload hx hb dL_told_367 (lv_at hl 1 rfl) ?_
            refine lv_iconst (v := 1) hx hb dL_told_369 (by decide) ?_
            refine lv_isub hx hb dL_told_370 ?_
            refine lv_iconst (v := 1) hx hb dL_told_371 (by decide) ?_
            refine lr_i (rL (rest := [.int (L (i * 5 + 4))]) ⟨hx, hb, hml, hown, hts⟩ (LB_judged l G cA A o (u, v, f, g, L) n K ch ((nI i) - 1) 1 ) (cwV 2 hts gL_told_X8_judged rfl rfl rfl mdX8_judged ⟨Nat.le_of_ble_eq_true rfl, Nat.le_of_ble_eq_true rfl⟩) hA hL rfl hl rfl (Nat.le_of_ble_eq_true rfl) dL_told_372 ⟨Nat.le_of_ble_eq_true rfl, Nat.le_of_ble_eq_true rfl⟩) hA hL (fun r_372_1 H locs hr_372_1 hA hL => ?_)
            rw [(pred_of c_356_1).2] at hr_372_1
            replace hr_372_1 : r_372_1 = L ((i - 1) * 5 + 1) := hr_372_1.trans (ju_at 1 (by decide) (by omega) hR10 h18)
            subst hr_372_1
            refine lv_icmp_ge (tgt := 382) hx hb dL_told_375 (by decide) (fun c_375_1 => absurd c_375_1 (h8.2.2.2.2.2.2 (pred_of c_356_1).1)) (fun c_375_1 => ?_)
            refine lv_iconst (v := 1) hx hb dL_told_378 (by decide) ?_
            refine lv_goto (tgt := 383) hx hb dL_told_379 (by decide) ?_
            refine lv_istore (lv' := [(11, .int 1), (10, .int 1), (9, .int (nI i)), (8, .int (nI R)), (7, .int (nI J)), (6, .int 1), (5, .int 0), (4, .int 1), (3, .int 1), (2, .float (f 7)), (1, .int 3), (0, .ref o)]) hx hb dL_told_383 hl (by decide) rfl (fun ls hl => ?_)
            refine lv_iload hx hb dL_told_385 (lv_at hl 1 rfl) ?_
            refine lv_if_eq (tgt := 395) hx hb dL_told_387 (by decide) (fun h9 => absurd h9 (by decide)) (fun _ => ?_)
            refine lv_iload hx hb dL_told_390 (lv_at hl 0 rfl) ?_
            refine lv_if_ne (tgt := 397) hx hb dL_told_392 (by decide) (fun _ => ?_) (fun h9 => absurd h9 (by decide))
            refine lv_iinc (v := ((nI i) + 1)) (lv' := [(9, .int ((nI i) + 1)), (11, .int 1), (10, .int 1), (8, .int (nI R)), (7, .int (nI J)), (6, .int 1), (5, .int 0), (4, .int 1), (3, .int 1), (2, .float (f 7)), (1, .int 3), (0, .ref o)]) hx hb dL_told_397 hl (k := 2) rfl rfl (by decide) rfl (fun ls hl => ?_)
            refine lv_goto (tgt := 260) hx hb dL_told_400 (by decide) ?_
            replace hl : lv_has ls 12 [(9, .int (nI (i + 1))), (11, .int 1), (10, .int 1), (8, .int (nI R)), (7, .int (nI J)), (6, .int 1), (5, .int 0), (4, .int 1), (3, .int 1), (2, .float (f 7)), (1, .int 3), (0, .ref o)] := by rw [← nI_1]; exact hl
            exact ih (i + 1) _ _ _ (by omega) (by omega) hA hL (lv_sub hl [0, 3, 4, 5, 6, 7, 8, 9, 10, 11] rfl)
  · skip
    refine lv_iconst (v := 1) hx hb dL_told_133 (by decide) ?_
    refine lv_goto (tgt := 138) hx hb dL_told_134 (by decide) ?_
    refine lv_istore (lv' := [(5, .int 1), (4, .int 1), (3, .int 1), (2, .float (f 7)), (1, .int 3), (0, .ref o)]) hx hb dL_told_138 hl (by decide) rfl (fun ls hl => ?_)
    refine lv_aload_n hx hb dL_told_140 rfl (lv_at hl 5 rfl) ?_
    refine lv_iconst (v := 3) hx hb dL_told_141 (by decide) ?_
    refine lr_f (rL (rest := []) ⟨hx, hb, hml, hown, hts⟩ (LB_speed l G cA A o (u, v, f, g, L) n K ch 3) (cwV 1 hts gL_told_X8_speed rfl rfl rfl mdX8_speed ⟨Nat.le_of_ble_eq_true rfl, Nat.le_of_ble_eq_true rfl⟩) hA hL rfl hl rfl (Nat.le_of_ble_eq_true rfl) dL_told_142 ⟨Nat.le_of_ble_eq_true rfl, Nat.le_of_ble_eq_true rfl⟩) hA hL (fun r_142_1 H locs hr_142_1 hA hL => ?_)
    replace hr_142_1 : r_142_1 = spF u (scF v g) := hr_142_1
    rw [show spF u (scF v g) = u 2 from by unfold scF; rw [if_neg c_130]; rfl] at hr_142_1
    subst hr_142_1
    refine lv_iload hx hb dL_told_145 (lv_at hl 0 rfl) ?_
    refine lv_if_eq (tgt := 158) hx hb dL_told_147 (by decide) (fun h9 => absurd h9 (by decide)) (fun _ => ?_)
    refine lv_aload_n hx hb dL_told_150 rfl (lv_at hl 5 rfl) ?_
    refine lv_iconst (v := 2) hx hb dL_told_151 (by decide) ?_
    refine lr_f (rL (rest := [.float (u 2)]) ⟨hx, hb, hml, hown, hts⟩ (LB_speed l G cA A o (u, v, f, g, L) n K ch 2) (cwV 1 hts gL_told_X8_speed rfl rfl rfl mdX8_speed ⟨Nat.le_of_ble_eq_true rfl, Nat.le_of_ble_eq_true rfl⟩) hA hL rfl hl rfl (Nat.le_of_ble_eq_true rfl) dL_told_152 ⟨Nat.le_of_ble_eq_true rfl, Nat.le_of_ble_eq_true rfl⟩) hA hL (fun r_152 H locs hr_152 hA hL => ?_)
    replace hr_152 : r_152 = u 2 := hr_152
    subst hr_152
    refine lv_goto (tgt := 163) hx hb dL_told_155 (by decide) ?_
    refine lv_fcmp hx hb dL_told_163 ?_
    refine lv_if_ne (tgt := 213) hx hb dL_told_164 (by decide) (fun c_164_1 => absurd hT.2.2.2.2.1.2 c_164_1) (fun c_164_1 => ?_)
    refine lv_aload_n hx hb dL_told_167 rfl (lv_at hl 5 rfl) ?_
    refine lv_iconst (v := 4) hx hb dL_told_168 (by decide) ?_
    refine lr_f (rL (rest := []) ⟨hx, hb, hml, hown, hts⟩ (LB_speed l G cA A o (u, v, f, g, L) n K ch 4) (cwV 1 hts gL_told_X8_speed rfl rfl rfl mdX8_speed ⟨Nat.le_of_ble_eq_true rfl, Nat.le_of_ble_eq_true rfl⟩) hA hL rfl hl rfl (Nat.le_of_ble_eq_true rfl) dL_told_169 ⟨Nat.le_of_ble_eq_true rfl, Nat.le_of_ble_eq_true rfl⟩) hA hL (fun r_169_1 H locs hr_169_1 hA hL => ?_)
    replace hr_169_1 : r_169_1 = nanF := hr_169_1
    subst hr_169_1
    refine lr_i (rS (rest := []) ⟨hx, hb, hml, hown, hts⟩ (cL_isNone_ok l G cA nanF) (va_cwS 1 hts gL_told_L_isNone rfl rfl rfl mdL_isNone.2 ⟨Nat.le_of_ble_eq_true rfl, Nat.le_of_ble_eq_true rfl⟩) hA.1 empP empD rfl hl rfl (Nat.le_of_ble_eq_true rfl) dL_told_172 ⟨Nat.le_of_ble_eq_true rfl, Nat.le_of_ble_eq_true rfl⟩) hA hL (fun r_172_1 H locs hr_172_1 hA hL => ?_)
    rw [nn_nan] at hr_172_1
    subst hr_172_1
    refine lv_if_eq (tgt := 213) hx hb dL_told_175 (by decide) (fun h9 => absurd h9 (by decide)) (fun _ => ?_)
    refine lv_aload_n hx hb dL_told_178 rfl (lv_at hl 5 rfl) ?_
    refine lv_iconst (v := 4) hx hb dL_told_179 (by decide) ?_
    refine lr_f (rL (rest := []) ⟨hx, hb, hml, hown, hts⟩ (LB_weight l G cA A o (u, v, f, g, L) n K ch 4 ) (cwV 1 hts gL_told_X8_weight rfl rfl rfl mdX8_weight ⟨Nat.le_of_ble_eq_true rfl, Nat.le_of_ble_eq_true rfl⟩) hA hL rfl hl rfl (Nat.le_of_ble_eq_true rfl) dL_told_180 ⟨Nat.le_of_ble_eq_true rfl, Nat.le_of_ble_eq_true rfl⟩) hA hL (fun r_180_1 H locs hr_180_1 hA hL => ?_)
    replace hr_180_1 : r_180_1 = nanF := hr_180_1
    subst hr_180_1
    refine lr_i (rS (rest := []) ⟨hx, hb, hml, hown, hts⟩ (cL_isNone_ok l G cA nanF) (va_cwS 1 hts gL_told_L_isNone rfl rfl rfl mdL_isNone.2 ⟨Nat.le_of_ble_eq_true rfl, Nat.le_of_ble_eq_true rfl⟩) hA.1 empP empD rfl hl rfl (Nat.le_of_ble_eq_true rfl) dL_told_183 ⟨Nat.le_of_ble_eq_true rfl, Nat.le_of_ble_eq_true rfl⟩) hA hL (fun r_183_1 H locs hr_183_1 hA hL => ?_)
    rw [nn_nan] at hr_183_1
    subst hr_183_1
    refine lv_if_eq (tgt := 213) hx hb dL_told_186 (by decide) (fun h9 => absurd h9 (by decide)) (fun _ => ?_)
    refine lv_aload_n hx hb dL_told_189 rfl (lv_at hl 5 rfl) ?_
    refine lv_iconst (v := (-1)) hx hb dL_told_190 (by decide) ?_
    refine lr_f (rL (rest := []) ⟨hx, hb, hml, hown, hts⟩ (LB_score l G cA A o (u, v, f, g, L) n K ch (-1) hLk (fun h9 => absurd (by decide) h9)) (cwV 1 hts gL_told_X8_score rfl rfl rfl mdX8_score ⟨Nat.le_of_ble_eq_true rfl, Nat.le_of_ble_eq_true rfl⟩) hA hL rfl hl rfl (Nat.le_of_ble_eq_true rfl) dL_told_191 ⟨Nat.le_of_ble_eq_true rfl, Nat.le_of_ble_eq_true rfl⟩) hA hL (fun r_191_1 H locs hr_191_1 hA hL => ?_)
    replace hr_191_1 : r_191_1 = nanF := hr_191_1
    subst hr_191_1
    refine lr_i (rS (rest := []) ⟨hx, hb, hml, hown, hts⟩ (cL_isNone_ok l G cA nanF) (va_cwS 1 hts gL_told_L_isNone rfl rfl rfl mdL_isNone.2 ⟨Nat.le_of_ble_eq_true rfl, Nat.le_of_ble_eq_true rfl⟩) hA.1 empP empD rfl hl rfl (Nat.le_of_ble_eq_true rfl) dL_told_194 ⟨Nat.le_of_ble_eq_true rfl, Nat.le_of_ble_eq_true rfl⟩) hA hL (fun r_194_1 H locs hr_194_1 hA hL => ?_)
    rw [nn_nan] at hr_194_1
    subst hr_194_1
    refine lv_if_eq (tgt := 213) hx hb dL_told_197 (by decide) (fun h9 => absurd h9 (by decide)) (fun _ => ?_)
    refine lv_aload_n hx hb dL_told_200 rfl (lv_at hl 5 rfl) ?_
    refine lv_iconst (v := 5) hx hb dL_told_201 (by decide) ?_
    refine lr_i (rL (rest := []) ⟨hx, hb, hml, hown, hts⟩ (LB_number l G cA A o (u, v, f, g, L) n K ch 5 ) (cwV 1 hts gL_told_X8_number rfl rfl rfl mdX8_number ⟨Nat.le_of_ble_eq_true rfl, Nat.le_of_ble_eq_true rfl⟩) hA hL rfl hl rfl (Nat.le_of_ble_eq_true rfl) dL_told_202 ⟨Nat.le_of_ble_eq_true rfl, Nat.le_of_ble_eq_true rfl⟩) hA hL (fun r_202_1 H locs hr_202_1 hA hL => ?_)
    replace hr_202_1 : r_202_1 = (-1) := hr_202_1
    subst hr_202_1
    refine lv_iconst (v := (-1)) hx hb dL_told_205 (by decide) ?_
    refine lv_icmp_ne (tgt := 213) hx hb dL_told_206 (by decide) (fun h9 => absurd (by decide) h9) (fun _ => ?_)
    refine lv_iconst (v := 1) hx hb dL_told_209 (by decide) ?_
    refine lv_goto (tgt := 214) hx hb dL_told_210 (by decide) ?_
    refine lv_istore (lv' := [(6, .int 1), (5, .int 1), (4, .int 1), (3, .int 1), (2, .float (f 7)), (1, .int 3), (0, .ref o)]) hx hb dL_told_214 hl (by decide) rfl (fun ls hl => ?_)
    refine lv_aload_n hx hb dL_told_216 rfl (lv_at hl 6 rfl) ?_
    refine lv_iconst (v := 1) hx hb dL_told_217 (by decide) ?_
    refine lr_i (rL (rest := []) ⟨hx, hb, hml, hown, hts⟩ (LB_count l G cA A o (u, v, f, g, L) n K ch 1 ) (cwV 1 hts gL_told_X8_count rfl rfl rfl mdX8_count ⟨Nat.le_of_ble_eq_true rfl, Nat.le_of_ble_eq_true rfl⟩) hA hL rfl hl rfl (Nat.le_of_ble_eq_true rfl) dL_told_218 ⟨Nat.le_of_ble_eq_true rfl, Nat.le_of_ble_eq_true rfl⟩) hA hL (fun r_218_1 H locs hr_218_1 hA hL => ?_)
    replace hr_218_1 : r_218_1 = g 19 := hr_218_1
    subst hr_218_1
    refine lv_aload_n hx hb dL_told_221 rfl (lv_at hl 6 rfl) ?_
    refine lv_iconst (v := 2) hx hb dL_told_222 (by decide) ?_
    refine lr_i (rL (rest := [.int (g 19)]) ⟨hx, hb, hml, hown, hts⟩ (LB_count l G cA A o (u, v, f, g, L) n K ch 2 ) (cwV 1 hts gL_told_X8_count rfl rfl rfl mdX8_count ⟨Nat.le_of_ble_eq_true rfl, Nat.le_of_ble_eq_true rfl⟩) hA hL rfl hl rfl (Nat.le_of_ble_eq_true rfl) dL_told_223 ⟨Nat.le_of_ble_eq_true rfl, Nat.le_of_ble_eq_true rfl⟩) hA hL (fun r_223_1 H locs hr_223_1 hA hL => ?_)
    replace hr_223_1 : r_223_1 = g 20 := hr_223_1
    subst hr_223_1
    refine lv_iadd hx hb dL_told_226 ?_
    refine lv_aload_n hx hb dL_told_227 rfl (lv_at hl 6 rfl) ?_
    refine lv_iconst (v := 3) hx hb dL_told_228 (by decide) ?_
    refine lr_i (rL (rest := [.int ((g 19) + (g 20))]) ⟨hx, hb, hml, hown, hts⟩ (LB_count l G cA A o (u, v, f, g, L) n K ch 3 ) (cwV 1 hts gL_told_X8_count rfl rfl rfl mdX8_count ⟨Nat.le_of_ble_eq_true rfl, Nat.le_of_ble_eq_true rfl⟩) hA hL rfl hl rfl (Nat.le_of_ble_eq_true rfl) dL_told_229 ⟨Nat.le_of_ble_eq_true rfl, Nat.le_of_ble_eq_true rfl⟩) hA hL (fun r_229_1 H locs hr_229_1 hA hL => ?_)
    replace hr_229_1 : r_229_1 = g 21 := hr_229_1
    subst hr_229_1
    refine lv_iadd hx hb dL_told_232 ?_
    refine lv_aload_n hx hb dL_told_233 rfl (lv_at hl 6 rfl) ?_
    refine lv_iconst (v := 4) hx hb dL_told_234 (by decide) ?_
    refine lr_i (rL (rest := [.int (((g 19) + (g 20)) + (g 21))]) ⟨hx, hb, hml, hown, hts⟩ (LB_count l G cA A o (u, v, f, g, L) n K ch 4 ) (cwV 1 hts gL_told_X8_count rfl rfl rfl mdX8_count ⟨Nat.le_of_ble_eq_true rfl, Nat.le_of_ble_eq_true rfl⟩) hA hL rfl hl rfl (Nat.le_of_ble_eq_true rfl) dL_told_235 ⟨Nat.le_of_ble_eq_true rfl, Nat.le_of_ble_eq_true rfl⟩) hA hL (fun r_235_1 H locs hr_235_1 hA hL => ?_)
    replace hr_235_1 : r_235_1 = g 22 := hr_235_1
    subst hr_235_1
    refine lv_iadd hx hb dL_told_238 ?_
    rw [hJ]
    refine lv_istore (lv' := [(7, .int (nI J)), (6, .int 1), (5, .int 1), (4, .int 1), (3, .int 1), (2, .float (f 7)), (1, .int 3), (0, .ref o)]) hx hb dL_told_239 hl (by decide) rfl (fun ls hl => ?_)
    refine lv_iload hx hb dL_told_241 (lv_at hl 0 rfl) ?_
    refine lv_bipush (v := 10) hx hb dL_told_243 (by decide) ?_
    refine lv_icmp_ge (tgt := 253) hx hb dL_told_245 (by decide) (fun c_245_1 => ?_) (fun c_245_1 => ?_)
    · skip
      refine lv_bipush (v := 10) hx hb dL_told_253 (by decide) ?_
      have hRR : R = 10 := by rw [hRd, if_neg (by have := (nI_leI (a := 10) (b := J) (by decide) hJ31).mp c_245_1; omega)]
      refine W.eq (g2 := F0 m 255 ls [.int (nI R)]) (by rw [hRR]; rfl) ?_
      refine lv_istore (lv' := [(8, .int (nI R)), (7, .int (nI J)), (6, .int 1), (5, .int 1), (4, .int 1), (3, .int 1), (2, .float (f 7)), (1, .int 3), (0, .ref o)]) hx hb dL_told_255 hl (by decide) rfl (fun ls hl => ?_)
      refine lv_iconst (v := 0) hx hb dL_told_257 (by decide) ?_
      refine lv_istore (lv' := [(9, .int 0), (8, .int (nI R)), (7, .int (nI J)), (6, .int 1), (5, .int 1), (4, .int 1), (3, .int 1), (2, .float (f 7)), (1, .int 3), (0, .ref o)]) hx hb dL_told_258 hl (by decide) rfl (fun ls hl => ?_)
      obtain ⟨i, hi0⟩ : ∃ i : Nat, i = 0 := ⟨_, rfl⟩
      replace hl : lv_has ls 12 [(9, .int (nI i)), (8, .int (nI R)), (7, .int (nI J)), (6, .int 1), (5, .int 1), (4, .int 1), (3, .int 1), (2, .float (f 7)), (1, .int 3), (0, .ref o)] := by rw [hi0]; exact hl
      obtain ⟨nn, hn⟩ : ∃ nn : Nat, R < i + nn := ⟨R + 1, by omega⟩
      have hi : i ≤ R := by omega
      clear hi0
      revert hl
      revert hL
      revert hA
      revert hi
      revert hn
      revert ls
      revert locs
      revert H
      revert i
      induction nn with
      | zero => intro i H locs ls hn hi; exact absurd hn (by omega)
      | succ nn ih =>
        intro i H locs ls hn hi hA hL hl
        refine lv_iload hx hb dL_told_260 (lv_at hl 0 rfl) ?_
        refine lv_iload hx hb dL_told_262 (lv_at hl 1 rfl) ?_
        refine lv_icmp_ge (tgt := 403) hx hb dL_told_264 (by decide) (fun c_264_2 => ?_) (fun c_264_2 => ?_)
        · skip
          obtain rfl : R = i := (eq_of_le hi (by omega) c_264_2).symm
          refine lv_iload_n hx hb dL_told_403 rfl (lv_at hl 6 rfl) ?_
          refine lv_if_eq (tgt := 462) hx hb dL_told_404 (by decide) (fun h9 => absurd h9 (by decide)) (fun _ => ?_)
          refine lv_iload hx hb dL_told_407 (lv_at hl 5 rfl) ?_
          refine lv_if_eq (tgt := 462) hx hb dL_told_409 (by decide) (fun h9 => absurd h9 (by decide)) (fun _ => ?_)
          refine lv_iload hx hb dL_told_412 (lv_at hl 3 rfl) ?_
          refine lv_if_eq (tgt := 462) hx hb dL_told_414 (by decide) (fun h9 => absurd h9 (by decide)) (fun _ => ?_)
          refine lv_aload_n hx hb dL_told_417 rfl (lv_at hl 9 rfl) ?_
          refine lv_iload hx hb dL_told_418 (lv_at hl 1 rfl) ?_
          refine lv_iconst (v := 0) hx hb dL_told_420 (by decide) ?_
          refine lr_i (rL (rest := []) ⟨hx, hb, hml, hown, hts⟩ (LB_judged l G cA A o (u, v, f, g, L) n K ch (nI R) 0 ) (cwV 2 hts gL_told_X8_judged rfl rfl rfl mdX8_judged ⟨Nat.le_of_ble_eq_true rfl, Nat.le_of_ble_eq_true rfl⟩) hA hL rfl hl rfl (Nat.le_of_ble_eq_true rfl) dL_told_421 ⟨Nat.le_of_ble_eq_true rfl, Nat.le_of_ble_eq_true rfl⟩) hA hL (fun r_421_2 H locs hr_421_2 hA hL => ?_)
          rw [ju_end hR10 h18] at hr_421_2
          subst hr_421_2
          refine lv_bipush (v := (-5)) hx hb dL_told_424 (by decide) ?_
          refine lv_icmp_ne (tgt := 462) hx hb dL_told_426 (by decide) (fun h9 => absurd (by decide) h9) (fun _ => ?_)
          refine lv_aload_n hx hb dL_told_429 rfl (lv_at hl 9 rfl) ?_
          refine lv_iconst (v := (-1)) hx hb dL_told_430 (by decide) ?_
          refine lv_iconst (v := 0) hx hb dL_told_431 (by decide) ?_
          refine lr_i (rL (rest := []) ⟨hx, hb, hml, hown, hts⟩ (LB_judged l G cA A o (u, v, f, g, L) n K ch (-1) 0 ) (cwV 2 hts gL_told_X8_judged rfl rfl rfl mdX8_judged ⟨Nat.le_of_ble_eq_true rfl, Nat.le_of_ble_eq_true rfl⟩) hA hL rfl hl rfl (Nat.le_of_ble_eq_true rfl) dL_told_432 ⟨Nat.le_of_ble_eq_true rfl, Nat.le_of_ble_eq_true rfl⟩) hA hL (fun r_432_2 H locs hr_432_2 hA hL => ?_)
          replace hr_432_2 : r_432_2 = (-2) := hr_432_2
          subst hr_432_2
          refine lv_bipush (v := (-2)) hx hb dL_told_435 (by decide) ?_
          refine lv_icmp_ne (tgt := 462) hx hb dL_told_437 (by decide) (fun h9 => absurd (by decide) h9) (fun _ => ?_)
          refine lv_aload_n hx hb dL_told_440 rfl (lv_at hl 9 rfl) ?_
          refine lv_iconst (v := 0) hx hb dL_told_441 (by decide) ?_
          refine lv_iconst (v := 5) hx hb dL_told_442 (by decide) ?_
          refine lr_i (rL (rest := []) ⟨hx, hb, hml, hown, hts⟩ (LB_judged l G cA A o (u, v, f, g, L) n K ch 0 5 ) (cwV 2 hts gL_told_X8_judged rfl rfl rfl mdX8_judged ⟨Nat.le_of_ble_eq_true rfl, Nat.le_of_ble_eq_true rfl⟩) hA hL rfl hl rfl (Nat.le_of_ble_eq_true rfl) dL_told_443 ⟨Nat.le_of_ble_eq_true rfl, Nat.le_of_ble_eq_true rfl⟩) hA hL (fun r_443_2 H locs hr_443_2 hA hL => ?_)
          replace hr_443_2 : r_443_2 = (-2) := hr_443_2
          subst hr_443_2
          refine lv_bipush (v := (-2)) hx hb dL_told_446 (by decide) ?_
          refine lv_icmp_ne (tgt := 462) hx hb dL_told_448 (by decide) (fun h9 => absurd (by decide) h9) (fun _ => ?_)
          refine lv_aload_n hx hb dL_told_451 rfl (lv_at hl 9 rfl) ?_
          refine lw_i (rLS (rest := []) ⟨hx, hb, hml, hown, hts⟩ (hTh) (va_cwS 1 hts gL_told_L_thing rfl rfl rfl mdL_thing.2 ⟨Nat.le_of_ble_eq_true rfl, Nat.le_of_ble_eq_true rfl⟩) hA hL rfl hl rfl (Nat.le_of_ble_eq_true rfl) dL_told_452 ⟨Nat.le_of_ble_eq_true rfl, Nat.le_of_ble_eq_true rfl⟩) hA (fun r_452_2 _ H locs hr_452_2 hA hL => ?_)
          replace hL : LB G cA A o (u, v, f, g, L) n K ch H := hL
          subst hr_452_2
          refine lv_if_eq (tgt := 462) hx hb dL_told_455 (by decide) (fun h9 => absurd h9 (by decide)) (fun _ => ?_)
          refine lv_iconst (v := 1) hx hb dL_told_458 (by decide) ?_
          refine lv_goto (tgt := 463) hx hb dL_told_459 (by decide) ?_
          exact en_l (post := fun r (_ : Unit) => r = 1) (B := fun _ H => LB G cA A o (u, v, f, g, L) n K ch H) () hx hb hr hlocks hA rfl hL dL_told_463
        · skip
          have hlt : i < R := lt_of_nle hi (by omega) c_264_2
          have h8 := hT.2.2.2.2.2.2 i hlt
          refine lv_aload_n hx hb dL_told_267 rfl (lv_at hl 9 rfl) ?_
          refine lv_iload hx hb dL_told_268 (lv_at hl 0 rfl) ?_
          refine lv_iconst (v := 0) hx hb dL_told_270 (by decide) ?_
          refine lr_i (rL (rest := []) ⟨hx, hb, hml, hown, hts⟩ (LB_judged l G cA A o (u, v, f, g, L) n K ch (nI i) 0 ) (cwV 2 hts gL_told_X8_judged rfl rfl rfl mdX8_judged ⟨Nat.le_of_ble_eq_true rfl, Nat.le_of_ble_eq_true rfl⟩) hA hL rfl hl rfl (Nat.le_of_ble_eq_true rfl) dL_told_271 ⟨Nat.le_of_ble_eq_true rfl, Nat.le_of_ble_eq_true rfl⟩) hA hL (fun r_271_2 H locs hr_271_2 hA hL => ?_)
          replace hr_271_2 : r_271_2 = L (i * 5 + 0) := hr_271_2.trans (ju_at 0 (by decide) hlt hR10 h18)
          subst hr_271_2
          refine lv_if_lt (tgt := 326) hx hb dL_told_274 (by decide) (fun c_274_2 => absurd c_274_2 h8.1) (fun c_274_2 => ?_)
          refine lv_aload_n hx hb dL_told_277 rfl (lv_at hl 9 rfl) ?_
          refine lv_iload hx hb dL_told_278 (lv_at hl 0 rfl) ?_
          refine lv_iconst (v := 0) hx hb dL_told_280 (by decide) ?_
          refine lr_i (rL (rest := []) ⟨hx, hb, hml, hown, hts⟩ (LB_judged l G cA A o (u, v, f, g, L) n K ch (nI i) 0 ) (cwV 2 hts gL_told_X8_judged rfl rfl rfl mdX8_judged ⟨Nat.le_of_ble_eq_true rfl, Nat.le_of_ble_eq_true rfl⟩) hA hL rfl hl rfl (Nat.le_of_ble_eq_true rfl) dL_told_281 ⟨Nat.le_of_ble_eq_true rfl, Nat.le_of_ble_eq_true rfl⟩) hA hL (fun r_281_2 H locs hr_281_2 hA hL => ?_)
          replace hr_281_2 : r_281_2 = L (i * 5 + 0) := hr_281_2.trans (ju_at 0 (by decide) hlt hR10 h18)
          subst hr_281_2
          refine lv_iconst (v := 3) hx hb dL_told_284 (by decide) ?_
          refine lv_icmp_gt (tgt := 326) hx hb dL_told_285 (by decide) (fun c_285_2 => absurd c_285_2 h8.2.1) (fun c_285_2 => ?_)
          refine lv_aload_n hx hb dL_told_288 rfl (lv_at hl 9 rfl) ?_
          refine lv_iload hx hb dL_told_289 (lv_at hl 0 rfl) ?_
          refine lv_iconst (v := 2) hx hb dL_told_291 (by decide) ?_
          refine lr_i (rL (rest := []) ⟨hx, hb, hml, hown, hts⟩ (LB_judged l G cA A o (u, v, f, g, L) n K ch (nI i) 2 ) (cwV 2 hts gL_told_X8_judged rfl rfl rfl mdX8_judged ⟨Nat.le_of_ble_eq_true rfl, Nat.le_of_ble_eq_true rfl⟩) hA hL rfl hl rfl (Nat.le_of_ble_eq_true rfl) dL_told_292 ⟨Nat.le_of_ble_eq_true rfl, Nat.le_of_ble_eq_true rfl⟩) hA hL (fun r_292_2 H locs hr_292_2 hA hL => ?_)
          replace hr_292_2 : r_292_2 = L (i * 5 + 2) := hr_292_2.trans (ju_at 2 (by decide) hlt hR10 h18)
          subst hr_292_2
          refine lv_iconst (v := 1) hx hb dL_told_295 (by decide) ?_
          refine lv_icmp_lt (tgt := 326) hx hb dL_told_296 (by decide) (fun c_296_2 => absurd c_296_2 h8.2.2.1) (fun c_296_2 => ?_)
          refine lv_aload_n hx hb dL_told_299 rfl (lv_at hl 9 rfl) ?_
          refine lv_iload hx hb dL_told_300 (lv_at hl 0 rfl) ?_
          refine lv_iconst (v := 3) hx hb dL_told_302 (by decide) ?_
          refine lr_i (rL (rest := []) ⟨hx, hb, hml, hown, hts⟩ (LB_judged l G cA A o (u, v, f, g, L) n K ch (nI i) 3 ) (cwV 2 hts gL_told_X8_judged rfl rfl rfl mdX8_judged ⟨Nat.le_of_ble_eq_true rfl, Nat.le_of_ble_eq_true rfl⟩) hA hL rfl hl rfl (Nat.le_of_ble_eq_true rfl) dL_told_303 ⟨Nat.le_of_ble_eq_true rfl, Nat.le_of_ble_eq_true rfl⟩) hA hL (fun r_303_2 H locs hr_303_2 hA hL => ?_)
          replace hr_303_2 : r_303_2 = L (i * 5 + 3) := hr_303_2.trans (ju_at 3 (by decide) hlt hR10 h18)
          subst hr_303_2
          refine lv_iconst (v := 1) hx hb dL_told_306 (by decide) ?_
          refine lv_icmp_lt (tgt := 326) hx hb dL_told_307 (by decide) (fun c_307_2 => absurd c_307_2 h8.2.2.2.1) (fun c_307_2 => ?_)
          refine lv_aload_n hx hb dL_told_310 rfl (lv_at hl 9 rfl) ?_
          refine lv_iload hx hb dL_told_311 (lv_at hl 0 rfl) ?_
          refine lv_iconst (v := 3) hx hb dL_told_313 (by decide) ?_
          refine lr_i (rL (rest := []) ⟨hx, hb, hml, hown, hts⟩ (LB_judged l G cA A o (u, v, f, g, L) n K ch (nI i) 3 ) (cwV 2 hts gL_told_X8_judged rfl rfl rfl mdX8_judged ⟨Nat.le_of_ble_eq_true rfl, Nat.le_of_ble_eq_true rfl⟩) hA hL rfl hl rfl (Nat.le_of_ble_eq_true rfl) dL_told_314 ⟨Nat.le_of_ble_eq_true rfl, Nat.le_of_ble_eq_true rfl⟩) hA hL (fun r_314_2 H locs hr_314_2 hA hL => ?_)
          replace hr_314_2 : r_314_2 = L (i * 5 + 3) := hr_314_2.trans (ju_at 3 (by decide) hlt hR10 h18)
          subst hr_314_2
          refine lv_bipush (v := 7) hx hb dL_told_317 (by decide) ?_
          refine lv_icmp_gt (tgt := 326) hx hb dL_told_319 (by decide) (fun c_319_2 => absurd c_319_2 h8.2.2.2.2.1) (fun c_319_2 => ?_)
          refine lv_iconst (v := 1) hx hb dL_told_322 (by decide) ?_
          refine lv_goto (tgt := 327) hx hb dL_told_323 (by decide) ?_
          refine lv_istore (lv' := [(10, .int 1), (9, .int (nI i)), (8, .int (nI R)), (7, .int (nI J)), (6, .int 1), (5, .int 1), (4, .int 1), (3, .int 1), (2, .float (f 7)), (1, .int 3), (0, .ref o)]) hx hb dL_told_327 hl (by decide) rfl (fun ls hl => ?_)
          refine lv_aload_n hx hb dL_told_329 rfl (lv_at hl 10 rfl) ?_
          refine lv_iload hx hb dL_told_330 (lv_at hl 1 rfl) ?_
          refine lv_iconst (v := 4) hx hb dL_told_332 (by decide) ?_
          refine lr_i (rL (rest := []) ⟨hx, hb, hml, hown, hts⟩ (LB_judged l G cA A o (u, v, f, g, L) n K ch (nI i) 4 ) (cwV 2 hts gL_told_X8_judged rfl rfl rfl mdX8_judged ⟨Nat.le_of_ble_eq_true rfl, Nat.le_of_ble_eq_true rfl⟩) hA hL rfl hl rfl (Nat.le_of_ble_eq_true rfl) dL_told_333 ⟨Nat.le_of_ble_eq_true rfl, Nat.le_of_ble_eq_true rfl⟩) hA hL (fun r_333_2 H locs hr_333_2 hA hL => ?_)
          replace hr_333_2 : r_333_2 = L (i * 5 + 4) := hr_333_2.trans (ju_at 4 (by decide) hlt hR10 h18)
          subst hr_333_2
          refine lv_aload_n hx hb dL_told_336 rfl (lv_at hl 10 rfl) ?_
          refine lv_iload hx hb dL_told_337 (lv_at hl 1 rfl) ?_
          refine lv_iconst (v := 1) hx hb dL_told_339 (by decide) ?_
          refine lr_i (rL (rest := [.int (L (i * 5 + 4))]) ⟨hx, hb, hml, hown, hts⟩ (LB_judged l G cA A o (u, v, f, g, L) n K ch (nI i) 1 ) (cwV 2 hts gL_told_X8_judged rfl rfl rfl mdX8_judged ⟨Nat.le_of_ble_eq_true rfl, Nat.le_of_ble_eq_true rfl⟩) hA hL rfl hl rfl (Nat.le_of_ble_eq_true rfl) dL_told_340 ⟨Nat.le_of_ble_eq_true rfl, Nat.le_of_ble_eq_true rfl⟩) hA hL (fun r_340_2 H locs hr_340_2 hA hL => ?_)
          replace hr_340_2 : r_340_2 = L (i * 5 + 1) := hr_340_2.trans (ju_at 1 (by decide) hlt hR10 h18)
          subst hr_340_2
          refine lv_aload_n hx hb dL_told_343 rfl (lv_at hl 10 rfl) ?_
          refine lv_iload hx hb dL_told_344 (lv_at hl 1 rfl) ?_
          refine lv_iconst (v := 2) hx hb dL_told_346 (by decide) ?_
          refine lr_i (rL (rest := [.int (L (i * 5 + 1)), .int (L (i * 5 + 4))]) ⟨hx, hb, hml, hown, hts⟩ (LB_judged l G cA A o (u, v, f, g, L) n K ch (nI i) 2 ) (cwV 2 hts gL_told_X8_judged rfl rfl rfl mdX8_judged ⟨Nat.le_of_ble_eq_true rfl, Nat.le_of_ble_eq_true rfl⟩) hA hL rfl hl rfl (Nat.le_of_ble_eq_true rfl) dL_told_347 ⟨Nat.le_of_ble_eq_true rfl, Nat.le_of_ble_eq_true rfl⟩) hA hL (fun r_347_2 H locs hr_347_2 hA hL => ?_)
          replace hr_347_2 : r_347_2 = L (i * 5 + 2) := hr_347_2.trans (ju_at 2 (by decide) hlt hR10 h18)
          subst hr_347_2
          refine lv_iadd hx hb dL_told_350 ?_
          refine lv_icmp_lt (tgt := 382) hx hb dL_told_351 (by decide) (fun c_351_2 => absurd c_351_2 h8.2.2.2.2.2.1) (fun c_351_2 => ?_)
          refine lv_iload hx hb dL_told_354 (lv_at hl 1 rfl) ?_
          refine lv_if_eq (tgt := 378) hx hb dL_told_356 (by decide) (fun c_356_2 => ?_) (fun c_356_2 => ?_)
          · skip
            refine lv_iconst (v := 1) hx hb dL_told_378 (by decide) ?_
            refine lv_goto (tgt := 383) hx hb dL_told_379 (by decide) ?_
            refine lv_istore (lv' := [(11, .int 1), (10, .int 1), (9, .int (nI i)), (8, .int (nI R)), (7, .int (nI J)), (6, .int 1), (5, .int 1), (4, .int 1), (3, .int 1), (2, .float (f 7)), (1, .int 3), (0, .ref o)]) hx hb dL_told_383 hl (by decide) rfl (fun ls hl => ?_)
            refine lv_iload hx hb dL_told_385 (lv_at hl 1 rfl) ?_
            refine lv_if_eq (tgt := 395) hx hb dL_told_387 (by decide) (fun h9 => absurd h9 (by decide)) (fun _ => ?_)
            refine lv_iload hx hb dL_told_390 (lv_at hl 0 rfl) ?_
            refine lv_if_ne (tgt := 397) hx hb dL_told_392 (by decide) (fun _ => ?_) (fun h9 => absurd h9 (by decide))
            refine lv_iinc (v := ((nI i) + 1)) (lv' := [(9, .int ((nI i) + 1)), (11, .int 1), (10, .int 1), (8, .int (nI R)), (7, .int (nI J)), (6, .int 1), (5, .int 1), (4, .int 1), (3, .int 1), (2, .float (f 7)), (1, .int 3), (0, .ref o)]) hx hb dL_told_397 hl (k := 2) rfl rfl (by decide) rfl (fun ls hl => ?_)
            refine lv_goto (tgt := 260) hx hb dL_told_400 (by decide) ?_
            replace hl : lv_has ls 12 [(9, .int (nI (i + 1))), (11, .int 1), (10, .int 1), (8, .int (nI R)), (7, .int (nI J)), (6, .int 1), (5, .int 1), (4, .int 1), (3, .int 1), (2, .float (f 7)), (1, .int 3), (0, .ref o)] := by rw [← nI_1]; exact hl
            exact ih (i + 1) _ _ _ (by omega) (by omega) hA hL (lv_sub hl [0, 3, 4, 5, 6, 7, 8, 9, 10, 11] rfl)
          · skip
            refine lv_aload_n hx hb dL_told_359 rfl (lv_at hl 10 rfl) ?_
            refine lv_iload hx hb dL_told_360 (lv_at hl 1 rfl) ?_
            refine lv_iconst (v := 4) hx hb dL_told_362 (by decide) ?_
            refine lr_i (rL (rest := []) ⟨hx, hb, hml, hown, hts⟩ (LB_judged l G cA A o (u, v, f, g, L) n K ch (nI i) 4 ) (cwV 2 hts gL_told_X8_judged rfl rfl rfl mdX8_judged ⟨Nat.le_of_ble_eq_true rfl, Nat.le_of_ble_eq_true rfl⟩) hA hL rfl hl rfl (Nat.le_of_ble_eq_true rfl) dL_told_363 ⟨Nat.le_of_ble_eq_true rfl, Nat.le_of_ble_eq_true rfl⟩) hA hL (fun r_363_2 H locs hr_363_2 hA hL => ?_)
            replace hr_363_2 : r_363_2 = L (i * 5 + 4) := hr_363_2.trans (ju_at 4 (by decide) hlt hR10 h18)
            subst hr_363_2
            refine lv_aload_n hx hb dL_told_366 rfl (lv_at hl 10 rfl) ?_
            refine lv_iload hx hb dL_told_367 (lv_at hl 1 rfl) ?_
            refine lv_iconst (v := 1) hx hb dL_told_369 (by decide) ?_
            refine lv_isub hx hb dL_told_370 ?_
            refine lv_iconst (v := 1) hx hb dL_told_371 (by decide) ?_
            refine lr_i (rL (rest := [.int (L (i * 5 + 4))]) ⟨hx, hb, hml, hown, hts⟩ (LB_judged l G cA A o (u, v, f, g, L) n K ch ((nI i) - 1) 1 ) (cwV 2 hts gL_told_X8_judged rfl rfl rfl mdX8_judged ⟨Nat.le_of_ble_eq_true rfl, Nat.le_of_ble_eq_true rfl⟩) hA hL rfl hl rfl (Nat.le_of_ble_eq_true rfl) dL_told_372 ⟨Nat.le_of_ble_eq_true rfl, Nat.le_of_ble_eq_true rfl⟩) hA hL (fun r_372_2 H locs hr_372_2 hA hL => ?_)
            rw [(pred_of c_356_2).2] at hr_372_2
            replace hr_372_2 : r_372_2 = L ((i - 1) * 5 + 1) := hr_372_2.trans (ju_at 1 (by decide) (by omega) hR10 h18)
            subst hr_372_2
            refine lv_icmp_ge (tgt := 382) hx hb dL_told_375 (by decide) (fun c_375_2 => absurd c_375_2 (h8.2.2.2.2.2.2 (pred_of c_356_2).1)) (fun c_375_2 => ?_)
            refine lv_iconst (v := 1) hx hb dL_told_378 (by decide) ?_
            refine lv_goto (tgt := 383) hx hb dL_told_379 (by decide) ?_
            refine lv_istore (lv' := [(11, .int 1), (10, .int 1), (9, .int (nI i)), (8, .int (nI R)), (7, .int (nI J)), (6, .int 1), (5, .int 1), (4, .int 1), (3, .int 1), (2, .float (f 7)), (1, .int 3), (0, .ref o)]) hx hb dL_told_383 hl (by decide) rfl (fun ls hl => ?_)
            refine lv_iload hx hb dL_told_385 (lv_at hl 1 rfl) ?_
            refine lv_if_eq (tgt := 395) hx hb dL_told_387 (by decide) (fun h9 => absurd h9 (by decide)) (fun _ => ?_)
            refine lv_iload hx hb dL_told_390 (lv_at hl 0 rfl) ?_
            refine lv_if_ne (tgt := 397) hx hb dL_told_392 (by decide) (fun _ => ?_) (fun h9 => absurd h9 (by decide))
            refine lv_iinc (v := ((nI i) + 1)) (lv' := [(9, .int ((nI i) + 1)), (11, .int 1), (10, .int 1), (8, .int (nI R)), (7, .int (nI J)), (6, .int 1), (5, .int 1), (4, .int 1), (3, .int 1), (2, .float (f 7)), (1, .int 3), (0, .ref o)]) hx hb dL_told_397 hl (k := 2) rfl rfl (by decide) rfl (fun ls hl => ?_)
            refine lv_goto (tgt := 260) hx hb dL_told_400 (by decide) ?_
            replace hl : lv_has ls 12 [(9, .int (nI (i + 1))), (11, .int 1), (10, .int 1), (8, .int (nI R)), (7, .int (nI J)), (6, .int 1), (5, .int 1), (4, .int 1), (3, .int 1), (2, .float (f 7)), (1, .int 3), (0, .ref o)] := by rw [← nI_1]; exact hl
            exact ih (i + 1) _ _ _ (by omega) (by omega) hA hL (lv_sub hl [0, 3, 4, 5, 6, 7, 8, 9, 10, 11] rfl)
    · skip
      refine lv_iload hx hb dL_told_248 (lv_at hl 0 rfl) ?_
      refine lv_goto (tgt := 255) hx hb dL_told_250 (by decide) ?_
      have hRR : R = J := by rw [hRd, if_pos (Nat.lt_of_not_le (fun h9 => c_245_1 ((nI_leI (a := 10) (b := J) (by decide) hJ31).mpr h9)))]
      refine W.eq (g2 := F0 m 255 ls [.int (nI R)]) (by rw [hRR]) ?_
      refine lv_istore (lv' := [(8, .int (nI R)), (7, .int (nI J)), (6, .int 1), (5, .int 1), (4, .int 1), (3, .int 1), (2, .float (f 7)), (1, .int 3), (0, .ref o)]) hx hb dL_told_255 hl (by decide) rfl (fun ls hl => ?_)
      refine lv_iconst (v := 0) hx hb dL_told_257 (by decide) ?_
      refine lv_istore (lv' := [(9, .int 0), (8, .int (nI R)), (7, .int (nI J)), (6, .int 1), (5, .int 1), (4, .int 1), (3, .int 1), (2, .float (f 7)), (1, .int 3), (0, .ref o)]) hx hb dL_told_258 hl (by decide) rfl (fun ls hl => ?_)
      obtain ⟨i, hi0⟩ : ∃ i : Nat, i = 0 := ⟨_, rfl⟩
      replace hl : lv_has ls 12 [(9, .int (nI i)), (8, .int (nI R)), (7, .int (nI J)), (6, .int 1), (5, .int 1), (4, .int 1), (3, .int 1), (2, .float (f 7)), (1, .int 3), (0, .ref o)] := by rw [hi0]; exact hl
      obtain ⟨nn, hn⟩ : ∃ nn : Nat, R < i + nn := ⟨R + 1, by omega⟩
      have hi : i ≤ R := by omega
      clear hi0
      revert hl
      revert hL
      revert hA
      revert hi
      revert hn
      revert ls
      revert locs
      revert H
      revert i
      induction nn with
      | zero => intro i H locs ls hn hi; exact absurd hn (by omega)
      | succ nn ih =>
        intro i H locs ls hn hi hA hL hl
        refine lv_iload hx hb dL_told_260 (lv_at hl 0 rfl) ?_
        refine lv_iload hx hb dL_told_262 (lv_at hl 1 rfl) ?_
        refine lv_icmp_ge (tgt := 403) hx hb dL_told_264 (by decide) (fun c_264_3 => ?_) (fun c_264_3 => ?_)
        · skip
          obtain rfl : R = i := (eq_of_le hi (by omega) c_264_3).symm
          refine lv_iload_n hx hb dL_told_403 rfl (lv_at hl 6 rfl) ?_
          refine lv_if_eq (tgt := 462) hx hb dL_told_404 (by decide) (fun h9 => absurd h9 (by decide)) (fun _ => ?_)
          refine lv_iload hx hb dL_told_407 (lv_at hl 5 rfl) ?_
          refine lv_if_eq (tgt := 462) hx hb dL_told_409 (by decide) (fun h9 => absurd h9 (by decide)) (fun _ => ?_)
          refine lv_iload hx hb dL_told_412 (lv_at hl 3 rfl) ?_
          refine lv_if_eq (tgt := 462) hx hb dL_told_414 (by decide) (fun h9 => absurd h9 (by decide)) (fun _ => ?_)
          refine lv_aload_n hx hb dL_told_417 rfl (lv_at hl 9 rfl) ?_
          refine lv_iload hx hb dL_told_418 (lv_at hl 1 rfl) ?_
          refine lv_iconst (v := 0) hx hb dL_told_420 (by decide) ?_
          refine lr_i (rL (rest := []) ⟨hx, hb, hml, hown, hts⟩ (LB_judged l G cA A o (u, v, f, g, L) n K ch (nI R) 0 ) (cwV 2 hts gL_told_X8_judged rfl rfl rfl mdX8_judged ⟨Nat.le_of_ble_eq_true rfl, Nat.le_of_ble_eq_true rfl⟩) hA hL rfl hl rfl (Nat.le_of_ble_eq_true rfl) dL_told_421 ⟨Nat.le_of_ble_eq_true rfl, Nat.le_of_ble_eq_true rfl⟩) hA hL (fun r_421_3 H locs hr_421_3 hA hL => ?_)
          rw [ju_end hR10 h18] at hr_421_3
          subst hr_421_3
          refine lv_bipush (v := (-5)) hx hb dL_told_424 (by decide) ?_
          refine lv_icmp_ne (tgt := 462) hx hb dL_told_426 (by decide) (fun h9 => absurd (by decide) h9) (fun _ => ?_)
          refine lv_aload_n hx hb dL_told_429 rfl (lv_at hl 9 rfl) ?_
          refine lv_iconst (v := (-1)) hx hb dL_told_430 (by decide) ?_
          refine lv_iconst (v := 0) hx hb dL_told_431 (by decide) ?_
          refine lr_i (rL (rest := []) ⟨hx, hb, hml, hown, hts⟩ (LB_judged l G cA A o (u, v, f, g, L) n K ch (-1) 0 ) (cwV 2 hts gL_told_X8_judged rfl rfl rfl mdX8_judged ⟨Nat.le_of_ble_eq_true rfl, Nat.le_of_ble_eq_true rfl⟩) hA hL rfl hl rfl (Nat.le_of_ble_eq_true rfl) dL_told_432 ⟨Nat.le_of_ble_eq_true rfl, Nat.le_of_ble_eq_true rfl⟩) hA hL (fun r_432_3 H locs hr_432_3 hA hL => ?_)
          replace hr_432_3 : r_432_3 = (-2) := hr_432_3
          subst hr_432_3
          refine lv_bipush (v := (-2)) hx hb dL_told_435 (by decide) ?_
          refine lv_icmp_ne (tgt := 462) hx hb dL_told_437 (by decide) (fun h9 => absurd (by decide) h9) (fun _ => ?_)
          refine lv_aload_n hx hb dL_told_440 rfl (lv_at hl 9 rfl) ?_
          refine lv_iconst (v := 0) hx hb dL_told_441 (by decide) ?_
          refine lv_iconst (v := 5) hx hb dL_told_442 (by decide) ?_
          refine lr_i (rL (rest := []) ⟨hx, hb, hml, hown, hts⟩ (LB_judged l G cA A o (u, v, f, g, L) n K ch 0 5 ) (cwV 2 hts gL_told_X8_judged rfl rfl rfl mdX8_judged ⟨Nat.le_of_ble_eq_true rfl, Nat.le_of_ble_eq_true rfl⟩) hA hL rfl hl rfl (Nat.le_of_ble_eq_true rfl) dL_told_443 ⟨Nat.le_of_ble_eq_true rfl, Nat.le_of_ble_eq_true rfl⟩) hA hL (fun r_443_3 H locs hr_443_3 hA hL => ?_)
          replace hr_443_3 : r_443_3 = (-2) := hr_443_3
          subst hr_443_3
          refine lv_bipush (v := (-2)) hx hb dL_told_446 (by decide) ?_
          refine lv_icmp_ne (tgt := 462) hx hb dL_told_448 (by decide) (fun h9 => absurd (by decide) h9) (fun _ => ?_)
          refine lv_aload_n hx hb dL_told_451 rfl (lv_at hl 9 rfl) ?_
          refine lw_i (rLS (rest := []) ⟨hx, hb, hml, hown, hts⟩ (hTh) (va_cwS 1 hts gL_told_L_thing rfl rfl rfl mdL_thing.2 ⟨Nat.le_of_ble_eq_true rfl, Nat.le_of_ble_eq_true rfl⟩) hA hL rfl hl rfl (Nat.le_of_ble_eq_true rfl) dL_told_452 ⟨Nat.le_of_ble_eq_true rfl, Nat.le_of_ble_eq_true rfl⟩) hA (fun r_452_3 _ H locs hr_452_3 hA hL => ?_)
          replace hL : LB G cA A o (u, v, f, g, L) n K ch H := hL
          subst hr_452_3
          refine lv_if_eq (tgt := 462) hx hb dL_told_455 (by decide) (fun h9 => absurd h9 (by decide)) (fun _ => ?_)
          refine lv_iconst (v := 1) hx hb dL_told_458 (by decide) ?_
          refine lv_goto (tgt := 463) hx hb dL_told_459 (by decide) ?_
          exact en_l (post := fun r (_ : Unit) => r = 1) (B := fun _ H => LB G cA A o (u, v, f, g, L) n K ch H) () hx hb hr hlocks hA rfl hL dL_told_463
        · skip
          have hlt : i < R := lt_of_nle hi (by omega) c_264_3
          have h8 := hT.2.2.2.2.2.2 i hlt
          refine lv_aload_n hx hb dL_told_267 rfl (lv_at hl 9 rfl) ?_
          refine lv_iload hx hb dL_told_268 (lv_at hl 0 rfl) ?_
          refine lv_iconst (v := 0) hx hb dL_told_270 (by decide) ?_
          refine lr_i (rL (rest := []) ⟨hx, hb, hml, hown, hts⟩ (LB_judged l G cA A o (u, v, f, g, L) n K ch (nI i) 0 ) (cwV 2 hts gL_told_X8_judged rfl rfl rfl mdX8_judged ⟨Nat.le_of_ble_eq_true rfl, Nat.le_of_ble_eq_true rfl⟩) hA hL rfl hl rfl (Nat.le_of_ble_eq_true rfl) dL_told_271 ⟨Nat.le_of_ble_eq_true rfl, Nat.le_of_ble_eq_true rfl⟩) hA hL (fun r_271_3 H locs hr_271_3 hA hL => ?_)
          replace hr_271_3 : r_271_3 = L (i * 5 + 0) := hr_271_3.trans (ju_at 0 (by decide) hlt hR10 h18)
          subst hr_271_3
          refine lv_if_lt (tgt := 326) hx hb dL_told_274 (by decide) (fun c_274_3 => absurd c_274_3 h8.1) (fun c_274_3 => ?_)
          refine lv_aload_n hx hb dL_told_277 rfl (lv_at hl 9 rfl) ?_
          refine lv_iload hx hb dL_told_278 (lv_at hl 0 rfl) ?_
          refine lv_iconst (v := 0) hx hb dL_told_280 (by decide) ?_
          refine lr_i (rL (rest := []) ⟨hx, hb, hml, hown, hts⟩ (LB_judged l G cA A o (u, v, f, g, L) n K ch (nI i) 0 ) (cwV 2 hts gL_told_X8_judged rfl rfl rfl mdX8_judged ⟨Nat.le_of_ble_eq_true rfl, Nat.le_of_ble_eq_true rfl⟩) hA hL rfl hl rfl (Nat.le_of_ble_eq_true rfl) dL_told_281 ⟨Nat.le_of_ble_eq_true rfl, Nat.le_of_ble_eq_true rfl⟩) hA hL (fun r_281_3 H locs hr_281_3 hA hL => ?_)
          replace hr_281_3 : r_281_3 = L (i * 5 + 0) := hr_281_3.trans (ju_at 0 (by decide) hlt hR10 h18)
          subst hr_281_3
          refine lv_iconst (v := 3) hx hb dL_told_284 (by decide) ?_
          refine lv_icmp_gt (tgt := 326) hx hb dL_told_285 (by decide) (fun c_285_3 => absurd c_285_3 h8.2.1) (fun c_285_3 => ?_)
          refine lv_aload_n hx hb dL_told_288 rfl (lv_at hl 9 rfl) ?_
          refine lv_iload hx hb dL_told_289 (lv_at hl 0 rfl) ?_
          refine lv_iconst (v := 2) hx hb dL_told_291 (by decide) ?_
          refine lr_i (rL (rest := []) ⟨hx, hb, hml, hown, hts⟩ (LB_judged l G cA A o (u, v, f, g, L) n K ch (nI i) 2 ) (cwV 2 hts gL_told_X8_judged rfl rfl rfl mdX8_judged ⟨Nat.le_of_ble_eq_true rfl, Nat.le_of_ble_eq_true rfl⟩) hA hL rfl hl rfl (Nat.le_of_ble_eq_true rfl) dL_told_292 ⟨Nat.le_of_ble_eq_true rfl, Nat.le_of_ble_eq_true rfl⟩) hA hL (fun r_292_3 H locs hr_292_3 hA hL => ?_)
          replace hr_292_3 : r_292_3 = L (i * 5 + 2) := hr_292_3.trans (ju_at 2 (by decide) hlt hR10 h18)
          subst hr_292_3
          refine lv_iconst (v := 1) hx hb dL_told_295 (by decide) ?_
          refine lv_icmp_lt (tgt := 326) hx hb dL_told_296 (by decide) (fun c_296_3 => absurd c_296_3 h8.2.2.1) (fun c_296_3 => ?_)
          refine lv_aload_n hx hb dL_told_299 rfl (lv_at hl 9 rfl) ?_
          refine lv_iload hx hb dL_told_300 (lv_at hl 0 rfl) ?_
          refine lv_iconst (v := 3) hx hb dL_told_302 (by decide) ?_
          refine lr_i (rL (rest := []) ⟨hx, hb, hml, hown, hts⟩ (LB_judged l G cA A o (u, v, f, g, L) n K ch (nI i) 3 ) (cwV 2 hts gL_told_X8_judged rfl rfl rfl mdX8_judged ⟨Nat.le_of_ble_eq_true rfl, Nat.le_of_ble_eq_true rfl⟩) hA hL rfl hl rfl (Nat.le_of_ble_eq_true rfl) dL_told_303 ⟨Nat.le_of_ble_eq_true rfl, Nat.le_of_ble_eq_true rfl⟩) hA hL (fun r_303_3 H locs hr_303_3 hA hL => ?_)
          replace hr_303_3 : r_303_3 = L (i * 5 + 3) := hr_303_3.trans (ju_at 3 (by decide) hlt hR10 h18)
          subst hr_303_3
          refine lv_iconst (v := 1) hx hb dL_told_306 (by decide) ?_
          refine lv_icmp_lt (tgt := 326) hx hb dL_told_307 (by decide) (fun c_307_3 => absurd c_307_3 h8.2.2.2.1) (fun c_307_3 => ?_)
          refine lv_aload_n hx hb dL_told_310 rfl (lv_at hl 9 rfl) ?_
          refine lv_iload hx hb dL_told_311 (lv_at hl 0 rfl) ?_
          refine lv_iconst (v := 3) hx hb dL_told_313 (by decide) ?_
          refine lr_i (rL (rest := []) ⟨hx, hb, hml, hown, hts⟩ (LB_judged l G cA A o (u, v, f, g, L) n K ch (nI i) 3 ) (cwV 2 hts gL_told_X8_judged rfl rfl rfl mdX8_judged ⟨Nat.le_of_ble_eq_true rfl, Nat.le_of_ble_eq_true rfl⟩) hA hL rfl hl rfl (Nat.le_of_ble_eq_true rfl) dL_told_314 ⟨Nat.le_of_ble_eq_true rfl, Nat.le_of_ble_eq_true rfl⟩) hA hL (fun r_314_3 H locs hr_314_3 hA hL => ?_)
          replace hr_314_3 : r_314_3 = L (i * 5 + 3) := hr_314_3.trans (ju_at 3 (by decide) hlt hR10 h18)
          subst hr_314_3
          refine lv_bipush (v := 7) hx hb dL_told_317 (by decide) ?_
          refine lv_icmp_gt (tgt := 326) hx hb dL_told_319 (by decide) (fun c_319_3 => absurd c_319_3 h8.2.2.2.2.1) (fun c_319_3 => ?_)
          refine lv_iconst (v := 1) hx hb dL_told_322 (by decide) ?_
          refine lv_goto (tgt := 327) hx hb dL_told_323 (by decide) ?_
          refine lv_istore (lv' := [(10, .int 1), (9, .int (nI i)), (8, .int (nI R)), (7, .int (nI J)), (6, .int 1), (5, .int 1), (4, .int 1), (3, .int 1), (2, .float (f 7)), (1, .int 3), (0, .ref o)]) hx hb dL_told_327 hl (by decide) rfl (fun ls hl => ?_)
          refine lv_aload_n hx hb dL_told_329 rfl (lv_at hl 10 rfl) ?_
          refine lv_iload hx hb dL_told_330 (lv_at hl 1 rfl) ?_
          refine lv_iconst (v := 4) hx hb dL_told_332 (by decide) ?_
          refine lr_i (rL (rest := []) ⟨hx, hb, hml, hown, hts⟩ (LB_judged l G cA A o (u, v, f, g, L) n K ch (nI i) 4 ) (cwV 2 hts gL_told_X8_judged rfl rfl rfl mdX8_judged ⟨Nat.le_of_ble_eq_true rfl, Nat.le_of_ble_eq_true rfl⟩) hA hL rfl hl rfl (Nat.le_of_ble_eq_true rfl) dL_told_333 ⟨Nat.le_of_ble_eq_true rfl, Nat.le_of_ble_eq_true rfl⟩) hA hL (fun r_333_3 H locs hr_333_3 hA hL => ?_)
          replace hr_333_3 : r_333_3 = L (i * 5 + 4) := hr_333_3.trans (ju_at 4 (by decide) hlt hR10 h18)
          subst hr_333_3
          refine lv_aload_n hx hb dL_told_336 rfl (lv_at hl 10 rfl) ?_
          refine lv_iload hx hb dL_told_337 (lv_at hl 1 rfl) ?_
          refine lv_iconst (v := 1) hx hb dL_told_339 (by decide) ?_
          refine lr_i (rL (rest := [.int (L (i * 5 + 4))]) ⟨hx, hb, hml, hown, hts⟩ (LB_judged l G cA A o (u, v, f, g, L) n K ch (nI i) 1 ) (cwV 2 hts gL_told_X8_judged rfl rfl rfl mdX8_judged ⟨Nat.le_of_ble_eq_true rfl, Nat.le_of_ble_eq_true rfl⟩) hA hL rfl hl rfl (Nat.le_of_ble_eq_true rfl) dL_told_340 ⟨Nat.le_of_ble_eq_true rfl, Nat.le_of_ble_eq_true rfl⟩) hA hL (fun r_340_3 H locs hr_340_3 hA hL => ?_)
          replace hr_340_3 : r_340_3 = L (i * 5 + 1) := hr_340_3.trans (ju_at 1 (by decide) hlt hR10 h18)
          subst hr_340_3
          refine lv_aload_n hx hb dL_told_343 rfl (lv_at hl 10 rfl) ?_
          refine lv_iload hx hb dL_told_344 (lv_at hl 1 rfl) ?_
          refine lv_iconst (v := 2) hx hb dL_told_346 (by decide) ?_
          refine lr_i (rL (rest := [.int (L (i * 5 + 1)), .int (L (i * 5 + 4))]) ⟨hx, hb, hml, hown, hts⟩ (LB_judged l G cA A o (u, v, f, g, L) n K ch (nI i) 2 ) (cwV 2 hts gL_told_X8_judged rfl rfl rfl mdX8_judged ⟨Nat.le_of_ble_eq_true rfl, Nat.le_of_ble_eq_true rfl⟩) hA hL rfl hl rfl (Nat.le_of_ble_eq_true rfl) dL_told_347 ⟨Nat.le_of_ble_eq_true rfl, Nat.le_of_ble_eq_true rfl⟩) hA hL (fun r_347_3 H locs hr_347_3 hA hL => ?_)
          replace hr_347_3 : r_347_3 = L (i * 5 + 2) := hr_347_3.trans (ju_at 2 (by decide) hlt hR10 h18)
          subst hr_347_3
          refine lv_iadd hx hb dL_told_350 ?_
          refine lv_icmp_lt (tgt := 382) hx hb dL_told_351 (by decide) (fun c_351_3 => absurd c_351_3 h8.2.2.2.2.2.1) (fun c_351_3 => ?_)
          refine lv_iload hx hb dL_told_354 (lv_at hl 1 rfl) ?_
          refine lv_if_eq (tgt := 378) hx hb dL_told_356 (by decide) (fun c_356_3 => ?_) (fun c_356_3 => ?_)
          · skip
            refine lv_iconst (v := 1) hx hb dL_told_378 (by decide) ?_
            refine lv_goto (tgt := 383) hx hb dL_told_379 (by decide) ?_
            refine lv_istore (lv' := [(11, .int 1), (10, .int 1), (9, .int (nI i)), (8, .int (nI R)), (7, .int (nI J)), (6, .int 1), (5, .int 1), (4, .int 1), (3, .int 1), (2, .float (f 7)), (1, .int 3), (0, .ref o)]) hx hb dL_told_383 hl (by decide) rfl (fun ls hl => ?_)
            refine lv_iload hx hb dL_told_385 (lv_at hl 1 rfl) ?_
            refine lv_if_eq (tgt := 395) hx hb dL_told_387 (by decide) (fun h9 => absurd h9 (by decide)) (fun _ => ?_)
            refine lv_iload hx hb dL_told_390 (lv_at hl 0 rfl) ?_
            refine lv_if_ne (tgt := 397) hx hb dL_told_392 (by decide) (fun _ => ?_) (fun h9 => absurd h9 (by decide))
            refine lv_iinc (v := ((nI i) + 1)) (lv' := [(9, .int ((nI i) + 1)), (11, .int 1), (10, .int 1), (8, .int (nI R)), (7, .int (nI J)), (6, .int 1), (5, .int 1), (4, .int 1), (3, .int 1), (2, .float (f 7)), (1, .int 3), (0, .ref o)]) hx hb dL_told_397 hl (k := 2) rfl rfl (by decide) rfl (fun ls hl => ?_)
            refine lv_goto (tgt := 260) hx hb dL_told_400 (by decide) ?_
            replace hl : lv_has ls 12 [(9, .int (nI (i + 1))), (11, .int 1), (10, .int 1), (8, .int (nI R)), (7, .int (nI J)), (6, .int 1), (5, .int 1), (4, .int 1), (3, .int 1), (2, .float (f 7)), (1, .int 3), (0, .ref o)] := by rw [← nI_1]; exact hl
            exact ih (i + 1) _ _ _ (by omega) (by omega) hA hL (lv_sub hl [0, 3, 4, 5, 6, 7, 8, 9, 10, 11] rfl)
          · skip
            refine lv_aload_n hx hb dL_told_359 rfl (lv_at hl 10 rfl) ?_
            refine lv_iload hx hb dL_told_360 (lv_at hl 1 rfl) ?_
            refine lv_iconst (v := 4) hx hb dL_told_362 (by decide) ?_
            refine lr_i (rL (rest := []) ⟨hx, hb, hml, hown, hts⟩ (LB_judged l G cA A o (u, v, f, g, L) n K ch (nI i) 4 ) (cwV 2 hts gL_told_X8_judged rfl rfl rfl mdX8_judged ⟨Nat.le_of_ble_eq_true rfl, Nat.le_of_ble_eq_true rfl⟩) hA hL rfl hl rfl (Nat.le_of_ble_eq_true rfl) dL_told_363 ⟨Nat.le_of_ble_eq_true rfl, Nat.le_of_ble_eq_true rfl⟩) hA hL (fun r_363_3 H locs hr_363_3 hA hL => ?_)
            replace hr_363_3 : r_363_3 = L (i * 5 + 4) := hr_363_3.trans (ju_at 4 (by decide) hlt hR10 h18)
            subst hr_363_3
            refine lv_aload_n hx hb dL_told_366 rfl (lv_at hl 10 rfl) ?_
            refine lv_iload hx hb dL_told_367 (lv_at hl 1 rfl) ?_
            refine lv_iconst (v := 1) hx hb dL_told_369 (by decide) ?_
            refine lv_isub hx hb dL_told_370 ?_
            refine lv_iconst (v := 1) hx hb dL_told_371 (by decide) ?_
            refine lr_i (rL (rest := [.int (L (i * 5 + 4))]) ⟨hx, hb, hml, hown, hts⟩ (LB_judged l G cA A o (u, v, f, g, L) n K ch ((nI i) - 1) 1 ) (cwV 2 hts gL_told_X8_judged rfl rfl rfl mdX8_judged ⟨Nat.le_of_ble_eq_true rfl, Nat.le_of_ble_eq_true rfl⟩) hA hL rfl hl rfl (Nat.le_of_ble_eq_true rfl) dL_told_372 ⟨Nat.le_of_ble_eq_true rfl, Nat.le_of_ble_eq_true rfl⟩) hA hL (fun r_372_3 H locs hr_372_3 hA hL => ?_)
            rw [(pred_of c_356_3).2] at hr_372_3
            replace hr_372_3 : r_372_3 = L ((i - 1) * 5 + 1) := hr_372_3.trans (ju_at 1 (by decide) (by omega) hR10 h18)
            subst hr_372_3
            refine lv_icmp_ge (tgt := 382) hx hb dL_told_375 (by decide) (fun c_375_3 => absurd c_375_3 (h8.2.2.2.2.2.2 (pred_of c_356_3).1)) (fun c_375_3 => ?_)
            refine lv_iconst (v := 1) hx hb dL_told_378 (by decide) ?_
            refine lv_goto (tgt := 383) hx hb dL_told_379 (by decide) ?_
            refine lv_istore (lv' := [(11, .int 1), (10, .int 1), (9, .int (nI i)), (8, .int (nI R)), (7, .int (nI J)), (6, .int 1), (5, .int 1), (4, .int 1), (3, .int 1), (2, .float (f 7)), (1, .int 3), (0, .ref o)]) hx hb dL_told_383 hl (by decide) rfl (fun ls hl => ?_)
            refine lv_iload hx hb dL_told_385 (lv_at hl 1 rfl) ?_
            refine lv_if_eq (tgt := 395) hx hb dL_told_387 (by decide) (fun h9 => absurd h9 (by decide)) (fun _ => ?_)
            refine lv_iload hx hb dL_told_390 (lv_at hl 0 rfl) ?_
            refine lv_if_ne (tgt := 397) hx hb dL_told_392 (by decide) (fun _ => ?_) (fun h9 => absurd h9 (by decide))
            refine lv_iinc (v := ((nI i) + 1)) (lv' := [(9, .int ((nI i) + 1)), (11, .int 1), (10, .int 1), (8, .int (nI R)), (7, .int (nI J)), (6, .int 1), (5, .int 1), (4, .int 1), (3, .int 1), (2, .float (f 7)), (1, .int 3), (0, .ref o)]) hx hb dL_told_397 hl (k := 2) rfl rfl (by decide) rfl (fun ls hl => ?_)
            refine lv_goto (tgt := 260) hx hb dL_told_400 (by decide) ?_
            replace hl : lv_has ls 12 [(9, .int (nI (i + 1))), (11, .int 1), (10, .int 1), (8, .int (nI R)), (7, .int (nI J)), (6, .int 1), (5, .int 1), (4, .int 1), (3, .int 1), (2, .float (f 7)), (1, .int 3), (0, .ref o)] := by rw [← nI_1]; exact hl
            exact ih (i + 1) _ _ _ (by omega) (by omega) hA hL (lv_sub hl [0, 3, 4, 5, 6, 7, 8, 9, 10, 11] rfl)
