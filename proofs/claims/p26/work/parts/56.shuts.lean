/-! shuts(o): its contract over a state of which ShOk holds (by wip/p26/shuts.py) -/
/-- what shuts() asks of a state -/
def ShOk (u : FF) (v : GG) (f : FF) (g L : GG) : Prop := (∀ k, k < 501 → GoOk u (itS u v 0 (f, g, L) k).1 (itS u v 0 (f, g, L) k).2.1) ∧ (∀ N, N ≤ 99 → ¬ 99999 < g 27 + nI N) ∧ Bo g ∧ ∀ x, 1 ≤ x → x ≤ 99 → (itS u v 0 (f, g, L) x).2.1 13 = 0 → (∀ k, k < x → ¬ (itS u v 0 (f, g, L) k).2.1 13 = 0) → (x ≠ 1 → ¬ Op.cmpValue (FP.fcmp ((itS u v 0 (f, g, L) (x - 1)).1 7) FP.fconst0) CmpOp.l ≤ 0) ∧ (itS u v 0 (f, g, L) x).2.1 23 = g 23 + 1
theorem ge1 {x : Nat} (h : 1 ≤ x) (hx : x < 2 ^ 31) : ¬ nI x < 1 := Int32.not_lt.mpr (show (1 : Int32) ≤ nI x from nI_le h hx)
theorem le99 {x : Nat} (h : x ≤ 99) : nI x ≤ 99 := nI_le h (by decide)
theorem gt99 {x : Nat} (h : 99 < x) (hx : x < 2 ^ 31) : ¬ nI x ≤ 99 := nI_ge h hx
set_option maxHeartbeats 8000000 in
set_option maxRecDepth 100000 in
/-- shuts(o) -/
theorem cL_shuts_ok (l : Launch) (G : va_G) (cA : Nat → ClassId) (A : Nat → Prop) (o : Nat) (u : FF) (v : GG) (f : FF) (g L : GG) (n K : Nat) (ch : GG) (hn : n ≤ 4) (hSk : ShOk u v f g L) : Met l yL_shuts wsL_shuts ({ frames := 7, cells := 0, slots := 0, locals := 160 } : Room) (va_Pc [.ref o] (LbP G cA A o (u, v, f, g, L) n K ch)) (va_Qi (fun r (N : Nat) => r = 1 ∧ N ≤ 99) (fun N t => LB G cA A o (u, v, (itS u v 0 (f, g, L) N).1, (itS u v 0 (f, g, L) N).2.1, (itS u v 0 (f, g, L) N).2.2) (if N = 0 then n else recN n) K ch t.heap) A) 0 0 A := by
  refine ofW2 (cc := cL_shuts) (maxL := 4) (ret := (some .boolean)) (own := RL) (by decide) rfl rfl (Nat.le_of_ble_eq_true rfl) rfl ?_
  intro p e s m below meth c ls hx hb hml hr hts hown hlocks hv hl
  obtain ⟨hE, hN, hL⟩ := hv
  have hA : At G cA A s s.heap [] := ⟨hE, hN, va_S.rf⟩
  obtain ⟨H, hH0⟩ : ∃ H, H = s.heap := ⟨_, rfl⟩
  rw [← hH0] at hL ⊢
  replace hA : At G cA A s H [] := by rw [hH0]; exact hA
  generalize ([] : List Loc) = locs at hA ⊢
  clear hH0
  replace hl : lv_has ls 4 [(0, .ref o)] := hl
  refine lv_aload_n hx hb dL_shuts_0 rfl (lv_at hl 0 rfl) ?_
  refine lw_i (rL (rest := []) ⟨hx, hb, hml, hown, hts⟩ (LB_shutsIn l G cA A o (u, v, f, g, L) n K ch hSk.1) (cwV 0 hts gL_shuts_X8_shutsIn rfl rfl rfl mdX8_shutsIn ⟨Nat.le_of_ble_eq_true rfl, Nat.le_of_ble_eq_true rfl⟩) hA hL rfl hl rfl (Nat.le_of_ble_eq_true rfl) dL_shuts_1 ⟨Nat.le_of_ble_eq_true rfl, Nat.le_of_ble_eq_true rfl⟩) hA (fun r_1 x H locs hr_1 hA hL => ?_)
  replace hL : LB G cA A o (u, v, f, g, L) n K ch H := hL
  rcases hr_1 with ⟨hx5, rfl, hs0, hsk⟩ | ⟨-, rfl, hsk⟩
  · by_cases hx0 : x = 0
    · subst hx0
      rw [nI_0]
      refine lv_istore_n (lv' := [(1, .int 0), (0, .ref o)]) hx hb dL_shuts_4 rfl hl (by decide) rfl (fun ls hl => ?_)
      refine lv_iload_n hx hb dL_shuts_5 rfl (lv_at hl 0 rfl) ?_
      refine lv_iconst (v := 1) hx hb dL_shuts_6 (by decide) ?_
      refine lv_icmp_lt (tgt := 16) hx hb dL_shuts_7 (by decide) (fun _ => ?_) (fun h9 => absurd (by decide) h9)
      refine lv_aload_n hx hb dL_shuts_16 rfl (lv_at hl 1 rfl) ?_
      refine lv_iconst (v := 0) hx hb dL_shuts_17 (by decide) ?_
      refine lr_i (rL (rest := []) ⟨hx, hb, hml, hown, hts⟩ (LB_door l G cA A o (u, v, f, g, L) n K ch 0 ) (cwV 1 hts gL_shuts_X8_door rfl rfl rfl mdX8_door ⟨Nat.le_of_ble_eq_true rfl, Nat.le_of_ble_eq_true rfl⟩) hA hL rfl hl rfl (Nat.le_of_ble_eq_true rfl) dL_shuts_18 ⟨Nat.le_of_ble_eq_true rfl, Nat.le_of_ble_eq_true rfl⟩) hA hL (fun r_18 H locs hr_18 hA hL => ?_)
      replace hr_18 : r_18 = g 13 := hr_18
      subst hr_18
      refine lv_if_ne (tgt := 36) hx hb dL_shuts_21 (by decide) (fun c_21 => absurd hs0 c_21) (fun c_21 => ?_)
      refine lv_iload_n hx hb dL_shuts_24 rfl (lv_at hl 0 rfl) ?_
      refine lv_if_ne (tgt := 32) hx hb dL_shuts_25 (by decide) (fun h9 => absurd (by decide) h9) (fun _ => ?_)
      refine lv_iconst (v := 1) hx hb dL_shuts_28 (by decide) ?_
      refine lv_goto (tgt := 53) hx hb dL_shuts_29 (by decide) ?_
      exact en_l (post := fun r (N : Nat) => r = 1 ∧ N ≤ 99) (B := fun N H => LB G cA A o (u, v, (itS u v 0 (f, g, L) N).1, (itS u v 0 (f, g, L) N).2.1, (itS u v 0 (f, g, L) N).2.2) (if N = 0 then n else recN n) K ch H) 0 hx hb hr hlocks hA ⟨rfl, by omega⟩ hL dL_shuts_53
    have hx1 : 1 ≤ x := by omega
    by_cases hx9 : x ≤ 99
    · have hsh := hSk.2.2.2 x hx1 hx9 hs0 hsk
      refine lv_istore_n (lv' := [(1, .int (nI x)), (0, .ref o)]) hx hb dL_shuts_4 rfl hl (by decide) rfl (fun ls hl => ?_)
      refine lv_iload_n hx hb dL_shuts_5 rfl (lv_at hl 0 rfl) ?_
      refine lv_iconst (v := 1) hx hb dL_shuts_6 (by decide) ?_
      refine lv_icmp_lt (tgt := 16) hx hb dL_shuts_7 (by decide) (fun c_7 => absurd c_7 (ge1 hx1 (by omega))) (fun c_7 => ?_)
      refine lv_iload_n hx hb dL_shuts_10 rfl (lv_at hl 0 rfl) ?_
      refine lv_bipush (v := 99) hx hb dL_shuts_11 (by decide) ?_
      refine lv_icmp_le (tgt := 54) hx hb dL_shuts_13 (by decide) (fun c_13 => ?_) (fun c_13 => absurd (le99 hx9) c_13)
      refine lv_aload_n hx hb dL_shuts_54 rfl (lv_at hl 1 rfl) ?_
      refine lv_iconst (v := 5) hx hb dL_shuts_55 (by decide) ?_
      refine lr_i (rL (rest := []) ⟨hx, hb, hml, hown, hts⟩ (LB_count l G cA A o (u, v, f, g, L) n K ch 5 ) (cwV 1 hts gL_shuts_X8_count rfl rfl rfl mdX8_count ⟨Nat.le_of_ble_eq_true rfl, Nat.le_of_ble_eq_true rfl⟩) hA hL rfl hl rfl (Nat.le_of_ble_eq_true rfl) dL_shuts_56 ⟨Nat.le_of_ble_eq_true rfl, Nat.le_of_ble_eq_true rfl⟩) hA hL (fun r_56 H locs hr_56 hA hL => ?_)
      replace hr_56 : r_56 = g 23 := hr_56
      subst hr_56
      refine lv_istore_n (lv' := [(2, .int (g 23)), (1, .int (nI x)), (0, .ref o)]) hx hb dL_shuts_59 rfl hl (by decide) rfl (fun ls hl => ?_)
      refine lv_iload_n hx hb dL_shuts_60 rfl (lv_at hl 1 rfl) ?_
      refine lv_iconst (v := 1) hx hb dL_shuts_61 (by decide) ?_
      refine lv_icmp_eq (tgt := 78) hx hb dL_shuts_62 (by decide) (fun c_62 => ?_) (fun c_62 => ?_)
      · skip
        refine lv_iconst (v := 1) hx hb dL_shuts_78 (by decide) ?_
        refine lv_goto (tgt := 83) hx hb dL_shuts_79 (by decide) ?_
        refine lv_istore_n (lv' := [(3, .int 1), (2, .int (g 23)), (1, .int (nI x)), (0, .ref o)]) hx hb dL_shuts_83 rfl hl (by decide) rfl (fun ls hl => ?_)
        refine lv_iload_n hx hb dL_shuts_84 rfl (lv_at hl 0 rfl) ?_
        refine lv_if_eq (tgt := 112) hx hb dL_shuts_85 (by decide) (fun h9 => absurd h9 (by decide)) (fun _ => ?_)
        refine lv_aload_n hx hb dL_shuts_88 rfl (lv_at hl 3 rfl) ?_
        refine lv_iconst (v := 0) hx hb dL_shuts_89 (by decide) ?_
        refine lv_iload_n hx hb dL_shuts_90 rfl (lv_at hl 2 rfl) ?_
        refine lw_i (rL (rest := []) ⟨hx, hb, hml, hown, hts⟩ (LB_pass_ok l G cA A o (u, v, f, g, L) n K ch hn 0 x (by decide) (by decide) hx1 hx9 (hSk.2.1 x hx9) (fun k hk => hSk.1 k (by omega)) hSk.2.2.1) (cwV 2 hts gL_shuts_X8_pass rfl rfl rfl mdX8_pass ⟨Nat.le_of_ble_eq_true rfl, Nat.le_of_ble_eq_true rfl⟩) hA hL rfl hl rfl (Nat.le_of_ble_eq_true rfl) dL_shuts_91 ⟨Nat.le_of_ble_eq_true rfl, Nat.le_of_ble_eq_true rfl⟩) hA (fun r_91 _ H locs hr_91 hA hL => ?_)
        replace hL : LB G cA A o (u, v, (itS u v 0 (f, g, L) x).1, (itS u v 0 (f, g, L) x).2.1, (itS u v 0 (f, g, L) x).2.2) (recN n) K ch H := hL
        replace hr_91 : r_91 = 0 := hr_91.trans hs0
        subst hr_91
        refine lv_if_ne (tgt := 112) hx hb dL_shuts_94 (by decide) (fun h9 => absurd (by decide) h9) (fun _ => ?_)
        refine lv_aload_n hx hb dL_shuts_97 rfl (lv_at hl 3 rfl) ?_
        refine lv_iconst (v := 5) hx hb dL_shuts_98 (by decide) ?_
        refine lr_i (rL (rest := []) ⟨hx, hb, hml, hown, hts⟩ (LB_count l G cA A o (u, v, (itS u v 0 (f, g, L) x).1, (itS u v 0 (f, g, L) x).2.1, (itS u v 0 (f, g, L) x).2.2) (recN n) K ch 5 ) (cwV 1 hts gL_shuts_X8_count rfl rfl rfl mdX8_count ⟨Nat.le_of_ble_eq_true rfl, Nat.le_of_ble_eq_true rfl⟩) hA hL rfl hl rfl (Nat.le_of_ble_eq_true rfl) dL_shuts_99 ⟨Nat.le_of_ble_eq_true rfl, Nat.le_of_ble_eq_true rfl⟩) hA hL (fun r_99 H locs hr_99 hA hL => ?_)
        replace hr_99 : r_99 = ((itS u v 0 (f, g, L) x).2.1) 23 := hr_99
        subst hr_99
        refine lv_iload_n hx hb dL_shuts_102 rfl (lv_at hl 1 rfl) ?_
        refine lv_iconst (v := 1) hx hb dL_shuts_103 (by decide) ?_
        refine lv_iadd hx hb dL_shuts_104 ?_
        refine lv_icmp_ne (tgt := 112) hx hb dL_shuts_105 (by decide) (fun c_105 => absurd hsh.2 c_105) (fun c_105 => ?_)
        refine lv_iconst (v := 1) hx hb dL_shuts_108 (by decide) ?_
        refine lv_goto (tgt := 113) hx hb dL_shuts_109 (by decide) ?_
        exact en_l (post := fun r (N : Nat) => r = 1 ∧ N ≤ 99) (B := fun N H => LB G cA A o (u, v, (itS u v 0 (f, g, L) N).1, (itS u v 0 (f, g, L) N).2.1, (itS u v 0 (f, g, L) N).2.2) (if N = 0 then n else recN n) K ch H) x hx hb hr hlocks hA ⟨rfl, by omega⟩ (by show LB _ _ _ _ _ _ _ _ _; rw [if_neg (by omega : ¬ x = 0)]; exact hL) dL_shuts_113
      · skip
        refine lv_aload_n hx hb dL_shuts_65 rfl (lv_at hl 2 rfl) ?_
        refine lv_iconst (v := 0) hx hb dL_shuts_66 (by decide) ?_
        refine lv_iload_n hx hb dL_shuts_67 rfl (lv_at hl 1 rfl) ?_
        refine lv_iconst (v := 1) hx hb dL_shuts_68 (by decide) ?_
        refine lv_isub hx hb dL_shuts_69 ?_
        have hpr := pred_of (i := x) (fun h9 => ge1 hx1 (by omega) (by rw [h9]; decide))
        refine W.eq (g2 := F0 m 70 ls [.int (nI (x - 1)), .int 0, .ref o]) (by rw [hpr.2]) ?_
        refine lw_f (rL (rest := []) ⟨hx, hb, hml, hown, hts⟩ (LB_placeIn_ok l G cA A o (u, v, f, g, L) n K ch 0 (x - 1) (by decide) (by decide) (by omega) (fun k hk => hSk.1 k (by omega))) (cwV 2 hts gL_shuts_X8_placeIn rfl rfl rfl mdX8_placeIn ⟨Nat.le_of_ble_eq_true rfl, Nat.le_of_ble_eq_true rfl⟩) hA hL rfl hl rfl (Nat.le_of_ble_eq_true rfl) dL_shuts_70 ⟨Nat.le_of_ble_eq_true rfl, Nat.le_of_ble_eq_true rfl⟩) hA (fun r_70 _ H locs hr_70 hA hL => ?_)
        replace hL : LB G cA A o (u, v, f, g, L) n K ch H := hL
        subst hr_70
        refine lv_fconst0 hx hb dL_shuts_73 ?_
        refine lv_fcmp hx hb dL_shuts_74 ?_
        refine lv_if_le (tgt := 82) hx hb dL_shuts_75 (by decide) (fun c_75 => absurd c_75 (hsh.1 (fun h9 => c_62 (by rw [h9]; rfl)))) (fun c_75 => ?_)
        refine lv_iconst (v := 1) hx hb dL_shuts_78 (by decide) ?_
        refine lv_goto (tgt := 83) hx hb dL_shuts_79 (by decide) ?_
        refine lv_istore_n (lv' := [(3, .int 1), (2, .int (g 23)), (1, .int (nI x)), (0, .ref o)]) hx hb dL_shuts_83 rfl hl (by decide) rfl (fun ls hl => ?_)
        refine lv_iload_n hx hb dL_shuts_84 rfl (lv_at hl 0 rfl) ?_
        refine lv_if_eq (tgt := 112) hx hb dL_shuts_85 (by decide) (fun h9 => absurd h9 (by decide)) (fun _ => ?_)
        refine lv_aload_n hx hb dL_shuts_88 rfl (lv_at hl 3 rfl) ?_
        refine lv_iconst (v := 0) hx hb dL_shuts_89 (by decide) ?_
        refine lv_iload_n hx hb dL_shuts_90 rfl (lv_at hl 2 rfl) ?_
        refine lw_i (rL (rest := []) ⟨hx, hb, hml, hown, hts⟩ (LB_pass_ok l G cA A o (u, v, f, g, L) n K ch hn 0 x (by decide) (by decide) hx1 hx9 (hSk.2.1 x hx9) (fun k hk => hSk.1 k (by omega)) hSk.2.2.1) (cwV 2 hts gL_shuts_X8_pass rfl rfl rfl mdX8_pass ⟨Nat.le_of_ble_eq_true rfl, Nat.le_of_ble_eq_true rfl⟩) hA hL rfl hl rfl (Nat.le_of_ble_eq_true rfl) dL_shuts_91 ⟨Nat.le_of_ble_eq_true rfl, Nat.le_of_ble_eq_true rfl⟩) hA (fun r_91_1 _ H locs hr_91_1 hA hL => ?_)
        replace hL : LB G cA A o (u, v, (itS u v 0 (f, g, L) x).1, (itS u v 0 (f, g, L) x).2.1, (itS u v 0 (f, g, L) x).2.2) (recN n) K ch H := hL
        replace hr_91_1 : r_91_1 = 0 := hr_91_1.trans hs0
        subst hr_91_1
        refine lv_if_ne (tgt := 112) hx hb dL_shuts_94 (by decide) (fun h9 => absurd (by decide) h9) (fun _ => ?_)
        refine lv_aload_n hx hb dL_shuts_97 rfl (lv_at hl 3 rfl) ?_
        refine lv_iconst (v := 5) hx hb dL_shuts_98 (by decide) ?_
        refine lr_i (rL (rest := []) ⟨hx, hb, hml, hown, hts⟩ (LB_count l G cA A o (u, v, (itS u v 0 (f, g, L) x).1, (itS u v 0 (f, g, L) x).2.1, (itS u v 0 (f, g, L) x).2.2) (recN n) K ch 5 ) (cwV 1 hts gL_shuts_X8_count rfl rfl rfl mdX8_count ⟨Nat.le_of_ble_eq_true rfl, Nat.le_of_ble_eq_true rfl⟩) hA hL rfl hl rfl (Nat.le_of_ble_eq_true rfl) dL_shuts_99 ⟨Nat.le_of_ble_eq_true rfl, Nat.le_of_ble_eq_true rfl⟩) hA hL (fun r_99_1 H locs hr_99_1 hA hL => ?_)
        replace hr_99_1 : r_99_1 = ((itS u v 0 (f, g, L) x).2.1) 23 := hr_99_1
        subst hr_99_1
        refine lv_iload_n hx hb dL_shuts_102 rfl (lv_at hl 1 rfl) ?_
        refine lv_iconst (v := 1) hx hb dL_shuts_103 (by decide) ?_
        refine lv_iadd hx hb dL_shuts_104 ?_
        refine lv_icmp_ne (tgt := 112) hx hb dL_shuts_105 (by decide) (fun c_105_1 => absurd hsh.2 c_105_1) (fun c_105_1 => ?_)
        refine lv_iconst (v := 1) hx hb dL_shuts_108 (by decide) ?_
        refine lv_goto (tgt := 113) hx hb dL_shuts_109 (by decide) ?_
        exact en_l (post := fun r (N : Nat) => r = 1 ∧ N ≤ 99) (B := fun N H => LB G cA A o (u, v, (itS u v 0 (f, g, L) N).1, (itS u v 0 (f, g, L) N).2.1, (itS u v 0 (f, g, L) N).2.2) (if N = 0 then n else recN n) K ch H) x hx hb hr hlocks hA ⟨rfl, by omega⟩ (by show LB _ _ _ _ _ _ _ _ _; rw [if_neg (by omega : ¬ x = 0)]; exact hL) dL_shuts_113
    · skip
      refine lv_istore_n (lv' := [(1, .int (nI x)), (0, .ref o)]) hx hb dL_shuts_4 rfl hl (by decide) rfl (fun ls hl => ?_)
      refine lv_iload_n hx hb dL_shuts_5 rfl (lv_at hl 0 rfl) ?_
      refine lv_iconst (v := 1) hx hb dL_shuts_6 (by decide) ?_
      refine lv_icmp_lt (tgt := 16) hx hb dL_shuts_7 (by decide) (fun c_7_1 => absurd c_7_1 (ge1 hx1 (by omega))) (fun c_7_1 => ?_)
      refine lv_iload_n hx hb dL_shuts_10 rfl (lv_at hl 0 rfl) ?_
      refine lv_bipush (v := 99) hx hb dL_shuts_11 (by decide) ?_
      refine lv_icmp_le (tgt := 54) hx hb dL_shuts_13 (by decide) (fun c_13_1 => absurd c_13_1 (gt99 (by omega) (by omega))) (fun c_13_1 => ?_)
      refine lv_aload_n hx hb dL_shuts_16 rfl (lv_at hl 1 rfl) ?_
      refine lv_iconst (v := 0) hx hb dL_shuts_17 (by decide) ?_
      refine lr_i (rL (rest := []) ⟨hx, hb, hml, hown, hts⟩ (LB_door l G cA A o (u, v, f, g, L) n K ch 0 ) (cwV 1 hts gL_shuts_X8_door rfl rfl rfl mdX8_door ⟨Nat.le_of_ble_eq_true rfl, Nat.le_of_ble_eq_true rfl⟩) hA hL rfl hl rfl (Nat.le_of_ble_eq_true rfl) dL_shuts_18 ⟨Nat.le_of_ble_eq_true rfl, Nat.le_of_ble_eq_true rfl⟩) hA hL (fun r_18_1 H locs hr_18_1 hA hL => ?_)
      replace hr_18_1 : r_18_1 = g 13 := hr_18_1
      subst hr_18_1
      refine lv_if_ne (tgt := 36) hx hb dL_shuts_21 (by decide) (fun c_21_1 => ?_) (fun c_21_1 => absurd c_21_1 (hsk 0 (by omega)))
      refine lv_iload_n hx hb dL_shuts_36 rfl (lv_at hl 0 rfl) ?_
      refine lv_bipush (v := (-5)) hx hb dL_shuts_37 (by decide) ?_
      refine lv_icmp_eq (tgt := 48) hx hb dL_shuts_39 (by decide) (fun c_39 => ?_) (fun c_39 => ?_)
      · skip
        refine lv_iconst (v := 1) hx hb dL_shuts_48 (by decide) ?_
        refine lv_goto (tgt := 53) hx hb dL_shuts_49 (by decide) ?_
        exact en_l (post := fun r (N : Nat) => r = 1 ∧ N ≤ 99) (B := fun N H => LB G cA A o (u, v, (itS u v 0 (f, g, L) N).1, (itS u v 0 (f, g, L) N).2.1, (itS u v 0 (f, g, L) N).2.2) (if N = 0 then n else recN n) K ch H) 0 hx hb hr hlocks hA ⟨rfl, by omega⟩ hL dL_shuts_53
      · skip
        refine lv_iload_n hx hb dL_shuts_42 rfl (lv_at hl 0 rfl) ?_
        refine lv_bipush (v := 99) hx hb dL_shuts_43 (by decide) ?_
        refine lv_icmp_le (tgt := 52) hx hb dL_shuts_45 (by decide) (fun c_45 => absurd c_45 (gt99 (by omega) (by omega))) (fun c_45 => ?_)
        refine lv_iconst (v := 1) hx hb dL_shuts_48 (by decide) ?_
        refine lv_goto (tgt := 53) hx hb dL_shuts_49 (by decide) ?_
        exact en_l (post := fun r (N : Nat) => r = 1 ∧ N ≤ 99) (B := fun N H => LB G cA A o (u, v, (itS u v 0 (f, g, L) N).1, (itS u v 0 (f, g, L) N).2.1, (itS u v 0 (f, g, L) N).2.2) (if N = 0 then n else recN n) K ch H) 0 hx hb hr hlocks hA ⟨rfl, by omega⟩ hL dL_shuts_53
  · skip
    refine lv_istore_n (lv' := [(1, .int (-5)), (0, .ref o)]) hx hb dL_shuts_4 rfl hl (by decide) rfl (fun ls hl => ?_)
    refine lv_iload_n hx hb dL_shuts_5 rfl (lv_at hl 0 rfl) ?_
    refine lv_iconst (v := 1) hx hb dL_shuts_6 (by decide) ?_
    refine lv_icmp_lt (tgt := 16) hx hb dL_shuts_7 (by decide) (fun _ => ?_) (fun h9 => absurd (by decide) h9)
    refine lv_aload_n hx hb dL_shuts_16 rfl (lv_at hl 1 rfl) ?_
    refine lv_iconst (v := 0) hx hb dL_shuts_17 (by decide) ?_
    refine lr_i (rL (rest := []) ⟨hx, hb, hml, hown, hts⟩ (LB_door l G cA A o (u, v, f, g, L) n K ch 0 ) (cwV 1 hts gL_shuts_X8_door rfl rfl rfl mdX8_door ⟨Nat.le_of_ble_eq_true rfl, Nat.le_of_ble_eq_true rfl⟩) hA hL rfl hl rfl (Nat.le_of_ble_eq_true rfl) dL_shuts_18 ⟨Nat.le_of_ble_eq_true rfl, Nat.le_of_ble_eq_true rfl⟩) hA hL (fun r_18_2 H locs hr_18_2 hA hL => ?_)
    replace hr_18_2 : r_18_2 = g 13 := hr_18_2
    subst hr_18_2
    refine lv_if_ne (tgt := 36) hx hb dL_shuts_21 (by decide) (fun c_21_2 => ?_) (fun c_21_2 => absurd c_21_2 (hsk 0 (by omega)))
    refine lv_iload_n hx hb dL_shuts_36 rfl (lv_at hl 0 rfl) ?_
    refine lv_bipush (v := (-5)) hx hb dL_shuts_37 (by decide) ?_
    refine lv_icmp_eq (tgt := 48) hx hb dL_shuts_39 (by decide) (fun _ => ?_) (fun h9 => absurd (by decide) h9)
    refine lv_iconst (v := 1) hx hb dL_shuts_48 (by decide) ?_
    refine lv_goto (tgt := 53) hx hb dL_shuts_49 (by decide) ?_
    exact en_l (post := fun r (N : Nat) => r = 1 ∧ N ≤ 99) (B := fun N H => LB G cA A o (u, v, (itS u v 0 (f, g, L) N).1, (itS u v 0 (f, g, L) N).2.1, (itS u v 0 (f, g, L) N).2.2) (if N = 0 then n else recN n) K ch H) 0 hx hb hr hlocks hA ⟨rfl, by omega⟩ hL dL_shuts_53
