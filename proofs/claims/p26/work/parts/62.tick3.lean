/-! tick(o, 0), where the thing that is there ends (by wip/p26/tick.py) -/
theorem one_n1 {x : Int32} (h : ¬ oneF x = 1) : x = 0 := Classical.byContradiction fun h9 => h (if_neg h9)
theorem one_y1 {x : Int32} (h : oneF x = 1) : ¬ x = 0 := fun h9 => absurd (h.symm.trans (if_pos h9)) (by decide)
theorem mv_k {u : FF} {v : GG} {f : FF} {g : GG} {b : Int32} {k : Nat} (hk : k = 27 ∨ k = 19 ∨ k = 20 ∨ k = 21 ∨ k = 22 ∨ k = 18) : mvG u v f g b k = g k := by
  unfold mvG cosG
  rcases hk with rfl | rfl | rfl | rfl | rfl | rfl
  all_goals
    split
    · rfl
    · split
      · rfl
      · split
        · split
          · rfl
          · split <;> rfl
        · rfl
theorem ju_new {u : FF} {v : GG} {f : FF} {g L : GG} (hc : ¬ clearR g (v 4) = 0) (h18 : ¬ goG u v f g 0 18 ≤ 0) : juF (goG u v f g 0) (goL u v g L 0) 0 0 = bestK u g ∧ juF (goG u v f g 0) (goL u v g L 0) 0 4 = goG u v f g 0 27 - 1 := by
  have hL : goL u v g L 0 = judgeL u (clearG g) L := by unfold goL; rw [if_pos rfl, if_neg hc]
  have h27 : goG u v f g 0 27 = g 27 + 1 := by rw [go_27, mv_k (Or.inl rfl), pre_27]
  refine ⟨?_, ?_⟩
  · unfold juF enF
    rw [if_neg (by decide), if_neg (by decide), if_pos (by decide), if_neg (by decide), if_neg h18, if_neg (by decide), if_neg (by decide), if_neg (by decide), hL]
    exact cl_bestK
  · unfold juF enF
    rw [if_neg (by decide), if_neg (by decide), if_pos (by decide), if_neg (by decide), if_neg h18, if_neg (by decide), if_neg (by decide), if_neg (by decide), hL, h27, Int32.add_sub_cancel]
    rfl
theorem cn_new {u : FF} {v : GG} {f : FF} {g : GG} {n K : Nat} (hc : ¬ clearR g (v 4) = 0) : cnF (goG u v f g 0) (nI (recN n)) (nI K) (bestK u g + 1) = cnF g (nI n) (nI K) (bestK u g + 1) + 1 := by
  have h19 : goG u v f g 0 19 = if bestK u g = 0 then g 19 + 1 else g 19 := by rw [go_G (by decide), mv_k (Or.inr (Or.inl rfl)), pre_e hc, ← cl_bestK]; rfl
  have h20 : goG u v f g 0 20 = if bestK u g = 1 then g 20 + 1 else g 20 := by rw [go_G (by decide), mv_k (Or.inr (Or.inr (Or.inl rfl))), pre_e hc, ← cl_bestK]; rfl
  have h21 : goG u v f g 0 21 = if bestK u g = 2 then g 21 + 1 else g 21 := by rw [go_G (by decide), mv_k (Or.inr (Or.inr (Or.inr (Or.inl rfl)))), pre_e hc, ← cl_bestK]; rfl
  have h22 : goG u v f g 0 22 = if bestK u g = 3 then g 22 + 1 else g 22 := by rw [go_G (by decide), mv_k (Or.inr (Or.inr (Or.inr (Or.inr (Or.inl rfl))))), pre_e hc, ← cl_bestK]; rfl
  rcases bestK_in (u := u) (g := g) with e | e | e | e
  · rw [e] at h19 ⊢; exact h19
  · rw [e] at h20 ⊢; exact h20
  · rw [e] at h21 ⊢; exact h21
  · rw [e] at h22 ⊢; exact h22
set_option maxHeartbeats 8000000 in
set_option maxRecDepth 100000 in
/-- tick(o, beams), in the state 0, case te -/
theorem cL_tick_0_te (l : Launch) (G : va_G) (cA : Nat → ClassId) (A : Nat → Prop) (o : Nat) (u : FF) (v : GG) (f : FF) (g L : GG) (n K : Nat) (ch : GG) (hs : g 13 = 0) (hn : n ≤ 4) (hGo : GoOk u f g) (hPr : PrOk u g) (hP2 : PrOk u (goG u v f g 0)) (hT : ¬ 99999 < g 27 + nI 1) (hBo : Bo g) (hf : vf_n32 (f 7)) (hg : ¬ g 5 = 0) (h7 : ¬ g 7 < 1) (hc : ¬ g 11 + 1 < v 4) (h18 : ¬ (goG u v f g 0) 18 ≤ 0) : Met l yL_tick wsL_tick ({ frames := 7, cells := 0, slots := 0, locals := 160 } : Room) (va_Pc [.ref o, .int 0] (LbP G cA A o (u, v, f, g, L) n K ch)) (va_Qi (fun r (_ : Unit) => r = 1) (fun _ t => LB G cA A o (u, v, (goF u v f g 0), (goG u v f g 0), (goL u v g L 0)) (recN n) K ch t.heap) A) 0 0 A := by
  refine ofW2 (cc := cL_tick) (maxL := 19) (ret := (some .boolean)) (own := RL) (by decide) rfl rfl (Nat.le_of_ble_eq_true rfl) rfl ?_
  intro p e s m below meth c ls hx hb hml hr hts hown hlocks hv hl
  obtain ⟨hE, hN, hL⟩ := hv
  have hA : At G cA A s s.heap [] := ⟨hE, hN, va_S.rf⟩
  obtain ⟨H, hH0⟩ : ∃ H, H = s.heap := ⟨_, rfl⟩
  rw [← hH0] at hL ⊢
  replace hA : At G cA A s H [] := by rw [hH0]; exact hA
  generalize ([] : List Loc) = locs at hA ⊢
  clear hH0
  replace hl : lv_has ls 19 [(0, .ref o), (1, .int 0)] := hl
  have hG1 : ∀ k, k < 1 → GoOk u (itS u v 0 (f, g, L) k).1 (itS u v 0 (f, g, L) k).2.1 := fun k hk => (show k = 0 by omega) ▸ hGo
  have ht := t_0 (b := 0) hs (u := u) (v := v) (f := f)
  have hcr : ¬ clearR g (v 4) = 0 := clearR_yes hg hc
  have h5 : (goG u v f g 0) 5 = 0 := mv_5.trans (pre_5e hcr)
  have hju := ju_new (u := u) (f := f) (L := L) hcr h18
  have hcn := cn_new (u := u) (f := f) (n := n) (K := K) hcr
  have hp16 : preG u v g 0 16 = (if bestK u g = 0 then (if g 12 = 0 then g 16 else if g 16 ≤ 0 then g 16 else g 16 - 1) else g 16) := pre_16e hcr
  refine lv_aload_n hx hb dL_tick_0 rfl (lv_at hl 0 rfl) ?_
  refine lv_iconst (v := 0) hx hb dL_tick_1 (by decide) ?_
  refine lr_i (rL (rest := []) ⟨hx, hb, hml, hown, hts⟩ (LB_door l G cA A o (u, v, f, g, L) n K ch 0 ) (cwV 1 hts gL_tick_X8_door rfl rfl rfl mdX8_door ⟨Nat.le_of_ble_eq_true rfl, Nat.le_of_ble_eq_true rfl⟩) hA hL rfl hl rfl (Nat.le_of_ble_eq_true rfl) dL_tick_2 ⟨Nat.le_of_ble_eq_true rfl, Nat.le_of_ble_eq_true rfl⟩) hA hL (fun r_2 H locs hr_2 hA hL => ?_)
  replace hr_2 : r_2 = 0 := hr_2.trans hs
  subst hr_2
  refine lv_istore_n (lv' := [(2, .int 0), (0, .ref o), (1, .int 0)]) hx hb dL_tick_5 rfl hl (by decide) rfl (fun ls hl => ?_)
  refine lv_aload_n hx hb dL_tick_6 rfl (lv_at hl 1 rfl) ?_
  refine lr_f (rL (rest := []) ⟨hx, hb, hml, hown, hts⟩ (LB_place l G cA A o (u, v, f, g, L) n K ch  ) (cwV 0 hts gL_tick_X8_place rfl rfl rfl mdX8_place ⟨Nat.le_of_ble_eq_true rfl, Nat.le_of_ble_eq_true rfl⟩) hA hL rfl hl rfl (Nat.le_of_ble_eq_true rfl) dL_tick_7 ⟨Nat.le_of_ble_eq_true rfl, Nat.le_of_ble_eq_true rfl⟩) hA hL (fun r_7 H locs hr_7 hA hL => ?_)
  replace hr_7 : r_7 = f 7 := hr_7
  subst hr_7
  refine lv_fstore_n (lv' := [(3, .float (f 7)), (2, .int 0), (0, .ref o), (1, .int 0)]) hx hb dL_tick_10 rfl hl (by decide) rfl (fun ls hl => ?_)
  refine lv_aload_n hx hb dL_tick_11 rfl (lv_at hl 2 rfl) ?_
  refine lv_iconst (v := 1) hx hb dL_tick_12 (by decide) ?_
  refine lr_i (rL (rest := []) ⟨hx, hb, hml, hown, hts⟩ (LB_door l G cA A o (u, v, f, g, L) n K ch 1 ) (cwV 1 hts gL_tick_X8_door rfl rfl rfl mdX8_door ⟨Nat.le_of_ble_eq_true rfl, Nat.le_of_ble_eq_true rfl⟩) hA hL rfl hl rfl (Nat.le_of_ble_eq_true rfl) dL_tick_13 ⟨Nat.le_of_ble_eq_true rfl, Nat.le_of_ble_eq_true rfl⟩) hA hL (fun r_13 H locs hr_13 hA hL => ?_)
  replace hr_13 : r_13 = g 16 := hr_13
  subst hr_13
  refine lv_istore (lv' := [(4, .int (g 16)), (3, .float (f 7)), (2, .int 0), (0, .ref o), (1, .int 0)]) hx hb dL_tick_16 hl (by decide) rfl (fun ls hl => ?_)
  refine lv_aload_n hx hb dL_tick_18 rfl (lv_at hl 3 rfl) ?_
  refine lv_iconst (v := 3) hx hb dL_tick_19 (by decide) ?_
  refine lr_i (rL (rest := []) ⟨hx, hb, hml, hown, hts⟩ (LB_door l G cA A o (u, v, f, g, L) n K ch 3 ) (cwV 1 hts gL_tick_X8_door rfl rfl rfl mdX8_door ⟨Nat.le_of_ble_eq_true rfl, Nat.le_of_ble_eq_true rfl⟩) hA hL rfl hl rfl (Nat.le_of_ble_eq_true rfl) dL_tick_20 ⟨Nat.le_of_ble_eq_true rfl, Nat.le_of_ble_eq_true rfl⟩) hA hL (fun r_20 H locs hr_20 hA hL => ?_)
  rw [show doF f g 3 = 0 from (by show (if g 13 = 2 then g 14 else 0) = 0; rw [if_neg (by rw [hs]; decide)])] at hr_20
  subst hr_20
  refine lv_istore (lv' := [(5, .int 0), (4, .int (g 16)), (3, .float (f 7)), (2, .int 0), (0, .ref o), (1, .int 0)]) hx hb dL_tick_23 hl (by decide) rfl (fun ls hl => ?_)
  refine lv_aload_n hx hb dL_tick_25 rfl (lv_at hl 4 rfl) ?_
  refine lv_iconst (v := 4) hx hb dL_tick_26 (by decide) ?_
  refine lr_i (rL (rest := []) ⟨hx, hb, hml, hown, hts⟩ (LB_door l G cA A o (u, v, f, g, L) n K ch 4 ) (cwV 1 hts gL_tick_X8_door rfl rfl rfl mdX8_door ⟨Nat.le_of_ble_eq_true rfl, Nat.le_of_ble_eq_true rfl⟩) hA hL rfl hl rfl (Nat.le_of_ble_eq_true rfl) dL_tick_27 ⟨Nat.le_of_ble_eq_true rfl, Nat.le_of_ble_eq_true rfl⟩) hA hL (fun r_27 H locs hr_27 hA hL => ?_)
  rw [show doF f g 4 = 0 from (by show (if g 13 = 3 then g 15 else 0) = 0; rw [if_neg (by rw [hs]; decide)])] at hr_27
  subst hr_27
  refine lv_istore (lv' := [(6, .int 0), (5, .int 0), (4, .int (g 16)), (3, .float (f 7)), (2, .int 0), (0, .ref o), (1, .int 0)]) hx hb dL_tick_30 hl (by decide) rfl (fun ls hl => ?_)
  refine lv_aload_n hx hb dL_tick_32 rfl (lv_at hl 5 rfl) ?_
  refine lv_iconst (v := 2) hx hb dL_tick_33 (by decide) ?_
  refine lr_i (rL (rest := []) ⟨hx, hb, hml, hown, hts⟩ (LB_door l G cA A o (u, v, f, g, L) n K ch 2 ) (cwV 1 hts gL_tick_X8_door rfl rfl rfl mdX8_door ⟨Nat.le_of_ble_eq_true rfl, Nat.le_of_ble_eq_true rfl⟩) hA hL rfl hl rfl (Nat.le_of_ble_eq_true rfl) dL_tick_34 ⟨Nat.le_of_ble_eq_true rfl, Nat.le_of_ble_eq_true rfl⟩) hA hL (fun r_34 H locs hr_34 hA hL => ?_)
  replace hr_34 : r_34 = oneF (g 17) := hr_34
  subst hr_34
  refine lv_istore (lv' := [(7, .int (oneF (g 17))), (6, .int 0), (5, .int 0), (4, .int (g 16)), (3, .float (f 7)), (2, .int 0), (0, .ref o), (1, .int 0)]) hx hb dL_tick_37 hl (by decide) rfl (fun ls hl => ?_)
  refine lv_aload_n hx hb dL_tick_39 rfl (lv_at hl 6 rfl) ?_
  refine lv_iconst (v := 0) hx hb dL_tick_40 (by decide) ?_
  refine lr_i (rL (rest := []) ⟨hx, hb, hml, hown, hts⟩ (LB_thing l G cA A o (u, v, f, g, L) n K ch 0 hPr) (cwV 1 hts gL_tick_X8_thing rfl rfl rfl mdX8_thing ⟨Nat.le_of_ble_eq_true rfl, Nat.le_of_ble_eq_true rfl⟩) hA hL rfl hl rfl (Nat.le_of_ble_eq_true rfl) dL_tick_41 ⟨Nat.le_of_ble_eq_true rfl, Nat.le_of_ble_eq_true rfl⟩) hA hL (fun r_41 H locs hr_41 hA hL => ?_)
  replace hr_41 : r_41 = g 7 := hr_41.trans (th_0 hg)
  subst hr_41
  refine lv_istore (lv' := [(8, .int (g 7)), (7, .int (oneF (g 17))), (6, .int 0), (5, .int 0), (4, .int (g 16)), (3, .float (f 7)), (2, .int 0), (0, .ref o), (1, .int 0)]) hx hb dL_tick_44 hl (by decide) rfl (fun ls hl => ?_)
  refine lv_iload hx hb dL_tick_46 (lv_at hl 0 rfl) ?_
  refine lv_if_ge (tgt := 55) hx hb dL_tick_48 (by decide) (fun c_48 => ?_) (fun c_48 => absurd (show g 7 < 1 by have := Int32.not_le.mp c_48; exact Int32.lt_trans this (by decide)) h7)
  refine lv_aload_n hx hb dL_tick_55 rfl (lv_at hl 7 rfl) ?_
  refine lv_iconst (v := 5) hx hb dL_tick_56 (by decide) ?_
  refine lr_i (rL (rest := []) ⟨hx, hb, hml, hown, hts⟩ (LB_thing l G cA A o (u, v, f, g, L) n K ch 5 hPr) (cwV 1 hts gL_tick_X8_thing rfl rfl rfl mdX8_thing ⟨Nat.le_of_ble_eq_true rfl, Nat.le_of_ble_eq_true rfl⟩) hA hL rfl hl rfl (Nat.le_of_ble_eq_true rfl) dL_tick_57 ⟨Nat.le_of_ble_eq_true rfl, Nat.le_of_ble_eq_true rfl⟩) hA hL (fun r_57 H locs hr_57 hA hL => ?_)
  replace hr_57 : r_57 = g 11 := hr_57.trans (th_5 hg)
  subst hr_57
  refine lv_istore (lv' := [(9, .int (g 11)), (8, .int (g 7)), (7, .int (oneF (g 17))), (6, .int 0), (5, .int 0), (4, .int (g 16)), (3, .float (f 7)), (2, .int 0), (0, .ref o), (1, .int 0)]) hx hb dL_tick_60 hl (by decide) rfl (fun ls hl => ?_)
  refine lv_iload hx hb dL_tick_62 (lv_at hl 1 rfl) ?_
  refine lv_if_ge (tgt := 71) hx hb dL_tick_64 (by decide) (fun c_64 => ?_) (fun c_64 => absurd c_48 c_64)
  refine lv_aload_n hx hb dL_tick_71 rfl (lv_at hl 8 rfl) ?_
  refine lv_bipush (v := 6) hx hb dL_tick_72 (by decide) ?_
  refine lr_i (rL (rest := []) ⟨hx, hb, hml, hown, hts⟩ (LB_thing l G cA A o (u, v, f, g, L) n K ch 6 hPr) (cwV 1 hts gL_tick_X8_thing rfl rfl rfl mdX8_thing ⟨Nat.le_of_ble_eq_true rfl, Nat.le_of_ble_eq_true rfl⟩) hA hL rfl hl rfl (Nat.le_of_ble_eq_true rfl) dL_tick_74 ⟨Nat.le_of_ble_eq_true rfl, Nat.le_of_ble_eq_true rfl⟩) hA hL (fun r_74 H locs hr_74 hA hL => ?_)
  replace hr_74 : r_74 = oneF (g 12) := hr_74.trans (th_6 hg)
  subst hr_74
  refine lv_istore (lv' := [(10, .int (oneF (g 12))), (9, .int (g 11)), (8, .int (g 7)), (7, .int (oneF (g 17))), (6, .int 0), (5, .int 0), (4, .int (g 16)), (3, .float (f 7)), (2, .int 0), (0, .ref o), (1, .int 0)]) hx hb dL_tick_77 hl (by decide) rfl (fun ls hl => ?_)
  refine lv_iload hx hb dL_tick_79 (lv_at hl 2 rfl) ?_
  refine lv_if_ge (tgt := 88) hx hb dL_tick_81 (by decide) (fun c_81 => ?_) (fun c_81 => absurd c_48 c_81)
  refine lv_aload_n hx hb dL_tick_88 rfl (lv_at hl 9 rfl) ?_
  refine lv_bipush (v := 7) hx hb dL_tick_89 (by decide) ?_
  refine lr_i (rL (rest := []) ⟨hx, hb, hml, hown, hts⟩ (LB_thing l G cA A o (u, v, f, g, L) n K ch 7 hPr) (cwV 1 hts gL_tick_X8_thing rfl rfl rfl mdX8_thing ⟨Nat.le_of_ble_eq_true rfl, Nat.le_of_ble_eq_true rfl⟩) hA hL rfl hl rfl (Nat.le_of_ble_eq_true rfl) dL_tick_91 ⟨Nat.le_of_ble_eq_true rfl, Nat.le_of_ble_eq_true rfl⟩) hA hL (fun r_91 H locs hr_91 hA hL => ?_)
  replace hr_91 : r_91 = bestK u g := hr_91.trans (th_7 hg)
  subst hr_91
  refine lv_istore (lv' := [(11, .int (bestK u g)), (10, .int (oneF (g 12))), (9, .int (g 11)), (8, .int (g 7)), (7, .int (oneF (g 17))), (6, .int 0), (5, .int 0), (4, .int (g 16)), (3, .float (f 7)), (2, .int 0), (0, .ref o), (1, .int 0)]) hx hb dL_tick_94 hl (by decide) rfl (fun ls hl => ?_)
  refine lv_aload_n hx hb dL_tick_96 rfl (lv_at hl 10 rfl) ?_
  refine lv_iload_n hx hb dL_tick_97 rfl (lv_at hl 11 rfl) ?_
  refine lv_iconst (v := 1) hx hb dL_tick_98 (by decide) ?_
  refine lw_f (rL (rest := []) ⟨hx, hb, hml, hown, hts⟩ (LB_placeIn_ok l G cA A o (u, v, f, g, L) n K ch 0 1 (by decide) (by decide) (by decide) hG1) (cwV 2 hts gL_tick_X8_placeIn rfl rfl rfl mdX8_placeIn ⟨Nat.le_of_ble_eq_true rfl, Nat.le_of_ble_eq_true rfl⟩) hA hL rfl hl rfl (Nat.le_of_ble_eq_true rfl) dL_tick_99 ⟨Nat.le_of_ble_eq_true rfl, Nat.le_of_ble_eq_true rfl⟩) hA (fun r_99 _ H locs hr_99 hA hL => ?_)
  replace hL : LB G cA A o (u, v, f, g, L) n K ch H := hL
  replace hr_99 : r_99 = (goF u v f g 0) 7 := hr_99
  subst hr_99
  refine lv_fstore (lv' := [(12, .float ((goF u v f g 0) 7)), (11, .int (bestK u g)), (10, .int (oneF (g 12))), (9, .int (g 11)), (8, .int (g 7)), (7, .int (oneF (g 17))), (6, .int 0), (5, .int 0), (4, .int (g 16)), (3, .float (f 7)), (2, .int 0), (0, .ref o), (1, .int 0)]) hx hb dL_tick_102 hl (by decide) rfl (fun ls hl => ?_)
  refine lv_aload_n hx hb dL_tick_104 rfl (lv_at hl 11 rfl) ?_
  refine lv_iload hx hb dL_tick_105 (lv_at hl 1 rfl) ?_
  refine lv_iconst (v := 1) hx hb dL_tick_107 (by decide) ?_
  refine lv_iadd hx hb dL_tick_108 ?_
  refine lr_i (rL (rest := []) ⟨hx, hb, hml, hown, hts⟩ (LB_count l G cA A o (u, v, f, g, L) n K ch ((bestK u g) + 1)) (cwV 1 hts gL_tick_X8_count rfl rfl rfl mdX8_count ⟨Nat.le_of_ble_eq_true rfl, Nat.le_of_ble_eq_true rfl⟩) hA hL rfl hl rfl (Nat.le_of_ble_eq_true rfl) dL_tick_109 ⟨Nat.le_of_ble_eq_true rfl, Nat.le_of_ble_eq_true rfl⟩) hA hL (fun r_109 H locs hr_109 hA hL => ?_)
  replace hr_109 : r_109 = cnF g (nI n) (nI K) ((bestK u g) + 1) := hr_109
  subst hr_109
  refine lv_istore (lv' := [(13, .int (cnF g (nI n) (nI K) ((bestK u g) + 1))), (12, .float ((goF u v f g 0) 7)), (11, .int (bestK u g)), (10, .int (oneF (g 12))), (9, .int (g 11)), (8, .int (g 7)), (7, .int (oneF (g 17))), (6, .int 0), (5, .int 0), (4, .int (g 16)), (3, .float (f 7)), (2, .int 0), (0, .ref o), (1, .int 0)]) hx hb dL_tick_112 hl (by decide) rfl (fun ls hl => ?_)
  refine lv_iload hx hb dL_tick_114 (lv_at hl 5 rfl) ?_
  refine lv_if_le (tgt := 139) hx hb dL_tick_116 (by decide) (fun c_116 => absurd (Int32.lt_of_lt_of_le (by decide) (Int32.not_lt.mp h7)) (Int32.not_lt.mpr c_116)) (fun c_116 => ?_)
  refine lv_iload_n hx hb dL_tick_119 rfl (lv_at hl 13 rfl) ?_
  refine lv_if_ne (tgt := 139) hx hb dL_tick_120 (by decide) (fun h9 => absurd (by decide) h9) (fun _ => ?_)
  refine lv_iload hx hb dL_tick_123 (lv_at hl 4 rfl) ?_
  refine lv_iconst (v := 1) hx hb dL_tick_125 (by decide) ?_
  refine lv_iadd hx hb dL_tick_126 ?_
  refine lv_aload_n hx hb dL_tick_127 rfl (lv_at hl 12 rfl) ?_
  refine lv_iconst (v := 4) hx hb dL_tick_128 (by decide) ?_
  refine lr_i (rL (rest := [.int ((g 11) + 1)]) ⟨hx, hb, hml, hown, hts⟩ (LB_number l G cA A o (u, v, f, g, L) n K ch 4 ) (cwV 1 hts gL_tick_X8_number rfl rfl rfl mdX8_number ⟨Nat.le_of_ble_eq_true rfl, Nat.le_of_ble_eq_true rfl⟩) hA hL rfl hl rfl (Nat.le_of_ble_eq_true rfl) dL_tick_129 ⟨Nat.le_of_ble_eq_true rfl, Nat.le_of_ble_eq_true rfl⟩) hA hL (fun r_129 H locs hr_129 hA hL => ?_)
  replace hr_129 : r_129 = v 4 := hr_129
  subst hr_129
  refine lv_icmp_lt (tgt := 139) hx hb dL_tick_132 (by decide) (fun c_132 => absurd c_132 hc) (fun c_132 => ?_)
  refine lv_iconst (v := 1) hx hb dL_tick_135 (by decide) ?_
  refine lv_goto (tgt := 140) hx hb dL_tick_136 (by decide) ?_
  refine lv_istore (lv' := [(14, .int 1), (13, .int (cnF g (nI n) (nI K) ((bestK u g) + 1))), (12, .float ((goF u v f g 0) 7)), (11, .int (bestK u g)), (10, .int (oneF (g 12))), (9, .int (g 11)), (8, .int (g 7)), (7, .int (oneF (g 17))), (6, .int 0), (5, .int 0), (4, .int (g 16)), (3, .float (f 7)), (2, .int 0), (0, .ref o), (1, .int 0)]) hx hb dL_tick_140 hl (by decide) rfl (fun ls hl => ?_)
  refine lv_iload hx hb dL_tick_142 (lv_at hl 10 rfl) ?_
  refine lv_iload hx hb dL_tick_144 (lv_at hl 0 rfl) ?_
  refine lv_if_eq (tgt := 169) hx hb dL_tick_146 (by decide) (fun h9 => absurd h9 (by decide)) (fun _ => ?_)
  refine lv_iload hx hb dL_tick_149 (lv_at hl 3 rfl) ?_
  refine lv_if_ne (tgt := 169) hx hb dL_tick_151 (by decide) (fun c_151 => ?_) (fun c_151 => ?_)
  · skip
    refine lv_iconst (v := 0) hx hb dL_tick_169 (by decide) ?_
    refine lv_isub hx hb dL_tick_170 ?_
    refine W.eq (g2 := F0 m 171 ls [.int (preG u v g 0 16)]) (by rw [hp16, if_neg c_151, Int32.sub_zero]) ?_
    refine lv_istore (lv' := [(4, .int (preG u v g 0 16)), (14, .int 1), (13, .int (cnF g (nI n) (nI K) ((bestK u g) + 1))), (12, .float ((goF u v f g 0) 7)), (11, .int (bestK u g)), (10, .int (oneF (g 12))), (9, .int (g 11)), (8, .int (g 7)), (7, .int (oneF (g 17))), (6, .int 0), (5, .int 0), (3, .float (f 7)), (2, .int 0), (0, .ref o), (1, .int 0)]) hx hb dL_tick_171 hl (by decide) rfl (fun ls hl => ?_)
    refine lv_iload_n hx hb dL_tick_173 rfl (lv_at hl 12 rfl) ?_
    refine lv_istore (lv' := [(15, .int 0), (4, .int (preG u v g 0 16)), (14, .int 1), (13, .int (cnF g (nI n) (nI K) ((bestK u g) + 1))), (12, .float ((goF u v f g 0) 7)), (11, .int (bestK u g)), (10, .int (oneF (g 12))), (9, .int (g 11)), (8, .int (g 7)), (7, .int (oneF (g 17))), (6, .int 0), (5, .int 0), (3, .float (f 7)), (2, .int 0), (0, .ref o), (1, .int 0)]) hx hb dL_tick_174 hl (by decide) rfl (fun ls hl => ?_)
    refine lv_fload_n hx hb dL_tick_176 rfl (lv_at hl 12 rfl) ?_
    refine lv_fstore (lv' := [(16, .float (f 7)), (15, .int 0), (4, .int (preG u v g 0 16)), (14, .int 1), (13, .int (cnF g (nI n) (nI K) ((bestK u g) + 1))), (12, .float ((goF u v f g 0) 7)), (11, .int (bestK u g)), (10, .int (oneF (g 12))), (9, .int (g 11)), (8, .int (g 7)), (7, .int (oneF (g 17))), (6, .int 0), (5, .int 0), (3, .float (f 7)), (2, .int 0), (0, .ref o), (1, .int 0)]) hx hb dL_tick_177 hl (by decide) rfl (fun ls hl => ?_)
    refine lv_iload_n hx hb dL_tick_179 rfl (lv_at hl 14 rfl) ?_
    refine lv_iconst (v := 1) hx hb dL_tick_180 (by decide) ?_
    refine lv_icmp_ne (tgt := 228) hx hb dL_tick_181 (by decide) (fun _ => ?_) (fun h9 => absurd h9 (by decide))
    refine lv_iload_n hx hb dL_tick_228 rfl (lv_at hl 14 rfl) ?_
    refine lv_iconst (v := 2) hx hb dL_tick_229 (by decide) ?_
    refine lv_icmp_ne (tgt := 264) hx hb dL_tick_230 (by decide) (fun _ => ?_) (fun h9 => absurd h9 (by decide))
    refine lv_iload_n hx hb dL_tick_264 rfl (lv_at hl 14 rfl) ?_
    refine lv_iconst (v := 3) hx hb dL_tick_265 (by decide) ?_
    refine lv_icmp_ne (tgt := 311) hx hb dL_tick_266 (by decide) (fun _ => ?_) (fun h9 => absurd h9 (by decide))
    refine lv_iload_n hx hb dL_tick_311 rfl (lv_at hl 14 rfl) ?_
    refine lv_iconst (v := 3) hx hb dL_tick_312 (by decide) ?_
    refine lv_icmp_ne (tgt := 385) hx hb dL_tick_313 (by decide) (fun _ => ?_) (fun h9 => absurd h9 (by decide))
    refine lv_iload_n hx hb dL_tick_385 rfl (lv_at hl 14 rfl) ?_
    refine lv_iconst (v := 3) hx hb dL_tick_386 (by decide) ?_
    refine lv_icmp_ne (tgt := 400) hx hb dL_tick_387 (by decide) (fun _ => ?_) (fun h9 => absurd h9 (by decide))
    refine lv_iconst (v := 0) hx hb dL_tick_400 (by decide) ?_
    refine lv_istore (lv' := [(17, .int 0), (16, .float (f 7)), (15, .int 0), (4, .int (preG u v g 0 16)), (14, .int 1), (13, .int (cnF g (nI n) (nI K) ((bestK u g) + 1))), (12, .float ((goF u v f g 0) 7)), (11, .int (bestK u g)), (10, .int (oneF (g 12))), (9, .int (g 11)), (8, .int (g 7)), (7, .int (oneF (g 17))), (6, .int 0), (5, .int 0), (3, .float (f 7)), (2, .int 0), (0, .ref o), (1, .int 0)]) hx hb dL_tick_401 hl (by decide) rfl (fun ls hl => ?_)
    refine lv_iload hx hb dL_tick_403 (lv_at hl 0 rfl) ?_
    refine lv_if_eq (tgt := 428) hx hb dL_tick_405 (by decide) (fun _ => ?_) (fun h9 => absurd (by decide) h9)
    refine lv_iconst (v := 0) hx hb dL_tick_428 (by decide) ?_
    refine lv_istore (lv' := [(18, .int 0), (17, .int 0), (16, .float (f 7)), (15, .int 0), (4, .int (preG u v g 0 16)), (14, .int 1), (13, .int (cnF g (nI n) (nI K) ((bestK u g) + 1))), (12, .float ((goF u v f g 0) 7)), (11, .int (bestK u g)), (10, .int (oneF (g 12))), (9, .int (g 11)), (8, .int (g 7)), (7, .int (oneF (g 17))), (6, .int 0), (5, .int 0), (3, .float (f 7)), (2, .int 0), (0, .ref o), (1, .int 0)]) hx hb dL_tick_429 hl (by decide) rfl (fun ls hl => ?_)
    refine lv_aload_n hx hb dL_tick_431 rfl (lv_at hl 17 rfl) ?_
    refine lv_iload_n hx hb dL_tick_432 rfl (lv_at hl 18 rfl) ?_
    refine lv_iconst (v := 1) hx hb dL_tick_433 (by decide) ?_
    refine lw_i (rL (rest := []) ⟨hx, hb, hml, hown, hts⟩ (LB_pass_ok l G cA A o (u, v, f, g, L) n K ch hn 0 1 (by decide) (by decide) (by decide) (by decide) hT hG1 hBo) (cwV 2 hts gL_tick_X8_pass rfl rfl rfl mdX8_pass ⟨Nat.le_of_ble_eq_true rfl, Nat.le_of_ble_eq_true rfl⟩) hA hL rfl hl rfl (Nat.le_of_ble_eq_true rfl) dL_tick_434 ⟨Nat.le_of_ble_eq_true rfl, Nat.le_of_ble_eq_true rfl⟩) hA (fun r_434 _ H locs hr_434 hA hL => ?_)
    replace hL : LB G cA A o (u, v, (goF u v f g 0), (goG u v f g 0), (goL u v g L 0)) (recN n) K ch H := hL
    replace hr_434 : r_434 = (goG u v f g 0) 13 := hr_434
    subst hr_434
    refine lv_iload hx hb dL_tick_437 (lv_at hl 3 rfl) ?_
    refine lv_icmp_ne (tgt := 489) hx hb dL_tick_439 (by decide) (fun c_439 => absurd ht.1 c_439) (fun c_439 => ?_)
    refine lv_aload_n hx hb dL_tick_442 rfl (lv_at hl 17 rfl) ?_
    refine lr_f (rL (rest := []) ⟨hx, hb, hml, hown, hts⟩ (LB_place l G cA A o (u, v, (goF u v f g 0), (goG u v f g 0), (goL u v g L 0)) (recN n) K ch  ) (cwV 0 hts gL_tick_X8_place rfl rfl rfl mdX8_place ⟨Nat.le_of_ble_eq_true rfl, Nat.le_of_ble_eq_true rfl⟩) hA hL rfl hl rfl (Nat.le_of_ble_eq_true rfl) dL_tick_443 ⟨Nat.le_of_ble_eq_true rfl, Nat.le_of_ble_eq_true rfl⟩) hA hL (fun r_443 H locs hr_443 hA hL => ?_)
    replace hr_443 : r_443 = (goF u v f g 0) 7 := hr_443
    subst hr_443
    refine lv_fload hx hb dL_tick_446 (lv_at hl 2 rfl) ?_
    refine lv_fcmp hx hb dL_tick_448 ?_
    refine lv_if_ne (tgt := 489) hx hb dL_tick_449 (by decide) (fun c_449 => absurd (by rw [ht.2.2.2]; exact cmp_self (of_vf hf) _) c_449) (fun c_449 => ?_)
    refine lv_fload hx hb dL_tick_452 (lv_at hl 7 rfl) ?_
    refine lv_fload hx hb dL_tick_454 (lv_at hl 2 rfl) ?_
    refine lv_fcmp hx hb dL_tick_456 ?_
    refine lv_if_ne (tgt := 489) hx hb dL_tick_457 (by decide) (fun c_457 => absurd (by rw [ht.2.2.2]; exact cmp_self (of_vf hf) _) c_457) (fun c_457 => ?_)
    refine lv_aload_n hx hb dL_tick_460 rfl (lv_at hl 17 rfl) ?_
    refine lv_iconst (v := 1) hx hb dL_tick_461 (by decide) ?_
    refine lr_i (rL (rest := []) ⟨hx, hb, hml, hown, hts⟩ (LB_door l G cA A o (u, v, (goF u v f g 0), (goG u v f g 0), (goL u v g L 0)) (recN n) K ch 1 ) (cwV 1 hts gL_tick_X8_door rfl rfl rfl mdX8_door ⟨Nat.le_of_ble_eq_true rfl, Nat.le_of_ble_eq_true rfl⟩) hA hL rfl hl rfl (Nat.le_of_ble_eq_true rfl) dL_tick_462 ⟨Nat.le_of_ble_eq_true rfl, Nat.le_of_ble_eq_true rfl⟩) hA hL (fun r_462 H locs hr_462 hA hL => ?_)
    replace hr_462 : r_462 = (goG u v f g 0) 16 := hr_462
    subst hr_462
    refine lv_iload hx hb dL_tick_465 (lv_at hl 4 rfl) ?_
    refine lv_icmp_ne (tgt := 489) hx hb dL_tick_467 (by decide) (fun c_467 => absurd ht.2.1 c_467) (fun c_467 => ?_)
    refine lv_aload_n hx hb dL_tick_470 rfl (lv_at hl 17 rfl) ?_
    refine lv_iconst (v := 2) hx hb dL_tick_471 (by decide) ?_
    refine lr_i (rL (rest := []) ⟨hx, hb, hml, hown, hts⟩ (LB_door l G cA A o (u, v, (goF u v f g 0), (goG u v f g 0), (goL u v g L 0)) (recN n) K ch 2 ) (cwV 1 hts gL_tick_X8_door rfl rfl rfl mdX8_door ⟨Nat.le_of_ble_eq_true rfl, Nat.le_of_ble_eq_true rfl⟩) hA hL rfl hl rfl (Nat.le_of_ble_eq_true rfl) dL_tick_472 ⟨Nat.le_of_ble_eq_true rfl, Nat.le_of_ble_eq_true rfl⟩) hA hL (fun r_472 H locs hr_472 hA hL => ?_)
    replace hr_472 : r_472 = oneF ((goG u v f g 0) 17) := hr_472
    subst hr_472
    refine lv_iload hx hb dL_tick_475 (lv_at hl 0 rfl) ?_
    refine lv_if_eq (tgt := 484) hx hb dL_tick_477 (by decide) (fun _ => ?_) (fun h9 => absurd (by decide) h9)
    refine lv_iload hx hb dL_tick_484 (lv_at hl 12 rfl) ?_
    refine lv_icmp_eq (tgt := 491) hx hb dL_tick_486 (by decide) (fun c_486 => ?_) (fun c_486 => absurd (by rw [ht.2.2.1] <;> rfl) c_486)
    refine lv_iload hx hb dL_tick_491 (lv_at hl 5 rfl) ?_
    refine lv_if_eq (tgt := 554) hx hb dL_tick_493 (by decide) (fun h9 => absurd h9 (by decide)) (fun _ => ?_)
    refine lv_aload_n hx hb dL_tick_496 rfl (lv_at hl 17 rfl) ?_
    refine lv_iconst (v := 0) hx hb dL_tick_497 (by decide) ?_
    refine lr_i (rL (rest := []) ⟨hx, hb, hml, hown, hts⟩ (LB_thing l G cA A o (u, v, (goF u v f g 0), (goG u v f g 0), (goL u v g L 0)) (recN n) K ch 0 hP2) (cwV 1 hts gL_tick_X8_thing rfl rfl rfl mdX8_thing ⟨Nat.le_of_ble_eq_true rfl, Nat.le_of_ble_eq_true rfl⟩) hA hL rfl hl rfl (Nat.le_of_ble_eq_true rfl) dL_tick_498 ⟨Nat.le_of_ble_eq_true rfl, Nat.le_of_ble_eq_true rfl⟩) hA hL (fun r_498 H locs hr_498 hA hL => ?_)
    replace hr_498 : r_498 = -5 := hr_498.trans (th_none 0 (by decide) (by decide) h5)
    subst hr_498
    refine lv_bipush (v := (-5)) hx hb dL_tick_501 (by decide) ?_
    refine lv_icmp_ne (tgt := 552) hx hb dL_tick_503 (by decide) (fun h9 => absurd (by decide) h9) (fun _ => ?_)
    refine lv_aload_n hx hb dL_tick_506 rfl (lv_at hl 17 rfl) ?_
    refine lv_iconst (v := 0) hx hb dL_tick_507 (by decide) ?_
    refine lv_iconst (v := 0) hx hb dL_tick_508 (by decide) ?_
    refine lr_i (rL (rest := []) ⟨hx, hb, hml, hown, hts⟩ (LB_judged l G cA A o (u, v, (goF u v f g 0), (goG u v f g 0), (goL u v g L 0)) (recN n) K ch 0 0 ) (cwV 2 hts gL_tick_X8_judged rfl rfl rfl mdX8_judged ⟨Nat.le_of_ble_eq_true rfl, Nat.le_of_ble_eq_true rfl⟩) hA hL rfl hl rfl (Nat.le_of_ble_eq_true rfl) dL_tick_509 ⟨Nat.le_of_ble_eq_true rfl, Nat.le_of_ble_eq_true rfl⟩) hA hL (fun r_509 H locs hr_509 hA hL => ?_)
    replace hr_509 : r_509 = bestK u g := hr_509.trans hju.1
    subst hr_509
    refine lv_iload hx hb dL_tick_512 (lv_at hl 8 rfl) ?_
    refine lv_icmp_ne (tgt := 552) hx hb dL_tick_514 (by decide) (fun c_514 => absurd rfl c_514) (fun c_514 => ?_)
    refine lv_aload_n hx hb dL_tick_517 rfl (lv_at hl 17 rfl) ?_
    refine lv_iload hx hb dL_tick_518 (lv_at hl 8 rfl) ?_
    refine lv_iconst (v := 1) hx hb dL_tick_520 (by decide) ?_
    refine lv_iadd hx hb dL_tick_521 ?_
    refine lr_i (rL (rest := []) ⟨hx, hb, hml, hown, hts⟩ (LB_count l G cA A o (u, v, (goF u v f g 0), (goG u v f g 0), (goL u v g L 0)) (recN n) K ch ((bestK u g) + 1)) (cwV 1 hts gL_tick_X8_count rfl rfl rfl mdX8_count ⟨Nat.le_of_ble_eq_true rfl, Nat.le_of_ble_eq_true rfl⟩) hA hL rfl hl rfl (Nat.le_of_ble_eq_true rfl) dL_tick_522 ⟨Nat.le_of_ble_eq_true rfl, Nat.le_of_ble_eq_true rfl⟩) hA hL (fun r_522 H locs hr_522 hA hL => ?_)
    replace hr_522 : r_522 = cnF (goG u v f g 0) (nI (recN n)) (nI K) ((bestK u g) + 1) := hr_522
    subst hr_522
    refine lv_iload hx hb dL_tick_525 (lv_at hl 6 rfl) ?_
    refine lv_iconst (v := 1) hx hb dL_tick_527 (by decide) ?_
    refine lv_iadd hx hb dL_tick_528 ?_
    refine lv_icmp_ne (tgt := 552) hx hb dL_tick_529 (by decide) (fun c_529 => absurd hcn c_529) (fun c_529 => ?_)
    refine lv_aload_n hx hb dL_tick_532 rfl (lv_at hl 17 rfl) ?_
    refine lv_iconst (v := 0) hx hb dL_tick_533 (by decide) ?_
    refine lv_iconst (v := 4) hx hb dL_tick_534 (by decide) ?_
    refine lr_i (rL (rest := []) ⟨hx, hb, hml, hown, hts⟩ (LB_judged l G cA A o (u, v, (goF u v f g 0), (goG u v f g 0), (goL u v g L 0)) (recN n) K ch 0 4 ) (cwV 2 hts gL_tick_X8_judged rfl rfl rfl mdX8_judged ⟨Nat.le_of_ble_eq_true rfl, Nat.le_of_ble_eq_true rfl⟩) hA hL rfl hl rfl (Nat.le_of_ble_eq_true rfl) dL_tick_535 ⟨Nat.le_of_ble_eq_true rfl, Nat.le_of_ble_eq_true rfl⟩) hA hL (fun r_535 H locs hr_535 hA hL => ?_)
    replace hr_535 : r_535 = (goG u v f g 0) 27 - 1 := hr_535.trans hju.2
    subst hr_535
    refine lv_aload_n hx hb dL_tick_538 rfl (lv_at hl 17 rfl) ?_
    refine lv_iconst (v := 0) hx hb dL_tick_539 (by decide) ?_
    refine lr_i (rL (rest := [.int ((goG u v f g 0) 27 - 1)]) ⟨hx, hb, hml, hown, hts⟩ (LB_count l G cA A o (u, v, (goF u v f g 0), (goG u v f g 0), (goL u v g L 0)) (recN n) K ch 0) (cwV 1 hts gL_tick_X8_count rfl rfl rfl mdX8_count ⟨Nat.le_of_ble_eq_true rfl, Nat.le_of_ble_eq_true rfl⟩) hA hL rfl hl rfl (Nat.le_of_ble_eq_true rfl) dL_tick_540 ⟨Nat.le_of_ble_eq_true rfl, Nat.le_of_ble_eq_true rfl⟩) hA hL (fun r_540 H locs hr_540 hA hL => ?_)
    replace hr_540 : r_540 = (goG u v f g 0) 27 := hr_540
    subst hr_540
    refine lv_iconst (v := 1) hx hb dL_tick_543 (by decide) ?_
    refine lv_isub hx hb dL_tick_544 ?_
    refine lv_icmp_ne (tgt := 552) hx hb dL_tick_545 (by decide) (fun c_545 => absurd rfl c_545) (fun c_545 => ?_)
    refine lv_iconst (v := 1) hx hb dL_tick_548 (by decide) ?_
    refine lv_goto (tgt := 553) hx hb dL_tick_549 (by decide) ?_
    exact en_l (post := fun r (_ : Unit) => r = 1) (B := fun _ H => LB G cA A o (u, v, (goF u v f g 0), (goG u v f g 0), (goL u v g L 0)) (recN n) K ch H) () hx hb hr hlocks hA rfl hL dL_tick_553
  · skip
    refine lv_iload hx hb dL_tick_154 (lv_at hl 4 rfl) ?_
    refine lv_iconst (v := 1) hx hb dL_tick_156 (by decide) ?_
    refine lv_icmp_ne (tgt := 169) hx hb dL_tick_157 (by decide) (fun c_157 => ?_) (fun c_157 => ?_)
    · skip
      refine lv_iconst (v := 0) hx hb dL_tick_169 (by decide) ?_
      refine lv_isub hx hb dL_tick_170 ?_
      refine W.eq (g2 := F0 m 171 ls [.int (preG u v g 0 16)]) (by rw [hp16, if_pos c_151, if_pos (one_n1 c_157), Int32.sub_zero]) ?_
      refine lv_istore (lv' := [(4, .int (preG u v g 0 16)), (14, .int 1), (13, .int (cnF g (nI n) (nI K) ((bestK u g) + 1))), (12, .float ((goF u v f g 0) 7)), (11, .int (bestK u g)), (10, .int (oneF (g 12))), (9, .int (g 11)), (8, .int (g 7)), (7, .int (oneF (g 17))), (6, .int 0), (5, .int 0), (3, .float (f 7)), (2, .int 0), (0, .ref o), (1, .int 0)]) hx hb dL_tick_171 hl (by decide) rfl (fun ls hl => ?_)
      refine lv_iload_n hx hb dL_tick_173 rfl (lv_at hl 12 rfl) ?_
      refine lv_istore (lv' := [(15, .int 0), (4, .int (preG u v g 0 16)), (14, .int 1), (13, .int (cnF g (nI n) (nI K) ((bestK u g) + 1))), (12, .float ((goF u v f g 0) 7)), (11, .int (bestK u g)), (10, .int (oneF (g 12))), (9, .int (g 11)), (8, .int (g 7)), (7, .int (oneF (g 17))), (6, .int 0), (5, .int 0), (3, .float (f 7)), (2, .int 0), (0, .ref o), (1, .int 0)]) hx hb dL_tick_174 hl (by decide) rfl (fun ls hl => ?_)
      refine lv_fload_n hx hb dL_tick_176 rfl (lv_at hl 12 rfl) ?_
      refine lv_fstore (lv' := [(16, .float (f 7)), (15, .int 0), (4, .int (preG u v g 0 16)), (14, .int 1), (13, .int (cnF g (nI n) (nI K) ((bestK u g) + 1))), (12, .float ((goF u v f g 0) 7)), (11, .int (bestK u g)), (10, .int (oneF (g 12))), (9, .int (g 11)), (8, .int (g 7)), (7, .int (oneF (g 17))), (6, .int 0), (5, .int 0), (3, .float (f 7)), (2, .int 0), (0, .ref o), (1, .int 0)]) hx hb dL_tick_177 hl (by decide) rfl (fun ls hl => ?_)
      refine lv_iload_n hx hb dL_tick_179 rfl (lv_at hl 14 rfl) ?_
      refine lv_iconst (v := 1) hx hb dL_tick_180 (by decide) ?_
      refine lv_icmp_ne (tgt := 228) hx hb dL_tick_181 (by decide) (fun _ => ?_) (fun h9 => absurd h9 (by decide))
      refine lv_iload_n hx hb dL_tick_228 rfl (lv_at hl 14 rfl) ?_
      refine lv_iconst (v := 2) hx hb dL_tick_229 (by decide) ?_
      refine lv_icmp_ne (tgt := 264) hx hb dL_tick_230 (by decide) (fun _ => ?_) (fun h9 => absurd h9 (by decide))
      refine lv_iload_n hx hb dL_tick_264 rfl (lv_at hl 14 rfl) ?_
      refine lv_iconst (v := 3) hx hb dL_tick_265 (by decide) ?_
      refine lv_icmp_ne (tgt := 311) hx hb dL_tick_266 (by decide) (fun _ => ?_) (fun h9 => absurd h9 (by decide))
      refine lv_iload_n hx hb dL_tick_311 rfl (lv_at hl 14 rfl) ?_
      refine lv_iconst (v := 3) hx hb dL_tick_312 (by decide) ?_
      refine lv_icmp_ne (tgt := 385) hx hb dL_tick_313 (by decide) (fun _ => ?_) (fun h9 => absurd h9 (by decide))
      refine lv_iload_n hx hb dL_tick_385 rfl (lv_at hl 14 rfl) ?_
      refine lv_iconst (v := 3) hx hb dL_tick_386 (by decide) ?_
      refine lv_icmp_ne (tgt := 400) hx hb dL_tick_387 (by decide) (fun _ => ?_) (fun h9 => absurd h9 (by decide))
      refine lv_iconst (v := 0) hx hb dL_tick_400 (by decide) ?_
      refine lv_istore (lv' := [(17, .int 0), (16, .float (f 7)), (15, .int 0), (4, .int (preG u v g 0 16)), (14, .int 1), (13, .int (cnF g (nI n) (nI K) ((bestK u g) + 1))), (12, .float ((goF u v f g 0) 7)), (11, .int (bestK u g)), (10, .int (oneF (g 12))), (9, .int (g 11)), (8, .int (g 7)), (7, .int (oneF (g 17))), (6, .int 0), (5, .int 0), (3, .float (f 7)), (2, .int 0), (0, .ref o), (1, .int 0)]) hx hb dL_tick_401 hl (by decide) rfl (fun ls hl => ?_)
      refine lv_iload hx hb dL_tick_403 (lv_at hl 0 rfl) ?_
      refine lv_if_eq (tgt := 428) hx hb dL_tick_405 (by decide) (fun _ => ?_) (fun h9 => absurd (by decide) h9)
      refine lv_iconst (v := 0) hx hb dL_tick_428 (by decide) ?_
      refine lv_istore (lv' := [(18, .int 0), (17, .int 0), (16, .float (f 7)), (15, .int 0), (4, .int (preG u v g 0 16)), (14, .int 1), (13, .int (cnF g (nI n) (nI K) ((bestK u g) + 1))), (12, .float ((goF u v f g 0) 7)), (11, .int (bestK u g)), (10, .int (oneF (g 12))), (9, .int (g 11)), (8, .int (g 7)), (7, .int (oneF (g 17))), (6, .int 0), (5, .int 0), (3, .float (f 7)), (2, .int 0), (0, .ref o), (1, .int 0)]) hx hb dL_tick_429 hl (by decide) rfl (fun ls hl => ?_)
      refine lv_aload_n hx hb dL_tick_431 rfl (lv_at hl 17 rfl) ?_
      refine lv_iload_n hx hb dL_tick_432 rfl (lv_at hl 18 rfl) ?_
      refine lv_iconst (v := 1) hx hb dL_tick_433 (by decide) ?_
      refine lw_i (rL (rest := []) ⟨hx, hb, hml, hown, hts⟩ (LB_pass_ok l G cA A o (u, v, f, g, L) n K ch hn 0 1 (by decide) (by decide) (by decide) (by decide) hT hG1 hBo) (cwV 2 hts gL_tick_X8_pass rfl rfl rfl mdX8_pass ⟨Nat.le_of_ble_eq_true rfl, Nat.le_of_ble_eq_true rfl⟩) hA hL rfl hl rfl (Nat.le_of_ble_eq_true rfl) dL_tick_434 ⟨Nat.le_of_ble_eq_true rfl, Nat.le_of_ble_eq_true rfl⟩) hA (fun r_434_1 _ H locs hr_434_1 hA hL => ?_)
      replace hL : LB G cA A o (u, v, (goF u v f g 0), (goG u v f g 0), (goL u v g L 0)) (recN n) K ch H := hL
      replace hr_434_1 : r_434_1 = (goG u v f g 0) 13 := hr_434_1
      subst hr_434_1
      refine lv_iload hx hb dL_tick_437 (lv_at hl 3 rfl) ?_
      refine lv_icmp_ne (tgt := 489) hx hb dL_tick_439 (by decide) (fun c_439_1 => absurd ht.1 c_439_1) (fun c_439_1 => ?_)
      refine lv_aload_n hx hb dL_tick_442 rfl (lv_at hl 17 rfl) ?_
      refine lr_f (rL (rest := []) ⟨hx, hb, hml, hown, hts⟩ (LB_place l G cA A o (u, v, (goF u v f g 0), (goG u v f g 0), (goL u v g L 0)) (recN n) K ch  ) (cwV 0 hts gL_tick_X8_place rfl rfl rfl mdX8_place ⟨Nat.le_of_ble_eq_true rfl, Nat.le_of_ble_eq_true rfl⟩) hA hL rfl hl rfl (Nat.le_of_ble_eq_true rfl) dL_tick_443 ⟨Nat.le_of_ble_eq_true rfl, Nat.le_of_ble_eq_true rfl⟩) hA hL (fun r_443_1 H locs hr_443_1 hA hL => ?_)
      replace hr_443_1 : r_443_1 = (goF u v f g 0) 7 := hr_443_1
      subst hr_443_1
      refine lv_fload hx hb dL_tick_446 (lv_at hl 2 rfl) ?_
      refine lv_fcmp hx hb dL_tick_448 ?_
      refine lv_if_ne (tgt := 489) hx hb dL_tick_449 (by decide) (fun c_449_1 => absurd (by rw [ht.2.2.2]; exact cmp_self (of_vf hf) _) c_449_1) (fun c_449_1 => ?_)
      refine lv_fload hx hb dL_tick_452 (lv_at hl 7 rfl) ?_
      refine lv_fload hx hb dL_tick_454 (lv_at hl 2 rfl) ?_
      refine lv_fcmp hx hb dL_tick_456 ?_
      refine lv_if_ne (tgt := 489) hx hb dL_tick_457 (by decide) (fun c_457_1 => absurd (by rw [ht.2.2.2]; exact cmp_self (of_vf hf) _) c_457_1) (fun c_457_1 => ?_)
      refine lv_aload_n hx hb dL_tick_460 rfl (lv_at hl 17 rfl) ?_
      refine lv_iconst (v := 1) hx hb dL_tick_461 (by decide) ?_
      refine lr_i (rL (rest := []) ⟨hx, hb, hml, hown, hts⟩ (LB_door l G cA A o (u, v, (goF u v f g 0), (goG u v f g 0), (goL u v g L 0)) (recN n) K ch 1 ) (cwV 1 hts gL_tick_X8_door rfl rfl rfl mdX8_door ⟨Nat.le_of_ble_eq_true rfl, Nat.le_of_ble_eq_true rfl⟩) hA hL rfl hl rfl (Nat.le_of_ble_eq_true rfl) dL_tick_462 ⟨Nat.le_of_ble_eq_true rfl, Nat.le_of_ble_eq_true rfl⟩) hA hL (fun r_462_1 H locs hr_462_1 hA hL => ?_)
      replace hr_462_1 : r_462_1 = (goG u v f g 0) 16 := hr_462_1
      subst hr_462_1
      refine lv_iload hx hb dL_tick_465 (lv_at hl 4 rfl) ?_
      refine lv_icmp_ne (tgt := 489) hx hb dL_tick_467 (by decide) (fun c_467_1 => absurd ht.2.1 c_467_1) (fun c_467_1 => ?_)
      refine lv_aload_n hx hb dL_tick_470 rfl (lv_at hl 17 rfl) ?_
      refine lv_iconst (v := 2) hx hb dL_tick_471 (by decide) ?_
      refine lr_i (rL (rest := []) ⟨hx, hb, hml, hown, hts⟩ (LB_door l G cA A o (u, v, (goF u v f g 0), (goG u v f g 0), (goL u v g L 0)) (recN n) K ch 2 ) (cwV 1 hts gL_tick_X8_door rfl rfl rfl mdX8_door ⟨Nat.le_of_ble_eq_true rfl, Nat.le_of_ble_eq_true rfl⟩) hA hL rfl hl rfl (Nat.le_of_ble_eq_true rfl) dL_tick_472 ⟨Nat.le_of_ble_eq_true rfl, Nat.le_of_ble_eq_true rfl⟩) hA hL (fun r_472_1 H locs hr_472_1 hA hL => ?_)
      replace hr_472_1 : r_472_1 = oneF ((goG u v f g 0) 17) := hr_472_1
      subst hr_472_1
      refine lv_iload hx hb dL_tick_475 (lv_at hl 0 rfl) ?_
      refine lv_if_eq (tgt := 484) hx hb dL_tick_477 (by decide) (fun _ => ?_) (fun h9 => absurd (by decide) h9)
      refine lv_iload hx hb dL_tick_484 (lv_at hl 12 rfl) ?_
      refine lv_icmp_eq (tgt := 491) hx hb dL_tick_486 (by decide) (fun c_486_1 => ?_) (fun c_486_1 => absurd (by rw [ht.2.2.1] <;> rfl) c_486_1)
      refine lv_iload hx hb dL_tick_491 (lv_at hl 5 rfl) ?_
      refine lv_if_eq (tgt := 554) hx hb dL_tick_493 (by decide) (fun h9 => absurd h9 (by decide)) (fun _ => ?_)
      refine lv_aload_n hx hb dL_tick_496 rfl (lv_at hl 17 rfl) ?_
      refine lv_iconst (v := 0) hx hb dL_tick_497 (by decide) ?_
      refine lr_i (rL (rest := []) ⟨hx, hb, hml, hown, hts⟩ (LB_thing l G cA A o (u, v, (goF u v f g 0), (goG u v f g 0), (goL u v g L 0)) (recN n) K ch 0 hP2) (cwV 1 hts gL_tick_X8_thing rfl rfl rfl mdX8_thing ⟨Nat.le_of_ble_eq_true rfl, Nat.le_of_ble_eq_true rfl⟩) hA hL rfl hl rfl (Nat.le_of_ble_eq_true rfl) dL_tick_498 ⟨Nat.le_of_ble_eq_true rfl, Nat.le_of_ble_eq_true rfl⟩) hA hL (fun r_498_1 H locs hr_498_1 hA hL => ?_)
      replace hr_498_1 : r_498_1 = -5 := hr_498_1.trans (th_none 0 (by decide) (by decide) h5)
      subst hr_498_1
      refine lv_bipush (v := (-5)) hx hb dL_tick_501 (by decide) ?_
      refine lv_icmp_ne (tgt := 552) hx hb dL_tick_503 (by decide) (fun h9 => absurd (by decide) h9) (fun _ => ?_)
      refine lv_aload_n hx hb dL_tick_506 rfl (lv_at hl 17 rfl) ?_
      refine lv_iconst (v := 0) hx hb dL_tick_507 (by decide) ?_
      refine lv_iconst (v := 0) hx hb dL_tick_508 (by decide) ?_
      refine lr_i (rL (rest := []) ⟨hx, hb, hml, hown, hts⟩ (LB_judged l G cA A o (u, v, (goF u v f g 0), (goG u v f g 0), (goL u v g L 0)) (recN n) K ch 0 0 ) (cwV 2 hts gL_tick_X8_judged rfl rfl rfl mdX8_judged ⟨Nat.le_of_ble_eq_true rfl, Nat.le_of_ble_eq_true rfl⟩) hA hL rfl hl rfl (Nat.le_of_ble_eq_true rfl) dL_tick_509 ⟨Nat.le_of_ble_eq_true rfl, Nat.le_of_ble_eq_true rfl⟩) hA hL (fun r_509_1 H locs hr_509_1 hA hL => ?_)
      replace hr_509_1 : r_509_1 = bestK u g := hr_509_1.trans hju.1
      subst hr_509_1
      refine lv_iload hx hb dL_tick_512 (lv_at hl 8 rfl) ?_
      refine lv_icmp_ne (tgt := 552) hx hb dL_tick_514 (by decide) (fun c_514_1 => absurd rfl c_514_1) (fun c_514_1 => ?_)
      refine lv_aload_n hx hb dL_tick_517 rfl (lv_at hl 17 rfl) ?_
      refine lv_iload hx hb dL_tick_518 (lv_at hl 8 rfl) ?_
      refine lv_iconst (v := 1) hx hb dL_tick_520 (by decide) ?_
      refine lv_iadd hx hb dL_tick_521 ?_
      refine lr_i (rL (rest := []) ⟨hx, hb, hml, hown, hts⟩ (LB_count l G cA A o (u, v, (goF u v f g 0), (goG u v f g 0), (goL u v g L 0)) (recN n) K ch ((bestK u g) + 1)) (cwV 1 hts gL_tick_X8_count rfl rfl rfl mdX8_count ⟨Nat.le_of_ble_eq_true rfl, Nat.le_of_ble_eq_true rfl⟩) hA hL rfl hl rfl (Nat.le_of_ble_eq_true rfl) dL_tick_522 ⟨Nat.le_of_ble_eq_true rfl, Nat.le_of_ble_eq_true rfl⟩) hA hL (fun r_522_1 H locs hr_522_1 hA hL => ?_)
      replace hr_522_1 : r_522_1 = cnF (goG u v f g 0) (nI (recN n)) (nI K) ((bestK u g) + 1) := hr_522_1
      subst hr_522_1
      refine lv_iload hx hb dL_tick_525 (lv_at hl 6 rfl) ?_
      refine lv_iconst (v := 1) hx hb dL_tick_527 (by decide) ?_
      refine lv_iadd hx hb dL_tick_528 ?_
      refine lv_icmp_ne (tgt := 552) hx hb dL_tick_529 (by decide) (fun c_529_1 => absurd hcn c_529_1) (fun c_529_1 => ?_)
      refine lv_aload_n hx hb dL_tick_532 rfl (lv_at hl 17 rfl) ?_
      refine lv_iconst (v := 0) hx hb dL_tick_533 (by decide) ?_
      refine lv_iconst (v := 4) hx hb dL_tick_534 (by decide) ?_
      refine lr_i (rL (rest := []) ⟨hx, hb, hml, hown, hts⟩ (LB_judged l G cA A o (u, v, (goF u v f g 0), (goG u v f g 0), (goL u v g L 0)) (recN n) K ch 0 4 ) (cwV 2 hts gL_tick_X8_judged rfl rfl rfl mdX8_judged ⟨Nat.le_of_ble_eq_true rfl, Nat.le_of_ble_eq_true rfl⟩) hA hL rfl hl rfl (Nat.le_of_ble_eq_true rfl) dL_tick_535 ⟨Nat.le_of_ble_eq_true rfl, Nat.le_of_ble_eq_true rfl⟩) hA hL (fun r_535_1 H locs hr_535_1 hA hL => ?_)
      replace hr_535_1 : r_535_1 = (goG u v f g 0) 27 - 1 := hr_535_1.trans hju.2
      subst hr_535_1
      refine lv_aload_n hx hb dL_tick_538 rfl (lv_at hl 17 rfl) ?_
      refine lv_iconst (v := 0) hx hb dL_tick_539 (by decide) ?_
      refine lr_i (rL (rest := [.int ((goG u v f g 0) 27 - 1)]) ⟨hx, hb, hml, hown, hts⟩ (LB_count l G cA A o (u, v, (goF u v f g 0), (goG u v f g 0), (goL u v g L 0)) (recN n) K ch 0) (cwV 1 hts gL_tick_X8_count rfl rfl rfl mdX8_count ⟨Nat.le_of_ble_eq_true rfl, Nat.le_of_ble_eq_true rfl⟩) hA hL rfl hl rfl (Nat.le_of_ble_eq_true rfl) dL_tick_540 ⟨Nat.le_of_ble_eq_true rfl, Nat.le_of_ble_eq_true rfl⟩) hA hL (fun r_540_1 H locs hr_540_1 hA hL => ?_)
      replace hr_540_1 : r_540_1 = (goG u v f g 0) 27 := hr_540_1
      subst hr_540_1
      refine lv_iconst (v := 1) hx hb dL_tick_543 (by decide) ?_
      refine lv_isub hx hb dL_tick_544 ?_
      refine lv_icmp_ne (tgt := 552) hx hb dL_tick_545 (by decide) (fun c_545_1 => absurd rfl c_545_1) (fun c_545_1 => ?_)
      refine lv_iconst (v := 1) hx hb dL_tick_548 (by decide) ?_
      refine lv_goto (tgt := 553) hx hb dL_tick_549 (by decide) ?_
      exact en_l (post := fun r (_ : Unit) => r = 1) (B := fun _ H => LB G cA A o (u, v, (goF u v f g 0), (goG u v f g 0), (goL u v g L 0)) (recN n) K ch H) () hx hb hr hlocks hA rfl hL dL_tick_553
    · skip
      refine lv_iload hx hb dL_tick_160 (lv_at hl 10 rfl) ?_
      refine lv_if_le (tgt := 169) hx hb dL_tick_162 (by decide) (fun c_162 => ?_) (fun c_162 => ?_)
      · skip
        refine lv_iconst (v := 0) hx hb dL_tick_169 (by decide) ?_
        refine lv_isub hx hb dL_tick_170 ?_
        refine W.eq (g2 := F0 m 171 ls [.int (preG u v g 0 16)]) (by rw [hp16, if_pos c_151, if_neg (one_y1 c_157), if_pos c_162, Int32.sub_zero]) ?_
        refine lv_istore (lv' := [(4, .int (preG u v g 0 16)), (14, .int 1), (13, .int (cnF g (nI n) (nI K) ((bestK u g) + 1))), (12, .float ((goF u v f g 0) 7)), (11, .int (bestK u g)), (10, .int (oneF (g 12))), (9, .int (g 11)), (8, .int (g 7)), (7, .int (oneF (g 17))), (6, .int 0), (5, .int 0), (3, .float (f 7)), (2, .int 0), (0, .ref o), (1, .int 0)]) hx hb dL_tick_171 hl (by decide) rfl (fun ls hl => ?_)
        refine lv_iload_n hx hb dL_tick_173 rfl (lv_at hl 12 rfl) ?_
        refine lv_istore (lv' := [(15, .int 0), (4, .int (preG u v g 0 16)), (14, .int 1), (13, .int (cnF g (nI n) (nI K) ((bestK u g) + 1))), (12, .float ((goF u v f g 0) 7)), (11, .int (bestK u g)), (10, .int (oneF (g 12))), (9, .int (g 11)), (8, .int (g 7)), (7, .int (oneF (g 17))), (6, .int 0), (5, .int 0), (3, .float (f 7)), (2, .int 0), (0, .ref o), (1, .int 0)]) hx hb dL_tick_174 hl (by decide) rfl (fun ls hl => ?_)
        refine lv_fload_n hx hb dL_tick_176 rfl (lv_at hl 12 rfl) ?_
        refine lv_fstore (lv' := [(16, .float (f 7)), (15, .int 0), (4, .int (preG u v g 0 16)), (14, .int 1), (13, .int (cnF g (nI n) (nI K) ((bestK u g) + 1))), (12, .float ((goF u v f g 0) 7)), (11, .int (bestK u g)), (10, .int (oneF (g 12))), (9, .int (g 11)), (8, .int (g 7)), (7, .int (oneF (g 17))), (6, .int 0), (5, .int 0), (3, .float (f 7)), (2, .int 0), (0, .ref o), (1, .int 0)]) hx hb dL_tick_177 hl (by decide) rfl (fun ls hl => ?_)
        refine lv_iload_n hx hb dL_tick_179 rfl (lv_at hl 14 rfl) ?_
        refine lv_iconst (v := 1) hx hb dL_tick_180 (by decide) ?_
        refine lv_icmp_ne (tgt := 228) hx hb dL_tick_181 (by decide) (fun _ => ?_) (fun h9 => absurd h9 (by decide))
        refine lv_iload_n hx hb dL_tick_228 rfl (lv_at hl 14 rfl) ?_
        refine lv_iconst (v := 2) hx hb dL_tick_229 (by decide) ?_
        refine lv_icmp_ne (tgt := 264) hx hb dL_tick_230 (by decide) (fun _ => ?_) (fun h9 => absurd h9 (by decide))
        refine lv_iload_n hx hb dL_tick_264 rfl (lv_at hl 14 rfl) ?_
        refine lv_iconst (v := 3) hx hb dL_tick_265 (by decide) ?_
        refine lv_icmp_ne (tgt := 311) hx hb dL_tick_266 (by decide) (fun _ => ?_) (fun h9 => absurd h9 (by decide))
        refine lv_iload_n hx hb dL_tick_311 rfl (lv_at hl 14 rfl) ?_
        refine lv_iconst (v := 3) hx hb dL_tick_312 (by decide) ?_
        refine lv_icmp_ne (tgt := 385) hx hb dL_tick_313 (by decide) (fun _ => ?_) (fun h9 => absurd h9 (by decide))
        refine lv_iload_n hx hb dL_tick_385 rfl (lv_at hl 14 rfl) ?_
        refine lv_iconst (v := 3) hx hb dL_tick_386 (by decide) ?_
        refine lv_icmp_ne (tgt := 400) hx hb dL_tick_387 (by decide) (fun _ => ?_) (fun h9 => absurd h9 (by decide))
        refine lv_iconst (v := 0) hx hb dL_tick_400 (by decide) ?_
        refine lv_istore (lv' := [(17, .int 0), (16, .float (f 7)), (15, .int 0), (4, .int (preG u v g 0 16)), (14, .int 1), (13, .int (cnF g (nI n) (nI K) ((bestK u g) + 1))), (12, .float ((goF u v f g 0) 7)), (11, .int (bestK u g)), (10, .int (oneF (g 12))), (9, .int (g 11)), (8, .int (g 7)), (7, .int (oneF (g 17))), (6, .int 0), (5, .int 0), (3, .float (f 7)), (2, .int 0), (0, .ref o), (1, .int 0)]) hx hb dL_tick_401 hl (by decide) rfl (fun ls hl => ?_)
        refine lv_iload hx hb dL_tick_403 (lv_at hl 0 rfl) ?_
        refine lv_if_eq (tgt := 428) hx hb dL_tick_405 (by decide) (fun _ => ?_) (fun h9 => absurd (by decide) h9)
        refine lv_iconst (v := 0) hx hb dL_tick_428 (by decide) ?_
        refine lv_istore (lv' := [(18, .int 0), (17, .int 0), (16, .float (f 7)), (15, .int 0), (4, .int (preG u v g 0 16)), (14, .int 1), (13, .int (cnF g (nI n) (nI K) ((bestK u g) + 1))), (12, .float ((goF u v f g 0) 7)), (11, .int (bestK u g)), (10, .int (oneF (g 12))), (9, .int (g 11)), (8, .int (g 7)), (7, .int (oneF (g 17))), (6, .int 0), (5, .int 0), (3, .float (f 7)), (2, .int 0), (0, .ref o), (1, .int 0)]) hx hb dL_tick_429 hl (by decide) rfl (fun ls hl => ?_)
        refine lv_aload_n hx hb dL_tick_431 rfl (lv_at hl 17 rfl) ?_
        refine lv_iload_n hx hb dL_tick_432 rfl (lv_at hl 18 rfl) ?_
        refine lv_iconst (v := 1) hx hb dL_tick_433 (by decide) ?_
        refine lw_i (rL (rest := []) ⟨hx, hb, hml, hown, hts⟩ (LB_pass_ok l G cA A o (u, v, f, g, L) n K ch hn 0 1 (by decide) (by decide) (by decide) (by decide) hT hG1 hBo) (cwV 2 hts gL_tick_X8_pass rfl rfl rfl mdX8_pass ⟨Nat.le_of_ble_eq_true rfl, Nat.le_of_ble_eq_true rfl⟩) hA hL rfl hl rfl (Nat.le_of_ble_eq_true rfl) dL_tick_434 ⟨Nat.le_of_ble_eq_true rfl, Nat.le_of_ble_eq_true rfl⟩) hA (fun r_434_2 _ H locs hr_434_2 hA hL => ?_)
        replace hL : LB G cA A o (u, v, (goF u v f g 0), (goG u v f g 0), (goL u v g L 0)) (recN n) K ch H := hL
        replace hr_434_2 : r_434_2 = (goG u v f g 0) 13 := hr_434_2
        subst hr_434_2
        refine lv_iload hx hb dL_tick_437 (lv_at hl 3 rfl) ?_
        refine lv_icmp_ne (tgt := 489) hx hb dL_tick_439 (by decide) (fun c_439_2 => absurd ht.1 c_439_2) (fun c_439_2 => ?_)
        refine lv_aload_n hx hb dL_tick_442 rfl (lv_at hl 17 rfl) ?_
        refine lr_f (rL (rest := []) ⟨hx, hb, hml, hown, hts⟩ (LB_place l G cA A o (u, v, (goF u v f g 0), (goG u v f g 0), (goL u v g L 0)) (recN n) K ch  ) (cwV 0 hts gL_tick_X8_place rfl rfl rfl mdX8_place ⟨Nat.le_of_ble_eq_true rfl, Nat.le_of_ble_eq_true rfl⟩) hA hL rfl hl rfl (Nat.le_of_ble_eq_true rfl) dL_tick_443 ⟨Nat.le_of_ble_eq_true rfl, Nat.le_of_ble_eq_true rfl⟩) hA hL (fun r_443_2 H locs hr_443_2 hA hL => ?_)
        replace hr_443_2 : r_443_2 = (goF u v f g 0) 7 := hr_443_2
        subst hr_443_2
        refine lv_fload hx hb dL_tick_446 (lv_at hl 2 rfl) ?_
        refine lv_fcmp hx hb dL_tick_448 ?_
        refine lv_if_ne (tgt := 489) hx hb dL_tick_449 (by decide) (fun c_449_2 => absurd (by rw [ht.2.2.2]; exact cmp_self (of_vf hf) _) c_449_2) (fun c_449_2 => ?_)
        refine lv_fload hx hb dL_tick_452 (lv_at hl 7 rfl) ?_
        refine lv_fload hx hb dL_tick_454 (lv_at hl 2 rfl) ?_
        refine lv_fcmp hx hb dL_tick_456 ?_
        refine lv_if_ne (tgt := 489) hx hb dL_tick_457 (by decide) (fun c_457_2 => absurd (by rw [ht.2.2.2]; exact cmp_self (of_vf hf) _) c_457_2) (fun c_457_2 => ?_)
        refine lv_aload_n hx hb dL_tick_460 rfl (lv_at hl 17 rfl) ?_
        refine lv_iconst (v := 1) hx hb dL_tick_461 (by decide) ?_
        refine lr_i (rL (rest := []) ⟨hx, hb, hml, hown, hts⟩ (LB_door l G cA A o (u, v, (goF u v f g 0), (goG u v f g 0), (goL u v g L 0)) (recN n) K ch 1 ) (cwV 1 hts gL_tick_X8_door rfl rfl rfl mdX8_door ⟨Nat.le_of_ble_eq_true rfl, Nat.le_of_ble_eq_true rfl⟩) hA hL rfl hl rfl (Nat.le_of_ble_eq_true rfl) dL_tick_462 ⟨Nat.le_of_ble_eq_true rfl, Nat.le_of_ble_eq_true rfl⟩) hA hL (fun r_462_2 H locs hr_462_2 hA hL => ?_)
        replace hr_462_2 : r_462_2 = (goG u v f g 0) 16 := hr_462_2
        subst hr_462_2
        refine lv_iload hx hb dL_tick_465 (lv_at hl 4 rfl) ?_
        refine lv_icmp_ne (tgt := 489) hx hb dL_tick_467 (by decide) (fun c_467_2 => absurd ht.2.1 c_467_2) (fun c_467_2 => ?_)
        refine lv_aload_n hx hb dL_tick_470 rfl (lv_at hl 17 rfl) ?_
        refine lv_iconst (v := 2) hx hb dL_tick_471 (by decide) ?_
        refine lr_i (rL (rest := []) ⟨hx, hb, hml, hown, hts⟩ (LB_door l G cA A o (u, v, (goF u v f g 0), (goG u v f g 0), (goL u v g L 0)) (recN n) K ch 2 ) (cwV 1 hts gL_tick_X8_door rfl rfl rfl mdX8_door ⟨Nat.le_of_ble_eq_true rfl, Nat.le_of_ble_eq_true rfl⟩) hA hL rfl hl rfl (Nat.le_of_ble_eq_true rfl) dL_tick_472 ⟨Nat.le_of_ble_eq_true rfl, Nat.le_of_ble_eq_true rfl⟩) hA hL (fun r_472_2 H locs hr_472_2 hA hL => ?_)
        replace hr_472_2 : r_472_2 = oneF ((goG u v f g 0) 17) := hr_472_2
        subst hr_472_2
        refine lv_iload hx hb dL_tick_475 (lv_at hl 0 rfl) ?_
        refine lv_if_eq (tgt := 484) hx hb dL_tick_477 (by decide) (fun _ => ?_) (fun h9 => absurd (by decide) h9)
        refine lv_iload hx hb dL_tick_484 (lv_at hl 12 rfl) ?_
        refine lv_icmp_eq (tgt := 491) hx hb dL_tick_486 (by decide) (fun c_486_2 => ?_) (fun c_486_2 => absurd (by rw [ht.2.2.1] <;> rfl) c_486_2)
        refine lv_iload hx hb dL_tick_491 (lv_at hl 5 rfl) ?_
        refine lv_if_eq (tgt := 554) hx hb dL_tick_493 (by decide) (fun h9 => absurd h9 (by decide)) (fun _ => ?_)
        refine lv_aload_n hx hb dL_tick_496 rfl (lv_at hl 17 rfl) ?_
        refine lv_iconst (v := 0) hx hb dL_tick_497 (by decide) ?_
        refine lr_i (rL (rest := []) ⟨hx, hb, hml, hown, hts⟩ (LB_thing l G cA A o (u, v, (goF u v f g 0), (goG u v f g 0), (goL u v g L 0)) (recN n) K ch 0 hP2) (cwV 1 hts gL_tick_X8_thing rfl rfl rfl mdX8_thing ⟨Nat.le_of_ble_eq_true rfl, Nat.le_of_ble_eq_true rfl⟩) hA hL rfl hl rfl (Nat.le_of_ble_eq_true rfl) dL_tick_498 ⟨Nat.le_of_ble_eq_true rfl, Nat.le_of_ble_eq_true rfl⟩) hA hL (fun r_498_2 H locs hr_498_2 hA hL => ?_)
        replace hr_498_2 : r_498_2 = -5 := hr_498_2.trans (th_none 0 (by decide) (by decide) h5)
        subst hr_498_2
        refine lv_bipush (v := (-5)) hx hb dL_tick_501 (by decide) ?_
        refine lv_icmp_ne (tgt := 552) hx hb dL_tick_503 (by decide) (fun h9 => absurd (by decide) h9) (fun _ => ?_)
        refine lv_aload_n hx hb dL_tick_506 rfl (lv_at hl 17 rfl) ?_
        refine lv_iconst (v := 0) hx hb dL_tick_507 (by decide) ?_
        refine lv_iconst (v := 0) hx hb dL_tick_508 (by decide) ?_
        refine lr_i (rL (rest := []) ⟨hx, hb, hml, hown, hts⟩ (LB_judged l G cA A o (u, v, (goF u v f g 0), (goG u v f g 0), (goL u v g L 0)) (recN n) K ch 0 0 ) (cwV 2 hts gL_tick_X8_judged rfl rfl rfl mdX8_judged ⟨Nat.le_of_ble_eq_true rfl, Nat.le_of_ble_eq_true rfl⟩) hA hL rfl hl rfl (Nat.le_of_ble_eq_true rfl) dL_tick_509 ⟨Nat.le_of_ble_eq_true rfl, Nat.le_of_ble_eq_true rfl⟩) hA hL (fun r_509_2 H locs hr_509_2 hA hL => ?_)
        replace hr_509_2 : r_509_2 = bestK u g := hr_509_2.trans hju.1
        subst hr_509_2
        refine lv_iload hx hb dL_tick_512 (lv_at hl 8 rfl) ?_
        refine lv_icmp_ne (tgt := 552) hx hb dL_tick_514 (by decide) (fun c_514_2 => absurd rfl c_514_2) (fun c_514_2 => ?_)
        refine lv_aload_n hx hb dL_tick_517 rfl (lv_at hl 17 rfl) ?_
        refine lv_iload hx hb dL_tick_518 (lv_at hl 8 rfl) ?_
        refine lv_iconst (v := 1) hx hb dL_tick_520 (by decide) ?_
        refine lv_iadd hx hb dL_tick_521 ?_
        refine lr_i (rL (rest := []) ⟨hx, hb, hml, hown, hts⟩ (LB_count l G cA A o (u, v, (goF u v f g 0), (goG u v f g 0), (goL u v g L 0)) (recN n) K ch ((bestK u g) + 1)) (cwV 1 hts gL_tick_X8_count rfl rfl rfl mdX8_count ⟨Nat.le_of_ble_eq_true rfl, Nat.le_of_ble_eq_true rfl⟩) hA hL rfl hl rfl (Nat.le_of_ble_eq_true rfl) dL_tick_522 ⟨Nat.le_of_ble_eq_true rfl, Nat.le_of_ble_eq_true rfl⟩) hA hL (fun r_522_2 H locs hr_522_2 hA hL => ?_)
        replace hr_522_2 : r_522_2 = cnF (goG u v f g 0) (nI (recN n)) (nI K) ((bestK u g) + 1) := hr_522_2
        subst hr_522_2
        refine lv_iload hx hb dL_tick_525 (lv_at hl 6 rfl) ?_
        refine lv_iconst (v := 1) hx hb dL_tick_527 (by decide) ?_
        refine lv_iadd hx hb dL_tick_528 ?_
        refine lv_icmp_ne (tgt := 552) hx hb dL_tick_529 (by decide) (fun c_529_2 => absurd hcn c_529_2) (fun c_529_2 => ?_)
        refine lv_aload_n hx hb dL_tick_532 rfl (lv_at hl 17 rfl) ?_
        refine lv_iconst (v := 0) hx hb dL_tick_533 (by decide) ?_
        refine lv_iconst (v := 4) hx hb dL_tick_534 (by decide) ?_
        refine lr_i (rL (rest := []) ⟨hx, hb, hml, hown, hts⟩ (LB_judged l G cA A o (u, v, (goF u v f g 0), (goG u v f g 0), (goL u v g L 0)) (recN n) K ch 0 4 ) (cwV 2 hts gL_tick_X8_judged rfl rfl rfl mdX8_judged ⟨Nat.le_of_ble_eq_true rfl, Nat.le_of_ble_eq_true rfl⟩) hA hL rfl hl rfl (Nat.le_of_ble_eq_true rfl) dL_tick_535 ⟨Nat.le_of_ble_eq_true rfl, Nat.le_of_ble_eq_true rfl⟩) hA hL (fun r_535_2 H locs hr_535_2 hA hL => ?_)
        replace hr_535_2 : r_535_2 = (goG u v f g 0) 27 - 1 := hr_535_2.trans hju.2
        subst hr_535_2
        refine lv_aload_n hx hb dL_tick_538 rfl (lv_at hl 17 rfl) ?_
        refine lv_iconst (v := 0) hx hb dL_tick_539 (by decide) ?_
        refine lr_i (rL (rest := [.int ((goG u v f g 0) 27 - 1)]) ⟨hx, hb, hml, hown, hts⟩ (LB_count l G cA A o (u, v, (goF u v f g 0), (goG u v f g 0), (goL u v g L 0)) (recN n) K ch 0) (cwV 1 hts gL_tick_X8_count rfl rfl rfl mdX8_count ⟨Nat.le_of_ble_eq_true rfl, Nat.le_of_ble_eq_true rfl⟩) hA hL rfl hl rfl (Nat.le_of_ble_eq_true rfl) dL_tick_540 ⟨Nat.le_of_ble_eq_true rfl, Nat.le_of_ble_eq_true rfl⟩) hA hL (fun r_540_2 H locs hr_540_2 hA hL => ?_)
        replace hr_540_2 : r_540_2 = (goG u v f g 0) 27 := hr_540_2
        subst hr_540_2
        refine lv_iconst (v := 1) hx hb dL_tick_543 (by decide) ?_
        refine lv_isub hx hb dL_tick_544 ?_
        refine lv_icmp_ne (tgt := 552) hx hb dL_tick_545 (by decide) (fun c_545_2 => absurd rfl c_545_2) (fun c_545_2 => ?_)
        refine lv_iconst (v := 1) hx hb dL_tick_548 (by decide) ?_
        refine lv_goto (tgt := 553) hx hb dL_tick_549 (by decide) ?_
        exact en_l (post := fun r (_ : Unit) => r = 1) (B := fun _ H => LB G cA A o (u, v, (goF u v f g 0), (goG u v f g 0), (goL u v g L 0)) (recN n) K ch H) () hx hb hr hlocks hA rfl hL dL_tick_553
      · skip
        refine lv_iconst (v := 1) hx hb dL_tick_165 (by decide) ?_
        refine lv_goto (tgt := 170) hx hb dL_tick_166 (by decide) ?_
        refine lv_isub hx hb dL_tick_170 ?_
        refine W.eq (g2 := F0 m 171 ls [.int (preG u v g 0 16)]) (by rw [hp16, if_pos c_151, if_neg (one_y1 c_157), if_neg c_162]) ?_
        refine lv_istore (lv' := [(4, .int (preG u v g 0 16)), (14, .int 1), (13, .int (cnF g (nI n) (nI K) ((bestK u g) + 1))), (12, .float ((goF u v f g 0) 7)), (11, .int (bestK u g)), (10, .int (oneF (g 12))), (9, .int (g 11)), (8, .int (g 7)), (7, .int (oneF (g 17))), (6, .int 0), (5, .int 0), (3, .float (f 7)), (2, .int 0), (0, .ref o), (1, .int 0)]) hx hb dL_tick_171 hl (by decide) rfl (fun ls hl => ?_)
        refine lv_iload_n hx hb dL_tick_173 rfl (lv_at hl 12 rfl) ?_
        refine lv_istore (lv' := [(15, .int 0), (4, .int (preG u v g 0 16)), (14, .int 1), (13, .int (cnF g (nI n) (nI K) ((bestK u g) + 1))), (12, .float ((goF u v f g 0) 7)), (11, .int (bestK u g)), (10, .int (oneF (g 12))), (9, .int (g 11)), (8, .int (g 7)), (7, .int (oneF (g 17))), (6, .int 0), (5, .int 0), (3, .float (f 7)), (2, .int 0), (0, .ref o), (1, .int 0)]) hx hb dL_tick_174 hl (by decide) rfl (fun ls hl => ?_)
        refine lv_fload_n hx hb dL_tick_176 rfl (lv_at hl 12 rfl) ?_
        refine lv_fstore (lv' := [(16, .float (f 7)), (15, .int 0), (4, .int (preG u v g 0 16)), (14, .int 1), (13, .int (cnF g (nI n) (nI K) ((bestK u g) + 1))), (12, .float ((goF u v f g 0) 7)), (11, .int (bestK u g)), (10, .int (oneF (g 12))), (9, .int (g 11)), (8, .int (g 7)), (7, .int (oneF (g 17))), (6, .int 0), (5, .int 0), (3, .float (f 7)), (2, .int 0), (0, .ref o), (1, .int 0)]) hx hb dL_tick_177 hl (by decide) rfl (fun ls hl => ?_)
        refine lv_iload_n hx hb dL_tick_179 rfl (lv_at hl 14 rfl) ?_
        refine lv_iconst (v := 1) hx hb dL_tick_180 (by decide) ?_
        refine lv_icmp_ne (tgt := 228) hx hb dL_tick_181 (by decide) (fun _ => ?_) (fun h9 => absurd h9 (by decide))
        refine lv_iload_n hx hb dL_tick_228 rfl (lv_at hl 14 rfl) ?_
        refine lv_iconst (v := 2) hx hb dL_tick_229 (by decide) ?_
        refine lv_icmp_ne (tgt := 264) hx hb dL_tick_230 (by decide) (fun _ => ?_) (fun h9 => absurd h9 (by decide))
        refine lv_iload_n hx hb dL_tick_264 rfl (lv_at hl 14 rfl) ?_
        refine lv_iconst (v := 3) hx hb dL_tick_265 (by decide) ?_
        refine lv_icmp_ne (tgt := 311) hx hb dL_tick_266 (by decide) (fun _ => ?_) (fun h9 => absurd h9 (by decide))
        refine lv_iload_n hx hb dL_tick_311 rfl (lv_at hl 14 rfl) ?_
        refine lv_iconst (v := 3) hx hb dL_tick_312 (by decide) ?_
        refine lv_icmp_ne (tgt := 385) hx hb dL_tick_313 (by decide) (fun _ => ?_) (fun h9 => absurd h9 (by decide))
        refine lv_iload_n hx hb dL_tick_385 rfl (lv_at hl 14 rfl) ?_
        refine lv_iconst (v := 3) hx hb dL_tick_386 (by decide) ?_
        refine lv_icmp_ne (tgt := 400) hx hb dL_tick_387 (by decide) (fun _ => ?_) (fun h9 => absurd h9 (by decide))
        refine lv_iconst (v := 0) hx hb dL_tick_400 (by decide) ?_
        refine lv_istore (lv' := [(17, .int 0), (16, .float (f 7)), (15, .int 0), (4, .int (preG u v g 0 16)), (14, .int 1), (13, .int (cnF g (nI n) (nI K) ((bestK u g) + 1))), (12, .float ((goF u v f g 0) 7)), (11, .int (bestK u g)), (10, .int (oneF (g 12))), (9, .int (g 11)), (8, .int (g 7)), (7, .int (oneF (g 17))), (6, .int 0), (5, .int 0), (3, .float (f 7)), (2, .int 0), (0, .ref o), (1, .int 0)]) hx hb dL_tick_401 hl (by decide) rfl (fun ls hl => ?_)
        refine lv_iload hx hb dL_tick_403 (lv_at hl 0 rfl) ?_
        refine lv_if_eq (tgt := 428) hx hb dL_tick_405 (by decide) (fun _ => ?_) (fun h9 => absurd (by decide) h9)
        refine lv_iconst (v := 0) hx hb dL_tick_428 (by decide) ?_
        refine lv_istore (lv' := [(18, .int 0), (17, .int 0), (16, .float (f 7)), (15, .int 0), (4, .int (preG u v g 0 16)), (14, .int 1), (13, .int (cnF g (nI n) (nI K) ((bestK u g) + 1))), (12, .float ((goF u v f g 0) 7)), (11, .int (bestK u g)), (10, .int (oneF (g 12))), (9, .int (g 11)), (8, .int (g 7)), (7, .int (oneF (g 17))), (6, .int 0), (5, .int 0), (3, .float (f 7)), (2, .int 0), (0, .ref o), (1, .int 0)]) hx hb dL_tick_429 hl (by decide) rfl (fun ls hl => ?_)
        refine lv_aload_n hx hb dL_tick_431 rfl (lv_at hl 17 rfl) ?_
        refine lv_iload_n hx hb dL_tick_432 rfl (lv_at hl 18 rfl) ?_
        refine lv_iconst (v := 1) hx hb dL_tick_433 (by decide) ?_
        refine lw_i (rL (rest := []) ⟨hx, hb, hml, hown, hts⟩ (LB_pass_ok l G cA A o (u, v, f, g, L) n K ch hn 0 1 (by decide) (by decide) (by decide) (by decide) hT hG1 hBo) (cwV 2 hts gL_tick_X8_pass rfl rfl rfl mdX8_pass ⟨Nat.le_of_ble_eq_true rfl, Nat.le_of_ble_eq_true rfl⟩) hA hL rfl hl rfl (Nat.le_of_ble_eq_true rfl) dL_tick_434 ⟨Nat.le_of_ble_eq_true rfl, Nat.le_of_ble_eq_true rfl⟩) hA (fun r_434_3 _ H locs hr_434_3 hA hL => ?_)
        replace hL : LB G cA A o (u, v, (goF u v f g 0), (goG u v f g 0), (goL u v g L 0)) (recN n) K ch H := hL
        replace hr_434_3 : r_434_3 = (goG u v f g 0) 13 := hr_434_3
        subst hr_434_3
        refine lv_iload hx hb dL_tick_437 (lv_at hl 3 rfl) ?_
        refine lv_icmp_ne (tgt := 489) hx hb dL_tick_439 (by decide) (fun c_439_3 => absurd ht.1 c_439_3) (fun c_439_3 => ?_)
        refine lv_aload_n hx hb dL_tick_442 rfl (lv_at hl 17 rfl) ?_
        refine lr_f (rL (rest := []) ⟨hx, hb, hml, hown, hts⟩ (LB_place l G cA A o (u, v, (goF u v f g 0), (goG u v f g 0), (goL u v g L 0)) (recN n) K ch  ) (cwV 0 hts gL_tick_X8_place rfl rfl rfl mdX8_place ⟨Nat.le_of_ble_eq_true rfl, Nat.le_of_ble_eq_true rfl⟩) hA hL rfl hl rfl (Nat.le_of_ble_eq_true rfl) dL_tick_443 ⟨Nat.le_of_ble_eq_true rfl, Nat.le_of_ble_eq_true rfl⟩) hA hL (fun r_443_3 H locs hr_443_3 hA hL => ?_)
        replace hr_443_3 : r_443_3 = (goF u v f g 0) 7 := hr_443_3
        subst hr_443_3
        refine lv_fload hx hb dL_tick_446 (lv_at hl 2 rfl) ?_
        refine lv_fcmp hx hb dL_tick_448 ?_
        refine lv_if_ne (tgt := 489) hx hb dL_tick_449 (by decide) (fun c_449_3 => absurd (by rw [ht.2.2.2]; exact cmp_self (of_vf hf) _) c_449_3) (fun c_449_3 => ?_)
        refine lv_fload hx hb dL_tick_452 (lv_at hl 7 rfl) ?_
        refine lv_fload hx hb dL_tick_454 (lv_at hl 2 rfl) ?_
        refine lv_fcmp hx hb dL_tick_456 ?_
        refine lv_if_ne (tgt := 489) hx hb dL_tick_457 (by decide) (fun c_457_3 => absurd (by rw [ht.2.2.2]; exact cmp_self (of_vf hf) _) c_457_3) (fun c_457_3 => ?_)
        refine lv_aload_n hx hb dL_tick_460 rfl (lv_at hl 17 rfl) ?_
        refine lv_iconst (v := 1) hx hb dL_tick_461 (by decide) ?_
        refine lr_i (rL (rest := []) ⟨hx, hb, hml, hown, hts⟩ (LB_door l G cA A o (u, v, (goF u v f g 0), (goG u v f g 0), (goL u v g L 0)) (recN n) K ch 1 ) (cwV 1 hts gL_tick_X8_door rfl rfl rfl mdX8_door ⟨Nat.le_of_ble_eq_true rfl, Nat.le_of_ble_eq_true rfl⟩) hA hL rfl hl rfl (Nat.le_of_ble_eq_true rfl) dL_tick_462 ⟨Nat.le_of_ble_eq_true rfl, Nat.le_of_ble_eq_true rfl⟩) hA hL (fun r_462_3 H locs hr_462_3 hA hL => ?_)
        replace hr_462_3 : r_462_3 = (goG u v f g 0) 16 := hr_462_3
        subst hr_462_3
        refine lv_iload hx hb dL_tick_465 (lv_at hl 4 rfl) ?_
        refine lv_icmp_ne (tgt := 489) hx hb dL_tick_467 (by decide) (fun c_467_3 => absurd ht.2.1 c_467_3) (fun c_467_3 => ?_)
        refine lv_aload_n hx hb dL_tick_470 rfl (lv_at hl 17 rfl) ?_
        refine lv_iconst (v := 2) hx hb dL_tick_471 (by decide) ?_
        refine lr_i (rL (rest := []) ⟨hx, hb, hml, hown, hts⟩ (LB_door l G cA A o (u, v, (goF u v f g 0), (goG u v f g 0), (goL u v g L 0)) (recN n) K ch 2 ) (cwV 1 hts gL_tick_X8_door rfl rfl rfl mdX8_door ⟨Nat.le_of_ble_eq_true rfl, Nat.le_of_ble_eq_true rfl⟩) hA hL rfl hl rfl (Nat.le_of_ble_eq_true rfl) dL_tick_472 ⟨Nat.le_of_ble_eq_true rfl, Nat.le_of_ble_eq_true rfl⟩) hA hL (fun r_472_3 H locs hr_472_3 hA hL => ?_)
        replace hr_472_3 : r_472_3 = oneF ((goG u v f g 0) 17) := hr_472_3
        subst hr_472_3
        refine lv_iload hx hb dL_tick_475 (lv_at hl 0 rfl) ?_
        refine lv_if_eq (tgt := 484) hx hb dL_tick_477 (by decide) (fun _ => ?_) (fun h9 => absurd (by decide) h9)
        refine lv_iload hx hb dL_tick_484 (lv_at hl 12 rfl) ?_
        refine lv_icmp_eq (tgt := 491) hx hb dL_tick_486 (by decide) (fun c_486_3 => ?_) (fun c_486_3 => absurd (by rw [ht.2.2.1] <;> rfl) c_486_3)
        refine lv_iload hx hb dL_tick_491 (lv_at hl 5 rfl) ?_
        refine lv_if_eq (tgt := 554) hx hb dL_tick_493 (by decide) (fun h9 => absurd h9 (by decide)) (fun _ => ?_)
        refine lv_aload_n hx hb dL_tick_496 rfl (lv_at hl 17 rfl) ?_
        refine lv_iconst (v := 0) hx hb dL_tick_497 (by decide) ?_
        refine lr_i (rL (rest := []) ⟨hx, hb, hml, hown, hts⟩ (LB_thing l G cA A o (u, v, (goF u v f g 0), (goG u v f g 0), (goL u v g L 0)) (recN n) K ch 0 hP2) (cwV 1 hts gL_tick_X8_thing rfl rfl rfl mdX8_thing ⟨Nat.le_of_ble_eq_true rfl, Nat.le_of_ble_eq_true rfl⟩) hA hL rfl hl rfl (Nat.le_of_ble_eq_true rfl) dL_tick_498 ⟨Nat.le_of_ble_eq_true rfl, Nat.le_of_ble_eq_true rfl⟩) hA hL (fun r_498_3 H locs hr_498_3 hA hL => ?_)
        replace hr_498_3 : r_498_3 = -5 := hr_498_3.trans (th_none 0 (by decide) (by decide) h5)
        subst hr_498_3
        refine lv_bipush (v := (-5)) hx hb dL_tick_501 (by decide) ?_
        refine lv_icmp_ne (tgt := 552) hx hb dL_tick_503 (by decide) (fun h9 => absurd (by decide) h9) (fun _ => ?_)
        refine lv_aload_n hx hb dL_tick_506 rfl (lv_at hl 17 rfl) ?_
        refine lv_iconst (v := 0) hx hb dL_tick_507 (by decide) ?_
        refine lv_iconst (v := 0) hx hb dL_tick_508 (by decide) ?_
        refine lr_i (rL (rest := []) ⟨hx, hb, hml, hown, hts⟩ (LB_judged l G cA A o (u, v, (goF u v f g 0), (goG u v f g 0), (goL u v g L 0)) (recN n) K ch 0 0 ) (cwV 2 hts gL_tick_X8_judged rfl rfl rfl mdX8_judged ⟨Nat.le_of_ble_eq_true rfl, Nat.le_of_ble_eq_true rfl⟩) hA hL rfl hl rfl (Nat.le_of_ble_eq_true rfl) dL_tick_509 ⟨Nat.le_of_ble_eq_true rfl, Nat.le_of_ble_eq_true rfl⟩) hA hL (fun r_509_3 H locs hr_509_3 hA hL => ?_)
        replace hr_509_3 : r_509_3 = bestK u g := hr_509_3.trans hju.1
        subst hr_509_3
        refine lv_iload hx hb dL_tick_512 (lv_at hl 8 rfl) ?_
        refine lv_icmp_ne (tgt := 552) hx hb dL_tick_514 (by decide) (fun c_514_3 => absurd rfl c_514_3) (fun c_514_3 => ?_)
        refine lv_aload_n hx hb dL_tick_517 rfl (lv_at hl 17 rfl) ?_
        refine lv_iload hx hb dL_tick_518 (lv_at hl 8 rfl) ?_
        refine lv_iconst (v := 1) hx hb dL_tick_520 (by decide) ?_
        refine lv_iadd hx hb dL_tick_521 ?_
        refine lr_i (rL (rest := []) ⟨hx, hb, hml, hown, hts⟩ (LB_count l G cA A o (u, v, (goF u v f g 0), (goG u v f g 0), (goL u v g L 0)) (recN n) K ch ((bestK u g) + 1)) (cwV 1 hts gL_tick_X8_count rfl rfl rfl mdX8_count ⟨Nat.le_of_ble_eq_true rfl, Nat.le_of_ble_eq_true rfl⟩) hA hL rfl hl rfl (Nat.le_of_ble_eq_true rfl) dL_tick_522 ⟨Nat.le_of_ble_eq_true rfl, Nat.le_of_ble_eq_true rfl⟩) hA hL (fun r_522_3 H locs hr_522_3 hA hL => ?_)
        replace hr_522_3 : r_522_3 = cnF (goG u v f g 0) (nI (recN n)) (nI K) ((bestK u g) + 1) := hr_522_3
        subst hr_522_3
        refine lv_iload hx hb dL_tick_525 (lv_at hl 6 rfl) ?_
        refine lv_iconst (v := 1) hx hb dL_tick_527 (by decide) ?_
        refine lv_iadd hx hb dL_tick_528 ?_
        refine lv_icmp_ne (tgt := 552) hx hb dL_tick_529 (by decide) (fun c_529_3 => absurd hcn c_529_3) (fun c_529_3 => ?_)
        refine lv_aload_n hx hb dL_tick_532 rfl (lv_at hl 17 rfl) ?_
        refine lv_iconst (v := 0) hx hb dL_tick_533 (by decide) ?_
        refine lv_iconst (v := 4) hx hb dL_tick_534 (by decide) ?_
        refine lr_i (rL (rest := []) ⟨hx, hb, hml, hown, hts⟩ (LB_judged l G cA A o (u, v, (goF u v f g 0), (goG u v f g 0), (goL u v g L 0)) (recN n) K ch 0 4 ) (cwV 2 hts gL_tick_X8_judged rfl rfl rfl mdX8_judged ⟨Nat.le_of_ble_eq_true rfl, Nat.le_of_ble_eq_true rfl⟩) hA hL rfl hl rfl (Nat.le_of_ble_eq_true rfl) dL_tick_535 ⟨Nat.le_of_ble_eq_true rfl, Nat.le_of_ble_eq_true rfl⟩) hA hL (fun r_535_3 H locs hr_535_3 hA hL => ?_)
        replace hr_535_3 : r_535_3 = (goG u v f g 0) 27 - 1 := hr_535_3.trans hju.2
        subst hr_535_3
        refine lv_aload_n hx hb dL_tick_538 rfl (lv_at hl 17 rfl) ?_
        refine lv_iconst (v := 0) hx hb dL_tick_539 (by decide) ?_
        refine lr_i (rL (rest := [.int ((goG u v f g 0) 27 - 1)]) ⟨hx, hb, hml, hown, hts⟩ (LB_count l G cA A o (u, v, (goF u v f g 0), (goG u v f g 0), (goL u v g L 0)) (recN n) K ch 0) (cwV 1 hts gL_tick_X8_count rfl rfl rfl mdX8_count ⟨Nat.le_of_ble_eq_true rfl, Nat.le_of_ble_eq_true rfl⟩) hA hL rfl hl rfl (Nat.le_of_ble_eq_true rfl) dL_tick_540 ⟨Nat.le_of_ble_eq_true rfl, Nat.le_of_ble_eq_true rfl⟩) hA hL (fun r_540_3 H locs hr_540_3 hA hL => ?_)
        replace hr_540_3 : r_540_3 = (goG u v f g 0) 27 := hr_540_3
        subst hr_540_3
        refine lv_iconst (v := 1) hx hb dL_tick_543 (by decide) ?_
        refine lv_isub hx hb dL_tick_544 ?_
        refine lv_icmp_ne (tgt := 552) hx hb dL_tick_545 (by decide) (fun c_545_3 => absurd rfl c_545_3) (fun c_545_3 => ?_)
        refine lv_iconst (v := 1) hx hb dL_tick_548 (by decide) ?_
        refine lv_goto (tgt := 553) hx hb dL_tick_549 (by decide) ?_
        exact en_l (post := fun r (_ : Unit) => r = 1) (B := fun _ H => LB G cA A o (u, v, (goF u v f g 0), (goG u v f g 0), (goL u v g L 0)) (recN n) K ch H) () hx hb hr hlocks hA rfl hL dL_tick_553
set_option maxHeartbeats 8000000 in
set_option maxRecDepth 100000 in
/-- tick(o, beams), in the state 1, case te -/
theorem cL_tick_1_te (l : Launch) (G : va_G) (cA : Nat → ClassId) (A : Nat → Prop) (o : Nat) (u : FF) (v : GG) (f : FF) (g L : GG) (n K : Nat) (ch : GG) (hs : g 13 = 1) (hn : n ≤ 4) (hGo : GoOk u f g) (hPr : PrOk u g) (hP2 : PrOk u (goG u v f g 0)) (hT : ¬ 99999 < g 27 + nI 1) (hBo : Bo g) (hf : vf_n32 (f 7)) (hg : ¬ g 5 = 0) (h7 : ¬ g 7 < 1) (hc : ¬ g 11 + 1 < v 4) (h18 : ¬ (goG u v f g 0) 18 ≤ 0) : Met l yL_tick wsL_tick ({ frames := 7, cells := 0, slots := 0, locals := 160 } : Room) (va_Pc [.ref o, .int 0] (LbP G cA A o (u, v, f, g, L) n K ch)) (va_Qi (fun r (_ : Unit) => r = 1) (fun _ t => LB G cA A o (u, v, (goF u v f g 0), (goG u v f g 0), (goL u v g L 0)) (recN n) K ch t.heap) A) 0 0 A := by
  refine ofW2 (cc := cL_tick) (maxL := 19) (ret := (some .boolean)) (own := RL) (by decide) rfl rfl (Nat.le_of_ble_eq_true rfl) rfl ?_
  intro p e s m below meth c ls hx hb hml hr hts hown hlocks hv hl
  obtain ⟨hE, hN, hL⟩ := hv
  have hA : At G cA A s s.heap [] := ⟨hE, hN, va_S.rf⟩
  obtain ⟨H, hH0⟩ : ∃ H, H = s.heap := ⟨_, rfl⟩
  rw [← hH0] at hL ⊢
  replace hA : At G cA A s H [] := by rw [hH0]; exact hA
  generalize ([] : List Loc) = locs at hA ⊢
  clear hH0
  replace hl : lv_has ls 19 [(0, .ref o), (1, .int 0)] := hl
  have hG1 : ∀ k, k < 1 → GoOk u (itS u v 0 (f, g, L) k).1 (itS u v 0 (f, g, L) k).2.1 := fun k hk => (show k = 0 by omega) ▸ hGo
  have ht := t_1 (b := 0) hs (u := u) (v := v) (f := f)
  have hcr : ¬ clearR g (v 4) = 0 := clearR_yes hg hc
  have h5 : (goG u v f g 0) 5 = 0 := mv_5.trans (pre_5e hcr)
  have hju := ju_new (u := u) (f := f) (L := L) hcr h18
  have hcn := cn_new (u := u) (f := f) (n := n) (K := K) hcr
  have hp16 : preG u v g 0 16 = (if bestK u g = 0 then (if g 12 = 0 then g 16 else if g 16 ≤ 0 then g 16 else g 16 - 1) else g 16) := pre_16e hcr
  refine lv_aload_n hx hb dL_tick_0 rfl (lv_at hl 0 rfl) ?_
  refine lv_iconst (v := 0) hx hb dL_tick_1 (by decide) ?_
  refine lr_i (rL (rest := []) ⟨hx, hb, hml, hown, hts⟩ (LB_door l G cA A o (u, v, f, g, L) n K ch 0 ) (cwV 1 hts gL_tick_X8_door rfl rfl rfl mdX8_door ⟨Nat.le_of_ble_eq_true rfl, Nat.le_of_ble_eq_true rfl⟩) hA hL rfl hl rfl (Nat.le_of_ble_eq_true rfl) dL_tick_2 ⟨Nat.le_of_ble_eq_true rfl, Nat.le_of_ble_eq_true rfl⟩) hA hL (fun r_2 H locs hr_2 hA hL => ?_)
  replace hr_2 : r_2 = 1 := hr_2.trans hs
  subst hr_2
  refine lv_istore_n (lv' := [(2, .int 1), (0, .ref o), (1, .int 0)]) hx hb dL_tick_5 rfl hl (by decide) rfl (fun ls hl => ?_)
  refine lv_aload_n hx hb dL_tick_6 rfl (lv_at hl 1 rfl) ?_
  refine lr_f (rL (rest := []) ⟨hx, hb, hml, hown, hts⟩ (LB_place l G cA A o (u, v, f, g, L) n K ch  ) (cwV 0 hts gL_tick_X8_place rfl rfl rfl mdX8_place ⟨Nat.le_of_ble_eq_true rfl, Nat.le_of_ble_eq_true rfl⟩) hA hL rfl hl rfl (Nat.le_of_ble_eq_true rfl) dL_tick_7 ⟨Nat.le_of_ble_eq_true rfl, Nat.le_of_ble_eq_true rfl⟩) hA hL (fun r_7 H locs hr_7 hA hL => ?_)
  replace hr_7 : r_7 = f 7 := hr_7
  subst hr_7
  refine lv_fstore_n (lv' := [(3, .float (f 7)), (2, .int 1), (0, .ref o), (1, .int 0)]) hx hb dL_tick_10 rfl hl (by decide) rfl (fun ls hl => ?_)
  refine lv_aload_n hx hb dL_tick_11 rfl (lv_at hl 2 rfl) ?_
  refine lv_iconst (v := 1) hx hb dL_tick_12 (by decide) ?_
  refine lr_i (rL (rest := []) ⟨hx, hb, hml, hown, hts⟩ (LB_door l G cA A o (u, v, f, g, L) n K ch 1 ) (cwV 1 hts gL_tick_X8_door rfl rfl rfl mdX8_door ⟨Nat.le_of_ble_eq_true rfl, Nat.le_of_ble_eq_true rfl⟩) hA hL rfl hl rfl (Nat.le_of_ble_eq_true rfl) dL_tick_13 ⟨Nat.le_of_ble_eq_true rfl, Nat.le_of_ble_eq_true rfl⟩) hA hL (fun r_13 H locs hr_13 hA hL => ?_)
  replace hr_13 : r_13 = g 16 := hr_13
  subst hr_13
  refine lv_istore (lv' := [(4, .int (g 16)), (3, .float (f 7)), (2, .int 1), (0, .ref o), (1, .int 0)]) hx hb dL_tick_16 hl (by decide) rfl (fun ls hl => ?_)
  refine lv_aload_n hx hb dL_tick_18 rfl (lv_at hl 3 rfl) ?_
  refine lv_iconst (v := 3) hx hb dL_tick_19 (by decide) ?_
  refine lr_i (rL (rest := []) ⟨hx, hb, hml, hown, hts⟩ (LB_door l G cA A o (u, v, f, g, L) n K ch 3 ) (cwV 1 hts gL_tick_X8_door rfl rfl rfl mdX8_door ⟨Nat.le_of_ble_eq_true rfl, Nat.le_of_ble_eq_true rfl⟩) hA hL rfl hl rfl (Nat.le_of_ble_eq_true rfl) dL_tick_20 ⟨Nat.le_of_ble_eq_true rfl, Nat.le_of_ble_eq_true rfl⟩) hA hL (fun r_20 H locs hr_20 hA hL => ?_)
  rw [show doF f g 3 = 0 from (by show (if g 13 = 2 then g 14 else 0) = 0; rw [if_neg (by rw [hs]; decide)])] at hr_20
  subst hr_20
  refine lv_istore (lv' := [(5, .int 0), (4, .int (g 16)), (3, .float (f 7)), (2, .int 1), (0, .ref o), (1, .int 0)]) hx hb dL_tick_23 hl (by decide) rfl (fun ls hl => ?_)
  refine lv_aload_n hx hb dL_tick_25 rfl (lv_at hl 4 rfl) ?_
  refine lv_iconst (v := 4) hx hb dL_tick_26 (by decide) ?_
  refine lr_i (rL (rest := []) ⟨hx, hb, hml, hown, hts⟩ (LB_door l G cA A o (u, v, f, g, L) n K ch 4 ) (cwV 1 hts gL_tick_X8_door rfl rfl rfl mdX8_door ⟨Nat.le_of_ble_eq_true rfl, Nat.le_of_ble_eq_true rfl⟩) hA hL rfl hl rfl (Nat.le_of_ble_eq_true rfl) dL_tick_27 ⟨Nat.le_of_ble_eq_true rfl, Nat.le_of_ble_eq_true rfl⟩) hA hL (fun r_27 H locs hr_27 hA hL => ?_)
  rw [show doF f g 4 = 0 from (by show (if g 13 = 3 then g 15 else 0) = 0; rw [if_neg (by rw [hs]; decide)])] at hr_27
  subst hr_27
  refine lv_istore (lv' := [(6, .int 0), (5, .int 0), (4, .int (g 16)), (3, .float (f 7)), (2, .int 1), (0, .ref o), (1, .int 0)]) hx hb dL_tick_30 hl (by decide) rfl (fun ls hl => ?_)
  refine lv_aload_n hx hb dL_tick_32 rfl (lv_at hl 5 rfl) ?_
  refine lv_iconst (v := 2) hx hb dL_tick_33 (by decide) ?_
  refine lr_i (rL (rest := []) ⟨hx, hb, hml, hown, hts⟩ (LB_door l G cA A o (u, v, f, g, L) n K ch 2 ) (cwV 1 hts gL_tick_X8_door rfl rfl rfl mdX8_door ⟨Nat.le_of_ble_eq_true rfl, Nat.le_of_ble_eq_true rfl⟩) hA hL rfl hl rfl (Nat.le_of_ble_eq_true rfl) dL_tick_34 ⟨Nat.le_of_ble_eq_true rfl, Nat.le_of_ble_eq_true rfl⟩) hA hL (fun r_34 H locs hr_34 hA hL => ?_)
  replace hr_34 : r_34 = oneF (g 17) := hr_34
  subst hr_34
  refine lv_istore (lv' := [(7, .int (oneF (g 17))), (6, .int 0), (5, .int 0), (4, .int (g 16)), (3, .float (f 7)), (2, .int 1), (0, .ref o), (1, .int 0)]) hx hb dL_tick_37 hl (by decide) rfl (fun ls hl => ?_)
  refine lv_aload_n hx hb dL_tick_39 rfl (lv_at hl 6 rfl) ?_
  refine lv_iconst (v := 0) hx hb dL_tick_40 (by decide) ?_
  refine lr_i (rL (rest := []) ⟨hx, hb, hml, hown, hts⟩ (LB_thing l G cA A o (u, v, f, g, L) n K ch 0 hPr) (cwV 1 hts gL_tick_X8_thing rfl rfl rfl mdX8_thing ⟨Nat.le_of_ble_eq_true rfl, Nat.le_of_ble_eq_true rfl⟩) hA hL rfl hl rfl (Nat.le_of_ble_eq_true rfl) dL_tick_41 ⟨Nat.le_of_ble_eq_true rfl, Nat.le_of_ble_eq_true rfl⟩) hA hL (fun r_41 H locs hr_41 hA hL => ?_)
  replace hr_41 : r_41 = g 7 := hr_41.trans (th_0 hg)
  subst hr_41
  refine lv_istore (lv' := [(8, .int (g 7)), (7, .int (oneF (g 17))), (6, .int 0), (5, .int 0), (4, .int (g 16)), (3, .float (f 7)), (2, .int 1), (0, .ref o), (1, .int 0)]) hx hb dL_tick_44 hl (by decide) rfl (fun ls hl => ?_)
  refine lv_iload hx hb dL_tick_46 (lv_at hl 0 rfl) ?_
  refine lv_if_ge (tgt := 55) hx hb dL_tick_48 (by decide) (fun c_48 => ?_) (fun c_48 => absurd (show g 7 < 1 by have := Int32.not_le.mp c_48; exact Int32.lt_trans this (by decide)) h7)
  refine lv_aload_n hx hb dL_tick_55 rfl (lv_at hl 7 rfl) ?_
  refine lv_iconst (v := 5) hx hb dL_tick_56 (by decide) ?_
  refine lr_i (rL (rest := []) ⟨hx, hb, hml, hown, hts⟩ (LB_thing l G cA A o (u, v, f, g, L) n K ch 5 hPr) (cwV 1 hts gL_tick_X8_thing rfl rfl rfl mdX8_thing ⟨Nat.le_of_ble_eq_true rfl, Nat.le_of_ble_eq_true rfl⟩) hA hL rfl hl rfl (Nat.le_of_ble_eq_true rfl) dL_tick_57 ⟨Nat.le_of_ble_eq_true rfl, Nat.le_of_ble_eq_true rfl⟩) hA hL (fun r_57 H locs hr_57 hA hL => ?_)
  replace hr_57 : r_57 = g 11 := hr_57.trans (th_5 hg)
  subst hr_57
  refine lv_istore (lv' := [(9, .int (g 11)), (8, .int (g 7)), (7, .int (oneF (g 17))), (6, .int 0), (5, .int 0), (4, .int (g 16)), (3, .float (f 7)), (2, .int 1), (0, .ref o), (1, .int 0)]) hx hb dL_tick_60 hl (by decide) rfl (fun ls hl => ?_)
  refine lv_iload hx hb dL_tick_62 (lv_at hl 1 rfl) ?_
  refine lv_if_ge (tgt := 71) hx hb dL_tick_64 (by decide) (fun c_64 => ?_) (fun c_64 => absurd c_48 c_64)
  refine lv_aload_n hx hb dL_tick_71 rfl (lv_at hl 8 rfl) ?_
  refine lv_bipush (v := 6) hx hb dL_tick_72 (by decide) ?_
  refine lr_i (rL (rest := []) ⟨hx, hb, hml, hown, hts⟩ (LB_thing l G cA A o (u, v, f, g, L) n K ch 6 hPr) (cwV 1 hts gL_tick_X8_thing rfl rfl rfl mdX8_thing ⟨Nat.le_of_ble_eq_true rfl, Nat.le_of_ble_eq_true rfl⟩) hA hL rfl hl rfl (Nat.le_of_ble_eq_true rfl) dL_tick_74 ⟨Nat.le_of_ble_eq_true rfl, Nat.le_of_ble_eq_true rfl⟩) hA hL (fun r_74 H locs hr_74 hA hL => ?_)
  replace hr_74 : r_74 = oneF (g 12) := hr_74.trans (th_6 hg)
  subst hr_74
  refine lv_istore (lv' := [(10, .int (oneF (g 12))), (9, .int (g 11)), (8, .int (g 7)), (7, .int (oneF (g 17))), (6, .int 0), (5, .int 0), (4, .int (g 16)), (3, .float (f 7)), (2, .int 1), (0, .ref o), (1, .int 0)]) hx hb dL_tick_77 hl (by decide) rfl (fun ls hl => ?_)
  refine lv_iload hx hb dL_tick_79 (lv_at hl 2 rfl) ?_
  refine lv_if_ge (tgt := 88) hx hb dL_tick_81 (by decide) (fun c_81 => ?_) (fun c_81 => absurd c_48 c_81)
  refine lv_aload_n hx hb dL_tick_88 rfl (lv_at hl 9 rfl) ?_
  refine lv_bipush (v := 7) hx hb dL_tick_89 (by decide) ?_
  refine lr_i (rL (rest := []) ⟨hx, hb, hml, hown, hts⟩ (LB_thing l G cA A o (u, v, f, g, L) n K ch 7 hPr) (cwV 1 hts gL_tick_X8_thing rfl rfl rfl mdX8_thing ⟨Nat.le_of_ble_eq_true rfl, Nat.le_of_ble_eq_true rfl⟩) hA hL rfl hl rfl (Nat.le_of_ble_eq_true rfl) dL_tick_91 ⟨Nat.le_of_ble_eq_true rfl, Nat.le_of_ble_eq_true rfl⟩) hA hL (fun r_91 H locs hr_91 hA hL => ?_)
  replace hr_91 : r_91 = bestK u g := hr_91.trans (th_7 hg)
  subst hr_91
  refine lv_istore (lv' := [(11, .int (bestK u g)), (10, .int (oneF (g 12))), (9, .int (g 11)), (8, .int (g 7)), (7, .int (oneF (g 17))), (6, .int 0), (5, .int 0), (4, .int (g 16)), (3, .float (f 7)), (2, .int 1), (0, .ref o), (1, .int 0)]) hx hb dL_tick_94 hl (by decide) rfl (fun ls hl => ?_)
  refine lv_aload_n hx hb dL_tick_96 rfl (lv_at hl 10 rfl) ?_
  refine lv_iload_n hx hb dL_tick_97 rfl (lv_at hl 11 rfl) ?_
  refine lv_iconst (v := 1) hx hb dL_tick_98 (by decide) ?_
  refine lw_f (rL (rest := []) ⟨hx, hb, hml, hown, hts⟩ (LB_placeIn_ok l G cA A o (u, v, f, g, L) n K ch 0 1 (by decide) (by decide) (by decide) hG1) (cwV 2 hts gL_tick_X8_placeIn rfl rfl rfl mdX8_placeIn ⟨Nat.le_of_ble_eq_true rfl, Nat.le_of_ble_eq_true rfl⟩) hA hL rfl hl rfl (Nat.le_of_ble_eq_true rfl) dL_tick_99 ⟨Nat.le_of_ble_eq_true rfl, Nat.le_of_ble_eq_true rfl⟩) hA (fun r_99 _ H locs hr_99 hA hL => ?_)
  replace hL : LB G cA A o (u, v, f, g, L) n K ch H := hL
  replace hr_99 : r_99 = (goF u v f g 0) 7 := hr_99
  subst hr_99
  refine lv_fstore (lv' := [(12, .float ((goF u v f g 0) 7)), (11, .int (bestK u g)), (10, .int (oneF (g 12))), (9, .int (g 11)), (8, .int (g 7)), (7, .int (oneF (g 17))), (6, .int 0), (5, .int 0), (4, .int (g 16)), (3, .float (f 7)), (2, .int 1), (0, .ref o), (1, .int 0)]) hx hb dL_tick_102 hl (by decide) rfl (fun ls hl => ?_)
  refine lv_aload_n hx hb dL_tick_104 rfl (lv_at hl 11 rfl) ?_
  refine lv_iload hx hb dL_tick_105 (lv_at hl 1 rfl) ?_
  refine lv_iconst (v := 1) hx hb dL_tick_107 (by decide) ?_
  refine lv_iadd hx hb dL_tick_108 ?_
  refine lr_i (rL (rest := []) ⟨hx, hb, hml, hown, hts⟩ (LB_count l G cA A o (u, v, f, g, L) n K ch ((bestK u g) + 1)) (cwV 1 hts gL_tick_X8_count rfl rfl rfl mdX8_count ⟨Nat.le_of_ble_eq_true rfl, Nat.le_of_ble_eq_true rfl⟩) hA hL rfl hl rfl (Nat.le_of_ble_eq_true rfl) dL_tick_109 ⟨Nat.le_of_ble_eq_true rfl, Nat.le_of_ble_eq_true rfl⟩) hA hL (fun r_109 H locs hr_109 hA hL => ?_)
  replace hr_109 : r_109 = cnF g (nI n) (nI K) ((bestK u g) + 1) := hr_109
  subst hr_109
  refine lv_istore (lv' := [(13, .int (cnF g (nI n) (nI K) ((bestK u g) + 1))), (12, .float ((goF u v f g 0) 7)), (11, .int (bestK u g)), (10, .int (oneF (g 12))), (9, .int (g 11)), (8, .int (g 7)), (7, .int (oneF (g 17))), (6, .int 0), (5, .int 0), (4, .int (g 16)), (3, .float (f 7)), (2, .int 1), (0, .ref o), (1, .int 0)]) hx hb dL_tick_112 hl (by decide) rfl (fun ls hl => ?_)
  refine lv_iload hx hb dL_tick_114 (lv_at hl 5 rfl) ?_
  refine lv_if_le (tgt := 139) hx hb dL_tick_116 (by decide) (fun c_116 => absurd (Int32.lt_of_lt_of_le (by decide) (Int32.not_lt.mp h7)) (Int32.not_lt.mpr c_116)) (fun c_116 => ?_)
  refine lv_iload_n hx hb dL_tick_119 rfl (lv_at hl 13 rfl) ?_
  refine lv_if_ne (tgt := 139) hx hb dL_tick_120 (by decide) (fun h9 => absurd (by decide) h9) (fun _ => ?_)
  refine lv_iload hx hb dL_tick_123 (lv_at hl 4 rfl) ?_
  refine lv_iconst (v := 1) hx hb dL_tick_125 (by decide) ?_
  refine lv_iadd hx hb dL_tick_126 ?_
  refine lv_aload_n hx hb dL_tick_127 rfl (lv_at hl 12 rfl) ?_
  refine lv_iconst (v := 4) hx hb dL_tick_128 (by decide) ?_
  refine lr_i (rL (rest := [.int ((g 11) + 1)]) ⟨hx, hb, hml, hown, hts⟩ (LB_number l G cA A o (u, v, f, g, L) n K ch 4 ) (cwV 1 hts gL_tick_X8_number rfl rfl rfl mdX8_number ⟨Nat.le_of_ble_eq_true rfl, Nat.le_of_ble_eq_true rfl⟩) hA hL rfl hl rfl (Nat.le_of_ble_eq_true rfl) dL_tick_129 ⟨Nat.le_of_ble_eq_true rfl, Nat.le_of_ble_eq_true rfl⟩) hA hL (fun r_129 H locs hr_129 hA hL => ?_)
  replace hr_129 : r_129 = v 4 := hr_129
  subst hr_129
  refine lv_icmp_lt (tgt := 139) hx hb dL_tick_132 (by decide) (fun c_132 => absurd c_132 hc) (fun c_132 => ?_)
  refine lv_iconst (v := 1) hx hb dL_tick_135 (by decide) ?_
  refine lv_goto (tgt := 140) hx hb dL_tick_136 (by decide) ?_
  refine lv_istore (lv' := [(14, .int 1), (13, .int (cnF g (nI n) (nI K) ((bestK u g) + 1))), (12, .float ((goF u v f g 0) 7)), (11, .int (bestK u g)), (10, .int (oneF (g 12))), (9, .int (g 11)), (8, .int (g 7)), (7, .int (oneF (g 17))), (6, .int 0), (5, .int 0), (4, .int (g 16)), (3, .float (f 7)), (2, .int 1), (0, .ref o), (1, .int 0)]) hx hb dL_tick_140 hl (by decide) rfl (fun ls hl => ?_)
  refine lv_iload hx hb dL_tick_142 (lv_at hl 10 rfl) ?_
  refine lv_iload hx hb dL_tick_144 (lv_at hl 0 rfl) ?_
  refine lv_if_eq (tgt := 169) hx hb dL_tick_146 (by decide) (fun h9 => absurd h9 (by decide)) (fun _ => ?_)
  refine lv_iload hx hb dL_tick_149 (lv_at hl 3 rfl) ?_
  refine lv_if_ne (tgt := 169) hx hb dL_tick_151 (by decide) (fun c_151 => ?_) (fun c_151 => ?_)
  · skip
    refine lv_iconst (v := 0) hx hb dL_tick_169 (by decide) ?_
    refine lv_isub hx hb dL_tick_170 ?_
    refine W.eq (g2 := F0 m 171 ls [.int (preG u v g 0 16)]) (by rw [hp16, if_neg c_151, Int32.sub_zero]) ?_
    refine lv_istore (lv' := [(4, .int (preG u v g 0 16)), (14, .int 1), (13, .int (cnF g (nI n) (nI K) ((bestK u g) + 1))), (12, .float ((goF u v f g 0) 7)), (11, .int (bestK u g)), (10, .int (oneF (g 12))), (9, .int (g 11)), (8, .int (g 7)), (7, .int (oneF (g 17))), (6, .int 0), (5, .int 0), (3, .float (f 7)), (2, .int 1), (0, .ref o), (1, .int 0)]) hx hb dL_tick_171 hl (by decide) rfl (fun ls hl => ?_)
    refine lv_iload_n hx hb dL_tick_173 rfl (lv_at hl 12 rfl) ?_
    refine lv_istore (lv' := [(15, .int 1), (4, .int (preG u v g 0 16)), (14, .int 1), (13, .int (cnF g (nI n) (nI K) ((bestK u g) + 1))), (12, .float ((goF u v f g 0) 7)), (11, .int (bestK u g)), (10, .int (oneF (g 12))), (9, .int (g 11)), (8, .int (g 7)), (7, .int (oneF (g 17))), (6, .int 0), (5, .int 0), (3, .float (f 7)), (2, .int 1), (0, .ref o), (1, .int 0)]) hx hb dL_tick_174 hl (by decide) rfl (fun ls hl => ?_)
    refine lv_fload_n hx hb dL_tick_176 rfl (lv_at hl 12 rfl) ?_
    refine lv_fstore (lv' := [(16, .float (f 7)), (15, .int 1), (4, .int (preG u v g 0 16)), (14, .int 1), (13, .int (cnF g (nI n) (nI K) ((bestK u g) + 1))), (12, .float ((goF u v f g 0) 7)), (11, .int (bestK u g)), (10, .int (oneF (g 12))), (9, .int (g 11)), (8, .int (g 7)), (7, .int (oneF (g 17))), (6, .int 0), (5, .int 0), (3, .float (f 7)), (2, .int 1), (0, .ref o), (1, .int 0)]) hx hb dL_tick_177 hl (by decide) rfl (fun ls hl => ?_)
    refine lv_iload_n hx hb dL_tick_179 rfl (lv_at hl 14 rfl) ?_
    refine lv_iconst (v := 1) hx hb dL_tick_180 (by decide) ?_
    refine lv_icmp_ne (tgt := 228) hx hb dL_tick_181 (by decide) (fun h9 => absurd (by decide) h9) (fun _ => ?_)
    refine lv_fload_n hx hb dL_tick_184 rfl (lv_at hl 13 rfl) ?_
    refine lv_aload_n hx hb dL_tick_185 rfl (lv_at hl 15 rfl) ?_
    refine lv_iconst (v := 0) hx hb dL_tick_186 (by decide) ?_
    refine lr_f (rL (rest := [.float (f 7)]) ⟨hx, hb, hml, hown, hts⟩ (LB_speed l G cA A o (u, v, f, g, L) n K ch 0 ) (cwV 1 hts gL_tick_X8_speed rfl rfl rfl mdX8_speed ⟨Nat.le_of_ble_eq_true rfl, Nat.le_of_ble_eq_true rfl⟩) hA hL rfl hl rfl (Nat.le_of_ble_eq_true rfl) dL_tick_187 ⟨Nat.le_of_ble_eq_true rfl, Nat.le_of_ble_eq_true rfl⟩) hA hL (fun r_187 H locs hr_187 hA hL => ?_)
    replace hr_187 : r_187 = u 0 := hr_187
    subst hr_187
    refine lv_fadd hx hb dL_tick_190 (hGo.2.1) ?_
    refine lv_fstore (lv' := [(16, .float (FP.fadd (f 7) (u 0))), (15, .int 1), (4, .int (preG u v g 0 16)), (14, .int 1), (13, .int (cnF g (nI n) (nI K) ((bestK u g) + 1))), (12, .float ((goF u v f g 0) 7)), (11, .int (bestK u g)), (10, .int (oneF (g 12))), (9, .int (g 11)), (8, .int (g 7)), (7, .int (oneF (g 17))), (6, .int 0), (5, .int 0), (3, .float (f 7)), (2, .int 1), (0, .ref o), (1, .int 0)]) hx hb dL_tick_191 hl (by decide) rfl (fun ls hl => ?_)
    refine lv_fload hx hb dL_tick_193 (lv_at hl 0 rfl) ?_
    refine lv_ldcf hx hb hown (hts (.constantFloat RL 32 (1120403456)) (by decide +kernel)) dL_tick_195 ?_
    refine lv_fcmp hx hb dL_tick_197 ?_
    refine lv_if_lt (tgt := 205) hx hb dL_tick_198 (by decide) (fun c_198 => ?_) (fun c_198 => ?_)
    · skip
      refine lv_iconst (v := 1) hx hb dL_tick_205 (by decide) ?_
      refine lv_istore (lv' := [(15, .int 1), (16, .float (FP.fadd (f 7) (u 0))), (4, .int (preG u v g 0 16)), (14, .int 1), (13, .int (cnF g (nI n) (nI K) ((bestK u g) + 1))), (12, .float ((goF u v f g 0) 7)), (11, .int (bestK u g)), (10, .int (oneF (g 12))), (9, .int (g 11)), (8, .int (g 7)), (7, .int (oneF (g 17))), (6, .int 0), (5, .int 0), (3, .float (f 7)), (2, .int 1), (0, .ref o), (1, .int 0)]) hx hb dL_tick_206 hl (by decide) rfl (fun ls hl => ?_)
      refine lv_fload hx hb dL_tick_208 (lv_at hl 1 rfl) ?_
      refine lv_ldcf hx hb hown (hts (.constantFloat RL 32 (1120403456)) (by decide +kernel)) dL_tick_210 ?_
      refine lv_fcmp hx hb dL_tick_212 ?_
      refine lv_if_lt (tgt := 221) hx hb dL_tick_213 (by decide) (fun c_213 => ?_) (fun c_213 => absurd c_198 c_213)
      refine lv_fload hx hb dL_tick_221 (lv_at hl 1 rfl) ?_
      refine lv_fstore (lv' := [(16, .float (FP.fadd (f 7) (u 0))), (15, .int 1), (4, .int (preG u v g 0 16)), (14, .int 1), (13, .int (cnF g (nI n) (nI K) ((bestK u g) + 1))), (12, .float ((goF u v f g 0) 7)), (11, .int (bestK u g)), (10, .int (oneF (g 12))), (9, .int (g 11)), (8, .int (g 7)), (7, .int (oneF (g 17))), (6, .int 0), (5, .int 0), (3, .float (f 7)), (2, .int 1), (0, .ref o), (1, .int 0)]) hx hb dL_tick_223 hl (by decide) rfl (fun ls hl => ?_)
      refine lv_goto (tgt := 385) hx hb dL_tick_225 (by decide) ?_
      refine lv_iload_n hx hb dL_tick_385 rfl (lv_at hl 14 rfl) ?_
      refine lv_iconst (v := 3) hx hb dL_tick_386 (by decide) ?_
      refine lv_icmp_ne (tgt := 400) hx hb dL_tick_387 (by decide) (fun _ => ?_) (fun h9 => absurd h9 (by decide))
      refine lv_iconst (v := 0) hx hb dL_tick_400 (by decide) ?_
      refine lv_istore (lv' := [(17, .int 0), (16, .float (FP.fadd (f 7) (u 0))), (15, .int 1), (4, .int (preG u v g 0 16)), (14, .int 1), (13, .int (cnF g (nI n) (nI K) ((bestK u g) + 1))), (12, .float ((goF u v f g 0) 7)), (11, .int (bestK u g)), (10, .int (oneF (g 12))), (9, .int (g 11)), (8, .int (g 7)), (7, .int (oneF (g 17))), (6, .int 0), (5, .int 0), (3, .float (f 7)), (2, .int 1), (0, .ref o), (1, .int 0)]) hx hb dL_tick_401 hl (by decide) rfl (fun ls hl => ?_)
      refine lv_iload hx hb dL_tick_403 (lv_at hl 0 rfl) ?_
      refine lv_if_eq (tgt := 428) hx hb dL_tick_405 (by decide) (fun _ => ?_) (fun h9 => absurd (by decide) h9)
      refine lv_iconst (v := 0) hx hb dL_tick_428 (by decide) ?_
      refine lv_istore (lv' := [(18, .int 0), (17, .int 0), (16, .float (FP.fadd (f 7) (u 0))), (15, .int 1), (4, .int (preG u v g 0 16)), (14, .int 1), (13, .int (cnF g (nI n) (nI K) ((bestK u g) + 1))), (12, .float ((goF u v f g 0) 7)), (11, .int (bestK u g)), (10, .int (oneF (g 12))), (9, .int (g 11)), (8, .int (g 7)), (7, .int (oneF (g 17))), (6, .int 0), (5, .int 0), (3, .float (f 7)), (2, .int 1), (0, .ref o), (1, .int 0)]) hx hb dL_tick_429 hl (by decide) rfl (fun ls hl => ?_)
      refine lv_aload_n hx hb dL_tick_431 rfl (lv_at hl 17 rfl) ?_
      refine lv_iload_n hx hb dL_tick_432 rfl (lv_at hl 18 rfl) ?_
      refine lv_iconst (v := 1) hx hb dL_tick_433 (by decide) ?_
      refine lw_i (rL (rest := []) ⟨hx, hb, hml, hown, hts⟩ (LB_pass_ok l G cA A o (u, v, f, g, L) n K ch hn 0 1 (by decide) (by decide) (by decide) (by decide) hT hG1 hBo) (cwV 2 hts gL_tick_X8_pass rfl rfl rfl mdX8_pass ⟨Nat.le_of_ble_eq_true rfl, Nat.le_of_ble_eq_true rfl⟩) hA hL rfl hl rfl (Nat.le_of_ble_eq_true rfl) dL_tick_434 ⟨Nat.le_of_ble_eq_true rfl, Nat.le_of_ble_eq_true rfl⟩) hA (fun r_434 _ H locs hr_434 hA hL => ?_)
      replace hL : LB G cA A o (u, v, (goF u v f g 0), (goG u v f g 0), (goL u v g L 0)) (recN n) K ch H := hL
      replace hr_434 : r_434 = (goG u v f g 0) 13 := hr_434
      subst hr_434
      refine lv_iload hx hb dL_tick_437 (lv_at hl 3 rfl) ?_
      refine lv_icmp_ne (tgt := 489) hx hb dL_tick_439 (by decide) (fun c_439 => absurd (ht.1.trans (if_pos c_198)) c_439) (fun c_439 => ?_)
      refine lv_aload_n hx hb dL_tick_442 rfl (lv_at hl 17 rfl) ?_
      refine lr_f (rL (rest := []) ⟨hx, hb, hml, hown, hts⟩ (LB_place l G cA A o (u, v, (goF u v f g 0), (goG u v f g 0), (goL u v g L 0)) (recN n) K ch  ) (cwV 0 hts gL_tick_X8_place rfl rfl rfl mdX8_place ⟨Nat.le_of_ble_eq_true rfl, Nat.le_of_ble_eq_true rfl⟩) hA hL rfl hl rfl (Nat.le_of_ble_eq_true rfl) dL_tick_443 ⟨Nat.le_of_ble_eq_true rfl, Nat.le_of_ble_eq_true rfl⟩) hA hL (fun r_443 H locs hr_443 hA hL => ?_)
      replace hr_443 : r_443 = (goF u v f g 0) 7 := hr_443
      subst hr_443
      refine lv_fload hx hb dL_tick_446 (lv_at hl 2 rfl) ?_
      refine lv_fcmp hx hb dL_tick_448 ?_
      refine lv_if_ne (tgt := 489) hx hb dL_tick_449 (by decide) (fun c_449 => absurd (by rw [(ht.2.2.2.trans (if_pos c_198))]; exact cmp_self (of_vf hGo.2.1) _) c_449) (fun c_449 => ?_)
      refine lv_fload hx hb dL_tick_452 (lv_at hl 7 rfl) ?_
      refine lv_fload hx hb dL_tick_454 (lv_at hl 2 rfl) ?_
      refine lv_fcmp hx hb dL_tick_456 ?_
      refine lv_if_ne (tgt := 489) hx hb dL_tick_457 (by decide) (fun c_457 => absurd (by rw [(ht.2.2.2.trans (if_pos c_198))]; exact cmp_self (of_vf hGo.2.1) _) c_457) (fun c_457 => ?_)
      refine lv_aload_n hx hb dL_tick_460 rfl (lv_at hl 17 rfl) ?_
      refine lv_iconst (v := 1) hx hb dL_tick_461 (by decide) ?_
      refine lr_i (rL (rest := []) ⟨hx, hb, hml, hown, hts⟩ (LB_door l G cA A o (u, v, (goF u v f g 0), (goG u v f g 0), (goL u v g L 0)) (recN n) K ch 1 ) (cwV 1 hts gL_tick_X8_door rfl rfl rfl mdX8_door ⟨Nat.le_of_ble_eq_true rfl, Nat.le_of_ble_eq_true rfl⟩) hA hL rfl hl rfl (Nat.le_of_ble_eq_true rfl) dL_tick_462 ⟨Nat.le_of_ble_eq_true rfl, Nat.le_of_ble_eq_true rfl⟩) hA hL (fun r_462 H locs hr_462 hA hL => ?_)
      replace hr_462 : r_462 = (goG u v f g 0) 16 := hr_462
      subst hr_462
      refine lv_iload hx hb dL_tick_465 (lv_at hl 4 rfl) ?_
      refine lv_icmp_ne (tgt := 489) hx hb dL_tick_467 (by decide) (fun c_467 => absurd ht.2.1 c_467) (fun c_467 => ?_)
      refine lv_aload_n hx hb dL_tick_470 rfl (lv_at hl 17 rfl) ?_
      refine lv_iconst (v := 2) hx hb dL_tick_471 (by decide) ?_
      refine lr_i (rL (rest := []) ⟨hx, hb, hml, hown, hts⟩ (LB_door l G cA A o (u, v, (goF u v f g 0), (goG u v f g 0), (goL u v g L 0)) (recN n) K ch 2 ) (cwV 1 hts gL_tick_X8_door rfl rfl rfl mdX8_door ⟨Nat.le_of_ble_eq_true rfl, Nat.le_of_ble_eq_true rfl⟩) hA hL rfl hl rfl (Nat.le_of_ble_eq_true rfl) dL_tick_472 ⟨Nat.le_of_ble_eq_true rfl, Nat.le_of_ble_eq_true rfl⟩) hA hL (fun r_472 H locs hr_472 hA hL => ?_)
      replace hr_472 : r_472 = oneF ((goG u v f g 0) 17) := hr_472
      subst hr_472
      refine lv_iload hx hb dL_tick_475 (lv_at hl 0 rfl) ?_
      refine lv_if_eq (tgt := 484) hx hb dL_tick_477 (by decide) (fun _ => ?_) (fun h9 => absurd (by decide) h9)
      refine lv_iload hx hb dL_tick_484 (lv_at hl 12 rfl) ?_
      refine lv_icmp_eq (tgt := 491) hx hb dL_tick_486 (by decide) (fun c_486 => ?_) (fun c_486 => absurd (by rw [ht.2.2.1] <;> rfl) c_486)
      refine lv_iload hx hb dL_tick_491 (lv_at hl 5 rfl) ?_
      refine lv_if_eq (tgt := 554) hx hb dL_tick_493 (by decide) (fun h9 => absurd h9 (by decide)) (fun _ => ?_)
      refine lv_aload_n hx hb dL_tick_496 rfl (lv_at hl 17 rfl) ?_
      refine lv_iconst (v := 0) hx hb dL_tick_497 (by decide) ?_
      refine lr_i (rL (rest := []) ⟨hx, hb, hml, hown, hts⟩ (LB_thing l G cA A o (u, v, (goF u v f g 0), (goG u v f g 0), (goL u v g L 0)) (recN n) K ch 0 hP2) (cwV 1 hts gL_tick_X8_thing rfl rfl rfl mdX8_thing ⟨Nat.le_of_ble_eq_true rfl, Nat.le_of_ble_eq_true rfl⟩) hA hL rfl hl rfl (Nat.le_of_ble_eq_true rfl) dL_tick_498 ⟨Nat.le_of_ble_eq_true rfl, Nat.le_of_ble_eq_true rfl⟩) hA hL (fun r_498 H locs hr_498 hA hL => ?_)
      replace hr_498 : r_498 = -5 := hr_498.trans (th_none 0 (by decide) (by decide) h5)
      subst hr_498
      refine lv_bipush (v := (-5)) hx hb dL_tick_501 (by decide) ?_
      refine lv_icmp_ne (tgt := 552) hx hb dL_tick_503 (by decide) (fun h9 => absurd (by decide) h9) (fun _ => ?_)
      refine lv_aload_n hx hb dL_tick_506 rfl (lv_at hl 17 rfl) ?_
      refine lv_iconst (v := 0) hx hb dL_tick_507 (by decide) ?_
      refine lv_iconst (v := 0) hx hb dL_tick_508 (by decide) ?_
      refine lr_i (rL (rest := []) ⟨hx, hb, hml, hown, hts⟩ (LB_judged l G cA A o (u, v, (goF u v f g 0), (goG u v f g 0), (goL u v g L 0)) (recN n) K ch 0 0 ) (cwV 2 hts gL_tick_X8_judged rfl rfl rfl mdX8_judged ⟨Nat.le_of_ble_eq_true rfl, Nat.le_of_ble_eq_true rfl⟩) hA hL rfl hl rfl (Nat.le_of_ble_eq_true rfl) dL_tick_509 ⟨Nat.le_of_ble_eq_true rfl, Nat.le_of_ble_eq_true rfl⟩) hA hL (fun r_509 H locs hr_509 hA hL => ?_)
      replace hr_509 : r_509 = bestK u g := hr_509.trans hju.1
      subst hr_509
      refine lv_iload hx hb dL_tick_512 (lv_at hl 8 rfl) ?_
      refine lv_icmp_ne (tgt := 552) hx hb dL_tick_514 (by decide) (fun c_514 => absurd rfl c_514) (fun c_514 => ?_)
      refine lv_aload_n hx hb dL_tick_517 rfl (lv_at hl 17 rfl) ?_
      refine lv_iload hx hb dL_tick_518 (lv_at hl 8 rfl) ?_
      refine lv_iconst (v := 1) hx hb dL_tick_520 (by decide) ?_
      refine lv_iadd hx hb dL_tick_521 ?_
      refine lr_i (rL (rest := []) ⟨hx, hb, hml, hown, hts⟩ (LB_count l G cA A o (u, v, (goF u v f g 0), (goG u v f g 0), (goL u v g L 0)) (recN n) K ch ((bestK u g) + 1)) (cwV 1 hts gL_tick_X8_count rfl rfl rfl mdX8_count ⟨Nat.le_of_ble_eq_true rfl, Nat.le_of_ble_eq_true rfl⟩) hA hL rfl hl rfl (Nat.le_of_ble_eq_true rfl) dL_tick_522 ⟨Nat.le_of_ble_eq_true rfl, Nat.le_of_ble_eq_true rfl⟩) hA hL (fun r_522 H locs hr_522 hA hL => ?_)
      replace hr_522 : r_522 = cnF (goG u v f g 0) (nI (recN n)) (nI K) ((bestK u g) + 1) := hr_522
      subst hr_522
      refine lv_iload hx hb dL_tick_525 (lv_at hl 6 rfl) ?_
      refine lv_iconst (v := 1) hx hb dL_tick_527 (by decide) ?_
      refine lv_iadd hx hb dL_tick_528 ?_
      refine lv_icmp_ne (tgt := 552) hx hb dL_tick_529 (by decide) (fun c_529 => absurd hcn c_529) (fun c_529 => ?_)
      refine lv_aload_n hx hb dL_tick_532 rfl (lv_at hl 17 rfl) ?_
      refine lv_iconst (v := 0) hx hb dL_tick_533 (by decide) ?_
      refine lv_iconst (v := 4) hx hb dL_tick_534 (by decide) ?_
      refine lr_i (rL (rest := []) ⟨hx, hb, hml, hown, hts⟩ (LB_judged l G cA A o (u, v, (goF u v f g 0), (goG u v f g 0), (goL u v g L 0)) (recN n) K ch 0 4 ) (cwV 2 hts gL_tick_X8_judged rfl rfl rfl mdX8_judged ⟨Nat.le_of_ble_eq_true rfl, Nat.le_of_ble_eq_true rfl⟩) hA hL rfl hl rfl (Nat.le_of_ble_eq_true rfl) dL_tick_535 ⟨Nat.le_of_ble_eq_true rfl, Nat.le_of_ble_eq_true rfl⟩) hA hL (fun r_535 H locs hr_535 hA hL => ?_)
      replace hr_535 : r_535 = (goG u v f g 0) 27 - 1 := hr_535.trans hju.2
      subst hr_535
      refine lv_aload_n hx hb dL_tick_538 rfl (lv_at hl 17 rfl) ?_
      refine lv_iconst (v := 0) hx hb dL_tick_539 (by decide) ?_
      refine lr_i (rL (rest := [.int ((goG u v f g 0) 27 - 1)]) ⟨hx, hb, hml, hown, hts⟩ (LB_count l G cA A o (u, v, (goF u v f g 0), (goG u v f g 0), (goL u v g L 0)) (recN n) K ch 0) (cwV 1 hts gL_tick_X8_count rfl rfl rfl mdX8_count ⟨Nat.le_of_ble_eq_true rfl, Nat.le_of_ble_eq_true rfl⟩) hA hL rfl hl rfl (Nat.le_of_ble_eq_true rfl) dL_tick_540 ⟨Nat.le_of_ble_eq_true rfl, Nat.le_of_ble_eq_true rfl⟩) hA hL (fun r_540 H locs hr_540 hA hL => ?_)
      replace hr_540 : r_540 = (goG u v f g 0) 27 := hr_540
      subst hr_540
      refine lv_iconst (v := 1) hx hb dL_tick_543 (by decide) ?_
      refine lv_isub hx hb dL_tick_544 ?_
      refine lv_icmp_ne (tgt := 552) hx hb dL_tick_545 (by decide) (fun c_545 => absurd rfl c_545) (fun c_545 => ?_)
      refine lv_iconst (v := 1) hx hb dL_tick_548 (by decide) ?_
      refine lv_goto (tgt := 553) hx hb dL_tick_549 (by decide) ?_
      exact en_l (post := fun r (_ : Unit) => r = 1) (B := fun _ H => LB G cA A o (u, v, (goF u v f g 0), (goG u v f g 0), (goL u v g L 0)) (recN n) K ch H) () hx hb hr hlocks hA rfl hL dL_tick_553
    · skip
      refine lv_iconst (v := 2) hx hb dL_tick_201 (by decide) ?_
      refine lv_goto (tgt := 206) hx hb dL_tick_202 (by decide) ?_
      refine lv_istore (lv' := [(15, .int 2), (16, .float (FP.fadd (f 7) (u 0))), (4, .int (preG u v g 0 16)), (14, .int 1), (13, .int (cnF g (nI n) (nI K) ((bestK u g) + 1))), (12, .float ((goF u v f g 0) 7)), (11, .int (bestK u g)), (10, .int (oneF (g 12))), (9, .int (g 11)), (8, .int (g 7)), (7, .int (oneF (g 17))), (6, .int 0), (5, .int 0), (3, .float (f 7)), (2, .int 1), (0, .ref o), (1, .int 0)]) hx hb dL_tick_206 hl (by decide) rfl (fun ls hl => ?_)
      refine lv_fload hx hb dL_tick_208 (lv_at hl 1 rfl) ?_
      refine lv_ldcf hx hb hown (hts (.constantFloat RL 32 (1120403456)) (by decide +kernel)) dL_tick_210 ?_
      refine lv_fcmp hx hb dL_tick_212 ?_
      refine lv_if_lt (tgt := 221) hx hb dL_tick_213 (by decide) (fun c_213_1 => absurd c_213_1 c_198) (fun c_213_1 => ?_)
      refine lv_ldcf hx hb hown (hts (.constantFloat RL 32 (1120403456)) (by decide +kernel)) dL_tick_216 ?_
      refine lv_goto (tgt := 223) hx hb dL_tick_218 (by decide) ?_
      refine lv_fstore (lv' := [(16, .float 1120403456), (15, .int 2), (4, .int (preG u v g 0 16)), (14, .int 1), (13, .int (cnF g (nI n) (nI K) ((bestK u g) + 1))), (12, .float ((goF u v f g 0) 7)), (11, .int (bestK u g)), (10, .int (oneF (g 12))), (9, .int (g 11)), (8, .int (g 7)), (7, .int (oneF (g 17))), (6, .int 0), (5, .int 0), (3, .float (f 7)), (2, .int 1), (0, .ref o), (1, .int 0)]) hx hb dL_tick_223 hl (by decide) rfl (fun ls hl => ?_)
      refine lv_goto (tgt := 385) hx hb dL_tick_225 (by decide) ?_
      refine lv_iload_n hx hb dL_tick_385 rfl (lv_at hl 14 rfl) ?_
      refine lv_iconst (v := 3) hx hb dL_tick_386 (by decide) ?_
      refine lv_icmp_ne (tgt := 400) hx hb dL_tick_387 (by decide) (fun _ => ?_) (fun h9 => absurd h9 (by decide))
      refine lv_iconst (v := 0) hx hb dL_tick_400 (by decide) ?_
      refine lv_istore (lv' := [(17, .int 0), (16, .float 1120403456), (15, .int 2), (4, .int (preG u v g 0 16)), (14, .int 1), (13, .int (cnF g (nI n) (nI K) ((bestK u g) + 1))), (12, .float ((goF u v f g 0) 7)), (11, .int (bestK u g)), (10, .int (oneF (g 12))), (9, .int (g 11)), (8, .int (g 7)), (7, .int (oneF (g 17))), (6, .int 0), (5, .int 0), (3, .float (f 7)), (2, .int 1), (0, .ref o), (1, .int 0)]) hx hb dL_tick_401 hl (by decide) rfl (fun ls hl => ?_)
      refine lv_iload hx hb dL_tick_403 (lv_at hl 0 rfl) ?_
      refine lv_if_eq (tgt := 428) hx hb dL_tick_405 (by decide) (fun _ => ?_) (fun h9 => absurd (by decide) h9)
      refine lv_iconst (v := 0) hx hb dL_tick_428 (by decide) ?_
      refine lv_istore (lv' := [(18, .int 0), (17, .int 0), (16, .float 1120403456), (15, .int 2), (4, .int (preG u v g 0 16)), (14, .int 1), (13, .int (cnF g (nI n) (nI K) ((bestK u g) + 1))), (12, .float ((goF u v f g 0) 7)), (11, .int (bestK u g)), (10, .int (oneF (g 12))), (9, .int (g 11)), (8, .int (g 7)), (7, .int (oneF (g 17))), (6, .int 0), (5, .int 0), (3, .float (f 7)), (2, .int 1), (0, .ref o), (1, .int 0)]) hx hb dL_tick_429 hl (by decide) rfl (fun ls hl => ?_)
      refine lv_aload_n hx hb dL_tick_431 rfl (lv_at hl 17 rfl) ?_
      refine lv_iload_n hx hb dL_tick_432 rfl (lv_at hl 18 rfl) ?_
      refine lv_iconst (v := 1) hx hb dL_tick_433 (by decide) ?_
      refine lw_i (rL (rest := []) ⟨hx, hb, hml, hown, hts⟩ (LB_pass_ok l G cA A o (u, v, f, g, L) n K ch hn 0 1 (by decide) (by decide) (by decide) (by decide) hT hG1 hBo) (cwV 2 hts gL_tick_X8_pass rfl rfl rfl mdX8_pass ⟨Nat.le_of_ble_eq_true rfl, Nat.le_of_ble_eq_true rfl⟩) hA hL rfl hl rfl (Nat.le_of_ble_eq_true rfl) dL_tick_434 ⟨Nat.le_of_ble_eq_true rfl, Nat.le_of_ble_eq_true rfl⟩) hA (fun r_434_1 _ H locs hr_434_1 hA hL => ?_)
      replace hL : LB G cA A o (u, v, (goF u v f g 0), (goG u v f g 0), (goL u v g L 0)) (recN n) K ch H := hL
      replace hr_434_1 : r_434_1 = (goG u v f g 0) 13 := hr_434_1
      subst hr_434_1
      refine lv_iload hx hb dL_tick_437 (lv_at hl 3 rfl) ?_
      refine lv_icmp_ne (tgt := 489) hx hb dL_tick_439 (by decide) (fun c_439_1 => absurd (ht.1.trans (if_neg c_198)) c_439_1) (fun c_439_1 => ?_)
      refine lv_aload_n hx hb dL_tick_442 rfl (lv_at hl 17 rfl) ?_
      refine lr_f (rL (rest := []) ⟨hx, hb, hml, hown, hts⟩ (LB_place l G cA A o (u, v, (goF u v f g 0), (goG u v f g 0), (goL u v g L 0)) (recN n) K ch  ) (cwV 0 hts gL_tick_X8_place rfl rfl rfl mdX8_place ⟨Nat.le_of_ble_eq_true rfl, Nat.le_of_ble_eq_true rfl⟩) hA hL rfl hl rfl (Nat.le_of_ble_eq_true rfl) dL_tick_443 ⟨Nat.le_of_ble_eq_true rfl, Nat.le_of_ble_eq_true rfl⟩) hA hL (fun r_443_1 H locs hr_443_1 hA hL => ?_)
      replace hr_443_1 : r_443_1 = (goF u v f g 0) 7 := hr_443_1
      subst hr_443_1
      refine lv_fload hx hb dL_tick_446 (lv_at hl 2 rfl) ?_
      refine lv_fcmp hx hb dL_tick_448 ?_
      refine lv_if_ne (tgt := 489) hx hb dL_tick_449 (by decide) (fun c_449_1 => absurd (by rw [(ht.2.2.2.trans (if_neg c_198))]; exact cmp_self (of_vf n32_100) _) c_449_1) (fun c_449_1 => ?_)
      refine lv_fload hx hb dL_tick_452 (lv_at hl 7 rfl) ?_
      refine lv_fload hx hb dL_tick_454 (lv_at hl 2 rfl) ?_
      refine lv_fcmp hx hb dL_tick_456 ?_
      refine lv_if_ne (tgt := 489) hx hb dL_tick_457 (by decide) (fun c_457_1 => absurd (by rw [(ht.2.2.2.trans (if_neg c_198))]; exact cmp_self (of_vf n32_100) _) c_457_1) (fun c_457_1 => ?_)
      refine lv_aload_n hx hb dL_tick_460 rfl (lv_at hl 17 rfl) ?_
      refine lv_iconst (v := 1) hx hb dL_tick_461 (by decide) ?_
      refine lr_i (rL (rest := []) ⟨hx, hb, hml, hown, hts⟩ (LB_door l G cA A o (u, v, (goF u v f g 0), (goG u v f g 0), (goL u v g L 0)) (recN n) K ch 1 ) (cwV 1 hts gL_tick_X8_door rfl rfl rfl mdX8_door ⟨Nat.le_of_ble_eq_true rfl, Nat.le_of_ble_eq_true rfl⟩) hA hL rfl hl rfl (Nat.le_of_ble_eq_true rfl) dL_tick_462 ⟨Nat.le_of_ble_eq_true rfl, Nat.le_of_ble_eq_true rfl⟩) hA hL (fun r_462_1 H locs hr_462_1 hA hL => ?_)
      replace hr_462_1 : r_462_1 = (goG u v f g 0) 16 := hr_462_1
      subst hr_462_1
      refine lv_iload hx hb dL_tick_465 (lv_at hl 4 rfl) ?_
      refine lv_icmp_ne (tgt := 489) hx hb dL_tick_467 (by decide) (fun c_467_1 => absurd ht.2.1 c_467_1) (fun c_467_1 => ?_)
      refine lv_aload_n hx hb dL_tick_470 rfl (lv_at hl 17 rfl) ?_
      refine lv_iconst (v := 2) hx hb dL_tick_471 (by decide) ?_
      refine lr_i (rL (rest := []) ⟨hx, hb, hml, hown, hts⟩ (LB_door l G cA A o (u, v, (goF u v f g 0), (goG u v f g 0), (goL u v g L 0)) (recN n) K ch 2 ) (cwV 1 hts gL_tick_X8_door rfl rfl rfl mdX8_door ⟨Nat.le_of_ble_eq_true rfl, Nat.le_of_ble_eq_true rfl⟩) hA hL rfl hl rfl (Nat.le_of_ble_eq_true rfl) dL_tick_472 ⟨Nat.le_of_ble_eq_true rfl, Nat.le_of_ble_eq_true rfl⟩) hA hL (fun r_472_1 H locs hr_472_1 hA hL => ?_)
      replace hr_472_1 : r_472_1 = oneF ((goG u v f g 0) 17) := hr_472_1
      subst hr_472_1
      refine lv_iload hx hb dL_tick_475 (lv_at hl 0 rfl) ?_
      refine lv_if_eq (tgt := 484) hx hb dL_tick_477 (by decide) (fun _ => ?_) (fun h9 => absurd (by decide) h9)
      refine lv_iload hx hb dL_tick_484 (lv_at hl 12 rfl) ?_
      refine lv_icmp_eq (tgt := 491) hx hb dL_tick_486 (by decide) (fun c_486_1 => ?_) (fun c_486_1 => absurd (by rw [ht.2.2.1] <;> rfl) c_486_1)
      refine lv_iload hx hb dL_tick_491 (lv_at hl 5 rfl) ?_
      refine lv_if_eq (tgt := 554) hx hb dL_tick_493 (by decide) (fun h9 => absurd h9 (by decide)) (fun _ => ?_)
      refine lv_aload_n hx hb dL_tick_496 rfl (lv_at hl 17 rfl) ?_
      refine lv_iconst (v := 0) hx hb dL_tick_497 (by decide) ?_
      refine lr_i (rL (rest := []) ⟨hx, hb, hml, hown, hts⟩ (LB_thing l G cA A o (u, v, (goF u v f g 0), (goG u v f g 0), (goL u v g L 0)) (recN n) K ch 0 hP2) (cwV 1 hts gL_tick_X8_thing rfl rfl rfl mdX8_thing ⟨Nat.le_of_ble_eq_true rfl, Nat.le_of_ble_eq_true rfl⟩) hA hL rfl hl rfl (Nat.le_of_ble_eq_true rfl) dL_tick_498 ⟨Nat.le_of_ble_eq_true rfl, Nat.le_of_ble_eq_true rfl⟩) hA hL (fun r_498_1 H locs hr_498_1 hA hL => ?_)
      replace hr_498_1 : r_498_1 = -5 := hr_498_1.trans (th_none 0 (by decide) (by decide) h5)
      subst hr_498_1
      refine lv_bipush (v := (-5)) hx hb dL_tick_501 (by decide) ?_
      refine lv_icmp_ne (tgt := 552) hx hb dL_tick_503 (by decide) (fun h9 => absurd (by decide) h9) (fun _ => ?_)
      refine lv_aload_n hx hb dL_tick_506 rfl (lv_at hl 17 rfl) ?_
      refine lv_iconst (v := 0) hx hb dL_tick_507 (by decide) ?_
      refine lv_iconst (v := 0) hx hb dL_tick_508 (by decide) ?_
      refine lr_i (rL (rest := []) ⟨hx, hb, hml, hown, hts⟩ (LB_judged l G cA A o (u, v, (goF u v f g 0), (goG u v f g 0), (goL u v g L 0)) (recN n) K ch 0 0 ) (cwV 2 hts gL_tick_X8_judged rfl rfl rfl mdX8_judged ⟨Nat.le_of_ble_eq_true rfl, Nat.le_of_ble_eq_true rfl⟩) hA hL rfl hl rfl (Nat.le_of_ble_eq_true rfl) dL_tick_509 ⟨Nat.le_of_ble_eq_true rfl, Nat.le_of_ble_eq_true rfl⟩) hA hL (fun r_509_1 H locs hr_509_1 hA hL => ?_)
      replace hr_509_1 : r_509_1 = bestK u g := hr_509_1.trans hju.1
      subst hr_509_1
      refine lv_iload hx hb dL_tick_512 (lv_at hl 8 rfl) ?_
      refine lv_icmp_ne (tgt := 552) hx hb dL_tick_514 (by decide) (fun c_514_1 => absurd rfl c_514_1) (fun c_514_1 => ?_)
      refine lv_aload_n hx hb dL_tick_517 rfl (lv_at hl 17 rfl) ?_
      refine lv_iload hx hb dL_tick_518 (lv_at hl 8 rfl) ?_
      refine lv_iconst (v := 1) hx hb dL_tick_520 (by decide) ?_
      refine lv_iadd hx hb dL_tick_521 ?_
      refine lr_i (rL (rest := []) ⟨hx, hb, hml, hown, hts⟩ (LB_count l G cA A o (u, v, (goF u v f g 0), (goG u v f g 0), (goL u v g L 0)) (recN n) K ch ((bestK u g) + 1)) (cwV 1 hts gL_tick_X8_count rfl rfl rfl mdX8_count ⟨Nat.le_of_ble_eq_true rfl, Nat.le_of_ble_eq_true rfl⟩) hA hL rfl hl rfl (Nat.le_of_ble_eq_true rfl) dL_tick_522 ⟨Nat.le_of_ble_eq_true rfl, Nat.le_of_ble_eq_true rfl⟩) hA hL (fun r_522_1 H locs hr_522_1 hA hL => ?_)
      replace hr_522_1 : r_522_1 = cnF (goG u v f g 0) (nI (recN n)) (nI K) ((bestK u g) + 1) := hr_522_1
      subst hr_522_1
      refine lv_iload hx hb dL_tick_525 (lv_at hl 6 rfl) ?_
      refine lv_iconst (v := 1) hx hb dL_tick_527 (by decide) ?_
      refine lv_iadd hx hb dL_tick_528 ?_
      refine lv_icmp_ne (tgt := 552) hx hb dL_tick_529 (by decide) (fun c_529_1 => absurd hcn c_529_1) (fun c_529_1 => ?_)
      refine lv_aload_n hx hb dL_tick_532 rfl (lv_at hl 17 rfl) ?_
      refine lv_iconst (v := 0) hx hb dL_tick_533 (by decide) ?_
      refine lv_iconst (v := 4) hx hb dL_tick_534 (by decide) ?_
      refine lr_i (rL (rest := []) ⟨hx, hb, hml, hown, hts⟩ (LB_judged l G cA A o (u, v, (goF u v f g 0), (goG u v f g 0), (goL u v g L 0)) (recN n) K ch 0 4 ) (cwV 2 hts gL_tick_X8_judged rfl rfl rfl mdX8_judged ⟨Nat.le_of_ble_eq_true rfl, Nat.le_of_ble_eq_true rfl⟩) hA hL rfl hl rfl (Nat.le_of_ble_eq_true rfl) dL_tick_535 ⟨Nat.le_of_ble_eq_true rfl, Nat.le_of_ble_eq_true rfl⟩) hA hL (fun r_535_1 H locs hr_535_1 hA hL => ?_)
      replace hr_535_1 : r_535_1 = (goG u v f g 0) 27 - 1 := hr_535_1.trans hju.2
      subst hr_535_1
      refine lv_aload_n hx hb dL_tick_538 rfl (lv_at hl 17 rfl) ?_
      refine lv_iconst (v := 0) hx hb dL_tick_539 (by decide) ?_
      refine lr_i (rL (rest := [.int ((goG u v f g 0) 27 - 1)]) ⟨hx, hb, hml, hown, hts⟩ (LB_count l G cA A o (u, v, (goF u v f g 0), (goG u v f g 0), (goL u v g L 0)) (recN n) K ch 0) (cwV 1 hts gL_tick_X8_count rfl rfl rfl mdX8_count ⟨Nat.le_of_ble_eq_true rfl, Nat.le_of_ble_eq_true rfl⟩) hA hL rfl hl rfl (Nat.le_of_ble_eq_true rfl) dL_tick_540 ⟨Nat.le_of_ble_eq_true rfl, Nat.le_of_ble_eq_true rfl⟩) hA hL (fun r_540_1 H locs hr_540_1 hA hL => ?_)
      replace hr_540_1 : r_540_1 = (goG u v f g 0) 27 := hr_540_1
      subst hr_540_1
      refine lv_iconst (v := 1) hx hb dL_tick_543 (by decide) ?_
      refine lv_isub hx hb dL_tick_544 ?_
      refine lv_icmp_ne (tgt := 552) hx hb dL_tick_545 (by decide) (fun c_545_1 => absurd rfl c_545_1) (fun c_545_1 => ?_)
      refine lv_iconst (v := 1) hx hb dL_tick_548 (by decide) ?_
      refine lv_goto (tgt := 553) hx hb dL_tick_549 (by decide) ?_
      exact en_l (post := fun r (_ : Unit) => r = 1) (B := fun _ H => LB G cA A o (u, v, (goF u v f g 0), (goG u v f g 0), (goL u v g L 0)) (recN n) K ch H) () hx hb hr hlocks hA rfl hL dL_tick_553
  · skip
    refine lv_iload hx hb dL_tick_154 (lv_at hl 4 rfl) ?_
    refine lv_iconst (v := 1) hx hb dL_tick_156 (by decide) ?_
    refine lv_icmp_ne (tgt := 169) hx hb dL_tick_157 (by decide) (fun c_157 => ?_) (fun c_157 => ?_)
    · skip
      refine lv_iconst (v := 0) hx hb dL_tick_169 (by decide) ?_
      refine lv_isub hx hb dL_tick_170 ?_
      refine W.eq (g2 := F0 m 171 ls [.int (preG u v g 0 16)]) (by rw [hp16, if_pos c_151, if_pos (one_n1 c_157), Int32.sub_zero]) ?_
      refine lv_istore (lv' := [(4, .int (preG u v g 0 16)), (14, .int 1), (13, .int (cnF g (nI n) (nI K) ((bestK u g) + 1))), (12, .float ((goF u v f g 0) 7)), (11, .int (bestK u g)), (10, .int (oneF (g 12))), (9, .int (g 11)), (8, .int (g 7)), (7, .int (oneF (g 17))), (6, .int 0), (5, .int 0), (3, .float (f 7)), (2, .int 1), (0, .ref o), (1, .int 0)]) hx hb dL_tick_171 hl (by decide) rfl (fun ls hl => ?_)
      refine lv_iload_n hx hb dL_tick_173 rfl (lv_at hl 12 rfl) ?_
      refine lv_istore (lv' := [(15, .int 1), (4, .int (preG u v g 0 16)), (14, .int 1), (13, .int (cnF g (nI n) (nI K) ((bestK u g) + 1))), (12, .float ((goF u v f g 0) 7)), (11, .int (bestK u g)), (10, .int (oneF (g 12))), (9, .int (g 11)), (8, .int (g 7)), (7, .int (oneF (g 17))), (6, .int 0), (5, .int 0), (3, .float (f 7)), (2, .int 1), (0, .ref o), (1, .int 0)]) hx hb dL_tick_174 hl (by decide) rfl (fun ls hl => ?_)
      refine lv_fload_n hx hb dL_tick_176 rfl (lv_at hl 12 rfl) ?_
      refine lv_fstore (lv' := [(16, .float (f 7)), (15, .int 1), (4, .int (preG u v g 0 16)), (14, .int 1), (13, .int (cnF g (nI n) (nI K) ((bestK u g) + 1))), (12, .float ((goF u v f g 0) 7)), (11, .int (bestK u g)), (10, .int (oneF (g 12))), (9, .int (g 11)), (8, .int (g 7)), (7, .int (oneF (g 17))), (6, .int 0), (5, .int 0), (3, .float (f 7)), (2, .int 1), (0, .ref o), (1, .int 0)]) hx hb dL_tick_177 hl (by decide) rfl (fun ls hl => ?_)
      refine lv_iload_n hx hb dL_tick_179 rfl (lv_at hl 14 rfl) ?_
      refine lv_iconst (v := 1) hx hb dL_tick_180 (by decide) ?_
      refine lv_icmp_ne (tgt := 228) hx hb dL_tick_181 (by decide) (fun h9 => absurd (by decide) h9) (fun _ => ?_)
      refine lv_fload_n hx hb dL_tick_184 rfl (lv_at hl 13 rfl) ?_
      refine lv_aload_n hx hb dL_tick_185 rfl (lv_at hl 15 rfl) ?_
      refine lv_iconst (v := 0) hx hb dL_tick_186 (by decide) ?_
      refine lr_f (rL (rest := [.float (f 7)]) ⟨hx, hb, hml, hown, hts⟩ (LB_speed l G cA A o (u, v, f, g, L) n K ch 0 ) (cwV 1 hts gL_tick_X8_speed rfl rfl rfl mdX8_speed ⟨Nat.le_of_ble_eq_true rfl, Nat.le_of_ble_eq_true rfl⟩) hA hL rfl hl rfl (Nat.le_of_ble_eq_true rfl) dL_tick_187 ⟨Nat.le_of_ble_eq_true rfl, Nat.le_of_ble_eq_true rfl⟩) hA hL (fun r_187_1 H locs hr_187_1 hA hL => ?_)
      replace hr_187_1 : r_187_1 = u 0 := hr_187_1
      subst hr_187_1
      refine lv_fadd hx hb dL_tick_190 (hGo.2.1) ?_
      refine lv_fstore (lv' := [(16, .float (FP.fadd (f 7) (u 0))), (15, .int 1), (4, .int (preG u v g 0 16)), (14, .int 1), (13, .int (cnF g (nI n) (nI K) ((bestK u g) + 1))), (12, .float ((goF u v f g 0) 7)), (11, .int (bestK u g)), (10, .int (oneF (g 12))), (9, .int (g 11)), (8, .int (g 7)), (7, .int (oneF (g 17))), (6, .int 0), (5, .int 0), (3, .float (f 7)), (2, .int 1), (0, .ref o), (1, .int 0)]) hx hb dL_tick_191 hl (by decide) rfl (fun ls hl => ?_)
      refine lv_fload hx hb dL_tick_193 (lv_at hl 0 rfl) ?_
      refine lv_ldcf hx hb hown (hts (.constantFloat RL 32 (1120403456)) (by decide +kernel)) dL_tick_195 ?_
      refine lv_fcmp hx hb dL_tick_197 ?_
      refine lv_if_lt (tgt := 205) hx hb dL_tick_198 (by decide) (fun c_198_1 => ?_) (fun c_198_1 => ?_)
      · skip
        refine lv_iconst (v := 1) hx hb dL_tick_205 (by decide) ?_
        refine lv_istore (lv' := [(15, .int 1), (16, .float (FP.fadd (f 7) (u 0))), (4, .int (preG u v g 0 16)), (14, .int 1), (13, .int (cnF g (nI n) (nI K) ((bestK u g) + 1))), (12, .float ((goF u v f g 0) 7)), (11, .int (bestK u g)), (10, .int (oneF (g 12))), (9, .int (g 11)), (8, .int (g 7)), (7, .int (oneF (g 17))), (6, .int 0), (5, .int 0), (3, .float (f 7)), (2, .int 1), (0, .ref o), (1, .int 0)]) hx hb dL_tick_206 hl (by decide) rfl (fun ls hl => ?_)
        refine lv_fload hx hb dL_tick_208 (lv_at hl 1 rfl) ?_
        refine lv_ldcf hx hb hown (hts (.constantFloat RL 32 (1120403456)) (by decide +kernel)) dL_tick_210 ?_
        refine lv_fcmp hx hb dL_tick_212 ?_
        refine lv_if_lt (tgt := 221) hx hb dL_tick_213 (by decide) (fun c_213_2 => ?_) (fun c_213_2 => absurd c_198_1 c_213_2)
        refine lv_fload hx hb dL_tick_221 (lv_at hl 1 rfl) ?_
        refine lv_fstore (lv' := [(16, .float (FP.fadd (f 7) (u 0))), (15, .int 1), (4, .int (preG u v g 0 16)), (14, .int 1), (13, .int (cnF g (nI n) (nI K) ((bestK u g) + 1))), (12, .float ((goF u v f g 0) 7)), (11, .int (bestK u g)), (10, .int (oneF (g 12))), (9, .int (g 11)), (8, .int (g 7)), (7, .int (oneF (g 17))), (6, .int 0), (5, .int 0), (3, .float (f 7)), (2, .int 1), (0, .ref o), (1, .int 0)]) hx hb dL_tick_223 hl (by decide) rfl (fun ls hl => ?_)
        refine lv_goto (tgt := 385) hx hb dL_tick_225 (by decide) ?_
        refine lv_iload_n hx hb dL_tick_385 rfl (lv_at hl 14 rfl) ?_
        refine lv_iconst (v := 3) hx hb dL_tick_386 (by decide) ?_
        refine lv_icmp_ne (tgt := 400) hx hb dL_tick_387 (by decide) (fun _ => ?_) (fun h9 => absurd h9 (by decide))
        refine lv_iconst (v := 0) hx hb dL_tick_400 (by decide) ?_
        refine lv_istore (lv' := [(17, .int 0), (16, .float (FP.fadd (f 7) (u 0))), (15, .int 1), (4, .int (preG u v g 0 16)), (14, .int 1), (13, .int (cnF g (nI n) (nI K) ((bestK u g) + 1))), (12, .float ((goF u v f g 0) 7)), (11, .int (bestK u g)), (10, .int (oneF (g 12))), (9, .int (g 11)), (8, .int (g 7)), (7, .int (oneF (g 17))), (6, .int 0), (5, .int 0), (3, .float (f 7)), (2, .int 1), (0, .ref o), (1, .int 0)]) hx hb dL_tick_401 hl (by decide) rfl (fun ls hl => ?_)
        refine lv_iload hx hb dL_tick_403 (lv_at hl 0 rfl) ?_
        refine lv_if_eq (tgt := 428) hx hb dL_tick_405 (by decide) (fun _ => ?_) (fun h9 => absurd (by decide) h9)
        refine lv_iconst (v := 0) hx hb dL_tick_428 (by decide) ?_
        refine lv_istore (lv' := [(18, .int 0), (17, .int 0), (16, .float (FP.fadd (f 7) (u 0))), (15, .int 1), (4, .int (preG u v g 0 16)), (14, .int 1), (13, .int (cnF g (nI n) (nI K) ((bestK u g) + 1))), (12, .float ((goF u v f g 0) 7)), (11, .int (bestK u g)), (10, .int (oneF (g 12))), (9, .int (g 11)), (8, .int (g 7)), (7, .int (oneF (g 17))), (6, .int 0), (5, .int 0), (3, .float (f 7)), (2, .int 1), (0, .ref o), (1, .int 0)]) hx hb dL_tick_429 hl (by decide) rfl (fun ls hl => ?_)
        refine lv_aload_n hx hb dL_tick_431 rfl (lv_at hl 17 rfl) ?_
        refine lv_iload_n hx hb dL_tick_432 rfl (lv_at hl 18 rfl) ?_
        refine lv_iconst (v := 1) hx hb dL_tick_433 (by decide) ?_
        refine lw_i (rL (rest := []) ⟨hx, hb, hml, hown, hts⟩ (LB_pass_ok l G cA A o (u, v, f, g, L) n K ch hn 0 1 (by decide) (by decide) (by decide) (by decide) hT hG1 hBo) (cwV 2 hts gL_tick_X8_pass rfl rfl rfl mdX8_pass ⟨Nat.le_of_ble_eq_true rfl, Nat.le_of_ble_eq_true rfl⟩) hA hL rfl hl rfl (Nat.le_of_ble_eq_true rfl) dL_tick_434 ⟨Nat.le_of_ble_eq_true rfl, Nat.le_of_ble_eq_true rfl⟩) hA (fun r_434_2 _ H locs hr_434_2 hA hL => ?_)
        replace hL : LB G cA A o (u, v, (goF u v f g 0), (goG u v f g 0), (goL u v g L 0)) (recN n) K ch H := hL
        replace hr_434_2 : r_434_2 = (goG u v f g 0) 13 := hr_434_2
        subst hr_434_2
        refine lv_iload hx hb dL_tick_437 (lv_at hl 3 rfl) ?_
        refine lv_icmp_ne (tgt := 489) hx hb dL_tick_439 (by decide) (fun c_439_2 => absurd (ht.1.trans (if_pos c_198_1)) c_439_2) (fun c_439_2 => ?_)
        refine lv_aload_n hx hb dL_tick_442 rfl (lv_at hl 17 rfl) ?_
        refine lr_f (rL (rest := []) ⟨hx, hb, hml, hown, hts⟩ (LB_place l G cA A o (u, v, (goF u v f g 0), (goG u v f g 0), (goL u v g L 0)) (recN n) K ch  ) (cwV 0 hts gL_tick_X8_place rfl rfl rfl mdX8_place ⟨Nat.le_of_ble_eq_true rfl, Nat.le_of_ble_eq_true rfl⟩) hA hL rfl hl rfl (Nat.le_of_ble_eq_true rfl) dL_tick_443 ⟨Nat.le_of_ble_eq_true rfl, Nat.le_of_ble_eq_true rfl⟩) hA hL (fun r_443_2 H locs hr_443_2 hA hL => ?_)
        replace hr_443_2 : r_443_2 = (goF u v f g 0) 7 := hr_443_2
        subst hr_443_2
        refine lv_fload hx hb dL_tick_446 (lv_at hl 2 rfl) ?_
        refine lv_fcmp hx hb dL_tick_448 ?_
        refine lv_if_ne (tgt := 489) hx hb dL_tick_449 (by decide) (fun c_449_2 => absurd (by rw [(ht.2.2.2.trans (if_pos c_198_1))]; exact cmp_self (of_vf hGo.2.1) _) c_449_2) (fun c_449_2 => ?_)
        refine lv_fload hx hb dL_tick_452 (lv_at hl 7 rfl) ?_
        refine lv_fload hx hb dL_tick_454 (lv_at hl 2 rfl) ?_
        refine lv_fcmp hx hb dL_tick_456 ?_
        refine lv_if_ne (tgt := 489) hx hb dL_tick_457 (by decide) (fun c_457_2 => absurd (by rw [(ht.2.2.2.trans (if_pos c_198_1))]; exact cmp_self (of_vf hGo.2.1) _) c_457_2) (fun c_457_2 => ?_)
        refine lv_aload_n hx hb dL_tick_460 rfl (lv_at hl 17 rfl) ?_
        refine lv_iconst (v := 1) hx hb dL_tick_461 (by decide) ?_
        refine lr_i (rL (rest := []) ⟨hx, hb, hml, hown, hts⟩ (LB_door l G cA A o (u, v, (goF u v f g 0), (goG u v f g 0), (goL u v g L 0)) (recN n) K ch 1 ) (cwV 1 hts gL_tick_X8_door rfl rfl rfl mdX8_door ⟨Nat.le_of_ble_eq_true rfl, Nat.le_of_ble_eq_true rfl⟩) hA hL rfl hl rfl (Nat.le_of_ble_eq_true rfl) dL_tick_462 ⟨Nat.le_of_ble_eq_true rfl, Nat.le_of_ble_eq_true rfl⟩) hA hL (fun r_462_2 H locs hr_462_2 hA hL => ?_)
        replace hr_462_2 : r_462_2 = (goG u v f g 0) 16 := hr_462_2
        subst hr_462_2
        refine lv_iload hx hb dL_tick_465 (lv_at hl 4 rfl) ?_
        refine lv_icmp_ne (tgt := 489) hx hb dL_tick_467 (by decide) (fun c_467_2 => absurd ht.2.1 c_467_2) (fun c_467_2 => ?_)
        refine lv_aload_n hx hb dL_tick_470 rfl (lv_at hl 17 rfl) ?_
        refine lv_iconst (v := 2) hx hb dL_tick_471 (by decide) ?_
        refine lr_i (rL (rest := []) ⟨hx, hb, hml, hown, hts⟩ (LB_door l G cA A o (u, v, (goF u v f g 0), (goG u v f g 0), (goL u v g L 0)) (recN n) K ch 2 ) (cwV 1 hts gL_tick_X8_door rfl rfl rfl mdX8_door ⟨Nat.le_of_ble_eq_true rfl, Nat.le_of_ble_eq_true rfl⟩) hA hL rfl hl rfl (Nat.le_of_ble_eq_true rfl) dL_tick_472 ⟨Nat.le_of_ble_eq_true rfl, Nat.le_of_ble_eq_true rfl⟩) hA hL (fun r_472_2 H locs hr_472_2 hA hL => ?_)
        replace hr_472_2 : r_472_2 = oneF ((goG u v f g 0) 17) := hr_472_2
        subst hr_472_2
        refine lv_iload hx hb dL_tick_475 (lv_at hl 0 rfl) ?_
        refine lv_if_eq (tgt := 484) hx hb dL_tick_477 (by decide) (fun _ => ?_) (fun h9 => absurd (by decide) h9)
        refine lv_iload hx hb dL_tick_484 (lv_at hl 12 rfl) ?_
        refine lv_icmp_eq (tgt := 491) hx hb dL_tick_486 (by decide) (fun c_486_2 => ?_) (fun c_486_2 => absurd (by rw [ht.2.2.1] <;> rfl) c_486_2)
        refine lv_iload hx hb dL_tick_491 (lv_at hl 5 rfl) ?_
        refine lv_if_eq (tgt := 554) hx hb dL_tick_493 (by decide) (fun h9 => absurd h9 (by decide)) (fun _ => ?_)
        refine lv_aload_n hx hb dL_tick_496 rfl (lv_at hl 17 rfl) ?_
        refine lv_iconst (v := 0) hx hb dL_tick_497 (by decide) ?_
        refine lr_i (rL (rest := []) ⟨hx, hb, hml, hown, hts⟩ (LB_thing l G cA A o (u, v, (goF u v f g 0), (goG u v f g 0), (goL u v g L 0)) (recN n) K ch 0 hP2) (cwV 1 hts gL_tick_X8_thing rfl rfl rfl mdX8_thing ⟨Nat.le_of_ble_eq_true rfl, Nat.le_of_ble_eq_true rfl⟩) hA hL rfl hl rfl (Nat.le_of_ble_eq_true rfl) dL_tick_498 ⟨Nat.le_of_ble_eq_true rfl, Nat.le_of_ble_eq_true rfl⟩) hA hL (fun r_498_2 H locs hr_498_2 hA hL => ?_)
        replace hr_498_2 : r_498_2 = -5 := hr_498_2.trans (th_none 0 (by decide) (by decide) h5)
        subst hr_498_2
        refine lv_bipush (v := (-5)) hx hb dL_tick_501 (by decide) ?_
        refine lv_icmp_ne (tgt := 552) hx hb dL_tick_503 (by decide) (fun h9 => absurd (by decide) h9) (fun _ => ?_)
        refine lv_aload_n hx hb dL_tick_506 rfl (lv_at hl 17 rfl) ?_
        refine lv_iconst (v := 0) hx hb dL_tick_507 (by decide) ?_
        refine lv_iconst (v := 0) hx hb dL_tick_508 (by decide) ?_
        refine lr_i (rL (rest := []) ⟨hx, hb, hml, hown, hts⟩ (LB_judged l G cA A o (u, v, (goF u v f g 0), (goG u v f g 0), (goL u v g L 0)) (recN n) K ch 0 0 ) (cwV 2 hts gL_tick_X8_judged rfl rfl rfl mdX8_judged ⟨Nat.le_of_ble_eq_true rfl, Nat.le_of_ble_eq_true rfl⟩) hA hL rfl hl rfl (Nat.le_of_ble_eq_true rfl) dL_tick_509 ⟨Nat.le_of_ble_eq_true rfl, Nat.le_of_ble_eq_true rfl⟩) hA hL (fun r_509_2 H locs hr_509_2 hA hL => ?_)
        replace hr_509_2 : r_509_2 = bestK u g := hr_509_2.trans hju.1
        subst hr_509_2
        refine lv_iload hx hb dL_tick_512 (lv_at hl 8 rfl) ?_
        refine lv_icmp_ne (tgt := 552) hx hb dL_tick_514 (by decide) (fun c_514_2 => absurd rfl c_514_2) (fun c_514_2 => ?_)
        refine lv_aload_n hx hb dL_tick_517 rfl (lv_at hl 17 rfl) ?_
        refine lv_iload hx hb dL_tick_518 (lv_at hl 8 rfl) ?_
        refine lv_iconst (v := 1) hx hb dL_tick_520 (by decide) ?_
        refine lv_iadd hx hb dL_tick_521 ?_
        refine lr_i (rL (rest := []) ⟨hx, hb, hml, hown, hts⟩ (LB_count l G cA A o (u, v, (goF u v f g 0), (goG u v f g 0), (goL u v g L 0)) (recN n) K ch ((bestK u g) + 1)) (cwV 1 hts gL_tick_X8_count rfl rfl rfl mdX8_count ⟨Nat.le_of_ble_eq_true rfl, Nat.le_of_ble_eq_true rfl⟩) hA hL rfl hl rfl (Nat.le_of_ble_eq_true rfl) dL_tick_522 ⟨Nat.le_of_ble_eq_true rfl, Nat.le_of_ble_eq_true rfl⟩) hA hL (fun r_522_2 H locs hr_522_2 hA hL => ?_)
        replace hr_522_2 : r_522_2 = cnF (goG u v f g 0) (nI (recN n)) (nI K) ((bestK u g) + 1) := hr_522_2
        subst hr_522_2
        refine lv_iload hx hb dL_tick_525 (lv_at hl 6 rfl) ?_
        refine lv_iconst (v := 1) hx hb dL_tick_527 (by decide) ?_
        refine lv_iadd hx hb dL_tick_528 ?_
        refine lv_icmp_ne (tgt := 552) hx hb dL_tick_529 (by decide) (fun c_529_2 => absurd hcn c_529_2) (fun c_529_2 => ?_)
        refine lv_aload_n hx hb dL_tick_532 rfl (lv_at hl 17 rfl) ?_
        refine lv_iconst (v := 0) hx hb dL_tick_533 (by decide) ?_
        refine lv_iconst (v := 4) hx hb dL_tick_534 (by decide) ?_
        refine lr_i (rL (rest := []) ⟨hx, hb, hml, hown, hts⟩ (LB_judged l G cA A o (u, v, (goF u v f g 0), (goG u v f g 0), (goL u v g L 0)) (recN n) K ch 0 4 ) (cwV 2 hts gL_tick_X8_judged rfl rfl rfl mdX8_judged ⟨Nat.le_of_ble_eq_true rfl, Nat.le_of_ble_eq_true rfl⟩) hA hL rfl hl rfl (Nat.le_of_ble_eq_true rfl) dL_tick_535 ⟨Nat.le_of_ble_eq_true rfl, Nat.le_of_ble_eq_true rfl⟩) hA hL (fun r_535_2 H locs hr_535_2 hA hL => ?_)
        replace hr_535_2 : r_535_2 = (goG u v f g 0) 27 - 1 := hr_535_2.trans hju.2
        subst hr_535_2
        refine lv_aload_n hx hb dL_tick_538 rfl (lv_at hl 17 rfl) ?_
        refine lv_iconst (v := 0) hx hb dL_tick_539 (by decide) ?_
        refine lr_i (rL (rest := [.int ((goG u v f g 0) 27 - 1)]) ⟨hx, hb, hml, hown, hts⟩ (LB_count l G cA A o (u, v, (goF u v f g 0), (goG u v f g 0), (goL u v g L 0)) (recN n) K ch 0) (cwV 1 hts gL_tick_X8_count rfl rfl rfl mdX8_count ⟨Nat.le_of_ble_eq_true rfl, Nat.le_of_ble_eq_true rfl⟩) hA hL rfl hl rfl (Nat.le_of_ble_eq_true rfl) dL_tick_540 ⟨Nat.le_of_ble_eq_true rfl, Nat.le_of_ble_eq_true rfl⟩) hA hL (fun r_540_2 H locs hr_540_2 hA hL => ?_)
        replace hr_540_2 : r_540_2 = (goG u v f g 0) 27 := hr_540_2
        subst hr_540_2
        refine lv_iconst (v := 1) hx hb dL_tick_543 (by decide) ?_
        refine lv_isub hx hb dL_tick_544 ?_
        refine lv_icmp_ne (tgt := 552) hx hb dL_tick_545 (by decide) (fun c_545_2 => absurd rfl c_545_2) (fun c_545_2 => ?_)
        refine lv_iconst (v := 1) hx hb dL_tick_548 (by decide) ?_
        refine lv_goto (tgt := 553) hx hb dL_tick_549 (by decide) ?_
        exact en_l (post := fun r (_ : Unit) => r = 1) (B := fun _ H => LB G cA A o (u, v, (goF u v f g 0), (goG u v f g 0), (goL u v g L 0)) (recN n) K ch H) () hx hb hr hlocks hA rfl hL dL_tick_553
      · skip
        refine lv_iconst (v := 2) hx hb dL_tick_201 (by decide) ?_
        refine lv_goto (tgt := 206) hx hb dL_tick_202 (by decide) ?_
        refine lv_istore (lv' := [(15, .int 2), (16, .float (FP.fadd (f 7) (u 0))), (4, .int (preG u v g 0 16)), (14, .int 1), (13, .int (cnF g (nI n) (nI K) ((bestK u g) + 1))), (12, .float ((goF u v f g 0) 7)), (11, .int (bestK u g)), (10, .int (oneF (g 12))), (9, .int (g 11)), (8, .int (g 7)), (7, .int (oneF (g 17))), (6, .int 0), (5, .int 0), (3, .float (f 7)), (2, .int 1), (0, .ref o), (1, .int 0)]) hx hb dL_tick_206 hl (by decide) rfl (fun ls hl => ?_)
        refine lv_fload hx hb dL_tick_208 (lv_at hl 1 rfl) ?_
        refine lv_ldcf hx hb hown (hts (.constantFloat RL 32 (1120403456)) (by decide +kernel)) dL_tick_210 ?_
        refine lv_fcmp hx hb dL_tick_212 ?_
        refine lv_if_lt (tgt := 221) hx hb dL_tick_213 (by decide) (fun c_213_3 => absurd c_213_3 c_198_1) (fun c_213_3 => ?_)
        refine lv_ldcf hx hb hown (hts (.constantFloat RL 32 (1120403456)) (by decide +kernel)) dL_tick_216 ?_
        refine lv_goto (tgt := 223) hx hb dL_tick_218 (by decide) ?_
        refine lv_fstore (lv' := [(16, .float 1120403456), (15, .int 2), (4, .int (preG u v g 0 16)), (14, .int 1), (13, .int (cnF g (nI n) (nI K) ((bestK u g) + 1))), (12, .float ((goF u v f g 0) 7)), (11, .int (bestK u g)), (10, .int (oneF (g 12))), (9, .int (g 11)), (8, .int (g 7)), (7, .int (oneF (g 17))), (6, .int 0), (5, .int 0), (3, .float (f 7)), (2, .int 1), (0, .ref o), (1, .int 0)]) hx hb dL_tick_223 hl (by decide) rfl (fun ls hl => ?_)
        refine lv_goto (tgt := 385) hx hb dL_tick_225 (by decide) ?_
        refine lv_iload_n hx hb dL_tick_385 rfl (lv_at hl 14 rfl) ?_
        refine lv_iconst (v := 3) hx hb dL_tick_386 (by decide) ?_
        refine lv_icmp_ne (tgt := 400) hx hb dL_tick_387 (by decide) (fun _ => ?_) (fun h9 => absurd h9 (by decide))
        refine lv_iconst (v := 0) hx hb dL_tick_400 (by decide) ?_
        refine lv_istore (lv' := [(17, .int 0), (16, .float 1120403456), (15, .int 2), (4, .int (preG u v g 0 16)), (14, .int 1), (13, .int (cnF g (nI n) (nI K) ((bestK u g) + 1))), (12, .float ((goF u v f g 0) 7)), (11, .int (bestK u g)), (10, .int (oneF (g 12))), (9, .int (g 11)), (8, .int (g 7)), (7, .int (oneF (g 17))), (6, .int 0), (5, .int 0), (3, .float (f 7)), (2, .int 1), (0, .ref o), (1, .int 0)]) hx hb dL_tick_401 hl (by decide) rfl (fun ls hl => ?_)
        refine lv_iload hx hb dL_tick_403 (lv_at hl 0 rfl) ?_
        refine lv_if_eq (tgt := 428) hx hb dL_tick_405 (by decide) (fun _ => ?_) (fun h9 => absurd (by decide) h9)
        refine lv_iconst (v := 0) hx hb dL_tick_428 (by decide) ?_
        refine lv_istore (lv' := [(18, .int 0), (17, .int 0), (16, .float 1120403456), (15, .int 2), (4, .int (preG u v g 0 16)), (14, .int 1), (13, .int (cnF g (nI n) (nI K) ((bestK u g) + 1))), (12, .float ((goF u v f g 0) 7)), (11, .int (bestK u g)), (10, .int (oneF (g 12))), (9, .int (g 11)), (8, .int (g 7)), (7, .int (oneF (g 17))), (6, .int 0), (5, .int 0), (3, .float (f 7)), (2, .int 1), (0, .ref o), (1, .int 0)]) hx hb dL_tick_429 hl (by decide) rfl (fun ls hl => ?_)
        refine lv_aload_n hx hb dL_tick_431 rfl (lv_at hl 17 rfl) ?_
        refine lv_iload_n hx hb dL_tick_432 rfl (lv_at hl 18 rfl) ?_
        refine lv_iconst (v := 1) hx hb dL_tick_433 (by decide) ?_
        refine lw_i (rL (rest := []) ⟨hx, hb, hml, hown, hts⟩ (LB_pass_ok l G cA A o (u, v, f, g, L) n K ch hn 0 1 (by decide) (by decide) (by decide) (by decide) hT hG1 hBo) (cwV 2 hts gL_tick_X8_pass rfl rfl rfl mdX8_pass ⟨Nat.le_of_ble_eq_true rfl, Nat.le_of_ble_eq_true rfl⟩) hA hL rfl hl rfl (Nat.le_of_ble_eq_true rfl) dL_tick_434 ⟨Nat.le_of_ble_eq_true rfl, Nat.le_of_ble_eq_true rfl⟩) hA (fun r_434_3 _ H locs hr_434_3 hA hL => ?_)
        replace hL : LB G cA A o (u, v, (goF u v f g 0), (goG u v f g 0), (goL u v g L 0)) (recN n) K ch H := hL
        replace hr_434_3 : r_434_3 = (goG u v f g 0) 13 := hr_434_3
        subst hr_434_3
        refine lv_iload hx hb dL_tick_437 (lv_at hl 3 rfl) ?_
        refine lv_icmp_ne (tgt := 489) hx hb dL_tick_439 (by decide) (fun c_439_3 => absurd (ht.1.trans (if_neg c_198_1)) c_439_3) (fun c_439_3 => ?_)
        refine lv_aload_n hx hb dL_tick_442 rfl (lv_at hl 17 rfl) ?_
        refine lr_f (rL (rest := []) ⟨hx, hb, hml, hown, hts⟩ (LB_place l G cA A o (u, v, (goF u v f g 0), (goG u v f g 0), (goL u v g L 0)) (recN n) K ch  ) (cwV 0 hts gL_tick_X8_place rfl rfl rfl mdX8_place ⟨Nat.le_of_ble_eq_true rfl, Nat.le_of_ble_eq_true rfl⟩) hA hL rfl hl rfl (Nat.le_of_ble_eq_true rfl) dL_tick_443 ⟨Nat.le_of_ble_eq_true rfl, Nat.le_of_ble_eq_true rfl⟩) hA hL (fun r_443_3 H locs hr_443_3 hA hL => ?_)
        replace hr_443_3 : r_443_3 = (goF u v f g 0) 7 := hr_443_3
        subst hr_443_3
        refine lv_fload hx hb dL_tick_446 (lv_at hl 2 rfl) ?_
        refine lv_fcmp hx hb dL_tick_448 ?_
        refine lv_if_ne (tgt := 489) hx hb dL_tick_449 (by decide) (fun c_449_3 => absurd (by rw [(ht.2.2.2.trans (if_neg c_198_1))]; exact cmp_self (of_vf n32_100) _) c_449_3) (fun c_449_3 => ?_)
        refine lv_fload hx hb dL_tick_452 (lv_at hl 7 rfl) ?_
        refine lv_fload hx hb dL_tick_454 (lv_at hl 2 rfl) ?_
        refine lv_fcmp hx hb dL_tick_456 ?_
        refine lv_if_ne (tgt := 489) hx hb dL_tick_457 (by decide) (fun c_457_3 => absurd (by rw [(ht.2.2.2.trans (if_neg c_198_1))]; exact cmp_self (of_vf n32_100) _) c_457_3) (fun c_457_3 => ?_)
        refine lv_aload_n hx hb dL_tick_460 rfl (lv_at hl 17 rfl) ?_
        refine lv_iconst (v := 1) hx hb dL_tick_461 (by decide) ?_
        refine lr_i (rL (rest := []) ⟨hx, hb, hml, hown, hts⟩ (LB_door l G cA A o (u, v, (goF u v f g 0), (goG u v f g 0), (goL u v g L 0)) (recN n) K ch 1 ) (cwV 1 hts gL_tick_X8_door rfl rfl rfl mdX8_door ⟨Nat.le_of_ble_eq_true rfl, Nat.le_of_ble_eq_true rfl⟩) hA hL rfl hl rfl (Nat.le_of_ble_eq_true rfl) dL_tick_462 ⟨Nat.le_of_ble_eq_true rfl, Nat.le_of_ble_eq_true rfl⟩) hA hL (fun r_462_3 H locs hr_462_3 hA hL => ?_)
        replace hr_462_3 : r_462_3 = (goG u v f g 0) 16 := hr_462_3
        subst hr_462_3
        refine lv_iload hx hb dL_tick_465 (lv_at hl 4 rfl) ?_
        refine lv_icmp_ne (tgt := 489) hx hb dL_tick_467 (by decide) (fun c_467_3 => absurd ht.2.1 c_467_3) (fun c_467_3 => ?_)
        refine lv_aload_n hx hb dL_tick_470 rfl (lv_at hl 17 rfl) ?_
        refine lv_iconst (v := 2) hx hb dL_tick_471 (by decide) ?_
        refine lr_i (rL (rest := []) ⟨hx, hb, hml, hown, hts⟩ (LB_door l G cA A o (u, v, (goF u v f g 0), (goG u v f g 0), (goL u v g L 0)) (recN n) K ch 2 ) (cwV 1 hts gL_tick_X8_door rfl rfl rfl mdX8_door ⟨Nat.le_of_ble_eq_true rfl, Nat.le_of_ble_eq_true rfl⟩) hA hL rfl hl rfl (Nat.le_of_ble_eq_true rfl) dL_tick_472 ⟨Nat.le_of_ble_eq_true rfl, Nat.le_of_ble_eq_true rfl⟩) hA hL (fun r_472_3 H locs hr_472_3 hA hL => ?_)
        replace hr_472_3 : r_472_3 = oneF ((goG u v f g 0) 17) := hr_472_3
        subst hr_472_3
        refine lv_iload hx hb dL_tick_475 (lv_at hl 0 rfl) ?_
        refine lv_if_eq (tgt := 484) hx hb dL_tick_477 (by decide) (fun _ => ?_) (fun h9 => absurd (by decide) h9)
        refine lv_iload hx hb dL_tick_484 (lv_at hl 12 rfl) ?_
        refine lv_icmp_eq (tgt := 491) hx hb dL_tick_486 (by decide) (fun c_486_3 => ?_) (fun c_486_3 => absurd (by rw [ht.2.2.1] <;> rfl) c_486_3)
        refine lv_iload hx hb dL_tick_491 (lv_at hl 5 rfl) ?_
        refine lv_if_eq (tgt := 554) hx hb dL_tick_493 (by decide) (fun h9 => absurd h9 (by decide)) (fun _ => ?_)
        refine lv_aload_n hx hb dL_tick_496 rfl (lv_at hl 17 rfl) ?_
        refine lv_iconst (v := 0) hx hb dL_tick_497 (by decide) ?_
        refine lr_i (rL (rest := []) ⟨hx, hb, hml, hown, hts⟩ (LB_thing l G cA A o (u, v, (goF u v f g 0), (goG u v f g 0), (goL u v g L 0)) (recN n) K ch 0 hP2) (cwV 1 hts gL_tick_X8_thing rfl rfl rfl mdX8_thing ⟨Nat.le_of_ble_eq_true rfl, Nat.le_of_ble_eq_true rfl⟩) hA hL rfl hl rfl (Nat.le_of_ble_eq_true rfl) dL_tick_498 ⟨Nat.le_of_ble_eq_true rfl, Nat.le_of_ble_eq_true rfl⟩) hA hL (fun r_498_3 H locs hr_498_3 hA hL => ?_)
        replace hr_498_3 : r_498_3 = -5 := hr_498_3.trans (th_none 0 (by decide) (by decide) h5)
        subst hr_498_3
        refine lv_bipush (v := (-5)) hx hb dL_tick_501 (by decide) ?_
        refine lv_icmp_ne (tgt := 552) hx hb dL_tick_503 (by decide) (fun h9 => absurd (by decide) h9) (fun _ => ?_)
        refine lv_aload_n hx hb dL_tick_506 rfl (lv_at hl 17 rfl) ?_
        refine lv_iconst (v := 0) hx hb dL_tick_507 (by decide) ?_
        refine lv_iconst (v := 0) hx hb dL_tick_508 (by decide) ?_
        refine lr_i (rL (rest := []) ⟨hx, hb, hml, hown, hts⟩ (LB_judged l G cA A o (u, v, (goF u v f g 0), (goG u v f g 0), (goL u v g L 0)) (recN n) K ch 0 0 ) (cwV 2 hts gL_tick_X8_judged rfl rfl rfl mdX8_judged ⟨Nat.le_of_ble_eq_true rfl, Nat.le_of_ble_eq_true rfl⟩) hA hL rfl hl rfl (Nat.le_of_ble_eq_true rfl) dL_tick_509 ⟨Nat.le_of_ble_eq_true rfl, Nat.le_of_ble_eq_true rfl⟩) hA hL (fun r_509_3 H locs hr_509_3 hA hL => ?_)
        replace hr_509_3 : r_509_3 = bestK u g := hr_509_3.trans hju.1
        subst hr_509_3
        refine lv_iload hx hb dL_tick_512 (lv_at hl 8 rfl) ?_
        refine lv_icmp_ne (tgt := 552) hx hb dL_tick_514 (by decide) (fun c_514_3 => absurd rfl c_514_3) (fun c_514_3 => ?_)
        refine lv_aload_n hx hb dL_tick_517 rfl (lv_at hl 17 rfl) ?_
        refine lv_iload hx hb dL_tick_518 (lv_at hl 8 rfl) ?_
        refine lv_iconst (v := 1) hx hb dL_tick_520 (by decide) ?_
        refine lv_iadd hx hb dL_tick_521 ?_
        refine lr_i (rL (rest := []) ⟨hx, hb, hml, hown, hts⟩ (LB_count l G cA A o (u, v, (goF u v f g 0), (goG u v f g 0), (goL u v g L 0)) (recN n) K ch ((bestK u g) + 1)) (cwV 1 hts gL_tick_X8_count rfl rfl rfl mdX8_count ⟨Nat.le_of_ble_eq_true rfl, Nat.le_of_ble_eq_true rfl⟩) hA hL rfl hl rfl (Nat.le_of_ble_eq_true rfl) dL_tick_522 ⟨Nat.le_of_ble_eq_true rfl, Nat.le_of_ble_eq_true rfl⟩) hA hL (fun r_522_3 H locs hr_522_3 hA hL => ?_)
        replace hr_522_3 : r_522_3 = cnF (goG u v f g 0) (nI (recN n)) (nI K) ((bestK u g) + 1) := hr_522_3
        subst hr_522_3
        refine lv_iload hx hb dL_tick_525 (lv_at hl 6 rfl) ?_
        refine lv_iconst (v := 1) hx hb dL_tick_527 (by decide) ?_
        refine lv_iadd hx hb dL_tick_528 ?_
        refine lv_icmp_ne (tgt := 552) hx hb dL_tick_529 (by decide) (fun c_529_3 => absurd hcn c_529_3) (fun c_529_3 => ?_)
        refine lv_aload_n hx hb dL_tick_532 rfl (lv_at hl 17 rfl) ?_
        refine lv_iconst (v := 0) hx hb dL_tick_533 (by decide) ?_
        refine lv_iconst (v := 4) hx hb dL_tick_534 (by decide) ?_
        refine lr_i (rL (rest := []) ⟨hx, hb, hml, hown, hts⟩ (LB_judged l G cA A o (u, v, (goF u v f g 0), (goG u v f g 0), (goL u v g L 0)) (recN n) K ch 0 4 ) (cwV 2 hts gL_tick_X8_judged rfl rfl rfl mdX8_judged ⟨Nat.le_of_ble_eq_true rfl, Nat.le_of_ble_eq_true rfl⟩) hA hL rfl hl rfl (Nat.le_of_ble_eq_true rfl) dL_tick_535 ⟨Nat.le_of_ble_eq_true rfl, Nat.le_of_ble_eq_true rfl⟩) hA hL (fun r_535_3 H locs hr_535_3 hA hL => ?_)
        replace hr_535_3 : r_535_3 = (goG u v f g 0) 27 - 1 := hr_535_3.trans hju.2
        subst hr_535_3
        refine lv_aload_n hx hb dL_tick_538 rfl (lv_at hl 17 rfl) ?_
        refine lv_iconst (v := 0) hx hb dL_tick_539 (by decide) ?_
        refine lr_i (rL (rest := [.int ((goG u v f g 0) 27 - 1)]) ⟨hx, hb, hml, hown, hts⟩ (LB_count l G cA A o (u, v, (goF u v f g 0), (goG u v f g 0), (goL u v g L 0)) (recN n) K ch 0) (cwV 1 hts gL_tick_X8_count rfl rfl rfl mdX8_count ⟨Nat.le_of_ble_eq_true rfl, Nat.le_of_ble_eq_true rfl⟩) hA hL rfl hl rfl (Nat.le_of_ble_eq_true rfl) dL_tick_540 ⟨Nat.le_of_ble_eq_true rfl, Nat.le_of_ble_eq_true rfl⟩) hA hL (fun r_540_3 H locs hr_540_3 hA hL => ?_)
        replace hr_540_3 : r_540_3 = (goG u v f g 0) 27 := hr_540_3
        subst hr_540_3
        refine lv_iconst (v := 1) hx hb dL_tick_543 (by decide) ?_
        refine lv_isub hx hb dL_tick_544 ?_
        refine lv_icmp_ne (tgt := 552) hx hb dL_tick_545 (by decide) (fun c_545_3 => absurd rfl c_545_3) (fun c_545_3 => ?_)
        refine lv_iconst (v := 1) hx hb dL_tick_548 (by decide) ?_
        refine lv_goto (tgt := 553) hx hb dL_tick_549 (by decide) ?_
        exact en_l (post := fun r (_ : Unit) => r = 1) (B := fun _ H => LB G cA A o (u, v, (goF u v f g 0), (goG u v f g 0), (goL u v g L 0)) (recN n) K ch H) () hx hb hr hlocks hA rfl hL dL_tick_553
    · skip
      refine lv_iload hx hb dL_tick_160 (lv_at hl 10 rfl) ?_
      refine lv_if_le (tgt := 169) hx hb dL_tick_162 (by decide) (fun c_162 => ?_) (fun c_162 => ?_)
      · skip
        refine lv_iconst (v := 0) hx hb dL_tick_169 (by decide) ?_
        refine lv_isub hx hb dL_tick_170 ?_
        refine W.eq (g2 := F0 m 171 ls [.int (preG u v g 0 16)]) (by rw [hp16, if_pos c_151, if_neg (one_y1 c_157), if_pos c_162, Int32.sub_zero]) ?_
        refine lv_istore (lv' := [(4, .int (preG u v g 0 16)), (14, .int 1), (13, .int (cnF g (nI n) (nI K) ((bestK u g) + 1))), (12, .float ((goF u v f g 0) 7)), (11, .int (bestK u g)), (10, .int (oneF (g 12))), (9, .int (g 11)), (8, .int (g 7)), (7, .int (oneF (g 17))), (6, .int 0), (5, .int 0), (3, .float (f 7)), (2, .int 1), (0, .ref o), (1, .int 0)]) hx hb dL_tick_171 hl (by decide) rfl (fun ls hl => ?_)
        refine lv_iload_n hx hb dL_tick_173 rfl (lv_at hl 12 rfl) ?_
        refine lv_istore (lv' := [(15, .int 1), (4, .int (preG u v g 0 16)), (14, .int 1), (13, .int (cnF g (nI n) (nI K) ((bestK u g) + 1))), (12, .float ((goF u v f g 0) 7)), (11, .int (bestK u g)), (10, .int (oneF (g 12))), (9, .int (g 11)), (8, .int (g 7)), (7, .int (oneF (g 17))), (6, .int 0), (5, .int 0), (3, .float (f 7)), (2, .int 1), (0, .ref o), (1, .int 0)]) hx hb dL_tick_174 hl (by decide) rfl (fun ls hl => ?_)
        refine lv_fload_n hx hb dL_tick_176 rfl (lv_at hl 12 rfl) ?_
        refine lv_fstore (lv' := [(16, .float (f 7)), (15, .int 1), (4, .int (preG u v g 0 16)), (14, .int 1), (13, .int (cnF g (nI n) (nI K) ((bestK u g) + 1))), (12, .float ((goF u v f g 0) 7)), (11, .int (bestK u g)), (10, .int (oneF (g 12))), (9, .int (g 11)), (8, .int (g 7)), (7, .int (oneF (g 17))), (6, .int 0), (5, .int 0), (3, .float (f 7)), (2, .int 1), (0, .ref o), (1, .int 0)]) hx hb dL_tick_177 hl (by decide) rfl (fun ls hl => ?_)
        refine lv_iload_n hx hb dL_tick_179 rfl (lv_at hl 14 rfl) ?_
        refine lv_iconst (v := 1) hx hb dL_tick_180 (by decide) ?_
        refine lv_icmp_ne (tgt := 228) hx hb dL_tick_181 (by decide) (fun h9 => absurd (by decide) h9) (fun _ => ?_)
        refine lv_fload_n hx hb dL_tick_184 rfl (lv_at hl 13 rfl) ?_
        refine lv_aload_n hx hb dL_tick_185 rfl (lv_at hl 15 rfl) ?_
        refine lv_iconst (v := 0) hx hb dL_tick_186 (by decide) ?_
        refine lr_f (rL (rest := [.float (f 7)]) ⟨hx, hb, hml, hown, hts⟩ (LB_speed l G cA A o (u, v, f, g, L) n K ch 0 ) (cwV 1 hts gL_tick_X8_speed rfl rfl rfl mdX8_speed ⟨Nat.le_of_ble_eq_true rfl, Nat.le_of_ble_eq_true rfl⟩) hA hL rfl hl rfl (Nat.le_of_ble_eq_true rfl) dL_tick_187 ⟨Nat.le_of_ble_eq_true rfl, Nat.le_of_ble_eq_true rfl⟩) hA hL (fun r_187_2 H locs hr_187_2 hA hL => ?_)
        replace hr_187_2 : r_187_2 = u 0 := hr_187_2
        subst hr_187_2
        refine lv_fadd hx hb dL_tick_190 (hGo.2.1) ?_
        refine lv_fstore (lv' := [(16, .float (FP.fadd (f 7) (u 0))), (15, .int 1), (4, .int (preG u v g 0 16)), (14, .int 1), (13, .int (cnF g (nI n) (nI K) ((bestK u g) + 1))), (12, .float ((goF u v f g 0) 7)), (11, .int (bestK u g)), (10, .int (oneF (g 12))), (9, .int (g 11)), (8, .int (g 7)), (7, .int (oneF (g 17))), (6, .int 0), (5, .int 0), (3, .float (f 7)), (2, .int 1), (0, .ref o), (1, .int 0)]) hx hb dL_tick_191 hl (by decide) rfl (fun ls hl => ?_)
        refine lv_fload hx hb dL_tick_193 (lv_at hl 0 rfl) ?_
        refine lv_ldcf hx hb hown (hts (.constantFloat RL 32 (1120403456)) (by decide +kernel)) dL_tick_195 ?_
        refine lv_fcmp hx hb dL_tick_197 ?_
        refine lv_if_lt (tgt := 205) hx hb dL_tick_198 (by decide) (fun c_198_2 => ?_) (fun c_198_2 => ?_)
        · skip
          refine lv_iconst (v := 1) hx hb dL_tick_205 (by decide) ?_
          refine lv_istore (lv' := [(15, .int 1), (16, .float (FP.fadd (f 7) (u 0))), (4, .int (preG u v g 0 16)), (14, .int 1), (13, .int (cnF g (nI n) (nI K) ((bestK u g) + 1))), (12, .float ((goF u v f g 0) 7)), (11, .int (bestK u g)), (10, .int (oneF (g 12))), (9, .int (g 11)), (8, .int (g 7)), (7, .int (oneF (g 17))), (6, .int 0), (5, .int 0), (3, .float (f 7)), (2, .int 1), (0, .ref o), (1, .int 0)]) hx hb dL_tick_206 hl (by decide) rfl (fun ls hl => ?_)
          refine lv_fload hx hb dL_tick_208 (lv_at hl 1 rfl) ?_
          refine lv_ldcf hx hb hown (hts (.constantFloat RL 32 (1120403456)) (by decide +kernel)) dL_tick_210 ?_
          refine lv_fcmp hx hb dL_tick_212 ?_
          refine lv_if_lt (tgt := 221) hx hb dL_tick_213 (by decide) (fun c_213_4 => ?_) (fun c_213_4 => absurd c_198_2 c_213_4)
          refine lv_fload hx hb dL_tick_221 (lv_at hl 1 rfl) ?_
          refine lv_fstore (lv' := [(16, .float (FP.fadd (f 7) (u 0))), (15, .int 1), (4, .int (preG u v g 0 16)), (14, .int 1), (13, .int (cnF g (nI n) (nI K) ((bestK u g) + 1))), (12, .float ((goF u v f g 0) 7)), (11, .int (bestK u g)), (10, .int (oneF (g 12))), (9, .int (g 11)), (8, .int (g 7)), (7, .int (oneF (g 17))), (6, .int 0), (5, .int 0), (3, .float (f 7)), (2, .int 1), (0, .ref o), (1, .int 0)]) hx hb dL_tick_223 hl (by decide) rfl (fun ls hl => ?_)
          refine lv_goto (tgt := 385) hx hb dL_tick_225 (by decide) ?_
          refine lv_iload_n hx hb dL_tick_385 rfl (lv_at hl 14 rfl) ?_
          refine lv_iconst (v := 3) hx hb dL_tick_386 (by decide) ?_
          refine lv_icmp_ne (tgt := 400) hx hb dL_tick_387 (by decide) (fun _ => ?_) (fun h9 => absurd h9 (by decide))
          refine lv_iconst (v := 0) hx hb dL_tick_400 (by decide) ?_
          refine lv_istore (lv' := [(17, .int 0), (16, .float (FP.fadd (f 7) (u 0))), (15, .int 1), (4, .int (preG u v g 0 16)), (14, .int 1), (13, .int (cnF g (nI n) (nI K) ((bestK u g) + 1))), (12, .float ((goF u v f g 0) 7)), (11, .int (bestK u g)), (10, .int (oneF (g 12))), (9, .int (g 11)), (8, .int (g 7)), (7, .int (oneF (g 17))), (6, .int 0), (5, .int 0), (3, .float (f 7)), (2, .int 1), (0, .ref o), (1, .int 0)]) hx hb dL_tick_401 hl (by decide) rfl (fun ls hl => ?_)
          refine lv_iload hx hb dL_tick_403 (lv_at hl 0 rfl) ?_
          refine lv_if_eq (tgt := 428) hx hb dL_tick_405 (by decide) (fun _ => ?_) (fun h9 => absurd (by decide) h9)
          refine lv_iconst (v := 0) hx hb dL_tick_428 (by decide) ?_
          refine lv_istore (lv' := [(18, .int 0), (17, .int 0), (16, .float (FP.fadd (f 7) (u 0))), (15, .int 1), (4, .int (preG u v g 0 16)), (14, .int 1), (13, .int (cnF g (nI n) (nI K) ((bestK u g) + 1))), (12, .float ((goF u v f g 0) 7)), (11, .int (bestK u g)), (10, .int (oneF (g 12))), (9, .int (g 11)), (8, .int (g 7)), (7, .int (oneF (g 17))), (6, .int 0), (5, .int 0), (3, .float (f 7)), (2, .int 1), (0, .ref o), (1, .int 0)]) hx hb dL_tick_429 hl (by decide) rfl (fun ls hl => ?_)
          refine lv_aload_n hx hb dL_tick_431 rfl (lv_at hl 17 rfl) ?_
          refine lv_iload_n hx hb dL_tick_432 rfl (lv_at hl 18 rfl) ?_
          refine lv_iconst (v := 1) hx hb dL_tick_433 (by decide) ?_
          refine lw_i (rL (rest := []) ⟨hx, hb, hml, hown, hts⟩ (LB_pass_ok l G cA A o (u, v, f, g, L) n K ch hn 0 1 (by decide) (by decide) (by decide) (by decide) hT hG1 hBo) (cwV 2 hts gL_tick_X8_pass rfl rfl rfl mdX8_pass ⟨Nat.le_of_ble_eq_true rfl, Nat.le_of_ble_eq_true rfl⟩) hA hL rfl hl rfl (Nat.le_of_ble_eq_true rfl) dL_tick_434 ⟨Nat.le_of_ble_eq_true rfl, Nat.le_of_ble_eq_true rfl⟩) hA (fun r_434_4 _ H locs hr_434_4 hA hL => ?_)
          replace hL : LB G cA A o (u, v, (goF u v f g 0), (goG u v f g 0), (goL u v g L 0)) (recN n) K ch H := hL
          replace hr_434_4 : r_434_4 = (goG u v f g 0) 13 := hr_434_4
          subst hr_434_4
          refine lv_iload hx hb dL_tick_437 (lv_at hl 3 rfl) ?_
          refine lv_icmp_ne (tgt := 489) hx hb dL_tick_439 (by decide) (fun c_439_4 => absurd (ht.1.trans (if_pos c_198_2)) c_439_4) (fun c_439_4 => ?_)
          refine lv_aload_n hx hb dL_tick_442 rfl (lv_at hl 17 rfl) ?_
          refine lr_f (rL (rest := []) ⟨hx, hb, hml, hown, hts⟩ (LB_place l G cA A o (u, v, (goF u v f g 0), (goG u v f g 0), (goL u v g L 0)) (recN n) K ch  ) (cwV 0 hts gL_tick_X8_place rfl rfl rfl mdX8_place ⟨Nat.le_of_ble_eq_true rfl, Nat.le_of_ble_eq_true rfl⟩) hA hL rfl hl rfl (Nat.le_of_ble_eq_true rfl) dL_tick_443 ⟨Nat.le_of_ble_eq_true rfl, Nat.le_of_ble_eq_true rfl⟩) hA hL (fun r_443_4 H locs hr_443_4 hA hL => ?_)
          replace hr_443_4 : r_443_4 = (goF u v f g 0) 7 := hr_443_4
          subst hr_443_4
          refine lv_fload hx hb dL_tick_446 (lv_at hl 2 rfl) ?_
          refine lv_fcmp hx hb dL_tick_448 ?_
          refine lv_if_ne (tgt := 489) hx hb dL_tick_449 (by decide) (fun c_449_4 => absurd (by rw [(ht.2.2.2.trans (if_pos c_198_2))]; exact cmp_self (of_vf hGo.2.1) _) c_449_4) (fun c_449_4 => ?_)
          refine lv_fload hx hb dL_tick_452 (lv_at hl 7 rfl) ?_
          refine lv_fload hx hb dL_tick_454 (lv_at hl 2 rfl) ?_
          refine lv_fcmp hx hb dL_tick_456 ?_
          refine lv_if_ne (tgt := 489) hx hb dL_tick_457 (by decide) (fun c_457_4 => absurd (by rw [(ht.2.2.2.trans (if_pos c_198_2))]; exact cmp_self (of_vf hGo.2.1) _) c_457_4) (fun c_457_4 => ?_)
          refine lv_aload_n hx hb dL_tick_460 rfl (lv_at hl 17 rfl) ?_
          refine lv_iconst (v := 1) hx hb dL_tick_461 (by decide) ?_
          refine lr_i (rL (rest := []) ⟨hx, hb, hml, hown, hts⟩ (LB_door l G cA A o (u, v, (goF u v f g 0), (goG u v f g 0), (goL u v g L 0)) (recN n) K ch 1 ) (cwV 1 hts gL_tick_X8_door rfl rfl rfl mdX8_door ⟨Nat.le_of_ble_eq_true rfl, Nat.le_of_ble_eq_true rfl⟩) hA hL rfl hl rfl (Nat.le_of_ble_eq_true rfl) dL_tick_462 ⟨Nat.le_of_ble_eq_true rfl, Nat.le_of_ble_eq_true rfl⟩) hA hL (fun r_462_4 H locs hr_462_4 hA hL => ?_)
          replace hr_462_4 : r_462_4 = (goG u v f g 0) 16 := hr_462_4
          subst hr_462_4
          refine lv_iload hx hb dL_tick_465 (lv_at hl 4 rfl) ?_
          refine lv_icmp_ne (tgt := 489) hx hb dL_tick_467 (by decide) (fun c_467_4 => absurd ht.2.1 c_467_4) (fun c_467_4 => ?_)
          refine lv_aload_n hx hb dL_tick_470 rfl (lv_at hl 17 rfl) ?_
          refine lv_iconst (v := 2) hx hb dL_tick_471 (by decide) ?_
          refine lr_i (rL (rest := []) ⟨hx, hb, hml, hown, hts⟩ (LB_door l G cA A o (u, v, (goF u v f g 0), (goG u v f g 0), (goL u v g L 0)) (recN n) K ch 2 ) (cwV 1 hts gL_tick_X8_door rfl rfl rfl mdX8_door ⟨Nat.le_of_ble_eq_true rfl, Nat.le_of_ble_eq_true rfl⟩) hA hL rfl hl rfl (Nat.le_of_ble_eq_true rfl) dL_tick_472 ⟨Nat.le_of_ble_eq_true rfl, Nat.le_of_ble_eq_true rfl⟩) hA hL (fun r_472_4 H locs hr_472_4 hA hL => ?_)
          replace hr_472_4 : r_472_4 = oneF ((goG u v f g 0) 17) := hr_472_4
          subst hr_472_4
          refine lv_iload hx hb dL_tick_475 (lv_at hl 0 rfl) ?_
          refine lv_if_eq (tgt := 484) hx hb dL_tick_477 (by decide) (fun _ => ?_) (fun h9 => absurd (by decide) h9)
          refine lv_iload hx hb dL_tick_484 (lv_at hl 12 rfl) ?_
          refine lv_icmp_eq (tgt := 491) hx hb dL_tick_486 (by decide) (fun c_486_4 => ?_) (fun c_486_4 => absurd (by rw [ht.2.2.1] <;> rfl) c_486_4)
          refine lv_iload hx hb dL_tick_491 (lv_at hl 5 rfl) ?_
          refine lv_if_eq (tgt := 554) hx hb dL_tick_493 (by decide) (fun h9 => absurd h9 (by decide)) (fun _ => ?_)
          refine lv_aload_n hx hb dL_tick_496 rfl (lv_at hl 17 rfl) ?_
          refine lv_iconst (v := 0) hx hb dL_tick_497 (by decide) ?_
          refine lr_i (rL (rest := []) ⟨hx, hb, hml, hown, hts⟩ (LB_thing l G cA A o (u, v, (goF u v f g 0), (goG u v f g 0), (goL u v g L 0)) (recN n) K ch 0 hP2) (cwV 1 hts gL_tick_X8_thing rfl rfl rfl mdX8_thing ⟨Nat.le_of_ble_eq_true rfl, Nat.le_of_ble_eq_true rfl⟩) hA hL rfl hl rfl (Nat.le_of_ble_eq_true rfl) dL_tick_498 ⟨Nat.le_of_ble_eq_true rfl, Nat.le_of_ble_eq_true rfl⟩) hA hL (fun r_498_4 H locs hr_498_4 hA hL => ?_)
          replace hr_498_4 : r_498_4 = -5 := hr_498_4.trans (th_none 0 (by decide) (by decide) h5)
          subst hr_498_4
          refine lv_bipush (v := (-5)) hx hb dL_tick_501 (by decide) ?_
          refine lv_icmp_ne (tgt := 552) hx hb dL_tick_503 (by decide) (fun h9 => absurd (by decide) h9) (fun _ => ?_)
          refine lv_aload_n hx hb dL_tick_506 rfl (lv_at hl 17 rfl) ?_
          refine lv_iconst (v := 0) hx hb dL_tick_507 (by decide) ?_
          refine lv_iconst (v := 0) hx hb dL_tick_508 (by decide) ?_
          refine lr_i (rL (rest := []) ⟨hx, hb, hml, hown, hts⟩ (LB_judged l G cA A o (u, v, (goF u v f g 0), (goG u v f g 0), (goL u v g L 0)) (recN n) K ch 0 0 ) (cwV 2 hts gL_tick_X8_judged rfl rfl rfl mdX8_judged ⟨Nat.le_of_ble_eq_true rfl, Nat.le_of_ble_eq_true rfl⟩) hA hL rfl hl rfl (Nat.le_of_ble_eq_true rfl) dL_tick_509 ⟨Nat.le_of_ble_eq_true rfl, Nat.le_of_ble_eq_true rfl⟩) hA hL (fun r_509_4 H locs hr_509_4 hA hL => ?_)
          replace hr_509_4 : r_509_4 = bestK u g := hr_509_4.trans hju.1
          subst hr_509_4
          refine lv_iload hx hb dL_tick_512 (lv_at hl 8 rfl) ?_
          refine lv_icmp_ne (tgt := 552) hx hb dL_tick_514 (by decide) (fun c_514_4 => absurd rfl c_514_4) (fun c_514_4 => ?_)
          refine lv_aload_n hx hb dL_tick_517 rfl (lv_at hl 17 rfl) ?_
          refine lv_iload hx hb dL_tick_518 (lv_at hl 8 rfl) ?_
          refine lv_iconst (v := 1) hx hb dL_tick_520 (by decide) ?_
          refine lv_iadd hx hb dL_tick_521 ?_
          refine lr_i (rL (rest := []) ⟨hx, hb, hml, hown, hts⟩ (LB_count l G cA A o (u, v, (goF u v f g 0), (goG u v f g 0), (goL u v g L 0)) (recN n) K ch ((bestK u g) + 1)) (cwV 1 hts gL_tick_X8_count rfl rfl rfl mdX8_count ⟨Nat.le_of_ble_eq_true rfl, Nat.le_of_ble_eq_true rfl⟩) hA hL rfl hl rfl (Nat.le_of_ble_eq_true rfl) dL_tick_522 ⟨Nat.le_of_ble_eq_true rfl, Nat.le_of_ble_eq_true rfl⟩) hA hL (fun r_522_4 H locs hr_522_4 hA hL => ?_)
          replace hr_522_4 : r_522_4 = cnF (goG u v f g 0) (nI (recN n)) (nI K) ((bestK u g) + 1) := hr_522_4
          subst hr_522_4
          refine lv_iload hx hb dL_tick_525 (lv_at hl 6 rfl) ?_
          refine lv_iconst (v := 1) hx hb dL_tick_527 (by decide) ?_
          refine lv_iadd hx hb dL_tick_528 ?_
          refine lv_icmp_ne (tgt := 552) hx hb dL_tick_529 (by decide) (fun c_529_4 => absurd hcn c_529_4) (fun c_529_4 => ?_)
          refine lv_aload_n hx hb dL_tick_532 rfl (lv_at hl 17 rfl) ?_
          refine lv_iconst (v := 0) hx hb dL_tick_533 (by decide) ?_
          refine lv_iconst (v := 4) hx hb dL_tick_534 (by decide) ?_
          refine lr_i (rL (rest := []) ⟨hx, hb, hml, hown, hts⟩ (LB_judged l G cA A o (u, v, (goF u v f g 0), (goG u v f g 0), (goL u v g L 0)) (recN n) K ch 0 4 ) (cwV 2 hts gL_tick_X8_judged rfl rfl rfl mdX8_judged ⟨Nat.le_of_ble_eq_true rfl, Nat.le_of_ble_eq_true rfl⟩) hA hL rfl hl rfl (Nat.le_of_ble_eq_true rfl) dL_tick_535 ⟨Nat.le_of_ble_eq_true rfl, Nat.le_of_ble_eq_true rfl⟩) hA hL (fun r_535_4 H locs hr_535_4 hA hL => ?_)
          replace hr_535_4 : r_535_4 = (goG u v f g 0) 27 - 1 := hr_535_4.trans hju.2
          subst hr_535_4
          refine lv_aload_n hx hb dL_tick_538 rfl (lv_at hl 17 rfl) ?_
          refine lv_iconst (v := 0) hx hb dL_tick_539 (by decide) ?_
          refine lr_i (rL (rest := [.int ((goG u v f g 0) 27 - 1)]) ⟨hx, hb, hml, hown, hts⟩ (LB_count l G cA A o (u, v, (goF u v f g 0), (goG u v f g 0), (goL u v g L 0)) (recN n) K ch 0) (cwV 1 hts gL_tick_X8_count rfl rfl rfl mdX8_count ⟨Nat.le_of_ble_eq_true rfl, Nat.le_of_ble_eq_true rfl⟩) hA hL rfl hl rfl (Nat.le_of_ble_eq_true rfl) dL_tick_540 ⟨Nat.le_of_ble_eq_true rfl, Nat.le_of_ble_eq_true rfl⟩) hA hL (fun r_540_4 H locs hr_540_4 hA hL => ?_)
          replace hr_540_4 : r_540_4 = (goG u v f g 0) 27 := hr_540_4
          subst hr_540_4
          refine lv_iconst (v := 1) hx hb dL_tick_543 (by decide) ?_
          refine lv_isub hx hb dL_tick_544 ?_
          refine lv_icmp_ne (tgt := 552) hx hb dL_tick_545 (by decide) (fun c_545_4 => absurd rfl c_545_4) (fun c_545_4 => ?_)
          refine lv_iconst (v := 1) hx hb dL_tick_548 (by decide) ?_
          refine lv_goto (tgt := 553) hx hb dL_tick_549 (by decide) ?_
          exact en_l (post := fun r (_ : Unit) => r = 1) (B := fun _ H => LB G cA A o (u, v, (goF u v f g 0), (goG u v f g 0), (goL u v g L 0)) (recN n) K ch H) () hx hb hr hlocks hA rfl hL dL_tick_553
        · skip
          refine lv_iconst (v := 2) hx hb dL_tick_201 (by decide) ?_
          refine lv_goto (tgt := 206) hx hb dL_tick_202 (by decide) ?_
          refine lv_istore (lv' := [(15, .int 2), (16, .float (FP.fadd (f 7) (u 0))), (4, .int (preG u v g 0 16)), (14, .int 1), (13, .int (cnF g (nI n) (nI K) ((bestK u g) + 1))), (12, .float ((goF u v f g 0) 7)), (11, .int (bestK u g)), (10, .int (oneF (g 12))), (9, .int (g 11)), (8, .int (g 7)), (7, .int (oneF (g 17))), (6, .int 0), (5, .int 0), (3, .float (f 7)), (2, .int 1), (0, .ref o), (1, .int 0)]) hx hb dL_tick_206 hl (by decide) rfl (fun ls hl => ?_)
          refine lv_fload hx hb dL_tick_208 (lv_at hl 1 rfl) ?_
          refine lv_ldcf hx hb hown (hts (.constantFloat RL 32 (1120403456)) (by decide +kernel)) dL_tick_210 ?_
          refine lv_fcmp hx hb dL_tick_212 ?_
          refine lv_if_lt (tgt := 221) hx hb dL_tick_213 (by decide) (fun c_213_5 => absurd c_213_5 c_198_2) (fun c_213_5 => ?_)
          refine lv_ldcf hx hb hown (hts (.constantFloat RL 32 (1120403456)) (by decide +kernel)) dL_tick_216 ?_
          refine lv_goto (tgt := 223) hx hb dL_tick_218 (by decide) ?_
          refine lv_fstore (lv' := [(16, .float 1120403456), (15, .int 2), (4, .int (preG u v g 0 16)), (14, .int 1), (13, .int (cnF g (nI n) (nI K) ((bestK u g) + 1))), (12, .float ((goF u v f g 0) 7)), (11, .int (bestK u g)), (10, .int (oneF (g 12))), (9, .int (g 11)), (8, .int (g 7)), (7, .int (oneF (g 17))), (6, .int 0), (5, .int 0), (3, .float (f 7)), (2, .int 1), (0, .ref o), (1, .int 0)]) hx hb dL_tick_223 hl (by decide) rfl (fun ls hl => ?_)
          refine lv_goto (tgt := 385) hx hb dL_tick_225 (by decide) ?_
          refine lv_iload_n hx hb dL_tick_385 rfl (lv_at hl 14 rfl) ?_
          refine lv_iconst (v := 3) hx hb dL_tick_386 (by decide) ?_
          refine lv_icmp_ne (tgt := 400) hx hb dL_tick_387 (by decide) (fun _ => ?_) (fun h9 => absurd h9 (by decide))
          refine lv_iconst (v := 0) hx hb dL_tick_400 (by decide) ?_
          refine lv_istore (lv' := [(17, .int 0), (16, .float 1120403456), (15, .int 2), (4, .int (preG u v g 0 16)), (14, .int 1), (13, .int (cnF g (nI n) (nI K) ((bestK u g) + 1))), (12, .float ((goF u v f g 0) 7)), (11, .int (bestK u g)), (10, .int (oneF (g 12))), (9, .int (g 11)), (8, .int (g 7)), (7, .int (oneF (g 17))), (6, .int 0), (5, .int 0), (3, .float (f 7)), (2, .int 1), (0, .ref o), (1, .int 0)]) hx hb dL_tick_401 hl (by decide) rfl (fun ls hl => ?_)
          refine lv_iload hx hb dL_tick_403 (lv_at hl 0 rfl) ?_
          refine lv_if_eq (tgt := 428) hx hb dL_tick_405 (by decide) (fun _ => ?_) (fun h9 => absurd (by decide) h9)
          refine lv_iconst (v := 0) hx hb dL_tick_428 (by decide) ?_
          refine lv_istore (lv' := [(18, .int 0), (17, .int 0), (16, .float 1120403456), (15, .int 2), (4, .int (preG u v g 0 16)), (14, .int 1), (13, .int (cnF g (nI n) (nI K) ((bestK u g) + 1))), (12, .float ((goF u v f g 0) 7)), (11, .int (bestK u g)), (10, .int (oneF (g 12))), (9, .int (g 11)), (8, .int (g 7)), (7, .int (oneF (g 17))), (6, .int 0), (5, .int 0), (3, .float (f 7)), (2, .int 1), (0, .ref o), (1, .int 0)]) hx hb dL_tick_429 hl (by decide) rfl (fun ls hl => ?_)
          refine lv_aload_n hx hb dL_tick_431 rfl (lv_at hl 17 rfl) ?_
          refine lv_iload_n hx hb dL_tick_432 rfl (lv_at hl 18 rfl) ?_
          refine lv_iconst (v := 1) hx hb dL_tick_433 (by decide) ?_
          refine lw_i (rL (rest := []) ⟨hx, hb, hml, hown, hts⟩ (LB_pass_ok l G cA A o (u, v, f, g, L) n K ch hn 0 1 (by decide) (by decide) (by decide) (by decide) hT hG1 hBo) (cwV 2 hts gL_tick_X8_pass rfl rfl rfl mdX8_pass ⟨Nat.le_of_ble_eq_true rfl, Nat.le_of_ble_eq_true rfl⟩) hA hL rfl hl rfl (Nat.le_of_ble_eq_true rfl) dL_tick_434 ⟨Nat.le_of_ble_eq_true rfl, Nat.le_of_ble_eq_true rfl⟩) hA (fun r_434_5 _ H locs hr_434_5 hA hL => ?_)
          replace hL : LB G cA A o (u, v, (goF u v f g 0), (goG u v f g 0), (goL u v g L 0)) (recN n) K ch H := hL
          replace hr_434_5 : r_434_5 = (goG u v f g 0) 13 := hr_434_5
          subst hr_434_5
          refine lv_iload hx hb dL_tick_437 (lv_at hl 3 rfl) ?_
          refine lv_icmp_ne (tgt := 489) hx hb dL_tick_439 (by decide) (fun c_439_5 => absurd (ht.1.trans (if_neg c_198_2)) c_439_5) (fun c_439_5 => ?_)
          refine lv_aload_n hx hb dL_tick_442 rfl (lv_at hl 17 rfl) ?_
          refine lr_f (rL (rest := []) ⟨hx, hb, hml, hown, hts⟩ (LB_place l G cA A o (u, v, (goF u v f g 0), (goG u v f g 0), (goL u v g L 0)) (recN n) K ch  ) (cwV 0 hts gL_tick_X8_place rfl rfl rfl mdX8_place ⟨Nat.le_of_ble_eq_true rfl, Nat.le_of_ble_eq_true rfl⟩) hA hL rfl hl rfl (Nat.le_of_ble_eq_true rfl) dL_tick_443 ⟨Nat.le_of_ble_eq_true rfl, Nat.le_of_ble_eq_true rfl⟩) hA hL (fun r_443_5 H locs hr_443_5 hA hL => ?_)
          replace hr_443_5 : r_443_5 = (goF u v f g 0) 7 := hr_443_5
          subst hr_443_5
          refine lv_fload hx hb dL_tick_446 (lv_at hl 2 rfl) ?_
          refine lv_fcmp hx hb dL_tick_448 ?_
          refine lv_if_ne (tgt := 489) hx hb dL_tick_449 (by decide) (fun c_449_5 => absurd (by rw [(ht.2.2.2.trans (if_neg c_198_2))]; exact cmp_self (of_vf n32_100) _) c_449_5) (fun c_449_5 => ?_)
          refine lv_fload hx hb dL_tick_452 (lv_at hl 7 rfl) ?_
          refine lv_fload hx hb dL_tick_454 (lv_at hl 2 rfl) ?_
          refine lv_fcmp hx hb dL_tick_456 ?_
          refine lv_if_ne (tgt := 489) hx hb dL_tick_457 (by decide) (fun c_457_5 => absurd (by rw [(ht.2.2.2.trans (if_neg c_198_2))]; exact cmp_self (of_vf n32_100) _) c_457_5) (fun c_457_5 => ?_)
          refine lv_aload_n hx hb dL_tick_460 rfl (lv_at hl 17 rfl) ?_
          refine lv_iconst (v := 1) hx hb dL_tick_461 (by decide) ?_
          refine lr_i (rL (rest := []) ⟨hx, hb, hml, hown, hts⟩ (LB_door l G cA A o (u, v, (goF u v f g 0), (goG u v f g 0), (goL u v g L 0)) (recN n) K ch 1 ) (cwV 1 hts gL_tick_X8_door rfl rfl rfl mdX8_door ⟨Nat.le_of_ble_eq_true rfl, Nat.le_of_ble_eq_true rfl⟩) hA hL rfl hl rfl (Nat.le_of_ble_eq_true rfl) dL_tick_462 ⟨Nat.le_of_ble_eq_true rfl, Nat.le_of_ble_eq_true rfl⟩) hA hL (fun r_462_5 H locs hr_462_5 hA hL => ?_)
          replace hr_462_5 : r_462_5 = (goG u v f g 0) 16 := hr_462_5
          subst hr_462_5
          refine lv_iload hx hb dL_tick_465 (lv_at hl 4 rfl) ?_
          refine lv_icmp_ne (tgt := 489) hx hb dL_tick_467 (by decide) (fun c_467_5 => absurd ht.2.1 c_467_5) (fun c_467_5 => ?_)
          refine lv_aload_n hx hb dL_tick_470 rfl (lv_at hl 17 rfl) ?_
          refine lv_iconst (v := 2) hx hb dL_tick_471 (by decide) ?_
          refine lr_i (rL (rest := []) ⟨hx, hb, hml, hown, hts⟩ (LB_door l G cA A o (u, v, (goF u v f g 0), (goG u v f g 0), (goL u v g L 0)) (recN n) K ch 2 ) (cwV 1 hts gL_tick_X8_door rfl rfl rfl mdX8_door ⟨Nat.le_of_ble_eq_true rfl, Nat.le_of_ble_eq_true rfl⟩) hA hL rfl hl rfl (Nat.le_of_ble_eq_true rfl) dL_tick_472 ⟨Nat.le_of_ble_eq_true rfl, Nat.le_of_ble_eq_true rfl⟩) hA hL (fun r_472_5 H locs hr_472_5 hA hL => ?_)
          replace hr_472_5 : r_472_5 = oneF ((goG u v f g 0) 17) := hr_472_5
          subst hr_472_5
          refine lv_iload hx hb dL_tick_475 (lv_at hl 0 rfl) ?_
          refine lv_if_eq (tgt := 484) hx hb dL_tick_477 (by decide) (fun _ => ?_) (fun h9 => absurd (by decide) h9)
          refine lv_iload hx hb dL_tick_484 (lv_at hl 12 rfl) ?_
          refine lv_icmp_eq (tgt := 491) hx hb dL_tick_486 (by decide) (fun c_486_5 => ?_) (fun c_486_5 => absurd (by rw [ht.2.2.1] <;> rfl) c_486_5)
          refine lv_iload hx hb dL_tick_491 (lv_at hl 5 rfl) ?_
          refine lv_if_eq (tgt := 554) hx hb dL_tick_493 (by decide) (fun h9 => absurd h9 (by decide)) (fun _ => ?_)
          refine lv_aload_n hx hb dL_tick_496 rfl (lv_at hl 17 rfl) ?_
          refine lv_iconst (v := 0) hx hb dL_tick_497 (by decide) ?_
          refine lr_i (rL (rest := []) ⟨hx, hb, hml, hown, hts⟩ (LB_thing l G cA A o (u, v, (goF u v f g 0), (goG u v f g 0), (goL u v g L 0)) (recN n) K ch 0 hP2) (cwV 1 hts gL_tick_X8_thing rfl rfl rfl mdX8_thing ⟨Nat.le_of_ble_eq_true rfl, Nat.le_of_ble_eq_true rfl⟩) hA hL rfl hl rfl (Nat.le_of_ble_eq_true rfl) dL_tick_498 ⟨Nat.le_of_ble_eq_true rfl, Nat.le_of_ble_eq_true rfl⟩) hA hL (fun r_498_5 H locs hr_498_5 hA hL => ?_)
          replace hr_498_5 : r_498_5 = -5 := hr_498_5.trans (th_none 0 (by decide) (by decide) h5)
          subst hr_498_5
          refine lv_bipush (v := (-5)) hx hb dL_tick_501 (by decide) ?_
          refine lv_icmp_ne (tgt := 552) hx hb dL_tick_503 (by decide) (fun h9 => absurd (by decide) h9) (fun _ => ?_)
          refine lv_aload_n hx hb dL_tick_506 rfl (lv_at hl 17 rfl) ?_
          refine lv_iconst (v := 0) hx hb dL_tick_507 (by decide) ?_
          refine lv_iconst (v := 0) hx hb dL_tick_508 (by decide) ?_
          refine lr_i (rL (rest := []) ⟨hx, hb, hml, hown, hts⟩ (LB_judged l G cA A o (u, v, (goF u v f g 0), (goG u v f g 0), (goL u v g L 0)) (recN n) K ch 0 0 ) (cwV 2 hts gL_tick_X8_judged rfl rfl rfl mdX8_judged ⟨Nat.le_of_ble_eq_true rfl, Nat.le_of_ble_eq_true rfl⟩) hA hL rfl hl rfl (Nat.le_of_ble_eq_true rfl) dL_tick_509 ⟨Nat.le_of_ble_eq_true rfl, Nat.le_of_ble_eq_true rfl⟩) hA hL (fun r_509_5 H locs hr_509_5 hA hL => ?_)
          replace hr_509_5 : r_509_5 = bestK u g := hr_509_5.trans hju.1
          subst hr_509_5
          refine lv_iload hx hb dL_tick_512 (lv_at hl 8 rfl) ?_
          refine lv_icmp_ne (tgt := 552) hx hb dL_tick_514 (by decide) (fun c_514_5 => absurd rfl c_514_5) (fun c_514_5 => ?_)
          refine lv_aload_n hx hb dL_tick_517 rfl (lv_at hl 17 rfl) ?_
          refine lv_iload hx hb dL_tick_518 (lv_at hl 8 rfl) ?_
          refine lv_iconst (v := 1) hx hb dL_tick_520 (by decide) ?_
          refine lv_iadd hx hb dL_tick_521 ?_
          refine lr_i (rL (rest := []) ⟨hx, hb, hml, hown, hts⟩ (LB_count l G cA A o (u, v, (goF u v f g 0), (goG u v f g 0), (goL u v g L 0)) (recN n) K ch ((bestK u g) + 1)) (cwV 1 hts gL_tick_X8_count rfl rfl rfl mdX8_count ⟨Nat.le_of_ble_eq_true rfl, Nat.le_of_ble_eq_true rfl⟩) hA hL rfl hl rfl (Nat.le_of_ble_eq_true rfl) dL_tick_522 ⟨Nat.le_of_ble_eq_true rfl, Nat.le_of_ble_eq_true rfl⟩) hA hL (fun r_522_5 H locs hr_522_5 hA hL => ?_)
          replace hr_522_5 : r_522_5 = cnF (goG u v f g 0) (nI (recN n)) (nI K) ((bestK u g) + 1) := hr_522_5
          subst hr_522_5
          refine lv_iload hx hb dL_tick_525 (lv_at hl 6 rfl) ?_
          refine lv_iconst (v := 1) hx hb dL_tick_527 (by decide) ?_
          refine lv_iadd hx hb dL_tick_528 ?_
          refine lv_icmp_ne (tgt := 552) hx hb dL_tick_529 (by decide) (fun c_529_5 => absurd hcn c_529_5) (fun c_529_5 => ?_)
          refine lv_aload_n hx hb dL_tick_532 rfl (lv_at hl 17 rfl) ?_
          refine lv_iconst (v := 0) hx hb dL_tick_533 (by decide) ?_
          refine lv_iconst (v := 4) hx hb dL_tick_534 (by decide) ?_
          refine lr_i (rL (rest := []) ⟨hx, hb, hml, hown, hts⟩ (LB_judged l G cA A o (u, v, (goF u v f g 0), (goG u v f g 0), (goL u v g L 0)) (recN n) K ch 0 4 ) (cwV 2 hts gL_tick_X8_judged rfl rfl rfl mdX8_judged ⟨Nat.le_of_ble_eq_true rfl, Nat.le_of_ble_eq_true rfl⟩) hA hL rfl hl rfl (Nat.le_of_ble_eq_true rfl) dL_tick_535 ⟨Nat.le_of_ble_eq_true rfl, Nat.le_of_ble_eq_true rfl⟩) hA hL (fun r_535_5 H locs hr_535_5 hA hL => ?_)
          replace hr_535_5 : r_535_5 = (goG u v f g 0) 27 - 1 := hr_535_5.trans hju.2
          subst hr_535_5
          refine lv_aload_n hx hb dL_tick_538 rfl (lv_at hl 17 rfl) ?_
          refine lv_iconst (v := 0) hx hb dL_tick_539 (by decide) ?_
          refine lr_i (rL (rest := [.int ((goG u v f g 0) 27 - 1)]) ⟨hx, hb, hml, hown, hts⟩ (LB_count l G cA A o (u, v, (goF u v f g 0), (goG u v f g 0), (goL u v g L 0)) (recN n) K ch 0) (cwV 1 hts gL_tick_X8_count rfl rfl rfl mdX8_count ⟨Nat.le_of_ble_eq_true rfl, Nat.le_of_ble_eq_true rfl⟩) hA hL rfl hl rfl (Nat.le_of_ble_eq_true rfl) dL_tick_540 ⟨Nat.le_of_ble_eq_true rfl, Nat.le_of_ble_eq_true rfl⟩) hA hL (fun r_540_5 H locs hr_540_5 hA hL => ?_)
          replace hr_540_5 : r_540_5 = (goG u v f g 0) 27 := hr_540_5
          subst hr_540_5
          refine lv_iconst (v := 1) hx hb dL_tick_543 (by decide) ?_
          refine lv_isub hx hb dL_tick_544 ?_
          refine lv_icmp_ne (tgt := 552) hx hb dL_tick_545 (by decide) (fun c_545_5 => absurd rfl c_545_5) (fun c_545_5 => ?_)
          refine lv_iconst (v := 1) hx hb dL_tick_548 (by decide) ?_
          refine lv_goto (tgt := 553) hx hb dL_tick_549 (by decide) ?_
          exact en_l (post := fun r (_ : Unit) => r = 1) (B := fun _ H => LB G cA A o (u, v, (goF u v f g 0), (goG u v f g 0), (goL u v g L 0)) (recN n) K ch H) () hx hb hr hlocks hA rfl hL dL_tick_553
      · skip
        refine lv_iconst (v := 1) hx hb dL_tick_165 (by decide) ?_
        refine lv_goto (tgt := 170) hx hb dL_tick_166 (by decide) ?_
        refine lv_isub hx hb dL_tick_170 ?_
        refine W.eq (g2 := F0 m 171 ls [.int (preG u v g 0 16)]) (by rw [hp16, if_pos c_151, if_neg (one_y1 c_157), if_neg c_162]) ?_
        refine lv_istore (lv' := [(4, .int (preG u v g 0 16)), (14, .int 1), (13, .int (cnF g (nI n) (nI K) ((bestK u g) + 1))), (12, .float ((goF u v f g 0) 7)), (11, .int (bestK u g)), (10, .int (oneF (g 12))), (9, .int (g 11)), (8, .int (g 7)), (7, .int (oneF (g 17))), (6, .int 0), (5, .int 0), (3, .float (f 7)), (2, .int 1), (0, .ref o), (1, .int 0)]) hx hb dL_tick_171 hl (by decide) rfl (fun ls hl => ?_)
        refine lv_iload_n hx hb dL_tick_173 rfl (lv_at hl 12 rfl) ?_
        refine lv_istore (lv' := [(15, .int 1), (4, .int (preG u v g 0 16)), (14, .int 1), (13, .int (cnF g (nI n) (nI K) ((bestK u g) + 1))), (12, .float ((goF u v f g 0) 7)), (11, .int (bestK u g)), (10, .int (oneF (g 12))), (9, .int (g 11)), (8, .int (g 7)), (7, .int (oneF (g 17))), (6, .int 0), (5, .int 0), (3, .float (f 7)), (2, .int 1), (0, .ref o), (1, .int 0)]) hx hb dL_tick_174 hl (by decide) rfl (fun ls hl => ?_)
        refine lv_fload_n hx hb dL_tick_176 rfl (lv_at hl 12 rfl) ?_
        refine lv_fstore (lv' := [(16, .float (f 7)), (15, .int 1), (4, .int (preG u v g 0 16)), (14, .int 1), (13, .int (cnF g (nI n) (nI K) ((bestK u g) + 1))), (12, .float ((goF u v f g 0) 7)), (11, .int (bestK u g)), (10, .int (oneF (g 12))), (9, .int (g 11)), (8, .int (g 7)), (7, .int (oneF (g 17))), (6, .int 0), (5, .int 0), (3, .float (f 7)), (2, .int 1), (0, .ref o), (1, .int 0)]) hx hb dL_tick_177 hl (by decide) rfl (fun ls hl => ?_)
        refine lv_iload_n hx hb dL_tick_179 rfl (lv_at hl 14 rfl) ?_
        refine lv_iconst (v := 1) hx hb dL_tick_180 (by decide) ?_
        refine lv_icmp_ne (tgt := 228) hx hb dL_tick_181 (by decide) (fun h9 => absurd (by decide) h9) (fun _ => ?_)
        refine lv_fload_n hx hb dL_tick_184 rfl (lv_at hl 13 rfl) ?_
        refine lv_aload_n hx hb dL_tick_185 rfl (lv_at hl 15 rfl) ?_
        refine lv_iconst (v := 0) hx hb dL_tick_186 (by decide) ?_
        refine lr_f (rL (rest := [.float (f 7)]) ⟨hx, hb, hml, hown, hts⟩ (LB_speed l G cA A o (u, v, f, g, L) n K ch 0 ) (cwV 1 hts gL_tick_X8_speed rfl rfl rfl mdX8_speed ⟨Nat.le_of_ble_eq_true rfl, Nat.le_of_ble_eq_true rfl⟩) hA hL rfl hl rfl (Nat.le_of_ble_eq_true rfl) dL_tick_187 ⟨Nat.le_of_ble_eq_true rfl, Nat.le_of_ble_eq_true rfl⟩) hA hL (fun r_187_3 H locs hr_187_3 hA hL => ?_)
        replace hr_187_3 : r_187_3 = u 0 := hr_187_3
        subst hr_187_3
        refine lv_fadd hx hb dL_tick_190 (hGo.2.1) ?_
        refine lv_fstore (lv' := [(16, .float (FP.fadd (f 7) (u 0))), (15, .int 1), (4, .int (preG u v g 0 16)), (14, .int 1), (13, .int (cnF g (nI n) (nI K) ((bestK u g) + 1))), (12, .float ((goF u v f g 0) 7)), (11, .int (bestK u g)), (10, .int (oneF (g 12))), (9, .int (g 11)), (8, .int (g 7)), (7, .int (oneF (g 17))), (6, .int 0), (5, .int 0), (3, .float (f 7)), (2, .int 1), (0, .ref o), (1, .int 0)]) hx hb dL_tick_191 hl (by decide) rfl (fun ls hl => ?_)
        refine lv_fload hx hb dL_tick_193 (lv_at hl 0 rfl) ?_
        refine lv_ldcf hx hb hown (hts (.constantFloat RL 32 (1120403456)) (by decide +kernel)) dL_tick_195 ?_
        refine lv_fcmp hx hb dL_tick_197 ?_
        refine lv_if_lt (tgt := 205) hx hb dL_tick_198 (by decide) (fun c_198_3 => ?_) (fun c_198_3 => ?_)
        · skip
          refine lv_iconst (v := 1) hx hb dL_tick_205 (by decide) ?_
          refine lv_istore (lv' := [(15, .int 1), (16, .float (FP.fadd (f 7) (u 0))), (4, .int (preG u v g 0 16)), (14, .int 1), (13, .int (cnF g (nI n) (nI K) ((bestK u g) + 1))), (12, .float ((goF u v f g 0) 7)), (11, .int (bestK u g)), (10, .int (oneF (g 12))), (9, .int (g 11)), (8, .int (g 7)), (7, .int (oneF (g 17))), (6, .int 0), (5, .int 0), (3, .float (f 7)), (2, .int 1), (0, .ref o), (1, .int 0)]) hx hb dL_tick_206 hl (by decide) rfl (fun ls hl => ?_)
          refine lv_fload hx hb dL_tick_208 (lv_at hl 1 rfl) ?_
          refine lv_ldcf hx hb hown (hts (.constantFloat RL 32 (1120403456)) (by decide +kernel)) dL_tick_210 ?_
          refine lv_fcmp hx hb dL_tick_212 ?_
          refine lv_if_lt (tgt := 221) hx hb dL_tick_213 (by decide) (fun c_213_6 => ?_) (fun c_213_6 => absurd c_198_3 c_213_6)
          refine lv_fload hx hb dL_tick_221 (lv_at hl 1 rfl) ?_
          refine lv_fstore (lv' := [(16, .float (FP.fadd (f 7) (u 0))), (15, .int 1), (4, .int (preG u v g 0 16)), (14, .int 1), (13, .int (cnF g (nI n) (nI K) ((bestK u g) + 1))), (12, .float ((goF u v f g 0) 7)), (11, .int (bestK u g)), (10, .int (oneF (g 12))), (9, .int (g 11)), (8, .int (g 7)), (7, .int (oneF (g 17))), (6, .int 0), (5, .int 0), (3, .float (f 7)), (2, .int 1), (0, .ref o), (1, .int 0)]) hx hb dL_tick_223 hl (by decide) rfl (fun ls hl => ?_)
          refine lv_goto (tgt := 385) hx hb dL_tick_225 (by decide) ?_
          refine lv_iload_n hx hb dL_tick_385 rfl (lv_at hl 14 rfl) ?_
          refine lv_iconst (v := 3) hx hb dL_tick_386 (by decide) ?_
          refine lv_icmp_ne (tgt := 400) hx hb dL_tick_387 (by decide) (fun _ => ?_) (fun h9 => absurd h9 (by decide))
          refine lv_iconst (v := 0) hx hb dL_tick_400 (by decide) ?_
          refine lv_istore (lv' := [(17, .int 0), (16, .float (FP.fadd (f 7) (u 0))), (15, .int 1), (4, .int (preG u v g 0 16)), (14, .int 1), (13, .int (cnF g (nI n) (nI K) ((bestK u g) + 1))), (12, .float ((goF u v f g 0) 7)), (11, .int (bestK u g)), (10, .int (oneF (g 12))), (9, .int (g 11)), (8, .int (g 7)), (7, .int (oneF (g 17))), (6, .int 0), (5, .int 0), (3, .float (f 7)), (2, .int 1), (0, .ref o), (1, .int 0)]) hx hb dL_tick_401 hl (by decide) rfl (fun ls hl => ?_)
          refine lv_iload hx hb dL_tick_403 (lv_at hl 0 rfl) ?_
          refine lv_if_eq (tgt := 428) hx hb dL_tick_405 (by decide) (fun _ => ?_) (fun h9 => absurd (by decide) h9)
          refine lv_iconst (v := 0) hx hb dL_tick_428 (by decide) ?_
          refine lv_istore (lv' := [(18, .int 0), (17, .int 0), (16, .float (FP.fadd (f 7) (u 0))), (15, .int 1), (4, .int (preG u v g 0 16)), (14, .int 1), (13, .int (cnF g (nI n) (nI K) ((bestK u g) + 1))), (12, .float ((goF u v f g 0) 7)), (11, .int (bestK u g)), (10, .int (oneF (g 12))), (9, .int (g 11)), (8, .int (g 7)), (7, .int (oneF (g 17))), (6, .int 0), (5, .int 0), (3, .float (f 7)), (2, .int 1), (0, .ref o), (1, .int 0)]) hx hb dL_tick_429 hl (by decide) rfl (fun ls hl => ?_)
          refine lv_aload_n hx hb dL_tick_431 rfl (lv_at hl 17 rfl) ?_
          refine lv_iload_n hx hb dL_tick_432 rfl (lv_at hl 18 rfl) ?_
          refine lv_iconst (v := 1) hx hb dL_tick_433 (by decide) ?_
          refine lw_i (rL (rest := []) ⟨hx, hb, hml, hown, hts⟩ (LB_pass_ok l G cA A o (u, v, f, g, L) n K ch hn 0 1 (by decide) (by decide) (by decide) (by decide) hT hG1 hBo) (cwV 2 hts gL_tick_X8_pass rfl rfl rfl mdX8_pass ⟨Nat.le_of_ble_eq_true rfl, Nat.le_of_ble_eq_true rfl⟩) hA hL rfl hl rfl (Nat.le_of_ble_eq_true rfl) dL_tick_434 ⟨Nat.le_of_ble_eq_true rfl, Nat.le_of_ble_eq_true rfl⟩) hA (fun r_434_6 _ H locs hr_434_6 hA hL => ?_)
          replace hL : LB G cA A o (u, v, (goF u v f g 0), (goG u v f g 0), (goL u v g L 0)) (recN n) K ch H := hL
          replace hr_434_6 : r_434_6 = (goG u v f g 0) 13 := hr_434_6
          subst hr_434_6
          refine lv_iload hx hb dL_tick_437 (lv_at hl 3 rfl) ?_
          refine lv_icmp_ne (tgt := 489) hx hb dL_tick_439 (by decide) (fun c_439_6 => absurd (ht.1.trans (if_pos c_198_3)) c_439_6) (fun c_439_6 => ?_)
          refine lv_aload_n hx hb dL_tick_442 rfl (lv_at hl 17 rfl) ?_
          refine lr_f (rL (rest := []) ⟨hx, hb, hml, hown, hts⟩ (LB_place l G cA A o (u, v, (goF u v f g 0), (goG u v f g 0), (goL u v g L 0)) (recN n) K ch  ) (cwV 0 hts gL_tick_X8_place rfl rfl rfl mdX8_place ⟨Nat.le_of_ble_eq_true rfl, Nat.le_of_ble_eq_true rfl⟩) hA hL rfl hl rfl (Nat.le_of_ble_eq_true rfl) dL_tick_443 ⟨Nat.le_of_ble_eq_true rfl, Nat.le_of_ble_eq_true rfl⟩) hA hL (fun r_443_6 H locs hr_443_6 hA hL => ?_)
          replace hr_443_6 : r_443_6 = (goF u v f g 0) 7 := hr_443_6
          subst hr_443_6
          refine lv_fload hx hb dL_tick_446 (lv_at hl 2 rfl) ?_
          refine lv_fcmp hx hb dL_tick_448 ?_
          refine lv_if_ne (tgt := 489) hx hb dL_tick_449 (by decide) (fun c_449_6 => absurd (by rw [(ht.2.2.2.trans (if_pos c_198_3))]; exact cmp_self (of_vf hGo.2.1) _) c_449_6) (fun c_449_6 => ?_)
          refine lv_fload hx hb dL_tick_452 (lv_at hl 7 rfl) ?_
          refine lv_fload hx hb dL_tick_454 (lv_at hl 2 rfl) ?_
          refine lv_fcmp hx hb dL_tick_456 ?_
          refine lv_if_ne (tgt := 489) hx hb dL_tick_457 (by decide) (fun c_457_6 => absurd (by rw [(ht.2.2.2.trans (if_pos c_198_3))]; exact cmp_self (of_vf hGo.2.1) _) c_457_6) (fun c_457_6 => ?_)
          refine lv_aload_n hx hb dL_tick_460 rfl (lv_at hl 17 rfl) ?_
          refine lv_iconst (v := 1) hx hb dL_tick_461 (by decide) ?_
          refine lr_i (rL (rest := []) ⟨hx, hb, hml, hown, hts⟩ (LB_door l G cA A o (u, v, (goF u v f g 0), (goG u v f g 0), (goL u v g L 0)) (recN n) K ch 1 ) (cwV 1 hts gL_tick_X8_door rfl rfl rfl mdX8_door ⟨Nat.le_of_ble_eq_true rfl, Nat.le_of_ble_eq_true rfl⟩) hA hL rfl hl rfl (Nat.le_of_ble_eq_true rfl) dL_tick_462 ⟨Nat.le_of_ble_eq_true rfl, Nat.le_of_ble_eq_true rfl⟩) hA hL (fun r_462_6 H locs hr_462_6 hA hL => ?_)
          replace hr_462_6 : r_462_6 = (goG u v f g 0) 16 := hr_462_6
          subst hr_462_6
          refine lv_iload hx hb dL_tick_465 (lv_at hl 4 rfl) ?_
          refine lv_icmp_ne (tgt := 489) hx hb dL_tick_467 (by decide) (fun c_467_6 => absurd ht.2.1 c_467_6) (fun c_467_6 => ?_)
          refine lv_aload_n hx hb dL_tick_470 rfl (lv_at hl 17 rfl) ?_
          refine lv_iconst (v := 2) hx hb dL_tick_471 (by decide) ?_
          refine lr_i (rL (rest := []) ⟨hx, hb, hml, hown, hts⟩ (LB_door l G cA A o (u, v, (goF u v f g 0), (goG u v f g 0), (goL u v g L 0)) (recN n) K ch 2 ) (cwV 1 hts gL_tick_X8_door rfl rfl rfl mdX8_door ⟨Nat.le_of_ble_eq_true rfl, Nat.le_of_ble_eq_true rfl⟩) hA hL rfl hl rfl (Nat.le_of_ble_eq_true rfl) dL_tick_472 ⟨Nat.le_of_ble_eq_true rfl, Nat.le_of_ble_eq_true rfl⟩) hA hL (fun r_472_6 H locs hr_472_6 hA hL => ?_)
          replace hr_472_6 : r_472_6 = oneF ((goG u v f g 0) 17) := hr_472_6
          subst hr_472_6
          refine lv_iload hx hb dL_tick_475 (lv_at hl 0 rfl) ?_
          refine lv_if_eq (tgt := 484) hx hb dL_tick_477 (by decide) (fun _ => ?_) (fun h9 => absurd (by decide) h9)
          refine lv_iload hx hb dL_tick_484 (lv_at hl 12 rfl) ?_
          refine lv_icmp_eq (tgt := 491) hx hb dL_tick_486 (by decide) (fun c_486_6 => ?_) (fun c_486_6 => absurd (by rw [ht.2.2.1] <;> rfl) c_486_6)
          refine lv_iload hx hb dL_tick_491 (lv_at hl 5 rfl) ?_
          refine lv_if_eq (tgt := 554) hx hb dL_tick_493 (by decide) (fun h9 => absurd h9 (by decide)) (fun _ => ?_)
          refine lv_aload_n hx hb dL_tick_496 rfl (lv_at hl 17 rfl) ?_
          refine lv_iconst (v := 0) hx hb dL_tick_497 (by decide) ?_
          refine lr_i (rL (rest := []) ⟨hx, hb, hml, hown, hts⟩ (LB_thing l G cA A o (u, v, (goF u v f g 0), (goG u v f g 0), (goL u v g L 0)) (recN n) K ch 0 hP2) (cwV 1 hts gL_tick_X8_thing rfl rfl rfl mdX8_thing ⟨Nat.le_of_ble_eq_true rfl, Nat.le_of_ble_eq_true rfl⟩) hA hL rfl hl rfl (Nat.le_of_ble_eq_true rfl) dL_tick_498 ⟨Nat.le_of_ble_eq_true rfl, Nat.le_of_ble_eq_true rfl⟩) hA hL (fun r_498_6 H locs hr_498_6 hA hL => ?_)
          replace hr_498_6 : r_498_6 = -5 := hr_498_6.trans (th_none 0 (by decide) (by decide) h5)
          subst hr_498_6
          refine lv_bipush (v := (-5)) hx hb dL_tick_501 (by decide) ?_
          refine lv_icmp_ne (tgt := 552) hx hb dL_tick_503 (by decide) (fun h9 => absurd (by decide) h9) (fun _ => ?_)
          refine lv_aload_n hx hb dL_tick_506 rfl (lv_at hl 17 rfl) ?_
          refine lv_iconst (v := 0) hx hb dL_tick_507 (by decide) ?_
          refine lv_iconst (v := 0) hx hb dL_tick_508 (by decide) ?_
          refine lr_i (rL (rest := []) ⟨hx, hb, hml, hown, hts⟩ (LB_judged l G cA A o (u, v, (goF u v f g 0), (goG u v f g 0), (goL u v g L 0)) (recN n) K ch 0 0 ) (cwV 2 hts gL_tick_X8_judged rfl rfl rfl mdX8_judged ⟨Nat.le_of_ble_eq_true rfl, Nat.le_of_ble_eq_true rfl⟩) hA hL rfl hl rfl (Nat.le_of_ble_eq_true rfl) dL_tick_509 ⟨Nat.le_of_ble_eq_true rfl, Nat.le_of_ble_eq_true rfl⟩) hA hL (fun r_509_6 H locs hr_509_6 hA hL => ?_)
          replace hr_509_6 : r_509_6 = bestK u g := hr_509_6.trans hju.1
          subst hr_509_6
          refine lv_iload hx hb dL_tick_512 (lv_at hl 8 rfl) ?_
          refine lv_icmp_ne (tgt := 552) hx hb dL_tick_514 (by decide) (fun c_514_6 => absurd rfl c_514_6) (fun c_514_6 => ?_)
          refine lv_aload_n hx hb dL_tick_517 rfl (lv_at hl 17 rfl) ?_
          refine lv_iload hx hb dL_tick_518 (lv_at hl 8 rfl) ?_
          refine lv_iconst (v := 1) hx hb dL_tick_520 (by decide) ?_
          refine lv_iadd hx hb dL_tick_521 ?_
          refine lr_i (rL (rest := []) ⟨hx, hb, hml, hown, hts⟩ (LB_count l G cA A o (u, v, (goF u v f g 0), (goG u v f g 0), (goL u v g L 0)) (recN n) K ch ((bestK u g) + 1)) (cwV 1 hts gL_tick_X8_count rfl rfl rfl mdX8_count ⟨Nat.le_of_ble_eq_true rfl, Nat.le_of_ble_eq_true rfl⟩) hA hL rfl hl rfl (Nat.le_of_ble_eq_true rfl) dL_tick_522 ⟨Nat.le_of_ble_eq_true rfl, Nat.le_of_ble_eq_true rfl⟩) hA hL (fun r_522_6 H locs hr_522_6 hA hL => ?_)
          replace hr_522_6 : r_522_6 = cnF (goG u v f g 0) (nI (recN n)) (nI K) ((bestK u g) + 1) := hr_522_6
          subst hr_522_6
          refine lv_iload hx hb dL_tick_525 (lv_at hl 6 rfl) ?_
          refine lv_iconst (v := 1) hx hb dL_tick_527 (by decide) ?_
          refine lv_iadd hx hb dL_tick_528 ?_
          refine lv_icmp_ne (tgt := 552) hx hb dL_tick_529 (by decide) (fun c_529_6 => absurd hcn c_529_6) (fun c_529_6 => ?_)
          refine lv_aload_n hx hb dL_tick_532 rfl (lv_at hl 17 rfl) ?_
          refine lv_iconst (v := 0) hx hb dL_tick_533 (by decide) ?_
          refine lv_iconst (v := 4) hx hb dL_tick_534 (by decide) ?_
          refine lr_i (rL (rest := []) ⟨hx, hb, hml, hown, hts⟩ (LB_judged l G cA A o (u, v, (goF u v f g 0), (goG u v f g 0), (goL u v g L 0)) (recN n) K ch 0 4 ) (cwV 2 hts gL_tick_X8_judged rfl rfl rfl mdX8_judged ⟨Nat.le_of_ble_eq_true rfl, Nat.le_of_ble_eq_true rfl⟩) hA hL rfl hl rfl (Nat.le_of_ble_eq_true rfl) dL_tick_535 ⟨Nat.le_of_ble_eq_true rfl, Nat.le_of_ble_eq_true rfl⟩) hA hL (fun r_535_6 H locs hr_535_6 hA hL => ?_)
          replace hr_535_6 : r_535_6 = (goG u v f g 0) 27 - 1 := hr_535_6.trans hju.2
          subst hr_535_6
          refine lv_aload_n hx hb dL_tick_538 rfl (lv_at hl 17 rfl) ?_
          refine lv_iconst (v := 0) hx hb dL_tick_539 (by decide) ?_
          refine lr_i (rL (rest := [.int ((goG u v f g 0) 27 - 1)]) ⟨hx, hb, hml, hown, hts⟩ (LB_count l G cA A o (u, v, (goF u v f g 0), (goG u v f g 0), (goL u v g L 0)) (recN n) K ch 0) (cwV 1 hts gL_tick_X8_count rfl rfl rfl mdX8_count ⟨Nat.le_of_ble_eq_true rfl, Nat.le_of_ble_eq_true rfl⟩) hA hL rfl hl rfl (Nat.le_of_ble_eq_true rfl) dL_tick_540 ⟨Nat.le_of_ble_eq_true rfl, Nat.le_of_ble_eq_true rfl⟩) hA hL (fun r_540_6 H locs hr_540_6 hA hL => ?_)
          replace hr_540_6 : r_540_6 = (goG u v f g 0) 27 := hr_540_6
          subst hr_540_6
          refine lv_iconst (v := 1) hx hb dL_tick_543 (by decide) ?_
          refine lv_isub hx hb dL_tick_544 ?_
          refine lv_icmp_ne (tgt := 552) hx hb dL_tick_545 (by decide) (fun c_545_6 => absurd rfl c_545_6) (fun c_545_6 => ?_)
          refine lv_iconst (v := 1) hx hb dL_tick_548 (by decide) ?_
          refine lv_goto (tgt := 553) hx hb dL_tick_549 (by decide) ?_
          exact en_l (post := fun r (_ : Unit) => r = 1) (B := fun _ H => LB G cA A o (u, v, (goF u v f g 0), (goG u v f g 0), (goL u v g L 0)) (recN n) K ch H) () hx hb hr hlocks hA rfl hL dL_tick_553
        · skip
          refine lv_iconst (v := 2) hx hb dL_tick_201 (by decide) ?_
          refine lv_goto (tgt := 206) hx hb dL_tick_202 (by decide) ?_
          refine lv_istore (lv' := [(15, .int 2), (16, .float (FP.fadd (f 7) (u 0))), (4, .int (preG u v g 0 16)), (14, .int 1), (13, .int (cnF g (nI n) (nI K) ((bestK u g) + 1))), (12, .float ((goF u v f g 0) 7)), (11, .int (bestK u g)), (10, .int (oneF (g 12))), (9, .int (g 11)), (8, .int (g 7)), (7, .int (oneF (g 17))), (6, .int 0), (5, .int 0), (3, .float (f 7)), (2, .int 1), (0, .ref o), (1, .int 0)]) hx hb dL_tick_206 hl (by decide) rfl (fun ls hl => ?_)
          refine lv_fload hx hb dL_tick_208 (lv_at hl 1 rfl) ?_
          refine lv_ldcf hx hb hown (hts (.constantFloat RL 32 (1120403456)) (by decide +kernel)) dL_tick_210 ?_
          refine lv_fcmp hx hb dL_tick_212 ?_
          refine lv_if_lt (tgt := 221) hx hb dL_tick_213 (by decide) (fun c_213_7 => absurd c_213_7 c_198_3) (fun c_213_7 => ?_)
          refine lv_ldcf hx hb hown (hts (.constantFloat RL 32 (1120403456)) (by decide +kernel)) dL_tick_216 ?_
          refine lv_goto (tgt := 223) hx hb dL_tick_218 (by decide) ?_
          refine lv_fstore (lv' := [(16, .float 1120403456), (15, .int 2), (4, .int (preG u v g 0 16)), (14, .int 1), (13, .int (cnF g (nI n) (nI K) ((bestK u g) + 1))), (12, .float ((goF u v f g 0) 7)), (11, .int (bestK u g)), (10, .int (oneF (g 12))), (9, .int (g 11)), (8, .int (g 7)), (7, .int (oneF (g 17))), (6, .int 0), (5, .int 0), (3, .float (f 7)), (2, .int 1), (0, .ref o), (1, .int 0)]) hx hb dL_tick_223 hl (by decide) rfl (fun ls hl => ?_)
          refine lv_goto (tgt := 385) hx hb dL_tick_225 (by decide) ?_
          refine lv_iload_n hx hb dL_tick_385 rfl (lv_at hl 14 rfl) ?_
          refine lv_iconst (v := 3) hx hb dL_tick_386 (by decide) ?_
          refine lv_icmp_ne (tgt := 400) hx hb dL_tick_387 (by decide) (fun _ => ?_) (fun h9 => absurd h9 (by decide))
          refine lv_iconst (v := 0) hx hb dL_tick_400 (by decide) ?_
          refine lv_istore (lv' := [(17, .int 0), (16, .float 1120403456), (15, .int 2), (4, .int (preG u v g 0 16)), (14, .int 1), (13, .int (cnF g (nI n) (nI K) ((bestK u g) + 1))), (12, .float ((goF u v f g 0) 7)), (11, .int (bestK u g)), (10, .int (oneF (g 12))), (9, .int (g 11)), (8, .int (g 7)), (7, .int (oneF (g 17))), (6, .int 0), (5, .int 0), (3, .float (f 7)), (2, .int 1), (0, .ref o), (1, .int 0)]) hx hb dL_tick_401 hl (by decide) rfl (fun ls hl => ?_)
          refine lv_iload hx hb dL_tick_403 (lv_at hl 0 rfl) ?_
          refine lv_if_eq (tgt := 428) hx hb dL_tick_405 (by decide) (fun _ => ?_) (fun h9 => absurd (by decide) h9)
          refine lv_iconst (v := 0) hx hb dL_tick_428 (by decide) ?_
          refine lv_istore (lv' := [(18, .int 0), (17, .int 0), (16, .float 1120403456), (15, .int 2), (4, .int (preG u v g 0 16)), (14, .int 1), (13, .int (cnF g (nI n) (nI K) ((bestK u g) + 1))), (12, .float ((goF u v f g 0) 7)), (11, .int (bestK u g)), (10, .int (oneF (g 12))), (9, .int (g 11)), (8, .int (g 7)), (7, .int (oneF (g 17))), (6, .int 0), (5, .int 0), (3, .float (f 7)), (2, .int 1), (0, .ref o), (1, .int 0)]) hx hb dL_tick_429 hl (by decide) rfl (fun ls hl => ?_)
          refine lv_aload_n hx hb dL_tick_431 rfl (lv_at hl 17 rfl) ?_
          refine lv_iload_n hx hb dL_tick_432 rfl (lv_at hl 18 rfl) ?_
          refine lv_iconst (v := 1) hx hb dL_tick_433 (by decide) ?_
          refine lw_i (rL (rest := []) ⟨hx, hb, hml, hown, hts⟩ (LB_pass_ok l G cA A o (u, v, f, g, L) n K ch hn 0 1 (by decide) (by decide) (by decide) (by decide) hT hG1 hBo) (cwV 2 hts gL_tick_X8_pass rfl rfl rfl mdX8_pass ⟨Nat.le_of_ble_eq_true rfl, Nat.le_of_ble_eq_true rfl⟩) hA hL rfl hl rfl (Nat.le_of_ble_eq_true rfl) dL_tick_434 ⟨Nat.le_of_ble_eq_true rfl, Nat.le_of_ble_eq_true rfl⟩) hA (fun r_434_7 _ H locs hr_434_7 hA hL => ?_)
          replace hL : LB G cA A o (u, v, (goF u v f g 0), (goG u v f g 0), (goL u v g L 0)) (recN n) K ch H := hL
          replace hr_434_7 : r_434_7 = (goG u v f g 0) 13 := hr_434_7
          subst hr_434_7
          refine lv_iload hx hb dL_tick_437 (lv_at hl 3 rfl) ?_
          refine lv_icmp_ne (tgt := 489) hx hb dL_tick_439 (by decide) (fun c_439_7 => absurd (ht.1.trans (if_neg c_198_3)) c_439_7) (fun c_439_7 => ?_)
          refine lv_aload_n hx hb dL_tick_442 rfl (lv_at hl 17 rfl) ?_
          refine lr_f (rL (rest := []) ⟨hx, hb, hml, hown, hts⟩ (LB_place l G cA A o (u, v, (goF u v f g 0), (goG u v f g 0), (goL u v g L 0)) (recN n) K ch  ) (cwV 0 hts gL_tick_X8_place rfl rfl rfl mdX8_place ⟨Nat.le_of_ble_eq_true rfl, Nat.le_of_ble_eq_true rfl⟩) hA hL rfl hl rfl (Nat.le_of_ble_eq_true rfl) dL_tick_443 ⟨Nat.le_of_ble_eq_true rfl, Nat.le_of_ble_eq_true rfl⟩) hA hL (fun r_443_7 H locs hr_443_7 hA hL => ?_)
          replace hr_443_7 : r_443_7 = (goF u v f g 0) 7 := hr_443_7
          subst hr_443_7
          refine lv_fload hx hb dL_tick_446 (lv_at hl 2 rfl) ?_
          refine lv_fcmp hx hb dL_tick_448 ?_
          refine lv_if_ne (tgt := 489) hx hb dL_tick_449 (by decide) (fun c_449_7 => absurd (by rw [(ht.2.2.2.trans (if_neg c_198_3))]; exact cmp_self (of_vf n32_100) _) c_449_7) (fun c_449_7 => ?_)
          refine lv_fload hx hb dL_tick_452 (lv_at hl 7 rfl) ?_
          refine lv_fload hx hb dL_tick_454 (lv_at hl 2 rfl) ?_
          refine lv_fcmp hx hb dL_tick_456 ?_
          refine lv_if_ne (tgt := 489) hx hb dL_tick_457 (by decide) (fun c_457_7 => absurd (by rw [(ht.2.2.2.trans (if_neg c_198_3))]; exact cmp_self (of_vf n32_100) _) c_457_7) (fun c_457_7 => ?_)
          refine lv_aload_n hx hb dL_tick_460 rfl (lv_at hl 17 rfl) ?_
          refine lv_iconst (v := 1) hx hb dL_tick_461 (by decide) ?_
          refine lr_i (rL (rest := []) ⟨hx, hb, hml, hown, hts⟩ (LB_door l G cA A o (u, v, (goF u v f g 0), (goG u v f g 0), (goL u v g L 0)) (recN n) K ch 1 ) (cwV 1 hts gL_tick_X8_door rfl rfl rfl mdX8_door ⟨Nat.le_of_ble_eq_true rfl, Nat.le_of_ble_eq_true rfl⟩) hA hL rfl hl rfl (Nat.le_of_ble_eq_true rfl) dL_tick_462 ⟨Nat.le_of_ble_eq_true rfl, Nat.le_of_ble_eq_true rfl⟩) hA hL (fun r_462_7 H locs hr_462_7 hA hL => ?_)
          replace hr_462_7 : r_462_7 = (goG u v f g 0) 16 := hr_462_7
          subst hr_462_7
          refine lv_iload hx hb dL_tick_465 (lv_at hl 4 rfl) ?_
          refine lv_icmp_ne (tgt := 489) hx hb dL_tick_467 (by decide) (fun c_467_7 => absurd ht.2.1 c_467_7) (fun c_467_7 => ?_)
          refine lv_aload_n hx hb dL_tick_470 rfl (lv_at hl 17 rfl) ?_
          refine lv_iconst (v := 2) hx hb dL_tick_471 (by decide) ?_
          refine lr_i (rL (rest := []) ⟨hx, hb, hml, hown, hts⟩ (LB_door l G cA A o (u, v, (goF u v f g 0), (goG u v f g 0), (goL u v g L 0)) (recN n) K ch 2 ) (cwV 1 hts gL_tick_X8_door rfl rfl rfl mdX8_door ⟨Nat.le_of_ble_eq_true rfl, Nat.le_of_ble_eq_true rfl⟩) hA hL rfl hl rfl (Nat.le_of_ble_eq_true rfl) dL_tick_472 ⟨Nat.le_of_ble_eq_true rfl, Nat.le_of_ble_eq_true rfl⟩) hA hL (fun r_472_7 H locs hr_472_7 hA hL => ?_)
          replace hr_472_7 : r_472_7 = oneF ((goG u v f g 0) 17) := hr_472_7
          subst hr_472_7
          refine lv_iload hx hb dL_tick_475 (lv_at hl 0 rfl) ?_
          refine lv_if_eq (tgt := 484) hx hb dL_tick_477 (by decide) (fun _ => ?_) (fun h9 => absurd (by decide) h9)
          refine lv_iload hx hb dL_tick_484 (lv_at hl 12 rfl) ?_
          refine lv_icmp_eq (tgt := 491) hx hb dL_tick_486 (by decide) (fun c_486_7 => ?_) (fun c_486_7 => absurd (by rw [ht.2.2.1] <;> rfl) c_486_7)
          refine lv_iload hx hb dL_tick_491 (lv_at hl 5 rfl) ?_
          refine lv_if_eq (tgt := 554) hx hb dL_tick_493 (by decide) (fun h9 => absurd h9 (by decide)) (fun _ => ?_)
          refine lv_aload_n hx hb dL_tick_496 rfl (lv_at hl 17 rfl) ?_
          refine lv_iconst (v := 0) hx hb dL_tick_497 (by decide) ?_
          refine lr_i (rL (rest := []) ⟨hx, hb, hml, hown, hts⟩ (LB_thing l G cA A o (u, v, (goF u v f g 0), (goG u v f g 0), (goL u v g L 0)) (recN n) K ch 0 hP2) (cwV 1 hts gL_tick_X8_thing rfl rfl rfl mdX8_thing ⟨Nat.le_of_ble_eq_true rfl, Nat.le_of_ble_eq_true rfl⟩) hA hL rfl hl rfl (Nat.le_of_ble_eq_true rfl) dL_tick_498 ⟨Nat.le_of_ble_eq_true rfl, Nat.le_of_ble_eq_true rfl⟩) hA hL (fun r_498_7 H locs hr_498_7 hA hL => ?_)
          replace hr_498_7 : r_498_7 = -5 := hr_498_7.trans (th_none 0 (by decide) (by decide) h5)
          subst hr_498_7
          refine lv_bipush (v := (-5)) hx hb dL_tick_501 (by decide) ?_
          refine lv_icmp_ne (tgt := 552) hx hb dL_tick_503 (by decide) (fun h9 => absurd (by decide) h9) (fun _ => ?_)
          refine lv_aload_n hx hb dL_tick_506 rfl (lv_at hl 17 rfl) ?_
          refine lv_iconst (v := 0) hx hb dL_tick_507 (by decide) ?_
          refine lv_iconst (v := 0) hx hb dL_tick_508 (by decide) ?_
          refine lr_i (rL (rest := []) ⟨hx, hb, hml, hown, hts⟩ (LB_judged l G cA A o (u, v, (goF u v f g 0), (goG u v f g 0), (goL u v g L 0)) (recN n) K ch 0 0 ) (cwV 2 hts gL_tick_X8_judged rfl rfl rfl mdX8_judged ⟨Nat.le_of_ble_eq_true rfl, Nat.le_of_ble_eq_true rfl⟩) hA hL rfl hl rfl (Nat.le_of_ble_eq_true rfl) dL_tick_509 ⟨Nat.le_of_ble_eq_true rfl, Nat.le_of_ble_eq_true rfl⟩) hA hL (fun r_509_7 H locs hr_509_7 hA hL => ?_)
          replace hr_509_7 : r_509_7 = bestK u g := hr_509_7.trans hju.1
          subst hr_509_7
          refine lv_iload hx hb dL_tick_512 (lv_at hl 8 rfl) ?_
          refine lv_icmp_ne (tgt := 552) hx hb dL_tick_514 (by decide) (fun c_514_7 => absurd rfl c_514_7) (fun c_514_7 => ?_)
          refine lv_aload_n hx hb dL_tick_517 rfl (lv_at hl 17 rfl) ?_
          refine lv_iload hx hb dL_tick_518 (lv_at hl 8 rfl) ?_
          refine lv_iconst (v := 1) hx hb dL_tick_520 (by decide) ?_
          refine lv_iadd hx hb dL_tick_521 ?_
          refine lr_i (rL (rest := []) ⟨hx, hb, hml, hown, hts⟩ (LB_count l G cA A o (u, v, (goF u v f g 0), (goG u v f g 0), (goL u v g L 0)) (recN n) K ch ((bestK u g) + 1)) (cwV 1 hts gL_tick_X8_count rfl rfl rfl mdX8_count ⟨Nat.le_of_ble_eq_true rfl, Nat.le_of_ble_eq_true rfl⟩) hA hL rfl hl rfl (Nat.le_of_ble_eq_true rfl) dL_tick_522 ⟨Nat.le_of_ble_eq_true rfl, Nat.le_of_ble_eq_true rfl⟩) hA hL (fun r_522_7 H locs hr_522_7 hA hL => ?_)
          replace hr_522_7 : r_522_7 = cnF (goG u v f g 0) (nI (recN n)) (nI K) ((bestK u g) + 1) := hr_522_7
          subst hr_522_7
          refine lv_iload hx hb dL_tick_525 (lv_at hl 6 rfl) ?_
          refine lv_iconst (v := 1) hx hb dL_tick_527 (by decide) ?_
          refine lv_iadd hx hb dL_tick_528 ?_
          refine lv_icmp_ne (tgt := 552) hx hb dL_tick_529 (by decide) (fun c_529_7 => absurd hcn c_529_7) (fun c_529_7 => ?_)
          refine lv_aload_n hx hb dL_tick_532 rfl (lv_at hl 17 rfl) ?_
          refine lv_iconst (v := 0) hx hb dL_tick_533 (by decide) ?_
          refine lv_iconst (v := 4) hx hb dL_tick_534 (by decide) ?_
          refine lr_i (rL (rest := []) ⟨hx, hb, hml, hown, hts⟩ (LB_judged l G cA A o (u, v, (goF u v f g 0), (goG u v f g 0), (goL u v g L 0)) (recN n) K ch 0 4 ) (cwV 2 hts gL_tick_X8_judged rfl rfl rfl mdX8_judged ⟨Nat.le_of_ble_eq_true rfl, Nat.le_of_ble_eq_true rfl⟩) hA hL rfl hl rfl (Nat.le_of_ble_eq_true rfl) dL_tick_535 ⟨Nat.le_of_ble_eq_true rfl, Nat.le_of_ble_eq_true rfl⟩) hA hL (fun r_535_7 H locs hr_535_7 hA hL => ?_)
          replace hr_535_7 : r_535_7 = (goG u v f g 0) 27 - 1 := hr_535_7.trans hju.2
          subst hr_535_7
          refine lv_aload_n hx hb dL_tick_538 rfl (lv_at hl 17 rfl) ?_
          refine lv_iconst (v := 0) hx hb dL_tick_539 (by decide) ?_
          refine lr_i (rL (rest := [.int ((goG u v f g 0) 27 - 1)]) ⟨hx, hb, hml, hown, hts⟩ (LB_count l G cA A o (u, v, (goF u v f g 0), (goG u v f g 0), (goL u v g L 0)) (recN n) K ch 0) (cwV 1 hts gL_tick_X8_count rfl rfl rfl mdX8_count ⟨Nat.le_of_ble_eq_true rfl, Nat.le_of_ble_eq_true rfl⟩) hA hL rfl hl rfl (Nat.le_of_ble_eq_true rfl) dL_tick_540 ⟨Nat.le_of_ble_eq_true rfl, Nat.le_of_ble_eq_true rfl⟩) hA hL (fun r_540_7 H locs hr_540_7 hA hL => ?_)
          replace hr_540_7 : r_540_7 = (goG u v f g 0) 27 := hr_540_7
          subst hr_540_7
          refine lv_iconst (v := 1) hx hb dL_tick_543 (by decide) ?_
          refine lv_isub hx hb dL_tick_544 ?_
          refine lv_icmp_ne (tgt := 552) hx hb dL_tick_545 (by decide) (fun c_545_7 => absurd rfl c_545_7) (fun c_545_7 => ?_)
          refine lv_iconst (v := 1) hx hb dL_tick_548 (by decide) ?_
          refine lv_goto (tgt := 553) hx hb dL_tick_549 (by decide) ?_
          exact en_l (post := fun r (_ : Unit) => r = 1) (B := fun _ H => LB G cA A o (u, v, (goF u v f g 0), (goG u v f g 0), (goL u v g L 0)) (recN n) K ch H) () hx hb hr hlocks hA rfl hL dL_tick_553
set_option maxHeartbeats 8000000 in
set_option maxRecDepth 100000 in
/-- tick(o, beams), in the state 2, case te -/
theorem cL_tick_2_te (l : Launch) (G : va_G) (cA : Nat → ClassId) (A : Nat → Prop) (o : Nat) (u : FF) (v : GG) (f : FF) (g L : GG) (n K : Nat) (ch : GG) (hs : g 13 = 2) (hn : n ≤ 4) (hGo : GoOk u f g) (hPr : PrOk u g) (hP2 : PrOk u (goG u v f g 0)) (hT : ¬ 99999 < g 27 + nI 1) (hBo : Bo g) (hf : vf_n32 (f 7)) (hg : ¬ g 5 = 0) (h7 : ¬ g 7 < 1) (hc : ¬ g 11 + 1 < v 4) (h18 : ¬ (goG u v f g 0) 18 ≤ 0) : Met l yL_tick wsL_tick ({ frames := 7, cells := 0, slots := 0, locals := 160 } : Room) (va_Pc [.ref o, .int 0] (LbP G cA A o (u, v, f, g, L) n K ch)) (va_Qi (fun r (_ : Unit) => r = 1) (fun _ t => LB G cA A o (u, v, (goF u v f g 0), (goG u v f g 0), (goL u v g L 0)) (recN n) K ch t.heap) A) 0 0 A := by
  refine ofW2 (cc := cL_tick) (maxL := 19) (ret := (some .boolean)) (own := RL) (by decide) rfl rfl (Nat.le_of_ble_eq_true rfl) rfl ?_
  intro p e s m below meth c ls hx hb hml hr hts hown hlocks hv hl
  obtain ⟨hE, hN, hL⟩ := hv
  have hA : At G cA A s s.heap [] := ⟨hE, hN, va_S.rf⟩
  obtain ⟨H, hH0⟩ : ∃ H, H = s.heap := ⟨_, rfl⟩
  rw [← hH0] at hL ⊢
  replace hA : At G cA A s H [] := by rw [hH0]; exact hA
  generalize ([] : List Loc) = locs at hA ⊢
  clear hH0
  replace hl : lv_has ls 19 [(0, .ref o), (1, .int 0)] := hl
  have hG1 : ∀ k, k < 1 → GoOk u (itS u v 0 (f, g, L) k).1 (itS u v 0 (f, g, L) k).2.1 := fun k hk => (show k = 0 by omega) ▸ hGo
  have ht := t_2a hs (u := u) (v := v) (f := f)
  have hcr : ¬ clearR g (v 4) = 0 := clearR_yes hg hc
  have h5 : (goG u v f g 0) 5 = 0 := mv_5.trans (pre_5e hcr)
  have hju := ju_new (u := u) (f := f) (L := L) hcr h18
  have hcn := cn_new (u := u) (f := f) (n := n) (K := K) hcr
  have hp16 : preG u v g 0 16 = (if bestK u g = 0 then (if g 12 = 0 then g 16 else if g 16 ≤ 0 then g 16 else g 16 - 1) else g 16) := pre_16e hcr
  refine lv_aload_n hx hb dL_tick_0 rfl (lv_at hl 0 rfl) ?_
  refine lv_iconst (v := 0) hx hb dL_tick_1 (by decide) ?_
  refine lr_i (rL (rest := []) ⟨hx, hb, hml, hown, hts⟩ (LB_door l G cA A o (u, v, f, g, L) n K ch 0 ) (cwV 1 hts gL_tick_X8_door rfl rfl rfl mdX8_door ⟨Nat.le_of_ble_eq_true rfl, Nat.le_of_ble_eq_true rfl⟩) hA hL rfl hl rfl (Nat.le_of_ble_eq_true rfl) dL_tick_2 ⟨Nat.le_of_ble_eq_true rfl, Nat.le_of_ble_eq_true rfl⟩) hA hL (fun r_2 H locs hr_2 hA hL => ?_)
  replace hr_2 : r_2 = 2 := hr_2.trans hs
  subst hr_2
  refine lv_istore_n (lv' := [(2, .int 2), (0, .ref o), (1, .int 0)]) hx hb dL_tick_5 rfl hl (by decide) rfl (fun ls hl => ?_)
  refine lv_aload_n hx hb dL_tick_6 rfl (lv_at hl 1 rfl) ?_
  refine lr_f (rL (rest := []) ⟨hx, hb, hml, hown, hts⟩ (LB_place l G cA A o (u, v, f, g, L) n K ch  ) (cwV 0 hts gL_tick_X8_place rfl rfl rfl mdX8_place ⟨Nat.le_of_ble_eq_true rfl, Nat.le_of_ble_eq_true rfl⟩) hA hL rfl hl rfl (Nat.le_of_ble_eq_true rfl) dL_tick_7 ⟨Nat.le_of_ble_eq_true rfl, Nat.le_of_ble_eq_true rfl⟩) hA hL (fun r_7 H locs hr_7 hA hL => ?_)
  replace hr_7 : r_7 = f 7 := hr_7
  subst hr_7
  refine lv_fstore_n (lv' := [(3, .float (f 7)), (2, .int 2), (0, .ref o), (1, .int 0)]) hx hb dL_tick_10 rfl hl (by decide) rfl (fun ls hl => ?_)
  refine lv_aload_n hx hb dL_tick_11 rfl (lv_at hl 2 rfl) ?_
  refine lv_iconst (v := 1) hx hb dL_tick_12 (by decide) ?_
  refine lr_i (rL (rest := []) ⟨hx, hb, hml, hown, hts⟩ (LB_door l G cA A o (u, v, f, g, L) n K ch 1 ) (cwV 1 hts gL_tick_X8_door rfl rfl rfl mdX8_door ⟨Nat.le_of_ble_eq_true rfl, Nat.le_of_ble_eq_true rfl⟩) hA hL rfl hl rfl (Nat.le_of_ble_eq_true rfl) dL_tick_13 ⟨Nat.le_of_ble_eq_true rfl, Nat.le_of_ble_eq_true rfl⟩) hA hL (fun r_13 H locs hr_13 hA hL => ?_)
  replace hr_13 : r_13 = g 16 := hr_13
  subst hr_13
  refine lv_istore (lv' := [(4, .int (g 16)), (3, .float (f 7)), (2, .int 2), (0, .ref o), (1, .int 0)]) hx hb dL_tick_16 hl (by decide) rfl (fun ls hl => ?_)
  refine lv_aload_n hx hb dL_tick_18 rfl (lv_at hl 3 rfl) ?_
  refine lv_iconst (v := 3) hx hb dL_tick_19 (by decide) ?_
  refine lr_i (rL (rest := []) ⟨hx, hb, hml, hown, hts⟩ (LB_door l G cA A o (u, v, f, g, L) n K ch 3 ) (cwV 1 hts gL_tick_X8_door rfl rfl rfl mdX8_door ⟨Nat.le_of_ble_eq_true rfl, Nat.le_of_ble_eq_true rfl⟩) hA hL rfl hl rfl (Nat.le_of_ble_eq_true rfl) dL_tick_20 ⟨Nat.le_of_ble_eq_true rfl, Nat.le_of_ble_eq_true rfl⟩) hA hL (fun r_20 H locs hr_20 hA hL => ?_)
  rw [show doF f g 3 = g 14 from (by show (if g 13 = 2 then g 14 else 0) = g 14; rw [if_pos hs])] at hr_20
  subst hr_20
  refine lv_istore (lv' := [(5, .int (g 14)), (4, .int (g 16)), (3, .float (f 7)), (2, .int 2), (0, .ref o), (1, .int 0)]) hx hb dL_tick_23 hl (by decide) rfl (fun ls hl => ?_)
  refine lv_aload_n hx hb dL_tick_25 rfl (lv_at hl 4 rfl) ?_
  refine lv_iconst (v := 4) hx hb dL_tick_26 (by decide) ?_
  refine lr_i (rL (rest := []) ⟨hx, hb, hml, hown, hts⟩ (LB_door l G cA A o (u, v, f, g, L) n K ch 4 ) (cwV 1 hts gL_tick_X8_door rfl rfl rfl mdX8_door ⟨Nat.le_of_ble_eq_true rfl, Nat.le_of_ble_eq_true rfl⟩) hA hL rfl hl rfl (Nat.le_of_ble_eq_true rfl) dL_tick_27 ⟨Nat.le_of_ble_eq_true rfl, Nat.le_of_ble_eq_true rfl⟩) hA hL (fun r_27 H locs hr_27 hA hL => ?_)
  rw [show doF f g 4 = 0 from (by show (if g 13 = 3 then g 15 else 0) = 0; rw [if_neg (by rw [hs]; decide)])] at hr_27
  subst hr_27
  refine lv_istore (lv' := [(6, .int 0), (5, .int (g 14)), (4, .int (g 16)), (3, .float (f 7)), (2, .int 2), (0, .ref o), (1, .int 0)]) hx hb dL_tick_30 hl (by decide) rfl (fun ls hl => ?_)
  refine lv_aload_n hx hb dL_tick_32 rfl (lv_at hl 5 rfl) ?_
  refine lv_iconst (v := 2) hx hb dL_tick_33 (by decide) ?_
  refine lr_i (rL (rest := []) ⟨hx, hb, hml, hown, hts⟩ (LB_door l G cA A o (u, v, f, g, L) n K ch 2 ) (cwV 1 hts gL_tick_X8_door rfl rfl rfl mdX8_door ⟨Nat.le_of_ble_eq_true rfl, Nat.le_of_ble_eq_true rfl⟩) hA hL rfl hl rfl (Nat.le_of_ble_eq_true rfl) dL_tick_34 ⟨Nat.le_of_ble_eq_true rfl, Nat.le_of_ble_eq_true rfl⟩) hA hL (fun r_34 H locs hr_34 hA hL => ?_)
  replace hr_34 : r_34 = oneF (g 17) := hr_34
  subst hr_34
  refine lv_istore (lv' := [(7, .int (oneF (g 17))), (6, .int 0), (5, .int (g 14)), (4, .int (g 16)), (3, .float (f 7)), (2, .int 2), (0, .ref o), (1, .int 0)]) hx hb dL_tick_37 hl (by decide) rfl (fun ls hl => ?_)
  refine lv_aload_n hx hb dL_tick_39 rfl (lv_at hl 6 rfl) ?_
  refine lv_iconst (v := 0) hx hb dL_tick_40 (by decide) ?_
  refine lr_i (rL (rest := []) ⟨hx, hb, hml, hown, hts⟩ (LB_thing l G cA A o (u, v, f, g, L) n K ch 0 hPr) (cwV 1 hts gL_tick_X8_thing rfl rfl rfl mdX8_thing ⟨Nat.le_of_ble_eq_true rfl, Nat.le_of_ble_eq_true rfl⟩) hA hL rfl hl rfl (Nat.le_of_ble_eq_true rfl) dL_tick_41 ⟨Nat.le_of_ble_eq_true rfl, Nat.le_of_ble_eq_true rfl⟩) hA hL (fun r_41 H locs hr_41 hA hL => ?_)
  replace hr_41 : r_41 = g 7 := hr_41.trans (th_0 hg)
  subst hr_41
  refine lv_istore (lv' := [(8, .int (g 7)), (7, .int (oneF (g 17))), (6, .int 0), (5, .int (g 14)), (4, .int (g 16)), (3, .float (f 7)), (2, .int 2), (0, .ref o), (1, .int 0)]) hx hb dL_tick_44 hl (by decide) rfl (fun ls hl => ?_)
  refine lv_iload hx hb dL_tick_46 (lv_at hl 0 rfl) ?_
  refine lv_if_ge (tgt := 55) hx hb dL_tick_48 (by decide) (fun c_48 => ?_) (fun c_48 => absurd (show g 7 < 1 by have := Int32.not_le.mp c_48; exact Int32.lt_trans this (by decide)) h7)
  refine lv_aload_n hx hb dL_tick_55 rfl (lv_at hl 7 rfl) ?_
  refine lv_iconst (v := 5) hx hb dL_tick_56 (by decide) ?_
  refine lr_i (rL (rest := []) ⟨hx, hb, hml, hown, hts⟩ (LB_thing l G cA A o (u, v, f, g, L) n K ch 5 hPr) (cwV 1 hts gL_tick_X8_thing rfl rfl rfl mdX8_thing ⟨Nat.le_of_ble_eq_true rfl, Nat.le_of_ble_eq_true rfl⟩) hA hL rfl hl rfl (Nat.le_of_ble_eq_true rfl) dL_tick_57 ⟨Nat.le_of_ble_eq_true rfl, Nat.le_of_ble_eq_true rfl⟩) hA hL (fun r_57 H locs hr_57 hA hL => ?_)
  replace hr_57 : r_57 = g 11 := hr_57.trans (th_5 hg)
  subst hr_57
  refine lv_istore (lv' := [(9, .int (g 11)), (8, .int (g 7)), (7, .int (oneF (g 17))), (6, .int 0), (5, .int (g 14)), (4, .int (g 16)), (3, .float (f 7)), (2, .int 2), (0, .ref o), (1, .int 0)]) hx hb dL_tick_60 hl (by decide) rfl (fun ls hl => ?_)
  refine lv_iload hx hb dL_tick_62 (lv_at hl 1 rfl) ?_
  refine lv_if_ge (tgt := 71) hx hb dL_tick_64 (by decide) (fun c_64 => ?_) (fun c_64 => absurd c_48 c_64)
  refine lv_aload_n hx hb dL_tick_71 rfl (lv_at hl 8 rfl) ?_
  refine lv_bipush (v := 6) hx hb dL_tick_72 (by decide) ?_
  refine lr_i (rL (rest := []) ⟨hx, hb, hml, hown, hts⟩ (LB_thing l G cA A o (u, v, f, g, L) n K ch 6 hPr) (cwV 1 hts gL_tick_X8_thing rfl rfl rfl mdX8_thing ⟨Nat.le_of_ble_eq_true rfl, Nat.le_of_ble_eq_true rfl⟩) hA hL rfl hl rfl (Nat.le_of_ble_eq_true rfl) dL_tick_74 ⟨Nat.le_of_ble_eq_true rfl, Nat.le_of_ble_eq_true rfl⟩) hA hL (fun r_74 H locs hr_74 hA hL => ?_)
  replace hr_74 : r_74 = oneF (g 12) := hr_74.trans (th_6 hg)
  subst hr_74
  refine lv_istore (lv' := [(10, .int (oneF (g 12))), (9, .int (g 11)), (8, .int (g 7)), (7, .int (oneF (g 17))), (6, .int 0), (5, .int (g 14)), (4, .int (g 16)), (3, .float (f 7)), (2, .int 2), (0, .ref o), (1, .int 0)]) hx hb dL_tick_77 hl (by decide) rfl (fun ls hl => ?_)
  refine lv_iload hx hb dL_tick_79 (lv_at hl 2 rfl) ?_
  refine lv_if_ge (tgt := 88) hx hb dL_tick_81 (by decide) (fun c_81 => ?_) (fun c_81 => absurd c_48 c_81)
  refine lv_aload_n hx hb dL_tick_88 rfl (lv_at hl 9 rfl) ?_
  refine lv_bipush (v := 7) hx hb dL_tick_89 (by decide) ?_
  refine lr_i (rL (rest := []) ⟨hx, hb, hml, hown, hts⟩ (LB_thing l G cA A o (u, v, f, g, L) n K ch 7 hPr) (cwV 1 hts gL_tick_X8_thing rfl rfl rfl mdX8_thing ⟨Nat.le_of_ble_eq_true rfl, Nat.le_of_ble_eq_true rfl⟩) hA hL rfl hl rfl (Nat.le_of_ble_eq_true rfl) dL_tick_91 ⟨Nat.le_of_ble_eq_true rfl, Nat.le_of_ble_eq_true rfl⟩) hA hL (fun r_91 H locs hr_91 hA hL => ?_)
  replace hr_91 : r_91 = bestK u g := hr_91.trans (th_7 hg)
  subst hr_91
  refine lv_istore (lv' := [(11, .int (bestK u g)), (10, .int (oneF (g 12))), (9, .int (g 11)), (8, .int (g 7)), (7, .int (oneF (g 17))), (6, .int 0), (5, .int (g 14)), (4, .int (g 16)), (3, .float (f 7)), (2, .int 2), (0, .ref o), (1, .int 0)]) hx hb dL_tick_94 hl (by decide) rfl (fun ls hl => ?_)
  refine lv_aload_n hx hb dL_tick_96 rfl (lv_at hl 10 rfl) ?_
  refine lv_iload_n hx hb dL_tick_97 rfl (lv_at hl 11 rfl) ?_
  refine lv_iconst (v := 1) hx hb dL_tick_98 (by decide) ?_
  refine lw_f (rL (rest := []) ⟨hx, hb, hml, hown, hts⟩ (LB_placeIn_ok l G cA A o (u, v, f, g, L) n K ch 0 1 (by decide) (by decide) (by decide) hG1) (cwV 2 hts gL_tick_X8_placeIn rfl rfl rfl mdX8_placeIn ⟨Nat.le_of_ble_eq_true rfl, Nat.le_of_ble_eq_true rfl⟩) hA hL rfl hl rfl (Nat.le_of_ble_eq_true rfl) dL_tick_99 ⟨Nat.le_of_ble_eq_true rfl, Nat.le_of_ble_eq_true rfl⟩) hA (fun r_99 _ H locs hr_99 hA hL => ?_)
  replace hL : LB G cA A o (u, v, f, g, L) n K ch H := hL
  replace hr_99 : r_99 = (goF u v f g 0) 7 := hr_99
  subst hr_99
  refine lv_fstore (lv' := [(12, .float ((goF u v f g 0) 7)), (11, .int (bestK u g)), (10, .int (oneF (g 12))), (9, .int (g 11)), (8, .int (g 7)), (7, .int (oneF (g 17))), (6, .int 0), (5, .int (g 14)), (4, .int (g 16)), (3, .float (f 7)), (2, .int 2), (0, .ref o), (1, .int 0)]) hx hb dL_tick_102 hl (by decide) rfl (fun ls hl => ?_)
  refine lv_aload_n hx hb dL_tick_104 rfl (lv_at hl 11 rfl) ?_
  refine lv_iload hx hb dL_tick_105 (lv_at hl 1 rfl) ?_
  refine lv_iconst (v := 1) hx hb dL_tick_107 (by decide) ?_
  refine lv_iadd hx hb dL_tick_108 ?_
  refine lr_i (rL (rest := []) ⟨hx, hb, hml, hown, hts⟩ (LB_count l G cA A o (u, v, f, g, L) n K ch ((bestK u g) + 1)) (cwV 1 hts gL_tick_X8_count rfl rfl rfl mdX8_count ⟨Nat.le_of_ble_eq_true rfl, Nat.le_of_ble_eq_true rfl⟩) hA hL rfl hl rfl (Nat.le_of_ble_eq_true rfl) dL_tick_109 ⟨Nat.le_of_ble_eq_true rfl, Nat.le_of_ble_eq_true rfl⟩) hA hL (fun r_109 H locs hr_109 hA hL => ?_)
  replace hr_109 : r_109 = cnF g (nI n) (nI K) ((bestK u g) + 1) := hr_109
  subst hr_109
  refine lv_istore (lv' := [(13, .int (cnF g (nI n) (nI K) ((bestK u g) + 1))), (12, .float ((goF u v f g 0) 7)), (11, .int (bestK u g)), (10, .int (oneF (g 12))), (9, .int (g 11)), (8, .int (g 7)), (7, .int (oneF (g 17))), (6, .int 0), (5, .int (g 14)), (4, .int (g 16)), (3, .float (f 7)), (2, .int 2), (0, .ref o), (1, .int 0)]) hx hb dL_tick_112 hl (by decide) rfl (fun ls hl => ?_)
  refine lv_iload hx hb dL_tick_114 (lv_at hl 5 rfl) ?_
  refine lv_if_le (tgt := 139) hx hb dL_tick_116 (by decide) (fun c_116 => absurd (Int32.lt_of_lt_of_le (by decide) (Int32.not_lt.mp h7)) (Int32.not_lt.mpr c_116)) (fun c_116 => ?_)
  refine lv_iload_n hx hb dL_tick_119 rfl (lv_at hl 13 rfl) ?_
  refine lv_if_ne (tgt := 139) hx hb dL_tick_120 (by decide) (fun h9 => absurd (by decide) h9) (fun _ => ?_)
  refine lv_iload hx hb dL_tick_123 (lv_at hl 4 rfl) ?_
  refine lv_iconst (v := 1) hx hb dL_tick_125 (by decide) ?_
  refine lv_iadd hx hb dL_tick_126 ?_
  refine lv_aload_n hx hb dL_tick_127 rfl (lv_at hl 12 rfl) ?_
  refine lv_iconst (v := 4) hx hb dL_tick_128 (by decide) ?_
  refine lr_i (rL (rest := [.int ((g 11) + 1)]) ⟨hx, hb, hml, hown, hts⟩ (LB_number l G cA A o (u, v, f, g, L) n K ch 4 ) (cwV 1 hts gL_tick_X8_number rfl rfl rfl mdX8_number ⟨Nat.le_of_ble_eq_true rfl, Nat.le_of_ble_eq_true rfl⟩) hA hL rfl hl rfl (Nat.le_of_ble_eq_true rfl) dL_tick_129 ⟨Nat.le_of_ble_eq_true rfl, Nat.le_of_ble_eq_true rfl⟩) hA hL (fun r_129 H locs hr_129 hA hL => ?_)
  replace hr_129 : r_129 = v 4 := hr_129
  subst hr_129
  refine lv_icmp_lt (tgt := 139) hx hb dL_tick_132 (by decide) (fun c_132 => absurd c_132 hc) (fun c_132 => ?_)
  refine lv_iconst (v := 1) hx hb dL_tick_135 (by decide) ?_
  refine lv_goto (tgt := 140) hx hb dL_tick_136 (by decide) ?_
  refine lv_istore (lv' := [(14, .int 1), (13, .int (cnF g (nI n) (nI K) ((bestK u g) + 1))), (12, .float ((goF u v f g 0) 7)), (11, .int (bestK u g)), (10, .int (oneF (g 12))), (9, .int (g 11)), (8, .int (g 7)), (7, .int (oneF (g 17))), (6, .int 0), (5, .int (g 14)), (4, .int (g 16)), (3, .float (f 7)), (2, .int 2), (0, .ref o), (1, .int 0)]) hx hb dL_tick_140 hl (by decide) rfl (fun ls hl => ?_)
  refine lv_iload hx hb dL_tick_142 (lv_at hl 10 rfl) ?_
  refine lv_iload hx hb dL_tick_144 (lv_at hl 0 rfl) ?_
  refine lv_if_eq (tgt := 169) hx hb dL_tick_146 (by decide) (fun h9 => absurd h9 (by decide)) (fun _ => ?_)
  refine lv_iload hx hb dL_tick_149 (lv_at hl 3 rfl) ?_
  refine lv_if_ne (tgt := 169) hx hb dL_tick_151 (by decide) (fun c_151 => ?_) (fun c_151 => ?_)
  · skip
    refine lv_iconst (v := 0) hx hb dL_tick_169 (by decide) ?_
    refine lv_isub hx hb dL_tick_170 ?_
    refine W.eq (g2 := F0 m 171 ls [.int (preG u v g 0 16)]) (by rw [hp16, if_neg c_151, Int32.sub_zero]) ?_
    refine lv_istore (lv' := [(4, .int (preG u v g 0 16)), (14, .int 1), (13, .int (cnF g (nI n) (nI K) ((bestK u g) + 1))), (12, .float ((goF u v f g 0) 7)), (11, .int (bestK u g)), (10, .int (oneF (g 12))), (9, .int (g 11)), (8, .int (g 7)), (7, .int (oneF (g 17))), (6, .int 0), (5, .int (g 14)), (3, .float (f 7)), (2, .int 2), (0, .ref o), (1, .int 0)]) hx hb dL_tick_171 hl (by decide) rfl (fun ls hl => ?_)
    refine lv_iload_n hx hb dL_tick_173 rfl (lv_at hl 12 rfl) ?_
    refine lv_istore (lv' := [(15, .int 2), (4, .int (preG u v g 0 16)), (14, .int 1), (13, .int (cnF g (nI n) (nI K) ((bestK u g) + 1))), (12, .float ((goF u v f g 0) 7)), (11, .int (bestK u g)), (10, .int (oneF (g 12))), (9, .int (g 11)), (8, .int (g 7)), (7, .int (oneF (g 17))), (6, .int 0), (5, .int (g 14)), (3, .float (f 7)), (2, .int 2), (0, .ref o), (1, .int 0)]) hx hb dL_tick_174 hl (by decide) rfl (fun ls hl => ?_)
    refine lv_fload_n hx hb dL_tick_176 rfl (lv_at hl 12 rfl) ?_
    refine lv_fstore (lv' := [(16, .float (f 7)), (15, .int 2), (4, .int (preG u v g 0 16)), (14, .int 1), (13, .int (cnF g (nI n) (nI K) ((bestK u g) + 1))), (12, .float ((goF u v f g 0) 7)), (11, .int (bestK u g)), (10, .int (oneF (g 12))), (9, .int (g 11)), (8, .int (g 7)), (7, .int (oneF (g 17))), (6, .int 0), (5, .int (g 14)), (3, .float (f 7)), (2, .int 2), (0, .ref o), (1, .int 0)]) hx hb dL_tick_177 hl (by decide) rfl (fun ls hl => ?_)
    refine lv_iload_n hx hb dL_tick_179 rfl (lv_at hl 14 rfl) ?_
    refine lv_iconst (v := 1) hx hb dL_tick_180 (by decide) ?_
    refine lv_icmp_ne (tgt := 228) hx hb dL_tick_181 (by decide) (fun _ => ?_) (fun h9 => absurd h9 (by decide))
    refine lv_iload_n hx hb dL_tick_228 rfl (lv_at hl 14 rfl) ?_
    refine lv_iconst (v := 2) hx hb dL_tick_229 (by decide) ?_
    refine lv_icmp_ne (tgt := 264) hx hb dL_tick_230 (by decide) (fun h9 => absurd (by decide) h9) (fun _ => ?_)
    refine lv_iload_n hx hb dL_tick_233 rfl (lv_at hl 16 rfl) ?_
    refine lv_if_ne (tgt := 258) hx hb dL_tick_234 (by decide) (fun h9 => absurd (by decide) h9) (fun _ => ?_)
    refine lv_iload hx hb dL_tick_237 (lv_at hl 12 rfl) ?_
    refine lv_iconst (v := 1) hx hb dL_tick_239 (by decide) ?_
    refine lv_iadd hx hb dL_tick_240 ?_
    refine lv_aload_n hx hb dL_tick_241 rfl (lv_at hl 15 rfl) ?_
    refine lv_iconst (v := 0) hx hb dL_tick_242 (by decide) ?_
    refine lr_i (rL (rest := [.int ((g 14) + 1)]) ⟨hx, hb, hml, hown, hts⟩ (LB_number l G cA A o (u, v, f, g, L) n K ch 0 ) (cwV 1 hts gL_tick_X8_number rfl rfl rfl mdX8_number ⟨Nat.le_of_ble_eq_true rfl, Nat.le_of_ble_eq_true rfl⟩) hA hL rfl hl rfl (Nat.le_of_ble_eq_true rfl) dL_tick_243 ⟨Nat.le_of_ble_eq_true rfl, Nat.le_of_ble_eq_true rfl⟩) hA hL (fun r_243 H locs hr_243 hA hL => ?_)
    replace hr_243 : r_243 = v 0 := hr_243
    subst hr_243
    refine lv_icmp_lt (tgt := 258) hx hb dL_tick_246 (by decide) (fun c_246 => ?_) (fun c_246 => ?_)
    · skip
      refine lv_iconst (v := 2) hx hb dL_tick_258 (by decide) ?_
      refine lv_istore (lv' := [(15, .int 2), (16, .float (f 7)), (4, .int (preG u v g 0 16)), (14, .int 1), (13, .int (cnF g (nI n) (nI K) ((bestK u g) + 1))), (12, .float ((goF u v f g 0) 7)), (11, .int (bestK u g)), (10, .int (oneF (g 12))), (9, .int (g 11)), (8, .int (g 7)), (7, .int (oneF (g 17))), (6, .int 0), (5, .int (g 14)), (3, .float (f 7)), (2, .int 2), (0, .ref o), (1, .int 0)]) hx hb dL_tick_259 hl (by decide) rfl (fun ls hl => ?_)
      refine lv_goto (tgt := 385) hx hb dL_tick_261 (by decide) ?_
      refine lv_iload_n hx hb dL_tick_385 rfl (lv_at hl 14 rfl) ?_
      refine lv_iconst (v := 3) hx hb dL_tick_386 (by decide) ?_
      refine lv_icmp_ne (tgt := 400) hx hb dL_tick_387 (by decide) (fun _ => ?_) (fun h9 => absurd h9 (by decide))
      refine lv_iconst (v := 0) hx hb dL_tick_400 (by decide) ?_
      refine lv_istore (lv' := [(17, .int 0), (15, .int 2), (16, .float (f 7)), (4, .int (preG u v g 0 16)), (14, .int 1), (13, .int (cnF g (nI n) (nI K) ((bestK u g) + 1))), (12, .float ((goF u v f g 0) 7)), (11, .int (bestK u g)), (10, .int (oneF (g 12))), (9, .int (g 11)), (8, .int (g 7)), (7, .int (oneF (g 17))), (6, .int 0), (5, .int (g 14)), (3, .float (f 7)), (2, .int 2), (0, .ref o), (1, .int 0)]) hx hb dL_tick_401 hl (by decide) rfl (fun ls hl => ?_)
      refine lv_iload hx hb dL_tick_403 (lv_at hl 0 rfl) ?_
      refine lv_if_eq (tgt := 428) hx hb dL_tick_405 (by decide) (fun _ => ?_) (fun h9 => absurd (by decide) h9)
      refine lv_iconst (v := 0) hx hb dL_tick_428 (by decide) ?_
      refine lv_istore (lv' := [(18, .int 0), (17, .int 0), (15, .int 2), (16, .float (f 7)), (4, .int (preG u v g 0 16)), (14, .int 1), (13, .int (cnF g (nI n) (nI K) ((bestK u g) + 1))), (12, .float ((goF u v f g 0) 7)), (11, .int (bestK u g)), (10, .int (oneF (g 12))), (9, .int (g 11)), (8, .int (g 7)), (7, .int (oneF (g 17))), (6, .int 0), (5, .int (g 14)), (3, .float (f 7)), (2, .int 2), (0, .ref o), (1, .int 0)]) hx hb dL_tick_429 hl (by decide) rfl (fun ls hl => ?_)
      refine lv_aload_n hx hb dL_tick_431 rfl (lv_at hl 17 rfl) ?_
      refine lv_iload_n hx hb dL_tick_432 rfl (lv_at hl 18 rfl) ?_
      refine lv_iconst (v := 1) hx hb dL_tick_433 (by decide) ?_
      refine lw_i (rL (rest := []) ⟨hx, hb, hml, hown, hts⟩ (LB_pass_ok l G cA A o (u, v, f, g, L) n K ch hn 0 1 (by decide) (by decide) (by decide) (by decide) hT hG1 hBo) (cwV 2 hts gL_tick_X8_pass rfl rfl rfl mdX8_pass ⟨Nat.le_of_ble_eq_true rfl, Nat.le_of_ble_eq_true rfl⟩) hA hL rfl hl rfl (Nat.le_of_ble_eq_true rfl) dL_tick_434 ⟨Nat.le_of_ble_eq_true rfl, Nat.le_of_ble_eq_true rfl⟩) hA (fun r_434 _ H locs hr_434 hA hL => ?_)
      replace hL : LB G cA A o (u, v, (goF u v f g 0), (goG u v f g 0), (goL u v g L 0)) (recN n) K ch H := hL
      replace hr_434 : r_434 = (goG u v f g 0) 13 := hr_434
      subst hr_434
      refine lv_iload hx hb dL_tick_437 (lv_at hl 2 rfl) ?_
      refine lv_icmp_ne (tgt := 489) hx hb dL_tick_439 (by decide) (fun c_439 => absurd (ht.1.trans (if_pos c_246)) c_439) (fun c_439 => ?_)
      refine lv_aload_n hx hb dL_tick_442 rfl (lv_at hl 17 rfl) ?_
      refine lr_f (rL (rest := []) ⟨hx, hb, hml, hown, hts⟩ (LB_place l G cA A o (u, v, (goF u v f g 0), (goG u v f g 0), (goL u v g L 0)) (recN n) K ch  ) (cwV 0 hts gL_tick_X8_place rfl rfl rfl mdX8_place ⟨Nat.le_of_ble_eq_true rfl, Nat.le_of_ble_eq_true rfl⟩) hA hL rfl hl rfl (Nat.le_of_ble_eq_true rfl) dL_tick_443 ⟨Nat.le_of_ble_eq_true rfl, Nat.le_of_ble_eq_true rfl⟩) hA hL (fun r_443 H locs hr_443 hA hL => ?_)
      replace hr_443 : r_443 = (goF u v f g 0) 7 := hr_443
      subst hr_443
      refine lv_fload hx hb dL_tick_446 (lv_at hl 3 rfl) ?_
      refine lv_fcmp hx hb dL_tick_448 ?_
      refine lv_if_ne (tgt := 489) hx hb dL_tick_449 (by decide) (fun c_449 => absurd (by rw [ht.2.2.2]; exact cmp_self (of_vf hf) _) c_449) (fun c_449 => ?_)
      refine lv_fload hx hb dL_tick_452 (lv_at hl 7 rfl) ?_
      refine lv_fload hx hb dL_tick_454 (lv_at hl 3 rfl) ?_
      refine lv_fcmp hx hb dL_tick_456 ?_
      refine lv_if_ne (tgt := 489) hx hb dL_tick_457 (by decide) (fun c_457 => absurd (by rw [ht.2.2.2]; exact cmp_self (of_vf hf) _) c_457) (fun c_457 => ?_)
      refine lv_aload_n hx hb dL_tick_460 rfl (lv_at hl 17 rfl) ?_
      refine lv_iconst (v := 1) hx hb dL_tick_461 (by decide) ?_
      refine lr_i (rL (rest := []) ⟨hx, hb, hml, hown, hts⟩ (LB_door l G cA A o (u, v, (goF u v f g 0), (goG u v f g 0), (goL u v g L 0)) (recN n) K ch 1 ) (cwV 1 hts gL_tick_X8_door rfl rfl rfl mdX8_door ⟨Nat.le_of_ble_eq_true rfl, Nat.le_of_ble_eq_true rfl⟩) hA hL rfl hl rfl (Nat.le_of_ble_eq_true rfl) dL_tick_462 ⟨Nat.le_of_ble_eq_true rfl, Nat.le_of_ble_eq_true rfl⟩) hA hL (fun r_462 H locs hr_462 hA hL => ?_)
      replace hr_462 : r_462 = (goG u v f g 0) 16 := hr_462
      subst hr_462
      refine lv_iload hx hb dL_tick_465 (lv_at hl 4 rfl) ?_
      refine lv_icmp_ne (tgt := 489) hx hb dL_tick_467 (by decide) (fun c_467 => absurd ht.2.1 c_467) (fun c_467 => ?_)
      refine lv_aload_n hx hb dL_tick_470 rfl (lv_at hl 17 rfl) ?_
      refine lv_iconst (v := 2) hx hb dL_tick_471 (by decide) ?_
      refine lr_i (rL (rest := []) ⟨hx, hb, hml, hown, hts⟩ (LB_door l G cA A o (u, v, (goF u v f g 0), (goG u v f g 0), (goL u v g L 0)) (recN n) K ch 2 ) (cwV 1 hts gL_tick_X8_door rfl rfl rfl mdX8_door ⟨Nat.le_of_ble_eq_true rfl, Nat.le_of_ble_eq_true rfl⟩) hA hL rfl hl rfl (Nat.le_of_ble_eq_true rfl) dL_tick_472 ⟨Nat.le_of_ble_eq_true rfl, Nat.le_of_ble_eq_true rfl⟩) hA hL (fun r_472 H locs hr_472 hA hL => ?_)
      replace hr_472 : r_472 = oneF ((goG u v f g 0) 17) := hr_472
      subst hr_472
      refine lv_iload hx hb dL_tick_475 (lv_at hl 0 rfl) ?_
      refine lv_if_eq (tgt := 484) hx hb dL_tick_477 (by decide) (fun _ => ?_) (fun h9 => absurd (by decide) h9)
      refine lv_iload hx hb dL_tick_484 (lv_at hl 12 rfl) ?_
      refine lv_icmp_eq (tgt := 491) hx hb dL_tick_486 (by decide) (fun c_486 => ?_) (fun c_486 => absurd (by rw [ht.2.2.1] <;> rfl) c_486)
      refine lv_iload hx hb dL_tick_491 (lv_at hl 5 rfl) ?_
      refine lv_if_eq (tgt := 554) hx hb dL_tick_493 (by decide) (fun h9 => absurd h9 (by decide)) (fun _ => ?_)
      refine lv_aload_n hx hb dL_tick_496 rfl (lv_at hl 17 rfl) ?_
      refine lv_iconst (v := 0) hx hb dL_tick_497 (by decide) ?_
      refine lr_i (rL (rest := []) ⟨hx, hb, hml, hown, hts⟩ (LB_thing l G cA A o (u, v, (goF u v f g 0), (goG u v f g 0), (goL u v g L 0)) (recN n) K ch 0 hP2) (cwV 1 hts gL_tick_X8_thing rfl rfl rfl mdX8_thing ⟨Nat.le_of_ble_eq_true rfl, Nat.le_of_ble_eq_true rfl⟩) hA hL rfl hl rfl (Nat.le_of_ble_eq_true rfl) dL_tick_498 ⟨Nat.le_of_ble_eq_true rfl, Nat.le_of_ble_eq_true rfl⟩) hA hL (fun r_498 H locs hr_498 hA hL => ?_)
      replace hr_498 : r_498 = -5 := hr_498.trans (th_none 0 (by decide) (by decide) h5)
      subst hr_498
      refine lv_bipush (v := (-5)) hx hb dL_tick_501 (by decide) ?_
      refine lv_icmp_ne (tgt := 552) hx hb dL_tick_503 (by decide) (fun h9 => absurd (by decide) h9) (fun _ => ?_)
      refine lv_aload_n hx hb dL_tick_506 rfl (lv_at hl 17 rfl) ?_
      refine lv_iconst (v := 0) hx hb dL_tick_507 (by decide) ?_
      refine lv_iconst (v := 0) hx hb dL_tick_508 (by decide) ?_
      refine lr_i (rL (rest := []) ⟨hx, hb, hml, hown, hts⟩ (LB_judged l G cA A o (u, v, (goF u v f g 0), (goG u v f g 0), (goL u v g L 0)) (recN n) K ch 0 0 ) (cwV 2 hts gL_tick_X8_judged rfl rfl rfl mdX8_judged ⟨Nat.le_of_ble_eq_true rfl, Nat.le_of_ble_eq_true rfl⟩) hA hL rfl hl rfl (Nat.le_of_ble_eq_true rfl) dL_tick_509 ⟨Nat.le_of_ble_eq_true rfl, Nat.le_of_ble_eq_true rfl⟩) hA hL (fun r_509 H locs hr_509 hA hL => ?_)
      replace hr_509 : r_509 = bestK u g := hr_509.trans hju.1
      subst hr_509
      refine lv_iload hx hb dL_tick_512 (lv_at hl 8 rfl) ?_
      refine lv_icmp_ne (tgt := 552) hx hb dL_tick_514 (by decide) (fun c_514 => absurd rfl c_514) (fun c_514 => ?_)
      refine lv_aload_n hx hb dL_tick_517 rfl (lv_at hl 17 rfl) ?_
      refine lv_iload hx hb dL_tick_518 (lv_at hl 8 rfl) ?_
      refine lv_iconst (v := 1) hx hb dL_tick_520 (by decide) ?_
      refine lv_iadd hx hb dL_tick_521 ?_
      refine lr_i (rL (rest := []) ⟨hx, hb, hml, hown, hts⟩ (LB_count l G cA A o (u, v, (goF u v f g 0), (goG u v f g 0), (goL u v g L 0)) (recN n) K ch ((bestK u g) + 1)) (cwV 1 hts gL_tick_X8_count rfl rfl rfl mdX8_count ⟨Nat.le_of_ble_eq_true rfl, Nat.le_of_ble_eq_true rfl⟩) hA hL rfl hl rfl (Nat.le_of_ble_eq_true rfl) dL_tick_522 ⟨Nat.le_of_ble_eq_true rfl, Nat.le_of_ble_eq_true rfl⟩) hA hL (fun r_522 H locs hr_522 hA hL => ?_)
      replace hr_522 : r_522 = cnF (goG u v f g 0) (nI (recN n)) (nI K) ((bestK u g) + 1) := hr_522
      subst hr_522
      refine lv_iload hx hb dL_tick_525 (lv_at hl 6 rfl) ?_
      refine lv_iconst (v := 1) hx hb dL_tick_527 (by decide) ?_
      refine lv_iadd hx hb dL_tick_528 ?_
      refine lv_icmp_ne (tgt := 552) hx hb dL_tick_529 (by decide) (fun c_529 => absurd hcn c_529) (fun c_529 => ?_)
      refine lv_aload_n hx hb dL_tick_532 rfl (lv_at hl 17 rfl) ?_
      refine lv_iconst (v := 0) hx hb dL_tick_533 (by decide) ?_
      refine lv_iconst (v := 4) hx hb dL_tick_534 (by decide) ?_
      refine lr_i (rL (rest := []) ⟨hx, hb, hml, hown, hts⟩ (LB_judged l G cA A o (u, v, (goF u v f g 0), (goG u v f g 0), (goL u v g L 0)) (recN n) K ch 0 4 ) (cwV 2 hts gL_tick_X8_judged rfl rfl rfl mdX8_judged ⟨Nat.le_of_ble_eq_true rfl, Nat.le_of_ble_eq_true rfl⟩) hA hL rfl hl rfl (Nat.le_of_ble_eq_true rfl) dL_tick_535 ⟨Nat.le_of_ble_eq_true rfl, Nat.le_of_ble_eq_true rfl⟩) hA hL (fun r_535 H locs hr_535 hA hL => ?_)
      replace hr_535 : r_535 = (goG u v f g 0) 27 - 1 := hr_535.trans hju.2
      subst hr_535
      refine lv_aload_n hx hb dL_tick_538 rfl (lv_at hl 17 rfl) ?_
      refine lv_iconst (v := 0) hx hb dL_tick_539 (by decide) ?_
      refine lr_i (rL (rest := [.int ((goG u v f g 0) 27 - 1)]) ⟨hx, hb, hml, hown, hts⟩ (LB_count l G cA A o (u, v, (goF u v f g 0), (goG u v f g 0), (goL u v g L 0)) (recN n) K ch 0) (cwV 1 hts gL_tick_X8_count rfl rfl rfl mdX8_count ⟨Nat.le_of_ble_eq_true rfl, Nat.le_of_ble_eq_true rfl⟩) hA hL rfl hl rfl (Nat.le_of_ble_eq_true rfl) dL_tick_540 ⟨Nat.le_of_ble_eq_true rfl, Nat.le_of_ble_eq_true rfl⟩) hA hL (fun r_540 H locs hr_540 hA hL => ?_)
      replace hr_540 : r_540 = (goG u v f g 0) 27 := hr_540
      subst hr_540
      refine lv_iconst (v := 1) hx hb dL_tick_543 (by decide) ?_
      refine lv_isub hx hb dL_tick_544 ?_
      refine lv_icmp_ne (tgt := 552) hx hb dL_tick_545 (by decide) (fun c_545 => absurd rfl c_545) (fun c_545 => ?_)
      refine lv_iconst (v := 1) hx hb dL_tick_548 (by decide) ?_
      refine lv_goto (tgt := 553) hx hb dL_tick_549 (by decide) ?_
      exact en_l (post := fun r (_ : Unit) => r = 1) (B := fun _ H => LB G cA A o (u, v, (goF u v f g 0), (goG u v f g 0), (goL u v g L 0)) (recN n) K ch H) () hx hb hr hlocks hA rfl hL dL_tick_553
    · skip
      refine lv_iload hx hb dL_tick_249 (lv_at hl 10 rfl) ?_
      refine lv_if_ne (tgt := 258) hx hb dL_tick_251 (by decide) (fun c_251 => ?_) (fun c_251 => ?_)
      · skip
        refine lv_iconst (v := 2) hx hb dL_tick_258 (by decide) ?_
        refine lv_istore (lv' := [(15, .int 2), (16, .float (f 7)), (4, .int (preG u v g 0 16)), (14, .int 1), (13, .int (cnF g (nI n) (nI K) ((bestK u g) + 1))), (12, .float ((goF u v f g 0) 7)), (11, .int (bestK u g)), (10, .int (oneF (g 12))), (9, .int (g 11)), (8, .int (g 7)), (7, .int (oneF (g 17))), (6, .int 0), (5, .int (g 14)), (3, .float (f 7)), (2, .int 2), (0, .ref o), (1, .int 0)]) hx hb dL_tick_259 hl (by decide) rfl (fun ls hl => ?_)
        refine lv_goto (tgt := 385) hx hb dL_tick_261 (by decide) ?_
        refine lv_iload_n hx hb dL_tick_385 rfl (lv_at hl 14 rfl) ?_
        refine lv_iconst (v := 3) hx hb dL_tick_386 (by decide) ?_
        refine lv_icmp_ne (tgt := 400) hx hb dL_tick_387 (by decide) (fun _ => ?_) (fun h9 => absurd h9 (by decide))
        refine lv_iconst (v := 0) hx hb dL_tick_400 (by decide) ?_
        refine lv_istore (lv' := [(17, .int 0), (15, .int 2), (16, .float (f 7)), (4, .int (preG u v g 0 16)), (14, .int 1), (13, .int (cnF g (nI n) (nI K) ((bestK u g) + 1))), (12, .float ((goF u v f g 0) 7)), (11, .int (bestK u g)), (10, .int (oneF (g 12))), (9, .int (g 11)), (8, .int (g 7)), (7, .int (oneF (g 17))), (6, .int 0), (5, .int (g 14)), (3, .float (f 7)), (2, .int 2), (0, .ref o), (1, .int 0)]) hx hb dL_tick_401 hl (by decide) rfl (fun ls hl => ?_)
        refine lv_iload hx hb dL_tick_403 (lv_at hl 0 rfl) ?_
        refine lv_if_eq (tgt := 428) hx hb dL_tick_405 (by decide) (fun _ => ?_) (fun h9 => absurd (by decide) h9)
        refine lv_iconst (v := 0) hx hb dL_tick_428 (by decide) ?_
        refine lv_istore (lv' := [(18, .int 0), (17, .int 0), (15, .int 2), (16, .float (f 7)), (4, .int (preG u v g 0 16)), (14, .int 1), (13, .int (cnF g (nI n) (nI K) ((bestK u g) + 1))), (12, .float ((goF u v f g 0) 7)), (11, .int (bestK u g)), (10, .int (oneF (g 12))), (9, .int (g 11)), (8, .int (g 7)), (7, .int (oneF (g 17))), (6, .int 0), (5, .int (g 14)), (3, .float (f 7)), (2, .int 2), (0, .ref o), (1, .int 0)]) hx hb dL_tick_429 hl (by decide) rfl (fun ls hl => ?_)
        refine lv_aload_n hx hb dL_tick_431 rfl (lv_at hl 17 rfl) ?_
        refine lv_iload_n hx hb dL_tick_432 rfl (lv_at hl 18 rfl) ?_
        refine lv_iconst (v := 1) hx hb dL_tick_433 (by decide) ?_
        refine lw_i (rL (rest := []) ⟨hx, hb, hml, hown, hts⟩ (LB_pass_ok l G cA A o (u, v, f, g, L) n K ch hn 0 1 (by decide) (by decide) (by decide) (by decide) hT hG1 hBo) (cwV 2 hts gL_tick_X8_pass rfl rfl rfl mdX8_pass ⟨Nat.le_of_ble_eq_true rfl, Nat.le_of_ble_eq_true rfl⟩) hA hL rfl hl rfl (Nat.le_of_ble_eq_true rfl) dL_tick_434 ⟨Nat.le_of_ble_eq_true rfl, Nat.le_of_ble_eq_true rfl⟩) hA (fun r_434_1 _ H locs hr_434_1 hA hL => ?_)
        replace hL : LB G cA A o (u, v, (goF u v f g 0), (goG u v f g 0), (goL u v g L 0)) (recN n) K ch H := hL
        replace hr_434_1 : r_434_1 = (goG u v f g 0) 13 := hr_434_1
        subst hr_434_1
        refine lv_iload hx hb dL_tick_437 (lv_at hl 2 rfl) ?_
        refine lv_icmp_ne (tgt := 489) hx hb dL_tick_439 (by decide) (fun c_439_1 => absurd (ht.1.trans ((if_neg c_246).trans (if_neg (one_nz c_251)))) c_439_1) (fun c_439_1 => ?_)
        refine lv_aload_n hx hb dL_tick_442 rfl (lv_at hl 17 rfl) ?_
        refine lr_f (rL (rest := []) ⟨hx, hb, hml, hown, hts⟩ (LB_place l G cA A o (u, v, (goF u v f g 0), (goG u v f g 0), (goL u v g L 0)) (recN n) K ch  ) (cwV 0 hts gL_tick_X8_place rfl rfl rfl mdX8_place ⟨Nat.le_of_ble_eq_true rfl, Nat.le_of_ble_eq_true rfl⟩) hA hL rfl hl rfl (Nat.le_of_ble_eq_true rfl) dL_tick_443 ⟨Nat.le_of_ble_eq_true rfl, Nat.le_of_ble_eq_true rfl⟩) hA hL (fun r_443_1 H locs hr_443_1 hA hL => ?_)
        replace hr_443_1 : r_443_1 = (goF u v f g 0) 7 := hr_443_1
        subst hr_443_1
        refine lv_fload hx hb dL_tick_446 (lv_at hl 3 rfl) ?_
        refine lv_fcmp hx hb dL_tick_448 ?_
        refine lv_if_ne (tgt := 489) hx hb dL_tick_449 (by decide) (fun c_449_1 => absurd (by rw [ht.2.2.2]; exact cmp_self (of_vf hf) _) c_449_1) (fun c_449_1 => ?_)
        refine lv_fload hx hb dL_tick_452 (lv_at hl 7 rfl) ?_
        refine lv_fload hx hb dL_tick_454 (lv_at hl 3 rfl) ?_
        refine lv_fcmp hx hb dL_tick_456 ?_
        refine lv_if_ne (tgt := 489) hx hb dL_tick_457 (by decide) (fun c_457_1 => absurd (by rw [ht.2.2.2]; exact cmp_self (of_vf hf) _) c_457_1) (fun c_457_1 => ?_)
        refine lv_aload_n hx hb dL_tick_460 rfl (lv_at hl 17 rfl) ?_
        refine lv_iconst (v := 1) hx hb dL_tick_461 (by decide) ?_
        refine lr_i (rL (rest := []) ⟨hx, hb, hml, hown, hts⟩ (LB_door l G cA A o (u, v, (goF u v f g 0), (goG u v f g 0), (goL u v g L 0)) (recN n) K ch 1 ) (cwV 1 hts gL_tick_X8_door rfl rfl rfl mdX8_door ⟨Nat.le_of_ble_eq_true rfl, Nat.le_of_ble_eq_true rfl⟩) hA hL rfl hl rfl (Nat.le_of_ble_eq_true rfl) dL_tick_462 ⟨Nat.le_of_ble_eq_true rfl, Nat.le_of_ble_eq_true rfl⟩) hA hL (fun r_462_1 H locs hr_462_1 hA hL => ?_)
        replace hr_462_1 : r_462_1 = (goG u v f g 0) 16 := hr_462_1
        subst hr_462_1
        refine lv_iload hx hb dL_tick_465 (lv_at hl 4 rfl) ?_
        refine lv_icmp_ne (tgt := 489) hx hb dL_tick_467 (by decide) (fun c_467_1 => absurd ht.2.1 c_467_1) (fun c_467_1 => ?_)
        refine lv_aload_n hx hb dL_tick_470 rfl (lv_at hl 17 rfl) ?_
        refine lv_iconst (v := 2) hx hb dL_tick_471 (by decide) ?_
        refine lr_i (rL (rest := []) ⟨hx, hb, hml, hown, hts⟩ (LB_door l G cA A o (u, v, (goF u v f g 0), (goG u v f g 0), (goL u v g L 0)) (recN n) K ch 2 ) (cwV 1 hts gL_tick_X8_door rfl rfl rfl mdX8_door ⟨Nat.le_of_ble_eq_true rfl, Nat.le_of_ble_eq_true rfl⟩) hA hL rfl hl rfl (Nat.le_of_ble_eq_true rfl) dL_tick_472 ⟨Nat.le_of_ble_eq_true rfl, Nat.le_of_ble_eq_true rfl⟩) hA hL (fun r_472_1 H locs hr_472_1 hA hL => ?_)
        replace hr_472_1 : r_472_1 = oneF ((goG u v f g 0) 17) := hr_472_1
        subst hr_472_1
        refine lv_iload hx hb dL_tick_475 (lv_at hl 0 rfl) ?_
        refine lv_if_eq (tgt := 484) hx hb dL_tick_477 (by decide) (fun _ => ?_) (fun h9 => absurd (by decide) h9)
        refine lv_iload hx hb dL_tick_484 (lv_at hl 12 rfl) ?_
        refine lv_icmp_eq (tgt := 491) hx hb dL_tick_486 (by decide) (fun c_486_1 => ?_) (fun c_486_1 => absurd (by rw [ht.2.2.1] <;> rfl) c_486_1)
        refine lv_iload hx hb dL_tick_491 (lv_at hl 5 rfl) ?_
        refine lv_if_eq (tgt := 554) hx hb dL_tick_493 (by decide) (fun h9 => absurd h9 (by decide)) (fun _ => ?_)
        refine lv_aload_n hx hb dL_tick_496 rfl (lv_at hl 17 rfl) ?_
        refine lv_iconst (v := 0) hx hb dL_tick_497 (by decide) ?_
        refine lr_i (rL (rest := []) ⟨hx, hb, hml, hown, hts⟩ (LB_thing l G cA A o (u, v, (goF u v f g 0), (goG u v f g 0), (goL u v g L 0)) (recN n) K ch 0 hP2) (cwV 1 hts gL_tick_X8_thing rfl rfl rfl mdX8_thing ⟨Nat.le_of_ble_eq_true rfl, Nat.le_of_ble_eq_true rfl⟩) hA hL rfl hl rfl (Nat.le_of_ble_eq_true rfl) dL_tick_498 ⟨Nat.le_of_ble_eq_true rfl, Nat.le_of_ble_eq_true rfl⟩) hA hL (fun r_498_1 H locs hr_498_1 hA hL => ?_)
        replace hr_498_1 : r_498_1 = -5 := hr_498_1.trans (th_none 0 (by decide) (by decide) h5)
        subst hr_498_1
        refine lv_bipush (v := (-5)) hx hb dL_tick_501 (by decide) ?_
        refine lv_icmp_ne (tgt := 552) hx hb dL_tick_503 (by decide) (fun h9 => absurd (by decide) h9) (fun _ => ?_)
        refine lv_aload_n hx hb dL_tick_506 rfl (lv_at hl 17 rfl) ?_
        refine lv_iconst (v := 0) hx hb dL_tick_507 (by decide) ?_
        refine lv_iconst (v := 0) hx hb dL_tick_508 (by decide) ?_
        refine lr_i (rL (rest := []) ⟨hx, hb, hml, hown, hts⟩ (LB_judged l G cA A o (u, v, (goF u v f g 0), (goG u v f g 0), (goL u v g L 0)) (recN n) K ch 0 0 ) (cwV 2 hts gL_tick_X8_judged rfl rfl rfl mdX8_judged ⟨Nat.le_of_ble_eq_true rfl, Nat.le_of_ble_eq_true rfl⟩) hA hL rfl hl rfl (Nat.le_of_ble_eq_true rfl) dL_tick_509 ⟨Nat.le_of_ble_eq_true rfl, Nat.le_of_ble_eq_true rfl⟩) hA hL (fun r_509_1 H locs hr_509_1 hA hL => ?_)
        replace hr_509_1 : r_509_1 = bestK u g := hr_509_1.trans hju.1
        subst hr_509_1
        refine lv_iload hx hb dL_tick_512 (lv_at hl 8 rfl) ?_
        refine lv_icmp_ne (tgt := 552) hx hb dL_tick_514 (by decide) (fun c_514_1 => absurd rfl c_514_1) (fun c_514_1 => ?_)
        refine lv_aload_n hx hb dL_tick_517 rfl (lv_at hl 17 rfl) ?_
        refine lv_iload hx hb dL_tick_518 (lv_at hl 8 rfl) ?_
        refine lv_iconst (v := 1) hx hb dL_tick_520 (by decide) ?_
        refine lv_iadd hx hb dL_tick_521 ?_
        refine lr_i (rL (rest := []) ⟨hx, hb, hml, hown, hts⟩ (LB_count l G cA A o (u, v, (goF u v f g 0), (goG u v f g 0), (goL u v g L 0)) (recN n) K ch ((bestK u g) + 1)) (cwV 1 hts gL_tick_X8_count rfl rfl rfl mdX8_count ⟨Nat.le_of_ble_eq_true rfl, Nat.le_of_ble_eq_true rfl⟩) hA hL rfl hl rfl (Nat.le_of_ble_eq_true rfl) dL_tick_522 ⟨Nat.le_of_ble_eq_true rfl, Nat.le_of_ble_eq_true rfl⟩) hA hL (fun r_522_1 H locs hr_522_1 hA hL => ?_)
        replace hr_522_1 : r_522_1 = cnF (goG u v f g 0) (nI (recN n)) (nI K) ((bestK u g) + 1) := hr_522_1
        subst hr_522_1
        refine lv_iload hx hb dL_tick_525 (lv_at hl 6 rfl) ?_
        refine lv_iconst (v := 1) hx hb dL_tick_527 (by decide) ?_
        refine lv_iadd hx hb dL_tick_528 ?_
        refine lv_icmp_ne (tgt := 552) hx hb dL_tick_529 (by decide) (fun c_529_1 => absurd hcn c_529_1) (fun c_529_1 => ?_)
        refine lv_aload_n hx hb dL_tick_532 rfl (lv_at hl 17 rfl) ?_
        refine lv_iconst (v := 0) hx hb dL_tick_533 (by decide) ?_
        refine lv_iconst (v := 4) hx hb dL_tick_534 (by decide) ?_
        refine lr_i (rL (rest := []) ⟨hx, hb, hml, hown, hts⟩ (LB_judged l G cA A o (u, v, (goF u v f g 0), (goG u v f g 0), (goL u v g L 0)) (recN n) K ch 0 4 ) (cwV 2 hts gL_tick_X8_judged rfl rfl rfl mdX8_judged ⟨Nat.le_of_ble_eq_true rfl, Nat.le_of_ble_eq_true rfl⟩) hA hL rfl hl rfl (Nat.le_of_ble_eq_true rfl) dL_tick_535 ⟨Nat.le_of_ble_eq_true rfl, Nat.le_of_ble_eq_true rfl⟩) hA hL (fun r_535_1 H locs hr_535_1 hA hL => ?_)
        replace hr_535_1 : r_535_1 = (goG u v f g 0) 27 - 1 := hr_535_1.trans hju.2
        subst hr_535_1
        refine lv_aload_n hx hb dL_tick_538 rfl (lv_at hl 17 rfl) ?_
        refine lv_iconst (v := 0) hx hb dL_tick_539 (by decide) ?_
        refine lr_i (rL (rest := [.int ((goG u v f g 0) 27 - 1)]) ⟨hx, hb, hml, hown, hts⟩ (LB_count l G cA A o (u, v, (goF u v f g 0), (goG u v f g 0), (goL u v g L 0)) (recN n) K ch 0) (cwV 1 hts gL_tick_X8_count rfl rfl rfl mdX8_count ⟨Nat.le_of_ble_eq_true rfl, Nat.le_of_ble_eq_true rfl⟩) hA hL rfl hl rfl (Nat.le_of_ble_eq_true rfl) dL_tick_540 ⟨Nat.le_of_ble_eq_true rfl, Nat.le_of_ble_eq_true rfl⟩) hA hL (fun r_540_1 H locs hr_540_1 hA hL => ?_)
        replace hr_540_1 : r_540_1 = (goG u v f g 0) 27 := hr_540_1
        subst hr_540_1
        refine lv_iconst (v := 1) hx hb dL_tick_543 (by decide) ?_
        refine lv_isub hx hb dL_tick_544 ?_
        refine lv_icmp_ne (tgt := 552) hx hb dL_tick_545 (by decide) (fun c_545_1 => absurd rfl c_545_1) (fun c_545_1 => ?_)
        refine lv_iconst (v := 1) hx hb dL_tick_548 (by decide) ?_
        refine lv_goto (tgt := 553) hx hb dL_tick_549 (by decide) ?_
        exact en_l (post := fun r (_ : Unit) => r = 1) (B := fun _ H => LB G cA A o (u, v, (goF u v f g 0), (goG u v f g 0), (goL u v g L 0)) (recN n) K ch H) () hx hb hr hlocks hA rfl hL dL_tick_553
      · skip
        refine lv_iconst (v := 3) hx hb dL_tick_254 (by decide) ?_
        refine lv_goto (tgt := 259) hx hb dL_tick_255 (by decide) ?_
        refine lv_istore (lv' := [(15, .int 3), (16, .float (f 7)), (4, .int (preG u v g 0 16)), (14, .int 1), (13, .int (cnF g (nI n) (nI K) ((bestK u g) + 1))), (12, .float ((goF u v f g 0) 7)), (11, .int (bestK u g)), (10, .int (oneF (g 12))), (9, .int (g 11)), (8, .int (g 7)), (7, .int (oneF (g 17))), (6, .int 0), (5, .int (g 14)), (3, .float (f 7)), (2, .int 2), (0, .ref o), (1, .int 0)]) hx hb dL_tick_259 hl (by decide) rfl (fun ls hl => ?_)
        refine lv_goto (tgt := 385) hx hb dL_tick_261 (by decide) ?_
        refine lv_iload_n hx hb dL_tick_385 rfl (lv_at hl 14 rfl) ?_
        refine lv_iconst (v := 3) hx hb dL_tick_386 (by decide) ?_
        refine lv_icmp_ne (tgt := 400) hx hb dL_tick_387 (by decide) (fun _ => ?_) (fun h9 => absurd h9 (by decide))
        refine lv_iconst (v := 0) hx hb dL_tick_400 (by decide) ?_
        refine lv_istore (lv' := [(17, .int 0), (15, .int 3), (16, .float (f 7)), (4, .int (preG u v g 0 16)), (14, .int 1), (13, .int (cnF g (nI n) (nI K) ((bestK u g) + 1))), (12, .float ((goF u v f g 0) 7)), (11, .int (bestK u g)), (10, .int (oneF (g 12))), (9, .int (g 11)), (8, .int (g 7)), (7, .int (oneF (g 17))), (6, .int 0), (5, .int (g 14)), (3, .float (f 7)), (2, .int 2), (0, .ref o), (1, .int 0)]) hx hb dL_tick_401 hl (by decide) rfl (fun ls hl => ?_)
        refine lv_iload hx hb dL_tick_403 (lv_at hl 0 rfl) ?_
        refine lv_if_eq (tgt := 428) hx hb dL_tick_405 (by decide) (fun _ => ?_) (fun h9 => absurd (by decide) h9)
        refine lv_iconst (v := 0) hx hb dL_tick_428 (by decide) ?_
        refine lv_istore (lv' := [(18, .int 0), (17, .int 0), (15, .int 3), (16, .float (f 7)), (4, .int (preG u v g 0 16)), (14, .int 1), (13, .int (cnF g (nI n) (nI K) ((bestK u g) + 1))), (12, .float ((goF u v f g 0) 7)), (11, .int (bestK u g)), (10, .int (oneF (g 12))), (9, .int (g 11)), (8, .int (g 7)), (7, .int (oneF (g 17))), (6, .int 0), (5, .int (g 14)), (3, .float (f 7)), (2, .int 2), (0, .ref o), (1, .int 0)]) hx hb dL_tick_429 hl (by decide) rfl (fun ls hl => ?_)
        refine lv_aload_n hx hb dL_tick_431 rfl (lv_at hl 17 rfl) ?_
        refine lv_iload_n hx hb dL_tick_432 rfl (lv_at hl 18 rfl) ?_
        refine lv_iconst (v := 1) hx hb dL_tick_433 (by decide) ?_
        refine lw_i (rL (rest := []) ⟨hx, hb, hml, hown, hts⟩ (LB_pass_ok l G cA A o (u, v, f, g, L) n K ch hn 0 1 (by decide) (by decide) (by decide) (by decide) hT hG1 hBo) (cwV 2 hts gL_tick_X8_pass rfl rfl rfl mdX8_pass ⟨Nat.le_of_ble_eq_true rfl, Nat.le_of_ble_eq_true rfl⟩) hA hL rfl hl rfl (Nat.le_of_ble_eq_true rfl) dL_tick_434 ⟨Nat.le_of_ble_eq_true rfl, Nat.le_of_ble_eq_true rfl⟩) hA (fun r_434_2 _ H locs hr_434_2 hA hL => ?_)
        replace hL : LB G cA A o (u, v, (goF u v f g 0), (goG u v f g 0), (goL u v g L 0)) (recN n) K ch H := hL
        replace hr_434_2 : r_434_2 = (goG u v f g 0) 13 := hr_434_2
        subst hr_434_2
        refine lv_iload hx hb dL_tick_437 (lv_at hl 2 rfl) ?_
        refine lv_icmp_ne (tgt := 489) hx hb dL_tick_439 (by decide) (fun c_439_2 => absurd (ht.1.trans ((if_neg c_246).trans (if_pos (one_z c_251)))) c_439_2) (fun c_439_2 => ?_)
        refine lv_aload_n hx hb dL_tick_442 rfl (lv_at hl 17 rfl) ?_
        refine lr_f (rL (rest := []) ⟨hx, hb, hml, hown, hts⟩ (LB_place l G cA A o (u, v, (goF u v f g 0), (goG u v f g 0), (goL u v g L 0)) (recN n) K ch  ) (cwV 0 hts gL_tick_X8_place rfl rfl rfl mdX8_place ⟨Nat.le_of_ble_eq_true rfl, Nat.le_of_ble_eq_true rfl⟩) hA hL rfl hl rfl (Nat.le_of_ble_eq_true rfl) dL_tick_443 ⟨Nat.le_of_ble_eq_true rfl, Nat.le_of_ble_eq_true rfl⟩) hA hL (fun r_443_2 H locs hr_443_2 hA hL => ?_)
        replace hr_443_2 : r_443_2 = (goF u v f g 0) 7 := hr_443_2
        subst hr_443_2
        refine lv_fload hx hb dL_tick_446 (lv_at hl 3 rfl) ?_
        refine lv_fcmp hx hb dL_tick_448 ?_
        refine lv_if_ne (tgt := 489) hx hb dL_tick_449 (by decide) (fun c_449_2 => absurd (by rw [ht.2.2.2]; exact cmp_self (of_vf hf) _) c_449_2) (fun c_449_2 => ?_)
        refine lv_fload hx hb dL_tick_452 (lv_at hl 7 rfl) ?_
        refine lv_fload hx hb dL_tick_454 (lv_at hl 3 rfl) ?_
        refine lv_fcmp hx hb dL_tick_456 ?_
        refine lv_if_ne (tgt := 489) hx hb dL_tick_457 (by decide) (fun c_457_2 => absurd (by rw [ht.2.2.2]; exact cmp_self (of_vf hf) _) c_457_2) (fun c_457_2 => ?_)
        refine lv_aload_n hx hb dL_tick_460 rfl (lv_at hl 17 rfl) ?_
        refine lv_iconst (v := 1) hx hb dL_tick_461 (by decide) ?_
        refine lr_i (rL (rest := []) ⟨hx, hb, hml, hown, hts⟩ (LB_door l G cA A o (u, v, (goF u v f g 0), (goG u v f g 0), (goL u v g L 0)) (recN n) K ch 1 ) (cwV 1 hts gL_tick_X8_door rfl rfl rfl mdX8_door ⟨Nat.le_of_ble_eq_true rfl, Nat.le_of_ble_eq_true rfl⟩) hA hL rfl hl rfl (Nat.le_of_ble_eq_true rfl) dL_tick_462 ⟨Nat.le_of_ble_eq_true rfl, Nat.le_of_ble_eq_true rfl⟩) hA hL (fun r_462_2 H locs hr_462_2 hA hL => ?_)
        replace hr_462_2 : r_462_2 = (goG u v f g 0) 16 := hr_462_2
        subst hr_462_2
        refine lv_iload hx hb dL_tick_465 (lv_at hl 4 rfl) ?_
        refine lv_icmp_ne (tgt := 489) hx hb dL_tick_467 (by decide) (fun c_467_2 => absurd ht.2.1 c_467_2) (fun c_467_2 => ?_)
        refine lv_aload_n hx hb dL_tick_470 rfl (lv_at hl 17 rfl) ?_
        refine lv_iconst (v := 2) hx hb dL_tick_471 (by decide) ?_
        refine lr_i (rL (rest := []) ⟨hx, hb, hml, hown, hts⟩ (LB_door l G cA A o (u, v, (goF u v f g 0), (goG u v f g 0), (goL u v g L 0)) (recN n) K ch 2 ) (cwV 1 hts gL_tick_X8_door rfl rfl rfl mdX8_door ⟨Nat.le_of_ble_eq_true rfl, Nat.le_of_ble_eq_true rfl⟩) hA hL rfl hl rfl (Nat.le_of_ble_eq_true rfl) dL_tick_472 ⟨Nat.le_of_ble_eq_true rfl, Nat.le_of_ble_eq_true rfl⟩) hA hL (fun r_472_2 H locs hr_472_2 hA hL => ?_)
        replace hr_472_2 : r_472_2 = oneF ((goG u v f g 0) 17) := hr_472_2
        subst hr_472_2
        refine lv_iload hx hb dL_tick_475 (lv_at hl 0 rfl) ?_
        refine lv_if_eq (tgt := 484) hx hb dL_tick_477 (by decide) (fun _ => ?_) (fun h9 => absurd (by decide) h9)
        refine lv_iload hx hb dL_tick_484 (lv_at hl 12 rfl) ?_
        refine lv_icmp_eq (tgt := 491) hx hb dL_tick_486 (by decide) (fun c_486_2 => ?_) (fun c_486_2 => absurd (by rw [ht.2.2.1] <;> rfl) c_486_2)
        refine lv_iload hx hb dL_tick_491 (lv_at hl 5 rfl) ?_
        refine lv_if_eq (tgt := 554) hx hb dL_tick_493 (by decide) (fun h9 => absurd h9 (by decide)) (fun _ => ?_)
        refine lv_aload_n hx hb dL_tick_496 rfl (lv_at hl 17 rfl) ?_
        refine lv_iconst (v := 0) hx hb dL_tick_497 (by decide) ?_
        refine lr_i (rL (rest := []) ⟨hx, hb, hml, hown, hts⟩ (LB_thing l G cA A o (u, v, (goF u v f g 0), (goG u v f g 0), (goL u v g L 0)) (recN n) K ch 0 hP2) (cwV 1 hts gL_tick_X8_thing rfl rfl rfl mdX8_thing ⟨Nat.le_of_ble_eq_true rfl, Nat.le_of_ble_eq_true rfl⟩) hA hL rfl hl rfl (Nat.le_of_ble_eq_true rfl) dL_tick_498 ⟨Nat.le_of_ble_eq_true rfl, Nat.le_of_ble_eq_true rfl⟩) hA hL (fun r_498_2 H locs hr_498_2 hA hL => ?_)
        replace hr_498_2 : r_498_2 = -5 := hr_498_2.trans (th_none 0 (by decide) (by decide) h5)
        subst hr_498_2
        refine lv_bipush (v := (-5)) hx hb dL_tick_501 (by decide) ?_
        refine lv_icmp_ne (tgt := 552) hx hb dL_tick_503 (by decide) (fun h9 => absurd (by decide) h9) (fun _ => ?_)
        refine lv_aload_n hx hb dL_tick_506 rfl (lv_at hl 17 rfl) ?_
        refine lv_iconst (v := 0) hx hb dL_tick_507 (by decide) ?_
        refine lv_iconst (v := 0) hx hb dL_tick_508 (by decide) ?_
        refine lr_i (rL (rest := []) ⟨hx, hb, hml, hown, hts⟩ (LB_judged l G cA A o (u, v, (goF u v f g 0), (goG u v f g 0), (goL u v g L 0)) (recN n) K ch 0 0 ) (cwV 2 hts gL_tick_X8_judged rfl rfl rfl mdX8_judged ⟨Nat.le_of_ble_eq_true rfl, Nat.le_of_ble_eq_true rfl⟩) hA hL rfl hl rfl (Nat.le_of_ble_eq_true rfl) dL_tick_509 ⟨Nat.le_of_ble_eq_true rfl, Nat.le_of_ble_eq_true rfl⟩) hA hL (fun r_509_2 H locs hr_509_2 hA hL => ?_)
        replace hr_509_2 : r_509_2 = bestK u g := hr_509_2.trans hju.1
        subst hr_509_2
        refine lv_iload hx hb dL_tick_512 (lv_at hl 8 rfl) ?_
        refine lv_icmp_ne (tgt := 552) hx hb dL_tick_514 (by decide) (fun c_514_2 => absurd rfl c_514_2) (fun c_514_2 => ?_)
        refine lv_aload_n hx hb dL_tick_517 rfl (lv_at hl 17 rfl) ?_
        refine lv_iload hx hb dL_tick_518 (lv_at hl 8 rfl) ?_
        refine lv_iconst (v := 1) hx hb dL_tick_520 (by decide) ?_
        refine lv_iadd hx hb dL_tick_521 ?_
        refine lr_i (rL (rest := []) ⟨hx, hb, hml, hown, hts⟩ (LB_count l G cA A o (u, v, (goF u v f g 0), (goG u v f g 0), (goL u v g L 0)) (recN n) K ch ((bestK u g) + 1)) (cwV 1 hts gL_tick_X8_count rfl rfl rfl mdX8_count ⟨Nat.le_of_ble_eq_true rfl, Nat.le_of_ble_eq_true rfl⟩) hA hL rfl hl rfl (Nat.le_of_ble_eq_true rfl) dL_tick_522 ⟨Nat.le_of_ble_eq_true rfl, Nat.le_of_ble_eq_true rfl⟩) hA hL (fun r_522_2 H locs hr_522_2 hA hL => ?_)
        replace hr_522_2 : r_522_2 = cnF (goG u v f g 0) (nI (recN n)) (nI K) ((bestK u g) + 1) := hr_522_2
        subst hr_522_2
        refine lv_iload hx hb dL_tick_525 (lv_at hl 6 rfl) ?_
        refine lv_iconst (v := 1) hx hb dL_tick_527 (by decide) ?_
        refine lv_iadd hx hb dL_tick_528 ?_
        refine lv_icmp_ne (tgt := 552) hx hb dL_tick_529 (by decide) (fun c_529_2 => absurd hcn c_529_2) (fun c_529_2 => ?_)
        refine lv_aload_n hx hb dL_tick_532 rfl (lv_at hl 17 rfl) ?_
        refine lv_iconst (v := 0) hx hb dL_tick_533 (by decide) ?_
        refine lv_iconst (v := 4) hx hb dL_tick_534 (by decide) ?_
        refine lr_i (rL (rest := []) ⟨hx, hb, hml, hown, hts⟩ (LB_judged l G cA A o (u, v, (goF u v f g 0), (goG u v f g 0), (goL u v g L 0)) (recN n) K ch 0 4 ) (cwV 2 hts gL_tick_X8_judged rfl rfl rfl mdX8_judged ⟨Nat.le_of_ble_eq_true rfl, Nat.le_of_ble_eq_true rfl⟩) hA hL rfl hl rfl (Nat.le_of_ble_eq_true rfl) dL_tick_535 ⟨Nat.le_of_ble_eq_true rfl, Nat.le_of_ble_eq_true rfl⟩) hA hL (fun r_535_2 H locs hr_535_2 hA hL => ?_)
        replace hr_535_2 : r_535_2 = (goG u v f g 0) 27 - 1 := hr_535_2.trans hju.2
        subst hr_535_2
        refine lv_aload_n hx hb dL_tick_538 rfl (lv_at hl 17 rfl) ?_
        refine lv_iconst (v := 0) hx hb dL_tick_539 (by decide) ?_
        refine lr_i (rL (rest := [.int ((goG u v f g 0) 27 - 1)]) ⟨hx, hb, hml, hown, hts⟩ (LB_count l G cA A o (u, v, (goF u v f g 0), (goG u v f g 0), (goL u v g L 0)) (recN n) K ch 0) (cwV 1 hts gL_tick_X8_count rfl rfl rfl mdX8_count ⟨Nat.le_of_ble_eq_true rfl, Nat.le_of_ble_eq_true rfl⟩) hA hL rfl hl rfl (Nat.le_of_ble_eq_true rfl) dL_tick_540 ⟨Nat.le_of_ble_eq_true rfl, Nat.le_of_ble_eq_true rfl⟩) hA hL (fun r_540_2 H locs hr_540_2 hA hL => ?_)
        replace hr_540_2 : r_540_2 = (goG u v f g 0) 27 := hr_540_2
        subst hr_540_2
        refine lv_iconst (v := 1) hx hb dL_tick_543 (by decide) ?_
        refine lv_isub hx hb dL_tick_544 ?_
        refine lv_icmp_ne (tgt := 552) hx hb dL_tick_545 (by decide) (fun c_545_2 => absurd rfl c_545_2) (fun c_545_2 => ?_)
        refine lv_iconst (v := 1) hx hb dL_tick_548 (by decide) ?_
        refine lv_goto (tgt := 553) hx hb dL_tick_549 (by decide) ?_
        exact en_l (post := fun r (_ : Unit) => r = 1) (B := fun _ H => LB G cA A o (u, v, (goF u v f g 0), (goG u v f g 0), (goL u v g L 0)) (recN n) K ch H) () hx hb hr hlocks hA rfl hL dL_tick_553
  · skip
    refine lv_iload hx hb dL_tick_154 (lv_at hl 4 rfl) ?_
    refine lv_iconst (v := 1) hx hb dL_tick_156 (by decide) ?_
    refine lv_icmp_ne (tgt := 169) hx hb dL_tick_157 (by decide) (fun c_157 => ?_) (fun c_157 => ?_)
    · skip
      refine lv_iconst (v := 0) hx hb dL_tick_169 (by decide) ?_
      refine lv_isub hx hb dL_tick_170 ?_
      refine W.eq (g2 := F0 m 171 ls [.int (preG u v g 0 16)]) (by rw [hp16, if_pos c_151, if_pos (one_n1 c_157), Int32.sub_zero]) ?_
      refine lv_istore (lv' := [(4, .int (preG u v g 0 16)), (14, .int 1), (13, .int (cnF g (nI n) (nI K) ((bestK u g) + 1))), (12, .float ((goF u v f g 0) 7)), (11, .int (bestK u g)), (10, .int (oneF (g 12))), (9, .int (g 11)), (8, .int (g 7)), (7, .int (oneF (g 17))), (6, .int 0), (5, .int (g 14)), (3, .float (f 7)), (2, .int 2), (0, .ref o), (1, .int 0)]) hx hb dL_tick_171 hl (by decide) rfl (fun ls hl => ?_)
      refine lv_iload_n hx hb dL_tick_173 rfl (lv_at hl 12 rfl) ?_
      refine lv_istore (lv' := [(15, .int 2), (4, .int (preG u v g 0 16)), (14, .int 1), (13, .int (cnF g (nI n) (nI K) ((bestK u g) + 1))), (12, .float ((goF u v f g 0) 7)), (11, .int (bestK u g)), (10, .int (oneF (g 12))), (9, .int (g 11)), (8, .int (g 7)), (7, .int (oneF (g 17))), (6, .int 0), (5, .int (g 14)), (3, .float (f 7)), (2, .int 2), (0, .ref o), (1, .int 0)]) hx hb dL_tick_174 hl (by decide) rfl (fun ls hl => ?_)
      refine lv_fload_n hx hb dL_tick_176 rfl (lv_at hl 12 rfl) ?_
      refine lv_fstore (lv' := [(16, .float (f 7)), (15, .int 2), (4, .int (preG u v g 0 16)), (14, .int 1), (13, .int (cnF g (nI n) (nI K) ((bestK u g) + 1))), (12, .float ((goF u v f g 0) 7)), (11, .int (bestK u g)), (10, .int (oneF (g 12))), (9, .int (g 11)), (8, .int (g 7)), (7, .int (oneF (g 17))), (6, .int 0), (5, .int (g 14)), (3, .float (f 7)), (2, .int 2), (0, .ref o), (1, .int 0)]) hx hb dL_tick_177 hl (by decide) rfl (fun ls hl => ?_)
      refine lv_iload_n hx hb dL_tick_179 rfl (lv_at hl 14 rfl) ?_
      refine lv_iconst (v := 1) hx hb dL_tick_180 (by decide) ?_
      refine lv_icmp_ne (tgt := 228) hx hb dL_tick_181 (by decide) (fun _ => ?_) (fun h9 => absurd h9 (by decide))
      refine lv_iload_n hx hb dL_tick_228 rfl (lv_at hl 14 rfl) ?_
      refine lv_iconst (v := 2) hx hb dL_tick_229 (by decide) ?_
      refine lv_icmp_ne (tgt := 264) hx hb dL_tick_230 (by decide) (fun h9 => absurd (by decide) h9) (fun _ => ?_)
      refine lv_iload_n hx hb dL_tick_233 rfl (lv_at hl 16 rfl) ?_
      refine lv_if_ne (tgt := 258) hx hb dL_tick_234 (by decide) (fun h9 => absurd (by decide) h9) (fun _ => ?_)
      refine lv_iload hx hb dL_tick_237 (lv_at hl 12 rfl) ?_
      refine lv_iconst (v := 1) hx hb dL_tick_239 (by decide) ?_
      refine lv_iadd hx hb dL_tick_240 ?_
      refine lv_aload_n hx hb dL_tick_241 rfl (lv_at hl 15 rfl) ?_
      refine lv_iconst (v := 0) hx hb dL_tick_242 (by decide) ?_
      refine lr_i (rL (rest := [.int ((g 14) + 1)]) ⟨hx, hb, hml, hown, hts⟩ (LB_number l G cA A o (u, v, f, g, L) n K ch 0 ) (cwV 1 hts gL_tick_X8_number rfl rfl rfl mdX8_number ⟨Nat.le_of_ble_eq_true rfl, Nat.le_of_ble_eq_true rfl⟩) hA hL rfl hl rfl (Nat.le_of_ble_eq_true rfl) dL_tick_243 ⟨Nat.le_of_ble_eq_true rfl, Nat.le_of_ble_eq_true rfl⟩) hA hL (fun r_243_1 H locs hr_243_1 hA hL => ?_)
      replace hr_243_1 : r_243_1 = v 0 := hr_243_1
      subst hr_243_1
      refine lv_icmp_lt (tgt := 258) hx hb dL_tick_246 (by decide) (fun c_246_1 => ?_) (fun c_246_1 => ?_)
      · skip
        refine lv_iconst (v := 2) hx hb dL_tick_258 (by decide) ?_
        refine lv_istore (lv' := [(15, .int 2), (16, .float (f 7)), (4, .int (preG u v g 0 16)), (14, .int 1), (13, .int (cnF g (nI n) (nI K) ((bestK u g) + 1))), (12, .float ((goF u v f g 0) 7)), (11, .int (bestK u g)), (10, .int (oneF (g 12))), (9, .int (g 11)), (8, .int (g 7)), (7, .int (oneF (g 17))), (6, .int 0), (5, .int (g 14)), (3, .float (f 7)), (2, .int 2), (0, .ref o), (1, .int 0)]) hx hb dL_tick_259 hl (by decide) rfl (fun ls hl => ?_)
        refine lv_goto (tgt := 385) hx hb dL_tick_261 (by decide) ?_
        refine lv_iload_n hx hb dL_tick_385 rfl (lv_at hl 14 rfl) ?_
        refine lv_iconst (v := 3) hx hb dL_tick_386 (by decide) ?_
        refine lv_icmp_ne (tgt := 400) hx hb dL_tick_387 (by decide) (fun _ => ?_) (fun h9 => absurd h9 (by decide))
        refine lv_iconst (v := 0) hx hb dL_tick_400 (by decide) ?_
        refine lv_istore (lv' := [(17, .int 0), (15, .int 2), (16, .float (f 7)), (4, .int (preG u v g 0 16)), (14, .int 1), (13, .int (cnF g (nI n) (nI K) ((bestK u g) + 1))), (12, .float ((goF u v f g 0) 7)), (11, .int (bestK u g)), (10, .int (oneF (g 12))), (9, .int (g 11)), (8, .int (g 7)), (7, .int (oneF (g 17))), (6, .int 0), (5, .int (g 14)), (3, .float (f 7)), (2, .int 2), (0, .ref o), (1, .int 0)]) hx hb dL_tick_401 hl (by decide) rfl (fun ls hl => ?_)
        refine lv_iload hx hb dL_tick_403 (lv_at hl 0 rfl) ?_
        refine lv_if_eq (tgt := 428) hx hb dL_tick_405 (by decide) (fun _ => ?_) (fun h9 => absurd (by decide) h9)
        refine lv_iconst (v := 0) hx hb dL_tick_428 (by decide) ?_
        refine lv_istore (lv' := [(18, .int 0), (17, .int 0), (15, .int 2), (16, .float (f 7)), (4, .int (preG u v g 0 16)), (14, .int 1), (13, .int (cnF g (nI n) (nI K) ((bestK u g) + 1))), (12, .float ((goF u v f g 0) 7)), (11, .int (bestK u g)), (10, .int (oneF (g 12))), (9, .int (g 11)), (8, .int (g 7)), (7, .int (oneF (g 17))), (6, .int 0), (5, .int (g 14)), (3, .float (f 7)), (2, .int 2), (0, .ref o), (1, .int 0)]) hx hb dL_tick_429 hl (by decide) rfl (fun ls hl => ?_)
        refine lv_aload_n hx hb dL_tick_431 rfl (lv_at hl 17 rfl) ?_
        refine lv_iload_n hx hb dL_tick_432 rfl (lv_at hl 18 rfl) ?_
        refine lv_iconst (v := 1) hx hb dL_tick_433 (by decide) ?_
        refine lw_i (rL (rest := []) ⟨hx, hb, hml, hown, hts⟩ (LB_pass_ok l G cA A o (u, v, f, g, L) n K ch hn 0 1 (by decide) (by decide) (by decide) (by decide) hT hG1 hBo) (cwV 2 hts gL_tick_X8_pass rfl rfl rfl mdX8_pass ⟨Nat.le_of_ble_eq_true rfl, Nat.le_of_ble_eq_true rfl⟩) hA hL rfl hl rfl (Nat.le_of_ble_eq_true rfl) dL_tick_434 ⟨Nat.le_of_ble_eq_true rfl, Nat.le_of_ble_eq_true rfl⟩) hA (fun r_434_3 _ H locs hr_434_3 hA hL => ?_)
        replace hL : LB G cA A o (u, v, (goF u v f g 0), (goG u v f g 0), (goL u v g L 0)) (recN n) K ch H := hL
        replace hr_434_3 : r_434_3 = (goG u v f g 0) 13 := hr_434_3
        subst hr_434_3
        refine lv_iload hx hb dL_tick_437 (lv_at hl 2 rfl) ?_
        refine lv_icmp_ne (tgt := 489) hx hb dL_tick_439 (by decide) (fun c_439_3 => absurd (ht.1.trans (if_pos c_246_1)) c_439_3) (fun c_439_3 => ?_)
        refine lv_aload_n hx hb dL_tick_442 rfl (lv_at hl 17 rfl) ?_
        refine lr_f (rL (rest := []) ⟨hx, hb, hml, hown, hts⟩ (LB_place l G cA A o (u, v, (goF u v f g 0), (goG u v f g 0), (goL u v g L 0)) (recN n) K ch  ) (cwV 0 hts gL_tick_X8_place rfl rfl rfl mdX8_place ⟨Nat.le_of_ble_eq_true rfl, Nat.le_of_ble_eq_true rfl⟩) hA hL rfl hl rfl (Nat.le_of_ble_eq_true rfl) dL_tick_443 ⟨Nat.le_of_ble_eq_true rfl, Nat.le_of_ble_eq_true rfl⟩) hA hL (fun r_443_3 H locs hr_443_3 hA hL => ?_)
        replace hr_443_3 : r_443_3 = (goF u v f g 0) 7 := hr_443_3
        subst hr_443_3
        refine lv_fload hx hb dL_tick_446 (lv_at hl 3 rfl) ?_
        refine lv_fcmp hx hb dL_tick_448 ?_
        refine lv_if_ne (tgt := 489) hx hb dL_tick_449 (by decide) (fun c_449_3 => absurd (by rw [ht.2.2.2]; exact cmp_self (of_vf hf) _) c_449_3) (fun c_449_3 => ?_)
        refine lv_fload hx hb dL_tick_452 (lv_at hl 7 rfl) ?_
        refine lv_fload hx hb dL_tick_454 (lv_at hl 3 rfl) ?_
        refine lv_fcmp hx hb dL_tick_456 ?_
        refine lv_if_ne (tgt := 489) hx hb dL_tick_457 (by decide) (fun c_457_3 => absurd (by rw [ht.2.2.2]; exact cmp_self (of_vf hf) _) c_457_3) (fun c_457_3 => ?_)
        refine lv_aload_n hx hb dL_tick_460 rfl (lv_at hl 17 rfl) ?_
        refine lv_iconst (v := 1) hx hb dL_tick_461 (by decide) ?_
        refine lr_i (rL (rest := []) ⟨hx, hb, hml, hown, hts⟩ (LB_door l G cA A o (u, v, (goF u v f g 0), (goG u v f g 0), (goL u v g L 0)) (recN n) K ch 1 ) (cwV 1 hts gL_tick_X8_door rfl rfl rfl mdX8_door ⟨Nat.le_of_ble_eq_true rfl, Nat.le_of_ble_eq_true rfl⟩) hA hL rfl hl rfl (Nat.le_of_ble_eq_true rfl) dL_tick_462 ⟨Nat.le_of_ble_eq_true rfl, Nat.le_of_ble_eq_true rfl⟩) hA hL (fun r_462_3 H locs hr_462_3 hA hL => ?_)
        replace hr_462_3 : r_462_3 = (goG u v f g 0) 16 := hr_462_3
        subst hr_462_3
        refine lv_iload hx hb dL_tick_465 (lv_at hl 4 rfl) ?_
        refine lv_icmp_ne (tgt := 489) hx hb dL_tick_467 (by decide) (fun c_467_3 => absurd ht.2.1 c_467_3) (fun c_467_3 => ?_)
        refine lv_aload_n hx hb dL_tick_470 rfl (lv_at hl 17 rfl) ?_
        refine lv_iconst (v := 2) hx hb dL_tick_471 (by decide) ?_
        refine lr_i (rL (rest := []) ⟨hx, hb, hml, hown, hts⟩ (LB_door l G cA A o (u, v, (goF u v f g 0), (goG u v f g 0), (goL u v g L 0)) (recN n) K ch 2 ) (cwV 1 hts gL_tick_X8_door rfl rfl rfl mdX8_door ⟨Nat.le_of_ble_eq_true rfl, Nat.le_of_ble_eq_true rfl⟩) hA hL rfl hl rfl (Nat.le_of_ble_eq_true rfl) dL_tick_472 ⟨Nat.le_of_ble_eq_true rfl, Nat.le_of_ble_eq_true rfl⟩) hA hL (fun r_472_3 H locs hr_472_3 hA hL => ?_)
        replace hr_472_3 : r_472_3 = oneF ((goG u v f g 0) 17) := hr_472_3
        subst hr_472_3
        refine lv_iload hx hb dL_tick_475 (lv_at hl 0 rfl) ?_
        refine lv_if_eq (tgt := 484) hx hb dL_tick_477 (by decide) (fun _ => ?_) (fun h9 => absurd (by decide) h9)
        refine lv_iload hx hb dL_tick_484 (lv_at hl 12 rfl) ?_
        refine lv_icmp_eq (tgt := 491) hx hb dL_tick_486 (by decide) (fun c_486_3 => ?_) (fun c_486_3 => absurd (by rw [ht.2.2.1] <;> rfl) c_486_3)
        refine lv_iload hx hb dL_tick_491 (lv_at hl 5 rfl) ?_
        refine lv_if_eq (tgt := 554) hx hb dL_tick_493 (by decide) (fun h9 => absurd h9 (by decide)) (fun _ => ?_)
        refine lv_aload_n hx hb dL_tick_496 rfl (lv_at hl 17 rfl) ?_
        refine lv_iconst (v := 0) hx hb dL_tick_497 (by decide) ?_
        refine lr_i (rL (rest := []) ⟨hx, hb, hml, hown, hts⟩ (LB_thing l G cA A o (u, v, (goF u v f g 0), (goG u v f g 0), (goL u v g L 0)) (recN n) K ch 0 hP2) (cwV 1 hts gL_tick_X8_thing rfl rfl rfl mdX8_thing ⟨Nat.le_of_ble_eq_true rfl, Nat.le_of_ble_eq_true rfl⟩) hA hL rfl hl rfl (Nat.le_of_ble_eq_true rfl) dL_tick_498 ⟨Nat.le_of_ble_eq_true rfl, Nat.le_of_ble_eq_true rfl⟩) hA hL (fun r_498_3 H locs hr_498_3 hA hL => ?_)
        replace hr_498_3 : r_498_3 = -5 := hr_498_3.trans (th_none 0 (by decide) (by decide) h5)
        subst hr_498_3
        refine lv_bipush (v := (-5)) hx hb dL_tick_501 (by decide) ?_
        refine lv_icmp_ne (tgt := 552) hx hb dL_tick_503 (by decide) (fun h9 => absurd (by decide) h9) (fun _ => ?_)
        refine lv_aload_n hx hb dL_tick_506 rfl (lv_at hl 17 rfl) ?_
        refine lv_iconst (v := 0) hx hb dL_tick_507 (by decide) ?_
        refine lv_iconst (v := 0) hx hb dL_tick_508 (by decide) ?_
        refine lr_i (rL (rest := []) ⟨hx, hb, hml, hown, hts⟩ (LB_judged l G cA A o (u, v, (goF u v f g 0), (goG u v f g 0), (goL u v g L 0)) (recN n) K ch 0 0 ) (cwV 2 hts gL_tick_X8_judged rfl rfl rfl mdX8_judged ⟨Nat.le_of_ble_eq_true rfl, Nat.le_of_ble_eq_true rfl⟩) hA hL rfl hl rfl (Nat.le_of_ble_eq_true rfl) dL_tick_509 ⟨Nat.le_of_ble_eq_true rfl, Nat.le_of_ble_eq_true rfl⟩) hA hL (fun r_509_3 H locs hr_509_3 hA hL => ?_)
        replace hr_509_3 : r_509_3 = bestK u g := hr_509_3.trans hju.1
        subst hr_509_3
        refine lv_iload hx hb dL_tick_512 (lv_at hl 8 rfl) ?_
        refine lv_icmp_ne (tgt := 552) hx hb dL_tick_514 (by decide) (fun c_514_3 => absurd rfl c_514_3) (fun c_514_3 => ?_)
        refine lv_aload_n hx hb dL_tick_517 rfl (lv_at hl 17 rfl) ?_
        refine lv_iload hx hb dL_tick_518 (lv_at hl 8 rfl) ?_
        refine lv_iconst (v := 1) hx hb dL_tick_520 (by decide) ?_
        refine lv_iadd hx hb dL_tick_521 ?_
        refine lr_i (rL (rest := []) ⟨hx, hb, hml, hown, hts⟩ (LB_count l G cA A o (u, v, (goF u v f g 0), (goG u v f g 0), (goL u v g L 0)) (recN n) K ch ((bestK u g) + 1)) (cwV 1 hts gL_tick_X8_count rfl rfl rfl mdX8_count ⟨Nat.le_of_ble_eq_true rfl, Nat.le_of_ble_eq_true rfl⟩) hA hL rfl hl rfl (Nat.le_of_ble_eq_true rfl) dL_tick_522 ⟨Nat.le_of_ble_eq_true rfl, Nat.le_of_ble_eq_true rfl⟩) hA hL (fun r_522_3 H locs hr_522_3 hA hL => ?_)
        replace hr_522_3 : r_522_3 = cnF (goG u v f g 0) (nI (recN n)) (nI K) ((bestK u g) + 1) := hr_522_3
        subst hr_522_3
        refine lv_iload hx hb dL_tick_525 (lv_at hl 6 rfl) ?_
        refine lv_iconst (v := 1) hx hb dL_tick_527 (by decide) ?_
        refine lv_iadd hx hb dL_tick_528 ?_
        refine lv_icmp_ne (tgt := 552) hx hb dL_tick_529 (by decide) (fun c_529_3 => absurd hcn c_529_3) (fun c_529_3 => ?_)
        refine lv_aload_n hx hb dL_tick_532 rfl (lv_at hl 17 rfl) ?_
        refine lv_iconst (v := 0) hx hb dL_tick_533 (by decide) ?_
        refine lv_iconst (v := 4) hx hb dL_tick_534 (by decide) ?_
        refine lr_i (rL (rest := []) ⟨hx, hb, hml, hown, hts⟩ (LB_judged l G cA A o (u, v, (goF u v f g 0), (goG u v f g 0), (goL u v g L 0)) (recN n) K ch 0 4 ) (cwV 2 hts gL_tick_X8_judged rfl rfl rfl mdX8_judged ⟨Nat.le_of_ble_eq_true rfl, Nat.le_of_ble_eq_true rfl⟩) hA hL rfl hl rfl (Nat.le_of_ble_eq_true rfl) dL_tick_535 ⟨Nat.le_of_ble_eq_true rfl, Nat.le_of_ble_eq_true rfl⟩) hA hL (fun r_535_3 H locs hr_535_3 hA hL => ?_)
        replace hr_535_3 : r_535_3 = (goG u v f g 0) 27 - 1 := hr_535_3.trans hju.2
        subst hr_535_3
        refine lv_aload_n hx hb dL_tick_538 rfl (lv_at hl 17 rfl) ?_
        refine lv_iconst (v := 0) hx hb dL_tick_539 (by decide) ?_
        refine lr_i (rL (rest := [.int ((goG u v f g 0) 27 - 1)]) ⟨hx, hb, hml, hown, hts⟩ (LB_count l G cA A o (u, v, (goF u v f g 0), (goG u v f g 0), (goL u v g L 0)) (recN n) K ch 0) (cwV 1 hts gL_tick_X8_count rfl rfl rfl mdX8_count ⟨Nat.le_of_ble_eq_true rfl, Nat.le_of_ble_eq_true rfl⟩) hA hL rfl hl rfl (Nat.le_of_ble_eq_true rfl) dL_tick_540 ⟨Nat.le_of_ble_eq_true rfl, Nat.le_of_ble_eq_true rfl⟩) hA hL (fun r_540_3 H locs hr_540_3 hA hL => ?_)
        replace hr_540_3 : r_540_3 = (goG u v f g 0) 27 := hr_540_3
        subst hr_540_3
        refine lv_iconst (v := 1) hx hb dL_tick_543 (by decide) ?_
        refine lv_isub hx hb dL_tick_544 ?_
        refine lv_icmp_ne (tgt := 552) hx hb dL_tick_545 (by decide) (fun c_545_3 => absurd rfl c_545_3) (fun c_545_3 => ?_)
        refine lv_iconst (v := 1) hx hb dL_tick_548 (by decide) ?_
        refine lv_goto (tgt := 553) hx hb dL_tick_549 (by decide) ?_
        exact en_l (post := fun r (_ : Unit) => r = 1) (B := fun _ H => LB G cA A o (u, v, (goF u v f g 0), (goG u v f g 0), (goL u v g L 0)) (recN n) K ch H) () hx hb hr hlocks hA rfl hL dL_tick_553
      · skip
        refine lv_iload hx hb dL_tick_249 (lv_at hl 10 rfl) ?_
        refine lv_if_ne (tgt := 258) hx hb dL_tick_251 (by decide) (fun c_251_1 => ?_) (fun c_251_1 => ?_)
        · skip
          refine lv_iconst (v := 2) hx hb dL_tick_258 (by decide) ?_
          refine lv_istore (lv' := [(15, .int 2), (16, .float (f 7)), (4, .int (preG u v g 0 16)), (14, .int 1), (13, .int (cnF g (nI n) (nI K) ((bestK u g) + 1))), (12, .float ((goF u v f g 0) 7)), (11, .int (bestK u g)), (10, .int (oneF (g 12))), (9, .int (g 11)), (8, .int (g 7)), (7, .int (oneF (g 17))), (6, .int 0), (5, .int (g 14)), (3, .float (f 7)), (2, .int 2), (0, .ref o), (1, .int 0)]) hx hb dL_tick_259 hl (by decide) rfl (fun ls hl => ?_)
          refine lv_goto (tgt := 385) hx hb dL_tick_261 (by decide) ?_
          refine lv_iload_n hx hb dL_tick_385 rfl (lv_at hl 14 rfl) ?_
          refine lv_iconst (v := 3) hx hb dL_tick_386 (by decide) ?_
          refine lv_icmp_ne (tgt := 400) hx hb dL_tick_387 (by decide) (fun _ => ?_) (fun h9 => absurd h9 (by decide))
          refine lv_iconst (v := 0) hx hb dL_tick_400 (by decide) ?_
          refine lv_istore (lv' := [(17, .int 0), (15, .int 2), (16, .float (f 7)), (4, .int (preG u v g 0 16)), (14, .int 1), (13, .int (cnF g (nI n) (nI K) ((bestK u g) + 1))), (12, .float ((goF u v f g 0) 7)), (11, .int (bestK u g)), (10, .int (oneF (g 12))), (9, .int (g 11)), (8, .int (g 7)), (7, .int (oneF (g 17))), (6, .int 0), (5, .int (g 14)), (3, .float (f 7)), (2, .int 2), (0, .ref o), (1, .int 0)]) hx hb dL_tick_401 hl (by decide) rfl (fun ls hl => ?_)
          refine lv_iload hx hb dL_tick_403 (lv_at hl 0 rfl) ?_
          refine lv_if_eq (tgt := 428) hx hb dL_tick_405 (by decide) (fun _ => ?_) (fun h9 => absurd (by decide) h9)
          refine lv_iconst (v := 0) hx hb dL_tick_428 (by decide) ?_
          refine lv_istore (lv' := [(18, .int 0), (17, .int 0), (15, .int 2), (16, .float (f 7)), (4, .int (preG u v g 0 16)), (14, .int 1), (13, .int (cnF g (nI n) (nI K) ((bestK u g) + 1))), (12, .float ((goF u v f g 0) 7)), (11, .int (bestK u g)), (10, .int (oneF (g 12))), (9, .int (g 11)), (8, .int (g 7)), (7, .int (oneF (g 17))), (6, .int 0), (5, .int (g 14)), (3, .float (f 7)), (2, .int 2), (0, .ref o), (1, .int 0)]) hx hb dL_tick_429 hl (by decide) rfl (fun ls hl => ?_)
          refine lv_aload_n hx hb dL_tick_431 rfl (lv_at hl 17 rfl) ?_
          refine lv_iload_n hx hb dL_tick_432 rfl (lv_at hl 18 rfl) ?_
          refine lv_iconst (v := 1) hx hb dL_tick_433 (by decide) ?_
          refine lw_i (rL (rest := []) ⟨hx, hb, hml, hown, hts⟩ (LB_pass_ok l G cA A o (u, v, f, g, L) n K ch hn 0 1 (by decide) (by decide) (by decide) (by decide) hT hG1 hBo) (cwV 2 hts gL_tick_X8_pass rfl rfl rfl mdX8_pass ⟨Nat.le_of_ble_eq_true rfl, Nat.le_of_ble_eq_true rfl⟩) hA hL rfl hl rfl (Nat.le_of_ble_eq_true rfl) dL_tick_434 ⟨Nat.le_of_ble_eq_true rfl, Nat.le_of_ble_eq_true rfl⟩) hA (fun r_434_4 _ H locs hr_434_4 hA hL => ?_)
          replace hL : LB G cA A o (u, v, (goF u v f g 0), (goG u v f g 0), (goL u v g L 0)) (recN n) K ch H := hL
          replace hr_434_4 : r_434_4 = (goG u v f g 0) 13 := hr_434_4
          subst hr_434_4
          refine lv_iload hx hb dL_tick_437 (lv_at hl 2 rfl) ?_
          refine lv_icmp_ne (tgt := 489) hx hb dL_tick_439 (by decide) (fun c_439_4 => absurd (ht.1.trans ((if_neg c_246_1).trans (if_neg (one_nz c_251_1)))) c_439_4) (fun c_439_4 => ?_)
          refine lv_aload_n hx hb dL_tick_442 rfl (lv_at hl 17 rfl) ?_
          refine lr_f (rL (rest := []) ⟨hx, hb, hml, hown, hts⟩ (LB_place l G cA A o (u, v, (goF u v f g 0), (goG u v f g 0), (goL u v g L 0)) (recN n) K ch  ) (cwV 0 hts gL_tick_X8_place rfl rfl rfl mdX8_place ⟨Nat.le_of_ble_eq_true rfl, Nat.le_of_ble_eq_true rfl⟩) hA hL rfl hl rfl (Nat.le_of_ble_eq_true rfl) dL_tick_443 ⟨Nat.le_of_ble_eq_true rfl, Nat.le_of_ble_eq_true rfl⟩) hA hL (fun r_443_4 H locs hr_443_4 hA hL => ?_)
          replace hr_443_4 : r_443_4 = (goF u v f g 0) 7 := hr_443_4
          subst hr_443_4
          refine lv_fload hx hb dL_tick_446 (lv_at hl 3 rfl) ?_
          refine lv_fcmp hx hb dL_tick_448 ?_
          refine lv_if_ne (tgt := 489) hx hb dL_tick_449 (by decide) (fun c_449_4 => absurd (by rw [ht.2.2.2]; exact cmp_self (of_vf hf) _) c_449_4) (fun c_449_4 => ?_)
          refine lv_fload hx hb dL_tick_452 (lv_at hl 7 rfl) ?_
          refine lv_fload hx hb dL_tick_454 (lv_at hl 3 rfl) ?_
          refine lv_fcmp hx hb dL_tick_456 ?_
          refine lv_if_ne (tgt := 489) hx hb dL_tick_457 (by decide) (fun c_457_4 => absurd (by rw [ht.2.2.2]; exact cmp_self (of_vf hf) _) c_457_4) (fun c_457_4 => ?_)
          refine lv_aload_n hx hb dL_tick_460 rfl (lv_at hl 17 rfl) ?_
          refine lv_iconst (v := 1) hx hb dL_tick_461 (by decide) ?_
          refine lr_i (rL (rest := []) ⟨hx, hb, hml, hown, hts⟩ (LB_door l G cA A o (u, v, (goF u v f g 0), (goG u v f g 0), (goL u v g L 0)) (recN n) K ch 1 ) (cwV 1 hts gL_tick_X8_door rfl rfl rfl mdX8_door ⟨Nat.le_of_ble_eq_true rfl, Nat.le_of_ble_eq_true rfl⟩) hA hL rfl hl rfl (Nat.le_of_ble_eq_true rfl) dL_tick_462 ⟨Nat.le_of_ble_eq_true rfl, Nat.le_of_ble_eq_true rfl⟩) hA hL (fun r_462_4 H locs hr_462_4 hA hL => ?_)
          replace hr_462_4 : r_462_4 = (goG u v f g 0) 16 := hr_462_4
          subst hr_462_4
          refine lv_iload hx hb dL_tick_465 (lv_at hl 4 rfl) ?_
          refine lv_icmp_ne (tgt := 489) hx hb dL_tick_467 (by decide) (fun c_467_4 => absurd ht.2.1 c_467_4) (fun c_467_4 => ?_)
          refine lv_aload_n hx hb dL_tick_470 rfl (lv_at hl 17 rfl) ?_
          refine lv_iconst (v := 2) hx hb dL_tick_471 (by decide) ?_
          refine lr_i (rL (rest := []) ⟨hx, hb, hml, hown, hts⟩ (LB_door l G cA A o (u, v, (goF u v f g 0), (goG u v f g 0), (goL u v g L 0)) (recN n) K ch 2 ) (cwV 1 hts gL_tick_X8_door rfl rfl rfl mdX8_door ⟨Nat.le_of_ble_eq_true rfl, Nat.le_of_ble_eq_true rfl⟩) hA hL rfl hl rfl (Nat.le_of_ble_eq_true rfl) dL_tick_472 ⟨Nat.le_of_ble_eq_true rfl, Nat.le_of_ble_eq_true rfl⟩) hA hL (fun r_472_4 H locs hr_472_4 hA hL => ?_)
          replace hr_472_4 : r_472_4 = oneF ((goG u v f g 0) 17) := hr_472_4
          subst hr_472_4
          refine lv_iload hx hb dL_tick_475 (lv_at hl 0 rfl) ?_
          refine lv_if_eq (tgt := 484) hx hb dL_tick_477 (by decide) (fun _ => ?_) (fun h9 => absurd (by decide) h9)
          refine lv_iload hx hb dL_tick_484 (lv_at hl 12 rfl) ?_
          refine lv_icmp_eq (tgt := 491) hx hb dL_tick_486 (by decide) (fun c_486_4 => ?_) (fun c_486_4 => absurd (by rw [ht.2.2.1] <;> rfl) c_486_4)
          refine lv_iload hx hb dL_tick_491 (lv_at hl 5 rfl) ?_
          refine lv_if_eq (tgt := 554) hx hb dL_tick_493 (by decide) (fun h9 => absurd h9 (by decide)) (fun _ => ?_)
          refine lv_aload_n hx hb dL_tick_496 rfl (lv_at hl 17 rfl) ?_
          refine lv_iconst (v := 0) hx hb dL_tick_497 (by decide) ?_
          refine lr_i (rL (rest := []) ⟨hx, hb, hml, hown, hts⟩ (LB_thing l G cA A o (u, v, (goF u v f g 0), (goG u v f g 0), (goL u v g L 0)) (recN n) K ch 0 hP2) (cwV 1 hts gL_tick_X8_thing rfl rfl rfl mdX8_thing ⟨Nat.le_of_ble_eq_true rfl, Nat.le_of_ble_eq_true rfl⟩) hA hL rfl hl rfl (Nat.le_of_ble_eq_true rfl) dL_tick_498 ⟨Nat.le_of_ble_eq_true rfl, Nat.le_of_ble_eq_true rfl⟩) hA hL (fun r_498_4 H locs hr_498_4 hA hL => ?_)
          replace hr_498_4 : r_498_4 = -5 := hr_498_4.trans (th_none 0 (by decide) (by decide) h5)
          subst hr_498_4
          refine lv_bipush (v := (-5)) hx hb dL_tick_501 (by decide) ?_
          refine lv_icmp_ne (tgt := 552) hx hb dL_tick_503 (by decide) (fun h9 => absurd (by decide) h9) (fun _ => ?_)
          refine lv_aload_n hx hb dL_tick_506 rfl (lv_at hl 17 rfl) ?_
          refine lv_iconst (v := 0) hx hb dL_tick_507 (by decide) ?_
          refine lv_iconst (v := 0) hx hb dL_tick_508 (by decide) ?_
          refine lr_i (rL (rest := []) ⟨hx, hb, hml, hown, hts⟩ (LB_judged l G cA A o (u, v, (goF u v f g 0), (goG u v f g 0), (goL u v g L 0)) (recN n) K ch 0 0 ) (cwV 2 hts gL_tick_X8_judged rfl rfl rfl mdX8_judged ⟨Nat.le_of_ble_eq_true rfl, Nat.le_of_ble_eq_true rfl⟩) hA hL rfl hl rfl (Nat.le_of_ble_eq_true rfl) dL_tick_509 ⟨Nat.le_of_ble_eq_true rfl, Nat.le_of_ble_eq_true rfl⟩) hA hL (fun r_509_4 H locs hr_509_4 hA hL => ?_)
          replace hr_509_4 : r_509_4 = bestK u g := hr_509_4.trans hju.1
          subst hr_509_4
          refine lv_iload hx hb dL_tick_512 (lv_at hl 8 rfl) ?_
          refine lv_icmp_ne (tgt := 552) hx hb dL_tick_514 (by decide) (fun c_514_4 => absurd rfl c_514_4) (fun c_514_4 => ?_)
          refine lv_aload_n hx hb dL_tick_517 rfl (lv_at hl 17 rfl) ?_
          refine lv_iload hx hb dL_tick_518 (lv_at hl 8 rfl) ?_
          refine lv_iconst (v := 1) hx hb dL_tick_520 (by decide) ?_
          refine lv_iadd hx hb dL_tick_521 ?_
          refine lr_i (rL (rest := []) ⟨hx, hb, hml, hown, hts⟩ (LB_count l G cA A o (u, v, (goF u v f g 0), (goG u v f g 0), (goL u v g L 0)) (recN n) K ch ((bestK u g) + 1)) (cwV 1 hts gL_tick_X8_count rfl rfl rfl mdX8_count ⟨Nat.le_of_ble_eq_true rfl, Nat.le_of_ble_eq_true rfl⟩) hA hL rfl hl rfl (Nat.le_of_ble_eq_true rfl) dL_tick_522 ⟨Nat.le_of_ble_eq_true rfl, Nat.le_of_ble_eq_true rfl⟩) hA hL (fun r_522_4 H locs hr_522_4 hA hL => ?_)
          replace hr_522_4 : r_522_4 = cnF (goG u v f g 0) (nI (recN n)) (nI K) ((bestK u g) + 1) := hr_522_4
          subst hr_522_4
          refine lv_iload hx hb dL_tick_525 (lv_at hl 6 rfl) ?_
          refine lv_iconst (v := 1) hx hb dL_tick_527 (by decide) ?_
          refine lv_iadd hx hb dL_tick_528 ?_
          refine lv_icmp_ne (tgt := 552) hx hb dL_tick_529 (by decide) (fun c_529_4 => absurd hcn c_529_4) (fun c_529_4 => ?_)
          refine lv_aload_n hx hb dL_tick_532 rfl (lv_at hl 17 rfl) ?_
          refine lv_iconst (v := 0) hx hb dL_tick_533 (by decide) ?_
          refine lv_iconst (v := 4) hx hb dL_tick_534 (by decide) ?_
          refine lr_i (rL (rest := []) ⟨hx, hb, hml, hown, hts⟩ (LB_judged l G cA A o (u, v, (goF u v f g 0), (goG u v f g 0), (goL u v g L 0)) (recN n) K ch 0 4 ) (cwV 2 hts gL_tick_X8_judged rfl rfl rfl mdX8_judged ⟨Nat.le_of_ble_eq_true rfl, Nat.le_of_ble_eq_true rfl⟩) hA hL rfl hl rfl (Nat.le_of_ble_eq_true rfl) dL_tick_535 ⟨Nat.le_of_ble_eq_true rfl, Nat.le_of_ble_eq_true rfl⟩) hA hL (fun r_535_4 H locs hr_535_4 hA hL => ?_)
          replace hr_535_4 : r_535_4 = (goG u v f g 0) 27 - 1 := hr_535_4.trans hju.2
          subst hr_535_4
          refine lv_aload_n hx hb dL_tick_538 rfl (lv_at hl 17 rfl) ?_
          refine lv_iconst (v := 0) hx hb dL_tick_539 (by decide) ?_
          refine lr_i (rL (rest := [.int ((goG u v f g 0) 27 - 1)]) ⟨hx, hb, hml, hown, hts⟩ (LB_count l G cA A o (u, v, (goF u v f g 0), (goG u v f g 0), (goL u v g L 0)) (recN n) K ch 0) (cwV 1 hts gL_tick_X8_count rfl rfl rfl mdX8_count ⟨Nat.le_of_ble_eq_true rfl, Nat.le_of_ble_eq_true rfl⟩) hA hL rfl hl rfl (Nat.le_of_ble_eq_true rfl) dL_tick_540 ⟨Nat.le_of_ble_eq_true rfl, Nat.le_of_ble_eq_true rfl⟩) hA hL (fun r_540_4 H locs hr_540_4 hA hL => ?_)
          replace hr_540_4 : r_540_4 = (goG u v f g 0) 27 := hr_540_4
          subst hr_540_4
          refine lv_iconst (v := 1) hx hb dL_tick_543 (by decide) ?_
          refine lv_isub hx hb dL_tick_544 ?_
          refine lv_icmp_ne (tgt := 552) hx hb dL_tick_545 (by decide) (fun c_545_4 => absurd rfl c_545_4) (fun c_545_4 => ?_)
          refine lv_iconst (v := 1) hx hb dL_tick_548 (by decide) ?_
          refine lv_goto (tgt := 553) hx hb dL_tick_549 (by decide) ?_
          exact en_l (post := fun r (_ : Unit) => r = 1) (B := fun _ H => LB G cA A o (u, v, (goF u v f g 0), (goG u v f g 0), (goL u v g L 0)) (recN n) K ch H) () hx hb hr hlocks hA rfl hL dL_tick_553
        · skip
          refine lv_iconst (v := 3) hx hb dL_tick_254 (by decide) ?_
          refine lv_goto (tgt := 259) hx hb dL_tick_255 (by decide) ?_
          refine lv_istore (lv' := [(15, .int 3), (16, .float (f 7)), (4, .int (preG u v g 0 16)), (14, .int 1), (13, .int (cnF g (nI n) (nI K) ((bestK u g) + 1))), (12, .float ((goF u v f g 0) 7)), (11, .int (bestK u g)), (10, .int (oneF (g 12))), (9, .int (g 11)), (8, .int (g 7)), (7, .int (oneF (g 17))), (6, .int 0), (5, .int (g 14)), (3, .float (f 7)), (2, .int 2), (0, .ref o), (1, .int 0)]) hx hb dL_tick_259 hl (by decide) rfl (fun ls hl => ?_)
          refine lv_goto (tgt := 385) hx hb dL_tick_261 (by decide) ?_
          refine lv_iload_n hx hb dL_tick_385 rfl (lv_at hl 14 rfl) ?_
          refine lv_iconst (v := 3) hx hb dL_tick_386 (by decide) ?_
          refine lv_icmp_ne (tgt := 400) hx hb dL_tick_387 (by decide) (fun _ => ?_) (fun h9 => absurd h9 (by decide))
          refine lv_iconst (v := 0) hx hb dL_tick_400 (by decide) ?_
          refine lv_istore (lv' := [(17, .int 0), (15, .int 3), (16, .float (f 7)), (4, .int (preG u v g 0 16)), (14, .int 1), (13, .int (cnF g (nI n) (nI K) ((bestK u g) + 1))), (12, .float ((goF u v f g 0) 7)), (11, .int (bestK u g)), (10, .int (oneF (g 12))), (9, .int (g 11)), (8, .int (g 7)), (7, .int (oneF (g 17))), (6, .int 0), (5, .int (g 14)), (3, .float (f 7)), (2, .int 2), (0, .ref o), (1, .int 0)]) hx hb dL_tick_401 hl (by decide) rfl (fun ls hl => ?_)
          refine lv_iload hx hb dL_tick_403 (lv_at hl 0 rfl) ?_
          refine lv_if_eq (tgt := 428) hx hb dL_tick_405 (by decide) (fun _ => ?_) (fun h9 => absurd (by decide) h9)
          refine lv_iconst (v := 0) hx hb dL_tick_428 (by decide) ?_
          refine lv_istore (lv' := [(18, .int 0), (17, .int 0), (15, .int 3), (16, .float (f 7)), (4, .int (preG u v g 0 16)), (14, .int 1), (13, .int (cnF g (nI n) (nI K) ((bestK u g) + 1))), (12, .float ((goF u v f g 0) 7)), (11, .int (bestK u g)), (10, .int (oneF (g 12))), (9, .int (g 11)), (8, .int (g 7)), (7, .int (oneF (g 17))), (6, .int 0), (5, .int (g 14)), (3, .float (f 7)), (2, .int 2), (0, .ref o), (1, .int 0)]) hx hb dL_tick_429 hl (by decide) rfl (fun ls hl => ?_)
          refine lv_aload_n hx hb dL_tick_431 rfl (lv_at hl 17 rfl) ?_
          refine lv_iload_n hx hb dL_tick_432 rfl (lv_at hl 18 rfl) ?_
          refine lv_iconst (v := 1) hx hb dL_tick_433 (by decide) ?_
          refine lw_i (rL (rest := []) ⟨hx, hb, hml, hown, hts⟩ (LB_pass_ok l G cA A o (u, v, f, g, L) n K ch hn 0 1 (by decide) (by decide) (by decide) (by decide) hT hG1 hBo) (cwV 2 hts gL_tick_X8_pass rfl rfl rfl mdX8_pass ⟨Nat.le_of_ble_eq_true rfl, Nat.le_of_ble_eq_true rfl⟩) hA hL rfl hl rfl (Nat.le_of_ble_eq_true rfl) dL_tick_434 ⟨Nat.le_of_ble_eq_true rfl, Nat.le_of_ble_eq_true rfl⟩) hA (fun r_434_5 _ H locs hr_434_5 hA hL => ?_)
          replace hL : LB G cA A o (u, v, (goF u v f g 0), (goG u v f g 0), (goL u v g L 0)) (recN n) K ch H := hL
          replace hr_434_5 : r_434_5 = (goG u v f g 0) 13 := hr_434_5
          subst hr_434_5
          refine lv_iload hx hb dL_tick_437 (lv_at hl 2 rfl) ?_
          refine lv_icmp_ne (tgt := 489) hx hb dL_tick_439 (by decide) (fun c_439_5 => absurd (ht.1.trans ((if_neg c_246_1).trans (if_pos (one_z c_251_1)))) c_439_5) (fun c_439_5 => ?_)
          refine lv_aload_n hx hb dL_tick_442 rfl (lv_at hl 17 rfl) ?_
          refine lr_f (rL (rest := []) ⟨hx, hb, hml, hown, hts⟩ (LB_place l G cA A o (u, v, (goF u v f g 0), (goG u v f g 0), (goL u v g L 0)) (recN n) K ch  ) (cwV 0 hts gL_tick_X8_place rfl rfl rfl mdX8_place ⟨Nat.le_of_ble_eq_true rfl, Nat.le_of_ble_eq_true rfl⟩) hA hL rfl hl rfl (Nat.le_of_ble_eq_true rfl) dL_tick_443 ⟨Nat.le_of_ble_eq_true rfl, Nat.le_of_ble_eq_true rfl⟩) hA hL (fun r_443_5 H locs hr_443_5 hA hL => ?_)
          replace hr_443_5 : r_443_5 = (goF u v f g 0) 7 := hr_443_5
          subst hr_443_5
          refine lv_fload hx hb dL_tick_446 (lv_at hl 3 rfl) ?_
          refine lv_fcmp hx hb dL_tick_448 ?_
          refine lv_if_ne (tgt := 489) hx hb dL_tick_449 (by decide) (fun c_449_5 => absurd (by rw [ht.2.2.2]; exact cmp_self (of_vf hf) _) c_449_5) (fun c_449_5 => ?_)
          refine lv_fload hx hb dL_tick_452 (lv_at hl 7 rfl) ?_
          refine lv_fload hx hb dL_tick_454 (lv_at hl 3 rfl) ?_
          refine lv_fcmp hx hb dL_tick_456 ?_
          refine lv_if_ne (tgt := 489) hx hb dL_tick_457 (by decide) (fun c_457_5 => absurd (by rw [ht.2.2.2]; exact cmp_self (of_vf hf) _) c_457_5) (fun c_457_5 => ?_)
          refine lv_aload_n hx hb dL_tick_460 rfl (lv_at hl 17 rfl) ?_
          refine lv_iconst (v := 1) hx hb dL_tick_461 (by decide) ?_
          refine lr_i (rL (rest := []) ⟨hx, hb, hml, hown, hts⟩ (LB_door l G cA A o (u, v, (goF u v f g 0), (goG u v f g 0), (goL u v g L 0)) (recN n) K ch 1 ) (cwV 1 hts gL_tick_X8_door rfl rfl rfl mdX8_door ⟨Nat.le_of_ble_eq_true rfl, Nat.le_of_ble_eq_true rfl⟩) hA hL rfl hl rfl (Nat.le_of_ble_eq_true rfl) dL_tick_462 ⟨Nat.le_of_ble_eq_true rfl, Nat.le_of_ble_eq_true rfl⟩) hA hL (fun r_462_5 H locs hr_462_5 hA hL => ?_)
          replace hr_462_5 : r_462_5 = (goG u v f g 0) 16 := hr_462_5
          subst hr_462_5
          refine lv_iload hx hb dL_tick_465 (lv_at hl 4 rfl) ?_
          refine lv_icmp_ne (tgt := 489) hx hb dL_tick_467 (by decide) (fun c_467_5 => absurd ht.2.1 c_467_5) (fun c_467_5 => ?_)
          refine lv_aload_n hx hb dL_tick_470 rfl (lv_at hl 17 rfl) ?_
          refine lv_iconst (v := 2) hx hb dL_tick_471 (by decide) ?_
          refine lr_i (rL (rest := []) ⟨hx, hb, hml, hown, hts⟩ (LB_door l G cA A o (u, v, (goF u v f g 0), (goG u v f g 0), (goL u v g L 0)) (recN n) K ch 2 ) (cwV 1 hts gL_tick_X8_door rfl rfl rfl mdX8_door ⟨Nat.le_of_ble_eq_true rfl, Nat.le_of_ble_eq_true rfl⟩) hA hL rfl hl rfl (Nat.le_of_ble_eq_true rfl) dL_tick_472 ⟨Nat.le_of_ble_eq_true rfl, Nat.le_of_ble_eq_true rfl⟩) hA hL (fun r_472_5 H locs hr_472_5 hA hL => ?_)
          replace hr_472_5 : r_472_5 = oneF ((goG u v f g 0) 17) := hr_472_5
          subst hr_472_5
          refine lv_iload hx hb dL_tick_475 (lv_at hl 0 rfl) ?_
          refine lv_if_eq (tgt := 484) hx hb dL_tick_477 (by decide) (fun _ => ?_) (fun h9 => absurd (by decide) h9)
          refine lv_iload hx hb dL_tick_484 (lv_at hl 12 rfl) ?_
          refine lv_icmp_eq (tgt := 491) hx hb dL_tick_486 (by decide) (fun c_486_5 => ?_) (fun c_486_5 => absurd (by rw [ht.2.2.1] <;> rfl) c_486_5)
          refine lv_iload hx hb dL_tick_491 (lv_at hl 5 rfl) ?_
          refine lv_if_eq (tgt := 554) hx hb dL_tick_493 (by decide) (fun h9 => absurd h9 (by decide)) (fun _ => ?_)
          refine lv_aload_n hx hb dL_tick_496 rfl (lv_at hl 17 rfl) ?_
          refine lv_iconst (v := 0) hx hb dL_tick_497 (by decide) ?_
          refine lr_i (rL (rest := []) ⟨hx, hb, hml, hown, hts⟩ (LB_thing l G cA A o (u, v, (goF u v f g 0), (goG u v f g 0), (goL u v g L 0)) (recN n) K ch 0 hP2) (cwV 1 hts gL_tick_X8_thing rfl rfl rfl mdX8_thing ⟨Nat.le_of_ble_eq_true rfl, Nat.le_of_ble_eq_true rfl⟩) hA hL rfl hl rfl (Nat.le_of_ble_eq_true rfl) dL_tick_498 ⟨Nat.le_of_ble_eq_true rfl, Nat.le_of_ble_eq_true rfl⟩) hA hL (fun r_498_5 H locs hr_498_5 hA hL => ?_)
          replace hr_498_5 : r_498_5 = -5 := hr_498_5.trans (th_none 0 (by decide) (by decide) h5)
          subst hr_498_5
          refine lv_bipush (v := (-5)) hx hb dL_tick_501 (by decide) ?_
          refine lv_icmp_ne (tgt := 552) hx hb dL_tick_503 (by decide) (fun h9 => absurd (by decide) h9) (fun _ => ?_)
          refine lv_aload_n hx hb dL_tick_506 rfl (lv_at hl 17 rfl) ?_
          refine lv_iconst (v := 0) hx hb dL_tick_507 (by decide) ?_
          refine lv_iconst (v := 0) hx hb dL_tick_508 (by decide) ?_
          refine lr_i (rL (rest := []) ⟨hx, hb, hml, hown, hts⟩ (LB_judged l G cA A o (u, v, (goF u v f g 0), (goG u v f g 0), (goL u v g L 0)) (recN n) K ch 0 0 ) (cwV 2 hts gL_tick_X8_judged rfl rfl rfl mdX8_judged ⟨Nat.le_of_ble_eq_true rfl, Nat.le_of_ble_eq_true rfl⟩) hA hL rfl hl rfl (Nat.le_of_ble_eq_true rfl) dL_tick_509 ⟨Nat.le_of_ble_eq_true rfl, Nat.le_of_ble_eq_true rfl⟩) hA hL (fun r_509_5 H locs hr_509_5 hA hL => ?_)
          replace hr_509_5 : r_509_5 = bestK u g := hr_509_5.trans hju.1
          subst hr_509_5
          refine lv_iload hx hb dL_tick_512 (lv_at hl 8 rfl) ?_
          refine lv_icmp_ne (tgt := 552) hx hb dL_tick_514 (by decide) (fun c_514_5 => absurd rfl c_514_5) (fun c_514_5 => ?_)
          refine lv_aload_n hx hb dL_tick_517 rfl (lv_at hl 17 rfl) ?_
          refine lv_iload hx hb dL_tick_518 (lv_at hl 8 rfl) ?_
          refine lv_iconst (v := 1) hx hb dL_tick_520 (by decide) ?_
          refine lv_iadd hx hb dL_tick_521 ?_
          refine lr_i (rL (rest := []) ⟨hx, hb, hml, hown, hts⟩ (LB_count l G cA A o (u, v, (goF u v f g 0), (goG u v f g 0), (goL u v g L 0)) (recN n) K ch ((bestK u g) + 1)) (cwV 1 hts gL_tick_X8_count rfl rfl rfl mdX8_count ⟨Nat.le_of_ble_eq_true rfl, Nat.le_of_ble_eq_true rfl⟩) hA hL rfl hl rfl (Nat.le_of_ble_eq_true rfl) dL_tick_522 ⟨Nat.le_of_ble_eq_true rfl, Nat.le_of_ble_eq_true rfl⟩) hA hL (fun r_522_5 H locs hr_522_5 hA hL => ?_)
          replace hr_522_5 : r_522_5 = cnF (goG u v f g 0) (nI (recN n)) (nI K) ((bestK u g) + 1) := hr_522_5
          subst hr_522_5
          refine lv_iload hx hb dL_tick_525 (lv_at hl 6 rfl) ?_
          refine lv_iconst (v := 1) hx hb dL_tick_527 (by decide) ?_
          refine lv_iadd hx hb dL_tick_528 ?_
          refine lv_icmp_ne (tgt := 552) hx hb dL_tick_529 (by decide) (fun c_529_5 => absurd hcn c_529_5) (fun c_529_5 => ?_)
          refine lv_aload_n hx hb dL_tick_532 rfl (lv_at hl 17 rfl) ?_
          refine lv_iconst (v := 0) hx hb dL_tick_533 (by decide) ?_
          refine lv_iconst (v := 4) hx hb dL_tick_534 (by decide) ?_
          refine lr_i (rL (rest := []) ⟨hx, hb, hml, hown, hts⟩ (LB_judged l G cA A o (u, v, (goF u v f g 0), (goG u v f g 0), (goL u v g L 0)) (recN n) K ch 0 4 ) (cwV 2 hts gL_tick_X8_judged rfl rfl rfl mdX8_judged ⟨Nat.le_of_ble_eq_true rfl, Nat.le_of_ble_eq_true rfl⟩) hA hL rfl hl rfl (Nat.le_of_ble_eq_true rfl) dL_tick_535 ⟨Nat.le_of_ble_eq_true rfl, Nat.le_of_ble_eq_true rfl⟩) hA hL (fun r_535_5 H locs hr_535_5 hA hL => ?_)
          replace hr_535_5 : r_535_5 = (goG u v f g 0) 27 - 1 := hr_535_5.trans hju.2
          subst hr_535_5
          refine lv_aload_n hx hb dL_tick_538 rfl (lv_at hl 17 rfl) ?_
          refine lv_iconst (v := 0) hx hb dL_tick_539 (by decide) ?_
          refine lr_i (rL (rest := [.int ((goG u v f g 0) 27 - 1)]) ⟨hx, hb, hml, hown, hts⟩ (LB_count l G cA A o (u, v, (goF u v f g 0), (goG u v f g 0), (goL u v g L 0)) (recN n) K ch 0) (cwV 1 hts gL_tick_X8_count rfl rfl rfl mdX8_count ⟨Nat.le_of_ble_eq_true rfl, Nat.le_of_ble_eq_true rfl⟩) hA hL rfl hl rfl (Nat.le_of_ble_eq_true rfl) dL_tick_540 ⟨Nat.le_of_ble_eq_true rfl, Nat.le_of_ble_eq_true rfl⟩) hA hL (fun r_540_5 H locs hr_540_5 hA hL => ?_)
          replace hr_540_5 : r_540_5 = (goG u v f g 0) 27 := hr_540_5
          subst hr_540_5
          refine lv_iconst (v := 1) hx hb dL_tick_543 (by decide) ?_
          refine lv_isub hx hb dL_tick_544 ?_
          refine lv_icmp_ne (tgt := 552) hx hb dL_tick_545 (by decide) (fun c_545_5 => absurd rfl c_545_5) (fun c_545_5 => ?_)
          refine lv_iconst (v := 1) hx hb dL_tick_548 (by decide) ?_
          refine lv_goto (tgt := 553) hx hb dL_tick_549 (by decide) ?_
          exact en_l (post := fun r (_ : Unit) => r = 1) (B := fun _ H => LB G cA A o (u, v, (goF u v f g 0), (goG u v f g 0), (goL u v g L 0)) (recN n) K ch H) () hx hb hr hlocks hA rfl hL dL_tick_553
    · skip
      refine lv_iload hx hb dL_tick_160 (lv_at hl 10 rfl) ?_
      refine lv_if_le (tgt := 169) hx hb dL_tick_162 (by decide) (fun c_162 => ?_) (fun c_162 => ?_)
      · skip
        refine lv_iconst (v := 0) hx hb dL_tick_169 (by decide) ?_
        refine lv_isub hx hb dL_tick_170 ?_
        refine W.eq (g2 := F0 m 171 ls [.int (preG u v g 0 16)]) (by rw [hp16, if_pos c_151, if_neg (one_y1 c_157), if_pos c_162, Int32.sub_zero]) ?_
        refine lv_istore (lv' := [(4, .int (preG u v g 0 16)), (14, .int 1), (13, .int (cnF g (nI n) (nI K) ((bestK u g) + 1))), (12, .float ((goF u v f g 0) 7)), (11, .int (bestK u g)), (10, .int (oneF (g 12))), (9, .int (g 11)), (8, .int (g 7)), (7, .int (oneF (g 17))), (6, .int 0), (5, .int (g 14)), (3, .float (f 7)), (2, .int 2), (0, .ref o), (1, .int 0)]) hx hb dL_tick_171 hl (by decide) rfl (fun ls hl => ?_)
        refine lv_iload_n hx hb dL_tick_173 rfl (lv_at hl 12 rfl) ?_
        refine lv_istore (lv' := [(15, .int 2), (4, .int (preG u v g 0 16)), (14, .int 1), (13, .int (cnF g (nI n) (nI K) ((bestK u g) + 1))), (12, .float ((goF u v f g 0) 7)), (11, .int (bestK u g)), (10, .int (oneF (g 12))), (9, .int (g 11)), (8, .int (g 7)), (7, .int (oneF (g 17))), (6, .int 0), (5, .int (g 14)), (3, .float (f 7)), (2, .int 2), (0, .ref o), (1, .int 0)]) hx hb dL_tick_174 hl (by decide) rfl (fun ls hl => ?_)
        refine lv_fload_n hx hb dL_tick_176 rfl (lv_at hl 12 rfl) ?_
        refine lv_fstore (lv' := [(16, .float (f 7)), (15, .int 2), (4, .int (preG u v g 0 16)), (14, .int 1), (13, .int (cnF g (nI n) (nI K) ((bestK u g) + 1))), (12, .float ((goF u v f g 0) 7)), (11, .int (bestK u g)), (10, .int (oneF (g 12))), (9, .int (g 11)), (8, .int (g 7)), (7, .int (oneF (g 17))), (6, .int 0), (5, .int (g 14)), (3, .float (f 7)), (2, .int 2), (0, .ref o), (1, .int 0)]) hx hb dL_tick_177 hl (by decide) rfl (fun ls hl => ?_)
        refine lv_iload_n hx hb dL_tick_179 rfl (lv_at hl 14 rfl) ?_
        refine lv_iconst (v := 1) hx hb dL_tick_180 (by decide) ?_
        refine lv_icmp_ne (tgt := 228) hx hb dL_tick_181 (by decide) (fun _ => ?_) (fun h9 => absurd h9 (by decide))
        refine lv_iload_n hx hb dL_tick_228 rfl (lv_at hl 14 rfl) ?_
        refine lv_iconst (v := 2) hx hb dL_tick_229 (by decide) ?_
        refine lv_icmp_ne (tgt := 264) hx hb dL_tick_230 (by decide) (fun h9 => absurd (by decide) h9) (fun _ => ?_)
        refine lv_iload_n hx hb dL_tick_233 rfl (lv_at hl 16 rfl) ?_
        refine lv_if_ne (tgt := 258) hx hb dL_tick_234 (by decide) (fun h9 => absurd (by decide) h9) (fun _ => ?_)
        refine lv_iload hx hb dL_tick_237 (lv_at hl 12 rfl) ?_
        refine lv_iconst (v := 1) hx hb dL_tick_239 (by decide) ?_
        refine lv_iadd hx hb dL_tick_240 ?_
        refine lv_aload_n hx hb dL_tick_241 rfl (lv_at hl 15 rfl) ?_
        refine lv_iconst (v := 0) hx hb dL_tick_242 (by decide) ?_
        refine lr_i (rL (rest := [.int ((g 14) + 1)]) ⟨hx, hb, hml, hown, hts⟩ (LB_number l G cA A o (u, v, f, g, L) n K ch 0 ) (cwV 1 hts gL_tick_X8_number rfl rfl rfl mdX8_number ⟨Nat.le_of_ble_eq_true rfl, Nat.le_of_ble_eq_true rfl⟩) hA hL rfl hl rfl (Nat.le_of_ble_eq_true rfl) dL_tick_243 ⟨Nat.le_of_ble_eq_true rfl, Nat.le_of_ble_eq_true rfl⟩) hA hL (fun r_243_2 H locs hr_243_2 hA hL => ?_)
        replace hr_243_2 : r_243_2 = v 0 := hr_243_2
        subst hr_243_2
        refine lv_icmp_lt (tgt := 258) hx hb dL_tick_246 (by decide) (fun c_246_2 => ?_) (fun c_246_2 => ?_)
        · skip
          refine lv_iconst (v := 2) hx hb dL_tick_258 (by decide) ?_
          refine lv_istore (lv' := [(15, .int 2), (16, .float (f 7)), (4, .int (preG u v g 0 16)), (14, .int 1), (13, .int (cnF g (nI n) (nI K) ((bestK u g) + 1))), (12, .float ((goF u v f g 0) 7)), (11, .int (bestK u g)), (10, .int (oneF (g 12))), (9, .int (g 11)), (8, .int (g 7)), (7, .int (oneF (g 17))), (6, .int 0), (5, .int (g 14)), (3, .float (f 7)), (2, .int 2), (0, .ref o), (1, .int 0)]) hx hb dL_tick_259 hl (by decide) rfl (fun ls hl => ?_)
          refine lv_goto (tgt := 385) hx hb dL_tick_261 (by decide) ?_
          refine lv_iload_n hx hb dL_tick_385 rfl (lv_at hl 14 rfl) ?_
          refine lv_iconst (v := 3) hx hb dL_tick_386 (by decide) ?_
          refine lv_icmp_ne (tgt := 400) hx hb dL_tick_387 (by decide) (fun _ => ?_) (fun h9 => absurd h9 (by decide))
          refine lv_iconst (v := 0) hx hb dL_tick_400 (by decide) ?_
          refine lv_istore (lv' := [(17, .int 0), (15, .int 2), (16, .float (f 7)), (4, .int (preG u v g 0 16)), (14, .int 1), (13, .int (cnF g (nI n) (nI K) ((bestK u g) + 1))), (12, .float ((goF u v f g 0) 7)), (11, .int (bestK u g)), (10, .int (oneF (g 12))), (9, .int (g 11)), (8, .int (g 7)), (7, .int (oneF (g 17))), (6, .int 0), (5, .int (g 14)), (3, .float (f 7)), (2, .int 2), (0, .ref o), (1, .int 0)]) hx hb dL_tick_401 hl (by decide) rfl (fun ls hl => ?_)
          refine lv_iload hx hb dL_tick_403 (lv_at hl 0 rfl) ?_
          refine lv_if_eq (tgt := 428) hx hb dL_tick_405 (by decide) (fun _ => ?_) (fun h9 => absurd (by decide) h9)
          refine lv_iconst (v := 0) hx hb dL_tick_428 (by decide) ?_
          refine lv_istore (lv' := [(18, .int 0), (17, .int 0), (15, .int 2), (16, .float (f 7)), (4, .int (preG u v g 0 16)), (14, .int 1), (13, .int (cnF g (nI n) (nI K) ((bestK u g) + 1))), (12, .float ((goF u v f g 0) 7)), (11, .int (bestK u g)), (10, .int (oneF (g 12))), (9, .int (g 11)), (8, .int (g 7)), (7, .int (oneF (g 17))), (6, .int 0), (5, .int (g 14)), (3, .float (f 7)), (2, .int 2), (0, .ref o), (1, .int 0)]) hx hb dL_tick_429 hl (by decide) rfl (fun ls hl => ?_)
          refine lv_aload_n hx hb dL_tick_431 rfl (lv_at hl 17 rfl) ?_
          refine lv_iload_n hx hb dL_tick_432 rfl (lv_at hl 18 rfl) ?_
          refine lv_iconst (v := 1) hx hb dL_tick_433 (by decide) ?_
          refine lw_i (rL (rest := []) ⟨hx, hb, hml, hown, hts⟩ (LB_pass_ok l G cA A o (u, v, f, g, L) n K ch hn 0 1 (by decide) (by decide) (by decide) (by decide) hT hG1 hBo) (cwV 2 hts gL_tick_X8_pass rfl rfl rfl mdX8_pass ⟨Nat.le_of_ble_eq_true rfl, Nat.le_of_ble_eq_true rfl⟩) hA hL rfl hl rfl (Nat.le_of_ble_eq_true rfl) dL_tick_434 ⟨Nat.le_of_ble_eq_true rfl, Nat.le_of_ble_eq_true rfl⟩) hA (fun r_434_6 _ H locs hr_434_6 hA hL => ?_)
          replace hL : LB G cA A o (u, v, (goF u v f g 0), (goG u v f g 0), (goL u v g L 0)) (recN n) K ch H := hL
          replace hr_434_6 : r_434_6 = (goG u v f g 0) 13 := hr_434_6
          subst hr_434_6
          refine lv_iload hx hb dL_tick_437 (lv_at hl 2 rfl) ?_
          refine lv_icmp_ne (tgt := 489) hx hb dL_tick_439 (by decide) (fun c_439_6 => absurd (ht.1.trans (if_pos c_246_2)) c_439_6) (fun c_439_6 => ?_)
          refine lv_aload_n hx hb dL_tick_442 rfl (lv_at hl 17 rfl) ?_
          refine lr_f (rL (rest := []) ⟨hx, hb, hml, hown, hts⟩ (LB_place l G cA A o (u, v, (goF u v f g 0), (goG u v f g 0), (goL u v g L 0)) (recN n) K ch  ) (cwV 0 hts gL_tick_X8_place rfl rfl rfl mdX8_place ⟨Nat.le_of_ble_eq_true rfl, Nat.le_of_ble_eq_true rfl⟩) hA hL rfl hl rfl (Nat.le_of_ble_eq_true rfl) dL_tick_443 ⟨Nat.le_of_ble_eq_true rfl, Nat.le_of_ble_eq_true rfl⟩) hA hL (fun r_443_6 H locs hr_443_6 hA hL => ?_)
          replace hr_443_6 : r_443_6 = (goF u v f g 0) 7 := hr_443_6
          subst hr_443_6
          refine lv_fload hx hb dL_tick_446 (lv_at hl 3 rfl) ?_
          refine lv_fcmp hx hb dL_tick_448 ?_
          refine lv_if_ne (tgt := 489) hx hb dL_tick_449 (by decide) (fun c_449_6 => absurd (by rw [ht.2.2.2]; exact cmp_self (of_vf hf) _) c_449_6) (fun c_449_6 => ?_)
          refine lv_fload hx hb dL_tick_452 (lv_at hl 7 rfl) ?_
          refine lv_fload hx hb dL_tick_454 (lv_at hl 3 rfl) ?_
          refine lv_fcmp hx hb dL_tick_456 ?_
          refine lv_if_ne (tgt := 489) hx hb dL_tick_457 (by decide) (fun c_457_6 => absurd (by rw [ht.2.2.2]; exact cmp_self (of_vf hf) _) c_457_6) (fun c_457_6 => ?_)
          refine lv_aload_n hx hb dL_tick_460 rfl (lv_at hl 17 rfl) ?_
          refine lv_iconst (v := 1) hx hb dL_tick_461 (by decide) ?_
          refine lr_i (rL (rest := []) ⟨hx, hb, hml, hown, hts⟩ (LB_door l G cA A o (u, v, (goF u v f g 0), (goG u v f g 0), (goL u v g L 0)) (recN n) K ch 1 ) (cwV 1 hts gL_tick_X8_door rfl rfl rfl mdX8_door ⟨Nat.le_of_ble_eq_true rfl, Nat.le_of_ble_eq_true rfl⟩) hA hL rfl hl rfl (Nat.le_of_ble_eq_true rfl) dL_tick_462 ⟨Nat.le_of_ble_eq_true rfl, Nat.le_of_ble_eq_true rfl⟩) hA hL (fun r_462_6 H locs hr_462_6 hA hL => ?_)
          replace hr_462_6 : r_462_6 = (goG u v f g 0) 16 := hr_462_6
          subst hr_462_6
          refine lv_iload hx hb dL_tick_465 (lv_at hl 4 rfl) ?_
          refine lv_icmp_ne (tgt := 489) hx hb dL_tick_467 (by decide) (fun c_467_6 => absurd ht.2.1 c_467_6) (fun c_467_6 => ?_)
          refine lv_aload_n hx hb dL_tick_470 rfl (lv_at hl 17 rfl) ?_
          refine lv_iconst (v := 2) hx hb dL_tick_471 (by decide) ?_
          refine lr_i (rL (rest := []) ⟨hx, hb, hml, hown, hts⟩ (LB_door l G cA A o (u, v, (goF u v f g 0), (goG u v f g 0), (goL u v g L 0)) (recN n) K ch 2 ) (cwV 1 hts gL_tick_X8_door rfl rfl rfl mdX8_door ⟨Nat.le_of_ble_eq_true rfl, Nat.le_of_ble_eq_true rfl⟩) hA hL rfl hl rfl (Nat.le_of_ble_eq_true rfl) dL_tick_472 ⟨Nat.le_of_ble_eq_true rfl, Nat.le_of_ble_eq_true rfl⟩) hA hL (fun r_472_6 H locs hr_472_6 hA hL => ?_)
          replace hr_472_6 : r_472_6 = oneF ((goG u v f g 0) 17) := hr_472_6
          subst hr_472_6
          refine lv_iload hx hb dL_tick_475 (lv_at hl 0 rfl) ?_
          refine lv_if_eq (tgt := 484) hx hb dL_tick_477 (by decide) (fun _ => ?_) (fun h9 => absurd (by decide) h9)
          refine lv_iload hx hb dL_tick_484 (lv_at hl 12 rfl) ?_
          refine lv_icmp_eq (tgt := 491) hx hb dL_tick_486 (by decide) (fun c_486_6 => ?_) (fun c_486_6 => absurd (by rw [ht.2.2.1] <;> rfl) c_486_6)
          refine lv_iload hx hb dL_tick_491 (lv_at hl 5 rfl) ?_
          refine lv_if_eq (tgt := 554) hx hb dL_tick_493 (by decide) (fun h9 => absurd h9 (by decide)) (fun _ => ?_)
          refine lv_aload_n hx hb dL_tick_496 rfl (lv_at hl 17 rfl) ?_
          refine lv_iconst (v := 0) hx hb dL_tick_497 (by decide) ?_
          refine lr_i (rL (rest := []) ⟨hx, hb, hml, hown, hts⟩ (LB_thing l G cA A o (u, v, (goF u v f g 0), (goG u v f g 0), (goL u v g L 0)) (recN n) K ch 0 hP2) (cwV 1 hts gL_tick_X8_thing rfl rfl rfl mdX8_thing ⟨Nat.le_of_ble_eq_true rfl, Nat.le_of_ble_eq_true rfl⟩) hA hL rfl hl rfl (Nat.le_of_ble_eq_true rfl) dL_tick_498 ⟨Nat.le_of_ble_eq_true rfl, Nat.le_of_ble_eq_true rfl⟩) hA hL (fun r_498_6 H locs hr_498_6 hA hL => ?_)
          replace hr_498_6 : r_498_6 = -5 := hr_498_6.trans (th_none 0 (by decide) (by decide) h5)
          subst hr_498_6
          refine lv_bipush (v := (-5)) hx hb dL_tick_501 (by decide) ?_
          refine lv_icmp_ne (tgt := 552) hx hb dL_tick_503 (by decide) (fun h9 => absurd (by decide) h9) (fun _ => ?_)
          refine lv_aload_n hx hb dL_tick_506 rfl (lv_at hl 17 rfl) ?_
          refine lv_iconst (v := 0) hx hb dL_tick_507 (by decide) ?_
          refine lv_iconst (v := 0) hx hb dL_tick_508 (by decide) ?_
          refine lr_i (rL (rest := []) ⟨hx, hb, hml, hown, hts⟩ (LB_judged l G cA A o (u, v, (goF u v f g 0), (goG u v f g 0), (goL u v g L 0)) (recN n) K ch 0 0 ) (cwV 2 hts gL_tick_X8_judged rfl rfl rfl mdX8_judged ⟨Nat.le_of_ble_eq_true rfl, Nat.le_of_ble_eq_true rfl⟩) hA hL rfl hl rfl (Nat.le_of_ble_eq_true rfl) dL_tick_509 ⟨Nat.le_of_ble_eq_true rfl, Nat.le_of_ble_eq_true rfl⟩) hA hL (fun r_509_6 H locs hr_509_6 hA hL => ?_)
          replace hr_509_6 : r_509_6 = bestK u g := hr_509_6.trans hju.1
          subst hr_509_6
          refine lv_iload hx hb dL_tick_512 (lv_at hl 8 rfl) ?_
          refine lv_icmp_ne (tgt := 552) hx hb dL_tick_514 (by decide) (fun c_514_6 => absurd rfl c_514_6) (fun c_514_6 => ?_)
          refine lv_aload_n hx hb dL_tick_517 rfl (lv_at hl 17 rfl) ?_
          refine lv_iload hx hb dL_tick_518 (lv_at hl 8 rfl) ?_
          refine lv_iconst (v := 1) hx hb dL_tick_520 (by decide) ?_
          refine lv_iadd hx hb dL_tick_521 ?_
          refine lr_i (rL (rest := []) ⟨hx, hb, hml, hown, hts⟩ (LB_count l G cA A o (u, v, (goF u v f g 0), (goG u v f g 0), (goL u v g L 0)) (recN n) K ch ((bestK u g) + 1)) (cwV 1 hts gL_tick_X8_count rfl rfl rfl mdX8_count ⟨Nat.le_of_ble_eq_true rfl, Nat.le_of_ble_eq_true rfl⟩) hA hL rfl hl rfl (Nat.le_of_ble_eq_true rfl) dL_tick_522 ⟨Nat.le_of_ble_eq_true rfl, Nat.le_of_ble_eq_true rfl⟩) hA hL (fun r_522_6 H locs hr_522_6 hA hL => ?_)
          replace hr_522_6 : r_522_6 = cnF (goG u v f g 0) (nI (recN n)) (nI K) ((bestK u g) + 1) := hr_522_6
          subst hr_522_6
          refine lv_iload hx hb dL_tick_525 (lv_at hl 6 rfl) ?_
          refine lv_iconst (v := 1) hx hb dL_tick_527 (by decide) ?_
          refine lv_iadd hx hb dL_tick_528 ?_
          refine lv_icmp_ne (tgt := 552) hx hb dL_tick_529 (by decide) (fun c_529_6 => absurd hcn c_529_6) (fun c_529_6 => ?_)
          refine lv_aload_n hx hb dL_tick_532 rfl (lv_at hl 17 rfl) ?_
          refine lv_iconst (v := 0) hx hb dL_tick_533 (by decide) ?_
          refine lv_iconst (v := 4) hx hb dL_tick_534 (by decide) ?_
          refine lr_i (rL (rest := []) ⟨hx, hb, hml, hown, hts⟩ (LB_judged l G cA A o (u, v, (goF u v f g 0), (goG u v f g 0), (goL u v g L 0)) (recN n) K ch 0 4 ) (cwV 2 hts gL_tick_X8_judged rfl rfl rfl mdX8_judged ⟨Nat.le_of_ble_eq_true rfl, Nat.le_of_ble_eq_true rfl⟩) hA hL rfl hl rfl (Nat.le_of_ble_eq_true rfl) dL_tick_535 ⟨Nat.le_of_ble_eq_true rfl, Nat.le_of_ble_eq_true rfl⟩) hA hL (fun r_535_6 H locs hr_535_6 hA hL => ?_)
          replace hr_535_6 : r_535_6 = (goG u v f g 0) 27 - 1 := hr_535_6.trans hju.2
          subst hr_535_6
          refine lv_aload_n hx hb dL_tick_538 rfl (lv_at hl 17 rfl) ?_
          refine lv_iconst (v := 0) hx hb dL_tick_539 (by decide) ?_
          refine lr_i (rL (rest := [.int ((goG u v f g 0) 27 - 1)]) ⟨hx, hb, hml, hown, hts⟩ (LB_count l G cA A o (u, v, (goF u v f g 0), (goG u v f g 0), (goL u v g L 0)) (recN n) K ch 0) (cwV 1 hts gL_tick_X8_count rfl rfl rfl mdX8_count ⟨Nat.le_of_ble_eq_true rfl, Nat.le_of_ble_eq_true rfl⟩) hA hL rfl hl rfl (Nat.le_of_ble_eq_true rfl) dL_tick_540 ⟨Nat.le_of_ble_eq_true rfl, Nat.le_of_ble_eq_true rfl⟩) hA hL (fun r_540_6 H locs hr_540_6 hA hL => ?_)
          replace hr_540_6 : r_540_6 = (goG u v f g 0) 27 := hr_540_6
          subst hr_540_6
          refine lv_iconst (v := 1) hx hb dL_tick_543 (by decide) ?_
          refine lv_isub hx hb dL_tick_544 ?_
          refine lv_icmp_ne (tgt := 552) hx hb dL_tick_545 (by decide) (fun c_545_6 => absurd rfl c_545_6) (fun c_545_6 => ?_)
          refine lv_iconst (v := 1) hx hb dL_tick_548 (by decide) ?_
          refine lv_goto (tgt := 553) hx hb dL_tick_549 (by decide) ?_
          exact en_l (post := fun r (_ : Unit) => r = 1) (B := fun _ H => LB G cA A o (u, v, (goF u v f g 0), (goG u v f g 0), (goL u v g L 0)) (recN n) K ch H) () hx hb hr hlocks hA rfl hL dL_tick_553
        · skip
          refine lv_iload hx hb dL_tick_249 (lv_at hl 10 rfl) ?_
          refine lv_if_ne (tgt := 258) hx hb dL_tick_251 (by decide) (fun c_251_2 => ?_) (fun c_251_2 => ?_)
          · skip
            refine lv_iconst (v := 2) hx hb dL_tick_258 (by decide) ?_
            refine lv_istore (lv' := [(15, .int 2), (16, .float (f 7)), (4, .int (preG u v g 0 16)), (14, .int 1), (13, .int (cnF g (nI n) (nI K) ((bestK u g) + 1))), (12, .float ((goF u v f g 0) 7)), (11, .int (bestK u g)), (10, .int (oneF (g 12))), (9, .int (g 11)), (8, .int (g 7)), (7, .int (oneF (g 17))), (6, .int 0), (5, .int (g 14)), (3, .float (f 7)), (2, .int 2), (0, .ref o), (1, .int 0)]) hx hb dL_tick_259 hl (by decide) rfl (fun ls hl => ?_)
            refine lv_goto (tgt := 385) hx hb dL_tick_261 (by decide) ?_
            refine lv_iload_n hx hb dL_tick_385 rfl (lv_at hl 14 rfl) ?_
            refine lv_iconst (v := 3) hx hb dL_tick_386 (by decide) ?_
            refine lv_icmp_ne (tgt := 400) hx hb dL_tick_387 (by decide) (fun _ => ?_) (fun h9 => absurd h9 (by decide))
            refine lv_iconst (v := 0) hx hb dL_tick_400 (by decide) ?_
            refine lv_istore (lv' := [(17, .int 0), (15, .int 2), (16, .float (f 7)), (4, .int (preG u v g 0 16)), (14, .int 1), (13, .int (cnF g (nI n) (nI K) ((bestK u g) + 1))), (12, .float ((goF u v f g 0) 7)), (11, .int (bestK u g)), (10, .int (oneF (g 12))), (9, .int (g 11)), (8, .int (g 7)), (7, .int (oneF (g 17))), (6, .int 0), (5, .int (g 14)), (3, .float (f 7)), (2, .int 2), (0, .ref o), (1, .int 0)]) hx hb dL_tick_401 hl (by decide) rfl (fun ls hl => ?_)
            refine lv_iload hx hb dL_tick_403 (lv_at hl 0 rfl) ?_
            refine lv_if_eq (tgt := 428) hx hb dL_tick_405 (by decide) (fun _ => ?_) (fun h9 => absurd (by decide) h9)
            refine lv_iconst (v := 0) hx hb dL_tick_428 (by decide) ?_
            refine lv_istore (lv' := [(18, .int 0), (17, .int 0), (15, .int 2), (16, .float (f 7)), (4, .int (preG u v g 0 16)), (14, .int 1), (13, .int (cnF g (nI n) (nI K) ((bestK u g) + 1))), (12, .float ((goF u v f g 0) 7)), (11, .int (bestK u g)), (10, .int (oneF (g 12))), (9, .int (g 11)), (8, .int (g 7)), (7, .int (oneF (g 17))), (6, .int 0), (5, .int (g 14)), (3, .float (f 7)), (2, .int 2), (0, .ref o), (1, .int 0)]) hx hb dL_tick_429 hl (by decide) rfl (fun ls hl => ?_)
            refine lv_aload_n hx hb dL_tick_431 rfl (lv_at hl 17 rfl) ?_
            refine lv_iload_n hx hb dL_tick_432 rfl (lv_at hl 18 rfl) ?_
            refine lv_iconst (v := 1) hx hb dL_tick_433 (by decide) ?_
            refine lw_i (rL (rest := []) ⟨hx, hb, hml, hown, hts⟩ (LB_pass_ok l G cA A o (u, v, f, g, L) n K ch hn 0 1 (by decide) (by decide) (by decide) (by decide) hT hG1 hBo) (cwV 2 hts gL_tick_X8_pass rfl rfl rfl mdX8_pass ⟨Nat.le_of_ble_eq_true rfl, Nat.le_of_ble_eq_true rfl⟩) hA hL rfl hl rfl (Nat.le_of_ble_eq_true rfl) dL_tick_434 ⟨Nat.le_of_ble_eq_true rfl, Nat.le_of_ble_eq_true rfl⟩) hA (fun r_434_7 _ H locs hr_434_7 hA hL => ?_)
            replace hL : LB G cA A o (u, v, (goF u v f g 0), (goG u v f g 0), (goL u v g L 0)) (recN n) K ch H := hL
            replace hr_434_7 : r_434_7 = (goG u v f g 0) 13 := hr_434_7
            subst hr_434_7
            refine lv_iload hx hb dL_tick_437 (lv_at hl 2 rfl) ?_
            refine lv_icmp_ne (tgt := 489) hx hb dL_tick_439 (by decide) (fun c_439_7 => absurd (ht.1.trans ((if_neg c_246_2).trans (if_neg (one_nz c_251_2)))) c_439_7) (fun c_439_7 => ?_)
            refine lv_aload_n hx hb dL_tick_442 rfl (lv_at hl 17 rfl) ?_
            refine lr_f (rL (rest := []) ⟨hx, hb, hml, hown, hts⟩ (LB_place l G cA A o (u, v, (goF u v f g 0), (goG u v f g 0), (goL u v g L 0)) (recN n) K ch  ) (cwV 0 hts gL_tick_X8_place rfl rfl rfl mdX8_place ⟨Nat.le_of_ble_eq_true rfl, Nat.le_of_ble_eq_true rfl⟩) hA hL rfl hl rfl (Nat.le_of_ble_eq_true rfl) dL_tick_443 ⟨Nat.le_of_ble_eq_true rfl, Nat.le_of_ble_eq_true rfl⟩) hA hL (fun r_443_7 H locs hr_443_7 hA hL => ?_)
            replace hr_443_7 : r_443_7 = (goF u v f g 0) 7 := hr_443_7
            subst hr_443_7
            refine lv_fload hx hb dL_tick_446 (lv_at hl 3 rfl) ?_
            refine lv_fcmp hx hb dL_tick_448 ?_
            refine lv_if_ne (tgt := 489) hx hb dL_tick_449 (by decide) (fun c_449_7 => absurd (by rw [ht.2.2.2]; exact cmp_self (of_vf hf) _) c_449_7) (fun c_449_7 => ?_)
            refine lv_fload hx hb dL_tick_452 (lv_at hl 7 rfl) ?_
            refine lv_fload hx hb dL_tick_454 (lv_at hl 3 rfl) ?_
            refine lv_fcmp hx hb dL_tick_456 ?_
            refine lv_if_ne (tgt := 489) hx hb dL_tick_457 (by decide) (fun c_457_7 => absurd (by rw [ht.2.2.2]; exact cmp_self (of_vf hf) _) c_457_7) (fun c_457_7 => ?_)
            refine lv_aload_n hx hb dL_tick_460 rfl (lv_at hl 17 rfl) ?_
            refine lv_iconst (v := 1) hx hb dL_tick_461 (by decide) ?_
            refine lr_i (rL (rest := []) ⟨hx, hb, hml, hown, hts⟩ (LB_door l G cA A o (u, v, (goF u v f g 0), (goG u v f g 0), (goL u v g L 0)) (recN n) K ch 1 ) (cwV 1 hts gL_tick_X8_door rfl rfl rfl mdX8_door ⟨Nat.le_of_ble_eq_true rfl, Nat.le_of_ble_eq_true rfl⟩) hA hL rfl hl rfl (Nat.le_of_ble_eq_true rfl) dL_tick_462 ⟨Nat.le_of_ble_eq_true rfl, Nat.le_of_ble_eq_true rfl⟩) hA hL (fun r_462_7 H locs hr_462_7 hA hL => ?_)
            replace hr_462_7 : r_462_7 = (goG u v f g 0) 16 := hr_462_7
            subst hr_462_7
            refine lv_iload hx hb dL_tick_465 (lv_at hl 4 rfl) ?_
            refine lv_icmp_ne (tgt := 489) hx hb dL_tick_467 (by decide) (fun c_467_7 => absurd ht.2.1 c_467_7) (fun c_467_7 => ?_)
            refine lv_aload_n hx hb dL_tick_470 rfl (lv_at hl 17 rfl) ?_
            refine lv_iconst (v := 2) hx hb dL_tick_471 (by decide) ?_
            refine lr_i (rL (rest := []) ⟨hx, hb, hml, hown, hts⟩ (LB_door l G cA A o (u, v, (goF u v f g 0), (goG u v f g 0), (goL u v g L 0)) (recN n) K ch 2 ) (cwV 1 hts gL_tick_X8_door rfl rfl rfl mdX8_door ⟨Nat.le_of_ble_eq_true rfl, Nat.le_of_ble_eq_true rfl⟩) hA hL rfl hl rfl (Nat.le_of_ble_eq_true rfl) dL_tick_472 ⟨Nat.le_of_ble_eq_true rfl, Nat.le_of_ble_eq_true rfl⟩) hA hL (fun r_472_7 H locs hr_472_7 hA hL => ?_)
            replace hr_472_7 : r_472_7 = oneF ((goG u v f g 0) 17) := hr_472_7
            subst hr_472_7
            refine lv_iload hx hb dL_tick_475 (lv_at hl 0 rfl) ?_
            refine lv_if_eq (tgt := 484) hx hb dL_tick_477 (by decide) (fun _ => ?_) (fun h9 => absurd (by decide) h9)
            refine lv_iload hx hb dL_tick_484 (lv_at hl 12 rfl) ?_
            refine lv_icmp_eq (tgt := 491) hx hb dL_tick_486 (by decide) (fun c_486_7 => ?_) (fun c_486_7 => absurd (by rw [ht.2.2.1] <;> rfl) c_486_7)
            refine lv_iload hx hb dL_tick_491 (lv_at hl 5 rfl) ?_
            refine lv_if_eq (tgt := 554) hx hb dL_tick_493 (by decide) (fun h9 => absurd h9 (by decide)) (fun _ => ?_)
            refine lv_aload_n hx hb dL_tick_496 rfl (lv_at hl 17 rfl) ?_
            refine lv_iconst (v := 0) hx hb dL_tick_497 (by decide) ?_
            refine lr_i (rL (rest := []) ⟨hx, hb, hml, hown, hts⟩ (LB_thing l G cA A o (u, v, (goF u v f g 0), (goG u v f g 0), (goL u v g L 0)) (recN n) K ch 0 hP2) (cwV 1 hts gL_tick_X8_thing rfl rfl rfl mdX8_thing ⟨Nat.le_of_ble_eq_true rfl, Nat.le_of_ble_eq_true rfl⟩) hA hL rfl hl rfl (Nat.le_of_ble_eq_true rfl) dL_tick_498 ⟨Nat.le_of_ble_eq_true rfl, Nat.le_of_ble_eq_true rfl⟩) hA hL (fun r_498_7 H locs hr_498_7 hA hL => ?_)
            replace hr_498_7 : r_498_7 = -5 := hr_498_7.trans (th_none 0 (by decide) (by decide) h5)
            subst hr_498_7
            refine lv_bipush (v := (-5)) hx hb dL_tick_501 (by decide) ?_
            refine lv_icmp_ne (tgt := 552) hx hb dL_tick_503 (by decide) (fun h9 => absurd (by decide) h9) (fun _ => ?_)
            refine lv_aload_n hx hb dL_tick_506 rfl (lv_at hl 17 rfl) ?_
            refine lv_iconst (v := 0) hx hb dL_tick_507 (by decide) ?_
            refine lv_iconst (v := 0) hx hb dL_tick_508 (by decide) ?_
            refine lr_i (rL (rest := []) ⟨hx, hb, hml, hown, hts⟩ (LB_judged l G cA A o (u, v, (goF u v f g 0), (goG u v f g 0), (goL u v g L 0)) (recN n) K ch 0 0 ) (cwV 2 hts gL_tick_X8_judged rfl rfl rfl mdX8_judged ⟨Nat.le_of_ble_eq_true rfl, Nat.le_of_ble_eq_true rfl⟩) hA hL rfl hl rfl (Nat.le_of_ble_eq_true rfl) dL_tick_509 ⟨Nat.le_of_ble_eq_true rfl, Nat.le_of_ble_eq_true rfl⟩) hA hL (fun r_509_7 H locs hr_509_7 hA hL => ?_)
            replace hr_509_7 : r_509_7 = bestK u g := hr_509_7.trans hju.1
            subst hr_509_7
            refine lv_iload hx hb dL_tick_512 (lv_at hl 8 rfl) ?_
            refine lv_icmp_ne (tgt := 552) hx hb dL_tick_514 (by decide) (fun c_514_7 => absurd rfl c_514_7) (fun c_514_7 => ?_)
            refine lv_aload_n hx hb dL_tick_517 rfl (lv_at hl 17 rfl) ?_
            refine lv_iload hx hb dL_tick_518 (lv_at hl 8 rfl) ?_
            refine lv_iconst (v := 1) hx hb dL_tick_520 (by decide) ?_
            refine lv_iadd hx hb dL_tick_521 ?_
            refine lr_i (rL (rest := []) ⟨hx, hb, hml, hown, hts⟩ (LB_count l G cA A o (u, v, (goF u v f g 0), (goG u v f g 0), (goL u v g L 0)) (recN n) K ch ((bestK u g) + 1)) (cwV 1 hts gL_tick_X8_count rfl rfl rfl mdX8_count ⟨Nat.le_of_ble_eq_true rfl, Nat.le_of_ble_eq_true rfl⟩) hA hL rfl hl rfl (Nat.le_of_ble_eq_true rfl) dL_tick_522 ⟨Nat.le_of_ble_eq_true rfl, Nat.le_of_ble_eq_true rfl⟩) hA hL (fun r_522_7 H locs hr_522_7 hA hL => ?_)
            replace hr_522_7 : r_522_7 = cnF (goG u v f g 0) (nI (recN n)) (nI K) ((bestK u g) + 1) := hr_522_7
            subst hr_522_7
            refine lv_iload hx hb dL_tick_525 (lv_at hl 6 rfl) ?_
            refine lv_iconst (v := 1) hx hb dL_tick_527 (by decide) ?_
            refine lv_iadd hx hb dL_tick_528 ?_
            refine lv_icmp_ne (tgt := 552) hx hb dL_tick_529 (by decide) (fun c_529_7 => absurd hcn c_529_7) (fun c_529_7 => ?_)
            refine lv_aload_n hx hb dL_tick_532 rfl (lv_at hl 17 rfl) ?_
            refine lv_iconst (v := 0) hx hb dL_tick_533 (by decide) ?_
            refine lv_iconst (v := 4) hx hb dL_tick_534 (by decide) ?_
            refine lr_i (rL (rest := []) ⟨hx, hb, hml, hown, hts⟩ (LB_judged l G cA A o (u, v, (goF u v f g 0), (goG u v f g 0), (goL u v g L 0)) (recN n) K ch 0 4 ) (cwV 2 hts gL_tick_X8_judged rfl rfl rfl mdX8_judged ⟨Nat.le_of_ble_eq_true rfl, Nat.le_of_ble_eq_true rfl⟩) hA hL rfl hl rfl (Nat.le_of_ble_eq_true rfl) dL_tick_535 ⟨Nat.le_of_ble_eq_true rfl, Nat.le_of_ble_eq_true rfl⟩) hA hL (fun r_535_7 H locs hr_535_7 hA hL => ?_)
            replace hr_535_7 : r_535_7 = (goG u v f g 0) 27 - 1 := hr_535_7.trans hju.2
            subst hr_535_7
            refine lv_aload_n hx hb dL_tick_538 rfl (lv_at hl 17 rfl) ?_
            refine lv_iconst (v := 0) hx hb dL_tick_539 (by decide) ?_
            refine lr_i (rL (rest := [.int ((goG u v f g 0) 27 - 1)]) ⟨hx, hb, hml, hown, hts⟩ (LB_count l G cA A o (u, v, (goF u v f g 0), (goG u v f g 0), (goL u v g L 0)) (recN n) K ch 0) (cwV 1 hts gL_tick_X8_count rfl rfl rfl mdX8_count ⟨Nat.le_of_ble_eq_true rfl, Nat.le_of_ble_eq_true rfl⟩) hA hL rfl hl rfl (Nat.le_of_ble_eq_true rfl) dL_tick_540 ⟨Nat.le_of_ble_eq_true rfl, Nat.le_of_ble_eq_true rfl⟩) hA hL (fun r_540_7 H locs hr_540_7 hA hL => ?_)
            replace hr_540_7 : r_540_7 = (goG u v f g 0) 27 := hr_540_7
            subst hr_540_7
            refine lv_iconst (v := 1) hx hb dL_tick_543 (by decide) ?_
            refine lv_isub hx hb dL_tick_544 ?_
            refine lv_icmp_ne (tgt := 552) hx hb dL_tick_545 (by decide) (fun c_545_7 => absurd rfl c_545_7) (fun c_545_7 => ?_)
            refine lv_iconst (v := 1) hx hb dL_tick_548 (by decide) ?_
            refine lv_goto (tgt := 553) hx hb dL_tick_549 (by decide) ?_
            exact en_l (post := fun r (_ : Unit) => r = 1) (B := fun _ H => LB G cA A o (u, v, (goF u v f g 0), (goG u v f g 0), (goL u v g L 0)) (recN n) K ch H) () hx hb hr hlocks hA rfl hL dL_tick_553
          · skip
            refine lv_iconst (v := 3) hx hb dL_tick_254 (by decide) ?_
            refine lv_goto (tgt := 259) hx hb dL_tick_255 (by decide) ?_
            refine lv_istore (lv' := [(15, .int 3), (16, .float (f 7)), (4, .int (preG u v g 0 16)), (14, .int 1), (13, .int (cnF g (nI n) (nI K) ((bestK u g) + 1))), (12, .float ((goF u v f g 0) 7)), (11, .int (bestK u g)), (10, .int (oneF (g 12))), (9, .int (g 11)), (8, .int (g 7)), (7, .int (oneF (g 17))), (6, .int 0), (5, .int (g 14)), (3, .float (f 7)), (2, .int 2), (0, .ref o), (1, .int 0)]) hx hb dL_tick_259 hl (by decide) rfl (fun ls hl => ?_)
            refine lv_goto (tgt := 385) hx hb dL_tick_261 (by decide) ?_
            refine lv_iload_n hx hb dL_tick_385 rfl (lv_at hl 14 rfl) ?_
            refine lv_iconst (v := 3) hx hb dL_tick_386 (by decide) ?_
            refine lv_icmp_ne (tgt := 400) hx hb dL_tick_387 (by decide) (fun _ => ?_) (fun h9 => absurd h9 (by decide))
            refine lv_iconst (v := 0) hx hb dL_tick_400 (by decide) ?_
            refine lv_istore (lv' := [(17, .int 0), (15, .int 3), (16, .float (f 7)), (4, .int (preG u v g 0 16)), (14, .int 1), (13, .int (cnF g (nI n) (nI K) ((bestK u g) + 1))), (12, .float ((goF u v f g 0) 7)), (11, .int (bestK u g)), (10, .int (oneF (g 12))), (9, .int (g 11)), (8, .int (g 7)), (7, .int (oneF (g 17))), (6, .int 0), (5, .int (g 14)), (3, .float (f 7)), (2, .int 2), (0, .ref o), (1, .int 0)]) hx hb dL_tick_401 hl (by decide) rfl (fun ls hl => ?_)
            refine lv_iload hx hb dL_tick_403 (lv_at hl 0 rfl) ?_
            refine lv_if_eq (tgt := 428) hx hb dL_tick_405 (by decide) (fun _ => ?_) (fun h9 => absurd (by decide) h9)
            refine lv_iconst (v := 0) hx hb dL_tick_428 (by decide) ?_
            refine lv_istore (lv' := [(18, .int 0), (17, .int 0), (15, .int 3), (16, .float (f 7)), (4, .int (preG u v g 0 16)), (14, .int 1), (13, .int (cnF g (nI n) (nI K) ((bestK u g) + 1))), (12, .float ((goF u v f g 0) 7)), (11, .int (bestK u g)), (10, .int (oneF (g 12))), (9, .int (g 11)), (8, .int (g 7)), (7, .int (oneF (g 17))), (6, .int 0), (5, .int (g 14)), (3, .float (f 7)), (2, .int 2), (0, .ref o), (1, .int 0)]) hx hb dL_tick_429 hl (by decide) rfl (fun ls hl => ?_)
            refine lv_aload_n hx hb dL_tick_431 rfl (lv_at hl 17 rfl) ?_
            refine lv_iload_n hx hb dL_tick_432 rfl (lv_at hl 18 rfl) ?_
            refine lv_iconst (v := 1) hx hb dL_tick_433 (by decide) ?_
            refine lw_i (rL (rest := []) ⟨hx, hb, hml, hown, hts⟩ (LB_pass_ok l G cA A o (u, v, f, g, L) n K ch hn 0 1 (by decide) (by decide) (by decide) (by decide) hT hG1 hBo) (cwV 2 hts gL_tick_X8_pass rfl rfl rfl mdX8_pass ⟨Nat.le_of_ble_eq_true rfl, Nat.le_of_ble_eq_true rfl⟩) hA hL rfl hl rfl (Nat.le_of_ble_eq_true rfl) dL_tick_434 ⟨Nat.le_of_ble_eq_true rfl, Nat.le_of_ble_eq_true rfl⟩) hA (fun r_434_8 _ H locs hr_434_8 hA hL => ?_)
            replace hL : LB G cA A o (u, v, (goF u v f g 0), (goG u v f g 0), (goL u v g L 0)) (recN n) K ch H := hL
            replace hr_434_8 : r_434_8 = (goG u v f g 0) 13 := hr_434_8
            subst hr_434_8
            refine lv_iload hx hb dL_tick_437 (lv_at hl 2 rfl) ?_
            refine lv_icmp_ne (tgt := 489) hx hb dL_tick_439 (by decide) (fun c_439_8 => absurd (ht.1.trans ((if_neg c_246_2).trans (if_pos (one_z c_251_2)))) c_439_8) (fun c_439_8 => ?_)
            refine lv_aload_n hx hb dL_tick_442 rfl (lv_at hl 17 rfl) ?_
            refine lr_f (rL (rest := []) ⟨hx, hb, hml, hown, hts⟩ (LB_place l G cA A o (u, v, (goF u v f g 0), (goG u v f g 0), (goL u v g L 0)) (recN n) K ch  ) (cwV 0 hts gL_tick_X8_place rfl rfl rfl mdX8_place ⟨Nat.le_of_ble_eq_true rfl, Nat.le_of_ble_eq_true rfl⟩) hA hL rfl hl rfl (Nat.le_of_ble_eq_true rfl) dL_tick_443 ⟨Nat.le_of_ble_eq_true rfl, Nat.le_of_ble_eq_true rfl⟩) hA hL (fun r_443_8 H locs hr_443_8 hA hL => ?_)
            replace hr_443_8 : r_443_8 = (goF u v f g 0) 7 := hr_443_8
            subst hr_443_8
            refine lv_fload hx hb dL_tick_446 (lv_at hl 3 rfl) ?_
            refine lv_fcmp hx hb dL_tick_448 ?_
            refine lv_if_ne (tgt := 489) hx hb dL_tick_449 (by decide) (fun c_449_8 => absurd (by rw [ht.2.2.2]; exact cmp_self (of_vf hf) _) c_449_8) (fun c_449_8 => ?_)
            refine lv_fload hx hb dL_tick_452 (lv_at hl 7 rfl) ?_
            refine lv_fload hx hb dL_tick_454 (lv_at hl 3 rfl) ?_
            refine lv_fcmp hx hb dL_tick_456 ?_
            refine lv_if_ne (tgt := 489) hx hb dL_tick_457 (by decide) (fun c_457_8 => absurd (by rw [ht.2.2.2]; exact cmp_self (of_vf hf) _) c_457_8) (fun c_457_8 => ?_)
            refine lv_aload_n hx hb dL_tick_460 rfl (lv_at hl 17 rfl) ?_
            refine lv_iconst (v := 1) hx hb dL_tick_461 (by decide) ?_
            refine lr_i (rL (rest := []) ⟨hx, hb, hml, hown, hts⟩ (LB_door l G cA A o (u, v, (goF u v f g 0), (goG u v f g 0), (goL u v g L 0)) (recN n) K ch 1 ) (cwV 1 hts gL_tick_X8_door rfl rfl rfl mdX8_door ⟨Nat.le_of_ble_eq_true rfl, Nat.le_of_ble_eq_true rfl⟩) hA hL rfl hl rfl (Nat.le_of_ble_eq_true rfl) dL_tick_462 ⟨Nat.le_of_ble_eq_true rfl, Nat.le_of_ble_eq_true rfl⟩) hA hL (fun r_462_8 H locs hr_462_8 hA hL => ?_)
            replace hr_462_8 : r_462_8 = (goG u v f g 0) 16 := hr_462_8
            subst hr_462_8
            refine lv_iload hx hb dL_tick_465 (lv_at hl 4 rfl) ?_
            refine lv_icmp_ne (tgt := 489) hx hb dL_tick_467 (by decide) (fun c_467_8 => absurd ht.2.1 c_467_8) (fun c_467_8 => ?_)
            refine lv_aload_n hx hb dL_tick_470 rfl (lv_at hl 17 rfl) ?_
            refine lv_iconst (v := 2) hx hb dL_tick_471 (by decide) ?_
            refine lr_i (rL (rest := []) ⟨hx, hb, hml, hown, hts⟩ (LB_door l G cA A o (u, v, (goF u v f g 0), (goG u v f g 0), (goL u v g L 0)) (recN n) K ch 2 ) (cwV 1 hts gL_tick_X8_door rfl rfl rfl mdX8_door ⟨Nat.le_of_ble_eq_true rfl, Nat.le_of_ble_eq_true rfl⟩) hA hL rfl hl rfl (Nat.le_of_ble_eq_true rfl) dL_tick_472 ⟨Nat.le_of_ble_eq_true rfl, Nat.le_of_ble_eq_true rfl⟩) hA hL (fun r_472_8 H locs hr_472_8 hA hL => ?_)
            replace hr_472_8 : r_472_8 = oneF ((goG u v f g 0) 17) := hr_472_8
            subst hr_472_8
            refine lv_iload hx hb dL_tick_475 (lv_at hl 0 rfl) ?_
            refine lv_if_eq (tgt := 484) hx hb dL_tick_477 (by decide) (fun _ => ?_) (fun h9 => absurd (by decide) h9)
            refine lv_iload hx hb dL_tick_484 (lv_at hl 12 rfl) ?_
            refine lv_icmp_eq (tgt := 491) hx hb dL_tick_486 (by decide) (fun c_486_8 => ?_) (fun c_486_8 => absurd (by rw [ht.2.2.1] <;> rfl) c_486_8)
            refine lv_iload hx hb dL_tick_491 (lv_at hl 5 rfl) ?_
            refine lv_if_eq (tgt := 554) hx hb dL_tick_493 (by decide) (fun h9 => absurd h9 (by decide)) (fun _ => ?_)
            refine lv_aload_n hx hb dL_tick_496 rfl (lv_at hl 17 rfl) ?_
            refine lv_iconst (v := 0) hx hb dL_tick_497 (by decide) ?_
            refine lr_i (rL (rest := []) ⟨hx, hb, hml, hown, hts⟩ (LB_thing l G cA A o (u, v, (goF u v f g 0), (goG u v f g 0), (goL u v g L 0)) (recN n) K ch 0 hP2) (cwV 1 hts gL_tick_X8_thing rfl rfl rfl mdX8_thing ⟨Nat.le_of_ble_eq_true rfl, Nat.le_of_ble_eq_true rfl⟩) hA hL rfl hl rfl (Nat.le_of_ble_eq_true rfl) dL_tick_498 ⟨Nat.le_of_ble_eq_true rfl, Nat.le_of_ble_eq_true rfl⟩) hA hL (fun r_498_8 H locs hr_498_8 hA hL => ?_)
            replace hr_498_8 : r_498_8 = -5 := hr_498_8.trans (th_none 0 (by decide) (by decide) h5)
            subst hr_498_8
            refine lv_bipush (v := (-5)) hx hb dL_tick_501 (by decide) ?_
            refine lv_icmp_ne (tgt := 552) hx hb dL_tick_503 (by decide) (fun h9 => absurd (by decide) h9) (fun _ => ?_)
            refine lv_aload_n hx hb dL_tick_506 rfl (lv_at hl 17 rfl) ?_
            refine lv_iconst (v := 0) hx hb dL_tick_507 (by decide) ?_
            refine lv_iconst (v := 0) hx hb dL_tick_508 (by decide) ?_
            refine lr_i (rL (rest := []) ⟨hx, hb, hml, hown, hts⟩ (LB_judged l G cA A o (u, v, (goF u v f g 0), (goG u v f g 0), (goL u v g L 0)) (recN n) K ch 0 0 ) (cwV 2 hts gL_tick_X8_judged rfl rfl rfl mdX8_judged ⟨Nat.le_of_ble_eq_true rfl, Nat.le_of_ble_eq_true rfl⟩) hA hL rfl hl rfl (Nat.le_of_ble_eq_true rfl) dL_tick_509 ⟨Nat.le_of_ble_eq_true rfl, Nat.le_of_ble_eq_true rfl⟩) hA hL (fun r_509_8 H locs hr_509_8 hA hL => ?_)
            replace hr_509_8 : r_509_8 = bestK u g := hr_509_8.trans hju.1
            subst hr_509_8
            refine lv_iload hx hb dL_tick_512 (lv_at hl 8 rfl) ?_
            refine lv_icmp_ne (tgt := 552) hx hb dL_tick_514 (by decide) (fun c_514_8 => absurd rfl c_514_8) (fun c_514_8 => ?_)
            refine lv_aload_n hx hb dL_tick_517 rfl (lv_at hl 17 rfl) ?_
            refine lv_iload hx hb dL_tick_518 (lv_at hl 8 rfl) ?_
            refine lv_iconst (v := 1) hx hb dL_tick_520 (by decide) ?_
            refine lv_iadd hx hb dL_tick_521 ?_
            refine lr_i (rL (rest := []) ⟨hx, hb, hml, hown, hts⟩ (LB_count l G cA A o (u, v, (goF u v f g 0), (goG u v f g 0), (goL u v g L 0)) (recN n) K ch ((bestK u g) + 1)) (cwV 1 hts gL_tick_X8_count rfl rfl rfl mdX8_count ⟨Nat.le_of_ble_eq_true rfl, Nat.le_of_ble_eq_true rfl⟩) hA hL rfl hl rfl (Nat.le_of_ble_eq_true rfl) dL_tick_522 ⟨Nat.le_of_ble_eq_true rfl, Nat.le_of_ble_eq_true rfl⟩) hA hL (fun r_522_8 H locs hr_522_8 hA hL => ?_)
            replace hr_522_8 : r_522_8 = cnF (goG u v f g 0) (nI (recN n)) (nI K) ((bestK u g) + 1) := hr_522_8
            subst hr_522_8
            refine lv_iload hx hb dL_tick_525 (lv_at hl 6 rfl) ?_
            refine lv_iconst (v := 1) hx hb dL_tick_527 (by decide) ?_
            refine lv_iadd hx hb dL_tick_528 ?_
            refine lv_icmp_ne (tgt := 552) hx hb dL_tick_529 (by decide) (fun c_529_8 => absurd hcn c_529_8) (fun c_529_8 => ?_)
            refine lv_aload_n hx hb dL_tick_532 rfl (lv_at hl 17 rfl) ?_
            refine lv_iconst (v := 0) hx hb dL_tick_533 (by decide) ?_
            refine lv_iconst (v := 4) hx hb dL_tick_534 (by decide) ?_
            refine lr_i (rL (rest := []) ⟨hx, hb, hml, hown, hts⟩ (LB_judged l G cA A o (u, v, (goF u v f g 0), (goG u v f g 0), (goL u v g L 0)) (recN n) K ch 0 4 ) (cwV 2 hts gL_tick_X8_judged rfl rfl rfl mdX8_judged ⟨Nat.le_of_ble_eq_true rfl, Nat.le_of_ble_eq_true rfl⟩) hA hL rfl hl rfl (Nat.le_of_ble_eq_true rfl) dL_tick_535 ⟨Nat.le_of_ble_eq_true rfl, Nat.le_of_ble_eq_true rfl⟩) hA hL (fun r_535_8 H locs hr_535_8 hA hL => ?_)
            replace hr_535_8 : r_535_8 = (goG u v f g 0) 27 - 1 := hr_535_8.trans hju.2
            subst hr_535_8
            refine lv_aload_n hx hb dL_tick_538 rfl (lv_at hl 17 rfl) ?_
            refine lv_iconst (v := 0) hx hb dL_tick_539 (by decide) ?_
            refine lr_i (rL (rest := [.int ((goG u v f g 0) 27 - 1)]) ⟨hx, hb, hml, hown, hts⟩ (LB_count l G cA A o (u, v, (goF u v f g 0), (goG u v f g 0), (goL u v g L 0)) (recN n) K ch 0) (cwV 1 hts gL_tick_X8_count rfl rfl rfl mdX8_count ⟨Nat.le_of_ble_eq_true rfl, Nat.le_of_ble_eq_true rfl⟩) hA hL rfl hl rfl (Nat.le_of_ble_eq_true rfl) dL_tick_540 ⟨Nat.le_of_ble_eq_true rfl, Nat.le_of_ble_eq_true rfl⟩) hA hL (fun r_540_8 H locs hr_540_8 hA hL => ?_)
            replace hr_540_8 : r_540_8 = (goG u v f g 0) 27 := hr_540_8
            subst hr_540_8
            refine lv_iconst (v := 1) hx hb dL_tick_543 (by decide) ?_
            refine lv_isub hx hb dL_tick_544 ?_
            refine lv_icmp_ne (tgt := 552) hx hb dL_tick_545 (by decide) (fun c_545_8 => absurd rfl c_545_8) (fun c_545_8 => ?_)
            refine lv_iconst (v := 1) hx hb dL_tick_548 (by decide) ?_
            refine lv_goto (tgt := 553) hx hb dL_tick_549 (by decide) ?_
            exact en_l (post := fun r (_ : Unit) => r = 1) (B := fun _ H => LB G cA A o (u, v, (goF u v f g 0), (goG u v f g 0), (goL u v g L 0)) (recN n) K ch H) () hx hb hr hlocks hA rfl hL dL_tick_553
      · skip
        refine lv_iconst (v := 1) hx hb dL_tick_165 (by decide) ?_
        refine lv_goto (tgt := 170) hx hb dL_tick_166 (by decide) ?_
        refine lv_isub hx hb dL_tick_170 ?_
        refine W.eq (g2 := F0 m 171 ls [.int (preG u v g 0 16)]) (by rw [hp16, if_pos c_151, if_neg (one_y1 c_157), if_neg c_162]) ?_
        refine lv_istore (lv' := [(4, .int (preG u v g 0 16)), (14, .int 1), (13, .int (cnF g (nI n) (nI K) ((bestK u g) + 1))), (12, .float ((goF u v f g 0) 7)), (11, .int (bestK u g)), (10, .int (oneF (g 12))), (9, .int (g 11)), (8, .int (g 7)), (7, .int (oneF (g 17))), (6, .int 0), (5, .int (g 14)), (3, .float (f 7)), (2, .int 2), (0, .ref o), (1, .int 0)]) hx hb dL_tick_171 hl (by decide) rfl (fun ls hl => ?_)
        refine lv_iload_n hx hb dL_tick_173 rfl (lv_at hl 12 rfl) ?_
        refine lv_istore (lv' := [(15, .int 2), (4, .int (preG u v g 0 16)), (14, .int 1), (13, .int (cnF g (nI n) (nI K) ((bestK u g) + 1))), (12, .float ((goF u v f g 0) 7)), (11, .int (bestK u g)), (10, .int (oneF (g 12))), (9, .int (g 11)), (8, .int (g 7)), (7, .int (oneF (g 17))), (6, .int 0), (5, .int (g 14)), (3, .float (f 7)), (2, .int 2), (0, .ref o), (1, .int 0)]) hx hb dL_tick_174 hl (by decide) rfl (fun ls hl => ?_)
        refine lv_fload_n hx hb dL_tick_176 rfl (lv_at hl 12 rfl) ?_
        refine lv_fstore (lv' := [(16, .float (f 7)), (15, .int 2), (4, .int (preG u v g 0 16)), (14, .int 1), (13, .int (cnF g (nI n) (nI K) ((bestK u g) + 1))), (12, .float ((goF u v f g 0) 7)), (11, .int (bestK u g)), (10, .int (oneF (g 12))), (9, .int (g 11)), (8, .int (g 7)), (7, .int (oneF (g 17))), (6, .int 0), (5, .int (g 14)), (3, .float (f 7)), (2, .int 2), (0, .ref o), (1, .int 0)]) hx hb dL_tick_177 hl (by decide) rfl (fun ls hl => ?_)
        refine lv_iload_n hx hb dL_tick_179 rfl (lv_at hl 14 rfl) ?_
        refine lv_iconst (v := 1) hx hb dL_tick_180 (by decide) ?_
        refine lv_icmp_ne (tgt := 228) hx hb dL_tick_181 (by decide) (fun _ => ?_) (fun h9 => absurd h9 (by decide))
        refine lv_iload_n hx hb dL_tick_228 rfl (lv_at hl 14 rfl) ?_
        refine lv_iconst (v := 2) hx hb dL_tick_229 (by decide) ?_
        refine lv_icmp_ne (tgt := 264) hx hb dL_tick_230 (by decide) (fun h9 => absurd (by decide) h9) (fun _ => ?_)
        refine lv_iload_n hx hb dL_tick_233 rfl (lv_at hl 16 rfl) ?_
        refine lv_if_ne (tgt := 258) hx hb dL_tick_234 (by decide) (fun h9 => absurd (by decide) h9) (fun _ => ?_)
        refine lv_iload hx hb dL_tick_237 (lv_at hl 12 rfl) ?_
        refine lv_iconst (v := 1) hx hb dL_tick_239 (by decide) ?_
        refine lv_iadd hx hb dL_tick_240 ?_
        refine lv_aload_n hx hb dL_tick_241 rfl (lv_at hl 15 rfl) ?_
        refine lv_iconst (v := 0) hx hb dL_tick_242 (by decide) ?_
        refine lr_i (rL (rest := [.int ((g 14) + 1)]) ⟨hx, hb, hml, hown, hts⟩ (LB_number l G cA A o (u, v, f, g, L) n K ch 0 ) (cwV 1 hts gL_tick_X8_number rfl rfl rfl mdX8_number ⟨Nat.le_of_ble_eq_true rfl, Nat.le_of_ble_eq_true rfl⟩) hA hL rfl hl rfl (Nat.le_of_ble_eq_true rfl) dL_tick_243 ⟨Nat.le_of_ble_eq_true rfl, Nat.le_of_ble_eq_true rfl⟩) hA hL (fun r_243_3 H locs hr_243_3 hA hL => ?_)
        replace hr_243_3 : r_243_3 = v 0 := hr_243_3
        subst hr_243_3
        refine lv_icmp_lt (tgt := 258) hx hb dL_tick_246 (by decide) (fun c_246_3 => ?_) (fun c_246_3 => ?_)
        · skip
          refine lv_iconst (v := 2) hx hb dL_tick_258 (by decide) ?_
          refine lv_istore (lv' := [(15, .int 2), (16, .float (f 7)), (4, .int (preG u v g 0 16)), (14, .int 1), (13, .int (cnF g (nI n) (nI K) ((bestK u g) + 1))), (12, .float ((goF u v f g 0) 7)), (11, .int (bestK u g)), (10, .int (oneF (g 12))), (9, .int (g 11)), (8, .int (g 7)), (7, .int (oneF (g 17))), (6, .int 0), (5, .int (g 14)), (3, .float (f 7)), (2, .int 2), (0, .ref o), (1, .int 0)]) hx hb dL_tick_259 hl (by decide) rfl (fun ls hl => ?_)
          refine lv_goto (tgt := 385) hx hb dL_tick_261 (by decide) ?_
          refine lv_iload_n hx hb dL_tick_385 rfl (lv_at hl 14 rfl) ?_
          refine lv_iconst (v := 3) hx hb dL_tick_386 (by decide) ?_
          refine lv_icmp_ne (tgt := 400) hx hb dL_tick_387 (by decide) (fun _ => ?_) (fun h9 => absurd h9 (by decide))
          refine lv_iconst (v := 0) hx hb dL_tick_400 (by decide) ?_
          refine lv_istore (lv' := [(17, .int 0), (15, .int 2), (16, .float (f 7)), (4, .int (preG u v g 0 16)), (14, .int 1), (13, .int (cnF g (nI n) (nI K) ((bestK u g) + 1))), (12, .float ((goF u v f g 0) 7)), (11, .int (bestK u g)), (10, .int (oneF (g 12))), (9, .int (g 11)), (8, .int (g 7)), (7, .int (oneF (g 17))), (6, .int 0), (5, .int (g 14)), (3, .float (f 7)), (2, .int 2), (0, .ref o), (1, .int 0)]) hx hb dL_tick_401 hl (by decide) rfl (fun ls hl => ?_)
          refine lv_iload hx hb dL_tick_403 (lv_at hl 0 rfl) ?_
          refine lv_if_eq (tgt := 428) hx hb dL_tick_405 (by decide) (fun _ => ?_) (fun h9 => absurd (by decide) h9)
          refine lv_iconst (v := 0) hx hb dL_tick_428 (by decide) ?_
          refine lv_istore (lv' := [(18, .int 0), (17, .int 0), (15, .int 2), (16, .float (f 7)), (4, .int (preG u v g 0 16)), (14, .int 1), (13, .int (cnF g (nI n) (nI K) ((bestK u g) + 1))), (12, .float ((goF u v f g 0) 7)), (11, .int (bestK u g)), (10, .int (oneF (g 12))), (9, .int (g 11)), (8, .int (g 7)), (7, .int (oneF (g 17))), (6, .int 0), (5, .int (g 14)), (3, .float (f 7)), (2, .int 2), (0, .ref o), (1, .int 0)]) hx hb dL_tick_429 hl (by decide) rfl (fun ls hl => ?_)
          refine lv_aload_n hx hb dL_tick_431 rfl (lv_at hl 17 rfl) ?_
          refine lv_iload_n hx hb dL_tick_432 rfl (lv_at hl 18 rfl) ?_
          refine lv_iconst (v := 1) hx hb dL_tick_433 (by decide) ?_
          refine lw_i (rL (rest := []) ⟨hx, hb, hml, hown, hts⟩ (LB_pass_ok l G cA A o (u, v, f, g, L) n K ch hn 0 1 (by decide) (by decide) (by decide) (by decide) hT hG1 hBo) (cwV 2 hts gL_tick_X8_pass rfl rfl rfl mdX8_pass ⟨Nat.le_of_ble_eq_true rfl, Nat.le_of_ble_eq_true rfl⟩) hA hL rfl hl rfl (Nat.le_of_ble_eq_true rfl) dL_tick_434 ⟨Nat.le_of_ble_eq_true rfl, Nat.le_of_ble_eq_true rfl⟩) hA (fun r_434_9 _ H locs hr_434_9 hA hL => ?_)
          replace hL : LB G cA A o (u, v, (goF u v f g 0), (goG u v f g 0), (goL u v g L 0)) (recN n) K ch H := hL
          replace hr_434_9 : r_434_9 = (goG u v f g 0) 13 := hr_434_9
          subst hr_434_9
          refine lv_iload hx hb dL_tick_437 (lv_at hl 2 rfl) ?_
          refine lv_icmp_ne (tgt := 489) hx hb dL_tick_439 (by decide) (fun c_439_9 => absurd (ht.1.trans (if_pos c_246_3)) c_439_9) (fun c_439_9 => ?_)
          refine lv_aload_n hx hb dL_tick_442 rfl (lv_at hl 17 rfl) ?_
          refine lr_f (rL (rest := []) ⟨hx, hb, hml, hown, hts⟩ (LB_place l G cA A o (u, v, (goF u v f g 0), (goG u v f g 0), (goL u v g L 0)) (recN n) K ch  ) (cwV 0 hts gL_tick_X8_place rfl rfl rfl mdX8_place ⟨Nat.le_of_ble_eq_true rfl, Nat.le_of_ble_eq_true rfl⟩) hA hL rfl hl rfl (Nat.le_of_ble_eq_true rfl) dL_tick_443 ⟨Nat.le_of_ble_eq_true rfl, Nat.le_of_ble_eq_true rfl⟩) hA hL (fun r_443_9 H locs hr_443_9 hA hL => ?_)
          replace hr_443_9 : r_443_9 = (goF u v f g 0) 7 := hr_443_9
          subst hr_443_9
          refine lv_fload hx hb dL_tick_446 (lv_at hl 3 rfl) ?_
          refine lv_fcmp hx hb dL_tick_448 ?_
          refine lv_if_ne (tgt := 489) hx hb dL_tick_449 (by decide) (fun c_449_9 => absurd (by rw [ht.2.2.2]; exact cmp_self (of_vf hf) _) c_449_9) (fun c_449_9 => ?_)
          refine lv_fload hx hb dL_tick_452 (lv_at hl 7 rfl) ?_
          refine lv_fload hx hb dL_tick_454 (lv_at hl 3 rfl) ?_
          refine lv_fcmp hx hb dL_tick_456 ?_
          refine lv_if_ne (tgt := 489) hx hb dL_tick_457 (by decide) (fun c_457_9 => absurd (by rw [ht.2.2.2]; exact cmp_self (of_vf hf) _) c_457_9) (fun c_457_9 => ?_)
          refine lv_aload_n hx hb dL_tick_460 rfl (lv_at hl 17 rfl) ?_
          refine lv_iconst (v := 1) hx hb dL_tick_461 (by decide) ?_
          refine lr_i (rL (rest := []) ⟨hx, hb, hml, hown, hts⟩ (LB_door l G cA A o (u, v, (goF u v f g 0), (goG u v f g 0), (goL u v g L 0)) (recN n) K ch 1 ) (cwV 1 hts gL_tick_X8_door rfl rfl rfl mdX8_door ⟨Nat.le_of_ble_eq_true rfl, Nat.le_of_ble_eq_true rfl⟩) hA hL rfl hl rfl (Nat.le_of_ble_eq_true rfl) dL_tick_462 ⟨Nat.le_of_ble_eq_true rfl, Nat.le_of_ble_eq_true rfl⟩) hA hL (fun r_462_9 H locs hr_462_9 hA hL => ?_)
          replace hr_462_9 : r_462_9 = (goG u v f g 0) 16 := hr_462_9
          subst hr_462_9
          refine lv_iload hx hb dL_tick_465 (lv_at hl 4 rfl) ?_
          refine lv_icmp_ne (tgt := 489) hx hb dL_tick_467 (by decide) (fun c_467_9 => absurd ht.2.1 c_467_9) (fun c_467_9 => ?_)
          refine lv_aload_n hx hb dL_tick_470 rfl (lv_at hl 17 rfl) ?_
          refine lv_iconst (v := 2) hx hb dL_tick_471 (by decide) ?_
          refine lr_i (rL (rest := []) ⟨hx, hb, hml, hown, hts⟩ (LB_door l G cA A o (u, v, (goF u v f g 0), (goG u v f g 0), (goL u v g L 0)) (recN n) K ch 2 ) (cwV 1 hts gL_tick_X8_door rfl rfl rfl mdX8_door ⟨Nat.le_of_ble_eq_true rfl, Nat.le_of_ble_eq_true rfl⟩) hA hL rfl hl rfl (Nat.le_of_ble_eq_true rfl) dL_tick_472 ⟨Nat.le_of_ble_eq_true rfl, Nat.le_of_ble_eq_true rfl⟩) hA hL (fun r_472_9 H locs hr_472_9 hA hL => ?_)
          replace hr_472_9 : r_472_9 = oneF ((goG u v f g 0) 17) := hr_472_9
          subst hr_472_9
          refine lv_iload hx hb dL_tick_475 (lv_at hl 0 rfl) ?_
          refine lv_if_eq (tgt := 484) hx hb dL_tick_477 (by decide) (fun _ => ?_) (fun h9 => absurd (by decide) h9)
          refine lv_iload hx hb dL_tick_484 (lv_at hl 12 rfl) ?_
          refine lv_icmp_eq (tgt := 491) hx hb dL_tick_486 (by decide) (fun c_486_9 => ?_) (fun c_486_9 => absurd (by rw [ht.2.2.1] <;> rfl) c_486_9)
          refine lv_iload hx hb dL_tick_491 (lv_at hl 5 rfl) ?_
          refine lv_if_eq (tgt := 554) hx hb dL_tick_493 (by decide) (fun h9 => absurd h9 (by decide)) (fun _ => ?_)
          refine lv_aload_n hx hb dL_tick_496 rfl (lv_at hl 17 rfl) ?_
          refine lv_iconst (v := 0) hx hb dL_tick_497 (by decide) ?_
          refine lr_i (rL (rest := []) ⟨hx, hb, hml, hown, hts⟩ (LB_thing l G cA A o (u, v, (goF u v f g 0), (goG u v f g 0), (goL u v g L 0)) (recN n) K ch 0 hP2) (cwV 1 hts gL_tick_X8_thing rfl rfl rfl mdX8_thing ⟨Nat.le_of_ble_eq_true rfl, Nat.le_of_ble_eq_true rfl⟩) hA hL rfl hl rfl (Nat.le_of_ble_eq_true rfl) dL_tick_498 ⟨Nat.le_of_ble_eq_true rfl, Nat.le_of_ble_eq_true rfl⟩) hA hL (fun r_498_9 H locs hr_498_9 hA hL => ?_)
          replace hr_498_9 : r_498_9 = -5 := hr_498_9.trans (th_none 0 (by decide) (by decide) h5)
          subst hr_498_9
          refine lv_bipush (v := (-5)) hx hb dL_tick_501 (by decide) ?_
          refine lv_icmp_ne (tgt := 552) hx hb dL_tick_503 (by decide) (fun h9 => absurd (by decide) h9) (fun _ => ?_)
          refine lv_aload_n hx hb dL_tick_506 rfl (lv_at hl 17 rfl) ?_
          refine lv_iconst (v := 0) hx hb dL_tick_507 (by decide) ?_
          refine lv_iconst (v := 0) hx hb dL_tick_508 (by decide) ?_
          refine lr_i (rL (rest := []) ⟨hx, hb, hml, hown, hts⟩ (LB_judged l G cA A o (u, v, (goF u v f g 0), (goG u v f g 0), (goL u v g L 0)) (recN n) K ch 0 0 ) (cwV 2 hts gL_tick_X8_judged rfl rfl rfl mdX8_judged ⟨Nat.le_of_ble_eq_true rfl, Nat.le_of_ble_eq_true rfl⟩) hA hL rfl hl rfl (Nat.le_of_ble_eq_true rfl) dL_tick_509 ⟨Nat.le_of_ble_eq_true rfl, Nat.le_of_ble_eq_true rfl⟩) hA hL (fun r_509_9 H locs hr_509_9 hA hL => ?_)
          replace hr_509_9 : r_509_9 = bestK u g := hr_509_9.trans hju.1
          subst hr_509_9
          refine lv_iload hx hb dL_tick_512 (lv_at hl 8 rfl) ?_
          refine lv_icmp_ne (tgt := 552) hx hb dL_tick_514 (by decide) (fun c_514_9 => absurd rfl c_514_9) (fun c_514_9 => ?_)
          refine lv_aload_n hx hb dL_tick_517 rfl (lv_at hl 17 rfl) ?_
          refine lv_iload hx hb dL_tick_518 (lv_at hl 8 rfl) ?_
          refine lv_iconst (v := 1) hx hb dL_tick_520 (by decide) ?_
          refine lv_iadd hx hb dL_tick_521 ?_
          refine lr_i (rL (rest := []) ⟨hx, hb, hml, hown, hts⟩ (LB_count l G cA A o (u, v, (goF u v f g 0), (goG u v f g 0), (goL u v g L 0)) (recN n) K ch ((bestK u g) + 1)) (cwV 1 hts gL_tick_X8_count rfl rfl rfl mdX8_count ⟨Nat.le_of_ble_eq_true rfl, Nat.le_of_ble_eq_true rfl⟩) hA hL rfl hl rfl (Nat.le_of_ble_eq_true rfl) dL_tick_522 ⟨Nat.le_of_ble_eq_true rfl, Nat.le_of_ble_eq_true rfl⟩) hA hL (fun r_522_9 H locs hr_522_9 hA hL => ?_)
          replace hr_522_9 : r_522_9 = cnF (goG u v f g 0) (nI (recN n)) (nI K) ((bestK u g) + 1) := hr_522_9
          subst hr_522_9
          refine lv_iload hx hb dL_tick_525 (lv_at hl 6 rfl) ?_
          refine lv_iconst (v := 1) hx hb dL_tick_527 (by decide) ?_
          refine lv_iadd hx hb dL_tick_528 ?_
          refine lv_icmp_ne (tgt := 552) hx hb dL_tick_529 (by decide) (fun c_529_9 => absurd hcn c_529_9) (fun c_529_9 => ?_)
          refine lv_aload_n hx hb dL_tick_532 rfl (lv_at hl 17 rfl) ?_
          refine lv_iconst (v := 0) hx hb dL_tick_533 (by decide) ?_
          refine lv_iconst (v := 4) hx hb dL_tick_534 (by decide) ?_
          refine lr_i (rL (rest := []) ⟨hx, hb, hml, hown, hts⟩ (LB_judged l G cA A o (u, v, (goF u v f g 0), (goG u v f g 0), (goL u v g L 0)) (recN n) K ch 0 4 ) (cwV 2 hts gL_tick_X8_judged rfl rfl rfl mdX8_judged ⟨Nat.le_of_ble_eq_true rfl, Nat.le_of_ble_eq_true rfl⟩) hA hL rfl hl rfl (Nat.le_of_ble_eq_true rfl) dL_tick_535 ⟨Nat.le_of_ble_eq_true rfl, Nat.le_of_ble_eq_true rfl⟩) hA hL (fun r_535_9 H locs hr_535_9 hA hL => ?_)
          replace hr_535_9 : r_535_9 = (goG u v f g 0) 27 - 1 := hr_535_9.trans hju.2
          subst hr_535_9
          refine lv_aload_n hx hb dL_tick_538 rfl (lv_at hl 17 rfl) ?_
          refine lv_iconst (v := 0) hx hb dL_tick_539 (by decide) ?_
          refine lr_i (rL (rest := [.int ((goG u v f g 0) 27 - 1)]) ⟨hx, hb, hml, hown, hts⟩ (LB_count l G cA A o (u, v, (goF u v f g 0), (goG u v f g 0), (goL u v g L 0)) (recN n) K ch 0) (cwV 1 hts gL_tick_X8_count rfl rfl rfl mdX8_count ⟨Nat.le_of_ble_eq_true rfl, Nat.le_of_ble_eq_true rfl⟩) hA hL rfl hl rfl (Nat.le_of_ble_eq_true rfl) dL_tick_540 ⟨Nat.le_of_ble_eq_true rfl, Nat.le_of_ble_eq_true rfl⟩) hA hL (fun r_540_9 H locs hr_540_9 hA hL => ?_)
          replace hr_540_9 : r_540_9 = (goG u v f g 0) 27 := hr_540_9
          subst hr_540_9
          refine lv_iconst (v := 1) hx hb dL_tick_543 (by decide) ?_
          refine lv_isub hx hb dL_tick_544 ?_
          refine lv_icmp_ne (tgt := 552) hx hb dL_tick_545 (by decide) (fun c_545_9 => absurd rfl c_545_9) (fun c_545_9 => ?_)
          refine lv_iconst (v := 1) hx hb dL_tick_548 (by decide) ?_
          refine lv_goto (tgt := 553) hx hb dL_tick_549 (by decide) ?_
          exact en_l (post := fun r (_ : Unit) => r = 1) (B := fun _ H => LB G cA A o (u, v, (goF u v f g 0), (goG u v f g 0), (goL u v g L 0)) (recN n) K ch H) () hx hb hr hlocks hA rfl hL dL_tick_553
        · skip
          refine lv_iload hx hb dL_tick_249 (lv_at hl 10 rfl) ?_
          refine lv_if_ne (tgt := 258) hx hb dL_tick_251 (by decide) (fun c_251_3 => ?_) (fun c_251_3 => ?_)
          · skip
            refine lv_iconst (v := 2) hx hb dL_tick_258 (by decide) ?_
            refine lv_istore (lv' := [(15, .int 2), (16, .float (f 7)), (4, .int (preG u v g 0 16)), (14, .int 1), (13, .int (cnF g (nI n) (nI K) ((bestK u g) + 1))), (12, .float ((goF u v f g 0) 7)), (11, .int (bestK u g)), (10, .int (oneF (g 12))), (9, .int (g 11)), (8, .int (g 7)), (7, .int (oneF (g 17))), (6, .int 0), (5, .int (g 14)), (3, .float (f 7)), (2, .int 2), (0, .ref o), (1, .int 0)]) hx hb dL_tick_259 hl (by decide) rfl (fun ls hl => ?_)
            refine lv_goto (tgt := 385) hx hb dL_tick_261 (by decide) ?_
            refine lv_iload_n hx hb dL_tick_385 rfl (lv_at hl 14 rfl) ?_
            refine lv_iconst (v := 3) hx hb dL_tick_386 (by decide) ?_
            refine lv_icmp_ne (tgt := 400) hx hb dL_tick_387 (by decide) (fun _ => ?_) (fun h9 => absurd h9 (by decide))
            refine lv_iconst (v := 0) hx hb dL_tick_400 (by decide) ?_
            refine lv_istore (lv' := [(17, .int 0), (15, .int 2), (16, .float (f 7)), (4, .int (preG u v g 0 16)), (14, .int 1), (13, .int (cnF g (nI n) (nI K) ((bestK u g) + 1))), (12, .float ((goF u v f g 0) 7)), (11, .int (bestK u g)), (10, .int (oneF (g 12))), (9, .int (g 11)), (8, .int (g 7)), (7, .int (oneF (g 17))), (6, .int 0), (5, .int (g 14)), (3, .float (f 7)), (2, .int 2), (0, .ref o), (1, .int 0)]) hx hb dL_tick_401 hl (by decide) rfl (fun ls hl => ?_)
            refine lv_iload hx hb dL_tick_403 (lv_at hl 0 rfl) ?_
            refine lv_if_eq (tgt := 428) hx hb dL_tick_405 (by decide) (fun _ => ?_) (fun h9 => absurd (by decide) h9)
            refine lv_iconst (v := 0) hx hb dL_tick_428 (by decide) ?_
            refine lv_istore (lv' := [(18, .int 0), (17, .int 0), (15, .int 2), (16, .float (f 7)), (4, .int (preG u v g 0 16)), (14, .int 1), (13, .int (cnF g (nI n) (nI K) ((bestK u g) + 1))), (12, .float ((goF u v f g 0) 7)), (11, .int (bestK u g)), (10, .int (oneF (g 12))), (9, .int (g 11)), (8, .int (g 7)), (7, .int (oneF (g 17))), (6, .int 0), (5, .int (g 14)), (3, .float (f 7)), (2, .int 2), (0, .ref o), (1, .int 0)]) hx hb dL_tick_429 hl (by decide) rfl (fun ls hl => ?_)
            refine lv_aload_n hx hb dL_tick_431 rfl (lv_at hl 17 rfl) ?_
            refine lv_iload_n hx hb dL_tick_432 rfl (lv_at hl 18 rfl) ?_
            refine lv_iconst (v := 1) hx hb dL_tick_433 (by decide) ?_
            refine lw_i (rL (rest := []) ⟨hx, hb, hml, hown, hts⟩ (LB_pass_ok l G cA A o (u, v, f, g, L) n K ch hn 0 1 (by decide) (by decide) (by decide) (by decide) hT hG1 hBo) (cwV 2 hts gL_tick_X8_pass rfl rfl rfl mdX8_pass ⟨Nat.le_of_ble_eq_true rfl, Nat.le_of_ble_eq_true rfl⟩) hA hL rfl hl rfl (Nat.le_of_ble_eq_true rfl) dL_tick_434 ⟨Nat.le_of_ble_eq_true rfl, Nat.le_of_ble_eq_true rfl⟩) hA (fun r_434_10 _ H locs hr_434_10 hA hL => ?_)
            replace hL : LB G cA A o (u, v, (goF u v f g 0), (goG u v f g 0), (goL u v g L 0)) (recN n) K ch H := hL
            replace hr_434_10 : r_434_10 = (goG u v f g 0) 13 := hr_434_10
            subst hr_434_10
            refine lv_iload hx hb dL_tick_437 (lv_at hl 2 rfl) ?_
            refine lv_icmp_ne (tgt := 489) hx hb dL_tick_439 (by decide) (fun c_439_10 => absurd (ht.1.trans ((if_neg c_246_3).trans (if_neg (one_nz c_251_3)))) c_439_10) (fun c_439_10 => ?_)
            refine lv_aload_n hx hb dL_tick_442 rfl (lv_at hl 17 rfl) ?_
            refine lr_f (rL (rest := []) ⟨hx, hb, hml, hown, hts⟩ (LB_place l G cA A o (u, v, (goF u v f g 0), (goG u v f g 0), (goL u v g L 0)) (recN n) K ch  ) (cwV 0 hts gL_tick_X8_place rfl rfl rfl mdX8_place ⟨Nat.le_of_ble_eq_true rfl, Nat.le_of_ble_eq_true rfl⟩) hA hL rfl hl rfl (Nat.le_of_ble_eq_true rfl) dL_tick_443 ⟨Nat.le_of_ble_eq_true rfl, Nat.le_of_ble_eq_true rfl⟩) hA hL (fun r_443_10 H locs hr_443_10 hA hL => ?_)
            replace hr_443_10 : r_443_10 = (goF u v f g 0) 7 := hr_443_10
            subst hr_443_10
            refine lv_fload hx hb dL_tick_446 (lv_at hl 3 rfl) ?_
            refine lv_fcmp hx hb dL_tick_448 ?_
            refine lv_if_ne (tgt := 489) hx hb dL_tick_449 (by decide) (fun c_449_10 => absurd (by rw [ht.2.2.2]; exact cmp_self (of_vf hf) _) c_449_10) (fun c_449_10 => ?_)
            refine lv_fload hx hb dL_tick_452 (lv_at hl 7 rfl) ?_
            refine lv_fload hx hb dL_tick_454 (lv_at hl 3 rfl) ?_
            refine lv_fcmp hx hb dL_tick_456 ?_
            refine lv_if_ne (tgt := 489) hx hb dL_tick_457 (by decide) (fun c_457_10 => absurd (by rw [ht.2.2.2]; exact cmp_self (of_vf hf) _) c_457_10) (fun c_457_10 => ?_)
            refine lv_aload_n hx hb dL_tick_460 rfl (lv_at hl 17 rfl) ?_
            refine lv_iconst (v := 1) hx hb dL_tick_461 (by decide) ?_
            refine lr_i (rL (rest := []) ⟨hx, hb, hml, hown, hts⟩ (LB_door l G cA A o (u, v, (goF u v f g 0), (goG u v f g 0), (goL u v g L 0)) (recN n) K ch 1 ) (cwV 1 hts gL_tick_X8_door rfl rfl rfl mdX8_door ⟨Nat.le_of_ble_eq_true rfl, Nat.le_of_ble_eq_true rfl⟩) hA hL rfl hl rfl (Nat.le_of_ble_eq_true rfl) dL_tick_462 ⟨Nat.le_of_ble_eq_true rfl, Nat.le_of_ble_eq_true rfl⟩) hA hL (fun r_462_10 H locs hr_462_10 hA hL => ?_)
            replace hr_462_10 : r_462_10 = (goG u v f g 0) 16 := hr_462_10
            subst hr_462_10
            refine lv_iload hx hb dL_tick_465 (lv_at hl 4 rfl) ?_
            refine lv_icmp_ne (tgt := 489) hx hb dL_tick_467 (by decide) (fun c_467_10 => absurd ht.2.1 c_467_10) (fun c_467_10 => ?_)
            refine lv_aload_n hx hb dL_tick_470 rfl (lv_at hl 17 rfl) ?_
            refine lv_iconst (v := 2) hx hb dL_tick_471 (by decide) ?_
            refine lr_i (rL (rest := []) ⟨hx, hb, hml, hown, hts⟩ (LB_door l G cA A o (u, v, (goF u v f g 0), (goG u v f g 0), (goL u v g L 0)) (recN n) K ch 2 ) (cwV 1 hts gL_tick_X8_door rfl rfl rfl mdX8_door ⟨Nat.le_of_ble_eq_true rfl, Nat.le_of_ble_eq_true rfl⟩) hA hL rfl hl rfl (Nat.le_of_ble_eq_true rfl) dL_tick_472 ⟨Nat.le_of_ble_eq_true rfl, Nat.le_of_ble_eq_true rfl⟩) hA hL (fun r_472_10 H locs hr_472_10 hA hL => ?_)
            replace hr_472_10 : r_472_10 = oneF ((goG u v f g 0) 17) := hr_472_10
            subst hr_472_10
            refine lv_iload hx hb dL_tick_475 (lv_at hl 0 rfl) ?_
            refine lv_if_eq (tgt := 484) hx hb dL_tick_477 (by decide) (fun _ => ?_) (fun h9 => absurd (by decide) h9)
            refine lv_iload hx hb dL_tick_484 (lv_at hl 12 rfl) ?_
            refine lv_icmp_eq (tgt := 491) hx hb dL_tick_486 (by decide) (fun c_486_10 => ?_) (fun c_486_10 => absurd (by rw [ht.2.2.1] <;> rfl) c_486_10)
            refine lv_iload hx hb dL_tick_491 (lv_at hl 5 rfl) ?_
            refine lv_if_eq (tgt := 554) hx hb dL_tick_493 (by decide) (fun h9 => absurd h9 (by decide)) (fun _ => ?_)
            refine lv_aload_n hx hb dL_tick_496 rfl (lv_at hl 17 rfl) ?_
            refine lv_iconst (v := 0) hx hb dL_tick_497 (by decide) ?_
            refine lr_i (rL (rest := []) ⟨hx, hb, hml, hown, hts⟩ (LB_thing l G cA A o (u, v, (goF u v f g 0), (goG u v f g 0), (goL u v g L 0)) (recN n) K ch 0 hP2) (cwV 1 hts gL_tick_X8_thing rfl rfl rfl mdX8_thing ⟨Nat.le_of_ble_eq_true rfl, Nat.le_of_ble_eq_true rfl⟩) hA hL rfl hl rfl (Nat.le_of_ble_eq_true rfl) dL_tick_498 ⟨Nat.le_of_ble_eq_true rfl, Nat.le_of_ble_eq_true rfl⟩) hA hL (fun r_498_10 H locs hr_498_10 hA hL => ?_)
            replace hr_498_10 : r_498_10 = -5 := hr_498_10.trans (th_none 0 (by decide) (by decide) h5)
            subst hr_498_10
            refine lv_bipush (v := (-5)) hx hb dL_tick_501 (by decide) ?_
            refine lv_icmp_ne (tgt := 552) hx hb dL_tick_503 (by decide) (fun h9 => absurd (by decide) h9) (fun _ => ?_)
            refine lv_aload_n hx hb dL_tick_506 rfl (lv_at hl 17 rfl) ?_
            refine lv_iconst (v := 0) hx hb dL_tick_507 (by decide) ?_
            refine lv_iconst (v := 0) hx hb dL_tick_508 (by decide) ?_
            refine lr_i (rL (rest := []) ⟨hx, hb, hml, hown, hts⟩ (LB_judged l G cA A o (u, v, (goF u v f g 0), (goG u v f g 0), (goL u v g L 0)) (recN n) K ch 0 0 ) (cwV 2 hts gL_tick_X8_judged rfl rfl rfl mdX8_judged ⟨Nat.le_of_ble_eq_true rfl, Nat.le_of_ble_eq_true rfl⟩) hA hL rfl hl rfl (Nat.le_of_ble_eq_true rfl) dL_tick_509 ⟨Nat.le_of_ble_eq_true rfl, Nat.le_of_ble_eq_true rfl⟩) hA hL (fun r_509_10 H locs hr_509_10 hA hL => ?_)
            replace hr_509_10 : r_509_10 = bestK u g := hr_509_10.trans hju.1
            subst hr_509_10
            refine lv_iload hx hb dL_tick_512 (lv_at hl 8 rfl) ?_
            refine lv_icmp_ne (tgt := 552) hx hb dL_tick_514 (by decide) (fun c_514_10 => absurd rfl c_514_10) (fun c_514_10 => ?_)
            refine lv_aload_n hx hb dL_tick_517 rfl (lv_at hl 17 rfl) ?_
            refine lv_iload hx hb dL_tick_518 (lv_at hl 8 rfl) ?_
            refine lv_iconst (v := 1) hx hb dL_tick_520 (by decide) ?_
            refine lv_iadd hx hb dL_tick_521 ?_
            refine lr_i (rL (rest := []) ⟨hx, hb, hml, hown, hts⟩ (LB_count l G cA A o (u, v, (goF u v f g 0), (goG u v f g 0), (goL u v g L 0)) (recN n) K ch ((bestK u g) + 1)) (cwV 1 hts gL_tick_X8_count rfl rfl rfl mdX8_count ⟨Nat.le_of_ble_eq_true rfl, Nat.le_of_ble_eq_true rfl⟩) hA hL rfl hl rfl (Nat.le_of_ble_eq_true rfl) dL_tick_522 ⟨Nat.le_of_ble_eq_true rfl, Nat.le_of_ble_eq_true rfl⟩) hA hL (fun r_522_10 H locs hr_522_10 hA hL => ?_)
            replace hr_522_10 : r_522_10 = cnF (goG u v f g 0) (nI (recN n)) (nI K) ((bestK u g) + 1) := hr_522_10
            subst hr_522_10
            refine lv_iload hx hb dL_tick_525 (lv_at hl 6 rfl) ?_
            refine lv_iconst (v := 1) hx hb dL_tick_527 (by decide) ?_
            refine lv_iadd hx hb dL_tick_528 ?_
            refine lv_icmp_ne (tgt := 552) hx hb dL_tick_529 (by decide) (fun c_529_10 => absurd hcn c_529_10) (fun c_529_10 => ?_)
            refine lv_aload_n hx hb dL_tick_532 rfl (lv_at hl 17 rfl) ?_
            refine lv_iconst (v := 0) hx hb dL_tick_533 (by decide) ?_
            refine lv_iconst (v := 4) hx hb dL_tick_534 (by decide) ?_
            refine lr_i (rL (rest := []) ⟨hx, hb, hml, hown, hts⟩ (LB_judged l G cA A o (u, v, (goF u v f g 0), (goG u v f g 0), (goL u v g L 0)) (recN n) K ch 0 4 ) (cwV 2 hts gL_tick_X8_judged rfl rfl rfl mdX8_judged ⟨Nat.le_of_ble_eq_true rfl, Nat.le_of_ble_eq_true rfl⟩) hA hL rfl hl rfl (Nat.le_of_ble_eq_true rfl) dL_tick_535 ⟨Nat.le_of_ble_eq_true rfl, Nat.le_of_ble_eq_true rfl⟩) hA hL (fun r_535_10 H locs hr_535_10 hA hL => ?_)
            replace hr_535_10 : r_535_10 = (goG u v f g 0) 27 - 1 := hr_535_10.trans hju.2
            subst hr_535_10
            refine lv_aload_n hx hb dL_tick_538 rfl (lv_at hl 17 rfl) ?_
            refine lv_iconst (v := 0) hx hb dL_tick_539 (by decide) ?_
            refine lr_i (rL (rest := [.int ((goG u v f g 0) 27 - 1)]) ⟨hx, hb, hml, hown, hts⟩ (LB_count l G cA A o (u, v, (goF u v f g 0), (goG u v f g 0), (goL u v g L 0)) (recN n) K ch 0) (cwV 1 hts gL_tick_X8_count rfl rfl rfl mdX8_count ⟨Nat.le_of_ble_eq_true rfl, Nat.le_of_ble_eq_true rfl⟩) hA hL rfl hl rfl (Nat.le_of_ble_eq_true rfl) dL_tick_540 ⟨Nat.le_of_ble_eq_true rfl, Nat.le_of_ble_eq_true rfl⟩) hA hL (fun r_540_10 H locs hr_540_10 hA hL => ?_)
            replace hr_540_10 : r_540_10 = (goG u v f g 0) 27 := hr_540_10
            subst hr_540_10
            refine lv_iconst (v := 1) hx hb dL_tick_543 (by decide) ?_
            refine lv_isub hx hb dL_tick_544 ?_
            refine lv_icmp_ne (tgt := 552) hx hb dL_tick_545 (by decide) (fun c_545_10 => absurd rfl c_545_10) (fun c_545_10 => ?_)
            refine lv_iconst (v := 1) hx hb dL_tick_548 (by decide) ?_
            refine lv_goto (tgt := 553) hx hb dL_tick_549 (by decide) ?_
            exact en_l (post := fun r (_ : Unit) => r = 1) (B := fun _ H => LB G cA A o (u, v, (goF u v f g 0), (goG u v f g 0), (goL u v g L 0)) (recN n) K ch H) () hx hb hr hlocks hA rfl hL dL_tick_553
          · skip
            refine lv_iconst (v := 3) hx hb dL_tick_254 (by decide) ?_
            refine lv_goto (tgt := 259) hx hb dL_tick_255 (by decide) ?_
            refine lv_istore (lv' := [(15, .int 3), (16, .float (f 7)), (4, .int (preG u v g 0 16)), (14, .int 1), (13, .int (cnF g (nI n) (nI K) ((bestK u g) + 1))), (12, .float ((goF u v f g 0) 7)), (11, .int (bestK u g)), (10, .int (oneF (g 12))), (9, .int (g 11)), (8, .int (g 7)), (7, .int (oneF (g 17))), (6, .int 0), (5, .int (g 14)), (3, .float (f 7)), (2, .int 2), (0, .ref o), (1, .int 0)]) hx hb dL_tick_259 hl (by decide) rfl (fun ls hl => ?_)
            refine lv_goto (tgt := 385) hx hb dL_tick_261 (by decide) ?_
            refine lv_iload_n hx hb dL_tick_385 rfl (lv_at hl 14 rfl) ?_
            refine lv_iconst (v := 3) hx hb dL_tick_386 (by decide) ?_
            refine lv_icmp_ne (tgt := 400) hx hb dL_tick_387 (by decide) (fun _ => ?_) (fun h9 => absurd h9 (by decide))
            refine lv_iconst (v := 0) hx hb dL_tick_400 (by decide) ?_
            refine lv_istore (lv' := [(17, .int 0), (15, .int 3), (16, .float (f 7)), (4, .int (preG u v g 0 16)), (14, .int 1), (13, .int (cnF g (nI n) (nI K) ((bestK u g) + 1))), (12, .float ((goF u v f g 0) 7)), (11, .int (bestK u g)), (10, .int (oneF (g 12))), (9, .int (g 11)), (8, .int (g 7)), (7, .int (oneF (g 17))), (6, .int 0), (5, .int (g 14)), (3, .float (f 7)), (2, .int 2), (0, .ref o), (1, .int 0)]) hx hb dL_tick_401 hl (by decide) rfl (fun ls hl => ?_)
            refine lv_iload hx hb dL_tick_403 (lv_at hl 0 rfl) ?_
            refine lv_if_eq (tgt := 428) hx hb dL_tick_405 (by decide) (fun _ => ?_) (fun h9 => absurd (by decide) h9)
            refine lv_iconst (v := 0) hx hb dL_tick_428 (by decide) ?_
            refine lv_istore (lv' := [(18, .int 0), (17, .int 0), (15, .int 3), (16, .float (f 7)), (4, .int (preG u v g 0 16)), (14, .int 1), (13, .int (cnF g (nI n) (nI K) ((bestK u g) + 1))), (12, .float ((goF u v f g 0) 7)), (11, .int (bestK u g)), (10, .int (oneF (g 12))), (9, .int (g 11)), (8, .int (g 7)), (7, .int (oneF (g 17))), (6, .int 0), (5, .int (g 14)), (3, .float (f 7)), (2, .int 2), (0, .ref o), (1, .int 0)]) hx hb dL_tick_429 hl (by decide) rfl (fun ls hl => ?_)
            refine lv_aload_n hx hb dL_tick_431 rfl (lv_at hl 17 rfl) ?_
            refine lv_iload_n hx hb dL_tick_432 rfl (lv_at hl 18 rfl) ?_
            refine lv_iconst (v := 1) hx hb dL_tick_433 (by decide) ?_
            refine lw_i (rL (rest := []) ⟨hx, hb, hml, hown, hts⟩ (LB_pass_ok l G cA A o (u, v, f, g, L) n K ch hn 0 1 (by decide) (by decide) (by decide) (by decide) hT hG1 hBo) (cwV 2 hts gL_tick_X8_pass rfl rfl rfl mdX8_pass ⟨Nat.le_of_ble_eq_true rfl, Nat.le_of_ble_eq_true rfl⟩) hA hL rfl hl rfl (Nat.le_of_ble_eq_true rfl) dL_tick_434 ⟨Nat.le_of_ble_eq_true rfl, Nat.le_of_ble_eq_true rfl⟩) hA (fun r_434_11 _ H locs hr_434_11 hA hL => ?_)
            replace hL : LB G cA A o (u, v, (goF u v f g 0), (goG u v f g 0), (goL u v g L 0)) (recN n) K ch H := hL
            replace hr_434_11 : r_434_11 = (goG u v f g 0) 13 := hr_434_11
            subst hr_434_11
            refine lv_iload hx hb dL_tick_437 (lv_at hl 2 rfl) ?_
            refine lv_icmp_ne (tgt := 489) hx hb dL_tick_439 (by decide) (fun c_439_11 => absurd (ht.1.trans ((if_neg c_246_3).trans (if_pos (one_z c_251_3)))) c_439_11) (fun c_439_11 => ?_)
            refine lv_aload_n hx hb dL_tick_442 rfl (lv_at hl 17 rfl) ?_
            refine lr_f (rL (rest := []) ⟨hx, hb, hml, hown, hts⟩ (LB_place l G cA A o (u, v, (goF u v f g 0), (goG u v f g 0), (goL u v g L 0)) (recN n) K ch  ) (cwV 0 hts gL_tick_X8_place rfl rfl rfl mdX8_place ⟨Nat.le_of_ble_eq_true rfl, Nat.le_of_ble_eq_true rfl⟩) hA hL rfl hl rfl (Nat.le_of_ble_eq_true rfl) dL_tick_443 ⟨Nat.le_of_ble_eq_true rfl, Nat.le_of_ble_eq_true rfl⟩) hA hL (fun r_443_11 H locs hr_443_11 hA hL => ?_)
            replace hr_443_11 : r_443_11 = (goF u v f g 0) 7 := hr_443_11
            subst hr_443_11
            refine lv_fload hx hb dL_tick_446 (lv_at hl 3 rfl) ?_
            refine lv_fcmp hx hb dL_tick_448 ?_
            refine lv_if_ne (tgt := 489) hx hb dL_tick_449 (by decide) (fun c_449_11 => absurd (by rw [ht.2.2.2]; exact cmp_self (of_vf hf) _) c_449_11) (fun c_449_11 => ?_)
            refine lv_fload hx hb dL_tick_452 (lv_at hl 7 rfl) ?_
            refine lv_fload hx hb dL_tick_454 (lv_at hl 3 rfl) ?_
            refine lv_fcmp hx hb dL_tick_456 ?_
            refine lv_if_ne (tgt := 489) hx hb dL_tick_457 (by decide) (fun c_457_11 => absurd (by rw [ht.2.2.2]; exact cmp_self (of_vf hf) _) c_457_11) (fun c_457_11 => ?_)
            refine lv_aload_n hx hb dL_tick_460 rfl (lv_at hl 17 rfl) ?_
            refine lv_iconst (v := 1) hx hb dL_tick_461 (by decide) ?_
            refine lr_i (rL (rest := []) ⟨hx, hb, hml, hown, hts⟩ (LB_door l G cA A o (u, v, (goF u v f g 0), (goG u v f g 0), (goL u v g L 0)) (recN n) K ch 1 ) (cwV 1 hts gL_tick_X8_door rfl rfl rfl mdX8_door ⟨Nat.le_of_ble_eq_true rfl, Nat.le_of_ble_eq_true rfl⟩) hA hL rfl hl rfl (Nat.le_of_ble_eq_true rfl) dL_tick_462 ⟨Nat.le_of_ble_eq_true rfl, Nat.le_of_ble_eq_true rfl⟩) hA hL (fun r_462_11 H locs hr_462_11 hA hL => ?_)
            replace hr_462_11 : r_462_11 = (goG u v f g 0) 16 := hr_462_11
            subst hr_462_11
            refine lv_iload hx hb dL_tick_465 (lv_at hl 4 rfl) ?_
            refine lv_icmp_ne (tgt := 489) hx hb dL_tick_467 (by decide) (fun c_467_11 => absurd ht.2.1 c_467_11) (fun c_467_11 => ?_)
            refine lv_aload_n hx hb dL_tick_470 rfl (lv_at hl 17 rfl) ?_
            refine lv_iconst (v := 2) hx hb dL_tick_471 (by decide) ?_
            refine lr_i (rL (rest := []) ⟨hx, hb, hml, hown, hts⟩ (LB_door l G cA A o (u, v, (goF u v f g 0), (goG u v f g 0), (goL u v g L 0)) (recN n) K ch 2 ) (cwV 1 hts gL_tick_X8_door rfl rfl rfl mdX8_door ⟨Nat.le_of_ble_eq_true rfl, Nat.le_of_ble_eq_true rfl⟩) hA hL rfl hl rfl (Nat.le_of_ble_eq_true rfl) dL_tick_472 ⟨Nat.le_of_ble_eq_true rfl, Nat.le_of_ble_eq_true rfl⟩) hA hL (fun r_472_11 H locs hr_472_11 hA hL => ?_)
            replace hr_472_11 : r_472_11 = oneF ((goG u v f g 0) 17) := hr_472_11
            subst hr_472_11
            refine lv_iload hx hb dL_tick_475 (lv_at hl 0 rfl) ?_
            refine lv_if_eq (tgt := 484) hx hb dL_tick_477 (by decide) (fun _ => ?_) (fun h9 => absurd (by decide) h9)
            refine lv_iload hx hb dL_tick_484 (lv_at hl 12 rfl) ?_
            refine lv_icmp_eq (tgt := 491) hx hb dL_tick_486 (by decide) (fun c_486_11 => ?_) (fun c_486_11 => absurd (by rw [ht.2.2.1] <;> rfl) c_486_11)
            refine lv_iload hx hb dL_tick_491 (lv_at hl 5 rfl) ?_
            refine lv_if_eq (tgt := 554) hx hb dL_tick_493 (by decide) (fun h9 => absurd h9 (by decide)) (fun _ => ?_)
            refine lv_aload_n hx hb dL_tick_496 rfl (lv_at hl 17 rfl) ?_
            refine lv_iconst (v := 0) hx hb dL_tick_497 (by decide) ?_
            refine lr_i (rL (rest := []) ⟨hx, hb, hml, hown, hts⟩ (LB_thing l G cA A o (u, v, (goF u v f g 0), (goG u v f g 0), (goL u v g L 0)) (recN n) K ch 0 hP2) (cwV 1 hts gL_tick_X8_thing rfl rfl rfl mdX8_thing ⟨Nat.le_of_ble_eq_true rfl, Nat.le_of_ble_eq_true rfl⟩) hA hL rfl hl rfl (Nat.le_of_ble_eq_true rfl) dL_tick_498 ⟨Nat.le_of_ble_eq_true rfl, Nat.le_of_ble_eq_true rfl⟩) hA hL (fun r_498_11 H locs hr_498_11 hA hL => ?_)
            replace hr_498_11 : r_498_11 = -5 := hr_498_11.trans (th_none 0 (by decide) (by decide) h5)
            subst hr_498_11
            refine lv_bipush (v := (-5)) hx hb dL_tick_501 (by decide) ?_
            refine lv_icmp_ne (tgt := 552) hx hb dL_tick_503 (by decide) (fun h9 => absurd (by decide) h9) (fun _ => ?_)
            refine lv_aload_n hx hb dL_tick_506 rfl (lv_at hl 17 rfl) ?_
            refine lv_iconst (v := 0) hx hb dL_tick_507 (by decide) ?_
            refine lv_iconst (v := 0) hx hb dL_tick_508 (by decide) ?_
            refine lr_i (rL (rest := []) ⟨hx, hb, hml, hown, hts⟩ (LB_judged l G cA A o (u, v, (goF u v f g 0), (goG u v f g 0), (goL u v g L 0)) (recN n) K ch 0 0 ) (cwV 2 hts gL_tick_X8_judged rfl rfl rfl mdX8_judged ⟨Nat.le_of_ble_eq_true rfl, Nat.le_of_ble_eq_true rfl⟩) hA hL rfl hl rfl (Nat.le_of_ble_eq_true rfl) dL_tick_509 ⟨Nat.le_of_ble_eq_true rfl, Nat.le_of_ble_eq_true rfl⟩) hA hL (fun r_509_11 H locs hr_509_11 hA hL => ?_)
            replace hr_509_11 : r_509_11 = bestK u g := hr_509_11.trans hju.1
            subst hr_509_11
            refine lv_iload hx hb dL_tick_512 (lv_at hl 8 rfl) ?_
            refine lv_icmp_ne (tgt := 552) hx hb dL_tick_514 (by decide) (fun c_514_11 => absurd rfl c_514_11) (fun c_514_11 => ?_)
            refine lv_aload_n hx hb dL_tick_517 rfl (lv_at hl 17 rfl) ?_
            refine lv_iload hx hb dL_tick_518 (lv_at hl 8 rfl) ?_
            refine lv_iconst (v := 1) hx hb dL_tick_520 (by decide) ?_
            refine lv_iadd hx hb dL_tick_521 ?_
            refine lr_i (rL (rest := []) ⟨hx, hb, hml, hown, hts⟩ (LB_count l G cA A o (u, v, (goF u v f g 0), (goG u v f g 0), (goL u v g L 0)) (recN n) K ch ((bestK u g) + 1)) (cwV 1 hts gL_tick_X8_count rfl rfl rfl mdX8_count ⟨Nat.le_of_ble_eq_true rfl, Nat.le_of_ble_eq_true rfl⟩) hA hL rfl hl rfl (Nat.le_of_ble_eq_true rfl) dL_tick_522 ⟨Nat.le_of_ble_eq_true rfl, Nat.le_of_ble_eq_true rfl⟩) hA hL (fun r_522_11 H locs hr_522_11 hA hL => ?_)
            replace hr_522_11 : r_522_11 = cnF (goG u v f g 0) (nI (recN n)) (nI K) ((bestK u g) + 1) := hr_522_11
            subst hr_522_11
            refine lv_iload hx hb dL_tick_525 (lv_at hl 6 rfl) ?_
            refine lv_iconst (v := 1) hx hb dL_tick_527 (by decide) ?_
            refine lv_iadd hx hb dL_tick_528 ?_
            refine lv_icmp_ne (tgt := 552) hx hb dL_tick_529 (by decide) (fun c_529_11 => absurd hcn c_529_11) (fun c_529_11 => ?_)
            refine lv_aload_n hx hb dL_tick_532 rfl (lv_at hl 17 rfl) ?_
            refine lv_iconst (v := 0) hx hb dL_tick_533 (by decide) ?_
            refine lv_iconst (v := 4) hx hb dL_tick_534 (by decide) ?_
            refine lr_i (rL (rest := []) ⟨hx, hb, hml, hown, hts⟩ (LB_judged l G cA A o (u, v, (goF u v f g 0), (goG u v f g 0), (goL u v g L 0)) (recN n) K ch 0 4 ) (cwV 2 hts gL_tick_X8_judged rfl rfl rfl mdX8_judged ⟨Nat.le_of_ble_eq_true rfl, Nat.le_of_ble_eq_true rfl⟩) hA hL rfl hl rfl (Nat.le_of_ble_eq_true rfl) dL_tick_535 ⟨Nat.le_of_ble_eq_true rfl, Nat.le_of_ble_eq_true rfl⟩) hA hL (fun r_535_11 H locs hr_535_11 hA hL => ?_)
            replace hr_535_11 : r_535_11 = (goG u v f g 0) 27 - 1 := hr_535_11.trans hju.2
            subst hr_535_11
            refine lv_aload_n hx hb dL_tick_538 rfl (lv_at hl 17 rfl) ?_
            refine lv_iconst (v := 0) hx hb dL_tick_539 (by decide) ?_
            refine lr_i (rL (rest := [.int ((goG u v f g 0) 27 - 1)]) ⟨hx, hb, hml, hown, hts⟩ (LB_count l G cA A o (u, v, (goF u v f g 0), (goG u v f g 0), (goL u v g L 0)) (recN n) K ch 0) (cwV 1 hts gL_tick_X8_count rfl rfl rfl mdX8_count ⟨Nat.le_of_ble_eq_true rfl, Nat.le_of_ble_eq_true rfl⟩) hA hL rfl hl rfl (Nat.le_of_ble_eq_true rfl) dL_tick_540 ⟨Nat.le_of_ble_eq_true rfl, Nat.le_of_ble_eq_true rfl⟩) hA hL (fun r_540_11 H locs hr_540_11 hA hL => ?_)
            replace hr_540_11 : r_540_11 = (goG u v f g 0) 27 := hr_540_11
            subst hr_540_11
            refine lv_iconst (v := 1) hx hb dL_tick_543 (by decide) ?_
            refine lv_isub hx hb dL_tick_544 ?_
            refine lv_icmp_ne (tgt := 552) hx hb dL_tick_545 (by decide) (fun c_545_11 => absurd rfl c_545_11) (fun c_545_11 => ?_)
            refine lv_iconst (v := 1) hx hb dL_tick_548 (by decide) ?_
            refine lv_goto (tgt := 553) hx hb dL_tick_549 (by decide) ?_
            exact en_l (post := fun r (_ : Unit) => r = 1) (B := fun _ H => LB G cA A o (u, v, (goF u v f g 0), (goG u v f g 0), (goL u v g L 0)) (recN n) K ch H) () hx hb hr hlocks hA rfl hL dL_tick_553
set_option maxHeartbeats 8000000 in
set_option maxRecDepth 100000 in
/-- tick(o, beams), in the state 3, case te -/
theorem cL_tick_3_te (l : Launch) (G : va_G) (cA : Nat → ClassId) (A : Nat → Prop) (o : Nat) (u : FF) (v : GG) (f : FF) (g L : GG) (n K : Nat) (ch : GG) (hs : g 13 = 3) (hn : n ≤ 4) (hGo : GoOk u f g) (hPr : PrOk u g) (hP2 : PrOk u (goG u v f g 0)) (hT : ¬ 99999 < g 27 + nI 1) (hBo : Bo g) (hf : vf_n32 (f 7)) (hg : ¬ g 5 = 0) (h7 : ¬ g 7 < 1) (hc : ¬ g 11 + 1 < v 4) (h18 : ¬ (goG u v f g 0) 18 ≤ 0) : Met l yL_tick wsL_tick ({ frames := 7, cells := 0, slots := 0, locals := 160 } : Room) (va_Pc [.ref o, .int 0] (LbP G cA A o (u, v, f, g, L) n K ch)) (va_Qi (fun r (_ : Unit) => r = 1) (fun _ t => LB G cA A o (u, v, (goF u v f g 0), (goG u v f g 0), (goL u v g L 0)) (recN n) K ch t.heap) A) 0 0 A := by
  refine ofW2 (cc := cL_tick) (maxL := 19) (ret := (some .boolean)) (own := RL) (by decide) rfl rfl (Nat.le_of_ble_eq_true rfl) rfl ?_
  intro p e s m below meth c ls hx hb hml hr hts hown hlocks hv hl
  obtain ⟨hE, hN, hL⟩ := hv
  have hA : At G cA A s s.heap [] := ⟨hE, hN, va_S.rf⟩
  obtain ⟨H, hH0⟩ : ∃ H, H = s.heap := ⟨_, rfl⟩
  rw [← hH0] at hL ⊢
  replace hA : At G cA A s H [] := by rw [hH0]; exact hA
  generalize ([] : List Loc) = locs at hA ⊢
  clear hH0
  replace hl : lv_has ls 19 [(0, .ref o), (1, .int 0)] := hl
  have hG1 : ∀ k, k < 1 → GoOk u (itS u v 0 (f, g, L) k).1 (itS u v 0 (f, g, L) k).2.1 := fun k hk => (show k = 0 by omega) ▸ hGo
  have ht := t_3a hs (u := u) (v := v) (f := f)
  have hcr : ¬ clearR g (v 4) = 0 := clearR_yes hg hc
  have h5 : (goG u v f g 0) 5 = 0 := mv_5.trans (pre_5e hcr)
  have hju := ju_new (u := u) (f := f) (L := L) hcr h18
  have hcn := cn_new (u := u) (f := f) (n := n) (K := K) hcr
  have hp16 : preG u v g 0 16 = (if bestK u g = 0 then (if g 12 = 0 then g 16 else if g 16 ≤ 0 then g 16 else g 16 - 1) else g 16) := pre_16e hcr
  have hsn : vf_n32 (FP.fsub (f 7) (spF u (scF v (preG u v g 0)))) := sub_ok hGo.2.2.1 hGo.2.2.2
  refine lv_aload_n hx hb dL_tick_0 rfl (lv_at hl 0 rfl) ?_
  refine lv_iconst (v := 0) hx hb dL_tick_1 (by decide) ?_
  refine lr_i (rL (rest := []) ⟨hx, hb, hml, hown, hts⟩ (LB_door l G cA A o (u, v, f, g, L) n K ch 0 ) (cwV 1 hts gL_tick_X8_door rfl rfl rfl mdX8_door ⟨Nat.le_of_ble_eq_true rfl, Nat.le_of_ble_eq_true rfl⟩) hA hL rfl hl rfl (Nat.le_of_ble_eq_true rfl) dL_tick_2 ⟨Nat.le_of_ble_eq_true rfl, Nat.le_of_ble_eq_true rfl⟩) hA hL (fun r_2 H locs hr_2 hA hL => ?_)
  replace hr_2 : r_2 = 3 := hr_2.trans hs
  subst hr_2
  refine lv_istore_n (lv' := [(2, .int 3), (0, .ref o), (1, .int 0)]) hx hb dL_tick_5 rfl hl (by decide) rfl (fun ls hl => ?_)
  refine lv_aload_n hx hb dL_tick_6 rfl (lv_at hl 1 rfl) ?_
  refine lr_f (rL (rest := []) ⟨hx, hb, hml, hown, hts⟩ (LB_place l G cA A o (u, v, f, g, L) n K ch  ) (cwV 0 hts gL_tick_X8_place rfl rfl rfl mdX8_place ⟨Nat.le_of_ble_eq_true rfl, Nat.le_of_ble_eq_true rfl⟩) hA hL rfl hl rfl (Nat.le_of_ble_eq_true rfl) dL_tick_7 ⟨Nat.le_of_ble_eq_true rfl, Nat.le_of_ble_eq_true rfl⟩) hA hL (fun r_7 H locs hr_7 hA hL => ?_)
  replace hr_7 : r_7 = f 7 := hr_7
  subst hr_7
  refine lv_fstore_n (lv' := [(3, .float (f 7)), (2, .int 3), (0, .ref o), (1, .int 0)]) hx hb dL_tick_10 rfl hl (by decide) rfl (fun ls hl => ?_)
  refine lv_aload_n hx hb dL_tick_11 rfl (lv_at hl 2 rfl) ?_
  refine lv_iconst (v := 1) hx hb dL_tick_12 (by decide) ?_
  refine lr_i (rL (rest := []) ⟨hx, hb, hml, hown, hts⟩ (LB_door l G cA A o (u, v, f, g, L) n K ch 1 ) (cwV 1 hts gL_tick_X8_door rfl rfl rfl mdX8_door ⟨Nat.le_of_ble_eq_true rfl, Nat.le_of_ble_eq_true rfl⟩) hA hL rfl hl rfl (Nat.le_of_ble_eq_true rfl) dL_tick_13 ⟨Nat.le_of_ble_eq_true rfl, Nat.le_of_ble_eq_true rfl⟩) hA hL (fun r_13 H locs hr_13 hA hL => ?_)
  replace hr_13 : r_13 = g 16 := hr_13
  subst hr_13
  refine lv_istore (lv' := [(4, .int (g 16)), (3, .float (f 7)), (2, .int 3), (0, .ref o), (1, .int 0)]) hx hb dL_tick_16 hl (by decide) rfl (fun ls hl => ?_)
  refine lv_aload_n hx hb dL_tick_18 rfl (lv_at hl 3 rfl) ?_
  refine lv_iconst (v := 3) hx hb dL_tick_19 (by decide) ?_
  refine lr_i (rL (rest := []) ⟨hx, hb, hml, hown, hts⟩ (LB_door l G cA A o (u, v, f, g, L) n K ch 3 ) (cwV 1 hts gL_tick_X8_door rfl rfl rfl mdX8_door ⟨Nat.le_of_ble_eq_true rfl, Nat.le_of_ble_eq_true rfl⟩) hA hL rfl hl rfl (Nat.le_of_ble_eq_true rfl) dL_tick_20 ⟨Nat.le_of_ble_eq_true rfl, Nat.le_of_ble_eq_true rfl⟩) hA hL (fun r_20 H locs hr_20 hA hL => ?_)
  rw [show doF f g 3 = 0 from (by show (if g 13 = 2 then g 14 else 0) = 0; rw [if_neg (by rw [hs]; decide)])] at hr_20
  subst hr_20
  refine lv_istore (lv' := [(5, .int 0), (4, .int (g 16)), (3, .float (f 7)), (2, .int 3), (0, .ref o), (1, .int 0)]) hx hb dL_tick_23 hl (by decide) rfl (fun ls hl => ?_)
  refine lv_aload_n hx hb dL_tick_25 rfl (lv_at hl 4 rfl) ?_
  refine lv_iconst (v := 4) hx hb dL_tick_26 (by decide) ?_
  refine lr_i (rL (rest := []) ⟨hx, hb, hml, hown, hts⟩ (LB_door l G cA A o (u, v, f, g, L) n K ch 4 ) (cwV 1 hts gL_tick_X8_door rfl rfl rfl mdX8_door ⟨Nat.le_of_ble_eq_true rfl, Nat.le_of_ble_eq_true rfl⟩) hA hL rfl hl rfl (Nat.le_of_ble_eq_true rfl) dL_tick_27 ⟨Nat.le_of_ble_eq_true rfl, Nat.le_of_ble_eq_true rfl⟩) hA hL (fun r_27 H locs hr_27 hA hL => ?_)
  rw [show doF f g 4 = g 15 from (by show (if g 13 = 3 then g 15 else 0) = g 15; rw [if_pos hs])] at hr_27
  subst hr_27
  refine lv_istore (lv' := [(6, .int (g 15)), (5, .int 0), (4, .int (g 16)), (3, .float (f 7)), (2, .int 3), (0, .ref o), (1, .int 0)]) hx hb dL_tick_30 hl (by decide) rfl (fun ls hl => ?_)
  refine lv_aload_n hx hb dL_tick_32 rfl (lv_at hl 5 rfl) ?_
  refine lv_iconst (v := 2) hx hb dL_tick_33 (by decide) ?_
  refine lr_i (rL (rest := []) ⟨hx, hb, hml, hown, hts⟩ (LB_door l G cA A o (u, v, f, g, L) n K ch 2 ) (cwV 1 hts gL_tick_X8_door rfl rfl rfl mdX8_door ⟨Nat.le_of_ble_eq_true rfl, Nat.le_of_ble_eq_true rfl⟩) hA hL rfl hl rfl (Nat.le_of_ble_eq_true rfl) dL_tick_34 ⟨Nat.le_of_ble_eq_true rfl, Nat.le_of_ble_eq_true rfl⟩) hA hL (fun r_34 H locs hr_34 hA hL => ?_)
  replace hr_34 : r_34 = oneF (g 17) := hr_34
  subst hr_34
  refine lv_istore (lv' := [(7, .int (oneF (g 17))), (6, .int (g 15)), (5, .int 0), (4, .int (g 16)), (3, .float (f 7)), (2, .int 3), (0, .ref o), (1, .int 0)]) hx hb dL_tick_37 hl (by decide) rfl (fun ls hl => ?_)
  refine lv_aload_n hx hb dL_tick_39 rfl (lv_at hl 6 rfl) ?_
  refine lv_iconst (v := 0) hx hb dL_tick_40 (by decide) ?_
  refine lr_i (rL (rest := []) ⟨hx, hb, hml, hown, hts⟩ (LB_thing l G cA A o (u, v, f, g, L) n K ch 0 hPr) (cwV 1 hts gL_tick_X8_thing rfl rfl rfl mdX8_thing ⟨Nat.le_of_ble_eq_true rfl, Nat.le_of_ble_eq_true rfl⟩) hA hL rfl hl rfl (Nat.le_of_ble_eq_true rfl) dL_tick_41 ⟨Nat.le_of_ble_eq_true rfl, Nat.le_of_ble_eq_true rfl⟩) hA hL (fun r_41 H locs hr_41 hA hL => ?_)
  replace hr_41 : r_41 = g 7 := hr_41.trans (th_0 hg)
  subst hr_41
  refine lv_istore (lv' := [(8, .int (g 7)), (7, .int (oneF (g 17))), (6, .int (g 15)), (5, .int 0), (4, .int (g 16)), (3, .float (f 7)), (2, .int 3), (0, .ref o), (1, .int 0)]) hx hb dL_tick_44 hl (by decide) rfl (fun ls hl => ?_)
  refine lv_iload hx hb dL_tick_46 (lv_at hl 0 rfl) ?_
  refine lv_if_ge (tgt := 55) hx hb dL_tick_48 (by decide) (fun c_48 => ?_) (fun c_48 => absurd (show g 7 < 1 by have := Int32.not_le.mp c_48; exact Int32.lt_trans this (by decide)) h7)
  refine lv_aload_n hx hb dL_tick_55 rfl (lv_at hl 7 rfl) ?_
  refine lv_iconst (v := 5) hx hb dL_tick_56 (by decide) ?_
  refine lr_i (rL (rest := []) ⟨hx, hb, hml, hown, hts⟩ (LB_thing l G cA A o (u, v, f, g, L) n K ch 5 hPr) (cwV 1 hts gL_tick_X8_thing rfl rfl rfl mdX8_thing ⟨Nat.le_of_ble_eq_true rfl, Nat.le_of_ble_eq_true rfl⟩) hA hL rfl hl rfl (Nat.le_of_ble_eq_true rfl) dL_tick_57 ⟨Nat.le_of_ble_eq_true rfl, Nat.le_of_ble_eq_true rfl⟩) hA hL (fun r_57 H locs hr_57 hA hL => ?_)
  replace hr_57 : r_57 = g 11 := hr_57.trans (th_5 hg)
  subst hr_57
  refine lv_istore (lv' := [(9, .int (g 11)), (8, .int (g 7)), (7, .int (oneF (g 17))), (6, .int (g 15)), (5, .int 0), (4, .int (g 16)), (3, .float (f 7)), (2, .int 3), (0, .ref o), (1, .int 0)]) hx hb dL_tick_60 hl (by decide) rfl (fun ls hl => ?_)
  refine lv_iload hx hb dL_tick_62 (lv_at hl 1 rfl) ?_
  refine lv_if_ge (tgt := 71) hx hb dL_tick_64 (by decide) (fun c_64 => ?_) (fun c_64 => absurd c_48 c_64)
  refine lv_aload_n hx hb dL_tick_71 rfl (lv_at hl 8 rfl) ?_
  refine lv_bipush (v := 6) hx hb dL_tick_72 (by decide) ?_
  refine lr_i (rL (rest := []) ⟨hx, hb, hml, hown, hts⟩ (LB_thing l G cA A o (u, v, f, g, L) n K ch 6 hPr) (cwV 1 hts gL_tick_X8_thing rfl rfl rfl mdX8_thing ⟨Nat.le_of_ble_eq_true rfl, Nat.le_of_ble_eq_true rfl⟩) hA hL rfl hl rfl (Nat.le_of_ble_eq_true rfl) dL_tick_74 ⟨Nat.le_of_ble_eq_true rfl, Nat.le_of_ble_eq_true rfl⟩) hA hL (fun r_74 H locs hr_74 hA hL => ?_)
  replace hr_74 : r_74 = oneF (g 12) := hr_74.trans (th_6 hg)
  subst hr_74
  refine lv_istore (lv' := [(10, .int (oneF (g 12))), (9, .int (g 11)), (8, .int (g 7)), (7, .int (oneF (g 17))), (6, .int (g 15)), (5, .int 0), (4, .int (g 16)), (3, .float (f 7)), (2, .int 3), (0, .ref o), (1, .int 0)]) hx hb dL_tick_77 hl (by decide) rfl (fun ls hl => ?_)
  refine lv_iload hx hb dL_tick_79 (lv_at hl 2 rfl) ?_
  refine lv_if_ge (tgt := 88) hx hb dL_tick_81 (by decide) (fun c_81 => ?_) (fun c_81 => absurd c_48 c_81)
  refine lv_aload_n hx hb dL_tick_88 rfl (lv_at hl 9 rfl) ?_
  refine lv_bipush (v := 7) hx hb dL_tick_89 (by decide) ?_
  refine lr_i (rL (rest := []) ⟨hx, hb, hml, hown, hts⟩ (LB_thing l G cA A o (u, v, f, g, L) n K ch 7 hPr) (cwV 1 hts gL_tick_X8_thing rfl rfl rfl mdX8_thing ⟨Nat.le_of_ble_eq_true rfl, Nat.le_of_ble_eq_true rfl⟩) hA hL rfl hl rfl (Nat.le_of_ble_eq_true rfl) dL_tick_91 ⟨Nat.le_of_ble_eq_true rfl, Nat.le_of_ble_eq_true rfl⟩) hA hL (fun r_91 H locs hr_91 hA hL => ?_)
  replace hr_91 : r_91 = bestK u g := hr_91.trans (th_7 hg)
  subst hr_91
  refine lv_istore (lv' := [(11, .int (bestK u g)), (10, .int (oneF (g 12))), (9, .int (g 11)), (8, .int (g 7)), (7, .int (oneF (g 17))), (6, .int (g 15)), (5, .int 0), (4, .int (g 16)), (3, .float (f 7)), (2, .int 3), (0, .ref o), (1, .int 0)]) hx hb dL_tick_94 hl (by decide) rfl (fun ls hl => ?_)
  refine lv_aload_n hx hb dL_tick_96 rfl (lv_at hl 10 rfl) ?_
  refine lv_iload_n hx hb dL_tick_97 rfl (lv_at hl 11 rfl) ?_
  refine lv_iconst (v := 1) hx hb dL_tick_98 (by decide) ?_
  refine lw_f (rL (rest := []) ⟨hx, hb, hml, hown, hts⟩ (LB_placeIn_ok l G cA A o (u, v, f, g, L) n K ch 0 1 (by decide) (by decide) (by decide) hG1) (cwV 2 hts gL_tick_X8_placeIn rfl rfl rfl mdX8_placeIn ⟨Nat.le_of_ble_eq_true rfl, Nat.le_of_ble_eq_true rfl⟩) hA hL rfl hl rfl (Nat.le_of_ble_eq_true rfl) dL_tick_99 ⟨Nat.le_of_ble_eq_true rfl, Nat.le_of_ble_eq_true rfl⟩) hA (fun r_99 _ H locs hr_99 hA hL => ?_)
  replace hL : LB G cA A o (u, v, f, g, L) n K ch H := hL
  replace hr_99 : r_99 = (goF u v f g 0) 7 := hr_99
  subst hr_99
  refine lv_fstore (lv' := [(12, .float ((goF u v f g 0) 7)), (11, .int (bestK u g)), (10, .int (oneF (g 12))), (9, .int (g 11)), (8, .int (g 7)), (7, .int (oneF (g 17))), (6, .int (g 15)), (5, .int 0), (4, .int (g 16)), (3, .float (f 7)), (2, .int 3), (0, .ref o), (1, .int 0)]) hx hb dL_tick_102 hl (by decide) rfl (fun ls hl => ?_)
  refine lv_aload_n hx hb dL_tick_104 rfl (lv_at hl 11 rfl) ?_
  refine lv_iload hx hb dL_tick_105 (lv_at hl 1 rfl) ?_
  refine lv_iconst (v := 1) hx hb dL_tick_107 (by decide) ?_
  refine lv_iadd hx hb dL_tick_108 ?_
  refine lr_i (rL (rest := []) ⟨hx, hb, hml, hown, hts⟩ (LB_count l G cA A o (u, v, f, g, L) n K ch ((bestK u g) + 1)) (cwV 1 hts gL_tick_X8_count rfl rfl rfl mdX8_count ⟨Nat.le_of_ble_eq_true rfl, Nat.le_of_ble_eq_true rfl⟩) hA hL rfl hl rfl (Nat.le_of_ble_eq_true rfl) dL_tick_109 ⟨Nat.le_of_ble_eq_true rfl, Nat.le_of_ble_eq_true rfl⟩) hA hL (fun r_109 H locs hr_109 hA hL => ?_)
  replace hr_109 : r_109 = cnF g (nI n) (nI K) ((bestK u g) + 1) := hr_109
  subst hr_109
  refine lv_istore (lv' := [(13, .int (cnF g (nI n) (nI K) ((bestK u g) + 1))), (12, .float ((goF u v f g 0) 7)), (11, .int (bestK u g)), (10, .int (oneF (g 12))), (9, .int (g 11)), (8, .int (g 7)), (7, .int (oneF (g 17))), (6, .int (g 15)), (5, .int 0), (4, .int (g 16)), (3, .float (f 7)), (2, .int 3), (0, .ref o), (1, .int 0)]) hx hb dL_tick_112 hl (by decide) rfl (fun ls hl => ?_)
  refine lv_iload hx hb dL_tick_114 (lv_at hl 5 rfl) ?_
  refine lv_if_le (tgt := 139) hx hb dL_tick_116 (by decide) (fun c_116 => absurd (Int32.lt_of_lt_of_le (by decide) (Int32.not_lt.mp h7)) (Int32.not_lt.mpr c_116)) (fun c_116 => ?_)
  refine lv_iload_n hx hb dL_tick_119 rfl (lv_at hl 13 rfl) ?_
  refine lv_if_ne (tgt := 139) hx hb dL_tick_120 (by decide) (fun h9 => absurd (by decide) h9) (fun _ => ?_)
  refine lv_iload hx hb dL_tick_123 (lv_at hl 4 rfl) ?_
  refine lv_iconst (v := 1) hx hb dL_tick_125 (by decide) ?_
  refine lv_iadd hx hb dL_tick_126 ?_
  refine lv_aload_n hx hb dL_tick_127 rfl (lv_at hl 12 rfl) ?_
  refine lv_iconst (v := 4) hx hb dL_tick_128 (by decide) ?_
  refine lr_i (rL (rest := [.int ((g 11) + 1)]) ⟨hx, hb, hml, hown, hts⟩ (LB_number l G cA A o (u, v, f, g, L) n K ch 4 ) (cwV 1 hts gL_tick_X8_number rfl rfl rfl mdX8_number ⟨Nat.le_of_ble_eq_true rfl, Nat.le_of_ble_eq_true rfl⟩) hA hL rfl hl rfl (Nat.le_of_ble_eq_true rfl) dL_tick_129 ⟨Nat.le_of_ble_eq_true rfl, Nat.le_of_ble_eq_true rfl⟩) hA hL (fun r_129 H locs hr_129 hA hL => ?_)
  replace hr_129 : r_129 = v 4 := hr_129
  subst hr_129
  refine lv_icmp_lt (tgt := 139) hx hb dL_tick_132 (by decide) (fun c_132 => absurd c_132 hc) (fun c_132 => ?_)
  refine lv_iconst (v := 1) hx hb dL_tick_135 (by decide) ?_
  refine lv_goto (tgt := 140) hx hb dL_tick_136 (by decide) ?_
  refine lv_istore (lv' := [(14, .int 1), (13, .int (cnF g (nI n) (nI K) ((bestK u g) + 1))), (12, .float ((goF u v f g 0) 7)), (11, .int (bestK u g)), (10, .int (oneF (g 12))), (9, .int (g 11)), (8, .int (g 7)), (7, .int (oneF (g 17))), (6, .int (g 15)), (5, .int 0), (4, .int (g 16)), (3, .float (f 7)), (2, .int 3), (0, .ref o), (1, .int 0)]) hx hb dL_tick_140 hl (by decide) rfl (fun ls hl => ?_)
  refine lv_iload hx hb dL_tick_142 (lv_at hl 10 rfl) ?_
  refine lv_iload hx hb dL_tick_144 (lv_at hl 0 rfl) ?_
  refine lv_if_eq (tgt := 169) hx hb dL_tick_146 (by decide) (fun h9 => absurd h9 (by decide)) (fun _ => ?_)
  refine lv_iload hx hb dL_tick_149 (lv_at hl 3 rfl) ?_
  refine lv_if_ne (tgt := 169) hx hb dL_tick_151 (by decide) (fun c_151 => ?_) (fun c_151 => ?_)
  · skip
    refine lv_iconst (v := 0) hx hb dL_tick_169 (by decide) ?_
    refine lv_isub hx hb dL_tick_170 ?_
    refine W.eq (g2 := F0 m 171 ls [.int (preG u v g 0 16)]) (by rw [hp16, if_neg c_151, Int32.sub_zero]) ?_
    refine lv_istore (lv' := [(4, .int (preG u v g 0 16)), (14, .int 1), (13, .int (cnF g (nI n) (nI K) ((bestK u g) + 1))), (12, .float ((goF u v f g 0) 7)), (11, .int (bestK u g)), (10, .int (oneF (g 12))), (9, .int (g 11)), (8, .int (g 7)), (7, .int (oneF (g 17))), (6, .int (g 15)), (5, .int 0), (3, .float (f 7)), (2, .int 3), (0, .ref o), (1, .int 0)]) hx hb dL_tick_171 hl (by decide) rfl (fun ls hl => ?_)
    refine lv_iload_n hx hb dL_tick_173 rfl (lv_at hl 12 rfl) ?_
    refine lv_istore (lv' := [(15, .int 3), (4, .int (preG u v g 0 16)), (14, .int 1), (13, .int (cnF g (nI n) (nI K) ((bestK u g) + 1))), (12, .float ((goF u v f g 0) 7)), (11, .int (bestK u g)), (10, .int (oneF (g 12))), (9, .int (g 11)), (8, .int (g 7)), (7, .int (oneF (g 17))), (6, .int (g 15)), (5, .int 0), (3, .float (f 7)), (2, .int 3), (0, .ref o), (1, .int 0)]) hx hb dL_tick_174 hl (by decide) rfl (fun ls hl => ?_)
    refine lv_fload_n hx hb dL_tick_176 rfl (lv_at hl 12 rfl) ?_
    refine lv_fstore (lv' := [(16, .float (f 7)), (15, .int 3), (4, .int (preG u v g 0 16)), (14, .int 1), (13, .int (cnF g (nI n) (nI K) ((bestK u g) + 1))), (12, .float ((goF u v f g 0) 7)), (11, .int (bestK u g)), (10, .int (oneF (g 12))), (9, .int (g 11)), (8, .int (g 7)), (7, .int (oneF (g 17))), (6, .int (g 15)), (5, .int 0), (3, .float (f 7)), (2, .int 3), (0, .ref o), (1, .int 0)]) hx hb dL_tick_177 hl (by decide) rfl (fun ls hl => ?_)
    refine lv_iload_n hx hb dL_tick_179 rfl (lv_at hl 14 rfl) ?_
    refine lv_iconst (v := 1) hx hb dL_tick_180 (by decide) ?_
    refine lv_icmp_ne (tgt := 228) hx hb dL_tick_181 (by decide) (fun _ => ?_) (fun h9 => absurd h9 (by decide))
    refine lv_iload_n hx hb dL_tick_228 rfl (lv_at hl 14 rfl) ?_
    refine lv_iconst (v := 2) hx hb dL_tick_229 (by decide) ?_
    refine lv_icmp_ne (tgt := 264) hx hb dL_tick_230 (by decide) (fun _ => ?_) (fun h9 => absurd h9 (by decide))
    refine lv_iload_n hx hb dL_tick_264 rfl (lv_at hl 14 rfl) ?_
    refine lv_iconst (v := 3) hx hb dL_tick_265 (by decide) ?_
    refine lv_icmp_ne (tgt := 311) hx hb dL_tick_266 (by decide) (fun h9 => absurd (by decide) h9) (fun _ => ?_)
    refine lv_iload_n hx hb dL_tick_269 rfl (lv_at hl 16 rfl) ?_
    refine lv_if_eq (tgt := 311) hx hb dL_tick_270 (by decide) (fun _ => ?_) (fun h9 => absurd (by decide) h9)
    refine lv_iload_n hx hb dL_tick_311 rfl (lv_at hl 14 rfl) ?_
    refine lv_iconst (v := 3) hx hb dL_tick_312 (by decide) ?_
    refine lv_icmp_ne (tgt := 385) hx hb dL_tick_313 (by decide) (fun h9 => absurd (by decide) h9) (fun _ => ?_)
    refine lv_fload_n hx hb dL_tick_316 rfl (lv_at hl 13 rfl) ?_
    refine lv_iload hx hb dL_tick_317 (lv_at hl 2 rfl) ?_
    refine lv_aload_n hx hb dL_tick_319 rfl (lv_at hl 15 rfl) ?_
    refine lv_iconst (v := 2) hx hb dL_tick_320 (by decide) ?_
    refine lr_i (rL (rest := [.int (preG u v g 0 16), .float (f 7)]) ⟨hx, hb, hml, hown, hts⟩ (LB_number l G cA A o (u, v, f, g, L) n K ch 2 ) (cwV 1 hts gL_tick_X8_number rfl rfl rfl mdX8_number ⟨Nat.le_of_ble_eq_true rfl, Nat.le_of_ble_eq_true rfl⟩) hA hL rfl hl rfl (Nat.le_of_ble_eq_true rfl) dL_tick_321 ⟨Nat.le_of_ble_eq_true rfl, Nat.le_of_ble_eq_true rfl⟩) hA hL (fun r_321 H locs hr_321 hA hL => ?_)
    replace hr_321 : r_321 = v 2 := hr_321
    subst hr_321
    refine lv_icmp_le (tgt := 335) hx hb dL_tick_324 (by decide) (fun c_324 => ?_) (fun c_324 => ?_)
    · skip
      refine lv_aload_n hx hb dL_tick_335 rfl (lv_at hl 15 rfl) ?_
      refine lv_iconst (v := 1) hx hb dL_tick_336 (by decide) ?_
      refine lr_f (rL (rest := [.float (f 7)]) ⟨hx, hb, hml, hown, hts⟩ (LB_speed l G cA A o (u, v, f, g, L) n K ch 1 ) (cwV 1 hts gL_tick_X8_speed rfl rfl rfl mdX8_speed ⟨Nat.le_of_ble_eq_true rfl, Nat.le_of_ble_eq_true rfl⟩) hA hL rfl hl rfl (Nat.le_of_ble_eq_true rfl) dL_tick_337 ⟨Nat.le_of_ble_eq_true rfl, Nat.le_of_ble_eq_true rfl⟩) hA hL (fun r_337 H locs hr_337 hA hL => ?_)
      replace hr_337 : r_337 = u 1 := hr_337
      subst hr_337
      refine lv_fsub hx hb dL_tick_340 (hGo.2.2.1) ?_
      refine W.eq (g2 := F0 m 341 ls [.float (FP.fsub (f 7) (spF u (scF v (preG u v g 0))))]) (by rw [show spF u (scF v (preG u v g 0)) = u 1 from by unfold scF; rw [if_pos c_324]; rfl]) ?_
      refine lv_fstore (lv' := [(16, .float (FP.fsub (f 7) (spF u (scF v (preG u v g 0))))), (15, .int 3), (4, .int (preG u v g 0 16)), (14, .int 1), (13, .int (cnF g (nI n) (nI K) ((bestK u g) + 1))), (12, .float ((goF u v f g 0) 7)), (11, .int (bestK u g)), (10, .int (oneF (g 12))), (9, .int (g 11)), (8, .int (g 7)), (7, .int (oneF (g 17))), (6, .int (g 15)), (5, .int 0), (3, .float (f 7)), (2, .int 3), (0, .ref o), (1, .int 0)]) hx hb dL_tick_341 hl (by decide) rfl (fun ls hl => ?_)
      refine lv_fload hx hb dL_tick_343 (lv_at hl 0 rfl) ?_
      refine lv_fconst0 hx hb dL_tick_345 ?_
      refine lv_fcmp hx hb dL_tick_346 ?_
      refine W.eq (g2 := F0 m 347 ls [.int (Op.cmpValue (FP.fcmp (FP.fsub (f 7) (spF u (scF v (preG u v g 0)))) FP.fconst0) CmpOp.l)]) (by rw [cmp_gl hsn n32_0]) ?_
      refine lv_if_gt (tgt := 354) hx hb dL_tick_347 (by decide) (fun c_347 => ?_) (fun c_347 => ?_)
      · skip
        refine lv_iconst (v := 3) hx hb dL_tick_354 (by decide) ?_
        refine lv_istore (lv' := [(15, .int 3), (16, .float (FP.fsub (f 7) (spF u (scF v (preG u v g 0))))), (4, .int (preG u v g 0 16)), (14, .int 1), (13, .int (cnF g (nI n) (nI K) ((bestK u g) + 1))), (12, .float ((goF u v f g 0) 7)), (11, .int (bestK u g)), (10, .int (oneF (g 12))), (9, .int (g 11)), (8, .int (g 7)), (7, .int (oneF (g 17))), (6, .int (g 15)), (5, .int 0), (3, .float (f 7)), (2, .int 3), (0, .ref o), (1, .int 0)]) hx hb dL_tick_355 hl (by decide) rfl (fun ls hl => ?_)
        refine lv_fload hx hb dL_tick_357 (lv_at hl 1 rfl) ?_
        refine lv_fconst0 hx hb dL_tick_359 ?_
        refine lv_fcmp hx hb dL_tick_360 ?_
        refine W.eq (g2 := F0 m 361 ls [.int (Op.cmpValue (FP.fcmp (FP.fsub (f 7) (spF u (scF v (preG u v g 0)))) FP.fconst0) CmpOp.l)]) (by rw [cmp_gl hsn n32_0]) ?_
        refine lv_if_gt (tgt := 368) hx hb dL_tick_361 (by decide) (fun c_361 => ?_) (fun c_361 => absurd c_347 c_361)
        refine lv_fload hx hb dL_tick_368 (lv_at hl 1 rfl) ?_
        refine lv_fstore (lv' := [(16, .float (FP.fsub (f 7) (spF u (scF v (preG u v g 0))))), (15, .int 3), (4, .int (preG u v g 0 16)), (14, .int 1), (13, .int (cnF g (nI n) (nI K) ((bestK u g) + 1))), (12, .float ((goF u v f g 0) 7)), (11, .int (bestK u g)), (10, .int (oneF (g 12))), (9, .int (g 11)), (8, .int (g 7)), (7, .int (oneF (g 17))), (6, .int (g 15)), (5, .int 0), (3, .float (f 7)), (2, .int 3), (0, .ref o), (1, .int 0)]) hx hb dL_tick_370 hl (by decide) rfl (fun ls hl => ?_)
        refine lv_iload hx hb dL_tick_372 (lv_at hl 1 rfl) ?_
        refine lv_if_ne (tgt := 381) hx hb dL_tick_374 (by decide) (fun _ => ?_) (fun h9 => absurd h9 (by decide))
        refine lv_iload hx hb dL_tick_381 (lv_at hl 2 rfl) ?_
        refine lv_istore (lv' := [(4, .int (preG u v g 0 16)), (16, .float (FP.fsub (f 7) (spF u (scF v (preG u v g 0))))), (15, .int 3), (14, .int 1), (13, .int (cnF g (nI n) (nI K) ((bestK u g) + 1))), (12, .float ((goF u v f g 0) 7)), (11, .int (bestK u g)), (10, .int (oneF (g 12))), (9, .int (g 11)), (8, .int (g 7)), (7, .int (oneF (g 17))), (6, .int (g 15)), (5, .int 0), (3, .float (f 7)), (2, .int 3), (0, .ref o), (1, .int 0)]) hx hb dL_tick_383 hl (by decide) rfl (fun ls hl => ?_)
        refine lv_iload_n hx hb dL_tick_385 rfl (lv_at hl 14 rfl) ?_
        refine lv_iconst (v := 3) hx hb dL_tick_386 (by decide) ?_
        refine lv_icmp_ne (tgt := 400) hx hb dL_tick_387 (by decide) (fun h9 => absurd (by decide) h9) (fun _ => ?_)
        refine lv_iload hx hb dL_tick_390 (lv_at hl 2 rfl) ?_
        refine lv_iconst (v := 1) hx hb dL_tick_392 (by decide) ?_
        refine lv_icmp_ne (tgt := 400) hx hb dL_tick_393 (by decide) (fun _ => ?_) (fun h9 => absurd h9 (by decide))
        refine lv_iconst (v := 0) hx hb dL_tick_400 (by decide) ?_
        refine lv_istore (lv' := [(17, .int 0), (4, .int (preG u v g 0 16)), (16, .float (FP.fsub (f 7) (spF u (scF v (preG u v g 0))))), (15, .int 3), (14, .int 1), (13, .int (cnF g (nI n) (nI K) ((bestK u g) + 1))), (12, .float ((goF u v f g 0) 7)), (11, .int (bestK u g)), (10, .int (oneF (g 12))), (9, .int (g 11)), (8, .int (g 7)), (7, .int (oneF (g 17))), (6, .int (g 15)), (5, .int 0), (3, .float (f 7)), (2, .int 3), (0, .ref o), (1, .int 0)]) hx hb dL_tick_401 hl (by decide) rfl (fun ls hl => ?_)
        refine lv_iload hx hb dL_tick_403 (lv_at hl 0 rfl) ?_
        refine lv_if_eq (tgt := 428) hx hb dL_tick_405 (by decide) (fun _ => ?_) (fun h9 => absurd (by decide) h9)
        refine lv_iconst (v := 0) hx hb dL_tick_428 (by decide) ?_
        refine lv_istore (lv' := [(18, .int 0), (17, .int 0), (4, .int (preG u v g 0 16)), (16, .float (FP.fsub (f 7) (spF u (scF v (preG u v g 0))))), (15, .int 3), (14, .int 1), (13, .int (cnF g (nI n) (nI K) ((bestK u g) + 1))), (12, .float ((goF u v f g 0) 7)), (11, .int (bestK u g)), (10, .int (oneF (g 12))), (9, .int (g 11)), (8, .int (g 7)), (7, .int (oneF (g 17))), (6, .int (g 15)), (5, .int 0), (3, .float (f 7)), (2, .int 3), (0, .ref o), (1, .int 0)]) hx hb dL_tick_429 hl (by decide) rfl (fun ls hl => ?_)
        refine lv_aload_n hx hb dL_tick_431 rfl (lv_at hl 17 rfl) ?_
        refine lv_iload_n hx hb dL_tick_432 rfl (lv_at hl 18 rfl) ?_
        refine lv_iconst (v := 1) hx hb dL_tick_433 (by decide) ?_
        refine lw_i (rL (rest := []) ⟨hx, hb, hml, hown, hts⟩ (LB_pass_ok l G cA A o (u, v, f, g, L) n K ch hn 0 1 (by decide) (by decide) (by decide) (by decide) hT hG1 hBo) (cwV 2 hts gL_tick_X8_pass rfl rfl rfl mdX8_pass ⟨Nat.le_of_ble_eq_true rfl, Nat.le_of_ble_eq_true rfl⟩) hA hL rfl hl rfl (Nat.le_of_ble_eq_true rfl) dL_tick_434 ⟨Nat.le_of_ble_eq_true rfl, Nat.le_of_ble_eq_true rfl⟩) hA (fun r_434 _ H locs hr_434 hA hL => ?_)
        replace hL : LB G cA A o (u, v, (goF u v f g 0), (goG u v f g 0), (goL u v g L 0)) (recN n) K ch H := hL
        replace hr_434 : r_434 = (goG u v f g 0) 13 := hr_434
        subst hr_434
        refine lv_iload hx hb dL_tick_437 (lv_at hl 4 rfl) ?_
        refine lv_icmp_ne (tgt := 489) hx hb dL_tick_439 (by decide) (fun c_439 => absurd (ht.1.trans (if_neg (Int32.not_le.mpr c_347))) c_439) (fun c_439 => ?_)
        refine lv_aload_n hx hb dL_tick_442 rfl (lv_at hl 17 rfl) ?_
        refine lr_f (rL (rest := []) ⟨hx, hb, hml, hown, hts⟩ (LB_place l G cA A o (u, v, (goF u v f g 0), (goG u v f g 0), (goL u v g L 0)) (recN n) K ch  ) (cwV 0 hts gL_tick_X8_place rfl rfl rfl mdX8_place ⟨Nat.le_of_ble_eq_true rfl, Nat.le_of_ble_eq_true rfl⟩) hA hL rfl hl rfl (Nat.le_of_ble_eq_true rfl) dL_tick_443 ⟨Nat.le_of_ble_eq_true rfl, Nat.le_of_ble_eq_true rfl⟩) hA hL (fun r_443 H locs hr_443 hA hL => ?_)
        replace hr_443 : r_443 = (goF u v f g 0) 7 := hr_443
        subst hr_443
        refine lv_fload hx hb dL_tick_446 (lv_at hl 3 rfl) ?_
        refine lv_fcmp hx hb dL_tick_448 ?_
        refine lv_if_ne (tgt := 489) hx hb dL_tick_449 (by decide) (fun c_449 => absurd (by rw [(ht.2.2.2.trans (if_neg (Int32.not_le.mpr c_347)))]; exact cmp_self (of_vf hsn) _) c_449) (fun c_449 => ?_)
        refine lv_fload hx hb dL_tick_452 (lv_at hl 7 rfl) ?_
        refine lv_fload hx hb dL_tick_454 (lv_at hl 3 rfl) ?_
        refine lv_fcmp hx hb dL_tick_456 ?_
        refine lv_if_ne (tgt := 489) hx hb dL_tick_457 (by decide) (fun c_457 => absurd (by rw [(ht.2.2.2.trans (if_neg (Int32.not_le.mpr c_347)))]; exact cmp_self (of_vf hsn) _) c_457) (fun c_457 => ?_)
        refine lv_aload_n hx hb dL_tick_460 rfl (lv_at hl 17 rfl) ?_
        refine lv_iconst (v := 1) hx hb dL_tick_461 (by decide) ?_
        refine lr_i (rL (rest := []) ⟨hx, hb, hml, hown, hts⟩ (LB_door l G cA A o (u, v, (goF u v f g 0), (goG u v f g 0), (goL u v g L 0)) (recN n) K ch 1 ) (cwV 1 hts gL_tick_X8_door rfl rfl rfl mdX8_door ⟨Nat.le_of_ble_eq_true rfl, Nat.le_of_ble_eq_true rfl⟩) hA hL rfl hl rfl (Nat.le_of_ble_eq_true rfl) dL_tick_462 ⟨Nat.le_of_ble_eq_true rfl, Nat.le_of_ble_eq_true rfl⟩) hA hL (fun r_462 H locs hr_462 hA hL => ?_)
        replace hr_462 : r_462 = (goG u v f g 0) 16 := hr_462
        subst hr_462
        refine lv_iload hx hb dL_tick_465 (lv_at hl 2 rfl) ?_
        refine lv_icmp_ne (tgt := 489) hx hb dL_tick_467 (by decide) (fun c_467 => absurd (ht.2.1.trans (if_neg (Int32.not_le.mpr c_347))) c_467) (fun c_467 => ?_)
        refine lv_aload_n hx hb dL_tick_470 rfl (lv_at hl 17 rfl) ?_
        refine lv_iconst (v := 2) hx hb dL_tick_471 (by decide) ?_
        refine lr_i (rL (rest := []) ⟨hx, hb, hml, hown, hts⟩ (LB_door l G cA A o (u, v, (goF u v f g 0), (goG u v f g 0), (goL u v g L 0)) (recN n) K ch 2 ) (cwV 1 hts gL_tick_X8_door rfl rfl rfl mdX8_door ⟨Nat.le_of_ble_eq_true rfl, Nat.le_of_ble_eq_true rfl⟩) hA hL rfl hl rfl (Nat.le_of_ble_eq_true rfl) dL_tick_472 ⟨Nat.le_of_ble_eq_true rfl, Nat.le_of_ble_eq_true rfl⟩) hA hL (fun r_472 H locs hr_472 hA hL => ?_)
        replace hr_472 : r_472 = oneF ((goG u v f g 0) 17) := hr_472
        subst hr_472
        refine lv_iload hx hb dL_tick_475 (lv_at hl 0 rfl) ?_
        refine lv_if_eq (tgt := 484) hx hb dL_tick_477 (by decide) (fun _ => ?_) (fun h9 => absurd (by decide) h9)
        refine lv_iload hx hb dL_tick_484 (lv_at hl 12 rfl) ?_
        refine lv_icmp_eq (tgt := 491) hx hb dL_tick_486 (by decide) (fun c_486 => ?_) (fun c_486 => absurd (by rw [ht.2.2.1] <;> rfl) c_486)
        refine lv_iload hx hb dL_tick_491 (lv_at hl 5 rfl) ?_
        refine lv_if_eq (tgt := 554) hx hb dL_tick_493 (by decide) (fun h9 => absurd h9 (by decide)) (fun _ => ?_)
        refine lv_aload_n hx hb dL_tick_496 rfl (lv_at hl 17 rfl) ?_
        refine lv_iconst (v := 0) hx hb dL_tick_497 (by decide) ?_
        refine lr_i (rL (rest := []) ⟨hx, hb, hml, hown, hts⟩ (LB_thing l G cA A o (u, v, (goF u v f g 0), (goG u v f g 0), (goL u v g L 0)) (recN n) K ch 0 hP2) (cwV 1 hts gL_tick_X8_thing rfl rfl rfl mdX8_thing ⟨Nat.le_of_ble_eq_true rfl, Nat.le_of_ble_eq_true rfl⟩) hA hL rfl hl rfl (Nat.le_of_ble_eq_true rfl) dL_tick_498 ⟨Nat.le_of_ble_eq_true rfl, Nat.le_of_ble_eq_true rfl⟩) hA hL (fun r_498 H locs hr_498 hA hL => ?_)
        replace hr_498 : r_498 = -5 := hr_498.trans (th_none 0 (by decide) (by decide) h5)
        subst hr_498
        refine lv_bipush (v := (-5)) hx hb dL_tick_501 (by decide) ?_
        refine lv_icmp_ne (tgt := 552) hx hb dL_tick_503 (by decide) (fun h9 => absurd (by decide) h9) (fun _ => ?_)
        refine lv_aload_n hx hb dL_tick_506 rfl (lv_at hl 17 rfl) ?_
        refine lv_iconst (v := 0) hx hb dL_tick_507 (by decide) ?_
        refine lv_iconst (v := 0) hx hb dL_tick_508 (by decide) ?_
        refine lr_i (rL (rest := []) ⟨hx, hb, hml, hown, hts⟩ (LB_judged l G cA A o (u, v, (goF u v f g 0), (goG u v f g 0), (goL u v g L 0)) (recN n) K ch 0 0 ) (cwV 2 hts gL_tick_X8_judged rfl rfl rfl mdX8_judged ⟨Nat.le_of_ble_eq_true rfl, Nat.le_of_ble_eq_true rfl⟩) hA hL rfl hl rfl (Nat.le_of_ble_eq_true rfl) dL_tick_509 ⟨Nat.le_of_ble_eq_true rfl, Nat.le_of_ble_eq_true rfl⟩) hA hL (fun r_509 H locs hr_509 hA hL => ?_)
        replace hr_509 : r_509 = bestK u g := hr_509.trans hju.1
        subst hr_509
        refine lv_iload hx hb dL_tick_512 (lv_at hl 8 rfl) ?_
        refine lv_icmp_ne (tgt := 552) hx hb dL_tick_514 (by decide) (fun c_514 => absurd rfl c_514) (fun c_514 => ?_)
        refine lv_aload_n hx hb dL_tick_517 rfl (lv_at hl 17 rfl) ?_
        refine lv_iload hx hb dL_tick_518 (lv_at hl 8 rfl) ?_
        refine lv_iconst (v := 1) hx hb dL_tick_520 (by decide) ?_
        refine lv_iadd hx hb dL_tick_521 ?_
        refine lr_i (rL (rest := []) ⟨hx, hb, hml, hown, hts⟩ (LB_count l G cA A o (u, v, (goF u v f g 0), (goG u v f g 0), (goL u v g L 0)) (recN n) K ch ((bestK u g) + 1)) (cwV 1 hts gL_tick_X8_count rfl rfl rfl mdX8_count ⟨Nat.le_of_ble_eq_true rfl, Nat.le_of_ble_eq_true rfl⟩) hA hL rfl hl rfl (Nat.le_of_ble_eq_true rfl) dL_tick_522 ⟨Nat.le_of_ble_eq_true rfl, Nat.le_of_ble_eq_true rfl⟩) hA hL (fun r_522 H locs hr_522 hA hL => ?_)
        replace hr_522 : r_522 = cnF (goG u v f g 0) (nI (recN n)) (nI K) ((bestK u g) + 1) := hr_522
        subst hr_522
        refine lv_iload hx hb dL_tick_525 (lv_at hl 6 rfl) ?_
        refine lv_iconst (v := 1) hx hb dL_tick_527 (by decide) ?_
        refine lv_iadd hx hb dL_tick_528 ?_
        refine lv_icmp_ne (tgt := 552) hx hb dL_tick_529 (by decide) (fun c_529 => absurd hcn c_529) (fun c_529 => ?_)
        refine lv_aload_n hx hb dL_tick_532 rfl (lv_at hl 17 rfl) ?_
        refine lv_iconst (v := 0) hx hb dL_tick_533 (by decide) ?_
        refine lv_iconst (v := 4) hx hb dL_tick_534 (by decide) ?_
        refine lr_i (rL (rest := []) ⟨hx, hb, hml, hown, hts⟩ (LB_judged l G cA A o (u, v, (goF u v f g 0), (goG u v f g 0), (goL u v g L 0)) (recN n) K ch 0 4 ) (cwV 2 hts gL_tick_X8_judged rfl rfl rfl mdX8_judged ⟨Nat.le_of_ble_eq_true rfl, Nat.le_of_ble_eq_true rfl⟩) hA hL rfl hl rfl (Nat.le_of_ble_eq_true rfl) dL_tick_535 ⟨Nat.le_of_ble_eq_true rfl, Nat.le_of_ble_eq_true rfl⟩) hA hL (fun r_535 H locs hr_535 hA hL => ?_)
        replace hr_535 : r_535 = (goG u v f g 0) 27 - 1 := hr_535.trans hju.2
        subst hr_535
        refine lv_aload_n hx hb dL_tick_538 rfl (lv_at hl 17 rfl) ?_
        refine lv_iconst (v := 0) hx hb dL_tick_539 (by decide) ?_
        refine lr_i (rL (rest := [.int ((goG u v f g 0) 27 - 1)]) ⟨hx, hb, hml, hown, hts⟩ (LB_count l G cA A o (u, v, (goF u v f g 0), (goG u v f g 0), (goL u v g L 0)) (recN n) K ch 0) (cwV 1 hts gL_tick_X8_count rfl rfl rfl mdX8_count ⟨Nat.le_of_ble_eq_true rfl, Nat.le_of_ble_eq_true rfl⟩) hA hL rfl hl rfl (Nat.le_of_ble_eq_true rfl) dL_tick_540 ⟨Nat.le_of_ble_eq_true rfl, Nat.le_of_ble_eq_true rfl⟩) hA hL (fun r_540 H locs hr_540 hA hL => ?_)
        replace hr_540 : r_540 = (goG u v f g 0) 27 := hr_540
        subst hr_540
        refine lv_iconst (v := 1) hx hb dL_tick_543 (by decide) ?_
        refine lv_isub hx hb dL_tick_544 ?_
        refine lv_icmp_ne (tgt := 552) hx hb dL_tick_545 (by decide) (fun c_545 => absurd rfl c_545) (fun c_545 => ?_)
        refine lv_iconst (v := 1) hx hb dL_tick_548 (by decide) ?_
        refine lv_goto (tgt := 553) hx hb dL_tick_549 (by decide) ?_
        exact en_l (post := fun r (_ : Unit) => r = 1) (B := fun _ H => LB G cA A o (u, v, (goF u v f g 0), (goG u v f g 0), (goL u v g L 0)) (recN n) K ch H) () hx hb hr hlocks hA rfl hL dL_tick_553
      · skip
        refine lv_iconst (v := 0) hx hb dL_tick_350 (by decide) ?_
        refine lv_goto (tgt := 355) hx hb dL_tick_351 (by decide) ?_
        refine lv_istore (lv' := [(15, .int 0), (16, .float (FP.fsub (f 7) (spF u (scF v (preG u v g 0))))), (4, .int (preG u v g 0 16)), (14, .int 1), (13, .int (cnF g (nI n) (nI K) ((bestK u g) + 1))), (12, .float ((goF u v f g 0) 7)), (11, .int (bestK u g)), (10, .int (oneF (g 12))), (9, .int (g 11)), (8, .int (g 7)), (7, .int (oneF (g 17))), (6, .int (g 15)), (5, .int 0), (3, .float (f 7)), (2, .int 3), (0, .ref o), (1, .int 0)]) hx hb dL_tick_355 hl (by decide) rfl (fun ls hl => ?_)
        refine lv_fload hx hb dL_tick_357 (lv_at hl 1 rfl) ?_
        refine lv_fconst0 hx hb dL_tick_359 ?_
        refine lv_fcmp hx hb dL_tick_360 ?_
        refine W.eq (g2 := F0 m 361 ls [.int (Op.cmpValue (FP.fcmp (FP.fsub (f 7) (spF u (scF v (preG u v g 0)))) FP.fconst0) CmpOp.l)]) (by rw [cmp_gl hsn n32_0]) ?_
        refine lv_if_gt (tgt := 368) hx hb dL_tick_361 (by decide) (fun c_361_1 => absurd c_361_1 c_347) (fun c_361_1 => ?_)
        refine lv_fconst0 hx hb dL_tick_364 ?_
        refine lv_goto (tgt := 370) hx hb dL_tick_365 (by decide) ?_
        refine lv_fstore (lv' := [(16, .float FP.fconst0), (15, .int 0), (4, .int (preG u v g 0 16)), (14, .int 1), (13, .int (cnF g (nI n) (nI K) ((bestK u g) + 1))), (12, .float ((goF u v f g 0) 7)), (11, .int (bestK u g)), (10, .int (oneF (g 12))), (9, .int (g 11)), (8, .int (g 7)), (7, .int (oneF (g 17))), (6, .int (g 15)), (5, .int 0), (3, .float (f 7)), (2, .int 3), (0, .ref o), (1, .int 0)]) hx hb dL_tick_370 hl (by decide) rfl (fun ls hl => ?_)
        refine lv_iload hx hb dL_tick_372 (lv_at hl 1 rfl) ?_
        refine lv_if_ne (tgt := 381) hx hb dL_tick_374 (by decide) (fun h9 => absurd (by decide) h9) (fun _ => ?_)
        refine lv_iconst (v := 0) hx hb dL_tick_377 (by decide) ?_
        refine lv_goto (tgt := 383) hx hb dL_tick_378 (by decide) ?_
        refine lv_istore (lv' := [(4, .int 0), (16, .float FP.fconst0), (15, .int 0), (14, .int 1), (13, .int (cnF g (nI n) (nI K) ((bestK u g) + 1))), (12, .float ((goF u v f g 0) 7)), (11, .int (bestK u g)), (10, .int (oneF (g 12))), (9, .int (g 11)), (8, .int (g 7)), (7, .int (oneF (g 17))), (6, .int (g 15)), (5, .int 0), (3, .float (f 7)), (2, .int 3), (0, .ref o), (1, .int 0)]) hx hb dL_tick_383 hl (by decide) rfl (fun ls hl => ?_)
        refine lv_iload_n hx hb dL_tick_385 rfl (lv_at hl 14 rfl) ?_
        refine lv_iconst (v := 3) hx hb dL_tick_386 (by decide) ?_
        refine lv_icmp_ne (tgt := 400) hx hb dL_tick_387 (by decide) (fun h9 => absurd (by decide) h9) (fun _ => ?_)
        refine lv_iload hx hb dL_tick_390 (lv_at hl 2 rfl) ?_
        refine lv_iconst (v := 1) hx hb dL_tick_392 (by decide) ?_
        refine lv_icmp_ne (tgt := 400) hx hb dL_tick_393 (by decide) (fun _ => ?_) (fun h9 => absurd h9 (by decide))
        refine lv_iconst (v := 0) hx hb dL_tick_400 (by decide) ?_
        refine lv_istore (lv' := [(17, .int 0), (4, .int 0), (16, .float FP.fconst0), (15, .int 0), (14, .int 1), (13, .int (cnF g (nI n) (nI K) ((bestK u g) + 1))), (12, .float ((goF u v f g 0) 7)), (11, .int (bestK u g)), (10, .int (oneF (g 12))), (9, .int (g 11)), (8, .int (g 7)), (7, .int (oneF (g 17))), (6, .int (g 15)), (5, .int 0), (3, .float (f 7)), (2, .int 3), (0, .ref o), (1, .int 0)]) hx hb dL_tick_401 hl (by decide) rfl (fun ls hl => ?_)
        refine lv_iload hx hb dL_tick_403 (lv_at hl 0 rfl) ?_
        refine lv_if_eq (tgt := 428) hx hb dL_tick_405 (by decide) (fun _ => ?_) (fun h9 => absurd (by decide) h9)
        refine lv_iconst (v := 0) hx hb dL_tick_428 (by decide) ?_
        refine lv_istore (lv' := [(18, .int 0), (17, .int 0), (4, .int 0), (16, .float FP.fconst0), (15, .int 0), (14, .int 1), (13, .int (cnF g (nI n) (nI K) ((bestK u g) + 1))), (12, .float ((goF u v f g 0) 7)), (11, .int (bestK u g)), (10, .int (oneF (g 12))), (9, .int (g 11)), (8, .int (g 7)), (7, .int (oneF (g 17))), (6, .int (g 15)), (5, .int 0), (3, .float (f 7)), (2, .int 3), (0, .ref o), (1, .int 0)]) hx hb dL_tick_429 hl (by decide) rfl (fun ls hl => ?_)
        refine lv_aload_n hx hb dL_tick_431 rfl (lv_at hl 17 rfl) ?_
        refine lv_iload_n hx hb dL_tick_432 rfl (lv_at hl 18 rfl) ?_
        refine lv_iconst (v := 1) hx hb dL_tick_433 (by decide) ?_
        refine lw_i (rL (rest := []) ⟨hx, hb, hml, hown, hts⟩ (LB_pass_ok l G cA A o (u, v, f, g, L) n K ch hn 0 1 (by decide) (by decide) (by decide) (by decide) hT hG1 hBo) (cwV 2 hts gL_tick_X8_pass rfl rfl rfl mdX8_pass ⟨Nat.le_of_ble_eq_true rfl, Nat.le_of_ble_eq_true rfl⟩) hA hL rfl hl rfl (Nat.le_of_ble_eq_true rfl) dL_tick_434 ⟨Nat.le_of_ble_eq_true rfl, Nat.le_of_ble_eq_true rfl⟩) hA (fun r_434_1 _ H locs hr_434_1 hA hL => ?_)
        replace hL : LB G cA A o (u, v, (goF u v f g 0), (goG u v f g 0), (goL u v g L 0)) (recN n) K ch H := hL
        replace hr_434_1 : r_434_1 = (goG u v f g 0) 13 := hr_434_1
        subst hr_434_1
        refine lv_iload hx hb dL_tick_437 (lv_at hl 4 rfl) ?_
        refine lv_icmp_ne (tgt := 489) hx hb dL_tick_439 (by decide) (fun c_439_1 => absurd (ht.1.trans (if_pos (Int32.not_lt.mp c_347))) c_439_1) (fun c_439_1 => ?_)
        refine lv_aload_n hx hb dL_tick_442 rfl (lv_at hl 17 rfl) ?_
        refine lr_f (rL (rest := []) ⟨hx, hb, hml, hown, hts⟩ (LB_place l G cA A o (u, v, (goF u v f g 0), (goG u v f g 0), (goL u v g L 0)) (recN n) K ch  ) (cwV 0 hts gL_tick_X8_place rfl rfl rfl mdX8_place ⟨Nat.le_of_ble_eq_true rfl, Nat.le_of_ble_eq_true rfl⟩) hA hL rfl hl rfl (Nat.le_of_ble_eq_true rfl) dL_tick_443 ⟨Nat.le_of_ble_eq_true rfl, Nat.le_of_ble_eq_true rfl⟩) hA hL (fun r_443_1 H locs hr_443_1 hA hL => ?_)
        replace hr_443_1 : r_443_1 = (goF u v f g 0) 7 := hr_443_1
        subst hr_443_1
        refine lv_fload hx hb dL_tick_446 (lv_at hl 3 rfl) ?_
        refine lv_fcmp hx hb dL_tick_448 ?_
        refine lv_if_ne (tgt := 489) hx hb dL_tick_449 (by decide) (fun c_449_1 => absurd (by rw [(ht.2.2.2.trans (if_pos (Int32.not_lt.mp c_347)))]; exact cmp_self (of_vf n32_0) _) c_449_1) (fun c_449_1 => ?_)
        refine lv_fload hx hb dL_tick_452 (lv_at hl 7 rfl) ?_
        refine lv_fload hx hb dL_tick_454 (lv_at hl 3 rfl) ?_
        refine lv_fcmp hx hb dL_tick_456 ?_
        refine lv_if_ne (tgt := 489) hx hb dL_tick_457 (by decide) (fun c_457_1 => absurd (by rw [(ht.2.2.2.trans (if_pos (Int32.not_lt.mp c_347)))]; exact cmp_self (of_vf n32_0) _) c_457_1) (fun c_457_1 => ?_)
        refine lv_aload_n hx hb dL_tick_460 rfl (lv_at hl 17 rfl) ?_
        refine lv_iconst (v := 1) hx hb dL_tick_461 (by decide) ?_
        refine lr_i (rL (rest := []) ⟨hx, hb, hml, hown, hts⟩ (LB_door l G cA A o (u, v, (goF u v f g 0), (goG u v f g 0), (goL u v g L 0)) (recN n) K ch 1 ) (cwV 1 hts gL_tick_X8_door rfl rfl rfl mdX8_door ⟨Nat.le_of_ble_eq_true rfl, Nat.le_of_ble_eq_true rfl⟩) hA hL rfl hl rfl (Nat.le_of_ble_eq_true rfl) dL_tick_462 ⟨Nat.le_of_ble_eq_true rfl, Nat.le_of_ble_eq_true rfl⟩) hA hL (fun r_462_1 H locs hr_462_1 hA hL => ?_)
        replace hr_462_1 : r_462_1 = (goG u v f g 0) 16 := hr_462_1
        subst hr_462_1
        refine lv_iload hx hb dL_tick_465 (lv_at hl 2 rfl) ?_
        refine lv_icmp_ne (tgt := 489) hx hb dL_tick_467 (by decide) (fun c_467_1 => absurd (ht.2.1.trans (if_pos (Int32.not_lt.mp c_347))) c_467_1) (fun c_467_1 => ?_)
        refine lv_aload_n hx hb dL_tick_470 rfl (lv_at hl 17 rfl) ?_
        refine lv_iconst (v := 2) hx hb dL_tick_471 (by decide) ?_
        refine lr_i (rL (rest := []) ⟨hx, hb, hml, hown, hts⟩ (LB_door l G cA A o (u, v, (goF u v f g 0), (goG u v f g 0), (goL u v g L 0)) (recN n) K ch 2 ) (cwV 1 hts gL_tick_X8_door rfl rfl rfl mdX8_door ⟨Nat.le_of_ble_eq_true rfl, Nat.le_of_ble_eq_true rfl⟩) hA hL rfl hl rfl (Nat.le_of_ble_eq_true rfl) dL_tick_472 ⟨Nat.le_of_ble_eq_true rfl, Nat.le_of_ble_eq_true rfl⟩) hA hL (fun r_472_1 H locs hr_472_1 hA hL => ?_)
        replace hr_472_1 : r_472_1 = oneF ((goG u v f g 0) 17) := hr_472_1
        subst hr_472_1
        refine lv_iload hx hb dL_tick_475 (lv_at hl 0 rfl) ?_
        refine lv_if_eq (tgt := 484) hx hb dL_tick_477 (by decide) (fun _ => ?_) (fun h9 => absurd (by decide) h9)
        refine lv_iload hx hb dL_tick_484 (lv_at hl 12 rfl) ?_
        refine lv_icmp_eq (tgt := 491) hx hb dL_tick_486 (by decide) (fun c_486_1 => ?_) (fun c_486_1 => absurd (by rw [ht.2.2.1] <;> rfl) c_486_1)
        refine lv_iload hx hb dL_tick_491 (lv_at hl 5 rfl) ?_
        refine lv_if_eq (tgt := 554) hx hb dL_tick_493 (by decide) (fun h9 => absurd h9 (by decide)) (fun _ => ?_)
        refine lv_aload_n hx hb dL_tick_496 rfl (lv_at hl 17 rfl) ?_
        refine lv_iconst (v := 0) hx hb dL_tick_497 (by decide) ?_
        refine lr_i (rL (rest := []) ⟨hx, hb, hml, hown, hts⟩ (LB_thing l G cA A o (u, v, (goF u v f g 0), (goG u v f g 0), (goL u v g L 0)) (recN n) K ch 0 hP2) (cwV 1 hts gL_tick_X8_thing rfl rfl rfl mdX8_thing ⟨Nat.le_of_ble_eq_true rfl, Nat.le_of_ble_eq_true rfl⟩) hA hL rfl hl rfl (Nat.le_of_ble_eq_true rfl) dL_tick_498 ⟨Nat.le_of_ble_eq_true rfl, Nat.le_of_ble_eq_true rfl⟩) hA hL (fun r_498_1 H locs hr_498_1 hA hL => ?_)
        replace hr_498_1 : r_498_1 = -5 := hr_498_1.trans (th_none 0 (by decide) (by decide) h5)
        subst hr_498_1
        refine lv_bipush (v := (-5)) hx hb dL_tick_501 (by decide) ?_
        refine lv_icmp_ne (tgt := 552) hx hb dL_tick_503 (by decide) (fun h9 => absurd (by decide) h9) (fun _ => ?_)
        refine lv_aload_n hx hb dL_tick_506 rfl (lv_at hl 17 rfl) ?_
        refine lv_iconst (v := 0) hx hb dL_tick_507 (by decide) ?_
        refine lv_iconst (v := 0) hx hb dL_tick_508 (by decide) ?_
        refine lr_i (rL (rest := []) ⟨hx, hb, hml, hown, hts⟩ (LB_judged l G cA A o (u, v, (goF u v f g 0), (goG u v f g 0), (goL u v g L 0)) (recN n) K ch 0 0 ) (cwV 2 hts gL_tick_X8_judged rfl rfl rfl mdX8_judged ⟨Nat.le_of_ble_eq_true rfl, Nat.le_of_ble_eq_true rfl⟩) hA hL rfl hl rfl (Nat.le_of_ble_eq_true rfl) dL_tick_509 ⟨Nat.le_of_ble_eq_true rfl, Nat.le_of_ble_eq_true rfl⟩) hA hL (fun r_509_1 H locs hr_509_1 hA hL => ?_)
        replace hr_509_1 : r_509_1 = bestK u g := hr_509_1.trans hju.1
        subst hr_509_1
        refine lv_iload hx hb dL_tick_512 (lv_at hl 8 rfl) ?_
        refine lv_icmp_ne (tgt := 552) hx hb dL_tick_514 (by decide) (fun c_514_1 => absurd rfl c_514_1) (fun c_514_1 => ?_)
        refine lv_aload_n hx hb dL_tick_517 rfl (lv_at hl 17 rfl) ?_
        refine lv_iload hx hb dL_tick_518 (lv_at hl 8 rfl) ?_
        refine lv_iconst (v := 1) hx hb dL_tick_520 (by decide) ?_
        refine lv_iadd hx hb dL_tick_521 ?_
        refine lr_i (rL (rest := []) ⟨hx, hb, hml, hown, hts⟩ (LB_count l G cA A o (u, v, (goF u v f g 0), (goG u v f g 0), (goL u v g L 0)) (recN n) K ch ((bestK u g) + 1)) (cwV 1 hts gL_tick_X8_count rfl rfl rfl mdX8_count ⟨Nat.le_of_ble_eq_true rfl, Nat.le_of_ble_eq_true rfl⟩) hA hL rfl hl rfl (Nat.le_of_ble_eq_true rfl) dL_tick_522 ⟨Nat.le_of_ble_eq_true rfl, Nat.le_of_ble_eq_true rfl⟩) hA hL (fun r_522_1 H locs hr_522_1 hA hL => ?_)
        replace hr_522_1 : r_522_1 = cnF (goG u v f g 0) (nI (recN n)) (nI K) ((bestK u g) + 1) := hr_522_1
        subst hr_522_1
        refine lv_iload hx hb dL_tick_525 (lv_at hl 6 rfl) ?_
        refine lv_iconst (v := 1) hx hb dL_tick_527 (by decide) ?_
        refine lv_iadd hx hb dL_tick_528 ?_
        refine lv_icmp_ne (tgt := 552) hx hb dL_tick_529 (by decide) (fun c_529_1 => absurd hcn c_529_1) (fun c_529_1 => ?_)
        refine lv_aload_n hx hb dL_tick_532 rfl (lv_at hl 17 rfl) ?_
        refine lv_iconst (v := 0) hx hb dL_tick_533 (by decide) ?_
        refine lv_iconst (v := 4) hx hb dL_tick_534 (by decide) ?_
        refine lr_i (rL (rest := []) ⟨hx, hb, hml, hown, hts⟩ (LB_judged l G cA A o (u, v, (goF u v f g 0), (goG u v f g 0), (goL u v g L 0)) (recN n) K ch 0 4 ) (cwV 2 hts gL_tick_X8_judged rfl rfl rfl mdX8_judged ⟨Nat.le_of_ble_eq_true rfl, Nat.le_of_ble_eq_true rfl⟩) hA hL rfl hl rfl (Nat.le_of_ble_eq_true rfl) dL_tick_535 ⟨Nat.le_of_ble_eq_true rfl, Nat.le_of_ble_eq_true rfl⟩) hA hL (fun r_535_1 H locs hr_535_1 hA hL => ?_)
        replace hr_535_1 : r_535_1 = (goG u v f g 0) 27 - 1 := hr_535_1.trans hju.2
        subst hr_535_1
        refine lv_aload_n hx hb dL_tick_538 rfl (lv_at hl 17 rfl) ?_
        refine lv_iconst (v := 0) hx hb dL_tick_539 (by decide) ?_
        refine lr_i (rL (rest := [.int ((goG u v f g 0) 27 - 1)]) ⟨hx, hb, hml, hown, hts⟩ (LB_count l G cA A o (u, v, (goF u v f g 0), (goG u v f g 0), (goL u v g L 0)) (recN n) K ch 0) (cwV 1 hts gL_tick_X8_count rfl rfl rfl mdX8_count ⟨Nat.le_of_ble_eq_true rfl, Nat.le_of_ble_eq_true rfl⟩) hA hL rfl hl rfl (Nat.le_of_ble_eq_true rfl) dL_tick_540 ⟨Nat.le_of_ble_eq_true rfl, Nat.le_of_ble_eq_true rfl⟩) hA hL (fun r_540_1 H locs hr_540_1 hA hL => ?_)
        replace hr_540_1 : r_540_1 = (goG u v f g 0) 27 := hr_540_1
        subst hr_540_1
        refine lv_iconst (v := 1) hx hb dL_tick_543 (by decide) ?_
        refine lv_isub hx hb dL_tick_544 ?_
        refine lv_icmp_ne (tgt := 552) hx hb dL_tick_545 (by decide) (fun c_545_1 => absurd rfl c_545_1) (fun c_545_1 => ?_)
        refine lv_iconst (v := 1) hx hb dL_tick_548 (by decide) ?_
        refine lv_goto (tgt := 553) hx hb dL_tick_549 (by decide) ?_
        exact en_l (post := fun r (_ : Unit) => r = 1) (B := fun _ H => LB G cA A o (u, v, (goF u v f g 0), (goG u v f g 0), (goL u v g L 0)) (recN n) K ch H) () hx hb hr hlocks hA rfl hL dL_tick_553
    · skip
      refine lv_aload_n hx hb dL_tick_327 rfl (lv_at hl 15 rfl) ?_
      refine lv_iconst (v := 2) hx hb dL_tick_328 (by decide) ?_
      refine lr_f (rL (rest := [.float (f 7)]) ⟨hx, hb, hml, hown, hts⟩ (LB_speed l G cA A o (u, v, f, g, L) n K ch 2 ) (cwV 1 hts gL_tick_X8_speed rfl rfl rfl mdX8_speed ⟨Nat.le_of_ble_eq_true rfl, Nat.le_of_ble_eq_true rfl⟩) hA hL rfl hl rfl (Nat.le_of_ble_eq_true rfl) dL_tick_329 ⟨Nat.le_of_ble_eq_true rfl, Nat.le_of_ble_eq_true rfl⟩) hA hL (fun r_329 H locs hr_329 hA hL => ?_)
      replace hr_329 : r_329 = u 2 := hr_329
      subst hr_329
      refine lv_goto (tgt := 340) hx hb dL_tick_332 (by decide) ?_
      refine lv_fsub hx hb dL_tick_340 (hGo.2.2.2) ?_
      refine W.eq (g2 := F0 m 341 ls [.float (FP.fsub (f 7) (spF u (scF v (preG u v g 0))))]) (by rw [show spF u (scF v (preG u v g 0)) = u 2 from by unfold scF; rw [if_neg c_324]; rfl]) ?_
      refine lv_fstore (lv' := [(16, .float (FP.fsub (f 7) (spF u (scF v (preG u v g 0))))), (15, .int 3), (4, .int (preG u v g 0 16)), (14, .int 1), (13, .int (cnF g (nI n) (nI K) ((bestK u g) + 1))), (12, .float ((goF u v f g 0) 7)), (11, .int (bestK u g)), (10, .int (oneF (g 12))), (9, .int (g 11)), (8, .int (g 7)), (7, .int (oneF (g 17))), (6, .int (g 15)), (5, .int 0), (3, .float (f 7)), (2, .int 3), (0, .ref o), (1, .int 0)]) hx hb dL_tick_341 hl (by decide) rfl (fun ls hl => ?_)
      refine lv_fload hx hb dL_tick_343 (lv_at hl 0 rfl) ?_
      refine lv_fconst0 hx hb dL_tick_345 ?_
      refine lv_fcmp hx hb dL_tick_346 ?_
      refine W.eq (g2 := F0 m 347 ls [.int (Op.cmpValue (FP.fcmp (FP.fsub (f 7) (spF u (scF v (preG u v g 0)))) FP.fconst0) CmpOp.l)]) (by rw [cmp_gl hsn n32_0]) ?_
      refine lv_if_gt (tgt := 354) hx hb dL_tick_347 (by decide) (fun c_347_1 => ?_) (fun c_347_1 => ?_)
      · skip
        refine lv_iconst (v := 3) hx hb dL_tick_354 (by decide) ?_
        refine lv_istore (lv' := [(15, .int 3), (16, .float (FP.fsub (f 7) (spF u (scF v (preG u v g 0))))), (4, .int (preG u v g 0 16)), (14, .int 1), (13, .int (cnF g (nI n) (nI K) ((bestK u g) + 1))), (12, .float ((goF u v f g 0) 7)), (11, .int (bestK u g)), (10, .int (oneF (g 12))), (9, .int (g 11)), (8, .int (g 7)), (7, .int (oneF (g 17))), (6, .int (g 15)), (5, .int 0), (3, .float (f 7)), (2, .int 3), (0, .ref o), (1, .int 0)]) hx hb dL_tick_355 hl (by decide) rfl (fun ls hl => ?_)
        refine lv_fload hx hb dL_tick_357 (lv_at hl 1 rfl) ?_
        refine lv_fconst0 hx hb dL_tick_359 ?_
        refine lv_fcmp hx hb dL_tick_360 ?_
        refine W.eq (g2 := F0 m 361 ls [.int (Op.cmpValue (FP.fcmp (FP.fsub (f 7) (spF u (scF v (preG u v g 0)))) FP.fconst0) CmpOp.l)]) (by rw [cmp_gl hsn n32_0]) ?_
        refine lv_if_gt (tgt := 368) hx hb dL_tick_361 (by decide) (fun c_361_2 => ?_) (fun c_361_2 => absurd c_347_1 c_361_2)
        refine lv_fload hx hb dL_tick_368 (lv_at hl 1 rfl) ?_
        refine lv_fstore (lv' := [(16, .float (FP.fsub (f 7) (spF u (scF v (preG u v g 0))))), (15, .int 3), (4, .int (preG u v g 0 16)), (14, .int 1), (13, .int (cnF g (nI n) (nI K) ((bestK u g) + 1))), (12, .float ((goF u v f g 0) 7)), (11, .int (bestK u g)), (10, .int (oneF (g 12))), (9, .int (g 11)), (8, .int (g 7)), (7, .int (oneF (g 17))), (6, .int (g 15)), (5, .int 0), (3, .float (f 7)), (2, .int 3), (0, .ref o), (1, .int 0)]) hx hb dL_tick_370 hl (by decide) rfl (fun ls hl => ?_)
        refine lv_iload hx hb dL_tick_372 (lv_at hl 1 rfl) ?_
        refine lv_if_ne (tgt := 381) hx hb dL_tick_374 (by decide) (fun _ => ?_) (fun h9 => absurd h9 (by decide))
        refine lv_iload hx hb dL_tick_381 (lv_at hl 2 rfl) ?_
        refine lv_istore (lv' := [(4, .int (preG u v g 0 16)), (16, .float (FP.fsub (f 7) (spF u (scF v (preG u v g 0))))), (15, .int 3), (14, .int 1), (13, .int (cnF g (nI n) (nI K) ((bestK u g) + 1))), (12, .float ((goF u v f g 0) 7)), (11, .int (bestK u g)), (10, .int (oneF (g 12))), (9, .int (g 11)), (8, .int (g 7)), (7, .int (oneF (g 17))), (6, .int (g 15)), (5, .int 0), (3, .float (f 7)), (2, .int 3), (0, .ref o), (1, .int 0)]) hx hb dL_tick_383 hl (by decide) rfl (fun ls hl => ?_)
        refine lv_iload_n hx hb dL_tick_385 rfl (lv_at hl 14 rfl) ?_
        refine lv_iconst (v := 3) hx hb dL_tick_386 (by decide) ?_
        refine lv_icmp_ne (tgt := 400) hx hb dL_tick_387 (by decide) (fun h9 => absurd (by decide) h9) (fun _ => ?_)
        refine lv_iload hx hb dL_tick_390 (lv_at hl 2 rfl) ?_
        refine lv_iconst (v := 1) hx hb dL_tick_392 (by decide) ?_
        refine lv_icmp_ne (tgt := 400) hx hb dL_tick_393 (by decide) (fun _ => ?_) (fun h9 => absurd h9 (by decide))
        refine lv_iconst (v := 0) hx hb dL_tick_400 (by decide) ?_
        refine lv_istore (lv' := [(17, .int 0), (4, .int (preG u v g 0 16)), (16, .float (FP.fsub (f 7) (spF u (scF v (preG u v g 0))))), (15, .int 3), (14, .int 1), (13, .int (cnF g (nI n) (nI K) ((bestK u g) + 1))), (12, .float ((goF u v f g 0) 7)), (11, .int (bestK u g)), (10, .int (oneF (g 12))), (9, .int (g 11)), (8, .int (g 7)), (7, .int (oneF (g 17))), (6, .int (g 15)), (5, .int 0), (3, .float (f 7)), (2, .int 3), (0, .ref o), (1, .int 0)]) hx hb dL_tick_401 hl (by decide) rfl (fun ls hl => ?_)
        refine lv_iload hx hb dL_tick_403 (lv_at hl 0 rfl) ?_
        refine lv_if_eq (tgt := 428) hx hb dL_tick_405 (by decide) (fun _ => ?_) (fun h9 => absurd (by decide) h9)
        refine lv_iconst (v := 0) hx hb dL_tick_428 (by decide) ?_
        refine lv_istore (lv' := [(18, .int 0), (17, .int 0), (4, .int (preG u v g 0 16)), (16, .float (FP.fsub (f 7) (spF u (scF v (preG u v g 0))))), (15, .int 3), (14, .int 1), (13, .int (cnF g (nI n) (nI K) ((bestK u g) + 1))), (12, .float ((goF u v f g 0) 7)), (11, .int (bestK u g)), (10, .int (oneF (g 12))), (9, .int (g 11)), (8, .int (g 7)), (7, .int (oneF (g 17))), (6, .int (g 15)), (5, .int 0), (3, .float (f 7)), (2, .int 3), (0, .ref o), (1, .int 0)]) hx hb dL_tick_429 hl (by decide) rfl (fun ls hl => ?_)
        refine lv_aload_n hx hb dL_tick_431 rfl (lv_at hl 17 rfl) ?_
        refine lv_iload_n hx hb dL_tick_432 rfl (lv_at hl 18 rfl) ?_
        refine lv_iconst (v := 1) hx hb dL_tick_433 (by decide) ?_
        refine lw_i (rL (rest := []) ⟨hx, hb, hml, hown, hts⟩ (LB_pass_ok l G cA A o (u, v, f, g, L) n K ch hn 0 1 (by decide) (by decide) (by decide) (by decide) hT hG1 hBo) (cwV 2 hts gL_tick_X8_pass rfl rfl rfl mdX8_pass ⟨Nat.le_of_ble_eq_true rfl, Nat.le_of_ble_eq_true rfl⟩) hA hL rfl hl rfl (Nat.le_of_ble_eq_true rfl) dL_tick_434 ⟨Nat.le_of_ble_eq_true rfl, Nat.le_of_ble_eq_true rfl⟩) hA (fun r_434_2 _ H locs hr_434_2 hA hL => ?_)
        replace hL : LB G cA A o (u, v, (goF u v f g 0), (goG u v f g 0), (goL u v g L 0)) (recN n) K ch H := hL
        replace hr_434_2 : r_434_2 = (goG u v f g 0) 13 := hr_434_2
        subst hr_434_2
        refine lv_iload hx hb dL_tick_437 (lv_at hl 4 rfl) ?_
        refine lv_icmp_ne (tgt := 489) hx hb dL_tick_439 (by decide) (fun c_439_2 => absurd (ht.1.trans (if_neg (Int32.not_le.mpr c_347_1))) c_439_2) (fun c_439_2 => ?_)
        refine lv_aload_n hx hb dL_tick_442 rfl (lv_at hl 17 rfl) ?_
        refine lr_f (rL (rest := []) ⟨hx, hb, hml, hown, hts⟩ (LB_place l G cA A o (u, v, (goF u v f g 0), (goG u v f g 0), (goL u v g L 0)) (recN n) K ch  ) (cwV 0 hts gL_tick_X8_place rfl rfl rfl mdX8_place ⟨Nat.le_of_ble_eq_true rfl, Nat.le_of_ble_eq_true rfl⟩) hA hL rfl hl rfl (Nat.le_of_ble_eq_true rfl) dL_tick_443 ⟨Nat.le_of_ble_eq_true rfl, Nat.le_of_ble_eq_true rfl⟩) hA hL (fun r_443_2 H locs hr_443_2 hA hL => ?_)
        replace hr_443_2 : r_443_2 = (goF u v f g 0) 7 := hr_443_2
        subst hr_443_2
        refine lv_fload hx hb dL_tick_446 (lv_at hl 3 rfl) ?_
        refine lv_fcmp hx hb dL_tick_448 ?_
        refine lv_if_ne (tgt := 489) hx hb dL_tick_449 (by decide) (fun c_449_2 => absurd (by rw [(ht.2.2.2.trans (if_neg (Int32.not_le.mpr c_347_1)))]; exact cmp_self (of_vf hsn) _) c_449_2) (fun c_449_2 => ?_)
        refine lv_fload hx hb dL_tick_452 (lv_at hl 7 rfl) ?_
        refine lv_fload hx hb dL_tick_454 (lv_at hl 3 rfl) ?_
        refine lv_fcmp hx hb dL_tick_456 ?_
        refine lv_if_ne (tgt := 489) hx hb dL_tick_457 (by decide) (fun c_457_2 => absurd (by rw [(ht.2.2.2.trans (if_neg (Int32.not_le.mpr c_347_1)))]; exact cmp_self (of_vf hsn) _) c_457_2) (fun c_457_2 => ?_)
        refine lv_aload_n hx hb dL_tick_460 rfl (lv_at hl 17 rfl) ?_
        refine lv_iconst (v := 1) hx hb dL_tick_461 (by decide) ?_
        refine lr_i (rL (rest := []) ⟨hx, hb, hml, hown, hts⟩ (LB_door l G cA A o (u, v, (goF u v f g 0), (goG u v f g 0), (goL u v g L 0)) (recN n) K ch 1 ) (cwV 1 hts gL_tick_X8_door rfl rfl rfl mdX8_door ⟨Nat.le_of_ble_eq_true rfl, Nat.le_of_ble_eq_true rfl⟩) hA hL rfl hl rfl (Nat.le_of_ble_eq_true rfl) dL_tick_462 ⟨Nat.le_of_ble_eq_true rfl, Nat.le_of_ble_eq_true rfl⟩) hA hL (fun r_462_2 H locs hr_462_2 hA hL => ?_)
        replace hr_462_2 : r_462_2 = (goG u v f g 0) 16 := hr_462_2
        subst hr_462_2
        refine lv_iload hx hb dL_tick_465 (lv_at hl 2 rfl) ?_
        refine lv_icmp_ne (tgt := 489) hx hb dL_tick_467 (by decide) (fun c_467_2 => absurd (ht.2.1.trans (if_neg (Int32.not_le.mpr c_347_1))) c_467_2) (fun c_467_2 => ?_)
        refine lv_aload_n hx hb dL_tick_470 rfl (lv_at hl 17 rfl) ?_
        refine lv_iconst (v := 2) hx hb dL_tick_471 (by decide) ?_
        refine lr_i (rL (rest := []) ⟨hx, hb, hml, hown, hts⟩ (LB_door l G cA A o (u, v, (goF u v f g 0), (goG u v f g 0), (goL u v g L 0)) (recN n) K ch 2 ) (cwV 1 hts gL_tick_X8_door rfl rfl rfl mdX8_door ⟨Nat.le_of_ble_eq_true rfl, Nat.le_of_ble_eq_true rfl⟩) hA hL rfl hl rfl (Nat.le_of_ble_eq_true rfl) dL_tick_472 ⟨Nat.le_of_ble_eq_true rfl, Nat.le_of_ble_eq_true rfl⟩) hA hL (fun r_472_2 H locs hr_472_2 hA hL => ?_)
        replace hr_472_2 : r_472_2 = oneF ((goG u v f g 0) 17) := hr_472_2
        subst hr_472_2
        refine lv_iload hx hb dL_tick_475 (lv_at hl 0 rfl) ?_
        refine lv_if_eq (tgt := 484) hx hb dL_tick_477 (by decide) (fun _ => ?_) (fun h9 => absurd (by decide) h9)
        refine lv_iload hx hb dL_tick_484 (lv_at hl 12 rfl) ?_
        refine lv_icmp_eq (tgt := 491) hx hb dL_tick_486 (by decide) (fun c_486_2 => ?_) (fun c_486_2 => absurd (by rw [ht.2.2.1] <;> rfl) c_486_2)
        refine lv_iload hx hb dL_tick_491 (lv_at hl 5 rfl) ?_
        refine lv_if_eq (tgt := 554) hx hb dL_tick_493 (by decide) (fun h9 => absurd h9 (by decide)) (fun _ => ?_)
        refine lv_aload_n hx hb dL_tick_496 rfl (lv_at hl 17 rfl) ?_
        refine lv_iconst (v := 0) hx hb dL_tick_497 (by decide) ?_
        refine lr_i (rL (rest := []) ⟨hx, hb, hml, hown, hts⟩ (LB_thing l G cA A o (u, v, (goF u v f g 0), (goG u v f g 0), (goL u v g L 0)) (recN n) K ch 0 hP2) (cwV 1 hts gL_tick_X8_thing rfl rfl rfl mdX8_thing ⟨Nat.le_of_ble_eq_true rfl, Nat.le_of_ble_eq_true rfl⟩) hA hL rfl hl rfl (Nat.le_of_ble_eq_true rfl) dL_tick_498 ⟨Nat.le_of_ble_eq_true rfl, Nat.le_of_ble_eq_true rfl⟩) hA hL (fun r_498_2 H locs hr_498_2 hA hL => ?_)
        replace hr_498_2 : r_498_2 = -5 := hr_498_2.trans (th_none 0 (by decide) (by decide) h5)
        subst hr_498_2
        refine lv_bipush (v := (-5)) hx hb dL_tick_501 (by decide) ?_
        refine lv_icmp_ne (tgt := 552) hx hb dL_tick_503 (by decide) (fun h9 => absurd (by decide) h9) (fun _ => ?_)
        refine lv_aload_n hx hb dL_tick_506 rfl (lv_at hl 17 rfl) ?_
        refine lv_iconst (v := 0) hx hb dL_tick_507 (by decide) ?_
        refine lv_iconst (v := 0) hx hb dL_tick_508 (by decide) ?_
        refine lr_i (rL (rest := []) ⟨hx, hb, hml, hown, hts⟩ (LB_judged l G cA A o (u, v, (goF u v f g 0), (goG u v f g 0), (goL u v g L 0)) (recN n) K ch 0 0 ) (cwV 2 hts gL_tick_X8_judged rfl rfl rfl mdX8_judged ⟨Nat.le_of_ble_eq_true rfl, Nat.le_of_ble_eq_true rfl⟩) hA hL rfl hl rfl (Nat.le_of_ble_eq_true rfl) dL_tick_509 ⟨Nat.le_of_ble_eq_true rfl, Nat.le_of_ble_eq_true rfl⟩) hA hL (fun r_509_2 H locs hr_509_2 hA hL => ?_)
        replace hr_509_2 : r_509_2 = bestK u g := hr_509_2.trans hju.1
        subst hr_509_2
        refine lv_iload hx hb dL_tick_512 (lv_at hl 8 rfl) ?_
        refine lv_icmp_ne (tgt := 552) hx hb dL_tick_514 (by decide) (fun c_514_2 => absurd rfl c_514_2) (fun c_514_2 => ?_)
        refine lv_aload_n hx hb dL_tick_517 rfl (lv_at hl 17 rfl) ?_
        refine lv_iload hx hb dL_tick_518 (lv_at hl 8 rfl) ?_
        refine lv_iconst (v := 1) hx hb dL_tick_520 (by decide) ?_
        refine lv_iadd hx hb dL_tick_521 ?_
        refine lr_i (rL (rest := []) ⟨hx, hb, hml, hown, hts⟩ (LB_count l G cA A o (u, v, (goF u v f g 0), (goG u v f g 0), (goL u v g L 0)) (recN n) K ch ((bestK u g) + 1)) (cwV 1 hts gL_tick_X8_count rfl rfl rfl mdX8_count ⟨Nat.le_of_ble_eq_true rfl, Nat.le_of_ble_eq_true rfl⟩) hA hL rfl hl rfl (Nat.le_of_ble_eq_true rfl) dL_tick_522 ⟨Nat.le_of_ble_eq_true rfl, Nat.le_of_ble_eq_true rfl⟩) hA hL (fun r_522_2 H locs hr_522_2 hA hL => ?_)
        replace hr_522_2 : r_522_2 = cnF (goG u v f g 0) (nI (recN n)) (nI K) ((bestK u g) + 1) := hr_522_2
        subst hr_522_2
        refine lv_iload hx hb dL_tick_525 (lv_at hl 6 rfl) ?_
        refine lv_iconst (v := 1) hx hb dL_tick_527 (by decide) ?_
        refine lv_iadd hx hb dL_tick_528 ?_
        refine lv_icmp_ne (tgt := 552) hx hb dL_tick_529 (by decide) (fun c_529_2 => absurd hcn c_529_2) (fun c_529_2 => ?_)
        refine lv_aload_n hx hb dL_tick_532 rfl (lv_at hl 17 rfl) ?_
        refine lv_iconst (v := 0) hx hb dL_tick_533 (by decide) ?_
        refine lv_iconst (v := 4) hx hb dL_tick_534 (by decide) ?_
        refine lr_i (rL (rest := []) ⟨hx, hb, hml, hown, hts⟩ (LB_judged l G cA A o (u, v, (goF u v f g 0), (goG u v f g 0), (goL u v g L 0)) (recN n) K ch 0 4 ) (cwV 2 hts gL_tick_X8_judged rfl rfl rfl mdX8_judged ⟨Nat.le_of_ble_eq_true rfl, Nat.le_of_ble_eq_true rfl⟩) hA hL rfl hl rfl (Nat.le_of_ble_eq_true rfl) dL_tick_535 ⟨Nat.le_of_ble_eq_true rfl, Nat.le_of_ble_eq_true rfl⟩) hA hL (fun r_535_2 H locs hr_535_2 hA hL => ?_)
        replace hr_535_2 : r_535_2 = (goG u v f g 0) 27 - 1 := hr_535_2.trans hju.2
        subst hr_535_2
        refine lv_aload_n hx hb dL_tick_538 rfl (lv_at hl 17 rfl) ?_
        refine lv_iconst (v := 0) hx hb dL_tick_539 (by decide) ?_
        refine lr_i (rL (rest := [.int ((goG u v f g 0) 27 - 1)]) ⟨hx, hb, hml, hown, hts⟩ (LB_count l G cA A o (u, v, (goF u v f g 0), (goG u v f g 0), (goL u v g L 0)) (recN n) K ch 0) (cwV 1 hts gL_tick_X8_count rfl rfl rfl mdX8_count ⟨Nat.le_of_ble_eq_true rfl, Nat.le_of_ble_eq_true rfl⟩) hA hL rfl hl rfl (Nat.le_of_ble_eq_true rfl) dL_tick_540 ⟨Nat.le_of_ble_eq_true rfl, Nat.le_of_ble_eq_true rfl⟩) hA hL (fun r_540_2 H locs hr_540_2 hA hL => ?_)
        replace hr_540_2 : r_540_2 = (goG u v f g 0) 27 := hr_540_2
        subst hr_540_2
        refine lv_iconst (v := 1) hx hb dL_tick_543 (by decide) ?_
        refine lv_isub hx hb dL_tick_544 ?_
        refine lv_icmp_ne (tgt := 552) hx hb dL_tick_545 (by decide) (fun c_545_2 => absurd rfl c_545_2) (fun c_545_2 => ?_)
        refine lv_iconst (v := 1) hx hb dL_tick_548 (by decide) ?_
        refine lv_goto (tgt := 553) hx hb dL_tick_549 (by decide) ?_
        exact en_l (post := fun r (_ : Unit) => r = 1) (B := fun _ H => LB G cA A o (u, v, (goF u v f g 0), (goG u v f g 0), (goL u v g L 0)) (recN n) K ch H) () hx hb hr hlocks hA rfl hL dL_tick_553
      · skip
        refine lv_iconst (v := 0) hx hb dL_tick_350 (by decide) ?_
        refine lv_goto (tgt := 355) hx hb dL_tick_351 (by decide) ?_
        refine lv_istore (lv' := [(15, .int 0), (16, .float (FP.fsub (f 7) (spF u (scF v (preG u v g 0))))), (4, .int (preG u v g 0 16)), (14, .int 1), (13, .int (cnF g (nI n) (nI K) ((bestK u g) + 1))), (12, .float ((goF u v f g 0) 7)), (11, .int (bestK u g)), (10, .int (oneF (g 12))), (9, .int (g 11)), (8, .int (g 7)), (7, .int (oneF (g 17))), (6, .int (g 15)), (5, .int 0), (3, .float (f 7)), (2, .int 3), (0, .ref o), (1, .int 0)]) hx hb dL_tick_355 hl (by decide) rfl (fun ls hl => ?_)
        refine lv_fload hx hb dL_tick_357 (lv_at hl 1 rfl) ?_
        refine lv_fconst0 hx hb dL_tick_359 ?_
        refine lv_fcmp hx hb dL_tick_360 ?_
        refine W.eq (g2 := F0 m 361 ls [.int (Op.cmpValue (FP.fcmp (FP.fsub (f 7) (spF u (scF v (preG u v g 0)))) FP.fconst0) CmpOp.l)]) (by rw [cmp_gl hsn n32_0]) ?_
        refine lv_if_gt (tgt := 368) hx hb dL_tick_361 (by decide) (fun c_361_3 => absurd c_361_3 c_347_1) (fun c_361_3 => ?_)
        refine lv_fconst0 hx hb dL_tick_364 ?_
        refine lv_goto (tgt := 370) hx hb dL_tick_365 (by decide) ?_
        refine lv_fstore (lv' := [(16, .float FP.fconst0), (15, .int 0), (4, .int (preG u v g 0 16)), (14, .int 1), (13, .int (cnF g (nI n) (nI K) ((bestK u g) + 1))), (12, .float ((goF u v f g 0) 7)), (11, .int (bestK u g)), (10, .int (oneF (g 12))), (9, .int (g 11)), (8, .int (g 7)), (7, .int (oneF (g 17))), (6, .int (g 15)), (5, .int 0), (3, .float (f 7)), (2, .int 3), (0, .ref o), (1, .int 0)]) hx hb dL_tick_370 hl (by decide) rfl (fun ls hl => ?_)
        refine lv_iload hx hb dL_tick_372 (lv_at hl 1 rfl) ?_
        refine lv_if_ne (tgt := 381) hx hb dL_tick_374 (by decide) (fun h9 => absurd (by decide) h9) (fun _ => ?_)
        refine lv_iconst (v := 0) hx hb dL_tick_377 (by decide) ?_
        refine lv_goto (tgt := 383) hx hb dL_tick_378 (by decide) ?_
        refine lv_istore (lv' := [(4, .int 0), (16, .float FP.fconst0), (15, .int 0), (14, .int 1), (13, .int (cnF g (nI n) (nI K) ((bestK u g) + 1))), (12, .float ((goF u v f g 0) 7)), (11, .int (bestK u g)), (10, .int (oneF (g 12))), (9, .int (g 11)), (8, .int (g 7)), (7, .int (oneF (g 17))), (6, .int (g 15)), (5, .int 0), (3, .float (f 7)), (2, .int 3), (0, .ref o), (1, .int 0)]) hx hb dL_tick_383 hl (by decide) rfl (fun ls hl => ?_)
        refine lv_iload_n hx hb dL_tick_385 rfl (lv_at hl 14 rfl) ?_
        refine lv_iconst (v := 3) hx hb dL_tick_386 (by decide) ?_
        refine lv_icmp_ne (tgt := 400) hx hb dL_tick_387 (by decide) (fun h9 => absurd (by decide) h9) (fun _ => ?_)
        refine lv_iload hx hb dL_tick_390 (lv_at hl 2 rfl) ?_
        refine lv_iconst (v := 1) hx hb dL_tick_392 (by decide) ?_
        refine lv_icmp_ne (tgt := 400) hx hb dL_tick_393 (by decide) (fun _ => ?_) (fun h9 => absurd h9 (by decide))
        refine lv_iconst (v := 0) hx hb dL_tick_400 (by decide) ?_
        refine lv_istore (lv' := [(17, .int 0), (4, .int 0), (16, .float FP.fconst0), (15, .int 0), (14, .int 1), (13, .int (cnF g (nI n) (nI K) ((bestK u g) + 1))), (12, .float ((goF u v f g 0) 7)), (11, .int (bestK u g)), (10, .int (oneF (g 12))), (9, .int (g 11)), (8, .int (g 7)), (7, .int (oneF (g 17))), (6, .int (g 15)), (5, .int 0), (3, .float (f 7)), (2, .int 3), (0, .ref o), (1, .int 0)]) hx hb dL_tick_401 hl (by decide) rfl (fun ls hl => ?_)
        refine lv_iload hx hb dL_tick_403 (lv_at hl 0 rfl) ?_
        refine lv_if_eq (tgt := 428) hx hb dL_tick_405 (by decide) (fun _ => ?_) (fun h9 => absurd (by decide) h9)
        refine lv_iconst (v := 0) hx hb dL_tick_428 (by decide) ?_
        refine lv_istore (lv' := [(18, .int 0), (17, .int 0), (4, .int 0), (16, .float FP.fconst0), (15, .int 0), (14, .int 1), (13, .int (cnF g (nI n) (nI K) ((bestK u g) + 1))), (12, .float ((goF u v f g 0) 7)), (11, .int (bestK u g)), (10, .int (oneF (g 12))), (9, .int (g 11)), (8, .int (g 7)), (7, .int (oneF (g 17))), (6, .int (g 15)), (5, .int 0), (3, .float (f 7)), (2, .int 3), (0, .ref o), (1, .int 0)]) hx hb dL_tick_429 hl (by decide) rfl (fun ls hl => ?_)
        refine lv_aload_n hx hb dL_tick_431 rfl (lv_at hl 17 rfl) ?_
        refine lv_iload_n hx hb dL_tick_432 rfl (lv_at hl 18 rfl) ?_
        refine lv_iconst (v := 1) hx hb dL_tick_433 (by decide) ?_
        refine lw_i (rL (rest := []) ⟨hx, hb, hml, hown, hts⟩ (LB_pass_ok l G cA A o (u, v, f, g, L) n K ch hn 0 1 (by decide) (by decide) (by decide) (by decide) hT hG1 hBo) (cwV 2 hts gL_tick_X8_pass rfl rfl rfl mdX8_pass ⟨Nat.le_of_ble_eq_true rfl, Nat.le_of_ble_eq_true rfl⟩) hA hL rfl hl rfl (Nat.le_of_ble_eq_true rfl) dL_tick_434 ⟨Nat.le_of_ble_eq_true rfl, Nat.le_of_ble_eq_true rfl⟩) hA (fun r_434_3 _ H locs hr_434_3 hA hL => ?_)
        replace hL : LB G cA A o (u, v, (goF u v f g 0), (goG u v f g 0), (goL u v g L 0)) (recN n) K ch H := hL
        replace hr_434_3 : r_434_3 = (goG u v f g 0) 13 := hr_434_3
        subst hr_434_3
        refine lv_iload hx hb dL_tick_437 (lv_at hl 4 rfl) ?_
        refine lv_icmp_ne (tgt := 489) hx hb dL_tick_439 (by decide) (fun c_439_3 => absurd (ht.1.trans (if_pos (Int32.not_lt.mp c_347_1))) c_439_3) (fun c_439_3 => ?_)
        refine lv_aload_n hx hb dL_tick_442 rfl (lv_at hl 17 rfl) ?_
        refine lr_f (rL (rest := []) ⟨hx, hb, hml, hown, hts⟩ (LB_place l G cA A o (u, v, (goF u v f g 0), (goG u v f g 0), (goL u v g L 0)) (recN n) K ch  ) (cwV 0 hts gL_tick_X8_place rfl rfl rfl mdX8_place ⟨Nat.le_of_ble_eq_true rfl, Nat.le_of_ble_eq_true rfl⟩) hA hL rfl hl rfl (Nat.le_of_ble_eq_true rfl) dL_tick_443 ⟨Nat.le_of_ble_eq_true rfl, Nat.le_of_ble_eq_true rfl⟩) hA hL (fun r_443_3 H locs hr_443_3 hA hL => ?_)
        replace hr_443_3 : r_443_3 = (goF u v f g 0) 7 := hr_443_3
        subst hr_443_3
        refine lv_fload hx hb dL_tick_446 (lv_at hl 3 rfl) ?_
        refine lv_fcmp hx hb dL_tick_448 ?_
        refine lv_if_ne (tgt := 489) hx hb dL_tick_449 (by decide) (fun c_449_3 => absurd (by rw [(ht.2.2.2.trans (if_pos (Int32.not_lt.mp c_347_1)))]; exact cmp_self (of_vf n32_0) _) c_449_3) (fun c_449_3 => ?_)
        refine lv_fload hx hb dL_tick_452 (lv_at hl 7 rfl) ?_
        refine lv_fload hx hb dL_tick_454 (lv_at hl 3 rfl) ?_
        refine lv_fcmp hx hb dL_tick_456 ?_
        refine lv_if_ne (tgt := 489) hx hb dL_tick_457 (by decide) (fun c_457_3 => absurd (by rw [(ht.2.2.2.trans (if_pos (Int32.not_lt.mp c_347_1)))]; exact cmp_self (of_vf n32_0) _) c_457_3) (fun c_457_3 => ?_)
        refine lv_aload_n hx hb dL_tick_460 rfl (lv_at hl 17 rfl) ?_
        refine lv_iconst (v := 1) hx hb dL_tick_461 (by decide) ?_
        refine lr_i (rL (rest := []) ⟨hx, hb, hml, hown, hts⟩ (LB_door l G cA A o (u, v, (goF u v f g 0), (goG u v f g 0), (goL u v g L 0)) (recN n) K ch 1 ) (cwV 1 hts gL_tick_X8_door rfl rfl rfl mdX8_door ⟨Nat.le_of_ble_eq_true rfl, Nat.le_of_ble_eq_true rfl⟩) hA hL rfl hl rfl (Nat.le_of_ble_eq_true rfl) dL_tick_462 ⟨Nat.le_of_ble_eq_true rfl, Nat.le_of_ble_eq_true rfl⟩) hA hL (fun r_462_3 H locs hr_462_3 hA hL => ?_)
        replace hr_462_3 : r_462_3 = (goG u v f g 0) 16 := hr_462_3
        subst hr_462_3
        refine lv_iload hx hb dL_tick_465 (lv_at hl 2 rfl) ?_
        refine lv_icmp_ne (tgt := 489) hx hb dL_tick_467 (by decide) (fun c_467_3 => absurd (ht.2.1.trans (if_pos (Int32.not_lt.mp c_347_1))) c_467_3) (fun c_467_3 => ?_)
        refine lv_aload_n hx hb dL_tick_470 rfl (lv_at hl 17 rfl) ?_
        refine lv_iconst (v := 2) hx hb dL_tick_471 (by decide) ?_
        refine lr_i (rL (rest := []) ⟨hx, hb, hml, hown, hts⟩ (LB_door l G cA A o (u, v, (goF u v f g 0), (goG u v f g 0), (goL u v g L 0)) (recN n) K ch 2 ) (cwV 1 hts gL_tick_X8_door rfl rfl rfl mdX8_door ⟨Nat.le_of_ble_eq_true rfl, Nat.le_of_ble_eq_true rfl⟩) hA hL rfl hl rfl (Nat.le_of_ble_eq_true rfl) dL_tick_472 ⟨Nat.le_of_ble_eq_true rfl, Nat.le_of_ble_eq_true rfl⟩) hA hL (fun r_472_3 H locs hr_472_3 hA hL => ?_)
        replace hr_472_3 : r_472_3 = oneF ((goG u v f g 0) 17) := hr_472_3
        subst hr_472_3
        refine lv_iload hx hb dL_tick_475 (lv_at hl 0 rfl) ?_
        refine lv_if_eq (tgt := 484) hx hb dL_tick_477 (by decide) (fun _ => ?_) (fun h9 => absurd (by decide) h9)
        refine lv_iload hx hb dL_tick_484 (lv_at hl 12 rfl) ?_
        refine lv_icmp_eq (tgt := 491) hx hb dL_tick_486 (by decide) (fun c_486_3 => ?_) (fun c_486_3 => absurd (by rw [ht.2.2.1] <;> rfl) c_486_3)
        refine lv_iload hx hb dL_tick_491 (lv_at hl 5 rfl) ?_
        refine lv_if_eq (tgt := 554) hx hb dL_tick_493 (by decide) (fun h9 => absurd h9 (by decide)) (fun _ => ?_)
        refine lv_aload_n hx hb dL_tick_496 rfl (lv_at hl 17 rfl) ?_
        refine lv_iconst (v := 0) hx hb dL_tick_497 (by decide) ?_
        refine lr_i (rL (rest := []) ⟨hx, hb, hml, hown, hts⟩ (LB_thing l G cA A o (u, v, (goF u v f g 0), (goG u v f g 0), (goL u v g L 0)) (recN n) K ch 0 hP2) (cwV 1 hts gL_tick_X8_thing rfl rfl rfl mdX8_thing ⟨Nat.le_of_ble_eq_true rfl, Nat.le_of_ble_eq_true rfl⟩) hA hL rfl hl rfl (Nat.le_of_ble_eq_true rfl) dL_tick_498 ⟨Nat.le_of_ble_eq_true rfl, Nat.le_of_ble_eq_true rfl⟩) hA hL (fun r_498_3 H locs hr_498_3 hA hL => ?_)
        replace hr_498_3 : r_498_3 = -5 := hr_498_3.trans (th_none 0 (by decide) (by decide) h5)
        subst hr_498_3
        refine lv_bipush (v := (-5)) hx hb dL_tick_501 (by decide) ?_
        refine lv_icmp_ne (tgt := 552) hx hb dL_tick_503 (by decide) (fun h9 => absurd (by decide) h9) (fun _ => ?_)
        refine lv_aload_n hx hb dL_tick_506 rfl (lv_at hl 17 rfl) ?_
        refine lv_iconst (v := 0) hx hb dL_tick_507 (by decide) ?_
        refine lv_iconst (v := 0) hx hb dL_tick_508 (by decide) ?_
        refine lr_i (rL (rest := []) ⟨hx, hb, hml, hown, hts⟩ (LB_judged l G cA A o (u, v, (goF u v f g 0), (goG u v f g 0), (goL u v g L 0)) (recN n) K ch 0 0 ) (cwV 2 hts gL_tick_X8_judged rfl rfl rfl mdX8_judged ⟨Nat.le_of_ble_eq_true rfl, Nat.le_of_ble_eq_true rfl⟩) hA hL rfl hl rfl (Nat.le_of_ble_eq_true rfl) dL_tick_509 ⟨Nat.le_of_ble_eq_true rfl, Nat.le_of_ble_eq_true rfl⟩) hA hL (fun r_509_3 H locs hr_509_3 hA hL => ?_)
        replace hr_509_3 : r_509_3 = bestK u g := hr_509_3.trans hju.1
        subst hr_509_3
        refine lv_iload hx hb dL_tick_512 (lv_at hl 8 rfl) ?_
        refine lv_icmp_ne (tgt := 552) hx hb dL_tick_514 (by decide) (fun c_514_3 => absurd rfl c_514_3) (fun c_514_3 => ?_)
        refine lv_aload_n hx hb dL_tick_517 rfl (lv_at hl 17 rfl) ?_
        refine lv_iload hx hb dL_tick_518 (lv_at hl 8 rfl) ?_
        refine lv_iconst (v := 1) hx hb dL_tick_520 (by decide) ?_
        refine lv_iadd hx hb dL_tick_521 ?_
        refine lr_i (rL (rest := []) ⟨hx, hb, hml, hown, hts⟩ (LB_count l G cA A o (u, v, (goF u v f g 0), (goG u v f g 0), (goL u v g L 0)) (recN n) K ch ((bestK u g) + 1)) (cwV 1 hts gL_tick_X8_count rfl rfl rfl mdX8_count ⟨Nat.le_of_ble_eq_true rfl, Nat.le_of_ble_eq_true rfl⟩) hA hL rfl hl rfl (Nat.le_of_ble_eq_true rfl) dL_tick_522 ⟨Nat.le_of_ble_eq_true rfl, Nat.le_of_ble_eq_true rfl⟩) hA hL (fun r_522_3 H locs hr_522_3 hA hL => ?_)
        replace hr_522_3 : r_522_3 = cnF (goG u v f g 0) (nI (recN n)) (nI K) ((bestK u g) + 1) := hr_522_3
        subst hr_522_3
        refine lv_iload hx hb dL_tick_525 (lv_at hl 6 rfl) ?_
        refine lv_iconst (v := 1) hx hb dL_tick_527 (by decide) ?_
        refine lv_iadd hx hb dL_tick_528 ?_
        refine lv_icmp_ne (tgt := 552) hx hb dL_tick_529 (by decide) (fun c_529_3 => absurd hcn c_529_3) (fun c_529_3 => ?_)
        refine lv_aload_n hx hb dL_tick_532 rfl (lv_at hl 17 rfl) ?_
        refine lv_iconst (v := 0) hx hb dL_tick_533 (by decide) ?_
        refine lv_iconst (v := 4) hx hb dL_tick_534 (by decide) ?_
        refine lr_i (rL (rest := []) ⟨hx, hb, hml, hown, hts⟩ (LB_judged l G cA A o (u, v, (goF u v f g 0), (goG u v f g 0), (goL u v g L 0)) (recN n) K ch 0 4 ) (cwV 2 hts gL_tick_X8_judged rfl rfl rfl mdX8_judged ⟨Nat.le_of_ble_eq_true rfl, Nat.le_of_ble_eq_true rfl⟩) hA hL rfl hl rfl (Nat.le_of_ble_eq_true rfl) dL_tick_535 ⟨Nat.le_of_ble_eq_true rfl, Nat.le_of_ble_eq_true rfl⟩) hA hL (fun r_535_3 H locs hr_535_3 hA hL => ?_)
        replace hr_535_3 : r_535_3 = (goG u v f g 0) 27 - 1 := hr_535_3.trans hju.2
        subst hr_535_3
        refine lv_aload_n hx hb dL_tick_538 rfl (lv_at hl 17 rfl) ?_
        refine lv_iconst (v := 0) hx hb dL_tick_539 (by decide) ?_
        refine lr_i (rL (rest := [.int ((goG u v f g 0) 27 - 1)]) ⟨hx, hb, hml, hown, hts⟩ (LB_count l G cA A o (u, v, (goF u v f g 0), (goG u v f g 0), (goL u v g L 0)) (recN n) K ch 0) (cwV 1 hts gL_tick_X8_count rfl rfl rfl mdX8_count ⟨Nat.le_of_ble_eq_true rfl, Nat.le_of_ble_eq_true rfl⟩) hA hL rfl hl rfl (Nat.le_of_ble_eq_true rfl) dL_tick_540 ⟨Nat.le_of_ble_eq_true rfl, Nat.le_of_ble_eq_true rfl⟩) hA hL (fun r_540_3 H locs hr_540_3 hA hL => ?_)
        replace hr_540_3 : r_540_3 = (goG u v f g 0) 27 := hr_540_3
        subst hr_540_3
        refine lv_iconst (v := 1) hx hb dL_tick_543 (by decide) ?_
        refine lv_isub hx hb dL_tick_544 ?_
        refine lv_icmp_ne (tgt := 552) hx hb dL_tick_545 (by decide) (fun c_545_3 => absurd rfl c_545_3) (fun c_545_3 => ?_)
        refine lv_iconst (v := 1) hx hb dL_tick_548 (by decide) ?_
        refine lv_goto (tgt := 553) hx hb dL_tick_549 (by decide) ?_
        exact en_l (post := fun r (_ : Unit) => r = 1) (B := fun _ H => LB G cA A o (u, v, (goF u v f g 0), (goG u v f g 0), (goL u v g L 0)) (recN n) K ch H) () hx hb hr hlocks hA rfl hL dL_tick_553
  · skip
    refine lv_iload hx hb dL_tick_154 (lv_at hl 4 rfl) ?_
    refine lv_iconst (v := 1) hx hb dL_tick_156 (by decide) ?_
    refine lv_icmp_ne (tgt := 169) hx hb dL_tick_157 (by decide) (fun c_157 => ?_) (fun c_157 => ?_)
    · skip
      refine lv_iconst (v := 0) hx hb dL_tick_169 (by decide) ?_
      refine lv_isub hx hb dL_tick_170 ?_
      refine W.eq (g2 := F0 m 171 ls [.int (preG u v g 0 16)]) (by rw [hp16, if_pos c_151, if_pos (one_n1 c_157), Int32.sub_zero]) ?_
      refine lv_istore (lv' := [(4, .int (preG u v g 0 16)), (14, .int 1), (13, .int (cnF g (nI n) (nI K) ((bestK u g) + 1))), (12, .float ((goF u v f g 0) 7)), (11, .int (bestK u g)), (10, .int (oneF (g 12))), (9, .int (g 11)), (8, .int (g 7)), (7, .int (oneF (g 17))), (6, .int (g 15)), (5, .int 0), (3, .float (f 7)), (2, .int 3), (0, .ref o), (1, .int 0)]) hx hb dL_tick_171 hl (by decide) rfl (fun ls hl => ?_)
      refine lv_iload_n hx hb dL_tick_173 rfl (lv_at hl 12 rfl) ?_
      refine lv_istore (lv' := [(15, .int 3), (4, .int (preG u v g 0 16)), (14, .int 1), (13, .int (cnF g (nI n) (nI K) ((bestK u g) + 1))), (12, .float ((goF u v f g 0) 7)), (11, .int (bestK u g)), (10, .int (oneF (g 12))), (9, .int (g 11)), (8, .int (g 7)), (7, .int (oneF (g 17))), (6, .int (g 15)), (5, .int 0), (3, .float (f 7)), (2, .int 3), (0, .ref o), (1, .int 0)]) hx hb dL_tick_174 hl (by decide) rfl (fun ls hl => ?_)
      refine lv_fload_n hx hb dL_tick_176 rfl (lv_at hl 12 rfl) ?_
      refine lv_fstore (lv' := [(16, .float (f 7)), (15, .int 3), (4, .int (preG u v g 0 16)), (14, .int 1), (13, .int (cnF g (nI n) (nI K) ((bestK u g) + 1))), (12, .float ((goF u v f g 0) 7)), (11, .int (bestK u g)), (10, .int (oneF (g 12))), (9, .int (g 11)), (8, .int (g 7)), (7, .int (oneF (g 17))), (6, .int (g 15)), (5, .int 0), (3, .float (f 7)), (2, .int 3), (0, .ref o), (1, .int 0)]) hx hb dL_tick_177 hl (by decide) rfl (fun ls hl => ?_)
      refine lv_iload_n hx hb dL_tick_179 rfl (lv_at hl 14 rfl) ?_
      refine lv_iconst (v := 1) hx hb dL_tick_180 (by decide) ?_
      refine lv_icmp_ne (tgt := 228) hx hb dL_tick_181 (by decide) (fun _ => ?_) (fun h9 => absurd h9 (by decide))
      refine lv_iload_n hx hb dL_tick_228 rfl (lv_at hl 14 rfl) ?_
      refine lv_iconst (v := 2) hx hb dL_tick_229 (by decide) ?_
      refine lv_icmp_ne (tgt := 264) hx hb dL_tick_230 (by decide) (fun _ => ?_) (fun h9 => absurd h9 (by decide))
      refine lv_iload_n hx hb dL_tick_264 rfl (lv_at hl 14 rfl) ?_
      refine lv_iconst (v := 3) hx hb dL_tick_265 (by decide) ?_
      refine lv_icmp_ne (tgt := 311) hx hb dL_tick_266 (by decide) (fun h9 => absurd (by decide) h9) (fun _ => ?_)
      refine lv_iload_n hx hb dL_tick_269 rfl (lv_at hl 16 rfl) ?_
      refine lv_if_eq (tgt := 311) hx hb dL_tick_270 (by decide) (fun _ => ?_) (fun h9 => absurd (by decide) h9)
      refine lv_iload_n hx hb dL_tick_311 rfl (lv_at hl 14 rfl) ?_
      refine lv_iconst (v := 3) hx hb dL_tick_312 (by decide) ?_
      refine lv_icmp_ne (tgt := 385) hx hb dL_tick_313 (by decide) (fun h9 => absurd (by decide) h9) (fun _ => ?_)
      refine lv_fload_n hx hb dL_tick_316 rfl (lv_at hl 13 rfl) ?_
      refine lv_iload hx hb dL_tick_317 (lv_at hl 2 rfl) ?_
      refine lv_aload_n hx hb dL_tick_319 rfl (lv_at hl 15 rfl) ?_
      refine lv_iconst (v := 2) hx hb dL_tick_320 (by decide) ?_
      refine lr_i (rL (rest := [.int (preG u v g 0 16), .float (f 7)]) ⟨hx, hb, hml, hown, hts⟩ (LB_number l G cA A o (u, v, f, g, L) n K ch 2 ) (cwV 1 hts gL_tick_X8_number rfl rfl rfl mdX8_number ⟨Nat.le_of_ble_eq_true rfl, Nat.le_of_ble_eq_true rfl⟩) hA hL rfl hl rfl (Nat.le_of_ble_eq_true rfl) dL_tick_321 ⟨Nat.le_of_ble_eq_true rfl, Nat.le_of_ble_eq_true rfl⟩) hA hL (fun r_321_1 H locs hr_321_1 hA hL => ?_)
      replace hr_321_1 : r_321_1 = v 2 := hr_321_1
      subst hr_321_1
      refine lv_icmp_le (tgt := 335) hx hb dL_tick_324 (by decide) (fun c_324_1 => ?_) (fun c_324_1 => ?_)
      · skip
        refine lv_aload_n hx hb dL_tick_335 rfl (lv_at hl 15 rfl) ?_
        refine lv_iconst (v := 1) hx hb dL_tick_336 (by decide) ?_
        refine lr_f (rL (rest := [.float (f 7)]) ⟨hx, hb, hml, hown, hts⟩ (LB_speed l G cA A o (u, v, f, g, L) n K ch 1 ) (cwV 1 hts gL_tick_X8_speed rfl rfl rfl mdX8_speed ⟨Nat.le_of_ble_eq_true rfl, Nat.le_of_ble_eq_true rfl⟩) hA hL rfl hl rfl (Nat.le_of_ble_eq_true rfl) dL_tick_337 ⟨Nat.le_of_ble_eq_true rfl, Nat.le_of_ble_eq_true rfl⟩) hA hL (fun r_337_1 H locs hr_337_1 hA hL => ?_)
        replace hr_337_1 : r_337_1 = u 1 := hr_337_1
        subst hr_337_1
        refine lv_fsub hx hb dL_tick_340 (hGo.2.2.1) ?_
        refine W.eq (g2 := F0 m 341 ls [.float (FP.fsub (f 7) (spF u (scF v (preG u v g 0))))]) (by rw [show spF u (scF v (preG u v g 0)) = u 1 from by unfold scF; rw [if_pos c_324_1]; rfl]) ?_
        refine lv_fstore (lv' := [(16, .float (FP.fsub (f 7) (spF u (scF v (preG u v g 0))))), (15, .int 3), (4, .int (preG u v g 0 16)), (14, .int 1), (13, .int (cnF g (nI n) (nI K) ((bestK u g) + 1))), (12, .float ((goF u v f g 0) 7)), (11, .int (bestK u g)), (10, .int (oneF (g 12))), (9, .int (g 11)), (8, .int (g 7)), (7, .int (oneF (g 17))), (6, .int (g 15)), (5, .int 0), (3, .float (f 7)), (2, .int 3), (0, .ref o), (1, .int 0)]) hx hb dL_tick_341 hl (by decide) rfl (fun ls hl => ?_)
        refine lv_fload hx hb dL_tick_343 (lv_at hl 0 rfl) ?_
        refine lv_fconst0 hx hb dL_tick_345 ?_
        refine lv_fcmp hx hb dL_tick_346 ?_
        refine W.eq (g2 := F0 m 347 ls [.int (Op.cmpValue (FP.fcmp (FP.fsub (f 7) (spF u (scF v (preG u v g 0)))) FP.fconst0) CmpOp.l)]) (by rw [cmp_gl hsn n32_0]) ?_
        refine lv_if_gt (tgt := 354) hx hb dL_tick_347 (by decide) (fun c_347_2 => ?_) (fun c_347_2 => ?_)
        · skip
          refine lv_iconst (v := 3) hx hb dL_tick_354 (by decide) ?_
          refine lv_istore (lv' := [(15, .int 3), (16, .float (FP.fsub (f 7) (spF u (scF v (preG u v g 0))))), (4, .int (preG u v g 0 16)), (14, .int 1), (13, .int (cnF g (nI n) (nI K) ((bestK u g) + 1))), (12, .float ((goF u v f g 0) 7)), (11, .int (bestK u g)), (10, .int (oneF (g 12))), (9, .int (g 11)), (8, .int (g 7)), (7, .int (oneF (g 17))), (6, .int (g 15)), (5, .int 0), (3, .float (f 7)), (2, .int 3), (0, .ref o), (1, .int 0)]) hx hb dL_tick_355 hl (by decide) rfl (fun ls hl => ?_)
          refine lv_fload hx hb dL_tick_357 (lv_at hl 1 rfl) ?_
          refine lv_fconst0 hx hb dL_tick_359 ?_
          refine lv_fcmp hx hb dL_tick_360 ?_
          refine W.eq (g2 := F0 m 361 ls [.int (Op.cmpValue (FP.fcmp (FP.fsub (f 7) (spF u (scF v (preG u v g 0)))) FP.fconst0) CmpOp.l)]) (by rw [cmp_gl hsn n32_0]) ?_
          refine lv_if_gt (tgt := 368) hx hb dL_tick_361 (by decide) (fun c_361_4 => ?_) (fun c_361_4 => absurd c_347_2 c_361_4)
          refine lv_fload hx hb dL_tick_368 (lv_at hl 1 rfl) ?_
          refine lv_fstore (lv' := [(16, .float (FP.fsub (f 7) (spF u (scF v (preG u v g 0))))), (15, .int 3), (4, .int (preG u v g 0 16)), (14, .int 1), (13, .int (cnF g (nI n) (nI K) ((bestK u g) + 1))), (12, .float ((goF u v f g 0) 7)), (11, .int (bestK u g)), (10, .int (oneF (g 12))), (9, .int (g 11)), (8, .int (g 7)), (7, .int (oneF (g 17))), (6, .int (g 15)), (5, .int 0), (3, .float (f 7)), (2, .int 3), (0, .ref o), (1, .int 0)]) hx hb dL_tick_370 hl (by decide) rfl (fun ls hl => ?_)
          refine lv_iload hx hb dL_tick_372 (lv_at hl 1 rfl) ?_
          refine lv_if_ne (tgt := 381) hx hb dL_tick_374 (by decide) (fun _ => ?_) (fun h9 => absurd h9 (by decide))
          refine lv_iload hx hb dL_tick_381 (lv_at hl 2 rfl) ?_
          refine lv_istore (lv' := [(4, .int (preG u v g 0 16)), (16, .float (FP.fsub (f 7) (spF u (scF v (preG u v g 0))))), (15, .int 3), (14, .int 1), (13, .int (cnF g (nI n) (nI K) ((bestK u g) + 1))), (12, .float ((goF u v f g 0) 7)), (11, .int (bestK u g)), (10, .int (oneF (g 12))), (9, .int (g 11)), (8, .int (g 7)), (7, .int (oneF (g 17))), (6, .int (g 15)), (5, .int 0), (3, .float (f 7)), (2, .int 3), (0, .ref o), (1, .int 0)]) hx hb dL_tick_383 hl (by decide) rfl (fun ls hl => ?_)
          refine lv_iload_n hx hb dL_tick_385 rfl (lv_at hl 14 rfl) ?_
          refine lv_iconst (v := 3) hx hb dL_tick_386 (by decide) ?_
          refine lv_icmp_ne (tgt := 400) hx hb dL_tick_387 (by decide) (fun h9 => absurd (by decide) h9) (fun _ => ?_)
          refine lv_iload hx hb dL_tick_390 (lv_at hl 2 rfl) ?_
          refine lv_iconst (v := 1) hx hb dL_tick_392 (by decide) ?_
          refine lv_icmp_ne (tgt := 400) hx hb dL_tick_393 (by decide) (fun _ => ?_) (fun h9 => absurd h9 (by decide))
          refine lv_iconst (v := 0) hx hb dL_tick_400 (by decide) ?_
          refine lv_istore (lv' := [(17, .int 0), (4, .int (preG u v g 0 16)), (16, .float (FP.fsub (f 7) (spF u (scF v (preG u v g 0))))), (15, .int 3), (14, .int 1), (13, .int (cnF g (nI n) (nI K) ((bestK u g) + 1))), (12, .float ((goF u v f g 0) 7)), (11, .int (bestK u g)), (10, .int (oneF (g 12))), (9, .int (g 11)), (8, .int (g 7)), (7, .int (oneF (g 17))), (6, .int (g 15)), (5, .int 0), (3, .float (f 7)), (2, .int 3), (0, .ref o), (1, .int 0)]) hx hb dL_tick_401 hl (by decide) rfl (fun ls hl => ?_)
          refine lv_iload hx hb dL_tick_403 (lv_at hl 0 rfl) ?_
          refine lv_if_eq (tgt := 428) hx hb dL_tick_405 (by decide) (fun _ => ?_) (fun h9 => absurd (by decide) h9)
          refine lv_iconst (v := 0) hx hb dL_tick_428 (by decide) ?_
          refine lv_istore (lv' := [(18, .int 0), (17, .int 0), (4, .int (preG u v g 0 16)), (16, .float (FP.fsub (f 7) (spF u (scF v (preG u v g 0))))), (15, .int 3), (14, .int 1), (13, .int (cnF g (nI n) (nI K) ((bestK u g) + 1))), (12, .float ((goF u v f g 0) 7)), (11, .int (bestK u g)), (10, .int (oneF (g 12))), (9, .int (g 11)), (8, .int (g 7)), (7, .int (oneF (g 17))), (6, .int (g 15)), (5, .int 0), (3, .float (f 7)), (2, .int 3), (0, .ref o), (1, .int 0)]) hx hb dL_tick_429 hl (by decide) rfl (fun ls hl => ?_)
          refine lv_aload_n hx hb dL_tick_431 rfl (lv_at hl 17 rfl) ?_
          refine lv_iload_n hx hb dL_tick_432 rfl (lv_at hl 18 rfl) ?_
          refine lv_iconst (v := 1) hx hb dL_tick_433 (by decide) ?_
          refine lw_i (rL (rest := []) ⟨hx, hb, hml, hown, hts⟩ (LB_pass_ok l G cA A o (u, v, f, g, L) n K ch hn 0 1 (by decide) (by decide) (by decide) (by decide) hT hG1 hBo) (cwV 2 hts gL_tick_X8_pass rfl rfl rfl mdX8_pass ⟨Nat.le_of_ble_eq_true rfl, Nat.le_of_ble_eq_true rfl⟩) hA hL rfl hl rfl (Nat.le_of_ble_eq_true rfl) dL_tick_434 ⟨Nat.le_of_ble_eq_true rfl, Nat.le_of_ble_eq_true rfl⟩) hA (fun r_434_4 _ H locs hr_434_4 hA hL => ?_)
          replace hL : LB G cA A o (u, v, (goF u v f g 0), (goG u v f g 0), (goL u v g L 0)) (recN n) K ch H := hL
          replace hr_434_4 : r_434_4 = (goG u v f g 0) 13 := hr_434_4
          subst hr_434_4
          refine lv_iload hx hb dL_tick_437 (lv_at hl 4 rfl) ?_
          refine lv_icmp_ne (tgt := 489) hx hb dL_tick_439 (by decide) (fun c_439_4 => absurd (ht.1.trans (if_neg (Int32.not_le.mpr c_347_2))) c_439_4) (fun c_439_4 => ?_)
          refine lv_aload_n hx hb dL_tick_442 rfl (lv_at hl 17 rfl) ?_
          refine lr_f (rL (rest := []) ⟨hx, hb, hml, hown, hts⟩ (LB_place l G cA A o (u, v, (goF u v f g 0), (goG u v f g 0), (goL u v g L 0)) (recN n) K ch  ) (cwV 0 hts gL_tick_X8_place rfl rfl rfl mdX8_place ⟨Nat.le_of_ble_eq_true rfl, Nat.le_of_ble_eq_true rfl⟩) hA hL rfl hl rfl (Nat.le_of_ble_eq_true rfl) dL_tick_443 ⟨Nat.le_of_ble_eq_true rfl, Nat.le_of_ble_eq_true rfl⟩) hA hL (fun r_443_4 H locs hr_443_4 hA hL => ?_)
          replace hr_443_4 : r_443_4 = (goF u v f g 0) 7 := hr_443_4
          subst hr_443_4
          refine lv_fload hx hb dL_tick_446 (lv_at hl 3 rfl) ?_
          refine lv_fcmp hx hb dL_tick_448 ?_
          refine lv_if_ne (tgt := 489) hx hb dL_tick_449 (by decide) (fun c_449_4 => absurd (by rw [(ht.2.2.2.trans (if_neg (Int32.not_le.mpr c_347_2)))]; exact cmp_self (of_vf hsn) _) c_449_4) (fun c_449_4 => ?_)
          refine lv_fload hx hb dL_tick_452 (lv_at hl 7 rfl) ?_
          refine lv_fload hx hb dL_tick_454 (lv_at hl 3 rfl) ?_
          refine lv_fcmp hx hb dL_tick_456 ?_
          refine lv_if_ne (tgt := 489) hx hb dL_tick_457 (by decide) (fun c_457_4 => absurd (by rw [(ht.2.2.2.trans (if_neg (Int32.not_le.mpr c_347_2)))]; exact cmp_self (of_vf hsn) _) c_457_4) (fun c_457_4 => ?_)
          refine lv_aload_n hx hb dL_tick_460 rfl (lv_at hl 17 rfl) ?_
          refine lv_iconst (v := 1) hx hb dL_tick_461 (by decide) ?_
          refine lr_i (rL (rest := []) ⟨hx, hb, hml, hown, hts⟩ (LB_door l G cA A o (u, v, (goF u v f g 0), (goG u v f g 0), (goL u v g L 0)) (recN n) K ch 1 ) (cwV 1 hts gL_tick_X8_door rfl rfl rfl mdX8_door ⟨Nat.le_of_ble_eq_true rfl, Nat.le_of_ble_eq_true rfl⟩) hA hL rfl hl rfl (Nat.le_of_ble_eq_true rfl) dL_tick_462 ⟨Nat.le_of_ble_eq_true rfl, Nat.le_of_ble_eq_true rfl⟩) hA hL (fun r_462_4 H locs hr_462_4 hA hL => ?_)
          replace hr_462_4 : r_462_4 = (goG u v f g 0) 16 := hr_462_4
          subst hr_462_4
          refine lv_iload hx hb dL_tick_465 (lv_at hl 2 rfl) ?_
          refine lv_icmp_ne (tgt := 489) hx hb dL_tick_467 (by decide) (fun c_467_4 => absurd (ht.2.1.trans (if_neg (Int32.not_le.mpr c_347_2))) c_467_4) (fun c_467_4 => ?_)
          refine lv_aload_n hx hb dL_tick_470 rfl (lv_at hl 17 rfl) ?_
          refine lv_iconst (v := 2) hx hb dL_tick_471 (by decide) ?_
          refine lr_i (rL (rest := []) ⟨hx, hb, hml, hown, hts⟩ (LB_door l G cA A o (u, v, (goF u v f g 0), (goG u v f g 0), (goL u v g L 0)) (recN n) K ch 2 ) (cwV 1 hts gL_tick_X8_door rfl rfl rfl mdX8_door ⟨Nat.le_of_ble_eq_true rfl, Nat.le_of_ble_eq_true rfl⟩) hA hL rfl hl rfl (Nat.le_of_ble_eq_true rfl) dL_tick_472 ⟨Nat.le_of_ble_eq_true rfl, Nat.le_of_ble_eq_true rfl⟩) hA hL (fun r_472_4 H locs hr_472_4 hA hL => ?_)
          replace hr_472_4 : r_472_4 = oneF ((goG u v f g 0) 17) := hr_472_4
          subst hr_472_4
          refine lv_iload hx hb dL_tick_475 (lv_at hl 0 rfl) ?_
          refine lv_if_eq (tgt := 484) hx hb dL_tick_477 (by decide) (fun _ => ?_) (fun h9 => absurd (by decide) h9)
          refine lv_iload hx hb dL_tick_484 (lv_at hl 12 rfl) ?_
          refine lv_icmp_eq (tgt := 491) hx hb dL_tick_486 (by decide) (fun c_486_4 => ?_) (fun c_486_4 => absurd (by rw [ht.2.2.1] <;> rfl) c_486_4)
          refine lv_iload hx hb dL_tick_491 (lv_at hl 5 rfl) ?_
          refine lv_if_eq (tgt := 554) hx hb dL_tick_493 (by decide) (fun h9 => absurd h9 (by decide)) (fun _ => ?_)
          refine lv_aload_n hx hb dL_tick_496 rfl (lv_at hl 17 rfl) ?_
          refine lv_iconst (v := 0) hx hb dL_tick_497 (by decide) ?_
          refine lr_i (rL (rest := []) ⟨hx, hb, hml, hown, hts⟩ (LB_thing l G cA A o (u, v, (goF u v f g 0), (goG u v f g 0), (goL u v g L 0)) (recN n) K ch 0 hP2) (cwV 1 hts gL_tick_X8_thing rfl rfl rfl mdX8_thing ⟨Nat.le_of_ble_eq_true rfl, Nat.le_of_ble_eq_true rfl⟩) hA hL rfl hl rfl (Nat.le_of_ble_eq_true rfl) dL_tick_498 ⟨Nat.le_of_ble_eq_true rfl, Nat.le_of_ble_eq_true rfl⟩) hA hL (fun r_498_4 H locs hr_498_4 hA hL => ?_)
          replace hr_498_4 : r_498_4 = -5 := hr_498_4.trans (th_none 0 (by decide) (by decide) h5)
          subst hr_498_4
          refine lv_bipush (v := (-5)) hx hb dL_tick_501 (by decide) ?_
          refine lv_icmp_ne (tgt := 552) hx hb dL_tick_503 (by decide) (fun h9 => absurd (by decide) h9) (fun _ => ?_)
          refine lv_aload_n hx hb dL_tick_506 rfl (lv_at hl 17 rfl) ?_
          refine lv_iconst (v := 0) hx hb dL_tick_507 (by decide) ?_
          refine lv_iconst (v := 0) hx hb dL_tick_508 (by decide) ?_
          refine lr_i (rL (rest := []) ⟨hx, hb, hml, hown, hts⟩ (LB_judged l G cA A o (u, v, (goF u v f g 0), (goG u v f g 0), (goL u v g L 0)) (recN n) K ch 0 0 ) (cwV 2 hts gL_tick_X8_judged rfl rfl rfl mdX8_judged ⟨Nat.le_of_ble_eq_true rfl, Nat.le_of_ble_eq_true rfl⟩) hA hL rfl hl rfl (Nat.le_of_ble_eq_true rfl) dL_tick_509 ⟨Nat.le_of_ble_eq_true rfl, Nat.le_of_ble_eq_true rfl⟩) hA hL (fun r_509_4 H locs hr_509_4 hA hL => ?_)
          replace hr_509_4 : r_509_4 = bestK u g := hr_509_4.trans hju.1
          subst hr_509_4
          refine lv_iload hx hb dL_tick_512 (lv_at hl 8 rfl) ?_
          refine lv_icmp_ne (tgt := 552) hx hb dL_tick_514 (by decide) (fun c_514_4 => absurd rfl c_514_4) (fun c_514_4 => ?_)
          refine lv_aload_n hx hb dL_tick_517 rfl (lv_at hl 17 rfl) ?_
          refine lv_iload hx hb dL_tick_518 (lv_at hl 8 rfl) ?_
          refine lv_iconst (v := 1) hx hb dL_tick_520 (by decide) ?_
          refine lv_iadd hx hb dL_tick_521 ?_
          refine lr_i (rL (rest := []) ⟨hx, hb, hml, hown, hts⟩ (LB_count l G cA A o (u, v, (goF u v f g 0), (goG u v f g 0), (goL u v g L 0)) (recN n) K ch ((bestK u g) + 1)) (cwV 1 hts gL_tick_X8_count rfl rfl rfl mdX8_count ⟨Nat.le_of_ble_eq_true rfl, Nat.le_of_ble_eq_true rfl⟩) hA hL rfl hl rfl (Nat.le_of_ble_eq_true rfl) dL_tick_522 ⟨Nat.le_of_ble_eq_true rfl, Nat.le_of_ble_eq_true rfl⟩) hA hL (fun r_522_4 H locs hr_522_4 hA hL => ?_)
          replace hr_522_4 : r_522_4 = cnF (goG u v f g 0) (nI (recN n)) (nI K) ((bestK u g) + 1) := hr_522_4
          subst hr_522_4
          refine lv_iload hx hb dL_tick_525 (lv_at hl 6 rfl) ?_
          refine lv_iconst (v := 1) hx hb dL_tick_527 (by decide) ?_
          refine lv_iadd hx hb dL_tick_528 ?_
          refine lv_icmp_ne (tgt := 552) hx hb dL_tick_529 (by decide) (fun c_529_4 => absurd hcn c_529_4) (fun c_529_4 => ?_)
          refine lv_aload_n hx hb dL_tick_532 rfl (lv_at hl 17 rfl) ?_
          refine lv_iconst (v := 0) hx hb dL_tick_533 (by decide) ?_
          refine lv_iconst (v := 4) hx hb dL_tick_534 (by decide) ?_
          refine lr_i (rL (rest := []) ⟨hx, hb, hml, hown, hts⟩ (LB_judged l G cA A o (u, v, (goF u v f g 0), (goG u v f g 0), (goL u v g L 0)) (recN n) K ch 0 4 ) (cwV 2 hts gL_tick_X8_judged rfl rfl rfl mdX8_judged ⟨Nat.le_of_ble_eq_true rfl, Nat.le_of_ble_eq_true rfl⟩) hA hL rfl hl rfl (Nat.le_of_ble_eq_true rfl) dL_tick_535 ⟨Nat.le_of_ble_eq_true rfl, Nat.le_of_ble_eq_true rfl⟩) hA hL (fun r_535_4 H locs hr_535_4 hA hL => ?_)
          replace hr_535_4 : r_535_4 = (goG u v f g 0) 27 - 1 := hr_535_4.trans hju.2
          subst hr_535_4
          refine lv_aload_n hx hb dL_tick_538 rfl (lv_at hl 17 rfl) ?_
          refine lv_iconst (v := 0) hx hb dL_tick_539 (by decide) ?_
          refine lr_i (rL (rest := [.int ((goG u v f g 0) 27 - 1)]) ⟨hx, hb, hml, hown, hts⟩ (LB_count l G cA A o (u, v, (goF u v f g 0), (goG u v f g 0), (goL u v g L 0)) (recN n) K ch 0) (cwV 1 hts gL_tick_X8_count rfl rfl rfl mdX8_count ⟨Nat.le_of_ble_eq_true rfl, Nat.le_of_ble_eq_true rfl⟩) hA hL rfl hl rfl (Nat.le_of_ble_eq_true rfl) dL_tick_540 ⟨Nat.le_of_ble_eq_true rfl, Nat.le_of_ble_eq_true rfl⟩) hA hL (fun r_540_4 H locs hr_540_4 hA hL => ?_)
          replace hr_540_4 : r_540_4 = (goG u v f g 0) 27 := hr_540_4
          subst hr_540_4
          refine lv_iconst (v := 1) hx hb dL_tick_543 (by decide) ?_
          refine lv_isub hx hb dL_tick_544 ?_
          refine lv_icmp_ne (tgt := 552) hx hb dL_tick_545 (by decide) (fun c_545_4 => absurd rfl c_545_4) (fun c_545_4 => ?_)
          refine lv_iconst (v := 1) hx hb dL_tick_548 (by decide) ?_
          refine lv_goto (tgt := 553) hx hb dL_tick_549 (by decide) ?_
          exact en_l (post := fun r (_ : Unit) => r = 1) (B := fun _ H => LB G cA A o (u, v, (goF u v f g 0), (goG u v f g 0), (goL u v g L 0)) (recN n) K ch H) () hx hb hr hlocks hA rfl hL dL_tick_553
        · skip
          refine lv_iconst (v := 0) hx hb dL_tick_350 (by decide) ?_
          refine lv_goto (tgt := 355) hx hb dL_tick_351 (by decide) ?_
          refine lv_istore (lv' := [(15, .int 0), (16, .float (FP.fsub (f 7) (spF u (scF v (preG u v g 0))))), (4, .int (preG u v g 0 16)), (14, .int 1), (13, .int (cnF g (nI n) (nI K) ((bestK u g) + 1))), (12, .float ((goF u v f g 0) 7)), (11, .int (bestK u g)), (10, .int (oneF (g 12))), (9, .int (g 11)), (8, .int (g 7)), (7, .int (oneF (g 17))), (6, .int (g 15)), (5, .int 0), (3, .float (f 7)), (2, .int 3), (0, .ref o), (1, .int 0)]) hx hb dL_tick_355 hl (by decide) rfl (fun ls hl => ?_)
          refine lv_fload hx hb dL_tick_357 (lv_at hl 1 rfl) ?_
          refine lv_fconst0 hx hb dL_tick_359 ?_
          refine lv_fcmp hx hb dL_tick_360 ?_
          refine W.eq (g2 := F0 m 361 ls [.int (Op.cmpValue (FP.fcmp (FP.fsub (f 7) (spF u (scF v (preG u v g 0)))) FP.fconst0) CmpOp.l)]) (by rw [cmp_gl hsn n32_0]) ?_
          refine lv_if_gt (tgt := 368) hx hb dL_tick_361 (by decide) (fun c_361_5 => absurd c_361_5 c_347_2) (fun c_361_5 => ?_)
          refine lv_fconst0 hx hb dL_tick_364 ?_
          refine lv_goto (tgt := 370) hx hb dL_tick_365 (by decide) ?_
          refine lv_fstore (lv' := [(16, .float FP.fconst0), (15, .int 0), (4, .int (preG u v g 0 16)), (14, .int 1), (13, .int (cnF g (nI n) (nI K) ((bestK u g) + 1))), (12, .float ((goF u v f g 0) 7)), (11, .int (bestK u g)), (10, .int (oneF (g 12))), (9, .int (g 11)), (8, .int (g 7)), (7, .int (oneF (g 17))), (6, .int (g 15)), (5, .int 0), (3, .float (f 7)), (2, .int 3), (0, .ref o), (1, .int 0)]) hx hb dL_tick_370 hl (by decide) rfl (fun ls hl => ?_)
          refine lv_iload hx hb dL_tick_372 (lv_at hl 1 rfl) ?_
          refine lv_if_ne (tgt := 381) hx hb dL_tick_374 (by decide) (fun h9 => absurd (by decide) h9) (fun _ => ?_)
          refine lv_iconst (v := 0) hx hb dL_tick_377 (by decide) ?_
          refine lv_goto (tgt := 383) hx hb dL_tick_378 (by decide) ?_
          refine lv_istore (lv' := [(4, .int 0), (16, .float FP.fconst0), (15, .int 0), (14, .int 1), (13, .int (cnF g (nI n) (nI K) ((bestK u g) + 1))), (12, .float ((goF u v f g 0) 7)), (11, .int (bestK u g)), (10, .int (oneF (g 12))), (9, .int (g 11)), (8, .int (g 7)), (7, .int (oneF (g 17))), (6, .int (g 15)), (5, .int 0), (3, .float (f 7)), (2, .int 3), (0, .ref o), (1, .int 0)]) hx hb dL_tick_383 hl (by decide) rfl (fun ls hl => ?_)
          refine lv_iload_n hx hb dL_tick_385 rfl (lv_at hl 14 rfl) ?_
          refine lv_iconst (v := 3) hx hb dL_tick_386 (by decide) ?_
          refine lv_icmp_ne (tgt := 400) hx hb dL_tick_387 (by decide) (fun h9 => absurd (by decide) h9) (fun _ => ?_)
          refine lv_iload hx hb dL_tick_390 (lv_at hl 2 rfl) ?_
          refine lv_iconst (v := 1) hx hb dL_tick_392 (by decide) ?_
          refine lv_icmp_ne (tgt := 400) hx hb dL_tick_393 (by decide) (fun _ => ?_) (fun h9 => absurd h9 (by decide))
          refine lv_iconst (v := 0) hx hb dL_tick_400 (by decide) ?_
          refine lv_istore (lv' := [(17, .int 0), (4, .int 0), (16, .float FP.fconst0), (15, .int 0), (14, .int 1), (13, .int (cnF g (nI n) (nI K) ((bestK u g) + 1))), (12, .float ((goF u v f g 0) 7)), (11, .int (bestK u g)), (10, .int (oneF (g 12))), (9, .int (g 11)), (8, .int (g 7)), (7, .int (oneF (g 17))), (6, .int (g 15)), (5, .int 0), (3, .float (f 7)), (2, .int 3), (0, .ref o), (1, .int 0)]) hx hb dL_tick_401 hl (by decide) rfl (fun ls hl => ?_)
          refine lv_iload hx hb dL_tick_403 (lv_at hl 0 rfl) ?_
          refine lv_if_eq (tgt := 428) hx hb dL_tick_405 (by decide) (fun _ => ?_) (fun h9 => absurd (by decide) h9)
          refine lv_iconst (v := 0) hx hb dL_tick_428 (by decide) ?_
          refine lv_istore (lv' := [(18, .int 0), (17, .int 0), (4, .int 0), (16, .float FP.fconst0), (15, .int 0), (14, .int 1), (13, .int (cnF g (nI n) (nI K) ((bestK u g) + 1))), (12, .float ((goF u v f g 0) 7)), (11, .int (bestK u g)), (10, .int (oneF (g 12))), (9, .int (g 11)), (8, .int (g 7)), (7, .int (oneF (g 17))), (6, .int (g 15)), (5, .int 0), (3, .float (f 7)), (2, .int 3), (0, .ref o), (1, .int 0)]) hx hb dL_tick_429 hl (by decide) rfl (fun ls hl => ?_)
          refine lv_aload_n hx hb dL_tick_431 rfl (lv_at hl 17 rfl) ?_
          refine lv_iload_n hx hb dL_tick_432 rfl (lv_at hl 18 rfl) ?_
          refine lv_iconst (v := 1) hx hb dL_tick_433 (by decide) ?_
          refine lw_i (rL (rest := []) ⟨hx, hb, hml, hown, hts⟩ (LB_pass_ok l G cA A o (u, v, f, g, L) n K ch hn 0 1 (by decide) (by decide) (by decide) (by decide) hT hG1 hBo) (cwV 2 hts gL_tick_X8_pass rfl rfl rfl mdX8_pass ⟨Nat.le_of_ble_eq_true rfl, Nat.le_of_ble_eq_true rfl⟩) hA hL rfl hl rfl (Nat.le_of_ble_eq_true rfl) dL_tick_434 ⟨Nat.le_of_ble_eq_true rfl, Nat.le_of_ble_eq_true rfl⟩) hA (fun r_434_5 _ H locs hr_434_5 hA hL => ?_)
          replace hL : LB G cA A o (u, v, (goF u v f g 0), (goG u v f g 0), (goL u v g L 0)) (recN n) K ch H := hL
          replace hr_434_5 : r_434_5 = (goG u v f g 0) 13 := hr_434_5
          subst hr_434_5
          refine lv_iload hx hb dL_tick_437 (lv_at hl 4 rfl) ?_
          refine lv_icmp_ne (tgt := 489) hx hb dL_tick_439 (by decide) (fun c_439_5 => absurd (ht.1.trans (if_pos (Int32.not_lt.mp c_347_2))) c_439_5) (fun c_439_5 => ?_)
          refine lv_aload_n hx hb dL_tick_442 rfl (lv_at hl 17 rfl) ?_
          refine lr_f (rL (rest := []) ⟨hx, hb, hml, hown, hts⟩ (LB_place l G cA A o (u, v, (goF u v f g 0), (goG u v f g 0), (goL u v g L 0)) (recN n) K ch  ) (cwV 0 hts gL_tick_X8_place rfl rfl rfl mdX8_place ⟨Nat.le_of_ble_eq_true rfl, Nat.le_of_ble_eq_true rfl⟩) hA hL rfl hl rfl (Nat.le_of_ble_eq_true rfl) dL_tick_443 ⟨Nat.le_of_ble_eq_true rfl, Nat.le_of_ble_eq_true rfl⟩) hA hL (fun r_443_5 H locs hr_443_5 hA hL => ?_)
          replace hr_443_5 : r_443_5 = (goF u v f g 0) 7 := hr_443_5
          subst hr_443_5
          refine lv_fload hx hb dL_tick_446 (lv_at hl 3 rfl) ?_
          refine lv_fcmp hx hb dL_tick_448 ?_
          refine lv_if_ne (tgt := 489) hx hb dL_tick_449 (by decide) (fun c_449_5 => absurd (by rw [(ht.2.2.2.trans (if_pos (Int32.not_lt.mp c_347_2)))]; exact cmp_self (of_vf n32_0) _) c_449_5) (fun c_449_5 => ?_)
          refine lv_fload hx hb dL_tick_452 (lv_at hl 7 rfl) ?_
          refine lv_fload hx hb dL_tick_454 (lv_at hl 3 rfl) ?_
          refine lv_fcmp hx hb dL_tick_456 ?_
          refine lv_if_ne (tgt := 489) hx hb dL_tick_457 (by decide) (fun c_457_5 => absurd (by rw [(ht.2.2.2.trans (if_pos (Int32.not_lt.mp c_347_2)))]; exact cmp_self (of_vf n32_0) _) c_457_5) (fun c_457_5 => ?_)
          refine lv_aload_n hx hb dL_tick_460 rfl (lv_at hl 17 rfl) ?_
          refine lv_iconst (v := 1) hx hb dL_tick_461 (by decide) ?_
          refine lr_i (rL (rest := []) ⟨hx, hb, hml, hown, hts⟩ (LB_door l G cA A o (u, v, (goF u v f g 0), (goG u v f g 0), (goL u v g L 0)) (recN n) K ch 1 ) (cwV 1 hts gL_tick_X8_door rfl rfl rfl mdX8_door ⟨Nat.le_of_ble_eq_true rfl, Nat.le_of_ble_eq_true rfl⟩) hA hL rfl hl rfl (Nat.le_of_ble_eq_true rfl) dL_tick_462 ⟨Nat.le_of_ble_eq_true rfl, Nat.le_of_ble_eq_true rfl⟩) hA hL (fun r_462_5 H locs hr_462_5 hA hL => ?_)
          replace hr_462_5 : r_462_5 = (goG u v f g 0) 16 := hr_462_5
          subst hr_462_5
          refine lv_iload hx hb dL_tick_465 (lv_at hl 2 rfl) ?_
          refine lv_icmp_ne (tgt := 489) hx hb dL_tick_467 (by decide) (fun c_467_5 => absurd (ht.2.1.trans (if_pos (Int32.not_lt.mp c_347_2))) c_467_5) (fun c_467_5 => ?_)
          refine lv_aload_n hx hb dL_tick_470 rfl (lv_at hl 17 rfl) ?_
          refine lv_iconst (v := 2) hx hb dL_tick_471 (by decide) ?_
          refine lr_i (rL (rest := []) ⟨hx, hb, hml, hown, hts⟩ (LB_door l G cA A o (u, v, (goF u v f g 0), (goG u v f g 0), (goL u v g L 0)) (recN n) K ch 2 ) (cwV 1 hts gL_tick_X8_door rfl rfl rfl mdX8_door ⟨Nat.le_of_ble_eq_true rfl, Nat.le_of_ble_eq_true rfl⟩) hA hL rfl hl rfl (Nat.le_of_ble_eq_true rfl) dL_tick_472 ⟨Nat.le_of_ble_eq_true rfl, Nat.le_of_ble_eq_true rfl⟩) hA hL (fun r_472_5 H locs hr_472_5 hA hL => ?_)
          replace hr_472_5 : r_472_5 = oneF ((goG u v f g 0) 17) := hr_472_5
          subst hr_472_5
          refine lv_iload hx hb dL_tick_475 (lv_at hl 0 rfl) ?_
          refine lv_if_eq (tgt := 484) hx hb dL_tick_477 (by decide) (fun _ => ?_) (fun h9 => absurd (by decide) h9)
          refine lv_iload hx hb dL_tick_484 (lv_at hl 12 rfl) ?_
          refine lv_icmp_eq (tgt := 491) hx hb dL_tick_486 (by decide) (fun c_486_5 => ?_) (fun c_486_5 => absurd (by rw [ht.2.2.1] <;> rfl) c_486_5)
          refine lv_iload hx hb dL_tick_491 (lv_at hl 5 rfl) ?_
          refine lv_if_eq (tgt := 554) hx hb dL_tick_493 (by decide) (fun h9 => absurd h9 (by decide)) (fun _ => ?_)
          refine lv_aload_n hx hb dL_tick_496 rfl (lv_at hl 17 rfl) ?_
          refine lv_iconst (v := 0) hx hb dL_tick_497 (by decide) ?_
          refine lr_i (rL (rest := []) ⟨hx, hb, hml, hown, hts⟩ (LB_thing l G cA A o (u, v, (goF u v f g 0), (goG u v f g 0), (goL u v g L 0)) (recN n) K ch 0 hP2) (cwV 1 hts gL_tick_X8_thing rfl rfl rfl mdX8_thing ⟨Nat.le_of_ble_eq_true rfl, Nat.le_of_ble_eq_true rfl⟩) hA hL rfl hl rfl (Nat.le_of_ble_eq_true rfl) dL_tick_498 ⟨Nat.le_of_ble_eq_true rfl, Nat.le_of_ble_eq_true rfl⟩) hA hL (fun r_498_5 H locs hr_498_5 hA hL => ?_)
          replace hr_498_5 : r_498_5 = -5 := hr_498_5.trans (th_none 0 (by decide) (by decide) h5)
          subst hr_498_5
          refine lv_bipush (v := (-5)) hx hb dL_tick_501 (by decide) ?_
          refine lv_icmp_ne (tgt := 552) hx hb dL_tick_503 (by decide) (fun h9 => absurd (by decide) h9) (fun _ => ?_)
          refine lv_aload_n hx hb dL_tick_506 rfl (lv_at hl 17 rfl) ?_
          refine lv_iconst (v := 0) hx hb dL_tick_507 (by decide) ?_
          refine lv_iconst (v := 0) hx hb dL_tick_508 (by decide) ?_
          refine lr_i (rL (rest := []) ⟨hx, hb, hml, hown, hts⟩ (LB_judged l G cA A o (u, v, (goF u v f g 0), (goG u v f g 0), (goL u v g L 0)) (recN n) K ch 0 0 ) (cwV 2 hts gL_tick_X8_judged rfl rfl rfl mdX8_judged ⟨Nat.le_of_ble_eq_true rfl, Nat.le_of_ble_eq_true rfl⟩) hA hL rfl hl rfl (Nat.le_of_ble_eq_true rfl) dL_tick_509 ⟨Nat.le_of_ble_eq_true rfl, Nat.le_of_ble_eq_true rfl⟩) hA hL (fun r_509_5 H locs hr_509_5 hA hL => ?_)
          replace hr_509_5 : r_509_5 = bestK u g := hr_509_5.trans hju.1
          subst hr_509_5
          refine lv_iload hx hb dL_tick_512 (lv_at hl 8 rfl) ?_
          refine lv_icmp_ne (tgt := 552) hx hb dL_tick_514 (by decide) (fun c_514_5 => absurd rfl c_514_5) (fun c_514_5 => ?_)
          refine lv_aload_n hx hb dL_tick_517 rfl (lv_at hl 17 rfl) ?_
          refine lv_iload hx hb dL_tick_518 (lv_at hl 8 rfl) ?_
          refine lv_iconst (v := 1) hx hb dL_tick_520 (by decide) ?_
          refine lv_iadd hx hb dL_tick_521 ?_
          refine lr_i (rL (rest := []) ⟨hx, hb, hml, hown, hts⟩ (LB_count l G cA A o (u, v, (goF u v f g 0), (goG u v f g 0), (goL u v g L 0)) (recN n) K ch ((bestK u g) + 1)) (cwV 1 hts gL_tick_X8_count rfl rfl rfl mdX8_count ⟨Nat.le_of_ble_eq_true rfl, Nat.le_of_ble_eq_true rfl⟩) hA hL rfl hl rfl (Nat.le_of_ble_eq_true rfl) dL_tick_522 ⟨Nat.le_of_ble_eq_true rfl, Nat.le_of_ble_eq_true rfl⟩) hA hL (fun r_522_5 H locs hr_522_5 hA hL => ?_)
          replace hr_522_5 : r_522_5 = cnF (goG u v f g 0) (nI (recN n)) (nI K) ((bestK u g) + 1) := hr_522_5
          subst hr_522_5
          refine lv_iload hx hb dL_tick_525 (lv_at hl 6 rfl) ?_
          refine lv_iconst (v := 1) hx hb dL_tick_527 (by decide) ?_
          refine lv_iadd hx hb dL_tick_528 ?_
          refine lv_icmp_ne (tgt := 552) hx hb dL_tick_529 (by decide) (fun c_529_5 => absurd hcn c_529_5) (fun c_529_5 => ?_)
          refine lv_aload_n hx hb dL_tick_532 rfl (lv_at hl 17 rfl) ?_
          refine lv_iconst (v := 0) hx hb dL_tick_533 (by decide) ?_
          refine lv_iconst (v := 4) hx hb dL_tick_534 (by decide) ?_
          refine lr_i (rL (rest := []) ⟨hx, hb, hml, hown, hts⟩ (LB_judged l G cA A o (u, v, (goF u v f g 0), (goG u v f g 0), (goL u v g L 0)) (recN n) K ch 0 4 ) (cwV 2 hts gL_tick_X8_judged rfl rfl rfl mdX8_judged ⟨Nat.le_of_ble_eq_true rfl, Nat.le_of_ble_eq_true rfl⟩) hA hL rfl hl rfl (Nat.le_of_ble_eq_true rfl) dL_tick_535 ⟨Nat.le_of_ble_eq_true rfl, Nat.le_of_ble_eq_true rfl⟩) hA hL (fun r_535_5 H locs hr_535_5 hA hL => ?_)
          replace hr_535_5 : r_535_5 = (goG u v f g 0) 27 - 1 := hr_535_5.trans hju.2
          subst hr_535_5
          refine lv_aload_n hx hb dL_tick_538 rfl (lv_at hl 17 rfl) ?_
          refine lv_iconst (v := 0) hx hb dL_tick_539 (by decide) ?_
          refine lr_i (rL (rest := [.int ((goG u v f g 0) 27 - 1)]) ⟨hx, hb, hml, hown, hts⟩ (LB_count l G cA A o (u, v, (goF u v f g 0), (goG u v f g 0), (goL u v g L 0)) (recN n) K ch 0) (cwV 1 hts gL_tick_X8_count rfl rfl rfl mdX8_count ⟨Nat.le_of_ble_eq_true rfl, Nat.le_of_ble_eq_true rfl⟩) hA hL rfl hl rfl (Nat.le_of_ble_eq_true rfl) dL_tick_540 ⟨Nat.le_of_ble_eq_true rfl, Nat.le_of_ble_eq_true rfl⟩) hA hL (fun r_540_5 H locs hr_540_5 hA hL => ?_)
          replace hr_540_5 : r_540_5 = (goG u v f g 0) 27 := hr_540_5
          subst hr_540_5
          refine lv_iconst (v := 1) hx hb dL_tick_543 (by decide) ?_
          refine lv_isub hx hb dL_tick_544 ?_
          refine lv_icmp_ne (tgt := 552) hx hb dL_tick_545 (by decide) (fun c_545_5 => absurd rfl c_545_5) (fun c_545_5 => ?_)
          refine lv_iconst (v := 1) hx hb dL_tick_548 (by decide) ?_
          refine lv_goto (tgt := 553) hx hb dL_tick_549 (by decide) ?_
          exact en_l (post := fun r (_ : Unit) => r = 1) (B := fun _ H => LB G cA A o (u, v, (goF u v f g 0), (goG u v f g 0), (goL u v g L 0)) (recN n) K ch H) () hx hb hr hlocks hA rfl hL dL_tick_553
      · skip
        refine lv_aload_n hx hb dL_tick_327 rfl (lv_at hl 15 rfl) ?_
        refine lv_iconst (v := 2) hx hb dL_tick_328 (by decide) ?_
        refine lr_f (rL (rest := [.float (f 7)]) ⟨hx, hb, hml, hown, hts⟩ (LB_speed l G cA A o (u, v, f, g, L) n K ch 2 ) (cwV 1 hts gL_tick_X8_speed rfl rfl rfl mdX8_speed ⟨Nat.le_of_ble_eq_true rfl, Nat.le_of_ble_eq_true rfl⟩) hA hL rfl hl rfl (Nat.le_of_ble_eq_true rfl) dL_tick_329 ⟨Nat.le_of_ble_eq_true rfl, Nat.le_of_ble_eq_true rfl⟩) hA hL (fun r_329_1 H locs hr_329_1 hA hL => ?_)
        replace hr_329_1 : r_329_1 = u 2 := hr_329_1
        subst hr_329_1
        refine lv_goto (tgt := 340) hx hb dL_tick_332 (by decide) ?_
        refine lv_fsub hx hb dL_tick_340 (hGo.2.2.2) ?_
        refine W.eq (g2 := F0 m 341 ls [.float (FP.fsub (f 7) (spF u (scF v (preG u v g 0))))]) (by rw [show spF u (scF v (preG u v g 0)) = u 2 from by unfold scF; rw [if_neg c_324_1]; rfl]) ?_
        refine lv_fstore (lv' := [(16, .float (FP.fsub (f 7) (spF u (scF v (preG u v g 0))))), (15, .int 3), (4, .int (preG u v g 0 16)), (14, .int 1), (13, .int (cnF g (nI n) (nI K) ((bestK u g) + 1))), (12, .float ((goF u v f g 0) 7)), (11, .int (bestK u g)), (10, .int (oneF (g 12))), (9, .int (g 11)), (8, .int (g 7)), (7, .int (oneF (g 17))), (6, .int (g 15)), (5, .int 0), (3, .float (f 7)), (2, .int 3), (0, .ref o), (1, .int 0)]) hx hb dL_tick_341 hl (by decide) rfl (fun ls hl => ?_)
        refine lv_fload hx hb dL_tick_343 (lv_at hl 0 rfl) ?_
        refine lv_fconst0 hx hb dL_tick_345 ?_
        refine lv_fcmp hx hb dL_tick_346 ?_
        refine W.eq (g2 := F0 m 347 ls [.int (Op.cmpValue (FP.fcmp (FP.fsub (f 7) (spF u (scF v (preG u v g 0)))) FP.fconst0) CmpOp.l)]) (by rw [cmp_gl hsn n32_0]) ?_
        refine lv_if_gt (tgt := 354) hx hb dL_tick_347 (by decide) (fun c_347_3 => ?_) (fun c_347_3 => ?_)
        · skip
          refine lv_iconst (v := 3) hx hb dL_tick_354 (by decide) ?_
          refine lv_istore (lv' := [(15, .int 3), (16, .float (FP.fsub (f 7) (spF u (scF v (preG u v g 0))))), (4, .int (preG u v g 0 16)), (14, .int 1), (13, .int (cnF g (nI n) (nI K) ((bestK u g) + 1))), (12, .float ((goF u v f g 0) 7)), (11, .int (bestK u g)), (10, .int (oneF (g 12))), (9, .int (g 11)), (8, .int (g 7)), (7, .int (oneF (g 17))), (6, .int (g 15)), (5, .int 0), (3, .float (f 7)), (2, .int 3), (0, .ref o), (1, .int 0)]) hx hb dL_tick_355 hl (by decide) rfl (fun ls hl => ?_)
          refine lv_fload hx hb dL_tick_357 (lv_at hl 1 rfl) ?_
          refine lv_fconst0 hx hb dL_tick_359 ?_
          refine lv_fcmp hx hb dL_tick_360 ?_
          refine W.eq (g2 := F0 m 361 ls [.int (Op.cmpValue (FP.fcmp (FP.fsub (f 7) (spF u (scF v (preG u v g 0)))) FP.fconst0) CmpOp.l)]) (by rw [cmp_gl hsn n32_0]) ?_
          refine lv_if_gt (tgt := 368) hx hb dL_tick_361 (by decide) (fun c_361_6 => ?_) (fun c_361_6 => absurd c_347_3 c_361_6)
          refine lv_fload hx hb dL_tick_368 (lv_at hl 1 rfl) ?_
          refine lv_fstore (lv' := [(16, .float (FP.fsub (f 7) (spF u (scF v (preG u v g 0))))), (15, .int 3), (4, .int (preG u v g 0 16)), (14, .int 1), (13, .int (cnF g (nI n) (nI K) ((bestK u g) + 1))), (12, .float ((goF u v f g 0) 7)), (11, .int (bestK u g)), (10, .int (oneF (g 12))), (9, .int (g 11)), (8, .int (g 7)), (7, .int (oneF (g 17))), (6, .int (g 15)), (5, .int 0), (3, .float (f 7)), (2, .int 3), (0, .ref o), (1, .int 0)]) hx hb dL_tick_370 hl (by decide) rfl (fun ls hl => ?_)
          refine lv_iload hx hb dL_tick_372 (lv_at hl 1 rfl) ?_
          refine lv_if_ne (tgt := 381) hx hb dL_tick_374 (by decide) (fun _ => ?_) (fun h9 => absurd h9 (by decide))
          refine lv_iload hx hb dL_tick_381 (lv_at hl 2 rfl) ?_
          refine lv_istore (lv' := [(4, .int (preG u v g 0 16)), (16, .float (FP.fsub (f 7) (spF u (scF v (preG u v g 0))))), (15, .int 3), (14, .int 1), (13, .int (cnF g (nI n) (nI K) ((bestK u g) + 1))), (12, .float ((goF u v f g 0) 7)), (11, .int (bestK u g)), (10, .int (oneF (g 12))), (9, .int (g 11)), (8, .int (g 7)), (7, .int (oneF (g 17))), (6, .int (g 15)), (5, .int 0), (3, .float (f 7)), (2, .int 3), (0, .ref o), (1, .int 0)]) hx hb dL_tick_383 hl (by decide) rfl (fun ls hl => ?_)
          refine lv_iload_n hx hb dL_tick_385 rfl (lv_at hl 14 rfl) ?_
          refine lv_iconst (v := 3) hx hb dL_tick_386 (by decide) ?_
          refine lv_icmp_ne (tgt := 400) hx hb dL_tick_387 (by decide) (fun h9 => absurd (by decide) h9) (fun _ => ?_)
          refine lv_iload hx hb dL_tick_390 (lv_at hl 2 rfl) ?_
          refine lv_iconst (v := 1) hx hb dL_tick_392 (by decide) ?_
          refine lv_icmp_ne (tgt := 400) hx hb dL_tick_393 (by decide) (fun _ => ?_) (fun h9 => absurd h9 (by decide))
          refine lv_iconst (v := 0) hx hb dL_tick_400 (by decide) ?_
          refine lv_istore (lv' := [(17, .int 0), (4, .int (preG u v g 0 16)), (16, .float (FP.fsub (f 7) (spF u (scF v (preG u v g 0))))), (15, .int 3), (14, .int 1), (13, .int (cnF g (nI n) (nI K) ((bestK u g) + 1))), (12, .float ((goF u v f g 0) 7)), (11, .int (bestK u g)), (10, .int (oneF (g 12))), (9, .int (g 11)), (8, .int (g 7)), (7, .int (oneF (g 17))), (6, .int (g 15)), (5, .int 0), (3, .float (f 7)), (2, .int 3), (0, .ref o), (1, .int 0)]) hx hb dL_tick_401 hl (by decide) rfl (fun ls hl => ?_)
          refine lv_iload hx hb dL_tick_403 (lv_at hl 0 rfl) ?_
          refine lv_if_eq (tgt := 428) hx hb dL_tick_405 (by decide) (fun _ => ?_) (fun h9 => absurd (by decide) h9)
          refine lv_iconst (v := 0) hx hb dL_tick_428 (by decide) ?_
          refine lv_istore (lv' := [(18, .int 0), (17, .int 0), (4, .int (preG u v g 0 16)), (16, .float (FP.fsub (f 7) (spF u (scF v (preG u v g 0))))), (15, .int 3), (14, .int 1), (13, .int (cnF g (nI n) (nI K) ((bestK u g) + 1))), (12, .float ((goF u v f g 0) 7)), (11, .int (bestK u g)), (10, .int (oneF (g 12))), (9, .int (g 11)), (8, .int (g 7)), (7, .int (oneF (g 17))), (6, .int (g 15)), (5, .int 0), (3, .float (f 7)), (2, .int 3), (0, .ref o), (1, .int 0)]) hx hb dL_tick_429 hl (by decide) rfl (fun ls hl => ?_)
          refine lv_aload_n hx hb dL_tick_431 rfl (lv_at hl 17 rfl) ?_
          refine lv_iload_n hx hb dL_tick_432 rfl (lv_at hl 18 rfl) ?_
          refine lv_iconst (v := 1) hx hb dL_tick_433 (by decide) ?_
          refine lw_i (rL (rest := []) ⟨hx, hb, hml, hown, hts⟩ (LB_pass_ok l G cA A o (u, v, f, g, L) n K ch hn 0 1 (by decide) (by decide) (by decide) (by decide) hT hG1 hBo) (cwV 2 hts gL_tick_X8_pass rfl rfl rfl mdX8_pass ⟨Nat.le_of_ble_eq_true rfl, Nat.le_of_ble_eq_true rfl⟩) hA hL rfl hl rfl (Nat.le_of_ble_eq_true rfl) dL_tick_434 ⟨Nat.le_of_ble_eq_true rfl, Nat.le_of_ble_eq_true rfl⟩) hA (fun r_434_6 _ H locs hr_434_6 hA hL => ?_)
          replace hL : LB G cA A o (u, v, (goF u v f g 0), (goG u v f g 0), (goL u v g L 0)) (recN n) K ch H := hL
          replace hr_434_6 : r_434_6 = (goG u v f g 0) 13 := hr_434_6
          subst hr_434_6
          refine lv_iload hx hb dL_tick_437 (lv_at hl 4 rfl) ?_
          refine lv_icmp_ne (tgt := 489) hx hb dL_tick_439 (by decide) (fun c_439_6 => absurd (ht.1.trans (if_neg (Int32.not_le.mpr c_347_3))) c_439_6) (fun c_439_6 => ?_)
          refine lv_aload_n hx hb dL_tick_442 rfl (lv_at hl 17 rfl) ?_
          refine lr_f (rL (rest := []) ⟨hx, hb, hml, hown, hts⟩ (LB_place l G cA A o (u, v, (goF u v f g 0), (goG u v f g 0), (goL u v g L 0)) (recN n) K ch  ) (cwV 0 hts gL_tick_X8_place rfl rfl rfl mdX8_place ⟨Nat.le_of_ble_eq_true rfl, Nat.le_of_ble_eq_true rfl⟩) hA hL rfl hl rfl (Nat.le_of_ble_eq_true rfl) dL_tick_443 ⟨Nat.le_of_ble_eq_true rfl, Nat.le_of_ble_eq_true rfl⟩) hA hL (fun r_443_6 H locs hr_443_6 hA hL => ?_)
          replace hr_443_6 : r_443_6 = (goF u v f g 0) 7 := hr_443_6
          subst hr_443_6
          refine lv_fload hx hb dL_tick_446 (lv_at hl 3 rfl) ?_
          refine lv_fcmp hx hb dL_tick_448 ?_
          refine lv_if_ne (tgt := 489) hx hb dL_tick_449 (by decide) (fun c_449_6 => absurd (by rw [(ht.2.2.2.trans (if_neg (Int32.not_le.mpr c_347_3)))]; exact cmp_self (of_vf hsn) _) c_449_6) (fun c_449_6 => ?_)
          refine lv_fload hx hb dL_tick_452 (lv_at hl 7 rfl) ?_
          refine lv_fload hx hb dL_tick_454 (lv_at hl 3 rfl) ?_
          refine lv_fcmp hx hb dL_tick_456 ?_
          refine lv_if_ne (tgt := 489) hx hb dL_tick_457 (by decide) (fun c_457_6 => absurd (by rw [(ht.2.2.2.trans (if_neg (Int32.not_le.mpr c_347_3)))]; exact cmp_self (of_vf hsn) _) c_457_6) (fun c_457_6 => ?_)
          refine lv_aload_n hx hb dL_tick_460 rfl (lv_at hl 17 rfl) ?_
          refine lv_iconst (v := 1) hx hb dL_tick_461 (by decide) ?_
          refine lr_i (rL (rest := []) ⟨hx, hb, hml, hown, hts⟩ (LB_door l G cA A o (u, v, (goF u v f g 0), (goG u v f g 0), (goL u v g L 0)) (recN n) K ch 1 ) (cwV 1 hts gL_tick_X8_door rfl rfl rfl mdX8_door ⟨Nat.le_of_ble_eq_true rfl, Nat.le_of_ble_eq_true rfl⟩) hA hL rfl hl rfl (Nat.le_of_ble_eq_true rfl) dL_tick_462 ⟨Nat.le_of_ble_eq_true rfl, Nat.le_of_ble_eq_true rfl⟩) hA hL (fun r_462_6 H locs hr_462_6 hA hL => ?_)
          replace hr_462_6 : r_462_6 = (goG u v f g 0) 16 := hr_462_6
          subst hr_462_6
          refine lv_iload hx hb dL_tick_465 (lv_at hl 2 rfl) ?_
          refine lv_icmp_ne (tgt := 489) hx hb dL_tick_467 (by decide) (fun c_467_6 => absurd (ht.2.1.trans (if_neg (Int32.not_le.mpr c_347_3))) c_467_6) (fun c_467_6 => ?_)
          refine lv_aload_n hx hb dL_tick_470 rfl (lv_at hl 17 rfl) ?_
          refine lv_iconst (v := 2) hx hb dL_tick_471 (by decide) ?_
          refine lr_i (rL (rest := []) ⟨hx, hb, hml, hown, hts⟩ (LB_door l G cA A o (u, v, (goF u v f g 0), (goG u v f g 0), (goL u v g L 0)) (recN n) K ch 2 ) (cwV 1 hts gL_tick_X8_door rfl rfl rfl mdX8_door ⟨Nat.le_of_ble_eq_true rfl, Nat.le_of_ble_eq_true rfl⟩) hA hL rfl hl rfl (Nat.le_of_ble_eq_true rfl) dL_tick_472 ⟨Nat.le_of_ble_eq_true rfl, Nat.le_of_ble_eq_true rfl⟩) hA hL (fun r_472_6 H locs hr_472_6 hA hL => ?_)
          replace hr_472_6 : r_472_6 = oneF ((goG u v f g 0) 17) := hr_472_6
          subst hr_472_6
          refine lv_iload hx hb dL_tick_475 (lv_at hl 0 rfl) ?_
          refine lv_if_eq (tgt := 484) hx hb dL_tick_477 (by decide) (fun _ => ?_) (fun h9 => absurd (by decide) h9)
          refine lv_iload hx hb dL_tick_484 (lv_at hl 12 rfl) ?_
          refine lv_icmp_eq (tgt := 491) hx hb dL_tick_486 (by decide) (fun c_486_6 => ?_) (fun c_486_6 => absurd (by rw [ht.2.2.1] <;> rfl) c_486_6)
          refine lv_iload hx hb dL_tick_491 (lv_at hl 5 rfl) ?_
          refine lv_if_eq (tgt := 554) hx hb dL_tick_493 (by decide) (fun h9 => absurd h9 (by decide)) (fun _ => ?_)
          refine lv_aload_n hx hb dL_tick_496 rfl (lv_at hl 17 rfl) ?_
          refine lv_iconst (v := 0) hx hb dL_tick_497 (by decide) ?_
          refine lr_i (rL (rest := []) ⟨hx, hb, hml, hown, hts⟩ (LB_thing l G cA A o (u, v, (goF u v f g 0), (goG u v f g 0), (goL u v g L 0)) (recN n) K ch 0 hP2) (cwV 1 hts gL_tick_X8_thing rfl rfl rfl mdX8_thing ⟨Nat.le_of_ble_eq_true rfl, Nat.le_of_ble_eq_true rfl⟩) hA hL rfl hl rfl (Nat.le_of_ble_eq_true rfl) dL_tick_498 ⟨Nat.le_of_ble_eq_true rfl, Nat.le_of_ble_eq_true rfl⟩) hA hL (fun r_498_6 H locs hr_498_6 hA hL => ?_)
          replace hr_498_6 : r_498_6 = -5 := hr_498_6.trans (th_none 0 (by decide) (by decide) h5)
          subst hr_498_6
          refine lv_bipush (v := (-5)) hx hb dL_tick_501 (by decide) ?_
          refine lv_icmp_ne (tgt := 552) hx hb dL_tick_503 (by decide) (fun h9 => absurd (by decide) h9) (fun _ => ?_)
          refine lv_aload_n hx hb dL_tick_506 rfl (lv_at hl 17 rfl) ?_
          refine lv_iconst (v := 0) hx hb dL_tick_507 (by decide) ?_
          refine lv_iconst (v := 0) hx hb dL_tick_508 (by decide) ?_
          refine lr_i (rL (rest := []) ⟨hx, hb, hml, hown, hts⟩ (LB_judged l G cA A o (u, v, (goF u v f g 0), (goG u v f g 0), (goL u v g L 0)) (recN n) K ch 0 0 ) (cwV 2 hts gL_tick_X8_judged rfl rfl rfl mdX8_judged ⟨Nat.le_of_ble_eq_true rfl, Nat.le_of_ble_eq_true rfl⟩) hA hL rfl hl rfl (Nat.le_of_ble_eq_true rfl) dL_tick_509 ⟨Nat.le_of_ble_eq_true rfl, Nat.le_of_ble_eq_true rfl⟩) hA hL (fun r_509_6 H locs hr_509_6 hA hL => ?_)
          replace hr_509_6 : r_509_6 = bestK u g := hr_509_6.trans hju.1
          subst hr_509_6
          refine lv_iload hx hb dL_tick_512 (lv_at hl 8 rfl) ?_
          refine lv_icmp_ne (tgt := 552) hx hb dL_tick_514 (by decide) (fun c_514_6 => absurd rfl c_514_6) (fun c_514_6 => ?_)
          refine lv_aload_n hx hb dL_tick_517 rfl (lv_at hl 17 rfl) ?_
          refine lv_iload hx hb dL_tick_518 (lv_at hl 8 rfl) ?_
          refine lv_iconst (v := 1) hx hb dL_tick_520 (by decide) ?_
          refine lv_iadd hx hb dL_tick_521 ?_
          refine lr_i (rL (rest := []) ⟨hx, hb, hml, hown, hts⟩ (LB_count l G cA A o (u, v, (goF u v f g 0), (goG u v f g 0), (goL u v g L 0)) (recN n) K ch ((bestK u g) + 1)) (cwV 1 hts gL_tick_X8_count rfl rfl rfl mdX8_count ⟨Nat.le_of_ble_eq_true rfl, Nat.le_of_ble_eq_true rfl⟩) hA hL rfl hl rfl (Nat.le_of_ble_eq_true rfl) dL_tick_522 ⟨Nat.le_of_ble_eq_true rfl, Nat.le_of_ble_eq_true rfl⟩) hA hL (fun r_522_6 H locs hr_522_6 hA hL => ?_)
          replace hr_522_6 : r_522_6 = cnF (goG u v f g 0) (nI (recN n)) (nI K) ((bestK u g) + 1) := hr_522_6
          subst hr_522_6
          refine lv_iload hx hb dL_tick_525 (lv_at hl 6 rfl) ?_
          refine lv_iconst (v := 1) hx hb dL_tick_527 (by decide) ?_
          refine lv_iadd hx hb dL_tick_528 ?_
          refine lv_icmp_ne (tgt := 552) hx hb dL_tick_529 (by decide) (fun c_529_6 => absurd hcn c_529_6) (fun c_529_6 => ?_)
          refine lv_aload_n hx hb dL_tick_532 rfl (lv_at hl 17 rfl) ?_
          refine lv_iconst (v := 0) hx hb dL_tick_533 (by decide) ?_
          refine lv_iconst (v := 4) hx hb dL_tick_534 (by decide) ?_
          refine lr_i (rL (rest := []) ⟨hx, hb, hml, hown, hts⟩ (LB_judged l G cA A o (u, v, (goF u v f g 0), (goG u v f g 0), (goL u v g L 0)) (recN n) K ch 0 4 ) (cwV 2 hts gL_tick_X8_judged rfl rfl rfl mdX8_judged ⟨Nat.le_of_ble_eq_true rfl, Nat.le_of_ble_eq_true rfl⟩) hA hL rfl hl rfl (Nat.le_of_ble_eq_true rfl) dL_tick_535 ⟨Nat.le_of_ble_eq_true rfl, Nat.le_of_ble_eq_true rfl⟩) hA hL (fun r_535_6 H locs hr_535_6 hA hL => ?_)
          replace hr_535_6 : r_535_6 = (goG u v f g 0) 27 - 1 := hr_535_6.trans hju.2
          subst hr_535_6
          refine lv_aload_n hx hb dL_tick_538 rfl (lv_at hl 17 rfl) ?_
          refine lv_iconst (v := 0) hx hb dL_tick_539 (by decide) ?_
          refine lr_i (rL (rest := [.int ((goG u v f g 0) 27 - 1)]) ⟨hx, hb, hml, hown, hts⟩ (LB_count l G cA A o (u, v, (goF u v f g 0), (goG u v f g 0), (goL u v g L 0)) (recN n) K ch 0) (cwV 1 hts gL_tick_X8_count rfl rfl rfl mdX8_count ⟨Nat.le_of_ble_eq_true rfl, Nat.le_of_ble_eq_true rfl⟩) hA hL rfl hl rfl (Nat.le_of_ble_eq_true rfl) dL_tick_540 ⟨Nat.le_of_ble_eq_true rfl, Nat.le_of_ble_eq_true rfl⟩) hA hL (fun r_540_6 H locs hr_540_6 hA hL => ?_)
          replace hr_540_6 : r_540_6 = (goG u v f g 0) 27 := hr_540_6
          subst hr_540_6
          refine lv_iconst (v := 1) hx hb dL_tick_543 (by decide) ?_
          refine lv_isub hx hb dL_tick_544 ?_
          refine lv_icmp_ne (tgt := 552) hx hb dL_tick_545 (by decide) (fun c_545_6 => absurd rfl c_545_6) (fun c_545_6 => ?_)
          refine lv_iconst (v := 1) hx hb dL_tick_548 (by decide) ?_
          refine lv_goto (tgt := 553) hx hb dL_tick_549 (by decide) ?_
          exact en_l (post := fun r (_ : Unit) => r = 1) (B := fun _ H => LB G cA A o (u, v, (goF u v f g 0), (goG u v f g 0), (goL u v g L 0)) (recN n) K ch H) () hx hb hr hlocks hA rfl hL dL_tick_553
        · skip
          refine lv_iconst (v := 0) hx hb dL_tick_350 (by decide) ?_
          refine lv_goto (tgt := 355) hx hb dL_tick_351 (by decide) ?_
          refine lv_istore (lv' := [(15, .int 0), (16, .float (FP.fsub (f 7) (spF u (scF v (preG u v g 0))))), (4, .int (preG u v g 0 16)), (14, .int 1), (13, .int (cnF g (nI n) (nI K) ((bestK u g) + 1))), (12, .float ((goF u v f g 0) 7)), (11, .int (bestK u g)), (10, .int (oneF (g 12))), (9, .int (g 11)), (8, .int (g 7)), (7, .int (oneF (g 17))), (6, .int (g 15)), (5, .int 0), (3, .float (f 7)), (2, .int 3), (0, .ref o), (1, .int 0)]) hx hb dL_tick_355 hl (by decide) rfl (fun ls hl => ?_)
          refine lv_fload hx hb dL_tick_357 (lv_at hl 1 rfl) ?_
          refine lv_fconst0 hx hb dL_tick_359 ?_
          refine lv_fcmp hx hb dL_tick_360 ?_
          refine W.eq (g2 := F0 m 361 ls [.int (Op.cmpValue (FP.fcmp (FP.fsub (f 7) (spF u (scF v (preG u v g 0)))) FP.fconst0) CmpOp.l)]) (by rw [cmp_gl hsn n32_0]) ?_
          refine lv_if_gt (tgt := 368) hx hb dL_tick_361 (by decide) (fun c_361_7 => absurd c_361_7 c_347_3) (fun c_361_7 => ?_)
          refine lv_fconst0 hx hb dL_tick_364 ?_
          refine lv_goto (tgt := 370) hx hb dL_tick_365 (by decide) ?_
          refine lv_fstore (lv' := [(16, .float FP.fconst0), (15, .int 0), (4, .int (preG u v g 0 16)), (14, .int 1), (13, .int (cnF g (nI n) (nI K) ((bestK u g) + 1))), (12, .float ((goF u v f g 0) 7)), (11, .int (bestK u g)), (10, .int (oneF (g 12))), (9, .int (g 11)), (8, .int (g 7)), (7, .int (oneF (g 17))), (6, .int (g 15)), (5, .int 0), (3, .float (f 7)), (2, .int 3), (0, .ref o), (1, .int 0)]) hx hb dL_tick_370 hl (by decide) rfl (fun ls hl => ?_)
          refine lv_iload hx hb dL_tick_372 (lv_at hl 1 rfl) ?_
          refine lv_if_ne (tgt := 381) hx hb dL_tick_374 (by decide) (fun h9 => absurd (by decide) h9) (fun _ => ?_)
          refine lv_iconst (v := 0) hx hb dL_tick_377 (by decide) ?_
          refine lv_goto (tgt := 383) hx hb dL_tick_378 (by decide) ?_
          refine lv_istore (lv' := [(4, .int 0), (16, .float FP.fconst0), (15, .int 0), (14, .int 1), (13, .int (cnF g (nI n) (nI K) ((bestK u g) + 1))), (12, .float ((goF u v f g 0) 7)), (11, .int (bestK u g)), (10, .int (oneF (g 12))), (9, .int (g 11)), (8, .int (g 7)), (7, .int (oneF (g 17))), (6, .int (g 15)), (5, .int 0), (3, .float (f 7)), (2, .int 3), (0, .ref o), (1, .int 0)]) hx hb dL_tick_383 hl (by decide) rfl (fun ls hl => ?_)
          refine lv_iload_n hx hb dL_tick_385 rfl (lv_at hl 14 rfl) ?_
          refine lv_iconst (v := 3) hx hb dL_tick_386 (by decide) ?_
          refine lv_icmp_ne (tgt := 400) hx hb dL_tick_387 (by decide) (fun h9 => absurd (by decide) h9) (fun _ => ?_)
          refine lv_iload hx hb dL_tick_390 (lv_at hl 2 rfl) ?_
          refine lv_iconst (v := 1) hx hb dL_tick_392 (by decide) ?_
          refine lv_icmp_ne (tgt := 400) hx hb dL_tick_393 (by decide) (fun _ => ?_) (fun h9 => absurd h9 (by decide))
          refine lv_iconst (v := 0) hx hb dL_tick_400 (by decide) ?_
          refine lv_istore (lv' := [(17, .int 0), (4, .int 0), (16, .float FP.fconst0), (15, .int 0), (14, .int 1), (13, .int (cnF g (nI n) (nI K) ((bestK u g) + 1))), (12, .float ((goF u v f g 0) 7)), (11, .int (bestK u g)), (10, .int (oneF (g 12))), (9, .int (g 11)), (8, .int (g 7)), (7, .int (oneF (g 17))), (6, .int (g 15)), (5, .int 0), (3, .float (f 7)), (2, .int 3), (0, .ref o), (1, .int 0)]) hx hb dL_tick_401 hl (by decide) rfl (fun ls hl => ?_)
          refine lv_iload hx hb dL_tick_403 (lv_at hl 0 rfl) ?_
          refine lv_if_eq (tgt := 428) hx hb dL_tick_405 (by decide) (fun _ => ?_) (fun h9 => absurd (by decide) h9)
          refine lv_iconst (v := 0) hx hb dL_tick_428 (by decide) ?_
          refine lv_istore (lv' := [(18, .int 0), (17, .int 0), (4, .int 0), (16, .float FP.fconst0), (15, .int 0), (14, .int 1), (13, .int (cnF g (nI n) (nI K) ((bestK u g) + 1))), (12, .float ((goF u v f g 0) 7)), (11, .int (bestK u g)), (10, .int (oneF (g 12))), (9, .int (g 11)), (8, .int (g 7)), (7, .int (oneF (g 17))), (6, .int (g 15)), (5, .int 0), (3, .float (f 7)), (2, .int 3), (0, .ref o), (1, .int 0)]) hx hb dL_tick_429 hl (by decide) rfl (fun ls hl => ?_)
          refine lv_aload_n hx hb dL_tick_431 rfl (lv_at hl 17 rfl) ?_
          refine lv_iload_n hx hb dL_tick_432 rfl (lv_at hl 18 rfl) ?_
          refine lv_iconst (v := 1) hx hb dL_tick_433 (by decide) ?_
          refine lw_i (rL (rest := []) ⟨hx, hb, hml, hown, hts⟩ (LB_pass_ok l G cA A o (u, v, f, g, L) n K ch hn 0 1 (by decide) (by decide) (by decide) (by decide) hT hG1 hBo) (cwV 2 hts gL_tick_X8_pass rfl rfl rfl mdX8_pass ⟨Nat.le_of_ble_eq_true rfl, Nat.le_of_ble_eq_true rfl⟩) hA hL rfl hl rfl (Nat.le_of_ble_eq_true rfl) dL_tick_434 ⟨Nat.le_of_ble_eq_true rfl, Nat.le_of_ble_eq_true rfl⟩) hA (fun r_434_7 _ H locs hr_434_7 hA hL => ?_)
          replace hL : LB G cA A o (u, v, (goF u v f g 0), (goG u v f g 0), (goL u v g L 0)) (recN n) K ch H := hL
          replace hr_434_7 : r_434_7 = (goG u v f g 0) 13 := hr_434_7
          subst hr_434_7
          refine lv_iload hx hb dL_tick_437 (lv_at hl 4 rfl) ?_
          refine lv_icmp_ne (tgt := 489) hx hb dL_tick_439 (by decide) (fun c_439_7 => absurd (ht.1.trans (if_pos (Int32.not_lt.mp c_347_3))) c_439_7) (fun c_439_7 => ?_)
          refine lv_aload_n hx hb dL_tick_442 rfl (lv_at hl 17 rfl) ?_
          refine lr_f (rL (rest := []) ⟨hx, hb, hml, hown, hts⟩ (LB_place l G cA A o (u, v, (goF u v f g 0), (goG u v f g 0), (goL u v g L 0)) (recN n) K ch  ) (cwV 0 hts gL_tick_X8_place rfl rfl rfl mdX8_place ⟨Nat.le_of_ble_eq_true rfl, Nat.le_of_ble_eq_true rfl⟩) hA hL rfl hl rfl (Nat.le_of_ble_eq_true rfl) dL_tick_443 ⟨Nat.le_of_ble_eq_true rfl, Nat.le_of_ble_eq_true rfl⟩) hA hL (fun r_443_7 H locs hr_443_7 hA hL => ?_)
          replace hr_443_7 : r_443_7 = (goF u v f g 0) 7 := hr_443_7
          subst hr_443_7
          refine lv_fload hx hb dL_tick_446 (lv_at hl 3 rfl) ?_
          refine lv_fcmp hx hb dL_tick_448 ?_
          refine lv_if_ne (tgt := 489) hx hb dL_tick_449 (by decide) (fun c_449_7 => absurd (by rw [(ht.2.2.2.trans (if_pos (Int32.not_lt.mp c_347_3)))]; exact cmp_self (of_vf n32_0) _) c_449_7) (fun c_449_7 => ?_)
          refine lv_fload hx hb dL_tick_452 (lv_at hl 7 rfl) ?_
          refine lv_fload hx hb dL_tick_454 (lv_at hl 3 rfl) ?_
          refine lv_fcmp hx hb dL_tick_456 ?_
          refine lv_if_ne (tgt := 489) hx hb dL_tick_457 (by decide) (fun c_457_7 => absurd (by rw [(ht.2.2.2.trans (if_pos (Int32.not_lt.mp c_347_3)))]; exact cmp_self (of_vf n32_0) _) c_457_7) (fun c_457_7 => ?_)
          refine lv_aload_n hx hb dL_tick_460 rfl (lv_at hl 17 rfl) ?_
          refine lv_iconst (v := 1) hx hb dL_tick_461 (by decide) ?_
          refine lr_i (rL (rest := []) ⟨hx, hb, hml, hown, hts⟩ (LB_door l G cA A o (u, v, (goF u v f g 0), (goG u v f g 0), (goL u v g L 0)) (recN n) K ch 1 ) (cwV 1 hts gL_tick_X8_door rfl rfl rfl mdX8_door ⟨Nat.le_of_ble_eq_true rfl, Nat.le_of_ble_eq_true rfl⟩) hA hL rfl hl rfl (Nat.le_of_ble_eq_true rfl) dL_tick_462 ⟨Nat.le_of_ble_eq_true rfl, Nat.le_of_ble_eq_true rfl⟩) hA hL (fun r_462_7 H locs hr_462_7 hA hL => ?_)
          replace hr_462_7 : r_462_7 = (goG u v f g 0) 16 := hr_462_7
          subst hr_462_7
          refine lv_iload hx hb dL_tick_465 (lv_at hl 2 rfl) ?_
          refine lv_icmp_ne (tgt := 489) hx hb dL_tick_467 (by decide) (fun c_467_7 => absurd (ht.2.1.trans (if_pos (Int32.not_lt.mp c_347_3))) c_467_7) (fun c_467_7 => ?_)
          refine lv_aload_n hx hb dL_tick_470 rfl (lv_at hl 17 rfl) ?_
          refine lv_iconst (v := 2) hx hb dL_tick_471 (by decide) ?_
          refine lr_i (rL (rest := []) ⟨hx, hb, hml, hown, hts⟩ (LB_door l G cA A o (u, v, (goF u v f g 0), (goG u v f g 0), (goL u v g L 0)) (recN n) K ch 2 ) (cwV 1 hts gL_tick_X8_door rfl rfl rfl mdX8_door ⟨Nat.le_of_ble_eq_true rfl, Nat.le_of_ble_eq_true rfl⟩) hA hL rfl hl rfl (Nat.le_of_ble_eq_true rfl) dL_tick_472 ⟨Nat.le_of_ble_eq_true rfl, Nat.le_of_ble_eq_true rfl⟩) hA hL (fun r_472_7 H locs hr_472_7 hA hL => ?_)
          replace hr_472_7 : r_472_7 = oneF ((goG u v f g 0) 17) := hr_472_7
          subst hr_472_7
          refine lv_iload hx hb dL_tick_475 (lv_at hl 0 rfl) ?_
          refine lv_if_eq (tgt := 484) hx hb dL_tick_477 (by decide) (fun _ => ?_) (fun h9 => absurd (by decide) h9)
          refine lv_iload hx hb dL_tick_484 (lv_at hl 12 rfl) ?_
          refine lv_icmp_eq (tgt := 491) hx hb dL_tick_486 (by decide) (fun c_486_7 => ?_) (fun c_486_7 => absurd (by rw [ht.2.2.1] <;> rfl) c_486_7)
          refine lv_iload hx hb dL_tick_491 (lv_at hl 5 rfl) ?_
          refine lv_if_eq (tgt := 554) hx hb dL_tick_493 (by decide) (fun h9 => absurd h9 (by decide)) (fun _ => ?_)
          refine lv_aload_n hx hb dL_tick_496 rfl (lv_at hl 17 rfl) ?_
          refine lv_iconst (v := 0) hx hb dL_tick_497 (by decide) ?_
          refine lr_i (rL (rest := []) ⟨hx, hb, hml, hown, hts⟩ (LB_thing l G cA A o (u, v, (goF u v f g 0), (goG u v f g 0), (goL u v g L 0)) (recN n) K ch 0 hP2) (cwV 1 hts gL_tick_X8_thing rfl rfl rfl mdX8_thing ⟨Nat.le_of_ble_eq_true rfl, Nat.le_of_ble_eq_true rfl⟩) hA hL rfl hl rfl (Nat.le_of_ble_eq_true rfl) dL_tick_498 ⟨Nat.le_of_ble_eq_true rfl, Nat.le_of_ble_eq_true rfl⟩) hA hL (fun r_498_7 H locs hr_498_7 hA hL => ?_)
          replace hr_498_7 : r_498_7 = -5 := hr_498_7.trans (th_none 0 (by decide) (by decide) h5)
          subst hr_498_7
          refine lv_bipush (v := (-5)) hx hb dL_tick_501 (by decide) ?_
          refine lv_icmp_ne (tgt := 552) hx hb dL_tick_503 (by decide) (fun h9 => absurd (by decide) h9) (fun _ => ?_)
          refine lv_aload_n hx hb dL_tick_506 rfl (lv_at hl 17 rfl) ?_
          refine lv_iconst (v := 0) hx hb dL_tick_507 (by decide) ?_
          refine lv_iconst (v := 0) hx hb dL_tick_508 (by decide) ?_
          refine lr_i (rL (rest := []) ⟨hx, hb, hml, hown, hts⟩ (LB_judged l G cA A o (u, v, (goF u v f g 0), (goG u v f g 0), (goL u v g L 0)) (recN n) K ch 0 0 ) (cwV 2 hts gL_tick_X8_judged rfl rfl rfl mdX8_judged ⟨Nat.le_of_ble_eq_true rfl, Nat.le_of_ble_eq_true rfl⟩) hA hL rfl hl rfl (Nat.le_of_ble_eq_true rfl) dL_tick_509 ⟨Nat.le_of_ble_eq_true rfl, Nat.le_of_ble_eq_true rfl⟩) hA hL (fun r_509_7 H locs hr_509_7 hA hL => ?_)
          replace hr_509_7 : r_509_7 = bestK u g := hr_509_7.trans hju.1
          subst hr_509_7
          refine lv_iload hx hb dL_tick_512 (lv_at hl 8 rfl) ?_
          refine lv_icmp_ne (tgt := 552) hx hb dL_tick_514 (by decide) (fun c_514_7 => absurd rfl c_514_7) (fun c_514_7 => ?_)
          refine lv_aload_n hx hb dL_tick_517 rfl (lv_at hl 17 rfl) ?_
          refine lv_iload hx hb dL_tick_518 (lv_at hl 8 rfl) ?_
          refine lv_iconst (v := 1) hx hb dL_tick_520 (by decide) ?_
          refine lv_iadd hx hb dL_tick_521 ?_
          refine lr_i (rL (rest := []) ⟨hx, hb, hml, hown, hts⟩ (LB_count l G cA A o (u, v, (goF u v f g 0), (goG u v f g 0), (goL u v g L 0)) (recN n) K ch ((bestK u g) + 1)) (cwV 1 hts gL_tick_X8_count rfl rfl rfl mdX8_count ⟨Nat.le_of_ble_eq_true rfl, Nat.le_of_ble_eq_true rfl⟩) hA hL rfl hl rfl (Nat.le_of_ble_eq_true rfl) dL_tick_522 ⟨Nat.le_of_ble_eq_true rfl, Nat.le_of_ble_eq_true rfl⟩) hA hL (fun r_522_7 H locs hr_522_7 hA hL => ?_)
          replace hr_522_7 : r_522_7 = cnF (goG u v f g 0) (nI (recN n)) (nI K) ((bestK u g) + 1) := hr_522_7
          subst hr_522_7
          refine lv_iload hx hb dL_tick_525 (lv_at hl 6 rfl) ?_
          refine lv_iconst (v := 1) hx hb dL_tick_527 (by decide) ?_
          refine lv_iadd hx hb dL_tick_528 ?_
          refine lv_icmp_ne (tgt := 552) hx hb dL_tick_529 (by decide) (fun c_529_7 => absurd hcn c_529_7) (fun c_529_7 => ?_)
          refine lv_aload_n hx hb dL_tick_532 rfl (lv_at hl 17 rfl) ?_
          refine lv_iconst (v := 0) hx hb dL_tick_533 (by decide) ?_
          refine lv_iconst (v := 4) hx hb dL_tick_534 (by decide) ?_
          refine lr_i (rL (rest := []) ⟨hx, hb, hml, hown, hts⟩ (LB_judged l G cA A o (u, v, (goF u v f g 0), (goG u v f g 0), (goL u v g L 0)) (recN n) K ch 0 4 ) (cwV 2 hts gL_tick_X8_judged rfl rfl rfl mdX8_judged ⟨Nat.le_of_ble_eq_true rfl, Nat.le_of_ble_eq_true rfl⟩) hA hL rfl hl rfl (Nat.le_of_ble_eq_true rfl) dL_tick_535 ⟨Nat.le_of_ble_eq_true rfl, Nat.le_of_ble_eq_true rfl⟩) hA hL (fun r_535_7 H locs hr_535_7 hA hL => ?_)
          replace hr_535_7 : r_535_7 = (goG u v f g 0) 27 - 1 := hr_535_7.trans hju.2
          subst hr_535_7
          refine lv_aload_n hx hb dL_tick_538 rfl (lv_at hl 17 rfl) ?_
          refine lv_iconst (v := 0) hx hb dL_tick_539 (by decide) ?_
          refine lr_i (rL (rest := [.int ((goG u v f g 0) 27 - 1)]) ⟨hx, hb, hml, hown, hts⟩ (LB_count l G cA A o (u, v, (goF u v f g 0), (goG u v f g 0), (goL u v g L 0)) (recN n) K ch 0) (cwV 1 hts gL_tick_X8_count rfl rfl rfl mdX8_count ⟨Nat.le_of_ble_eq_true rfl, Nat.le_of_ble_eq_true rfl⟩) hA hL rfl hl rfl (Nat.le_of_ble_eq_true rfl) dL_tick_540 ⟨Nat.le_of_ble_eq_true rfl, Nat.le_of_ble_eq_true rfl⟩) hA hL (fun r_540_7 H locs hr_540_7 hA hL => ?_)
          replace hr_540_7 : r_540_7 = (goG u v f g 0) 27 := hr_540_7
          subst hr_540_7
          refine lv_iconst (v := 1) hx hb dL_tick_543 (by decide) ?_
          refine lv_isub hx hb dL_tick_544 ?_
          refine lv_icmp_ne (tgt := 552) hx hb dL_tick_545 (by decide) (fun c_545_7 => absurd rfl c_545_7) (fun c_545_7 => ?_)
          refine lv_iconst (v := 1) hx hb dL_tick_548 (by decide) ?_
          refine lv_goto (tgt := 553) hx hb dL_tick_549 (by decide) ?_
          exact en_l (post := fun r (_ : Unit) => r = 1) (B := fun _ H => LB G cA A o (u, v, (goF u v f g 0), (goG u v f g 0), (goL u v g L 0)) (recN n) K ch H) () hx hb hr hlocks hA rfl hL dL_tick_553
    · skip
      refine lv_iload hx hb dL_tick_160 (lv_at hl 10 rfl) ?_
      refine lv_if_le (tgt := 169) hx hb dL_tick_162 (by decide) (fun c_162 => ?_) (fun c_162 => ?_)
      · skip
        refine lv_iconst (v := 0) hx hb dL_tick_169 (by decide) ?_
        refine lv_isub hx hb dL_tick_170 ?_
        refine W.eq (g2 := F0 m 171 ls [.int (preG u v g 0 16)]) (by rw [hp16, if_pos c_151, if_neg (one_y1 c_157), if_pos c_162, Int32.sub_zero]) ?_
        refine lv_istore (lv' := [(4, .int (preG u v g 0 16)), (14, .int 1), (13, .int (cnF g (nI n) (nI K) ((bestK u g) + 1))), (12, .float ((goF u v f g 0) 7)), (11, .int (bestK u g)), (10, .int (oneF (g 12))), (9, .int (g 11)), (8, .int (g 7)), (7, .int (oneF (g 17))), (6, .int (g 15)), (5, .int 0), (3, .float (f 7)), (2, .int 3), (0, .ref o), (1, .int 0)]) hx hb dL_tick_171 hl (by decide) rfl (fun ls hl => ?_)
        refine lv_iload_n hx hb dL_tick_173 rfl (lv_at hl 12 rfl) ?_
        refine lv_istore (lv' := [(15, .int 3), (4, .int (preG u v g 0 16)), (14, .int 1), (13, .int (cnF g (nI n) (nI K) ((bestK u g) + 1))), (12, .float ((goF u v f g 0) 7)), (11, .int (bestK u g)), (10, .int (oneF (g 12))), (9, .int (g 11)), (8, .int (g 7)), (7, .int (oneF (g 17))), (6, .int (g 15)), (5, .int 0), (3, .float (f 7)), (2, .int 3), (0, .ref o), (1, .int 0)]) hx hb dL_tick_174 hl (by decide) rfl (fun ls hl => ?_)
        refine lv_fload_n hx hb dL_tick_176 rfl (lv_at hl 12 rfl) ?_
        refine lv_fstore (lv' := [(16, .float (f 7)), (15, .int 3), (4, .int (preG u v g 0 16)), (14, .int 1), (13, .int (cnF g (nI n) (nI K) ((bestK u g) + 1))), (12, .float ((goF u v f g 0) 7)), (11, .int (bestK u g)), (10, .int (oneF (g 12))), (9, .int (g 11)), (8, .int (g 7)), (7, .int (oneF (g 17))), (6, .int (g 15)), (5, .int 0), (3, .float (f 7)), (2, .int 3), (0, .ref o), (1, .int 0)]) hx hb dL_tick_177 hl (by decide) rfl (fun ls hl => ?_)
        refine lv_iload_n hx hb dL_tick_179 rfl (lv_at hl 14 rfl) ?_
        refine lv_iconst (v := 1) hx hb dL_tick_180 (by decide) ?_
        refine lv_icmp_ne (tgt := 228) hx hb dL_tick_181 (by decide) (fun _ => ?_) (fun h9 => absurd h9 (by decide))
        refine lv_iload_n hx hb dL_tick_228 rfl (lv_at hl 14 rfl) ?_
        refine lv_iconst (v := 2) hx hb dL_tick_229 (by decide) ?_
        refine lv_icmp_ne (tgt := 264) hx hb dL_tick_230 (by decide) (fun _ => ?_) (fun h9 => absurd h9 (by decide))
        refine lv_iload_n hx hb dL_tick_264 rfl (lv_at hl 14 rfl) ?_
        refine lv_iconst (v := 3) hx hb dL_tick_265 (by decide) ?_
        refine lv_icmp_ne (tgt := 311) hx hb dL_tick_266 (by decide) (fun h9 => absurd (by decide) h9) (fun _ => ?_)
        refine lv_iload_n hx hb dL_tick_269 rfl (lv_at hl 16 rfl) ?_
        refine lv_if_eq (tgt := 311) hx hb dL_tick_270 (by decide) (fun _ => ?_) (fun h9 => absurd (by decide) h9)
        refine lv_iload_n hx hb dL_tick_311 rfl (lv_at hl 14 rfl) ?_
        refine lv_iconst (v := 3) hx hb dL_tick_312 (by decide) ?_
        refine lv_icmp_ne (tgt := 385) hx hb dL_tick_313 (by decide) (fun h9 => absurd (by decide) h9) (fun _ => ?_)
        refine lv_fload_n hx hb dL_tick_316 rfl (lv_at hl 13 rfl) ?_
        refine lv_iload hx hb dL_tick_317 (lv_at hl 2 rfl) ?_
        refine lv_aload_n hx hb dL_tick_319 rfl (lv_at hl 15 rfl) ?_
        refine lv_iconst (v := 2) hx hb dL_tick_320 (by decide) ?_
        refine lr_i (rL (rest := [.int (preG u v g 0 16), .float (f 7)]) ⟨hx, hb, hml, hown, hts⟩ (LB_number l G cA A o (u, v, f, g, L) n K ch 2 ) (cwV 1 hts gL_tick_X8_number rfl rfl rfl mdX8_number ⟨Nat.le_of_ble_eq_true rfl, Nat.le_of_ble_eq_true rfl⟩) hA hL rfl hl rfl (Nat.le_of_ble_eq_true rfl) dL_tick_321 ⟨Nat.le_of_ble_eq_true rfl, Nat.le_of_ble_eq_true rfl⟩) hA hL (fun r_321_2 H locs hr_321_2 hA hL => ?_)
        replace hr_321_2 : r_321_2 = v 2 := hr_321_2
        subst hr_321_2
        refine lv_icmp_le (tgt := 335) hx hb dL_tick_324 (by decide) (fun c_324_2 => ?_) (fun c_324_2 => ?_)
        · skip
          refine lv_aload_n hx hb dL_tick_335 rfl (lv_at hl 15 rfl) ?_
          refine lv_iconst (v := 1) hx hb dL_tick_336 (by decide) ?_
          refine lr_f (rL (rest := [.float (f 7)]) ⟨hx, hb, hml, hown, hts⟩ (LB_speed l G cA A o (u, v, f, g, L) n K ch 1 ) (cwV 1 hts gL_tick_X8_speed rfl rfl rfl mdX8_speed ⟨Nat.le_of_ble_eq_true rfl, Nat.le_of_ble_eq_true rfl⟩) hA hL rfl hl rfl (Nat.le_of_ble_eq_true rfl) dL_tick_337 ⟨Nat.le_of_ble_eq_true rfl, Nat.le_of_ble_eq_true rfl⟩) hA hL (fun r_337_2 H locs hr_337_2 hA hL => ?_)
          replace hr_337_2 : r_337_2 = u 1 := hr_337_2
          subst hr_337_2
          refine lv_fsub hx hb dL_tick_340 (hGo.2.2.1) ?_
          refine W.eq (g2 := F0 m 341 ls [.float (FP.fsub (f 7) (spF u (scF v (preG u v g 0))))]) (by rw [show spF u (scF v (preG u v g 0)) = u 1 from by unfold scF; rw [if_pos c_324_2]; rfl]) ?_
          refine lv_fstore (lv' := [(16, .float (FP.fsub (f 7) (spF u (scF v (preG u v g 0))))), (15, .int 3), (4, .int (preG u v g 0 16)), (14, .int 1), (13, .int (cnF g (nI n) (nI K) ((bestK u g) + 1))), (12, .float ((goF u v f g 0) 7)), (11, .int (bestK u g)), (10, .int (oneF (g 12))), (9, .int (g 11)), (8, .int (g 7)), (7, .int (oneF (g 17))), (6, .int (g 15)), (5, .int 0), (3, .float (f 7)), (2, .int 3), (0, .ref o), (1, .int 0)]) hx hb dL_tick_341 hl (by decide) rfl (fun ls hl => ?_)
          refine lv_fload hx hb dL_tick_343 (lv_at hl 0 rfl) ?_
          refine lv_fconst0 hx hb dL_tick_345 ?_
          refine lv_fcmp hx hb dL_tick_346 ?_
          refine W.eq (g2 := F0 m 347 ls [.int (Op.cmpValue (FP.fcmp (FP.fsub (f 7) (spF u (scF v (preG u v g 0)))) FP.fconst0) CmpOp.l)]) (by rw [cmp_gl hsn n32_0]) ?_
          refine lv_if_gt (tgt := 354) hx hb dL_tick_347 (by decide) (fun c_347_4 => ?_) (fun c_347_4 => ?_)
          · skip
            refine lv_iconst (v := 3) hx hb dL_tick_354 (by decide) ?_
            refine lv_istore (lv' := [(15, .int 3), (16, .float (FP.fsub (f 7) (spF u (scF v (preG u v g 0))))), (4, .int (preG u v g 0 16)), (14, .int 1), (13, .int (cnF g (nI n) (nI K) ((bestK u g) + 1))), (12, .float ((goF u v f g 0) 7)), (11, .int (bestK u g)), (10, .int (oneF (g 12))), (9, .int (g 11)), (8, .int (g 7)), (7, .int (oneF (g 17))), (6, .int (g 15)), (5, .int 0), (3, .float (f 7)), (2, .int 3), (0, .ref o), (1, .int 0)]) hx hb dL_tick_355 hl (by decide) rfl (fun ls hl => ?_)
            refine lv_fload hx hb dL_tick_357 (lv_at hl 1 rfl) ?_
            refine lv_fconst0 hx hb dL_tick_359 ?_
            refine lv_fcmp hx hb dL_tick_360 ?_
            refine W.eq (g2 := F0 m 361 ls [.int (Op.cmpValue (FP.fcmp (FP.fsub (f 7) (spF u (scF v (preG u v g 0)))) FP.fconst0) CmpOp.l)]) (by rw [cmp_gl hsn n32_0]) ?_
            refine lv_if_gt (tgt := 368) hx hb dL_tick_361 (by decide) (fun c_361_8 => ?_) (fun c_361_8 => absurd c_347_4 c_361_8)
            refine lv_fload hx hb dL_tick_368 (lv_at hl 1 rfl) ?_
            refine lv_fstore (lv' := [(16, .float (FP.fsub (f 7) (spF u (scF v (preG u v g 0))))), (15, .int 3), (4, .int (preG u v g 0 16)), (14, .int 1), (13, .int (cnF g (nI n) (nI K) ((bestK u g) + 1))), (12, .float ((goF u v f g 0) 7)), (11, .int (bestK u g)), (10, .int (oneF (g 12))), (9, .int (g 11)), (8, .int (g 7)), (7, .int (oneF (g 17))), (6, .int (g 15)), (5, .int 0), (3, .float (f 7)), (2, .int 3), (0, .ref o), (1, .int 0)]) hx hb dL_tick_370 hl (by decide) rfl (fun ls hl => ?_)
            refine lv_iload hx hb dL_tick_372 (lv_at hl 1 rfl) ?_
            refine lv_if_ne (tgt := 381) hx hb dL_tick_374 (by decide) (fun _ => ?_) (fun h9 => absurd h9 (by decide))
            refine lv_iload hx hb dL_tick_381 (lv_at hl 2 rfl) ?_
            refine lv_istore (lv' := [(4, .int (preG u v g 0 16)), (16, .float (FP.fsub (f 7) (spF u (scF v (preG u v g 0))))), (15, .int 3), (14, .int 1), (13, .int (cnF g (nI n) (nI K) ((bestK u g) + 1))), (12, .float ((goF u v f g 0) 7)), (11, .int (bestK u g)), (10, .int (oneF (g 12))), (9, .int (g 11)), (8, .int (g 7)), (7, .int (oneF (g 17))), (6, .int (g 15)), (5, .int 0), (3, .float (f 7)), (2, .int 3), (0, .ref o), (1, .int 0)]) hx hb dL_tick_383 hl (by decide) rfl (fun ls hl => ?_)
            refine lv_iload_n hx hb dL_tick_385 rfl (lv_at hl 14 rfl) ?_
            refine lv_iconst (v := 3) hx hb dL_tick_386 (by decide) ?_
            refine lv_icmp_ne (tgt := 400) hx hb dL_tick_387 (by decide) (fun h9 => absurd (by decide) h9) (fun _ => ?_)
            refine lv_iload hx hb dL_tick_390 (lv_at hl 2 rfl) ?_
            refine lv_iconst (v := 1) hx hb dL_tick_392 (by decide) ?_
            refine lv_icmp_ne (tgt := 400) hx hb dL_tick_393 (by decide) (fun _ => ?_) (fun h9 => absurd h9 (by decide))
            refine lv_iconst (v := 0) hx hb dL_tick_400 (by decide) ?_
            refine lv_istore (lv' := [(17, .int 0), (4, .int (preG u v g 0 16)), (16, .float (FP.fsub (f 7) (spF u (scF v (preG u v g 0))))), (15, .int 3), (14, .int 1), (13, .int (cnF g (nI n) (nI K) ((bestK u g) + 1))), (12, .float ((goF u v f g 0) 7)), (11, .int (bestK u g)), (10, .int (oneF (g 12))), (9, .int (g 11)), (8, .int (g 7)), (7, .int (oneF (g 17))), (6, .int (g 15)), (5, .int 0), (3, .float (f 7)), (2, .int 3), (0, .ref o), (1, .int 0)]) hx hb dL_tick_401 hl (by decide) rfl (fun ls hl => ?_)
            refine lv_iload hx hb dL_tick_403 (lv_at hl 0 rfl) ?_
            refine lv_if_eq (tgt := 428) hx hb dL_tick_405 (by decide) (fun _ => ?_) (fun h9 => absurd (by decide) h9)
            refine lv_iconst (v := 0) hx hb dL_tick_428 (by decide) ?_
            refine lv_istore (lv' := [(18, .int 0), (17, .int 0), (4, .int (preG u v g 0 16)), (16, .float (FP.fsub (f 7) (spF u (scF v (preG u v g 0))))), (15, .int 3), (14, .int 1), (13, .int (cnF g (nI n) (nI K) ((bestK u g) + 1))), (12, .float ((goF u v f g 0) 7)), (11, .int (bestK u g)), (10, .int (oneF (g 12))), (9, .int (g 11)), (8, .int (g 7)), (7, .int (oneF (g 17))), (6, .int (g 15)), (5, .int 0), (3, .float (f 7)), (2, .int 3), (0, .ref o), (1, .int 0)]) hx hb dL_tick_429 hl (by decide) rfl (fun ls hl => ?_)
            refine lv_aload_n hx hb dL_tick_431 rfl (lv_at hl 17 rfl) ?_
            refine lv_iload_n hx hb dL_tick_432 rfl (lv_at hl 18 rfl) ?_
            refine lv_iconst (v := 1) hx hb dL_tick_433 (by decide) ?_
            refine lw_i (rL (rest := []) ⟨hx, hb, hml, hown, hts⟩ (LB_pass_ok l G cA A o (u, v, f, g, L) n K ch hn 0 1 (by decide) (by decide) (by decide) (by decide) hT hG1 hBo) (cwV 2 hts gL_tick_X8_pass rfl rfl rfl mdX8_pass ⟨Nat.le_of_ble_eq_true rfl, Nat.le_of_ble_eq_true rfl⟩) hA hL rfl hl rfl (Nat.le_of_ble_eq_true rfl) dL_tick_434 ⟨Nat.le_of_ble_eq_true rfl, Nat.le_of_ble_eq_true rfl⟩) hA (fun r_434_8 _ H locs hr_434_8 hA hL => ?_)
            replace hL : LB G cA A o (u, v, (goF u v f g 0), (goG u v f g 0), (goL u v g L 0)) (recN n) K ch H := hL
            replace hr_434_8 : r_434_8 = (goG u v f g 0) 13 := hr_434_8
            subst hr_434_8
            refine lv_iload hx hb dL_tick_437 (lv_at hl 4 rfl) ?_
            refine lv_icmp_ne (tgt := 489) hx hb dL_tick_439 (by decide) (fun c_439_8 => absurd (ht.1.trans (if_neg (Int32.not_le.mpr c_347_4))) c_439_8) (fun c_439_8 => ?_)
            refine lv_aload_n hx hb dL_tick_442 rfl (lv_at hl 17 rfl) ?_
            refine lr_f (rL (rest := []) ⟨hx, hb, hml, hown, hts⟩ (LB_place l G cA A o (u, v, (goF u v f g 0), (goG u v f g 0), (goL u v g L 0)) (recN n) K ch  ) (cwV 0 hts gL_tick_X8_place rfl rfl rfl mdX8_place ⟨Nat.le_of_ble_eq_true rfl, Nat.le_of_ble_eq_true rfl⟩) hA hL rfl hl rfl (Nat.le_of_ble_eq_true rfl) dL_tick_443 ⟨Nat.le_of_ble_eq_true rfl, Nat.le_of_ble_eq_true rfl⟩) hA hL (fun r_443_8 H locs hr_443_8 hA hL => ?_)
            replace hr_443_8 : r_443_8 = (goF u v f g 0) 7 := hr_443_8
            subst hr_443_8
            refine lv_fload hx hb dL_tick_446 (lv_at hl 3 rfl) ?_
            refine lv_fcmp hx hb dL_tick_448 ?_
            refine lv_if_ne (tgt := 489) hx hb dL_tick_449 (by decide) (fun c_449_8 => absurd (by rw [(ht.2.2.2.trans (if_neg (Int32.not_le.mpr c_347_4)))]; exact cmp_self (of_vf hsn) _) c_449_8) (fun c_449_8 => ?_)
            refine lv_fload hx hb dL_tick_452 (lv_at hl 7 rfl) ?_
            refine lv_fload hx hb dL_tick_454 (lv_at hl 3 rfl) ?_
            refine lv_fcmp hx hb dL_tick_456 ?_
            refine lv_if_ne (tgt := 489) hx hb dL_tick_457 (by decide) (fun c_457_8 => absurd (by rw [(ht.2.2.2.trans (if_neg (Int32.not_le.mpr c_347_4)))]; exact cmp_self (of_vf hsn) _) c_457_8) (fun c_457_8 => ?_)
            refine lv_aload_n hx hb dL_tick_460 rfl (lv_at hl 17 rfl) ?_
            refine lv_iconst (v := 1) hx hb dL_tick_461 (by decide) ?_
            refine lr_i (rL (rest := []) ⟨hx, hb, hml, hown, hts⟩ (LB_door l G cA A o (u, v, (goF u v f g 0), (goG u v f g 0), (goL u v g L 0)) (recN n) K ch 1 ) (cwV 1 hts gL_tick_X8_door rfl rfl rfl mdX8_door ⟨Nat.le_of_ble_eq_true rfl, Nat.le_of_ble_eq_true rfl⟩) hA hL rfl hl rfl (Nat.le_of_ble_eq_true rfl) dL_tick_462 ⟨Nat.le_of_ble_eq_true rfl, Nat.le_of_ble_eq_true rfl⟩) hA hL (fun r_462_8 H locs hr_462_8 hA hL => ?_)
            replace hr_462_8 : r_462_8 = (goG u v f g 0) 16 := hr_462_8
            subst hr_462_8
            refine lv_iload hx hb dL_tick_465 (lv_at hl 2 rfl) ?_
            refine lv_icmp_ne (tgt := 489) hx hb dL_tick_467 (by decide) (fun c_467_8 => absurd (ht.2.1.trans (if_neg (Int32.not_le.mpr c_347_4))) c_467_8) (fun c_467_8 => ?_)
            refine lv_aload_n hx hb dL_tick_470 rfl (lv_at hl 17 rfl) ?_
            refine lv_iconst (v := 2) hx hb dL_tick_471 (by decide) ?_
            refine lr_i (rL (rest := []) ⟨hx, hb, hml, hown, hts⟩ (LB_door l G cA A o (u, v, (goF u v f g 0), (goG u v f g 0), (goL u v g L 0)) (recN n) K ch 2 ) (cwV 1 hts gL_tick_X8_door rfl rfl rfl mdX8_door ⟨Nat.le_of_ble_eq_true rfl, Nat.le_of_ble_eq_true rfl⟩) hA hL rfl hl rfl (Nat.le_of_ble_eq_true rfl) dL_tick_472 ⟨Nat.le_of_ble_eq_true rfl, Nat.le_of_ble_eq_true rfl⟩) hA hL (fun r_472_8 H locs hr_472_8 hA hL => ?_)
            replace hr_472_8 : r_472_8 = oneF ((goG u v f g 0) 17) := hr_472_8
            subst hr_472_8
            refine lv_iload hx hb dL_tick_475 (lv_at hl 0 rfl) ?_
            refine lv_if_eq (tgt := 484) hx hb dL_tick_477 (by decide) (fun _ => ?_) (fun h9 => absurd (by decide) h9)
            refine lv_iload hx hb dL_tick_484 (lv_at hl 12 rfl) ?_
            refine lv_icmp_eq (tgt := 491) hx hb dL_tick_486 (by decide) (fun c_486_8 => ?_) (fun c_486_8 => absurd (by rw [ht.2.2.1] <;> rfl) c_486_8)
            refine lv_iload hx hb dL_tick_491 (lv_at hl 5 rfl) ?_
            refine lv_if_eq (tgt := 554) hx hb dL_tick_493 (by decide) (fun h9 => absurd h9 (by decide)) (fun _ => ?_)
            refine lv_aload_n hx hb dL_tick_496 rfl (lv_at hl 17 rfl) ?_
            refine lv_iconst (v := 0) hx hb dL_tick_497 (by decide) ?_
            refine lr_i (rL (rest := []) ⟨hx, hb, hml, hown, hts⟩ (LB_thing l G cA A o (u, v, (goF u v f g 0), (goG u v f g 0), (goL u v g L 0)) (recN n) K ch 0 hP2) (cwV 1 hts gL_tick_X8_thing rfl rfl rfl mdX8_thing ⟨Nat.le_of_ble_eq_true rfl, Nat.le_of_ble_eq_true rfl⟩) hA hL rfl hl rfl (Nat.le_of_ble_eq_true rfl) dL_tick_498 ⟨Nat.le_of_ble_eq_true rfl, Nat.le_of_ble_eq_true rfl⟩) hA hL (fun r_498_8 H locs hr_498_8 hA hL => ?_)
            replace hr_498_8 : r_498_8 = -5 := hr_498_8.trans (th_none 0 (by decide) (by decide) h5)
            subst hr_498_8
            refine lv_bipush (v := (-5)) hx hb dL_tick_501 (by decide) ?_
            refine lv_icmp_ne (tgt := 552) hx hb dL_tick_503 (by decide) (fun h9 => absurd (by decide) h9) (fun _ => ?_)
            refine lv_aload_n hx hb dL_tick_506 rfl (lv_at hl 17 rfl) ?_
            refine lv_iconst (v := 0) hx hb dL_tick_507 (by decide) ?_
            refine lv_iconst (v := 0) hx hb dL_tick_508 (by decide) ?_
            refine lr_i (rL (rest := []) ⟨hx, hb, hml, hown, hts⟩ (LB_judged l G cA A o (u, v, (goF u v f g 0), (goG u v f g 0), (goL u v g L 0)) (recN n) K ch 0 0 ) (cwV 2 hts gL_tick_X8_judged rfl rfl rfl mdX8_judged ⟨Nat.le_of_ble_eq_true rfl, Nat.le_of_ble_eq_true rfl⟩) hA hL rfl hl rfl (Nat.le_of_ble_eq_true rfl) dL_tick_509 ⟨Nat.le_of_ble_eq_true rfl, Nat.le_of_ble_eq_true rfl⟩) hA hL (fun r_509_8 H locs hr_509_8 hA hL => ?_)
            replace hr_509_8 : r_509_8 = bestK u g := hr_509_8.trans hju.1
            subst hr_509_8
            refine lv_iload hx hb dL_tick_512 (lv_at hl 8 rfl) ?_
            refine lv_icmp_ne (tgt := 552) hx hb dL_tick_514 (by decide) (fun c_514_8 => absurd rfl c_514_8) (fun c_514_8 => ?_)
            refine lv_aload_n hx hb dL_tick_517 rfl (lv_at hl 17 rfl) ?_
            refine lv_iload hx hb dL_tick_518 (lv_at hl 8 rfl) ?_
            refine lv_iconst (v := 1) hx hb dL_tick_520 (by decide) ?_
            refine lv_iadd hx hb dL_tick_521 ?_
            refine lr_i (rL (rest := []) ⟨hx, hb, hml, hown, hts⟩ (LB_count l G cA A o (u, v, (goF u v f g 0), (goG u v f g 0), (goL u v g L 0)) (recN n) K ch ((bestK u g) + 1)) (cwV 1 hts gL_tick_X8_count rfl rfl rfl mdX8_count ⟨Nat.le_of_ble_eq_true rfl, Nat.le_of_ble_eq_true rfl⟩) hA hL rfl hl rfl (Nat.le_of_ble_eq_true rfl) dL_tick_522 ⟨Nat.le_of_ble_eq_true rfl, Nat.le_of_ble_eq_true rfl⟩) hA hL (fun r_522_8 H locs hr_522_8 hA hL => ?_)
            replace hr_522_8 : r_522_8 = cnF (goG u v f g 0) (nI (recN n)) (nI K) ((bestK u g) + 1) := hr_522_8
            subst hr_522_8
            refine lv_iload hx hb dL_tick_525 (lv_at hl 6 rfl) ?_
            refine lv_iconst (v := 1) hx hb dL_tick_527 (by decide) ?_
            refine lv_iadd hx hb dL_tick_528 ?_
            refine lv_icmp_ne (tgt := 552) hx hb dL_tick_529 (by decide) (fun c_529_8 => absurd hcn c_529_8) (fun c_529_8 => ?_)
            refine lv_aload_n hx hb dL_tick_532 rfl (lv_at hl 17 rfl) ?_
            refine lv_iconst (v := 0) hx hb dL_tick_533 (by decide) ?_
            refine lv_iconst (v := 4) hx hb dL_tick_534 (by decide) ?_
            refine lr_i (rL (rest := []) ⟨hx, hb, hml, hown, hts⟩ (LB_judged l G cA A o (u, v, (goF u v f g 0), (goG u v f g 0), (goL u v g L 0)) (recN n) K ch 0 4 ) (cwV 2 hts gL_tick_X8_judged rfl rfl rfl mdX8_judged ⟨Nat.le_of_ble_eq_true rfl, Nat.le_of_ble_eq_true rfl⟩) hA hL rfl hl rfl (Nat.le_of_ble_eq_true rfl) dL_tick_535 ⟨Nat.le_of_ble_eq_true rfl, Nat.le_of_ble_eq_true rfl⟩) hA hL (fun r_535_8 H locs hr_535_8 hA hL => ?_)
            replace hr_535_8 : r_535_8 = (goG u v f g 0) 27 - 1 := hr_535_8.trans hju.2
            subst hr_535_8
            refine lv_aload_n hx hb dL_tick_538 rfl (lv_at hl 17 rfl) ?_
            refine lv_iconst (v := 0) hx hb dL_tick_539 (by decide) ?_
            refine lr_i (rL (rest := [.int ((goG u v f g 0) 27 - 1)]) ⟨hx, hb, hml, hown, hts⟩ (LB_count l G cA A o (u, v, (goF u v f g 0), (goG u v f g 0), (goL u v g L 0)) (recN n) K ch 0) (cwV 1 hts gL_tick_X8_count rfl rfl rfl mdX8_count ⟨Nat.le_of_ble_eq_true rfl, Nat.le_of_ble_eq_true rfl⟩) hA hL rfl hl rfl (Nat.le_of_ble_eq_true rfl) dL_tick_540 ⟨Nat.le_of_ble_eq_true rfl, Nat.le_of_ble_eq_true rfl⟩) hA hL (fun r_540_8 H locs hr_540_8 hA hL => ?_)
            replace hr_540_8 : r_540_8 = (goG u v f g 0) 27 := hr_540_8
            subst hr_540_8
            refine lv_iconst (v := 1) hx hb dL_tick_543 (by decide) ?_
            refine lv_isub hx hb dL_tick_544 ?_
            refine lv_icmp_ne (tgt := 552) hx hb dL_tick_545 (by decide) (fun c_545_8 => absurd rfl c_545_8) (fun c_545_8 => ?_)
            refine lv_iconst (v := 1) hx hb dL_tick_548 (by decide) ?_
            refine lv_goto (tgt := 553) hx hb dL_tick_549 (by decide) ?_
            exact en_l (post := fun r (_ : Unit) => r = 1) (B := fun _ H => LB G cA A o (u, v, (goF u v f g 0), (goG u v f g 0), (goL u v g L 0)) (recN n) K ch H) () hx hb hr hlocks hA rfl hL dL_tick_553
          · skip
            refine lv_iconst (v := 0) hx hb dL_tick_350 (by decide) ?_
            refine lv_goto (tgt := 355) hx hb dL_tick_351 (by decide) ?_
            refine lv_istore (lv' := [(15, .int 0), (16, .float (FP.fsub (f 7) (spF u (scF v (preG u v g 0))))), (4, .int (preG u v g 0 16)), (14, .int 1), (13, .int (cnF g (nI n) (nI K) ((bestK u g) + 1))), (12, .float ((goF u v f g 0) 7)), (11, .int (bestK u g)), (10, .int (oneF (g 12))), (9, .int (g 11)), (8, .int (g 7)), (7, .int (oneF (g 17))), (6, .int (g 15)), (5, .int 0), (3, .float (f 7)), (2, .int 3), (0, .ref o), (1, .int 0)]) hx hb dL_tick_355 hl (by decide) rfl (fun ls hl => ?_)
            refine lv_fload hx hb dL_tick_357 (lv_at hl 1 rfl) ?_
            refine lv_fconst0 hx hb dL_tick_359 ?_
            refine lv_fcmp hx hb dL_tick_360 ?_
            refine W.eq (g2 := F0 m 361 ls [.int (Op.cmpValue (FP.fcmp (FP.fsub (f 7) (spF u (scF v (preG u v g 0)))) FP.fconst0) CmpOp.l)]) (by rw [cmp_gl hsn n32_0]) ?_
            refine lv_if_gt (tgt := 368) hx hb dL_tick_361 (by decide) (fun c_361_9 => absurd c_361_9 c_347_4) (fun c_361_9 => ?_)
            refine lv_fconst0 hx hb dL_tick_364 ?_
            refine lv_goto (tgt := 370) hx hb dL_tick_365 (by decide) ?_
            refine lv_fstore (lv' := [(16, .float FP.fconst0), (15, .int 0), (4, .int (preG u v g 0 16)), (14, .int 1), (13, .int (cnF g (nI n) (nI K) ((bestK u g) + 1))), (12, .float ((goF u v f g 0) 7)), (11, .int (bestK u g)), (10, .int (oneF (g 12))), (9, .int (g 11)), (8, .int (g 7)), (7, .int (oneF (g 17))), (6, .int (g 15)), (5, .int 0), (3, .float (f 7)), (2, .int 3), (0, .ref o), (1, .int 0)]) hx hb dL_tick_370 hl (by decide) rfl (fun ls hl => ?_)
            refine lv_iload hx hb dL_tick_372 (lv_at hl 1 rfl) ?_
            refine lv_if_ne (tgt := 381) hx hb dL_tick_374 (by decide) (fun h9 => absurd (by decide) h9) (fun _ => ?_)
            refine lv_iconst (v := 0) hx hb dL_tick_377 (by decide) ?_
            refine lv_goto (tgt := 383) hx hb dL_tick_378 (by decide) ?_
            refine lv_istore (lv' := [(4, .int 0), (16, .float FP.fconst0), (15, .int 0), (14, .int 1), (13, .int (cnF g (nI n) (nI K) ((bestK u g) + 1))), (12, .float ((goF u v f g 0) 7)), (11, .int (bestK u g)), (10, .int (oneF (g 12))), (9, .int (g 11)), (8, .int (g 7)), (7, .int (oneF (g 17))), (6, .int (g 15)), (5, .int 0), (3, .float (f 7)), (2, .int 3), (0, .ref o), (1, .int 0)]) hx hb dL_tick_383 hl (by decide) rfl (fun ls hl => ?_)
            refine lv_iload_n hx hb dL_tick_385 rfl (lv_at hl 14 rfl) ?_
            refine lv_iconst (v := 3) hx hb dL_tick_386 (by decide) ?_
            refine lv_icmp_ne (tgt := 400) hx hb dL_tick_387 (by decide) (fun h9 => absurd (by decide) h9) (fun _ => ?_)
            refine lv_iload hx hb dL_tick_390 (lv_at hl 2 rfl) ?_
            refine lv_iconst (v := 1) hx hb dL_tick_392 (by decide) ?_
            refine lv_icmp_ne (tgt := 400) hx hb dL_tick_393 (by decide) (fun _ => ?_) (fun h9 => absurd h9 (by decide))
            refine lv_iconst (v := 0) hx hb dL_tick_400 (by decide) ?_
            refine lv_istore (lv' := [(17, .int 0), (4, .int 0), (16, .float FP.fconst0), (15, .int 0), (14, .int 1), (13, .int (cnF g (nI n) (nI K) ((bestK u g) + 1))), (12, .float ((goF u v f g 0) 7)), (11, .int (bestK u g)), (10, .int (oneF (g 12))), (9, .int (g 11)), (8, .int (g 7)), (7, .int (oneF (g 17))), (6, .int (g 15)), (5, .int 0), (3, .float (f 7)), (2, .int 3), (0, .ref o), (1, .int 0)]) hx hb dL_tick_401 hl (by decide) rfl (fun ls hl => ?_)
            refine lv_iload hx hb dL_tick_403 (lv_at hl 0 rfl) ?_
            refine lv_if_eq (tgt := 428) hx hb dL_tick_405 (by decide) (fun _ => ?_) (fun h9 => absurd (by decide) h9)
            refine lv_iconst (v := 0) hx hb dL_tick_428 (by decide) ?_
            refine lv_istore (lv' := [(18, .int 0), (17, .int 0), (4, .int 0), (16, .float FP.fconst0), (15, .int 0), (14, .int 1), (13, .int (cnF g (nI n) (nI K) ((bestK u g) + 1))), (12, .float ((goF u v f g 0) 7)), (11, .int (bestK u g)), (10, .int (oneF (g 12))), (9, .int (g 11)), (8, .int (g 7)), (7, .int (oneF (g 17))), (6, .int (g 15)), (5, .int 0), (3, .float (f 7)), (2, .int 3), (0, .ref o), (1, .int 0)]) hx hb dL_tick_429 hl (by decide) rfl (fun ls hl => ?_)
            refine lv_aload_n hx hb dL_tick_431 rfl (lv_at hl 17 rfl) ?_
            refine lv_iload_n hx hb dL_tick_432 rfl (lv_at hl 18 rfl) ?_
            refine lv_iconst (v := 1) hx hb dL_tick_433 (by decide) ?_
            refine lw_i (rL (rest := []) ⟨hx, hb, hml, hown, hts⟩ (LB_pass_ok l G cA A o (u, v, f, g, L) n K ch hn 0 1 (by decide) (by decide) (by decide) (by decide) hT hG1 hBo) (cwV 2 hts gL_tick_X8_pass rfl rfl rfl mdX8_pass ⟨Nat.le_of_ble_eq_true rfl, Nat.le_of_ble_eq_true rfl⟩) hA hL rfl hl rfl (Nat.le_of_ble_eq_true rfl) dL_tick_434 ⟨Nat.le_of_ble_eq_true rfl, Nat.le_of_ble_eq_true rfl⟩) hA (fun r_434_9 _ H locs hr_434_9 hA hL => ?_)
            replace hL : LB G cA A o (u, v, (goF u v f g 0), (goG u v f g 0), (goL u v g L 0)) (recN n) K ch H := hL
            replace hr_434_9 : r_434_9 = (goG u v f g 0) 13 := hr_434_9
            subst hr_434_9
            refine lv_iload hx hb dL_tick_437 (lv_at hl 4 rfl) ?_
            refine lv_icmp_ne (tgt := 489) hx hb dL_tick_439 (by decide) (fun c_439_9 => absurd (ht.1.trans (if_pos (Int32.not_lt.mp c_347_4))) c_439_9) (fun c_439_9 => ?_)
            refine lv_aload_n hx hb dL_tick_442 rfl (lv_at hl 17 rfl) ?_
            refine lr_f (rL (rest := []) ⟨hx, hb, hml, hown, hts⟩ (LB_place l G cA A o (u, v, (goF u v f g 0), (goG u v f g 0), (goL u v g L 0)) (recN n) K ch  ) (cwV 0 hts gL_tick_X8_place rfl rfl rfl mdX8_place ⟨Nat.le_of_ble_eq_true rfl, Nat.le_of_ble_eq_true rfl⟩) hA hL rfl hl rfl (Nat.le_of_ble_eq_true rfl) dL_tick_443 ⟨Nat.le_of_ble_eq_true rfl, Nat.le_of_ble_eq_true rfl⟩) hA hL (fun r_443_9 H locs hr_443_9 hA hL => ?_)
            replace hr_443_9 : r_443_9 = (goF u v f g 0) 7 := hr_443_9
            subst hr_443_9
            refine lv_fload hx hb dL_tick_446 (lv_at hl 3 rfl) ?_
            refine lv_fcmp hx hb dL_tick_448 ?_
            refine lv_if_ne (tgt := 489) hx hb dL_tick_449 (by decide) (fun c_449_9 => absurd (by rw [(ht.2.2.2.trans (if_pos (Int32.not_lt.mp c_347_4)))]; exact cmp_self (of_vf n32_0) _) c_449_9) (fun c_449_9 => ?_)
            refine lv_fload hx hb dL_tick_452 (lv_at hl 7 rfl) ?_
            refine lv_fload hx hb dL_tick_454 (lv_at hl 3 rfl) ?_
            refine lv_fcmp hx hb dL_tick_456 ?_
            refine lv_if_ne (tgt := 489) hx hb dL_tick_457 (by decide) (fun c_457_9 => absurd (by rw [(ht.2.2.2.trans (if_pos (Int32.not_lt.mp c_347_4)))]; exact cmp_self (of_vf n32_0) _) c_457_9) (fun c_457_9 => ?_)
            refine lv_aload_n hx hb dL_tick_460 rfl (lv_at hl 17 rfl) ?_
            refine lv_iconst (v := 1) hx hb dL_tick_461 (by decide) ?_
            refine lr_i (rL (rest := []) ⟨hx, hb, hml, hown, hts⟩ (LB_door l G cA A o (u, v, (goF u v f g 0), (goG u v f g 0), (goL u v g L 0)) (recN n) K ch 1 ) (cwV 1 hts gL_tick_X8_door rfl rfl rfl mdX8_door ⟨Nat.le_of_ble_eq_true rfl, Nat.le_of_ble_eq_true rfl⟩) hA hL rfl hl rfl (Nat.le_of_ble_eq_true rfl) dL_tick_462 ⟨Nat.le_of_ble_eq_true rfl, Nat.le_of_ble_eq_true rfl⟩) hA hL (fun r_462_9 H locs hr_462_9 hA hL => ?_)
            replace hr_462_9 : r_462_9 = (goG u v f g 0) 16 := hr_462_9
            subst hr_462_9
            refine lv_iload hx hb dL_tick_465 (lv_at hl 2 rfl) ?_
            refine lv_icmp_ne (tgt := 489) hx hb dL_tick_467 (by decide) (fun c_467_9 => absurd (ht.2.1.trans (if_pos (Int32.not_lt.mp c_347_4))) c_467_9) (fun c_467_9 => ?_)
            refine lv_aload_n hx hb dL_tick_470 rfl (lv_at hl 17 rfl) ?_
            refine lv_iconst (v := 2) hx hb dL_tick_471 (by decide) ?_
            refine lr_i (rL (rest := []) ⟨hx, hb, hml, hown, hts⟩ (LB_door l G cA A o (u, v, (goF u v f g 0), (goG u v f g 0), (goL u v g L 0)) (recN n) K ch 2 ) (cwV 1 hts gL_tick_X8_door rfl rfl rfl mdX8_door ⟨Nat.le_of_ble_eq_true rfl, Nat.le_of_ble_eq_true rfl⟩) hA hL rfl hl rfl (Nat.le_of_ble_eq_true rfl) dL_tick_472 ⟨Nat.le_of_ble_eq_true rfl, Nat.le_of_ble_eq_true rfl⟩) hA hL (fun r_472_9 H locs hr_472_9 hA hL => ?_)
            replace hr_472_9 : r_472_9 = oneF ((goG u v f g 0) 17) := hr_472_9
            subst hr_472_9
            refine lv_iload hx hb dL_tick_475 (lv_at hl 0 rfl) ?_
            refine lv_if_eq (tgt := 484) hx hb dL_tick_477 (by decide) (fun _ => ?_) (fun h9 => absurd (by decide) h9)
            refine lv_iload hx hb dL_tick_484 (lv_at hl 12 rfl) ?_
            refine lv_icmp_eq (tgt := 491) hx hb dL_tick_486 (by decide) (fun c_486_9 => ?_) (fun c_486_9 => absurd (by rw [ht.2.2.1] <;> rfl) c_486_9)
            refine lv_iload hx hb dL_tick_491 (lv_at hl 5 rfl) ?_
            refine lv_if_eq (tgt := 554) hx hb dL_tick_493 (by decide) (fun h9 => absurd h9 (by decide)) (fun _ => ?_)
            refine lv_aload_n hx hb dL_tick_496 rfl (lv_at hl 17 rfl) ?_
            refine lv_iconst (v := 0) hx hb dL_tick_497 (by decide) ?_
            refine lr_i (rL (rest := []) ⟨hx, hb, hml, hown, hts⟩ (LB_thing l G cA A o (u, v, (goF u v f g 0), (goG u v f g 0), (goL u v g L 0)) (recN n) K ch 0 hP2) (cwV 1 hts gL_tick_X8_thing rfl rfl rfl mdX8_thing ⟨Nat.le_of_ble_eq_true rfl, Nat.le_of_ble_eq_true rfl⟩) hA hL rfl hl rfl (Nat.le_of_ble_eq_true rfl) dL_tick_498 ⟨Nat.le_of_ble_eq_true rfl, Nat.le_of_ble_eq_true rfl⟩) hA hL (fun r_498_9 H locs hr_498_9 hA hL => ?_)
            replace hr_498_9 : r_498_9 = -5 := hr_498_9.trans (th_none 0 (by decide) (by decide) h5)
            subst hr_498_9
            refine lv_bipush (v := (-5)) hx hb dL_tick_501 (by decide) ?_
            refine lv_icmp_ne (tgt := 552) hx hb dL_tick_503 (by decide) (fun h9 => absurd (by decide) h9) (fun _ => ?_)
            refine lv_aload_n hx hb dL_tick_506 rfl (lv_at hl 17 rfl) ?_
            refine lv_iconst (v := 0) hx hb dL_tick_507 (by decide) ?_
            refine lv_iconst (v := 0) hx hb dL_tick_508 (by decide) ?_
            refine lr_i (rL (rest := []) ⟨hx, hb, hml, hown, hts⟩ (LB_judged l G cA A o (u, v, (goF u v f g 0), (goG u v f g 0), (goL u v g L 0)) (recN n) K ch 0 0 ) (cwV 2 hts gL_tick_X8_judged rfl rfl rfl mdX8_judged ⟨Nat.le_of_ble_eq_true rfl, Nat.le_of_ble_eq_true rfl⟩) hA hL rfl hl rfl (Nat.le_of_ble_eq_true rfl) dL_tick_509 ⟨Nat.le_of_ble_eq_true rfl, Nat.le_of_ble_eq_true rfl⟩) hA hL (fun r_509_9 H locs hr_509_9 hA hL => ?_)
            replace hr_509_9 : r_509_9 = bestK u g := hr_509_9.trans hju.1
            subst hr_509_9
            refine lv_iload hx hb dL_tick_512 (lv_at hl 8 rfl) ?_
            refine lv_icmp_ne (tgt := 552) hx hb dL_tick_514 (by decide) (fun c_514_9 => absurd rfl c_514_9) (fun c_514_9 => ?_)
            refine lv_aload_n hx hb dL_tick_517 rfl (lv_at hl 17 rfl) ?_
            refine lv_iload hx hb dL_tick_518 (lv_at hl 8 rfl) ?_
            refine lv_iconst (v := 1) hx hb dL_tick_520 (by decide) ?_
            refine lv_iadd hx hb dL_tick_521 ?_
            refine lr_i (rL (rest := []) ⟨hx, hb, hml, hown, hts⟩ (LB_count l G cA A o (u, v, (goF u v f g 0), (goG u v f g 0), (goL u v g L 0)) (recN n) K ch ((bestK u g) + 1)) (cwV 1 hts gL_tick_X8_count rfl rfl rfl mdX8_count ⟨Nat.le_of_ble_eq_true rfl, Nat.le_of_ble_eq_true rfl⟩) hA hL rfl hl rfl (Nat.le_of_ble_eq_true rfl) dL_tick_522 ⟨Nat.le_of_ble_eq_true rfl, Nat.le_of_ble_eq_true rfl⟩) hA hL (fun r_522_9 H locs hr_522_9 hA hL => ?_)
            replace hr_522_9 : r_522_9 = cnF (goG u v f g 0) (nI (recN n)) (nI K) ((bestK u g) + 1) := hr_522_9
            subst hr_522_9
            refine lv_iload hx hb dL_tick_525 (lv_at hl 6 rfl) ?_
            refine lv_iconst (v := 1) hx hb dL_tick_527 (by decide) ?_
            refine lv_iadd hx hb dL_tick_528 ?_
            refine lv_icmp_ne (tgt := 552) hx hb dL_tick_529 (by decide) (fun c_529_9 => absurd hcn c_529_9) (fun c_529_9 => ?_)
            refine lv_aload_n hx hb dL_tick_532 rfl (lv_at hl 17 rfl) ?_
            refine lv_iconst (v := 0) hx hb dL_tick_533 (by decide) ?_
            refine lv_iconst (v := 4) hx hb dL_tick_534 (by decide) ?_
            refine lr_i (rL (rest := []) ⟨hx, hb, hml, hown, hts⟩ (LB_judged l G cA A o (u, v, (goF u v f g 0), (goG u v f g 0), (goL u v g L 0)) (recN n) K ch 0 4 ) (cwV 2 hts gL_tick_X8_judged rfl rfl rfl mdX8_judged ⟨Nat.le_of_ble_eq_true rfl, Nat.le_of_ble_eq_true rfl⟩) hA hL rfl hl rfl (Nat.le_of_ble_eq_true rfl) dL_tick_535 ⟨Nat.le_of_ble_eq_true rfl, Nat.le_of_ble_eq_true rfl⟩) hA hL (fun r_535_9 H locs hr_535_9 hA hL => ?_)
            replace hr_535_9 : r_535_9 = (goG u v f g 0) 27 - 1 := hr_535_9.trans hju.2
            subst hr_535_9
            refine lv_aload_n hx hb dL_tick_538 rfl (lv_at hl 17 rfl) ?_
            refine lv_iconst (v := 0) hx hb dL_tick_539 (by decide) ?_
            refine lr_i (rL (rest := [.int ((goG u v f g 0) 27 - 1)]) ⟨hx, hb, hml, hown, hts⟩ (LB_count l G cA A o (u, v, (goF u v f g 0), (goG u v f g 0), (goL u v g L 0)) (recN n) K ch 0) (cwV 1 hts gL_tick_X8_count rfl rfl rfl mdX8_count ⟨Nat.le_of_ble_eq_true rfl, Nat.le_of_ble_eq_true rfl⟩) hA hL rfl hl rfl (Nat.le_of_ble_eq_true rfl) dL_tick_540 ⟨Nat.le_of_ble_eq_true rfl, Nat.le_of_ble_eq_true rfl⟩) hA hL (fun r_540_9 H locs hr_540_9 hA hL => ?_)
            replace hr_540_9 : r_540_9 = (goG u v f g 0) 27 := hr_540_9
            subst hr_540_9
            refine lv_iconst (v := 1) hx hb dL_tick_543 (by decide) ?_
            refine lv_isub hx hb dL_tick_544 ?_
            refine lv_icmp_ne (tgt := 552) hx hb dL_tick_545 (by decide) (fun c_545_9 => absurd rfl c_545_9) (fun c_545_9 => ?_)
            refine lv_iconst (v := 1) hx hb dL_tick_548 (by decide) ?_
            refine lv_goto (tgt := 553) hx hb dL_tick_549 (by decide) ?_
            exact en_l (post := fun r (_ : Unit) => r = 1) (B := fun _ H => LB G cA A o (u, v, (goF u v f g 0), (goG u v f g 0), (goL u v g L 0)) (recN n) K ch H) () hx hb hr hlocks hA rfl hL dL_tick_553
        · skip
          refine lv_aload_n hx hb dL_tick_327 rfl (lv_at hl 15 rfl) ?_
          refine lv_iconst (v := 2) hx hb dL_tick_328 (by decide) ?_
          refine lr_f (rL (rest := [.float (f 7)]) ⟨hx, hb, hml, hown, hts⟩ (LB_speed l G cA A o (u, v, f, g, L) n K ch 2 ) (cwV 1 hts gL_tick_X8_speed rfl rfl rfl mdX8_speed ⟨Nat.le_of_ble_eq_true rfl, Nat.le_of_ble_eq_true rfl⟩) hA hL rfl hl rfl (Nat.le_of_ble_eq_true rfl) dL_tick_329 ⟨Nat.le_of_ble_eq_true rfl, Nat.le_of_ble_eq_true rfl⟩) hA hL (fun r_329_2 H locs hr_329_2 hA hL => ?_)
          replace hr_329_2 : r_329_2 = u 2 := hr_329_2
          subst hr_329_2
          refine lv_goto (tgt := 340) hx hb dL_tick_332 (by decide) ?_
          refine lv_fsub hx hb dL_tick_340 (hGo.2.2.2) ?_
          refine W.eq (g2 := F0 m 341 ls [.float (FP.fsub (f 7) (spF u (scF v (preG u v g 0))))]) (by rw [show spF u (scF v (preG u v g 0)) = u 2 from by unfold scF; rw [if_neg c_324_2]; rfl]) ?_
          refine lv_fstore (lv' := [(16, .float (FP.fsub (f 7) (spF u (scF v (preG u v g 0))))), (15, .int 3), (4, .int (preG u v g 0 16)), (14, .int 1), (13, .int (cnF g (nI n) (nI K) ((bestK u g) + 1))), (12, .float ((goF u v f g 0) 7)), (11, .int (bestK u g)), (10, .int (oneF (g 12))), (9, .int (g 11)), (8, .int (g 7)), (7, .int (oneF (g 17))), (6, .int (g 15)), (5, .int 0), (3, .float (f 7)), (2, .int 3), (0, .ref o), (1, .int 0)]) hx hb dL_tick_341 hl (by decide) rfl (fun ls hl => ?_)
          refine lv_fload hx hb dL_tick_343 (lv_at hl 0 rfl) ?_
          refine lv_fconst0 hx hb dL_tick_345 ?_
          refine lv_fcmp hx hb dL_tick_346 ?_
          refine W.eq (g2 := F0 m 347 ls [.int (Op.cmpValue (FP.fcmp (FP.fsub (f 7) (spF u (scF v (preG u v g 0)))) FP.fconst0) CmpOp.l)]) (by rw [cmp_gl hsn n32_0]) ?_
          refine lv_if_gt (tgt := 354) hx hb dL_tick_347 (by decide) (fun c_347_5 => ?_) (fun c_347_5 => ?_)
          · skip
            refine lv_iconst (v := 3) hx hb dL_tick_354 (by decide) ?_
            refine lv_istore (lv' := [(15, .int 3), (16, .float (FP.fsub (f 7) (spF u (scF v (preG u v g 0))))), (4, .int (preG u v g 0 16)), (14, .int 1), (13, .int (cnF g (nI n) (nI K) ((bestK u g) + 1))), (12, .float ((goF u v f g 0) 7)), (11, .int (bestK u g)), (10, .int (oneF (g 12))), (9, .int (g 11)), (8, .int (g 7)), (7, .int (oneF (g 17))), (6, .int (g 15)), (5, .int 0), (3, .float (f 7)), (2, .int 3), (0, .ref o), (1, .int 0)]) hx hb dL_tick_355 hl (by decide) rfl (fun ls hl => ?_)
            refine lv_fload hx hb dL_tick_357 (lv_at hl 1 rfl) ?_
            refine lv_fconst0 hx hb dL_tick_359 ?_
            refine lv_fcmp hx hb dL_tick_360 ?_
            refine W.eq (g2 := F0 m 361 ls [.int (Op.cmpValue (FP.fcmp (FP.fsub (f 7) (spF u (scF v (preG u v g 0)))) FP.fconst0) CmpOp.l)]) (by rw [cmp_gl hsn n32_0]) ?_
            refine lv_if_gt (tgt := 368) hx hb dL_tick_361 (by decide) (fun c_361_10 => ?_) (fun c_361_10 => absurd c_347_5 c_361_10)
            refine lv_fload hx hb dL_tick_368 (lv_at hl 1 rfl) ?_
            refine lv_fstore (lv' := [(16, .float (FP.fsub (f 7) (spF u (scF v (preG u v g 0))))), (15, .int 3), (4, .int (preG u v g 0 16)), (14, .int 1), (13, .int (cnF g (nI n) (nI K) ((bestK u g) + 1))), (12, .float ((goF u v f g 0) 7)), (11, .int (bestK u g)), (10, .int (oneF (g 12))), (9, .int (g 11)), (8, .int (g 7)), (7, .int (oneF (g 17))), (6, .int (g 15)), (5, .int 0), (3, .float (f 7)), (2, .int 3), (0, .ref o), (1, .int 0)]) hx hb dL_tick_370 hl (by decide) rfl (fun ls hl => ?_)
            refine lv_iload hx hb dL_tick_372 (lv_at hl 1 rfl) ?_
            refine lv_if_ne (tgt := 381) hx hb dL_tick_374 (by decide) (fun _ => ?_) (fun h9 => absurd h9 (by decide))
            refine lv_iload hx hb dL_tick_381 (lv_at hl 2 rfl) ?_
            refine lv_istore (lv' := [(4, .int (preG u v g 0 16)), (16, .float (FP.fsub (f 7) (spF u (scF v (preG u v g 0))))), (15, .int 3), (14, .int 1), (13, .int (cnF g (nI n) (nI K) ((bestK u g) + 1))), (12, .float ((goF u v f g 0) 7)), (11, .int (bestK u g)), (10, .int (oneF (g 12))), (9, .int (g 11)), (8, .int (g 7)), (7, .int (oneF (g 17))), (6, .int (g 15)), (5, .int 0), (3, .float (f 7)), (2, .int 3), (0, .ref o), (1, .int 0)]) hx hb dL_tick_383 hl (by decide) rfl (fun ls hl => ?_)
            refine lv_iload_n hx hb dL_tick_385 rfl (lv_at hl 14 rfl) ?_
            refine lv_iconst (v := 3) hx hb dL_tick_386 (by decide) ?_
            refine lv_icmp_ne (tgt := 400) hx hb dL_tick_387 (by decide) (fun h9 => absurd (by decide) h9) (fun _ => ?_)
            refine lv_iload hx hb dL_tick_390 (lv_at hl 2 rfl) ?_
            refine lv_iconst (v := 1) hx hb dL_tick_392 (by decide) ?_
            refine lv_icmp_ne (tgt := 400) hx hb dL_tick_393 (by decide) (fun _ => ?_) (fun h9 => absurd h9 (by decide))
            refine lv_iconst (v := 0) hx hb dL_tick_400 (by decide) ?_
            refine lv_istore (lv' := [(17, .int 0), (4, .int (preG u v g 0 16)), (16, .float (FP.fsub (f 7) (spF u (scF v (preG u v g 0))))), (15, .int 3), (14, .int 1), (13, .int (cnF g (nI n) (nI K) ((bestK u g) + 1))), (12, .float ((goF u v f g 0) 7)), (11, .int (bestK u g)), (10, .int (oneF (g 12))), (9, .int (g 11)), (8, .int (g 7)), (7, .int (oneF (g 17))), (6, .int (g 15)), (5, .int 0), (3, .float (f 7)), (2, .int 3), (0, .ref o), (1, .int 0)]) hx hb dL_tick_401 hl (by decide) rfl (fun ls hl => ?_)
            refine lv_iload hx hb dL_tick_403 (lv_at hl 0 rfl) ?_
            refine lv_if_eq (tgt := 428) hx hb dL_tick_405 (by decide) (fun _ => ?_) (fun h9 => absurd (by decide) h9)
            refine lv_iconst (v := 0) hx hb dL_tick_428 (by decide) ?_
            refine lv_istore (lv' := [(18, .int 0), (17, .int 0), (4, .int (preG u v g 0 16)), (16, .float (FP.fsub (f 7) (spF u (scF v (preG u v g 0))))), (15, .int 3), (14, .int 1), (13, .int (cnF g (nI n) (nI K) ((bestK u g) + 1))), (12, .float ((goF u v f g 0) 7)), (11, .int (bestK u g)), (10, .int (oneF (g 12))), (9, .int (g 11)), (8, .int (g 7)), (7, .int (oneF (g 17))), (6, .int (g 15)), (5, .int 0), (3, .float (f 7)), (2, .int 3), (0, .ref o), (1, .int 0)]) hx hb dL_tick_429 hl (by decide) rfl (fun ls hl => ?_)
            refine lv_aload_n hx hb dL_tick_431 rfl (lv_at hl 17 rfl) ?_
            refine lv_iload_n hx hb dL_tick_432 rfl (lv_at hl 18 rfl) ?_
            refine lv_iconst (v := 1) hx hb dL_tick_433 (by decide) ?_
            refine lw_i (rL (rest := []) ⟨hx, hb, hml, hown, hts⟩ (LB_pass_ok l G cA A o (u, v, f, g, L) n K ch hn 0 1 (by decide) (by decide) (by decide) (by decide) hT hG1 hBo) (cwV 2 hts gL_tick_X8_pass rfl rfl rfl mdX8_pass ⟨Nat.le_of_ble_eq_true rfl, Nat.le_of_ble_eq_true rfl⟩) hA hL rfl hl rfl (Nat.le_of_ble_eq_true rfl) dL_tick_434 ⟨Nat.le_of_ble_eq_true rfl, Nat.le_of_ble_eq_true rfl⟩) hA (fun r_434_10 _ H locs hr_434_10 hA hL => ?_)
            replace hL : LB G cA A o (u, v, (goF u v f g 0), (goG u v f g 0), (goL u v g L 0)) (recN n) K ch H := hL
            replace hr_434_10 : r_434_10 = (goG u v f g 0) 13 := hr_434_10
            subst hr_434_10
            refine lv_iload hx hb dL_tick_437 (lv_at hl 4 rfl) ?_
            refine lv_icmp_ne (tgt := 489) hx hb dL_tick_439 (by decide) (fun c_439_10 => absurd (ht.1.trans (if_neg (Int32.not_le.mpr c_347_5))) c_439_10) (fun c_439_10 => ?_)
            refine lv_aload_n hx hb dL_tick_442 rfl (lv_at hl 17 rfl) ?_
            refine lr_f (rL (rest := []) ⟨hx, hb, hml, hown, hts⟩ (LB_place l G cA A o (u, v, (goF u v f g 0), (goG u v f g 0), (goL u v g L 0)) (recN n) K ch  ) (cwV 0 hts gL_tick_X8_place rfl rfl rfl mdX8_place ⟨Nat.le_of_ble_eq_true rfl, Nat.le_of_ble_eq_true rfl⟩) hA hL rfl hl rfl (Nat.le_of_ble_eq_true rfl) dL_tick_443 ⟨Nat.le_of_ble_eq_true rfl, Nat.le_of_ble_eq_true rfl⟩) hA hL (fun r_443_10 H locs hr_443_10 hA hL => ?_)
            replace hr_443_10 : r_443_10 = (goF u v f g 0) 7 := hr_443_10
            subst hr_443_10
            refine lv_fload hx hb dL_tick_446 (lv_at hl 3 rfl) ?_
            refine lv_fcmp hx hb dL_tick_448 ?_
            refine lv_if_ne (tgt := 489) hx hb dL_tick_449 (by decide) (fun c_449_10 => absurd (by rw [(ht.2.2.2.trans (if_neg (Int32.not_le.mpr c_347_5)))]; exact cmp_self (of_vf hsn) _) c_449_10) (fun c_449_10 => ?_)
            refine lv_fload hx hb dL_tick_452 (lv_at hl 7 rfl) ?_
            refine lv_fload hx hb dL_tick_454 (lv_at hl 3 rfl) ?_
            refine lv_fcmp hx hb dL_tick_456 ?_
            refine lv_if_ne (tgt := 489) hx hb dL_tick_457 (by decide) (fun c_457_10 => absurd (by rw [(ht.2.2.2.trans (if_neg (Int32.not_le.mpr c_347_5)))]; exact cmp_self (of_vf hsn) _) c_457_10) (fun c_457_10 => ?_)
            refine lv_aload_n hx hb dL_tick_460 rfl (lv_at hl 17 rfl) ?_
            refine lv_iconst (v := 1) hx hb dL_tick_461 (by decide) ?_
            refine lr_i (rL (rest := []) ⟨hx, hb, hml, hown, hts⟩ (LB_door l G cA A o (u, v, (goF u v f g 0), (goG u v f g 0), (goL u v g L 0)) (recN n) K ch 1 ) (cwV 1 hts gL_tick_X8_door rfl rfl rfl mdX8_door ⟨Nat.le_of_ble_eq_true rfl, Nat.le_of_ble_eq_true rfl⟩) hA hL rfl hl rfl (Nat.le_of_ble_eq_true rfl) dL_tick_462 ⟨Nat.le_of_ble_eq_true rfl, Nat.le_of_ble_eq_true rfl⟩) hA hL (fun r_462_10 H locs hr_462_10 hA hL => ?_)
            replace hr_462_10 : r_462_10 = (goG u v f g 0) 16 := hr_462_10
            subst hr_462_10
            refine lv_iload hx hb dL_tick_465 (lv_at hl 2 rfl) ?_
            refine lv_icmp_ne (tgt := 489) hx hb dL_tick_467 (by decide) (fun c_467_10 => absurd (ht.2.1.trans (if_neg (Int32.not_le.mpr c_347_5))) c_467_10) (fun c_467_10 => ?_)
            refine lv_aload_n hx hb dL_tick_470 rfl (lv_at hl 17 rfl) ?_
            refine lv_iconst (v := 2) hx hb dL_tick_471 (by decide) ?_
            refine lr_i (rL (rest := []) ⟨hx, hb, hml, hown, hts⟩ (LB_door l G cA A o (u, v, (goF u v f g 0), (goG u v f g 0), (goL u v g L 0)) (recN n) K ch 2 ) (cwV 1 hts gL_tick_X8_door rfl rfl rfl mdX8_door ⟨Nat.le_of_ble_eq_true rfl, Nat.le_of_ble_eq_true rfl⟩) hA hL rfl hl rfl (Nat.le_of_ble_eq_true rfl) dL_tick_472 ⟨Nat.le_of_ble_eq_true rfl, Nat.le_of_ble_eq_true rfl⟩) hA hL (fun r_472_10 H locs hr_472_10 hA hL => ?_)
            replace hr_472_10 : r_472_10 = oneF ((goG u v f g 0) 17) := hr_472_10
            subst hr_472_10
            refine lv_iload hx hb dL_tick_475 (lv_at hl 0 rfl) ?_
            refine lv_if_eq (tgt := 484) hx hb dL_tick_477 (by decide) (fun _ => ?_) (fun h9 => absurd (by decide) h9)
            refine lv_iload hx hb dL_tick_484 (lv_at hl 12 rfl) ?_
            refine lv_icmp_eq (tgt := 491) hx hb dL_tick_486 (by decide) (fun c_486_10 => ?_) (fun c_486_10 => absurd (by rw [ht.2.2.1] <;> rfl) c_486_10)
            refine lv_iload hx hb dL_tick_491 (lv_at hl 5 rfl) ?_
            refine lv_if_eq (tgt := 554) hx hb dL_tick_493 (by decide) (fun h9 => absurd h9 (by decide)) (fun _ => ?_)
            refine lv_aload_n hx hb dL_tick_496 rfl (lv_at hl 17 rfl) ?_
            refine lv_iconst (v := 0) hx hb dL_tick_497 (by decide) ?_
            refine lr_i (rL (rest := []) ⟨hx, hb, hml, hown, hts⟩ (LB_thing l G cA A o (u, v, (goF u v f g 0), (goG u v f g 0), (goL u v g L 0)) (recN n) K ch 0 hP2) (cwV 1 hts gL_tick_X8_thing rfl rfl rfl mdX8_thing ⟨Nat.le_of_ble_eq_true rfl, Nat.le_of_ble_eq_true rfl⟩) hA hL rfl hl rfl (Nat.le_of_ble_eq_true rfl) dL_tick_498 ⟨Nat.le_of_ble_eq_true rfl, Nat.le_of_ble_eq_true rfl⟩) hA hL (fun r_498_10 H locs hr_498_10 hA hL => ?_)
            replace hr_498_10 : r_498_10 = -5 := hr_498_10.trans (th_none 0 (by decide) (by decide) h5)
            subst hr_498_10
            refine lv_bipush (v := (-5)) hx hb dL_tick_501 (by decide) ?_
            refine lv_icmp_ne (tgt := 552) hx hb dL_tick_503 (by decide) (fun h9 => absurd (by decide) h9) (fun _ => ?_)
            refine lv_aload_n hx hb dL_tick_506 rfl (lv_at hl 17 rfl) ?_
            refine lv_iconst (v := 0) hx hb dL_tick_507 (by decide) ?_
            refine lv_iconst (v := 0) hx hb dL_tick_508 (by decide) ?_
            refine lr_i (rL (rest := []) ⟨hx, hb, hml, hown, hts⟩ (LB_judged l G cA A o (u, v, (goF u v f g 0), (goG u v f g 0), (goL u v g L 0)) (recN n) K ch 0 0 ) (cwV 2 hts gL_tick_X8_judged rfl rfl rfl mdX8_judged ⟨Nat.le_of_ble_eq_true rfl, Nat.le_of_ble_eq_true rfl⟩) hA hL rfl hl rfl (Nat.le_of_ble_eq_true rfl) dL_tick_509 ⟨Nat.le_of_ble_eq_true rfl, Nat.le_of_ble_eq_true rfl⟩) hA hL (fun r_509_10 H locs hr_509_10 hA hL => ?_)
            replace hr_509_10 : r_509_10 = bestK u g := hr_509_10.trans hju.1
            subst hr_509_10
            refine lv_iload hx hb dL_tick_512 (lv_at hl 8 rfl) ?_
            refine lv_icmp_ne (tgt := 552) hx hb dL_tick_514 (by decide) (fun c_514_10 => absurd rfl c_514_10) (fun c_514_10 => ?_)
            refine lv_aload_n hx hb dL_tick_517 rfl (lv_at hl 17 rfl) ?_
            refine lv_iload hx hb dL_tick_518 (lv_at hl 8 rfl) ?_
            refine lv_iconst (v := 1) hx hb dL_tick_520 (by decide) ?_
            refine lv_iadd hx hb dL_tick_521 ?_
            refine lr_i (rL (rest := []) ⟨hx, hb, hml, hown, hts⟩ (LB_count l G cA A o (u, v, (goF u v f g 0), (goG u v f g 0), (goL u v g L 0)) (recN n) K ch ((bestK u g) + 1)) (cwV 1 hts gL_tick_X8_count rfl rfl rfl mdX8_count ⟨Nat.le_of_ble_eq_true rfl, Nat.le_of_ble_eq_true rfl⟩) hA hL rfl hl rfl (Nat.le_of_ble_eq_true rfl) dL_tick_522 ⟨Nat.le_of_ble_eq_true rfl, Nat.le_of_ble_eq_true rfl⟩) hA hL (fun r_522_10 H locs hr_522_10 hA hL => ?_)
            replace hr_522_10 : r_522_10 = cnF (goG u v f g 0) (nI (recN n)) (nI K) ((bestK u g) + 1) := hr_522_10
            subst hr_522_10
            refine lv_iload hx hb dL_tick_525 (lv_at hl 6 rfl) ?_
            refine lv_iconst (v := 1) hx hb dL_tick_527 (by decide) ?_
            refine lv_iadd hx hb dL_tick_528 ?_
            refine lv_icmp_ne (tgt := 552) hx hb dL_tick_529 (by decide) (fun c_529_10 => absurd hcn c_529_10) (fun c_529_10 => ?_)
            refine lv_aload_n hx hb dL_tick_532 rfl (lv_at hl 17 rfl) ?_
            refine lv_iconst (v := 0) hx hb dL_tick_533 (by decide) ?_
            refine lv_iconst (v := 4) hx hb dL_tick_534 (by decide) ?_
            refine lr_i (rL (rest := []) ⟨hx, hb, hml, hown, hts⟩ (LB_judged l G cA A o (u, v, (goF u v f g 0), (goG u v f g 0), (goL u v g L 0)) (recN n) K ch 0 4 ) (cwV 2 hts gL_tick_X8_judged rfl rfl rfl mdX8_judged ⟨Nat.le_of_ble_eq_true rfl, Nat.le_of_ble_eq_true rfl⟩) hA hL rfl hl rfl (Nat.le_of_ble_eq_true rfl) dL_tick_535 ⟨Nat.le_of_ble_eq_true rfl, Nat.le_of_ble_eq_true rfl⟩) hA hL (fun r_535_10 H locs hr_535_10 hA hL => ?_)
            replace hr_535_10 : r_535_10 = (goG u v f g 0) 27 - 1 := hr_535_10.trans hju.2
            subst hr_535_10
            refine lv_aload_n hx hb dL_tick_538 rfl (lv_at hl 17 rfl) ?_
            refine lv_iconst (v := 0) hx hb dL_tick_539 (by decide) ?_
            refine lr_i (rL (rest := [.int ((goG u v f g 0) 27 - 1)]) ⟨hx, hb, hml, hown, hts⟩ (LB_count l G cA A o (u, v, (goF u v f g 0), (goG u v f g 0), (goL u v g L 0)) (recN n) K ch 0) (cwV 1 hts gL_tick_X8_count rfl rfl rfl mdX8_count ⟨Nat.le_of_ble_eq_true rfl, Nat.le_of_ble_eq_true rfl⟩) hA hL rfl hl rfl (Nat.le_of_ble_eq_true rfl) dL_tick_540 ⟨Nat.le_of_ble_eq_true rfl, Nat.le_of_ble_eq_true rfl⟩) hA hL (fun r_540_10 H locs hr_540_10 hA hL => ?_)
            replace hr_540_10 : r_540_10 = (goG u v f g 0) 27 := hr_540_10
            subst hr_540_10
            refine lv_iconst (v := 1) hx hb dL_tick_543 (by decide) ?_
            refine lv_isub hx hb dL_tick_544 ?_
            refine lv_icmp_ne (tgt := 552) hx hb dL_tick_545 (by decide) (fun c_545_10 => absurd rfl c_545_10) (fun c_545_10 => ?_)
            refine lv_iconst (v := 1) hx hb dL_tick_548 (by decide) ?_
            refine lv_goto (tgt := 553) hx hb dL_tick_549 (by decide) ?_
            exact en_l (post := fun r (_ : Unit) => r = 1) (B := fun _ H => LB G cA A o (u, v, (goF u v f g 0), (goG u v f g 0), (goL u v g L 0)) (recN n) K ch H) () hx hb hr hlocks hA rfl hL dL_tick_553
          · skip
            refine lv_iconst (v := 0) hx hb dL_tick_350 (by decide) ?_
            refine lv_goto (tgt := 355) hx hb dL_tick_351 (by decide) ?_
            refine lv_istore (lv' := [(15, .int 0), (16, .float (FP.fsub (f 7) (spF u (scF v (preG u v g 0))))), (4, .int (preG u v g 0 16)), (14, .int 1), (13, .int (cnF g (nI n) (nI K) ((bestK u g) + 1))), (12, .float ((goF u v f g 0) 7)), (11, .int (bestK u g)), (10, .int (oneF (g 12))), (9, .int (g 11)), (8, .int (g 7)), (7, .int (oneF (g 17))), (6, .int (g 15)), (5, .int 0), (3, .float (f 7)), (2, .int 3), (0, .ref o), (1, .int 0)]) hx hb dL_tick_355 hl (by decide) rfl (fun ls hl => ?_)
            refine lv_fload hx hb dL_tick_357 (lv_at hl 1 rfl) ?_
            refine lv_fconst0 hx hb dL_tick_359 ?_
            refine lv_fcmp hx hb dL_tick_360 ?_
            refine W.eq (g2 := F0 m 361 ls [.int (Op.cmpValue (FP.fcmp (FP.fsub (f 7) (spF u (scF v (preG u v g 0)))) FP.fconst0) CmpOp.l)]) (by rw [cmp_gl hsn n32_0]) ?_
            refine lv_if_gt (tgt := 368) hx hb dL_tick_361 (by decide) (fun c_361_11 => absurd c_361_11 c_347_5) (fun c_361_11 => ?_)
            refine lv_fconst0 hx hb dL_tick_364 ?_
            refine lv_goto (tgt := 370) hx hb dL_tick_365 (by decide) ?_
            refine lv_fstore (lv' := [(16, .float FP.fconst0), (15, .int 0), (4, .int (preG u v g 0 16)), (14, .int 1), (13, .int (cnF g (nI n) (nI K) ((bestK u g) + 1))), (12, .float ((goF u v f g 0) 7)), (11, .int (bestK u g)), (10, .int (oneF (g 12))), (9, .int (g 11)), (8, .int (g 7)), (7, .int (oneF (g 17))), (6, .int (g 15)), (5, .int 0), (3, .float (f 7)), (2, .int 3), (0, .ref o), (1, .int 0)]) hx hb dL_tick_370 hl (by decide) rfl (fun ls hl => ?_)
            refine lv_iload hx hb dL_tick_372 (lv_at hl 1 rfl) ?_
            refine lv_if_ne (tgt := 381) hx hb dL_tick_374 (by decide) (fun h9 => absurd (by decide) h9) (fun _ => ?_)
            refine lv_iconst (v := 0) hx hb dL_tick_377 (by decide) ?_
            refine lv_goto (tgt := 383) hx hb dL_tick_378 (by decide) ?_
            refine lv_istore (lv' := [(4, .int 0), (16, .float FP.fconst0), (15, .int 0), (14, .int 1), (13, .int (cnF g (nI n) (nI K) ((bestK u g) + 1))), (12, .float ((goF u v f g 0) 7)), (11, .int (bestK u g)), (10, .int (oneF (g 12))), (9, .int (g 11)), (8, .int (g 7)), (7, .int (oneF (g 17))), (6, .int (g 15)), (5, .int 0), (3, .float (f 7)), (2, .int 3), (0, .ref o), (1, .int 0)]) hx hb dL_tick_383 hl (by decide) rfl (fun ls hl => ?_)
            refine lv_iload_n hx hb dL_tick_385 rfl (lv_at hl 14 rfl) ?_
            refine lv_iconst (v := 3) hx hb dL_tick_386 (by decide) ?_
            refine lv_icmp_ne (tgt := 400) hx hb dL_tick_387 (by decide) (fun h9 => absurd (by decide) h9) (fun _ => ?_)
            refine lv_iload hx hb dL_tick_390 (lv_at hl 2 rfl) ?_
            refine lv_iconst (v := 1) hx hb dL_tick_392 (by decide) ?_
            refine lv_icmp_ne (tgt := 400) hx hb dL_tick_393 (by decide) (fun _ => ?_) (fun h9 => absurd h9 (by decide))
            refine lv_iconst (v := 0) hx hb dL_tick_400 (by decide) ?_
            refine lv_istore (lv' := [(17, .int 0), (4, .int 0), (16, .float FP.fconst0), (15, .int 0), (14, .int 1), (13, .int (cnF g (nI n) (nI K) ((bestK u g) + 1))), (12, .float ((goF u v f g 0) 7)), (11, .int (bestK u g)), (10, .int (oneF (g 12))), (9, .int (g 11)), (8, .int (g 7)), (7, .int (oneF (g 17))), (6, .int (g 15)), (5, .int 0), (3, .float (f 7)), (2, .int 3), (0, .ref o), (1, .int 0)]) hx hb dL_tick_401 hl (by decide) rfl (fun ls hl => ?_)
            refine lv_iload hx hb dL_tick_403 (lv_at hl 0 rfl) ?_
            refine lv_if_eq (tgt := 428) hx hb dL_tick_405 (by decide) (fun _ => ?_) (fun h9 => absurd (by decide) h9)
            refine lv_iconst (v := 0) hx hb dL_tick_428 (by decide) ?_
            refine lv_istore (lv' := [(18, .int 0), (17, .int 0), (4, .int 0), (16, .float FP.fconst0), (15, .int 0), (14, .int 1), (13, .int (cnF g (nI n) (nI K) ((bestK u g) + 1))), (12, .float ((goF u v f g 0) 7)), (11, .int (bestK u g)), (10, .int (oneF (g 12))), (9, .int (g 11)), (8, .int (g 7)), (7, .int (oneF (g 17))), (6, .int (g 15)), (5, .int 0), (3, .float (f 7)), (2, .int 3), (0, .ref o), (1, .int 0)]) hx hb dL_tick_429 hl (by decide) rfl (fun ls hl => ?_)
            refine lv_aload_n hx hb dL_tick_431 rfl (lv_at hl 17 rfl) ?_
            refine lv_iload_n hx hb dL_tick_432 rfl (lv_at hl 18 rfl) ?_
            refine lv_iconst (v := 1) hx hb dL_tick_433 (by decide) ?_
            refine lw_i (rL (rest := []) ⟨hx, hb, hml, hown, hts⟩ (LB_pass_ok l G cA A o (u, v, f, g, L) n K ch hn 0 1 (by decide) (by decide) (by decide) (by decide) hT hG1 hBo) (cwV 2 hts gL_tick_X8_pass rfl rfl rfl mdX8_pass ⟨Nat.le_of_ble_eq_true rfl, Nat.le_of_ble_eq_true rfl⟩) hA hL rfl hl rfl (Nat.le_of_ble_eq_true rfl) dL_tick_434 ⟨Nat.le_of_ble_eq_true rfl, Nat.le_of_ble_eq_true rfl⟩) hA (fun r_434_11 _ H locs hr_434_11 hA hL => ?_)
            replace hL : LB G cA A o (u, v, (goF u v f g 0), (goG u v f g 0), (goL u v g L 0)) (recN n) K ch H := hL
            replace hr_434_11 : r_434_11 = (goG u v f g 0) 13 := hr_434_11
            subst hr_434_11
            refine lv_iload hx hb dL_tick_437 (lv_at hl 4 rfl) ?_
            refine lv_icmp_ne (tgt := 489) hx hb dL_tick_439 (by decide) (fun c_439_11 => absurd (ht.1.trans (if_pos (Int32.not_lt.mp c_347_5))) c_439_11) (fun c_439_11 => ?_)
            refine lv_aload_n hx hb dL_tick_442 rfl (lv_at hl 17 rfl) ?_
            refine lr_f (rL (rest := []) ⟨hx, hb, hml, hown, hts⟩ (LB_place l G cA A o (u, v, (goF u v f g 0), (goG u v f g 0), (goL u v g L 0)) (recN n) K ch  ) (cwV 0 hts gL_tick_X8_place rfl rfl rfl mdX8_place ⟨Nat.le_of_ble_eq_true rfl, Nat.le_of_ble_eq_true rfl⟩) hA hL rfl hl rfl (Nat.le_of_ble_eq_true rfl) dL_tick_443 ⟨Nat.le_of_ble_eq_true rfl, Nat.le_of_ble_eq_true rfl⟩) hA hL (fun r_443_11 H locs hr_443_11 hA hL => ?_)
            replace hr_443_11 : r_443_11 = (goF u v f g 0) 7 := hr_443_11
            subst hr_443_11
            refine lv_fload hx hb dL_tick_446 (lv_at hl 3 rfl) ?_
            refine lv_fcmp hx hb dL_tick_448 ?_
            refine lv_if_ne (tgt := 489) hx hb dL_tick_449 (by decide) (fun c_449_11 => absurd (by rw [(ht.2.2.2.trans (if_pos (Int32.not_lt.mp c_347_5)))]; exact cmp_self (of_vf n32_0) _) c_449_11) (fun c_449_11 => ?_)
            refine lv_fload hx hb dL_tick_452 (lv_at hl 7 rfl) ?_
            refine lv_fload hx hb dL_tick_454 (lv_at hl 3 rfl) ?_
            refine lv_fcmp hx hb dL_tick_456 ?_
            refine lv_if_ne (tgt := 489) hx hb dL_tick_457 (by decide) (fun c_457_11 => absurd (by rw [(ht.2.2.2.trans (if_pos (Int32.not_lt.mp c_347_5)))]; exact cmp_self (of_vf n32_0) _) c_457_11) (fun c_457_11 => ?_)
            refine lv_aload_n hx hb dL_tick_460 rfl (lv_at hl 17 rfl) ?_
            refine lv_iconst (v := 1) hx hb dL_tick_461 (by decide) ?_
            refine lr_i (rL (rest := []) ⟨hx, hb, hml, hown, hts⟩ (LB_door l G cA A o (u, v, (goF u v f g 0), (goG u v f g 0), (goL u v g L 0)) (recN n) K ch 1 ) (cwV 1 hts gL_tick_X8_door rfl rfl rfl mdX8_door ⟨Nat.le_of_ble_eq_true rfl, Nat.le_of_ble_eq_true rfl⟩) hA hL rfl hl rfl (Nat.le_of_ble_eq_true rfl) dL_tick_462 ⟨Nat.le_of_ble_eq_true rfl, Nat.le_of_ble_eq_true rfl⟩) hA hL (fun r_462_11 H locs hr_462_11 hA hL => ?_)
            replace hr_462_11 : r_462_11 = (goG u v f g 0) 16 := hr_462_11
            subst hr_462_11
            refine lv_iload hx hb dL_tick_465 (lv_at hl 2 rfl) ?_
            refine lv_icmp_ne (tgt := 489) hx hb dL_tick_467 (by decide) (fun c_467_11 => absurd (ht.2.1.trans (if_pos (Int32.not_lt.mp c_347_5))) c_467_11) (fun c_467_11 => ?_)
            refine lv_aload_n hx hb dL_tick_470 rfl (lv_at hl 17 rfl) ?_
            refine lv_iconst (v := 2) hx hb dL_tick_471 (by decide) ?_
            refine lr_i (rL (rest := []) ⟨hx, hb, hml, hown, hts⟩ (LB_door l G cA A o (u, v, (goF u v f g 0), (goG u v f g 0), (goL u v g L 0)) (recN n) K ch 2 ) (cwV 1 hts gL_tick_X8_door rfl rfl rfl mdX8_door ⟨Nat.le_of_ble_eq_true rfl, Nat.le_of_ble_eq_true rfl⟩) hA hL rfl hl rfl (Nat.le_of_ble_eq_true rfl) dL_tick_472 ⟨Nat.le_of_ble_eq_true rfl, Nat.le_of_ble_eq_true rfl⟩) hA hL (fun r_472_11 H locs hr_472_11 hA hL => ?_)
            replace hr_472_11 : r_472_11 = oneF ((goG u v f g 0) 17) := hr_472_11
            subst hr_472_11
            refine lv_iload hx hb dL_tick_475 (lv_at hl 0 rfl) ?_
            refine lv_if_eq (tgt := 484) hx hb dL_tick_477 (by decide) (fun _ => ?_) (fun h9 => absurd (by decide) h9)
            refine lv_iload hx hb dL_tick_484 (lv_at hl 12 rfl) ?_
            refine lv_icmp_eq (tgt := 491) hx hb dL_tick_486 (by decide) (fun c_486_11 => ?_) (fun c_486_11 => absurd (by rw [ht.2.2.1] <;> rfl) c_486_11)
            refine lv_iload hx hb dL_tick_491 (lv_at hl 5 rfl) ?_
            refine lv_if_eq (tgt := 554) hx hb dL_tick_493 (by decide) (fun h9 => absurd h9 (by decide)) (fun _ => ?_)
            refine lv_aload_n hx hb dL_tick_496 rfl (lv_at hl 17 rfl) ?_
            refine lv_iconst (v := 0) hx hb dL_tick_497 (by decide) ?_
            refine lr_i (rL (rest := []) ⟨hx, hb, hml, hown, hts⟩ (LB_thing l G cA A o (u, v, (goF u v f g 0), (goG u v f g 0), (goL u v g L 0)) (recN n) K ch 0 hP2) (cwV 1 hts gL_tick_X8_thing rfl rfl rfl mdX8_thing ⟨Nat.le_of_ble_eq_true rfl, Nat.le_of_ble_eq_true rfl⟩) hA hL rfl hl rfl (Nat.le_of_ble_eq_true rfl) dL_tick_498 ⟨Nat.le_of_ble_eq_true rfl, Nat.le_of_ble_eq_true rfl⟩) hA hL (fun r_498_11 H locs hr_498_11 hA hL => ?_)
            replace hr_498_11 : r_498_11 = -5 := hr_498_11.trans (th_none 0 (by decide) (by decide) h5)
            subst hr_498_11
            refine lv_bipush (v := (-5)) hx hb dL_tick_501 (by decide) ?_
            refine lv_icmp_ne (tgt := 552) hx hb dL_tick_503 (by decide) (fun h9 => absurd (by decide) h9) (fun _ => ?_)
            refine lv_aload_n hx hb dL_tick_506 rfl (lv_at hl 17 rfl) ?_
            refine lv_iconst (v := 0) hx hb dL_tick_507 (by decide) ?_
            refine lv_iconst (v := 0) hx hb dL_tick_508 (by decide) ?_
            refine lr_i (rL (rest := []) ⟨hx, hb, hml, hown, hts⟩ (LB_judged l G cA A o (u, v, (goF u v f g 0), (goG u v f g 0), (goL u v g L 0)) (recN n) K ch 0 0 ) (cwV 2 hts gL_tick_X8_judged rfl rfl rfl mdX8_judged ⟨Nat.le_of_ble_eq_true rfl, Nat.le_of_ble_eq_true rfl⟩) hA hL rfl hl rfl (Nat.le_of_ble_eq_true rfl) dL_tick_509 ⟨Nat.le_of_ble_eq_true rfl, Nat.le_of_ble_eq_true rfl⟩) hA hL (fun r_509_11 H locs hr_509_11 hA hL => ?_)
            replace hr_509_11 : r_509_11 = bestK u g := hr_509_11.trans hju.1
            subst hr_509_11
            refine lv_iload hx hb dL_tick_512 (lv_at hl 8 rfl) ?_
            refine lv_icmp_ne (tgt := 552) hx hb dL_tick_514 (by decide) (fun c_514_11 => absurd rfl c_514_11) (fun c_514_11 => ?_)
            refine lv_aload_n hx hb dL_tick_517 rfl (lv_at hl 17 rfl) ?_
            refine lv_iload hx hb dL_tick_518 (lv_at hl 8 rfl) ?_
            refine lv_iconst (v := 1) hx hb dL_tick_520 (by decide) ?_
            refine lv_iadd hx hb dL_tick_521 ?_
            refine lr_i (rL (rest := []) ⟨hx, hb, hml, hown, hts⟩ (LB_count l G cA A o (u, v, (goF u v f g 0), (goG u v f g 0), (goL u v g L 0)) (recN n) K ch ((bestK u g) + 1)) (cwV 1 hts gL_tick_X8_count rfl rfl rfl mdX8_count ⟨Nat.le_of_ble_eq_true rfl, Nat.le_of_ble_eq_true rfl⟩) hA hL rfl hl rfl (Nat.le_of_ble_eq_true rfl) dL_tick_522 ⟨Nat.le_of_ble_eq_true rfl, Nat.le_of_ble_eq_true rfl⟩) hA hL (fun r_522_11 H locs hr_522_11 hA hL => ?_)
            replace hr_522_11 : r_522_11 = cnF (goG u v f g 0) (nI (recN n)) (nI K) ((bestK u g) + 1) := hr_522_11
            subst hr_522_11
            refine lv_iload hx hb dL_tick_525 (lv_at hl 6 rfl) ?_
            refine lv_iconst (v := 1) hx hb dL_tick_527 (by decide) ?_
            refine lv_iadd hx hb dL_tick_528 ?_
            refine lv_icmp_ne (tgt := 552) hx hb dL_tick_529 (by decide) (fun c_529_11 => absurd hcn c_529_11) (fun c_529_11 => ?_)
            refine lv_aload_n hx hb dL_tick_532 rfl (lv_at hl 17 rfl) ?_
            refine lv_iconst (v := 0) hx hb dL_tick_533 (by decide) ?_
            refine lv_iconst (v := 4) hx hb dL_tick_534 (by decide) ?_
            refine lr_i (rL (rest := []) ⟨hx, hb, hml, hown, hts⟩ (LB_judged l G cA A o (u, v, (goF u v f g 0), (goG u v f g 0), (goL u v g L 0)) (recN n) K ch 0 4 ) (cwV 2 hts gL_tick_X8_judged rfl rfl rfl mdX8_judged ⟨Nat.le_of_ble_eq_true rfl, Nat.le_of_ble_eq_true rfl⟩) hA hL rfl hl rfl (Nat.le_of_ble_eq_true rfl) dL_tick_535 ⟨Nat.le_of_ble_eq_true rfl, Nat.le_of_ble_eq_true rfl⟩) hA hL (fun r_535_11 H locs hr_535_11 hA hL => ?_)
            replace hr_535_11 : r_535_11 = (goG u v f g 0) 27 - 1 := hr_535_11.trans hju.2
            subst hr_535_11
            refine lv_aload_n hx hb dL_tick_538 rfl (lv_at hl 17 rfl) ?_
            refine lv_iconst (v := 0) hx hb dL_tick_539 (by decide) ?_
            refine lr_i (rL (rest := [.int ((goG u v f g 0) 27 - 1)]) ⟨hx, hb, hml, hown, hts⟩ (LB_count l G cA A o (u, v, (goF u v f g 0), (goG u v f g 0), (goL u v g L 0)) (recN n) K ch 0) (cwV 1 hts gL_tick_X8_count rfl rfl rfl mdX8_count ⟨Nat.le_of_ble_eq_true rfl, Nat.le_of_ble_eq_true rfl⟩) hA hL rfl hl rfl (Nat.le_of_ble_eq_true rfl) dL_tick_540 ⟨Nat.le_of_ble_eq_true rfl, Nat.le_of_ble_eq_true rfl⟩) hA hL (fun r_540_11 H locs hr_540_11 hA hL => ?_)
            replace hr_540_11 : r_540_11 = (goG u v f g 0) 27 := hr_540_11
            subst hr_540_11
            refine lv_iconst (v := 1) hx hb dL_tick_543 (by decide) ?_
            refine lv_isub hx hb dL_tick_544 ?_
            refine lv_icmp_ne (tgt := 552) hx hb dL_tick_545 (by decide) (fun c_545_11 => absurd rfl c_545_11) (fun c_545_11 => ?_)
            refine lv_iconst (v := 1) hx hb dL_tick_548 (by decide) ?_
            refine lv_goto (tgt := 553) hx hb dL_tick_549 (by decide) ?_
            exact en_l (post := fun r (_ : Unit) => r = 1) (B := fun _ H => LB G cA A o (u, v, (goF u v f g 0), (goG u v f g 0), (goL u v g L 0)) (recN n) K ch H) () hx hb hr hlocks hA rfl hL dL_tick_553
      · skip
        refine lv_iconst (v := 1) hx hb dL_tick_165 (by decide) ?_
        refine lv_goto (tgt := 170) hx hb dL_tick_166 (by decide) ?_
        refine lv_isub hx hb dL_tick_170 ?_
        refine W.eq (g2 := F0 m 171 ls [.int (preG u v g 0 16)]) (by rw [hp16, if_pos c_151, if_neg (one_y1 c_157), if_neg c_162]) ?_
        refine lv_istore (lv' := [(4, .int (preG u v g 0 16)), (14, .int 1), (13, .int (cnF g (nI n) (nI K) ((bestK u g) + 1))), (12, .float ((goF u v f g 0) 7)), (11, .int (bestK u g)), (10, .int (oneF (g 12))), (9, .int (g 11)), (8, .int (g 7)), (7, .int (oneF (g 17))), (6, .int (g 15)), (5, .int 0), (3, .float (f 7)), (2, .int 3), (0, .ref o), (1, .int 0)]) hx hb dL_tick_171 hl (by decide) rfl (fun ls hl => ?_)
        refine lv_iload_n hx hb dL_tick_173 rfl (lv_at hl 12 rfl) ?_
        refine lv_istore (lv' := [(15, .int 3), (4, .int (preG u v g 0 16)), (14, .int 1), (13, .int (cnF g (nI n) (nI K) ((bestK u g) + 1))), (12, .float ((goF u v f g 0) 7)), (11, .int (bestK u g)), (10, .int (oneF (g 12))), (9, .int (g 11)), (8, .int (g 7)), (7, .int (oneF (g 17))), (6, .int (g 15)), (5, .int 0), (3, .float (f 7)), (2, .int 3), (0, .ref o), (1, .int 0)]) hx hb dL_tick_174 hl (by decide) rfl (fun ls hl => ?_)
        refine lv_fload_n hx hb dL_tick_176 rfl (lv_at hl 12 rfl) ?_
        refine lv_fstore (lv' := [(16, .float (f 7)), (15, .int 3), (4, .int (preG u v g 0 16)), (14, .int 1), (13, .int (cnF g (nI n) (nI K) ((bestK u g) + 1))), (12, .float ((goF u v f g 0) 7)), (11, .int (bestK u g)), (10, .int (oneF (g 12))), (9, .int (g 11)), (8, .int (g 7)), (7, .int (oneF (g 17))), (6, .int (g 15)), (5, .int 0), (3, .float (f 7)), (2, .int 3), (0, .ref o), (1, .int 0)]) hx hb dL_tick_177 hl (by decide) rfl (fun ls hl => ?_)
        refine lv_iload_n hx hb dL_tick_179 rfl (lv_at hl 14 rfl) ?_
        refine lv_iconst (v := 1) hx hb dL_tick_180 (by decide) ?_
        refine lv_icmp_ne (tgt := 228) hx hb dL_tick_181 (by decide) (fun _ => ?_) (fun h9 => absurd h9 (by decide))
        refine lv_iload_n hx hb dL_tick_228 rfl (lv_at hl 14 rfl) ?_
        refine lv_iconst (v := 2) hx hb dL_tick_229 (by decide) ?_
        refine lv_icmp_ne (tgt := 264) hx hb dL_tick_230 (by decide) (fun _ => ?_) (fun h9 => absurd h9 (by decide))
        refine lv_iload_n hx hb dL_tick_264 rfl (lv_at hl 14 rfl) ?_
        refine lv_iconst (v := 3) hx hb dL_tick_265 (by decide) ?_
        refine lv_icmp_ne (tgt := 311) hx hb dL_tick_266 (by decide) (fun h9 => absurd (by decide) h9) (fun _ => ?_)
        refine lv_iload_n hx hb dL_tick_269 rfl (lv_at hl 16 rfl) ?_
        refine lv_if_eq (tgt := 311) hx hb dL_tick_270 (by decide) (fun _ => ?_) (fun h9 => absurd (by decide) h9)
        refine lv_iload_n hx hb dL_tick_311 rfl (lv_at hl 14 rfl) ?_
        refine lv_iconst (v := 3) hx hb dL_tick_312 (by decide) ?_
        refine lv_icmp_ne (tgt := 385) hx hb dL_tick_313 (by decide) (fun h9 => absurd (by decide) h9) (fun _ => ?_)
        refine lv_fload_n hx hb dL_tick_316 rfl (lv_at hl 13 rfl) ?_
        refine lv_iload hx hb dL_tick_317 (lv_at hl 2 rfl) ?_
        refine lv_aload_n hx hb dL_tick_319 rfl (lv_at hl 15 rfl) ?_
        refine lv_iconst (v := 2) hx hb dL_tick_320 (by decide) ?_
        refine lr_i (rL (rest := [.int (preG u v g 0 16), .float (f 7)]) ⟨hx, hb, hml, hown, hts⟩ (LB_number l G cA A o (u, v, f, g, L) n K ch 2 ) (cwV 1 hts gL_tick_X8_number rfl rfl rfl mdX8_number ⟨Nat.le_of_ble_eq_true rfl, Nat.le_of_ble_eq_true rfl⟩) hA hL rfl hl rfl (Nat.le_of_ble_eq_true rfl) dL_tick_321 ⟨Nat.le_of_ble_eq_true rfl, Nat.le_of_ble_eq_true rfl⟩) hA hL (fun r_321_3 H locs hr_321_3 hA hL => ?_)
        replace hr_321_3 : r_321_3 = v 2 := hr_321_3
        subst hr_321_3
        refine lv_icmp_le (tgt := 335) hx hb dL_tick_324 (by decide) (fun c_324_3 => ?_) (fun c_324_3 => ?_)
        · skip
          refine lv_aload_n hx hb dL_tick_335 rfl (lv_at hl 15 rfl) ?_
          refine lv_iconst (v := 1) hx hb dL_tick_336 (by decide) ?_
          refine lr_f (rL (rest := [.float (f 7)]) ⟨hx, hb, hml, hown, hts⟩ (LB_speed l G cA A o (u, v, f, g, L) n K ch 1 ) (cwV 1 hts gL_tick_X8_speed rfl rfl rfl mdX8_speed ⟨Nat.le_of_ble_eq_true rfl, Nat.le_of_ble_eq_true rfl⟩) hA hL rfl hl rfl (Nat.le_of_ble_eq_true rfl) dL_tick_337 ⟨Nat.le_of_ble_eq_true rfl, Nat.le_of_ble_eq_true rfl⟩) hA hL (fun r_337_3 H locs hr_337_3 hA hL => ?_)
          replace hr_337_3 : r_337_3 = u 1 := hr_337_3
          subst hr_337_3
          refine lv_fsub hx hb dL_tick_340 (hGo.2.2.1) ?_
          refine W.eq (g2 := F0 m 341 ls [.float (FP.fsub (f 7) (spF u (scF v (preG u v g 0))))]) (by rw [show spF u (scF v (preG u v g 0)) = u 1 from by unfold scF; rw [if_pos c_324_3]; rfl]) ?_
          refine lv_fstore (lv' := [(16, .float (FP.fsub (f 7) (spF u (scF v (preG u v g 0))))), (15, .int 3), (4, .int (preG u v g 0 16)), (14, .int 1), (13, .int (cnF g (nI n) (nI K) ((bestK u g) + 1))), (12, .float ((goF u v f g 0) 7)), (11, .int (bestK u g)), (10, .int (oneF (g 12))), (9, .int (g 11)), (8, .int (g 7)), (7, .int (oneF (g 17))), (6, .int (g 15)), (5, .int 0), (3, .float (f 7)), (2, .int 3), (0, .ref o), (1, .int 0)]) hx hb dL_tick_341 hl (by decide) rfl (fun ls hl => ?_)
          refine lv_fload hx hb dL_tick_343 (lv_at hl 0 rfl) ?_
          refine lv_fconst0 hx hb dL_tick_345 ?_
          refine lv_fcmp hx hb dL_tick_346 ?_
          refine W.eq (g2 := F0 m 347 ls [.int (Op.cmpValue (FP.fcmp (FP.fsub (f 7) (spF u (scF v (preG u v g 0)))) FP.fconst0) CmpOp.l)]) (by rw [cmp_gl hsn n32_0]) ?_
          refine lv_if_gt (tgt := 354) hx hb dL_tick_347 (by decide) (fun c_347_6 => ?_) (fun c_347_6 => ?_)
          · skip
            refine lv_iconst (v := 3) hx hb dL_tick_354 (by decide) ?_
            refine lv_istore (lv' := [(15, .int 3), (16, .float (FP.fsub (f 7) (spF u (scF v (preG u v g 0))))), (4, .int (preG u v g 0 16)), (14, .int 1), (13, .int (cnF g (nI n) (nI K) ((bestK u g) + 1))), (12, .float ((goF u v f g 0) 7)), (11, .int (bestK u g)), (10, .int (oneF (g 12))), (9, .int (g 11)), (8, .int (g 7)), (7, .int (oneF (g 17))), (6, .int (g 15)), (5, .int 0), (3, .float (f 7)), (2, .int 3), (0, .ref o), (1, .int 0)]) hx hb dL_tick_355 hl (by decide) rfl (fun ls hl => ?_)
            refine lv_fload hx hb dL_tick_357 (lv_at hl 1 rfl) ?_
            refine lv_fconst0 hx hb dL_tick_359 ?_
            refine lv_fcmp hx hb dL_tick_360 ?_
            refine W.eq (g2 := F0 m 361 ls [.int (Op.cmpValue (FP.fcmp (FP.fsub (f 7) (spF u (scF v (preG u v g 0)))) FP.fconst0) CmpOp.l)]) (by rw [cmp_gl hsn n32_0]) ?_
            refine lv_if_gt (tgt := 368) hx hb dL_tick_361 (by decide) (fun c_361_12 => ?_) (fun c_361_12 => absurd c_347_6 c_361_12)
            refine lv_fload hx hb dL_tick_368 (lv_at hl 1 rfl) ?_
            refine lv_fstore (lv' := [(16, .float (FP.fsub (f 7) (spF u (scF v (preG u v g 0))))), (15, .int 3), (4, .int (preG u v g 0 16)), (14, .int 1), (13, .int (cnF g (nI n) (nI K) ((bestK u g) + 1))), (12, .float ((goF u v f g 0) 7)), (11, .int (bestK u g)), (10, .int (oneF (g 12))), (9, .int (g 11)), (8, .int (g 7)), (7, .int (oneF (g 17))), (6, .int (g 15)), (5, .int 0), (3, .float (f 7)), (2, .int 3), (0, .ref o), (1, .int 0)]) hx hb dL_tick_370 hl (by decide) rfl (fun ls hl => ?_)
            refine lv_iload hx hb dL_tick_372 (lv_at hl 1 rfl) ?_
            refine lv_if_ne (tgt := 381) hx hb dL_tick_374 (by decide) (fun _ => ?_) (fun h9 => absurd h9 (by decide))
            refine lv_iload hx hb dL_tick_381 (lv_at hl 2 rfl) ?_
            refine lv_istore (lv' := [(4, .int (preG u v g 0 16)), (16, .float (FP.fsub (f 7) (spF u (scF v (preG u v g 0))))), (15, .int 3), (14, .int 1), (13, .int (cnF g (nI n) (nI K) ((bestK u g) + 1))), (12, .float ((goF u v f g 0) 7)), (11, .int (bestK u g)), (10, .int (oneF (g 12))), (9, .int (g 11)), (8, .int (g 7)), (7, .int (oneF (g 17))), (6, .int (g 15)), (5, .int 0), (3, .float (f 7)), (2, .int 3), (0, .ref o), (1, .int 0)]) hx hb dL_tick_383 hl (by decide) rfl (fun ls hl => ?_)
            refine lv_iload_n hx hb dL_tick_385 rfl (lv_at hl 14 rfl) ?_
            refine lv_iconst (v := 3) hx hb dL_tick_386 (by decide) ?_
            refine lv_icmp_ne (tgt := 400) hx hb dL_tick_387 (by decide) (fun h9 => absurd (by decide) h9) (fun _ => ?_)
            refine lv_iload hx hb dL_tick_390 (lv_at hl 2 rfl) ?_
            refine lv_iconst (v := 1) hx hb dL_tick_392 (by decide) ?_
            refine lv_icmp_ne (tgt := 400) hx hb dL_tick_393 (by decide) (fun _ => ?_) (fun h9 => absurd h9 (by decide))
            refine lv_iconst (v := 0) hx hb dL_tick_400 (by decide) ?_
            refine lv_istore (lv' := [(17, .int 0), (4, .int (preG u v g 0 16)), (16, .float (FP.fsub (f 7) (spF u (scF v (preG u v g 0))))), (15, .int 3), (14, .int 1), (13, .int (cnF g (nI n) (nI K) ((bestK u g) + 1))), (12, .float ((goF u v f g 0) 7)), (11, .int (bestK u g)), (10, .int (oneF (g 12))), (9, .int (g 11)), (8, .int (g 7)), (7, .int (oneF (g 17))), (6, .int (g 15)), (5, .int 0), (3, .float (f 7)), (2, .int 3), (0, .ref o), (1, .int 0)]) hx hb dL_tick_401 hl (by decide) rfl (fun ls hl => ?_)
            refine lv_iload hx hb dL_tick_403 (lv_at hl 0 rfl) ?_
            refine lv_if_eq (tgt := 428) hx hb dL_tick_405 (by decide) (fun _ => ?_) (fun h9 => absurd (by decide) h9)
            refine lv_iconst (v := 0) hx hb dL_tick_428 (by decide) ?_
            refine lv_istore (lv' := [(18, .int 0), (17, .int 0), (4, .int (preG u v g 0 16)), (16, .float (FP.fsub (f 7) (spF u (scF v (preG u v g 0))))), (15, .int 3), (14, .int 1), (13, .int (cnF g (nI n) (nI K) ((bestK u g) + 1))), (12, .float ((goF u v f g 0) 7)), (11, .int (bestK u g)), (10, .int (oneF (g 12))), (9, .int (g 11)), (8, .int (g 7)), (7, .int (oneF (g 17))), (6, .int (g 15)), (5, .int 0), (3, .float (f 7)), (2, .int 3), (0, .ref o), (1, .int 0)]) hx hb dL_tick_429 hl (by decide) rfl (fun ls hl => ?_)
            refine lv_aload_n hx hb dL_tick_431 rfl (lv_at hl 17 rfl) ?_
            refine lv_iload_n hx hb dL_tick_432 rfl (lv_at hl 18 rfl) ?_
            refine lv_iconst (v := 1) hx hb dL_tick_433 (by decide) ?_
            refine lw_i (rL (rest := []) ⟨hx, hb, hml, hown, hts⟩ (LB_pass_ok l G cA A o (u, v, f, g, L) n K ch hn 0 1 (by decide) (by decide) (by decide) (by decide) hT hG1 hBo) (cwV 2 hts gL_tick_X8_pass rfl rfl rfl mdX8_pass ⟨Nat.le_of_ble_eq_true rfl, Nat.le_of_ble_eq_true rfl⟩) hA hL rfl hl rfl (Nat.le_of_ble_eq_true rfl) dL_tick_434 ⟨Nat.le_of_ble_eq_true rfl, Nat.le_of_ble_eq_true rfl⟩) hA (fun r_434_12 _ H locs hr_434_12 hA hL => ?_)
            replace hL : LB G cA A o (u, v, (goF u v f g 0), (goG u v f g 0), (goL u v g L 0)) (recN n) K ch H := hL
            replace hr_434_12 : r_434_12 = (goG u v f g 0) 13 := hr_434_12
            subst hr_434_12
            refine lv_iload hx hb dL_tick_437 (lv_at hl 4 rfl) ?_
            refine lv_icmp_ne (tgt := 489) hx hb dL_tick_439 (by decide) (fun c_439_12 => absurd (ht.1.trans (if_neg (Int32.not_le.mpr c_347_6))) c_439_12) (fun c_439_12 => ?_)
            refine lv_aload_n hx hb dL_tick_442 rfl (lv_at hl 17 rfl) ?_
            refine lr_f (rL (rest := []) ⟨hx, hb, hml, hown, hts⟩ (LB_place l G cA A o (u, v, (goF u v f g 0), (goG u v f g 0), (goL u v g L 0)) (recN n) K ch  ) (cwV 0 hts gL_tick_X8_place rfl rfl rfl mdX8_place ⟨Nat.le_of_ble_eq_true rfl, Nat.le_of_ble_eq_true rfl⟩) hA hL rfl hl rfl (Nat.le_of_ble_eq_true rfl) dL_tick_443 ⟨Nat.le_of_ble_eq_true rfl, Nat.le_of_ble_eq_true rfl⟩) hA hL (fun r_443_12 H locs hr_443_12 hA hL => ?_)
            replace hr_443_12 : r_443_12 = (goF u v f g 0) 7 := hr_443_12
            subst hr_443_12
            refine lv_fload hx hb dL_tick_446 (lv_at hl 3 rfl) ?_
            refine lv_fcmp hx hb dL_tick_448 ?_
            refine lv_if_ne (tgt := 489) hx hb dL_tick_449 (by decide) (fun c_449_12 => absurd (by rw [(ht.2.2.2.trans (if_neg (Int32.not_le.mpr c_347_6)))]; exact cmp_self (of_vf hsn) _) c_449_12) (fun c_449_12 => ?_)
            refine lv_fload hx hb dL_tick_452 (lv_at hl 7 rfl) ?_
            refine lv_fload hx hb dL_tick_454 (lv_at hl 3 rfl) ?_
            refine lv_fcmp hx hb dL_tick_456 ?_
            refine lv_if_ne (tgt := 489) hx hb dL_tick_457 (by decide) (fun c_457_12 => absurd (by rw [(ht.2.2.2.trans (if_neg (Int32.not_le.mpr c_347_6)))]; exact cmp_self (of_vf hsn) _) c_457_12) (fun c_457_12 => ?_)
            refine lv_aload_n hx hb dL_tick_460 rfl (lv_at hl 17 rfl) ?_
            refine lv_iconst (v := 1) hx hb dL_tick_461 (by decide) ?_
            refine lr_i (rL (rest := []) ⟨hx, hb, hml, hown, hts⟩ (LB_door l G cA A o (u, v, (goF u v f g 0), (goG u v f g 0), (goL u v g L 0)) (recN n) K ch 1 ) (cwV 1 hts gL_tick_X8_door rfl rfl rfl mdX8_door ⟨Nat.le_of_ble_eq_true rfl, Nat.le_of_ble_eq_true rfl⟩) hA hL rfl hl rfl (Nat.le_of_ble_eq_true rfl) dL_tick_462 ⟨Nat.le_of_ble_eq_true rfl, Nat.le_of_ble_eq_true rfl⟩) hA hL (fun r_462_12 H locs hr_462_12 hA hL => ?_)
            replace hr_462_12 : r_462_12 = (goG u v f g 0) 16 := hr_462_12
            subst hr_462_12
            refine lv_iload hx hb dL_tick_465 (lv_at hl 2 rfl) ?_
            refine lv_icmp_ne (tgt := 489) hx hb dL_tick_467 (by decide) (fun c_467_12 => absurd (ht.2.1.trans (if_neg (Int32.not_le.mpr c_347_6))) c_467_12) (fun c_467_12 => ?_)
            refine lv_aload_n hx hb dL_tick_470 rfl (lv_at hl 17 rfl) ?_
            refine lv_iconst (v := 2) hx hb dL_tick_471 (by decide) ?_
            refine lr_i (rL (rest := []) ⟨hx, hb, hml, hown, hts⟩ (LB_door l G cA A o (u, v, (goF u v f g 0), (goG u v f g 0), (goL u v g L 0)) (recN n) K ch 2 ) (cwV 1 hts gL_tick_X8_door rfl rfl rfl mdX8_door ⟨Nat.le_of_ble_eq_true rfl, Nat.le_of_ble_eq_true rfl⟩) hA hL rfl hl rfl (Nat.le_of_ble_eq_true rfl) dL_tick_472 ⟨Nat.le_of_ble_eq_true rfl, Nat.le_of_ble_eq_true rfl⟩) hA hL (fun r_472_12 H locs hr_472_12 hA hL => ?_)
            replace hr_472_12 : r_472_12 = oneF ((goG u v f g 0) 17) := hr_472_12
            subst hr_472_12
            refine lv_iload hx hb dL_tick_475 (lv_at hl 0 rfl) ?_
            refine lv_if_eq (tgt := 484) hx hb dL_tick_477 (by decide) (fun _ => ?_) (fun h9 => absurd (by decide) h9)
            refine lv_iload hx hb dL_tick_484 (lv_at hl 12 rfl) ?_
            refine lv_icmp_eq (tgt := 491) hx hb dL_tick_486 (by decide) (fun c_486_12 => ?_) (fun c_486_12 => absurd (by rw [ht.2.2.1] <;> rfl) c_486_12)
            refine lv_iload hx hb dL_tick_491 (lv_at hl 5 rfl) ?_
            refine lv_if_eq (tgt := 554) hx hb dL_tick_493 (by decide) (fun h9 => absurd h9 (by decide)) (fun _ => ?_)
            refine lv_aload_n hx hb dL_tick_496 rfl (lv_at hl 17 rfl) ?_
            refine lv_iconst (v := 0) hx hb dL_tick_497 (by decide) ?_
            refine lr_i (rL (rest := []) ⟨hx, hb, hml, hown, hts⟩ (LB_thing l G cA A o (u, v, (goF u v f g 0), (goG u v f g 0), (goL u v g L 0)) (recN n) K ch 0 hP2) (cwV 1 hts gL_tick_X8_thing rfl rfl rfl mdX8_thing ⟨Nat.le_of_ble_eq_true rfl, Nat.le_of_ble_eq_true rfl⟩) hA hL rfl hl rfl (Nat.le_of_ble_eq_true rfl) dL_tick_498 ⟨Nat.le_of_ble_eq_true rfl, Nat.le_of_ble_eq_true rfl⟩) hA hL (fun r_498_12 H locs hr_498_12 hA hL => ?_)
            replace hr_498_12 : r_498_12 = -5 := hr_498_12.trans (th_none 0 (by decide) (by decide) h5)
            subst hr_498_12
            refine lv_bipush (v := (-5)) hx hb dL_tick_501 (by decide) ?_
            refine lv_icmp_ne (tgt := 552) hx hb dL_tick_503 (by decide) (fun h9 => absurd (by decide) h9) (fun _ => ?_)
            refine lv_aload_n hx hb dL_tick_506 rfl (lv_at hl 17 rfl) ?_
            refine lv_iconst (v := 0) hx hb dL_tick_507 (by decide) ?_
            refine lv_iconst (v := 0) hx hb dL_tick_508 (by decide) ?_
            refine lr_i (rL (rest := []) ⟨hx, hb, hml, hown, hts⟩ (LB_judged l G cA A o (u, v, (goF u v f g 0), (goG u v f g 0), (goL u v g L 0)) (recN n) K ch 0 0 ) (cwV 2 hts gL_tick_X8_judged rfl rfl rfl mdX8_judged ⟨Nat.le_of_ble_eq_true rfl, Nat.le_of_ble_eq_true rfl⟩) hA hL rfl hl rfl (Nat.le_of_ble_eq_true rfl) dL_tick_509 ⟨Nat.le_of_ble_eq_true rfl, Nat.le_of_ble_eq_true rfl⟩) hA hL (fun r_509_12 H locs hr_509_12 hA hL => ?_)
            replace hr_509_12 : r_509_12 = bestK u g := hr_509_12.trans hju.1
            subst hr_509_12
            refine lv_iload hx hb dL_tick_512 (lv_at hl 8 rfl) ?_
            refine lv_icmp_ne (tgt := 552) hx hb dL_tick_514 (by decide) (fun c_514_12 => absurd rfl c_514_12) (fun c_514_12 => ?_)
            refine lv_aload_n hx hb dL_tick_517 rfl (lv_at hl 17 rfl) ?_
            refine lv_iload hx hb dL_tick_518 (lv_at hl 8 rfl) ?_
            refine lv_iconst (v := 1) hx hb dL_tick_520 (by decide) ?_
            refine lv_iadd hx hb dL_tick_521 ?_
            refine lr_i (rL (rest := []) ⟨hx, hb, hml, hown, hts⟩ (LB_count l G cA A o (u, v, (goF u v f g 0), (goG u v f g 0), (goL u v g L 0)) (recN n) K ch ((bestK u g) + 1)) (cwV 1 hts gL_tick_X8_count rfl rfl rfl mdX8_count ⟨Nat.le_of_ble_eq_true rfl, Nat.le_of_ble_eq_true rfl⟩) hA hL rfl hl rfl (Nat.le_of_ble_eq_true rfl) dL_tick_522 ⟨Nat.le_of_ble_eq_true rfl, Nat.le_of_ble_eq_true rfl⟩) hA hL (fun r_522_12 H locs hr_522_12 hA hL => ?_)
            replace hr_522_12 : r_522_12 = cnF (goG u v f g 0) (nI (recN n)) (nI K) ((bestK u g) + 1) := hr_522_12
            subst hr_522_12
            refine lv_iload hx hb dL_tick_525 (lv_at hl 6 rfl) ?_
            refine lv_iconst (v := 1) hx hb dL_tick_527 (by decide) ?_
            refine lv_iadd hx hb dL_tick_528 ?_
            refine lv_icmp_ne (tgt := 552) hx hb dL_tick_529 (by decide) (fun c_529_12 => absurd hcn c_529_12) (fun c_529_12 => ?_)
            refine lv_aload_n hx hb dL_tick_532 rfl (lv_at hl 17 rfl) ?_
            refine lv_iconst (v := 0) hx hb dL_tick_533 (by decide) ?_
            refine lv_iconst (v := 4) hx hb dL_tick_534 (by decide) ?_
            refine lr_i (rL (rest := []) ⟨hx, hb, hml, hown, hts⟩ (LB_judged l G cA A o (u, v, (goF u v f g 0), (goG u v f g 0), (goL u v g L 0)) (recN n) K ch 0 4 ) (cwV 2 hts gL_tick_X8_judged rfl rfl rfl mdX8_judged ⟨Nat.le_of_ble_eq_true rfl, Nat.le_of_ble_eq_true rfl⟩) hA hL rfl hl rfl (Nat.le_of_ble_eq_true rfl) dL_tick_535 ⟨Nat.le_of_ble_eq_true rfl, Nat.le_of_ble_eq_true rfl⟩) hA hL (fun r_535_12 H locs hr_535_12 hA hL => ?_)
            replace hr_535_12 : r_535_12 = (goG u v f g 0) 27 - 1 := hr_535_12.trans hju.2
            subst hr_535_12
            refine lv_aload_n hx hb dL_tick_538 rfl (lv_at hl 17 rfl) ?_
            refine lv_iconst (v := 0) hx hb dL_tick_539 (by decide) ?_
            refine lr_i (rL (rest := [.int ((goG u v f g 0) 27 - 1)]) ⟨hx, hb, hml, hown, hts⟩ (LB_count l G cA A o (u, v, (goF u v f g 0), (goG u v f g 0), (goL u v g L 0)) (recN n) K ch 0) (cwV 1 hts gL_tick_X8_count rfl rfl rfl mdX8_count ⟨Nat.le_of_ble_eq_true rfl, Nat.le_of_ble_eq_true rfl⟩) hA hL rfl hl rfl (Nat.le_of_ble_eq_true rfl) dL_tick_540 ⟨Nat.le_of_ble_eq_true rfl, Nat.le_of_ble_eq_true rfl⟩) hA hL (fun r_540_12 H locs hr_540_12 hA hL => ?_)
            replace hr_540_12 : r_540_12 = (goG u v f g 0) 27 := hr_540_12
            subst hr_540_12
            refine lv_iconst (v := 1) hx hb dL_tick_543 (by decide) ?_
            refine lv_isub hx hb dL_tick_544 ?_
            refine lv_icmp_ne (tgt := 552) hx hb dL_tick_545 (by decide) (fun c_545_12 => absurd rfl c_545_12) (fun c_545_12 => ?_)
            refine lv_iconst (v := 1) hx hb dL_tick_548 (by decide) ?_
            refine lv_goto (tgt := 553) hx hb dL_tick_549 (by decide) ?_
            exact en_l (post := fun r (_ : Unit) => r = 1) (B := fun _ H => LB G cA A o (u, v, (goF u v f g 0), (goG u v f g 0), (goL u v g L 0)) (recN n) K ch H) () hx hb hr hlocks hA rfl hL dL_tick_553
          · skip
            refine lv_iconst (v := 0) hx hb dL_tick_350 (by decide) ?_
            refine lv_goto (tgt := 355) hx hb dL_tick_351 (by decide) ?_
            refine lv_istore (lv' := [(15, .int 0), (16, .float (FP.fsub (f 7) (spF u (scF v (preG u v g 0))))), (4, .int (preG u v g 0 16)), (14, .int 1), (13, .int (cnF g (nI n) (nI K) ((bestK u g) + 1))), (12, .float ((goF u v f g 0) 7)), (11, .int (bestK u g)), (10, .int (oneF (g 12))), (9, .int (g 11)), (8, .int (g 7)), (7, .int (oneF (g 17))), (6, .int (g 15)), (5, .int 0), (3, .float (f 7)), (2, .int 3), (0, .ref o), (1, .int 0)]) hx hb dL_tick_355 hl (by decide) rfl (fun ls hl => ?_)
            refine lv_fload hx hb dL_tick_357 (lv_at hl 1 rfl) ?_
            refine lv_fconst0 hx hb dL_tick_359 ?_
            refine lv_fcmp hx hb dL_tick_360 ?_
            refine W.eq (g2 := F0 m 361 ls [.int (Op.cmpValue (FP.fcmp (FP.fsub (f 7) (spF u (scF v (preG u v g 0)))) FP.fconst0) CmpOp.l)]) (by rw [cmp_gl hsn n32_0]) ?_
            refine lv_if_gt (tgt := 368) hx hb dL_tick_361 (by decide) (fun c_361_13 => absurd c_361_13 c_347_6) (fun c_361_13 => ?_)
            refine lv_fconst0 hx hb dL_tick_364 ?_
            refine lv_goto (tgt := 370) hx hb dL_tick_365 (by decide) ?_
            refine lv_fstore (lv' := [(16, .float FP.fconst0), (15, .int 0), (4, .int (preG u v g 0 16)), (14, .int 1), (13, .int (cnF g (nI n) (nI K) ((bestK u g) + 1))), (12, .float ((goF u v f g 0) 7)), (11, .int (bestK u g)), (10, .int (oneF (g 12))), (9, .int (g 11)), (8, .int (g 7)), (7, .int (oneF (g 17))), (6, .int (g 15)), (5, .int 0), (3, .float (f 7)), (2, .int 3), (0, .ref o), (1, .int 0)]) hx hb dL_tick_370 hl (by decide) rfl (fun ls hl => ?_)
            refine lv_iload hx hb dL_tick_372 (lv_at hl 1 rfl) ?_
            refine lv_if_ne (tgt := 381) hx hb dL_tick_374 (by decide) (fun h9 => absurd (by decide) h9) (fun _ => ?_)
            refine lv_iconst (v := 0) hx hb dL_tick_377 (by decide) ?_
            refine lv_goto (tgt := 383) hx hb dL_tick_378 (by decide) ?_
            refine lv_istore (lv' := [(4, .int 0), (16, .float FP.fconst0), (15, .int 0), (14, .int 1), (13, .int (cnF g (nI n) (nI K) ((bestK u g) + 1))), (12, .float ((goF u v f g 0) 7)), (11, .int (bestK u g)), (10, .int (oneF (g 12))), (9, .int (g 11)), (8, .int (g 7)), (7, .int (oneF (g 17))), (6, .int (g 15)), (5, .int 0), (3, .float (f 7)), (2, .int 3), (0, .ref o), (1, .int 0)]) hx hb dL_tick_383 hl (by decide) rfl (fun ls hl => ?_)
            refine lv_iload_n hx hb dL_tick_385 rfl (lv_at hl 14 rfl) ?_
            refine lv_iconst (v := 3) hx hb dL_tick_386 (by decide) ?_
            refine lv_icmp_ne (tgt := 400) hx hb dL_tick_387 (by decide) (fun h9 => absurd (by decide) h9) (fun _ => ?_)
            refine lv_iload hx hb dL_tick_390 (lv_at hl 2 rfl) ?_
            refine lv_iconst (v := 1) hx hb dL_tick_392 (by decide) ?_
            refine lv_icmp_ne (tgt := 400) hx hb dL_tick_393 (by decide) (fun _ => ?_) (fun h9 => absurd h9 (by decide))
            refine lv_iconst (v := 0) hx hb dL_tick_400 (by decide) ?_
            refine lv_istore (lv' := [(17, .int 0), (4, .int 0), (16, .float FP.fconst0), (15, .int 0), (14, .int 1), (13, .int (cnF g (nI n) (nI K) ((bestK u g) + 1))), (12, .float ((goF u v f g 0) 7)), (11, .int (bestK u g)), (10, .int (oneF (g 12))), (9, .int (g 11)), (8, .int (g 7)), (7, .int (oneF (g 17))), (6, .int (g 15)), (5, .int 0), (3, .float (f 7)), (2, .int 3), (0, .ref o), (1, .int 0)]) hx hb dL_tick_401 hl (by decide) rfl (fun ls hl => ?_)
            refine lv_iload hx hb dL_tick_403 (lv_at hl 0 rfl) ?_
            refine lv_if_eq (tgt := 428) hx hb dL_tick_405 (by decide) (fun _ => ?_) (fun h9 => absurd (by decide) h9)
            refine lv_iconst (v := 0) hx hb dL_tick_428 (by decide) ?_
            refine lv_istore (lv' := [(18, .int 0), (17, .int 0), (4, .int 0), (16, .float FP.fconst0), (15, .int 0), (14, .int 1), (13, .int (cnF g (nI n) (nI K) ((bestK u g) + 1))), (12, .float ((goF u v f g 0) 7)), (11, .int (bestK u g)), (10, .int (oneF (g 12))), (9, .int (g 11)), (8, .int (g 7)), (7, .int (oneF (g 17))), (6, .int (g 15)), (5, .int 0), (3, .float (f 7)), (2, .int 3), (0, .ref o), (1, .int 0)]) hx hb dL_tick_429 hl (by decide) rfl (fun ls hl => ?_)
            refine lv_aload_n hx hb dL_tick_431 rfl (lv_at hl 17 rfl) ?_
            refine lv_iload_n hx hb dL_tick_432 rfl (lv_at hl 18 rfl) ?_
            refine lv_iconst (v := 1) hx hb dL_tick_433 (by decide) ?_
            refine lw_i (rL (rest := []) ⟨hx, hb, hml, hown, hts⟩ (LB_pass_ok l G cA A o (u, v, f, g, L) n K ch hn 0 1 (by decide) (by decide) (by decide) (by decide) hT hG1 hBo) (cwV 2 hts gL_tick_X8_pass rfl rfl rfl mdX8_pass ⟨Nat.le_of_ble_eq_true rfl, Nat.le_of_ble_eq_true rfl⟩) hA hL rfl hl rfl (Nat.le_of_ble_eq_true rfl) dL_tick_434 ⟨Nat.le_of_ble_eq_true rfl, Nat.le_of_ble_eq_true rfl⟩) hA (fun r_434_13 _ H locs hr_434_13 hA hL => ?_)
            replace hL : LB G cA A o (u, v, (goF u v f g 0), (goG u v f g 0), (goL u v g L 0)) (recN n) K ch H := hL
            replace hr_434_13 : r_434_13 = (goG u v f g 0) 13 := hr_434_13
            subst hr_434_13
            refine lv_iload hx hb dL_tick_437 (lv_at hl 4 rfl) ?_
            refine lv_icmp_ne (tgt := 489) hx hb dL_tick_439 (by decide) (fun c_439_13 => absurd (ht.1.trans (if_pos (Int32.not_lt.mp c_347_6))) c_439_13) (fun c_439_13 => ?_)
            refine lv_aload_n hx hb dL_tick_442 rfl (lv_at hl 17 rfl) ?_
            refine lr_f (rL (rest := []) ⟨hx, hb, hml, hown, hts⟩ (LB_place l G cA A o (u, v, (goF u v f g 0), (goG u v f g 0), (goL u v g L 0)) (recN n) K ch  ) (cwV 0 hts gL_tick_X8_place rfl rfl rfl mdX8_place ⟨Nat.le_of_ble_eq_true rfl, Nat.le_of_ble_eq_true rfl⟩) hA hL rfl hl rfl (Nat.le_of_ble_eq_true rfl) dL_tick_443 ⟨Nat.le_of_ble_eq_true rfl, Nat.le_of_ble_eq_true rfl⟩) hA hL (fun r_443_13 H locs hr_443_13 hA hL => ?_)
            replace hr_443_13 : r_443_13 = (goF u v f g 0) 7 := hr_443_13
            subst hr_443_13
            refine lv_fload hx hb dL_tick_446 (lv_at hl 3 rfl) ?_
            refine lv_fcmp hx hb dL_tick_448 ?_
            refine lv_if_ne (tgt := 489) hx hb dL_tick_449 (by decide) (fun c_449_13 => absurd (by rw [(ht.2.2.2.trans (if_pos (Int32.not_lt.mp c_347_6)))]; exact cmp_self (of_vf n32_0) _) c_449_13) (fun c_449_13 => ?_)
            refine lv_fload hx hb dL_tick_452 (lv_at hl 7 rfl) ?_
            refine lv_fload hx hb dL_tick_454 (lv_at hl 3 rfl) ?_
            refine lv_fcmp hx hb dL_tick_456 ?_
            refine lv_if_ne (tgt := 489) hx hb dL_tick_457 (by decide) (fun c_457_13 => absurd (by rw [(ht.2.2.2.trans (if_pos (Int32.not_lt.mp c_347_6)))]; exact cmp_self (of_vf n32_0) _) c_457_13) (fun c_457_13 => ?_)
            refine lv_aload_n hx hb dL_tick_460 rfl (lv_at hl 17 rfl) ?_
            refine lv_iconst (v := 1) hx hb dL_tick_461 (by decide) ?_
            refine lr_i (rL (rest := []) ⟨hx, hb, hml, hown, hts⟩ (LB_door l G cA A o (u, v, (goF u v f g 0), (goG u v f g 0), (goL u v g L 0)) (recN n) K ch 1 ) (cwV 1 hts gL_tick_X8_door rfl rfl rfl mdX8_door ⟨Nat.le_of_ble_eq_true rfl, Nat.le_of_ble_eq_true rfl⟩) hA hL rfl hl rfl (Nat.le_of_ble_eq_true rfl) dL_tick_462 ⟨Nat.le_of_ble_eq_true rfl, Nat.le_of_ble_eq_true rfl⟩) hA hL (fun r_462_13 H locs hr_462_13 hA hL => ?_)
            replace hr_462_13 : r_462_13 = (goG u v f g 0) 16 := hr_462_13
            subst hr_462_13
            refine lv_iload hx hb dL_tick_465 (lv_at hl 2 rfl) ?_
            refine lv_icmp_ne (tgt := 489) hx hb dL_tick_467 (by decide) (fun c_467_13 => absurd (ht.2.1.trans (if_pos (Int32.not_lt.mp c_347_6))) c_467_13) (fun c_467_13 => ?_)
            refine lv_aload_n hx hb dL_tick_470 rfl (lv_at hl 17 rfl) ?_
            refine lv_iconst (v := 2) hx hb dL_tick_471 (by decide) ?_
            refine lr_i (rL (rest := []) ⟨hx, hb, hml, hown, hts⟩ (LB_door l G cA A o (u, v, (goF u v f g 0), (goG u v f g 0), (goL u v g L 0)) (recN n) K ch 2 ) (cwV 1 hts gL_tick_X8_door rfl rfl rfl mdX8_door ⟨Nat.le_of_ble_eq_true rfl, Nat.le_of_ble_eq_true rfl⟩) hA hL rfl hl rfl (Nat.le_of_ble_eq_true rfl) dL_tick_472 ⟨Nat.le_of_ble_eq_true rfl, Nat.le_of_ble_eq_true rfl⟩) hA hL (fun r_472_13 H locs hr_472_13 hA hL => ?_)
            replace hr_472_13 : r_472_13 = oneF ((goG u v f g 0) 17) := hr_472_13
            subst hr_472_13
            refine lv_iload hx hb dL_tick_475 (lv_at hl 0 rfl) ?_
            refine lv_if_eq (tgt := 484) hx hb dL_tick_477 (by decide) (fun _ => ?_) (fun h9 => absurd (by decide) h9)
            refine lv_iload hx hb dL_tick_484 (lv_at hl 12 rfl) ?_
            refine lv_icmp_eq (tgt := 491) hx hb dL_tick_486 (by decide) (fun c_486_13 => ?_) (fun c_486_13 => absurd (by rw [ht.2.2.1] <;> rfl) c_486_13)
            refine lv_iload hx hb dL_tick_491 (lv_at hl 5 rfl) ?_
            refine lv_if_eq (tgt := 554) hx hb dL_tick_493 (by decide) (fun h9 => absurd h9 (by decide)) (fun _ => ?_)
            refine lv_aload_n hx hb dL_tick_496 rfl (lv_at hl 17 rfl) ?_
            refine lv_iconst (v := 0) hx hb dL_tick_497 (by decide) ?_
            refine lr_i (rL (rest := []) ⟨hx, hb, hml, hown, hts⟩ (LB_thing l G cA A o (u, v, (goF u v f g 0), (goG u v f g 0), (goL u v g L 0)) (recN n) K ch 0 hP2) (cwV 1 hts gL_tick_X8_thing rfl rfl rfl mdX8_thing ⟨Nat.le_of_ble_eq_true rfl, Nat.le_of_ble_eq_true rfl⟩) hA hL rfl hl rfl (Nat.le_of_ble_eq_true rfl) dL_tick_498 ⟨Nat.le_of_ble_eq_true rfl, Nat.le_of_ble_eq_true rfl⟩) hA hL (fun r_498_13 H locs hr_498_13 hA hL => ?_)
            replace hr_498_13 : r_498_13 = -5 := hr_498_13.trans (th_none 0 (by decide) (by decide) h5)
            subst hr_498_13
            refine lv_bipush (v := (-5)) hx hb dL_tick_501 (by decide) ?_
            refine lv_icmp_ne (tgt := 552) hx hb dL_tick_503 (by decide) (fun h9 => absurd (by decide) h9) (fun _ => ?_)
            refine lv_aload_n hx hb dL_tick_506 rfl (lv_at hl 17 rfl) ?_
            refine lv_iconst (v := 0) hx hb dL_tick_507 (by decide) ?_
            refine lv_iconst (v := 0) hx hb dL_tick_508 (by decide) ?_
            refine lr_i (rL (rest := []) ⟨hx, hb, hml, hown, hts⟩ (LB_judged l G cA A o (u, v, (goF u v f g 0), (goG u v f g 0), (goL u v g L 0)) (recN n) K ch 0 0 ) (cwV 2 hts gL_tick_X8_judged rfl rfl rfl mdX8_judged ⟨Nat.le_of_ble_eq_true rfl, Nat.le_of_ble_eq_true rfl⟩) hA hL rfl hl rfl (Nat.le_of_ble_eq_true rfl) dL_tick_509 ⟨Nat.le_of_ble_eq_true rfl, Nat.le_of_ble_eq_true rfl⟩) hA hL (fun r_509_13 H locs hr_509_13 hA hL => ?_)
            replace hr_509_13 : r_509_13 = bestK u g := hr_509_13.trans hju.1
            subst hr_509_13
            refine lv_iload hx hb dL_tick_512 (lv_at hl 8 rfl) ?_
            refine lv_icmp_ne (tgt := 552) hx hb dL_tick_514 (by decide) (fun c_514_13 => absurd rfl c_514_13) (fun c_514_13 => ?_)
            refine lv_aload_n hx hb dL_tick_517 rfl (lv_at hl 17 rfl) ?_
            refine lv_iload hx hb dL_tick_518 (lv_at hl 8 rfl) ?_
            refine lv_iconst (v := 1) hx hb dL_tick_520 (by decide) ?_
            refine lv_iadd hx hb dL_tick_521 ?_
            refine lr_i (rL (rest := []) ⟨hx, hb, hml, hown, hts⟩ (LB_count l G cA A o (u, v, (goF u v f g 0), (goG u v f g 0), (goL u v g L 0)) (recN n) K ch ((bestK u g) + 1)) (cwV 1 hts gL_tick_X8_count rfl rfl rfl mdX8_count ⟨Nat.le_of_ble_eq_true rfl, Nat.le_of_ble_eq_true rfl⟩) hA hL rfl hl rfl (Nat.le_of_ble_eq_true rfl) dL_tick_522 ⟨Nat.le_of_ble_eq_true rfl, Nat.le_of_ble_eq_true rfl⟩) hA hL (fun r_522_13 H locs hr_522_13 hA hL => ?_)
            replace hr_522_13 : r_522_13 = cnF (goG u v f g 0) (nI (recN n)) (nI K) ((bestK u g) + 1) := hr_522_13
            subst hr_522_13
            refine lv_iload hx hb dL_tick_525 (lv_at hl 6 rfl) ?_
            refine lv_iconst (v := 1) hx hb dL_tick_527 (by decide) ?_
            refine lv_iadd hx hb dL_tick_528 ?_
            refine lv_icmp_ne (tgt := 552) hx hb dL_tick_529 (by decide) (fun c_529_13 => absurd hcn c_529_13) (fun c_529_13 => ?_)
            refine lv_aload_n hx hb dL_tick_532 rfl (lv_at hl 17 rfl) ?_
            refine lv_iconst (v := 0) hx hb dL_tick_533 (by decide) ?_
            refine lv_iconst (v := 4) hx hb dL_tick_534 (by decide) ?_
            refine lr_i (rL (rest := []) ⟨hx, hb, hml, hown, hts⟩ (LB_judged l G cA A o (u, v, (goF u v f g 0), (goG u v f g 0), (goL u v g L 0)) (recN n) K ch 0 4 ) (cwV 2 hts gL_tick_X8_judged rfl rfl rfl mdX8_judged ⟨Nat.le_of_ble_eq_true rfl, Nat.le_of_ble_eq_true rfl⟩) hA hL rfl hl rfl (Nat.le_of_ble_eq_true rfl) dL_tick_535 ⟨Nat.le_of_ble_eq_true rfl, Nat.le_of_ble_eq_true rfl⟩) hA hL (fun r_535_13 H locs hr_535_13 hA hL => ?_)
            replace hr_535_13 : r_535_13 = (goG u v f g 0) 27 - 1 := hr_535_13.trans hju.2
            subst hr_535_13
            refine lv_aload_n hx hb dL_tick_538 rfl (lv_at hl 17 rfl) ?_
            refine lv_iconst (v := 0) hx hb dL_tick_539 (by decide) ?_
            refine lr_i (rL (rest := [.int ((goG u v f g 0) 27 - 1)]) ⟨hx, hb, hml, hown, hts⟩ (LB_count l G cA A o (u, v, (goF u v f g 0), (goG u v f g 0), (goL u v g L 0)) (recN n) K ch 0) (cwV 1 hts gL_tick_X8_count rfl rfl rfl mdX8_count ⟨Nat.le_of_ble_eq_true rfl, Nat.le_of_ble_eq_true rfl⟩) hA hL rfl hl rfl (Nat.le_of_ble_eq_true rfl) dL_tick_540 ⟨Nat.le_of_ble_eq_true rfl, Nat.le_of_ble_eq_true rfl⟩) hA hL (fun r_540_13 H locs hr_540_13 hA hL => ?_)
            replace hr_540_13 : r_540_13 = (goG u v f g 0) 27 := hr_540_13
            subst hr_540_13
            refine lv_iconst (v := 1) hx hb dL_tick_543 (by decide) ?_
            refine lv_isub hx hb dL_tick_544 ?_
            refine lv_icmp_ne (tgt := 552) hx hb dL_tick_545 (by decide) (fun c_545_13 => absurd rfl c_545_13) (fun c_545_13 => ?_)
            refine lv_iconst (v := 1) hx hb dL_tick_548 (by decide) ?_
            refine lv_goto (tgt := 553) hx hb dL_tick_549 (by decide) ?_
            exact en_l (post := fun r (_ : Unit) => r = 1) (B := fun _ H => LB G cA A o (u, v, (goF u v f g 0), (goG u v f g 0), (goL u v g L 0)) (recN n) K ch H) () hx hb hr hlocks hA rfl hL dL_tick_553
        · skip
          refine lv_aload_n hx hb dL_tick_327 rfl (lv_at hl 15 rfl) ?_
          refine lv_iconst (v := 2) hx hb dL_tick_328 (by decide) ?_
          refine lr_f (rL (rest := [.float (f 7)]) ⟨hx, hb, hml, hown, hts⟩ (LB_speed l G cA A o (u, v, f, g, L) n K ch 2 ) (cwV 1 hts gL_tick_X8_speed rfl rfl rfl mdX8_speed ⟨Nat.le_of_ble_eq_true rfl, Nat.le_of_ble_eq_true rfl⟩) hA hL rfl hl rfl (Nat.le_of_ble_eq_true rfl) dL_tick_329 ⟨Nat.le_of_ble_eq_true rfl, Nat.le_of_ble_eq_true rfl⟩) hA hL (fun r_329_3 H locs hr_329_3 hA hL => ?_)
          replace hr_329_3 : r_329_3 = u 2 := hr_329_3
          subst hr_329_3
          refine lv_goto (tgt := 340) hx hb dL_tick_332 (by decide) ?_
          refine lv_fsub hx hb dL_tick_340 (hGo.2.2.2) ?_
          refine W.eq (g2 := F0 m 341 ls [.float (FP.fsub (f 7) (spF u (scF v (preG u v g 0))))]) (by rw [show spF u (scF v (preG u v g 0)) = u 2 from by unfold scF; rw [if_neg c_324_3]; rfl]) ?_
          refine lv_fstore (lv' := [(16, .float (FP.fsub (f 7) (spF u (scF v (preG u v g 0))))), (15, .int 3), (4, .int (preG u v g 0 16)), (14, .int 1), (13, .int (cnF g (nI n) (nI K) ((bestK u g) + 1))), (12, .float ((goF u v f g 0) 7)), (11, .int (bestK u g)), (10, .int (oneF (g 12))), (9, .int (g 11)), (8, .int (g 7)), (7, .int (oneF (g 17))), (6, .int (g 15)), (5, .int 0), (3, .float (f 7)), (2, .int 3), (0, .ref o), (1, .int 0)]) hx hb dL_tick_341 hl (by decide) rfl (fun ls hl => ?_)
          refine lv_fload hx hb dL_tick_343 (lv_at hl 0 rfl) ?_
          refine lv_fconst0 hx hb dL_tick_345 ?_
          refine lv_fcmp hx hb dL_tick_346 ?_
          refine W.eq (g2 := F0 m 347 ls [.int (Op.cmpValue (FP.fcmp (FP.fsub (f 7) (spF u (scF v (preG u v g 0)))) FP.fconst0) CmpOp.l)]) (by rw [cmp_gl hsn n32_0]) ?_
          refine lv_if_gt (tgt := 354) hx hb dL_tick_347 (by decide) (fun c_347_7 => ?_) (fun c_347_7 => ?_)
          · skip
            refine lv_iconst (v := 3) hx hb dL_tick_354 (by decide) ?_
            refine lv_istore (lv' := [(15, .int 3), (16, .float (FP.fsub (f 7) (spF u (scF v (preG u v g 0))))), (4, .int (preG u v g 0 16)), (14, .int 1), (13, .int (cnF g (nI n) (nI K) ((bestK u g) + 1))), (12, .float ((goF u v f g 0) 7)), (11, .int (bestK u g)), (10, .int (oneF (g 12))), (9, .int (g 11)), (8, .int (g 7)), (7, .int (oneF (g 17))), (6, .int (g 15)), (5, .int 0), (3, .float (f 7)), (2, .int 3), (0, .ref o), (1, .int 0)]) hx hb dL_tick_355 hl (by decide) rfl (fun ls hl => ?_)
            refine lv_fload hx hb dL_tick_357 (lv_at hl 1 rfl) ?_
            refine lv_fconst0 hx hb dL_tick_359 ?_
            refine lv_fcmp hx hb dL_tick_360 ?_
            refine W.eq (g2 := F0 m 361 ls [.int (Op.cmpValue (FP.fcmp (FP.fsub (f 7) (spF u (scF v (preG u v g 0)))) FP.fconst0) CmpOp.l)]) (by rw [cmp_gl hsn n32_0]) ?_
            refine lv_if_gt (tgt := 368) hx hb dL_tick_361 (by decide) (fun c_361_14 => ?_) (fun c_361_14 => absurd c_347_7 c_361_14)
            refine lv_fload hx hb dL_tick_368 (lv_at hl 1 rfl) ?_
            refine lv_fstore (lv' := [(16, .float (FP.fsub (f 7) (spF u (scF v (preG u v g 0))))), (15, .int 3), (4, .int (preG u v g 0 16)), (14, .int 1), (13, .int (cnF g (nI n) (nI K) ((bestK u g) + 1))), (12, .float ((goF u v f g 0) 7)), (11, .int (bestK u g)), (10, .int (oneF (g 12))), (9, .int (g 11)), (8, .int (g 7)), (7, .int (oneF (g 17))), (6, .int (g 15)), (5, .int 0), (3, .float (f 7)), (2, .int 3), (0, .ref o), (1, .int 0)]) hx hb dL_tick_370 hl (by decide) rfl (fun ls hl => ?_)
            refine lv_iload hx hb dL_tick_372 (lv_at hl 1 rfl) ?_
            refine lv_if_ne (tgt := 381) hx hb dL_tick_374 (by decide) (fun _ => ?_) (fun h9 => absurd h9 (by decide))
            refine lv_iload hx hb dL_tick_381 (lv_at hl 2 rfl) ?_
            refine lv_istore (lv' := [(4, .int (preG u v g 0 16)), (16, .float (FP.fsub (f 7) (spF u (scF v (preG u v g 0))))), (15, .int 3), (14, .int 1), (13, .int (cnF g (nI n) (nI K) ((bestK u g) + 1))), (12, .float ((goF u v f g 0) 7)), (11, .int (bestK u g)), (10, .int (oneF (g 12))), (9, .int (g 11)), (8, .int (g 7)), (7, .int (oneF (g 17))), (6, .int (g 15)), (5, .int 0), (3, .float (f 7)), (2, .int 3), (0, .ref o), (1, .int 0)]) hx hb dL_tick_383 hl (by decide) rfl (fun ls hl => ?_)
            refine lv_iload_n hx hb dL_tick_385 rfl (lv_at hl 14 rfl) ?_
            refine lv_iconst (v := 3) hx hb dL_tick_386 (by decide) ?_
            refine lv_icmp_ne (tgt := 400) hx hb dL_tick_387 (by decide) (fun h9 => absurd (by decide) h9) (fun _ => ?_)
            refine lv_iload hx hb dL_tick_390 (lv_at hl 2 rfl) ?_
            refine lv_iconst (v := 1) hx hb dL_tick_392 (by decide) ?_
            refine lv_icmp_ne (tgt := 400) hx hb dL_tick_393 (by decide) (fun _ => ?_) (fun h9 => absurd h9 (by decide))
            refine lv_iconst (v := 0) hx hb dL_tick_400 (by decide) ?_
            refine lv_istore (lv' := [(17, .int 0), (4, .int (preG u v g 0 16)), (16, .float (FP.fsub (f 7) (spF u (scF v (preG u v g 0))))), (15, .int 3), (14, .int 1), (13, .int (cnF g (nI n) (nI K) ((bestK u g) + 1))), (12, .float ((goF u v f g 0) 7)), (11, .int (bestK u g)), (10, .int (oneF (g 12))), (9, .int (g 11)), (8, .int (g 7)), (7, .int (oneF (g 17))), (6, .int (g 15)), (5, .int 0), (3, .float (f 7)), (2, .int 3), (0, .ref o), (1, .int 0)]) hx hb dL_tick_401 hl (by decide) rfl (fun ls hl => ?_)
            refine lv_iload hx hb dL_tick_403 (lv_at hl 0 rfl) ?_
            refine lv_if_eq (tgt := 428) hx hb dL_tick_405 (by decide) (fun _ => ?_) (fun h9 => absurd (by decide) h9)
            refine lv_iconst (v := 0) hx hb dL_tick_428 (by decide) ?_
            refine lv_istore (lv' := [(18, .int 0), (17, .int 0), (4, .int (preG u v g 0 16)), (16, .float (FP.fsub (f 7) (spF u (scF v (preG u v g 0))))), (15, .int 3), (14, .int 1), (13, .int (cnF g (nI n) (nI K) ((bestK u g) + 1))), (12, .float ((goF u v f g 0) 7)), (11, .int (bestK u g)), (10, .int (oneF (g 12))), (9, .int (g 11)), (8, .int (g 7)), (7, .int (oneF (g 17))), (6, .int (g 15)), (5, .int 0), (3, .float (f 7)), (2, .int 3), (0, .ref o), (1, .int 0)]) hx hb dL_tick_429 hl (by decide) rfl (fun ls hl => ?_)
            refine lv_aload_n hx hb dL_tick_431 rfl (lv_at hl 17 rfl) ?_
            refine lv_iload_n hx hb dL_tick_432 rfl (lv_at hl 18 rfl) ?_
            refine lv_iconst (v := 1) hx hb dL_tick_433 (by decide) ?_
            refine lw_i (rL (rest := []) ⟨hx, hb, hml, hown, hts⟩ (LB_pass_ok l G cA A o (u, v, f, g, L) n K ch hn 0 1 (by decide) (by decide) (by decide) (by decide) hT hG1 hBo) (cwV 2 hts gL_tick_X8_pass rfl rfl rfl mdX8_pass ⟨Nat.le_of_ble_eq_true rfl, Nat.le_of_ble_eq_true rfl⟩) hA hL rfl hl rfl (Nat.le_of_ble_eq_true rfl) dL_tick_434 ⟨Nat.le_of_ble_eq_true rfl, Nat.le_of_ble_eq_true rfl⟩) hA (fun r_434_14 _ H locs hr_434_14 hA hL => ?_)
            replace hL : LB G cA A o (u, v, (goF u v f g 0), (goG u v f g 0), (goL u v g L 0)) (recN n) K ch H := hL
            replace hr_434_14 : r_434_14 = (goG u v f g 0) 13 := hr_434_14
            subst hr_434_14
            refine lv_iload hx hb dL_tick_437 (lv_at hl 4 rfl) ?_
            refine lv_icmp_ne (tgt := 489) hx hb dL_tick_439 (by decide) (fun c_439_14 => absurd (ht.1.trans (if_neg (Int32.not_le.mpr c_347_7))) c_439_14) (fun c_439_14 => ?_)
            refine lv_aload_n hx hb dL_tick_442 rfl (lv_at hl 17 rfl) ?_
            refine lr_f (rL (rest := []) ⟨hx, hb, hml, hown, hts⟩ (LB_place l G cA A o (u, v, (goF u v f g 0), (goG u v f g 0), (goL u v g L 0)) (recN n) K ch  ) (cwV 0 hts gL_tick_X8_place rfl rfl rfl mdX8_place ⟨Nat.le_of_ble_eq_true rfl, Nat.le_of_ble_eq_true rfl⟩) hA hL rfl hl rfl (Nat.le_of_ble_eq_true rfl) dL_tick_443 ⟨Nat.le_of_ble_eq_true rfl, Nat.le_of_ble_eq_true rfl⟩) hA hL (fun r_443_14 H locs hr_443_14 hA hL => ?_)
            replace hr_443_14 : r_443_14 = (goF u v f g 0) 7 := hr_443_14
            subst hr_443_14
            refine lv_fload hx hb dL_tick_446 (lv_at hl 3 rfl) ?_
            refine lv_fcmp hx hb dL_tick_448 ?_
            refine lv_if_ne (tgt := 489) hx hb dL_tick_449 (by decide) (fun c_449_14 => absurd (by rw [(ht.2.2.2.trans (if_neg (Int32.not_le.mpr c_347_7)))]; exact cmp_self (of_vf hsn) _) c_449_14) (fun c_449_14 => ?_)
            refine lv_fload hx hb dL_tick_452 (lv_at hl 7 rfl) ?_
            refine lv_fload hx hb dL_tick_454 (lv_at hl 3 rfl) ?_
            refine lv_fcmp hx hb dL_tick_456 ?_
            refine lv_if_ne (tgt := 489) hx hb dL_tick_457 (by decide) (fun c_457_14 => absurd (by rw [(ht.2.2.2.trans (if_neg (Int32.not_le.mpr c_347_7)))]; exact cmp_self (of_vf hsn) _) c_457_14) (fun c_457_14 => ?_)
            refine lv_aload_n hx hb dL_tick_460 rfl (lv_at hl 17 rfl) ?_
            refine lv_iconst (v := 1) hx hb dL_tick_461 (by decide) ?_
            refine lr_i (rL (rest := []) ⟨hx, hb, hml, hown, hts⟩ (LB_door l G cA A o (u, v, (goF u v f g 0), (goG u v f g 0), (goL u v g L 0)) (recN n) K ch 1 ) (cwV 1 hts gL_tick_X8_door rfl rfl rfl mdX8_door ⟨Nat.le_of_ble_eq_true rfl, Nat.le_of_ble_eq_true rfl⟩) hA hL rfl hl rfl (Nat.le_of_ble_eq_true rfl) dL_tick_462 ⟨Nat.le_of_ble_eq_true rfl, Nat.le_of_ble_eq_true rfl⟩) hA hL (fun r_462_14 H locs hr_462_14 hA hL => ?_)
            replace hr_462_14 : r_462_14 = (goG u v f g 0) 16 := hr_462_14
            subst hr_462_14
            refine lv_iload hx hb dL_tick_465 (lv_at hl 2 rfl) ?_
            refine lv_icmp_ne (tgt := 489) hx hb dL_tick_467 (by decide) (fun c_467_14 => absurd (ht.2.1.trans (if_neg (Int32.not_le.mpr c_347_7))) c_467_14) (fun c_467_14 => ?_)
            refine lv_aload_n hx hb dL_tick_470 rfl (lv_at hl 17 rfl) ?_
            refine lv_iconst (v := 2) hx hb dL_tick_471 (by decide) ?_
            refine lr_i (rL (rest := []) ⟨hx, hb, hml, hown, hts⟩ (LB_door l G cA A o (u, v, (goF u v f g 0), (goG u v f g 0), (goL u v g L 0)) (recN n) K ch 2 ) (cwV 1 hts gL_tick_X8_door rfl rfl rfl mdX8_door ⟨Nat.le_of_ble_eq_true rfl, Nat.le_of_ble_eq_true rfl⟩) hA hL rfl hl rfl (Nat.le_of_ble_eq_true rfl) dL_tick_472 ⟨Nat.le_of_ble_eq_true rfl, Nat.le_of_ble_eq_true rfl⟩) hA hL (fun r_472_14 H locs hr_472_14 hA hL => ?_)
            replace hr_472_14 : r_472_14 = oneF ((goG u v f g 0) 17) := hr_472_14
            subst hr_472_14
            refine lv_iload hx hb dL_tick_475 (lv_at hl 0 rfl) ?_
            refine lv_if_eq (tgt := 484) hx hb dL_tick_477 (by decide) (fun _ => ?_) (fun h9 => absurd (by decide) h9)
            refine lv_iload hx hb dL_tick_484 (lv_at hl 12 rfl) ?_
            refine lv_icmp_eq (tgt := 491) hx hb dL_tick_486 (by decide) (fun c_486_14 => ?_) (fun c_486_14 => absurd (by rw [ht.2.2.1] <;> rfl) c_486_14)
            refine lv_iload hx hb dL_tick_491 (lv_at hl 5 rfl) ?_
            refine lv_if_eq (tgt := 554) hx hb dL_tick_493 (by decide) (fun h9 => absurd h9 (by decide)) (fun _ => ?_)
            refine lv_aload_n hx hb dL_tick_496 rfl (lv_at hl 17 rfl) ?_
            refine lv_iconst (v := 0) hx hb dL_tick_497 (by decide) ?_
            refine lr_i (rL (rest := []) ⟨hx, hb, hml, hown, hts⟩ (LB_thing l G cA A o (u, v, (goF u v f g 0), (goG u v f g 0), (goL u v g L 0)) (recN n) K ch 0 hP2) (cwV 1 hts gL_tick_X8_thing rfl rfl rfl mdX8_thing ⟨Nat.le_of_ble_eq_true rfl, Nat.le_of_ble_eq_true rfl⟩) hA hL rfl hl rfl (Nat.le_of_ble_eq_true rfl) dL_tick_498 ⟨Nat.le_of_ble_eq_true rfl, Nat.le_of_ble_eq_true rfl⟩) hA hL (fun r_498_14 H locs hr_498_14 hA hL => ?_)
            replace hr_498_14 : r_498_14 = -5 := hr_498_14.trans (th_none 0 (by decide) (by decide) h5)
            subst hr_498_14
            refine lv_bipush (v := (-5)) hx hb dL_tick_501 (by decide) ?_
            refine lv_icmp_ne (tgt := 552) hx hb dL_tick_503 (by decide) (fun h9 => absurd (by decide) h9) (fun _ => ?_)
            refine lv_aload_n hx hb dL_tick_506 rfl (lv_at hl 17 rfl) ?_
            refine lv_iconst (v := 0) hx hb dL_tick_507 (by decide) ?_
            refine lv_iconst (v := 0) hx hb dL_tick_508 (by decide) ?_
            refine lr_i (rL (rest := []) ⟨hx, hb, hml, hown, hts⟩ (LB_judged l G cA A o (u, v, (goF u v f g 0), (goG u v f g 0), (goL u v g L 0)) (recN n) K ch 0 0 ) (cwV 2 hts gL_tick_X8_judged rfl rfl rfl mdX8_judged ⟨Nat.le_of_ble_eq_true rfl, Nat.le_of_ble_eq_true rfl⟩) hA hL rfl hl rfl (Nat.le_of_ble_eq_true rfl) dL_tick_509 ⟨Nat.le_of_ble_eq_true rfl, Nat.le_of_ble_eq_true rfl⟩) hA hL (fun r_509_14 H locs hr_509_14 hA hL => ?_)
            replace hr_509_14 : r_509_14 = bestK u g := hr_509_14.trans hju.1
            subst hr_509_14
            refine lv_iload hx hb dL_tick_512 (lv_at hl 8 rfl) ?_
            refine lv_icmp_ne (tgt := 552) hx hb dL_tick_514 (by decide) (fun c_514_14 => absurd rfl c_514_14) (fun c_514_14 => ?_)
            refine lv_aload_n hx hb dL_tick_517 rfl (lv_at hl 17 rfl) ?_
            refine lv_iload hx hb dL_tick_518 (lv_at hl 8 rfl) ?_
            refine lv_iconst (v := 1) hx hb dL_tick_520 (by decide) ?_
            refine lv_iadd hx hb dL_tick_521 ?_
            refine lr_i (rL (rest := []) ⟨hx, hb, hml, hown, hts⟩ (LB_count l G cA A o (u, v, (goF u v f g 0), (goG u v f g 0), (goL u v g L 0)) (recN n) K ch ((bestK u g) + 1)) (cwV 1 hts gL_tick_X8_count rfl rfl rfl mdX8_count ⟨Nat.le_of_ble_eq_true rfl, Nat.le_of_ble_eq_true rfl⟩) hA hL rfl hl rfl (Nat.le_of_ble_eq_true rfl) dL_tick_522 ⟨Nat.le_of_ble_eq_true rfl, Nat.le_of_ble_eq_true rfl⟩) hA hL (fun r_522_14 H locs hr_522_14 hA hL => ?_)
            replace hr_522_14 : r_522_14 = cnF (goG u v f g 0) (nI (recN n)) (nI K) ((bestK u g) + 1) := hr_522_14
            subst hr_522_14
            refine lv_iload hx hb dL_tick_525 (lv_at hl 6 rfl) ?_
            refine lv_iconst (v := 1) hx hb dL_tick_527 (by decide) ?_
            refine lv_iadd hx hb dL_tick_528 ?_
            refine lv_icmp_ne (tgt := 552) hx hb dL_tick_529 (by decide) (fun c_529_14 => absurd hcn c_529_14) (fun c_529_14 => ?_)
            refine lv_aload_n hx hb dL_tick_532 rfl (lv_at hl 17 rfl) ?_
            refine lv_iconst (v := 0) hx hb dL_tick_533 (by decide) ?_
            refine lv_iconst (v := 4) hx hb dL_tick_534 (by decide) ?_
            refine lr_i (rL (rest := []) ⟨hx, hb, hml, hown, hts⟩ (LB_judged l G cA A o (u, v, (goF u v f g 0), (goG u v f g 0), (goL u v g L 0)) (recN n) K ch 0 4 ) (cwV 2 hts gL_tick_X8_judged rfl rfl rfl mdX8_judged ⟨Nat.le_of_ble_eq_true rfl, Nat.le_of_ble_eq_true rfl⟩) hA hL rfl hl rfl (Nat.le_of_ble_eq_true rfl) dL_tick_535 ⟨Nat.le_of_ble_eq_true rfl, Nat.le_of_ble_eq_true rfl⟩) hA hL (fun r_535_14 H locs hr_535_14 hA hL => ?_)
            replace hr_535_14 : r_535_14 = (goG u v f g 0) 27 - 1 := hr_535_14.trans hju.2
            subst hr_535_14
            refine lv_aload_n hx hb dL_tick_538 rfl (lv_at hl 17 rfl) ?_
            refine lv_iconst (v := 0) hx hb dL_tick_539 (by decide) ?_
            refine lr_i (rL (rest := [.int ((goG u v f g 0) 27 - 1)]) ⟨hx, hb, hml, hown, hts⟩ (LB_count l G cA A o (u, v, (goF u v f g 0), (goG u v f g 0), (goL u v g L 0)) (recN n) K ch 0) (cwV 1 hts gL_tick_X8_count rfl rfl rfl mdX8_count ⟨Nat.le_of_ble_eq_true rfl, Nat.le_of_ble_eq_true rfl⟩) hA hL rfl hl rfl (Nat.le_of_ble_eq_true rfl) dL_tick_540 ⟨Nat.le_of_ble_eq_true rfl, Nat.le_of_ble_eq_true rfl⟩) hA hL (fun r_540_14 H locs hr_540_14 hA hL => ?_)
            replace hr_540_14 : r_540_14 = (goG u v f g 0) 27 := hr_540_14
            subst hr_540_14
            refine lv_iconst (v := 1) hx hb dL_tick_543 (by decide) ?_
            refine lv_isub hx hb dL_tick_544 ?_
            refine lv_icmp_ne (tgt := 552) hx hb dL_tick_545 (by decide) (fun c_545_14 => absurd rfl c_545_14) (fun c_545_14 => ?_)
            refine lv_iconst (v := 1) hx hb dL_tick_548 (by decide) ?_
            refine lv_goto (tgt := 553) hx hb dL_tick_549 (by decide) ?_
            exact en_l (post := fun r (_ : Unit) => r = 1) (B := fun _ H => LB G cA A o (u, v, (goF u v f g 0), (goG u v f g 0), (goL u v g L 0)) (recN n) K ch H) () hx hb hr hlocks hA rfl hL dL_tick_553
          · skip
            refine lv_iconst (v := 0) hx hb dL_tick_350 (by decide) ?_
            refine lv_goto (tgt := 355) hx hb dL_tick_351 (by decide) ?_
            refine lv_istore (lv' := [(15, .int 0), (16, .float (FP.fsub (f 7) (spF u (scF v (preG u v g 0))))), (4, .int (preG u v g 0 16)), (14, .int 1), (13, .int (cnF g (nI n) (nI K) ((bestK u g) + 1))), (12, .float ((goF u v f g 0) 7)), (11, .int (bestK u g)), (10, .int (oneF (g 12))), (9, .int (g 11)), (8, .int (g 7)), (7, .int (oneF (g 17))), (6, .int (g 15)), (5, .int 0), (3, .float (f 7)), (2, .int 3), (0, .ref o), (1, .int 0)]) hx hb dL_tick_355 hl (by decide) rfl (fun ls hl => ?_)
            refine lv_fload hx hb dL_tick_357 (lv_at hl 1 rfl) ?_
            refine lv_fconst0 hx hb dL_tick_359 ?_
            refine lv_fcmp hx hb dL_tick_360 ?_
            refine W.eq (g2 := F0 m 361 ls [.int (Op.cmpValue (FP.fcmp (FP.fsub (f 7) (spF u (scF v (preG u v g 0)))) FP.fconst0) CmpOp.l)]) (by rw [cmp_gl hsn n32_0]) ?_
            refine lv_if_gt (tgt := 368) hx hb dL_tick_361 (by decide) (fun c_361_15 => absurd c_361_15 c_347_7) (fun c_361_15 => ?_)
            refine lv_fconst0 hx hb dL_tick_364 ?_
            refine lv_goto (tgt := 370) hx hb dL_tick_365 (by decide) ?_
            refine lv_fstore (lv' := [(16, .float FP.fconst0), (15, .int 0), (4, .int (preG u v g 0 16)), (14, .int 1), (13, .int (cnF g (nI n) (nI K) ((bestK u g) + 1))), (12, .float ((goF u v f g 0) 7)), (11, .int (bestK u g)), (10, .int (oneF (g 12))), (9, .int (g 11)), (8, .int (g 7)), (7, .int (oneF (g 17))), (6, .int (g 15)), (5, .int 0), (3, .float (f 7)), (2, .int 3), (0, .ref o), (1, .int 0)]) hx hb dL_tick_370 hl (by decide) rfl (fun ls hl => ?_)
            refine lv_iload hx hb dL_tick_372 (lv_at hl 1 rfl) ?_
            refine lv_if_ne (tgt := 381) hx hb dL_tick_374 (by decide) (fun h9 => absurd (by decide) h9) (fun _ => ?_)
            refine lv_iconst (v := 0) hx hb dL_tick_377 (by decide) ?_
            refine lv_goto (tgt := 383) hx hb dL_tick_378 (by decide) ?_
            refine lv_istore (lv' := [(4, .int 0), (16, .float FP.fconst0), (15, .int 0), (14, .int 1), (13, .int (cnF g (nI n) (nI K) ((bestK u g) + 1))), (12, .float ((goF u v f g 0) 7)), (11, .int (bestK u g)), (10, .int (oneF (g 12))), (9, .int (g 11)), (8, .int (g 7)), (7, .int (oneF (g 17))), (6, .int (g 15)), (5, .int 0), (3, .float (f 7)), (2, .int 3), (0, .ref o), (1, .int 0)]) hx hb dL_tick_383 hl (by decide) rfl (fun ls hl => ?_)
            refine lv_iload_n hx hb dL_tick_385 rfl (lv_at hl 14 rfl) ?_
            refine lv_iconst (v := 3) hx hb dL_tick_386 (by decide) ?_
            refine lv_icmp_ne (tgt := 400) hx hb dL_tick_387 (by decide) (fun h9 => absurd (by decide) h9) (fun _ => ?_)
            refine lv_iload hx hb dL_tick_390 (lv_at hl 2 rfl) ?_
            refine lv_iconst (v := 1) hx hb dL_tick_392 (by decide) ?_
            refine lv_icmp_ne (tgt := 400) hx hb dL_tick_393 (by decide) (fun _ => ?_) (fun h9 => absurd h9 (by decide))
            refine lv_iconst (v := 0) hx hb dL_tick_400 (by decide) ?_
            refine lv_istore (lv' := [(17, .int 0), (4, .int 0), (16, .float FP.fconst0), (15, .int 0), (14, .int 1), (13, .int (cnF g (nI n) (nI K) ((bestK u g) + 1))), (12, .float ((goF u v f g 0) 7)), (11, .int (bestK u g)), (10, .int (oneF (g 12))), (9, .int (g 11)), (8, .int (g 7)), (7, .int (oneF (g 17))), (6, .int (g 15)), (5, .int 0), (3, .float (f 7)), (2, .int 3), (0, .ref o), (1, .int 0)]) hx hb dL_tick_401 hl (by decide) rfl (fun ls hl => ?_)
            refine lv_iload hx hb dL_tick_403 (lv_at hl 0 rfl) ?_
            refine lv_if_eq (tgt := 428) hx hb dL_tick_405 (by decide) (fun _ => ?_) (fun h9 => absurd (by decide) h9)
            refine lv_iconst (v := 0) hx hb dL_tick_428 (by decide) ?_
            refine lv_istore (lv' := [(18, .int 0), (17, .int 0), (4, .int 0), (16, .float FP.fconst0), (15, .int 0), (14, .int 1), (13, .int (cnF g (nI n) (nI K) ((bestK u g) + 1))), (12, .float ((goF u v f g 0) 7)), (11, .int (bestK u g)), (10, .int (oneF (g 12))), (9, .int (g 11)), (8, .int (g 7)), (7, .int (oneF (g 17))), (6, .int (g 15)), (5, .int 0), (3, .float (f 7)), (2, .int 3), (0, .ref o), (1, .int 0)]) hx hb dL_tick_429 hl (by decide) rfl (fun ls hl => ?_)
            refine lv_aload_n hx hb dL_tick_431 rfl (lv_at hl 17 rfl) ?_
            refine lv_iload_n hx hb dL_tick_432 rfl (lv_at hl 18 rfl) ?_
            refine lv_iconst (v := 1) hx hb dL_tick_433 (by decide) ?_
            refine lw_i (rL (rest := []) ⟨hx, hb, hml, hown, hts⟩ (LB_pass_ok l G cA A o (u, v, f, g, L) n K ch hn 0 1 (by decide) (by decide) (by decide) (by decide) hT hG1 hBo) (cwV 2 hts gL_tick_X8_pass rfl rfl rfl mdX8_pass ⟨Nat.le_of_ble_eq_true rfl, Nat.le_of_ble_eq_true rfl⟩) hA hL rfl hl rfl (Nat.le_of_ble_eq_true rfl) dL_tick_434 ⟨Nat.le_of_ble_eq_true rfl, Nat.le_of_ble_eq_true rfl⟩) hA (fun r_434_15 _ H locs hr_434_15 hA hL => ?_)
            replace hL : LB G cA A o (u, v, (goF u v f g 0), (goG u v f g 0), (goL u v g L 0)) (recN n) K ch H := hL
            replace hr_434_15 : r_434_15 = (goG u v f g 0) 13 := hr_434_15
            subst hr_434_15
            refine lv_iload hx hb dL_tick_437 (lv_at hl 4 rfl) ?_
            refine lv_icmp_ne (tgt := 489) hx hb dL_tick_439 (by decide) (fun c_439_15 => absurd (ht.1.trans (if_pos (Int32.not_lt.mp c_347_7))) c_439_15) (fun c_439_15 => ?_)
            refine lv_aload_n hx hb dL_tick_442 rfl (lv_at hl 17 rfl) ?_
            refine lr_f (rL (rest := []) ⟨hx, hb, hml, hown, hts⟩ (LB_place l G cA A o (u, v, (goF u v f g 0), (goG u v f g 0), (goL u v g L 0)) (recN n) K ch  ) (cwV 0 hts gL_tick_X8_place rfl rfl rfl mdX8_place ⟨Nat.le_of_ble_eq_true rfl, Nat.le_of_ble_eq_true rfl⟩) hA hL rfl hl rfl (Nat.le_of_ble_eq_true rfl) dL_tick_443 ⟨Nat.le_of_ble_eq_true rfl, Nat.le_of_ble_eq_true rfl⟩) hA hL (fun r_443_15 H locs hr_443_15 hA hL => ?_)
            replace hr_443_15 : r_443_15 = (goF u v f g 0) 7 := hr_443_15
            subst hr_443_15
            refine lv_fload hx hb dL_tick_446 (lv_at hl 3 rfl) ?_
            refine lv_fcmp hx hb dL_tick_448 ?_
            refine lv_if_ne (tgt := 489) hx hb dL_tick_449 (by decide) (fun c_449_15 => absurd (by rw [(ht.2.2.2.trans (if_pos (Int32.not_lt.mp c_347_7)))]; exact cmp_self (of_vf n32_0) _) c_449_15) (fun c_449_15 => ?_)
            refine lv_fload hx hb dL_tick_452 (lv_at hl 7 rfl) ?_
            refine lv_fload hx hb dL_tick_454 (lv_at hl 3 rfl) ?_
            refine lv_fcmp hx hb dL_tick_456 ?_
            refine lv_if_ne (tgt := 489) hx hb dL_tick_457 (by decide) (fun c_457_15 => absurd (by rw [(ht.2.2.2.trans (if_pos (Int32.not_lt.mp c_347_7)))]; exact cmp_self (of_vf n32_0) _) c_457_15) (fun c_457_15 => ?_)
            refine lv_aload_n hx hb dL_tick_460 rfl (lv_at hl 17 rfl) ?_
            refine lv_iconst (v := 1) hx hb dL_tick_461 (by decide) ?_
            refine lr_i (rL (rest := []) ⟨hx, hb, hml, hown, hts⟩ (LB_door l G cA A o (u, v, (goF u v f g 0), (goG u v f g 0), (goL u v g L 0)) (recN n) K ch 1 ) (cwV 1 hts gL_tick_X8_door rfl rfl rfl mdX8_door ⟨Nat.le_of_ble_eq_true rfl, Nat.le_of_ble_eq_true rfl⟩) hA hL rfl hl rfl (Nat.le_of_ble_eq_true rfl) dL_tick_462 ⟨Nat.le_of_ble_eq_true rfl, Nat.le_of_ble_eq_true rfl⟩) hA hL (fun r_462_15 H locs hr_462_15 hA hL => ?_)
            replace hr_462_15 : r_462_15 = (goG u v f g 0) 16 := hr_462_15
            subst hr_462_15
            refine lv_iload hx hb dL_tick_465 (lv_at hl 2 rfl) ?_
            refine lv_icmp_ne (tgt := 489) hx hb dL_tick_467 (by decide) (fun c_467_15 => absurd (ht.2.1.trans (if_pos (Int32.not_lt.mp c_347_7))) c_467_15) (fun c_467_15 => ?_)
            refine lv_aload_n hx hb dL_tick_470 rfl (lv_at hl 17 rfl) ?_
            refine lv_iconst (v := 2) hx hb dL_tick_471 (by decide) ?_
            refine lr_i (rL (rest := []) ⟨hx, hb, hml, hown, hts⟩ (LB_door l G cA A o (u, v, (goF u v f g 0), (goG u v f g 0), (goL u v g L 0)) (recN n) K ch 2 ) (cwV 1 hts gL_tick_X8_door rfl rfl rfl mdX8_door ⟨Nat.le_of_ble_eq_true rfl, Nat.le_of_ble_eq_true rfl⟩) hA hL rfl hl rfl (Nat.le_of_ble_eq_true rfl) dL_tick_472 ⟨Nat.le_of_ble_eq_true rfl, Nat.le_of_ble_eq_true rfl⟩) hA hL (fun r_472_15 H locs hr_472_15 hA hL => ?_)
            replace hr_472_15 : r_472_15 = oneF ((goG u v f g 0) 17) := hr_472_15
            subst hr_472_15
            refine lv_iload hx hb dL_tick_475 (lv_at hl 0 rfl) ?_
            refine lv_if_eq (tgt := 484) hx hb dL_tick_477 (by decide) (fun _ => ?_) (fun h9 => absurd (by decide) h9)
            refine lv_iload hx hb dL_tick_484 (lv_at hl 12 rfl) ?_
            refine lv_icmp_eq (tgt := 491) hx hb dL_tick_486 (by decide) (fun c_486_15 => ?_) (fun c_486_15 => absurd (by rw [ht.2.2.1] <;> rfl) c_486_15)
            refine lv_iload hx hb dL_tick_491 (lv_at hl 5 rfl) ?_
            refine lv_if_eq (tgt := 554) hx hb dL_tick_493 (by decide) (fun h9 => absurd h9 (by decide)) (fun _ => ?_)
            refine lv_aload_n hx hb dL_tick_496 rfl (lv_at hl 17 rfl) ?_
            refine lv_iconst (v := 0) hx hb dL_tick_497 (by decide) ?_
            refine lr_i (rL (rest := []) ⟨hx, hb, hml, hown, hts⟩ (LB_thing l G cA A o (u, v, (goF u v f g 0), (goG u v f g 0), (goL u v g L 0)) (recN n) K ch 0 hP2) (cwV 1 hts gL_tick_X8_thing rfl rfl rfl mdX8_thing ⟨Nat.le_of_ble_eq_true rfl, Nat.le_of_ble_eq_true rfl⟩) hA hL rfl hl rfl (Nat.le_of_ble_eq_true rfl) dL_tick_498 ⟨Nat.le_of_ble_eq_true rfl, Nat.le_of_ble_eq_true rfl⟩) hA hL (fun r_498_15 H locs hr_498_15 hA hL => ?_)
            replace hr_498_15 : r_498_15 = -5 := hr_498_15.trans (th_none 0 (by decide) (by decide) h5)
            subst hr_498_15
            refine lv_bipush (v := (-5)) hx hb dL_tick_501 (by decide) ?_
            refine lv_icmp_ne (tgt := 552) hx hb dL_tick_503 (by decide) (fun h9 => absurd (by decide) h9) (fun _ => ?_)
            refine lv_aload_n hx hb dL_tick_506 rfl (lv_at hl 17 rfl) ?_
            refine lv_iconst (v := 0) hx hb dL_tick_507 (by decide) ?_
            refine lv_iconst (v := 0) hx hb dL_tick_508 (by decide) ?_
            refine lr_i (rL (rest := []) ⟨hx, hb, hml, hown, hts⟩ (LB_judged l G cA A o (u, v, (goF u v f g 0), (goG u v f g 0), (goL u v g L 0)) (recN n) K ch 0 0 ) (cwV 2 hts gL_tick_X8_judged rfl rfl rfl mdX8_judged ⟨Nat.le_of_ble_eq_true rfl, Nat.le_of_ble_eq_true rfl⟩) hA hL rfl hl rfl (Nat.le_of_ble_eq_true rfl) dL_tick_509 ⟨Nat.le_of_ble_eq_true rfl, Nat.le_of_ble_eq_true rfl⟩) hA hL (fun r_509_15 H locs hr_509_15 hA hL => ?_)
            replace hr_509_15 : r_509_15 = bestK u g := hr_509_15.trans hju.1
            subst hr_509_15
            refine lv_iload hx hb dL_tick_512 (lv_at hl 8 rfl) ?_
            refine lv_icmp_ne (tgt := 552) hx hb dL_tick_514 (by decide) (fun c_514_15 => absurd rfl c_514_15) (fun c_514_15 => ?_)
            refine lv_aload_n hx hb dL_tick_517 rfl (lv_at hl 17 rfl) ?_
            refine lv_iload hx hb dL_tick_518 (lv_at hl 8 rfl) ?_
            refine lv_iconst (v := 1) hx hb dL_tick_520 (by decide) ?_
            refine lv_iadd hx hb dL_tick_521 ?_
            refine lr_i (rL (rest := []) ⟨hx, hb, hml, hown, hts⟩ (LB_count l G cA A o (u, v, (goF u v f g 0), (goG u v f g 0), (goL u v g L 0)) (recN n) K ch ((bestK u g) + 1)) (cwV 1 hts gL_tick_X8_count rfl rfl rfl mdX8_count ⟨Nat.le_of_ble_eq_true rfl, Nat.le_of_ble_eq_true rfl⟩) hA hL rfl hl rfl (Nat.le_of_ble_eq_true rfl) dL_tick_522 ⟨Nat.le_of_ble_eq_true rfl, Nat.le_of_ble_eq_true rfl⟩) hA hL (fun r_522_15 H locs hr_522_15 hA hL => ?_)
            replace hr_522_15 : r_522_15 = cnF (goG u v f g 0) (nI (recN n)) (nI K) ((bestK u g) + 1) := hr_522_15
            subst hr_522_15
            refine lv_iload hx hb dL_tick_525 (lv_at hl 6 rfl) ?_
            refine lv_iconst (v := 1) hx hb dL_tick_527 (by decide) ?_
            refine lv_iadd hx hb dL_tick_528 ?_
            refine lv_icmp_ne (tgt := 552) hx hb dL_tick_529 (by decide) (fun c_529_15 => absurd hcn c_529_15) (fun c_529_15 => ?_)
            refine lv_aload_n hx hb dL_tick_532 rfl (lv_at hl 17 rfl) ?_
            refine lv_iconst (v := 0) hx hb dL_tick_533 (by decide) ?_
            refine lv_iconst (v := 4) hx hb dL_tick_534 (by decide) ?_
            refine lr_i (rL (rest := []) ⟨hx, hb, hml, hown, hts⟩ (LB_judged l G cA A o (u, v, (goF u v f g 0), (goG u v f g 0), (goL u v g L 0)) (recN n) K ch 0 4 ) (cwV 2 hts gL_tick_X8_judged rfl rfl rfl mdX8_judged ⟨Nat.le_of_ble_eq_true rfl, Nat.le_of_ble_eq_true rfl⟩) hA hL rfl hl rfl (Nat.le_of_ble_eq_true rfl) dL_tick_535 ⟨Nat.le_of_ble_eq_true rfl, Nat.le_of_ble_eq_true rfl⟩) hA hL (fun r_535_15 H locs hr_535_15 hA hL => ?_)
            replace hr_535_15 : r_535_15 = (goG u v f g 0) 27 - 1 := hr_535_15.trans hju.2
            subst hr_535_15
            refine lv_aload_n hx hb dL_tick_538 rfl (lv_at hl 17 rfl) ?_
            refine lv_iconst (v := 0) hx hb dL_tick_539 (by decide) ?_
            refine lr_i (rL (rest := [.int ((goG u v f g 0) 27 - 1)]) ⟨hx, hb, hml, hown, hts⟩ (LB_count l G cA A o (u, v, (goF u v f g 0), (goG u v f g 0), (goL u v g L 0)) (recN n) K ch 0) (cwV 1 hts gL_tick_X8_count rfl rfl rfl mdX8_count ⟨Nat.le_of_ble_eq_true rfl, Nat.le_of_ble_eq_true rfl⟩) hA hL rfl hl rfl (Nat.le_of_ble_eq_true rfl) dL_tick_540 ⟨Nat.le_of_ble_eq_true rfl, Nat.le_of_ble_eq_true rfl⟩) hA hL (fun r_540_15 H locs hr_540_15 hA hL => ?_)
            replace hr_540_15 : r_540_15 = (goG u v f g 0) 27 := hr_540_15
            subst hr_540_15
            refine lv_iconst (v := 1) hx hb dL_tick_543 (by decide) ?_
            refine lv_isub hx hb dL_tick_544 ?_
            refine lv_icmp_ne (tgt := 552) hx hb dL_tick_545 (by decide) (fun c_545_15 => absurd rfl c_545_15) (fun c_545_15 => ?_)
            refine lv_iconst (v := 1) hx hb dL_tick_548 (by decide) ?_
            refine lv_goto (tgt := 553) hx hb dL_tick_549 (by decide) ?_
            exact en_l (post := fun r (_ : Unit) => r = 1) (B := fun _ H => LB G cA A o (u, v, (goF u v f g 0), (goG u v f g 0), (goL u v g L 0)) (recN n) K ch H) () hx hb hr hlocks hA rfl hL dL_tick_553
