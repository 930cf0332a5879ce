/-! tick(o, beams), beams broken (by wip/p26/tick.py) -/
theorem mv_57 {u : FF} {v : GG} {f : FF} {g : GG} {b : Int32} {k : Nat} (hk : k = 5 ∨ k = 7) : mvG u v f g b k = g k := by
  unfold mvG cosG
  rcases hk with rfl | rfl
  · split
    · rfl
    · split
      · rfl
      · split
        · split
          · rfl
          · split <;> rfl
        · rfl
  · split
    · rfl
    · split
      · rfl
      · split
        · split
          · rfl
          · split <;> rfl
        · rfl
theorem mv_5 {u : FF} {v : GG} {f : FF} {g : GG} {b : Int32} : goG u v f g b 5 = preG u v g b 5 := (go_G (by decide)).trans (mv_57 (Or.inl rfl))
theorem mv_7 {u : FF} {v : GG} {f : FF} {g : GG} {b : Int32} : goG u v f g b 7 = preG u v g b 7 := (go_G (by decide)).trans (mv_57 (Or.inr rfl))
set_option maxHeartbeats 8000000 in
set_option maxRecDepth 100000 in
/-- tick(o, beams), in the state 0, case nb -/
theorem cL_tick_0_nb (l : Launch) (G : va_G) (cA : Nat → ClassId) (A : Nat → Prop) (o : Nat) (u : FF) (v : GG) (f : FF) (g L : GG) (n K : Nat) (ch : GG) (b0 : Int32) (hb0 : ¬ b0 < 0) (hb7 : ¬ 7 < b0) (hbz : ¬ b0 = 0) (hs : g 13 = 0) (hn : n ≤ 4) (hGo : GoOk u f g) (hPr : PrOk u g) (hP2 : PrOk u (goG u v f g b0)) (hT : ¬ 99999 < g 27 + nI 1) (hBo : Bo g) (hf : vf_n32 (f 7)) (hg : g 5 = 0) : Met l yL_tick wsL_tick ({ frames := 7, cells := 0, slots := 0, locals := 160 } : Room) (va_Pc [.ref o, .int b0] (LbP G cA A o (u, v, f, g, L) n K ch)) (va_Qi (fun r (_ : Unit) => r = 1) (fun _ t => LB G cA A o (u, v, (goF u v f g b0), (goG u v f g b0), (goL u v g L b0)) (recN n) K ch t.heap) A) 0 0 A := by
  refine ofW2 (cc := cL_tick) (maxL := 19) (ret := (some .boolean)) (own := RL) (by decide) rfl rfl (Nat.le_of_ble_eq_true rfl) rfl ?_
  intro p e s m below meth c ls hx hb hml hr hts hown hlocks hv hl
  obtain ⟨hE, hN, hL⟩ := hv
  have hA : At G cA A s s.heap [] := ⟨hE, hN, va_S.rf⟩
  obtain ⟨H, hH0⟩ : ∃ H, H = s.heap := ⟨_, rfl⟩
  rw [← hH0] at hL ⊢
  replace hA : At G cA A s H [] := by rw [hH0]; exact hA
  generalize ([] : List Loc) = locs at hA ⊢
  clear hH0
  replace hl : lv_has ls 19 [(0, .ref o), (1, .int b0)] := hl
  have hG1 : ∀ k, k < 1 → GoOk u (itS u v b0 (f, g, L) k).1 (itS u v b0 (f, g, L) k).2.1 := fun k hk => (show k = 0 by omega) ▸ hGo
  have ht := t_0 (b := b0) hs (u := u) (v := v) (f := f)
  have hp16 : preG u v g b0 16 = g 16 := pre_16b hbz
  have hk5 : (preG u v g b0) 5 = 1 := by rw [pre_b hbz]; exact (show (if g 5 = 0 then 1 else g 5) = 1 by rw [if_pos hg])
  have hk7 : (preG u v g b0) 7 = 1 := by rw [pre_b hbz]; show (if g 5 = 0 then 0 else g 7) + 1 = _; rw [if_pos hg]; rfl
  have hk12 : (preG u v g b0) 12 = 0 := by rw [pre_b hbz]; show (if g 5 = 0 then 0 else g 12) = _; rw [if_pos hg]
  have h5e : (goG u v f g b0) 5 = (preG u v g b0) 5 := mv_5
  have e7e : (goG u v f g b0) 7 = (preG u v g b0) 7 := mv_7
  have ht12 : (goG u v f g b0) 12 = 0 := (go_G (by decide)).trans (by rw [(mv_0 (pre_13.trans hs)).1]; exact hk12)
  have h5 : ¬ (goG u v f g b0) 5 = 0 := by rw [h5e, hk5]; decide
  have e7t := e7e.trans hk7
  refine lv_aload_n hx hb dL_tick_0 rfl (lv_at hl 0 rfl) ?_
  refine lv_iconst (v := 0) hx hb dL_tick_1 (by decide) ?_
  refine lr_i (rL (rest := []) ⟨hx, hb, hml, hown, hts⟩ (LB_door l G cA A o (u, v, f, g, L) n K ch 0 ) (cwV 1 hts gL_tick_X8_door rfl rfl rfl mdX8_door ⟨Nat.le_of_ble_eq_true rfl, Nat.le_of_ble_eq_true rfl⟩) hA hL rfl hl rfl (Nat.le_of_ble_eq_true rfl) dL_tick_2 ⟨Nat.le_of_ble_eq_true rfl, Nat.le_of_ble_eq_true rfl⟩) hA hL (fun r_2 H locs hr_2 hA hL => ?_)
  replace hr_2 : r_2 = 0 := hr_2.trans hs
  subst hr_2
  refine lv_istore_n (lv' := [(2, .int 0), (0, .ref o), (1, .int b0)]) hx hb dL_tick_5 rfl hl (by decide) rfl (fun ls hl => ?_)
  refine lv_aload_n hx hb dL_tick_6 rfl (lv_at hl 1 rfl) ?_
  refine lr_f (rL (rest := []) ⟨hx, hb, hml, hown, hts⟩ (LB_place l G cA A o (u, v, f, g, L) n K ch  ) (cwV 0 hts gL_tick_X8_place rfl rfl rfl mdX8_place ⟨Nat.le_of_ble_eq_true rfl, Nat.le_of_ble_eq_true rfl⟩) hA hL rfl hl rfl (Nat.le_of_ble_eq_true rfl) dL_tick_7 ⟨Nat.le_of_ble_eq_true rfl, Nat.le_of_ble_eq_true rfl⟩) hA hL (fun r_7 H locs hr_7 hA hL => ?_)
  replace hr_7 : r_7 = f 7 := hr_7
  subst hr_7
  refine lv_fstore_n (lv' := [(3, .float (f 7)), (2, .int 0), (0, .ref o), (1, .int b0)]) hx hb dL_tick_10 rfl hl (by decide) rfl (fun ls hl => ?_)
  refine lv_aload_n hx hb dL_tick_11 rfl (lv_at hl 2 rfl) ?_
  refine lv_iconst (v := 1) hx hb dL_tick_12 (by decide) ?_
  refine lr_i (rL (rest := []) ⟨hx, hb, hml, hown, hts⟩ (LB_door l G cA A o (u, v, f, g, L) n K ch 1 ) (cwV 1 hts gL_tick_X8_door rfl rfl rfl mdX8_door ⟨Nat.le_of_ble_eq_true rfl, Nat.le_of_ble_eq_true rfl⟩) hA hL rfl hl rfl (Nat.le_of_ble_eq_true rfl) dL_tick_13 ⟨Nat.le_of_ble_eq_true rfl, Nat.le_of_ble_eq_true rfl⟩) hA hL (fun r_13 H locs hr_13 hA hL => ?_)
  replace hr_13 : r_13 = g 16 := hr_13
  subst hr_13
  refine lv_istore (lv' := [(4, .int (g 16)), (3, .float (f 7)), (2, .int 0), (0, .ref o), (1, .int b0)]) hx hb dL_tick_16 hl (by decide) rfl (fun ls hl => ?_)
  refine lv_aload_n hx hb dL_tick_18 rfl (lv_at hl 3 rfl) ?_
  refine lv_iconst (v := 3) hx hb dL_tick_19 (by decide) ?_
  refine lr_i (rL (rest := []) ⟨hx, hb, hml, hown, hts⟩ (LB_door l G cA A o (u, v, f, g, L) n K ch 3 ) (cwV 1 hts gL_tick_X8_door rfl rfl rfl mdX8_door ⟨Nat.le_of_ble_eq_true rfl, Nat.le_of_ble_eq_true rfl⟩) hA hL rfl hl rfl (Nat.le_of_ble_eq_true rfl) dL_tick_20 ⟨Nat.le_of_ble_eq_true rfl, Nat.le_of_ble_eq_true rfl⟩) hA hL (fun r_20 H locs hr_20 hA hL => ?_)
  rw [show doF f g 3 = 0 from (by show (if g 13 = 2 then g 14 else 0) = 0; rw [if_neg (by rw [hs]; decide)])] at hr_20
  subst hr_20
  refine lv_istore (lv' := [(5, .int 0), (4, .int (g 16)), (3, .float (f 7)), (2, .int 0), (0, .ref o), (1, .int b0)]) hx hb dL_tick_23 hl (by decide) rfl (fun ls hl => ?_)
  refine lv_aload_n hx hb dL_tick_25 rfl (lv_at hl 4 rfl) ?_
  refine lv_iconst (v := 4) hx hb dL_tick_26 (by decide) ?_
  refine lr_i (rL (rest := []) ⟨hx, hb, hml, hown, hts⟩ (LB_door l G cA A o (u, v, f, g, L) n K ch 4 ) (cwV 1 hts gL_tick_X8_door rfl rfl rfl mdX8_door ⟨Nat.le_of_ble_eq_true rfl, Nat.le_of_ble_eq_true rfl⟩) hA hL rfl hl rfl (Nat.le_of_ble_eq_true rfl) dL_tick_27 ⟨Nat.le_of_ble_eq_true rfl, Nat.le_of_ble_eq_true rfl⟩) hA hL (fun r_27 H locs hr_27 hA hL => ?_)
  rw [show doF f g 4 = 0 from (by show (if g 13 = 3 then g 15 else 0) = 0; rw [if_neg (by rw [hs]; decide)])] at hr_27
  subst hr_27
  refine lv_istore (lv' := [(6, .int 0), (5, .int 0), (4, .int (g 16)), (3, .float (f 7)), (2, .int 0), (0, .ref o), (1, .int b0)]) hx hb dL_tick_30 hl (by decide) rfl (fun ls hl => ?_)
  refine lv_aload_n hx hb dL_tick_32 rfl (lv_at hl 5 rfl) ?_
  refine lv_iconst (v := 2) hx hb dL_tick_33 (by decide) ?_
  refine lr_i (rL (rest := []) ⟨hx, hb, hml, hown, hts⟩ (LB_door l G cA A o (u, v, f, g, L) n K ch 2 ) (cwV 1 hts gL_tick_X8_door rfl rfl rfl mdX8_door ⟨Nat.le_of_ble_eq_true rfl, Nat.le_of_ble_eq_true rfl⟩) hA hL rfl hl rfl (Nat.le_of_ble_eq_true rfl) dL_tick_34 ⟨Nat.le_of_ble_eq_true rfl, Nat.le_of_ble_eq_true rfl⟩) hA hL (fun r_34 H locs hr_34 hA hL => ?_)
  replace hr_34 : r_34 = oneF (g 17) := hr_34
  subst hr_34
  refine lv_istore (lv' := [(7, .int (oneF (g 17))), (6, .int 0), (5, .int 0), (4, .int (g 16)), (3, .float (f 7)), (2, .int 0), (0, .ref o), (1, .int b0)]) hx hb dL_tick_37 hl (by decide) rfl (fun ls hl => ?_)
  refine lv_aload_n hx hb dL_tick_39 rfl (lv_at hl 6 rfl) ?_
  refine lv_iconst (v := 0) hx hb dL_tick_40 (by decide) ?_
  refine lr_i (rL (rest := []) ⟨hx, hb, hml, hown, hts⟩ (LB_thing l G cA A o (u, v, f, g, L) n K ch 0 hPr) (cwV 1 hts gL_tick_X8_thing rfl rfl rfl mdX8_thing ⟨Nat.le_of_ble_eq_true rfl, Nat.le_of_ble_eq_true rfl⟩) hA hL rfl hl rfl (Nat.le_of_ble_eq_true rfl) dL_tick_41 ⟨Nat.le_of_ble_eq_true rfl, Nat.le_of_ble_eq_true rfl⟩) hA hL (fun r_41 H locs hr_41 hA hL => ?_)
  replace hr_41 : r_41 = -5 := hr_41.trans (th_none 0 (by decide) (by decide) hg)
  subst hr_41
  refine lv_istore (lv' := [(8, .int (-5)), (7, .int (oneF (g 17))), (6, .int 0), (5, .int 0), (4, .int (g 16)), (3, .float (f 7)), (2, .int 0), (0, .ref o), (1, .int b0)]) hx hb dL_tick_44 hl (by decide) rfl (fun ls hl => ?_)
  refine lv_iload hx hb dL_tick_46 (lv_at hl 0 rfl) ?_
  refine lv_if_ge (tgt := 55) hx hb dL_tick_48 (by decide) (fun h9 => absurd h9 (by decide)) (fun _ => ?_)
  refine lv_iconst (v := 0) hx hb dL_tick_51 (by decide) ?_
  refine lv_goto (tgt := 60) hx hb dL_tick_52 (by decide) ?_
  refine lv_istore (lv' := [(9, .int 0), (8, .int (-5)), (7, .int (oneF (g 17))), (6, .int 0), (5, .int 0), (4, .int (g 16)), (3, .float (f 7)), (2, .int 0), (0, .ref o), (1, .int b0)]) hx hb dL_tick_60 hl (by decide) rfl (fun ls hl => ?_)
  refine lv_iload hx hb dL_tick_62 (lv_at hl 1 rfl) ?_
  refine lv_if_ge (tgt := 71) hx hb dL_tick_64 (by decide) (fun h9 => absurd h9 (by decide)) (fun _ => ?_)
  refine lv_iconst (v := 0) hx hb dL_tick_67 (by decide) ?_
  refine lv_goto (tgt := 77) hx hb dL_tick_68 (by decide) ?_
  refine lv_istore (lv' := [(10, .int 0), (9, .int 0), (8, .int (-5)), (7, .int (oneF (g 17))), (6, .int 0), (5, .int 0), (4, .int (g 16)), (3, .float (f 7)), (2, .int 0), (0, .ref o), (1, .int b0)]) hx hb dL_tick_77 hl (by decide) rfl (fun ls hl => ?_)
  refine lv_iload hx hb dL_tick_79 (lv_at hl 2 rfl) ?_
  refine lv_if_ge (tgt := 88) hx hb dL_tick_81 (by decide) (fun h9 => absurd h9 (by decide)) (fun _ => ?_)
  refine lv_iconst (v := 0) hx hb dL_tick_84 (by decide) ?_
  refine lv_goto (tgt := 94) hx hb dL_tick_85 (by decide) ?_
  refine lv_istore (lv' := [(11, .int 0), (10, .int 0), (9, .int 0), (8, .int (-5)), (7, .int (oneF (g 17))), (6, .int 0), (5, .int 0), (4, .int (g 16)), (3, .float (f 7)), (2, .int 0), (0, .ref o), (1, .int b0)]) hx hb dL_tick_94 hl (by decide) rfl (fun ls hl => ?_)
  refine lv_aload_n hx hb dL_tick_96 rfl (lv_at hl 10 rfl) ?_
  refine lv_iload_n hx hb dL_tick_97 rfl (lv_at hl 11 rfl) ?_
  refine lv_iconst (v := 1) hx hb dL_tick_98 (by decide) ?_
  refine lw_f (rL (rest := []) ⟨hx, hb, hml, hown, hts⟩ (LB_placeIn_ok l G cA A o (u, v, f, g, L) n K ch b0 1 hb0 hb7 (by decide) hG1) (cwV 2 hts gL_tick_X8_placeIn rfl rfl rfl mdX8_placeIn ⟨Nat.le_of_ble_eq_true rfl, Nat.le_of_ble_eq_true rfl⟩) hA hL rfl hl rfl (Nat.le_of_ble_eq_true rfl) dL_tick_99 ⟨Nat.le_of_ble_eq_true rfl, Nat.le_of_ble_eq_true rfl⟩) hA (fun r_99 _ H locs hr_99 hA hL => ?_)
  replace hL : LB G cA A o (u, v, f, g, L) n K ch H := hL
  replace hr_99 : r_99 = (goF u v f g b0) 7 := hr_99
  subst hr_99
  refine lv_fstore (lv' := [(12, .float ((goF u v f g b0) 7)), (11, .int 0), (10, .int 0), (9, .int 0), (8, .int (-5)), (7, .int (oneF (g 17))), (6, .int 0), (5, .int 0), (4, .int (g 16)), (3, .float (f 7)), (2, .int 0), (0, .ref o), (1, .int b0)]) hx hb dL_tick_102 hl (by decide) rfl (fun ls hl => ?_)
  refine lv_aload_n hx hb dL_tick_104 rfl (lv_at hl 11 rfl) ?_
  refine lv_iload hx hb dL_tick_105 (lv_at hl 1 rfl) ?_
  refine lv_iconst (v := 1) hx hb dL_tick_107 (by decide) ?_
  refine lv_iadd hx hb dL_tick_108 ?_
  refine W.eq (g2 := F0 m 109 ls [.int 1, .ref o]) rfl ?_
  refine lr_i (rL (rest := []) ⟨hx, hb, hml, hown, hts⟩ (LB_count l G cA A o (u, v, f, g, L) n K ch 1) (cwV 1 hts gL_tick_X8_count rfl rfl rfl mdX8_count ⟨Nat.le_of_ble_eq_true rfl, Nat.le_of_ble_eq_true rfl⟩) hA hL rfl hl rfl (Nat.le_of_ble_eq_true rfl) dL_tick_109 ⟨Nat.le_of_ble_eq_true rfl, Nat.le_of_ble_eq_true rfl⟩) hA hL (fun r_109 H locs hr_109 hA hL => ?_)
  replace hr_109 : r_109 = g 19 := hr_109
  subst hr_109
  refine lv_istore (lv' := [(13, .int (g 19)), (12, .float ((goF u v f g b0) 7)), (11, .int 0), (10, .int 0), (9, .int 0), (8, .int (-5)), (7, .int (oneF (g 17))), (6, .int 0), (5, .int 0), (4, .int (g 16)), (3, .float (f 7)), (2, .int 0), (0, .ref o), (1, .int b0)]) hx hb dL_tick_112 hl (by decide) rfl (fun ls hl => ?_)
  refine lv_iload hx hb dL_tick_114 (lv_at hl 5 rfl) ?_
  refine lv_if_le (tgt := 139) hx hb dL_tick_116 (by decide) (fun _ => ?_) (fun h9 => absurd (by decide) h9)
  refine lv_iconst (v := 0) hx hb dL_tick_139 (by decide) ?_
  refine lv_istore (lv' := [(14, .int 0), (13, .int (g 19)), (12, .float ((goF u v f g b0) 7)), (11, .int 0), (10, .int 0), (9, .int 0), (8, .int (-5)), (7, .int (oneF (g 17))), (6, .int 0), (5, .int 0), (4, .int (g 16)), (3, .float (f 7)), (2, .int 0), (0, .ref o), (1, .int b0)]) hx hb dL_tick_140 hl (by decide) rfl (fun ls hl => ?_)
  refine lv_iload hx hb dL_tick_142 (lv_at hl 10 rfl) ?_
  refine lv_iload hx hb dL_tick_144 (lv_at hl 0 rfl) ?_
  refine lv_if_eq (tgt := 169) hx hb dL_tick_146 (by decide) (fun _ => ?_) (fun h9 => absurd (by decide) h9)
  refine lv_iconst (v := 0) hx hb dL_tick_169 (by decide) ?_
  refine lv_isub hx hb dL_tick_170 ?_
  refine W.eq (g2 := F0 m 171 ls [.int (preG u v g b0 16)]) (by rw [hp16, Int32.sub_zero]) ?_
  refine lv_istore (lv' := [(4, .int (preG u v g b0 16)), (14, .int 0), (13, .int (g 19)), (12, .float ((goF u v f g b0) 7)), (11, .int 0), (10, .int 0), (9, .int 0), (8, .int (-5)), (7, .int (oneF (g 17))), (6, .int 0), (5, .int 0), (3, .float (f 7)), (2, .int 0), (0, .ref o), (1, .int b0)]) hx hb dL_tick_171 hl (by decide) rfl (fun ls hl => ?_)
  refine lv_iload_n hx hb dL_tick_173 rfl (lv_at hl 12 rfl) ?_
  refine lv_istore (lv' := [(15, .int 0), (4, .int (preG u v g b0 16)), (14, .int 0), (13, .int (g 19)), (12, .float ((goF u v f g b0) 7)), (11, .int 0), (10, .int 0), (9, .int 0), (8, .int (-5)), (7, .int (oneF (g 17))), (6, .int 0), (5, .int 0), (3, .float (f 7)), (2, .int 0), (0, .ref o), (1, .int b0)]) hx hb dL_tick_174 hl (by decide) rfl (fun ls hl => ?_)
  refine lv_fload_n hx hb dL_tick_176 rfl (lv_at hl 12 rfl) ?_
  refine lv_fstore (lv' := [(16, .float (f 7)), (15, .int 0), (4, .int (preG u v g b0 16)), (14, .int 0), (13, .int (g 19)), (12, .float ((goF u v f g b0) 7)), (11, .int 0), (10, .int 0), (9, .int 0), (8, .int (-5)), (7, .int (oneF (g 17))), (6, .int 0), (5, .int 0), (3, .float (f 7)), (2, .int 0), (0, .ref o), (1, .int b0)]) hx hb dL_tick_177 hl (by decide) rfl (fun ls hl => ?_)
  refine lv_iload_n hx hb dL_tick_179 rfl (lv_at hl 14 rfl) ?_
  refine lv_iconst (v := 1) hx hb dL_tick_180 (by decide) ?_
  refine lv_icmp_ne (tgt := 228) hx hb dL_tick_181 (by decide) (fun _ => ?_) (fun h9 => absurd h9 (by decide))
  refine lv_iload_n hx hb dL_tick_228 rfl (lv_at hl 14 rfl) ?_
  refine lv_iconst (v := 2) hx hb dL_tick_229 (by decide) ?_
  refine lv_icmp_ne (tgt := 264) hx hb dL_tick_230 (by decide) (fun _ => ?_) (fun h9 => absurd h9 (by decide))
  refine lv_iload_n hx hb dL_tick_264 rfl (lv_at hl 14 rfl) ?_
  refine lv_iconst (v := 3) hx hb dL_tick_265 (by decide) ?_
  refine lv_icmp_ne (tgt := 311) hx hb dL_tick_266 (by decide) (fun _ => ?_) (fun h9 => absurd h9 (by decide))
  refine lv_iload_n hx hb dL_tick_311 rfl (lv_at hl 14 rfl) ?_
  refine lv_iconst (v := 3) hx hb dL_tick_312 (by decide) ?_
  refine lv_icmp_ne (tgt := 385) hx hb dL_tick_313 (by decide) (fun _ => ?_) (fun h9 => absurd h9 (by decide))
  refine lv_iload_n hx hb dL_tick_385 rfl (lv_at hl 14 rfl) ?_
  refine lv_iconst (v := 3) hx hb dL_tick_386 (by decide) ?_
  refine lv_icmp_ne (tgt := 400) hx hb dL_tick_387 (by decide) (fun _ => ?_) (fun h9 => absurd h9 (by decide))
  refine lv_iconst (v := 0) hx hb dL_tick_400 (by decide) ?_
  refine lv_istore (lv' := [(17, .int 0), (16, .float (f 7)), (15, .int 0), (4, .int (preG u v g b0 16)), (14, .int 0), (13, .int (g 19)), (12, .float ((goF u v f g b0) 7)), (11, .int 0), (10, .int 0), (9, .int 0), (8, .int (-5)), (7, .int (oneF (g 17))), (6, .int 0), (5, .int 0), (3, .float (f 7)), (2, .int 0), (0, .ref o), (1, .int b0)]) hx hb dL_tick_401 hl (by decide) rfl (fun ls hl => ?_)
  refine lv_iload hx hb dL_tick_403 (lv_at hl 0 rfl) ?_
  refine lv_if_eq (tgt := 428) hx hb dL_tick_405 (by decide) (fun _ => ?_) (fun h9 => absurd (by decide) h9)
  refine lv_iconst (v := 0) hx hb dL_tick_428 (by decide) ?_
  refine lv_istore (lv' := [(18, .int 0), (17, .int 0), (16, .float (f 7)), (15, .int 0), (4, .int (preG u v g b0 16)), (14, .int 0), (13, .int (g 19)), (12, .float ((goF u v f g b0) 7)), (11, .int 0), (10, .int 0), (9, .int 0), (8, .int (-5)), (7, .int (oneF (g 17))), (6, .int 0), (5, .int 0), (3, .float (f 7)), (2, .int 0), (0, .ref o), (1, .int b0)]) hx hb dL_tick_429 hl (by decide) rfl (fun ls hl => ?_)
  refine lv_aload_n hx hb dL_tick_431 rfl (lv_at hl 17 rfl) ?_
  refine lv_iload_n hx hb dL_tick_432 rfl (lv_at hl 18 rfl) ?_
  refine lv_iconst (v := 1) hx hb dL_tick_433 (by decide) ?_
  refine lw_i (rL (rest := []) ⟨hx, hb, hml, hown, hts⟩ (LB_pass_ok l G cA A o (u, v, f, g, L) n K ch hn b0 1 hb0 hb7 (by decide) (by decide) hT hG1 hBo) (cwV 2 hts gL_tick_X8_pass rfl rfl rfl mdX8_pass ⟨Nat.le_of_ble_eq_true rfl, Nat.le_of_ble_eq_true rfl⟩) hA hL rfl hl rfl (Nat.le_of_ble_eq_true rfl) dL_tick_434 ⟨Nat.le_of_ble_eq_true rfl, Nat.le_of_ble_eq_true rfl⟩) hA (fun r_434 _ H locs hr_434 hA hL => ?_)
  replace hL : LB G cA A o (u, v, (goF u v f g b0), (goG u v f g b0), (goL u v g L b0)) (recN n) K ch H := hL
  replace hr_434 : r_434 = (goG u v f g b0) 13 := hr_434
  subst hr_434
  refine lv_iload hx hb dL_tick_437 (lv_at hl 3 rfl) ?_
  refine lv_icmp_ne (tgt := 489) hx hb dL_tick_439 (by decide) (fun c_439 => absurd ht.1 c_439) (fun c_439 => ?_)
  refine lv_aload_n hx hb dL_tick_442 rfl (lv_at hl 17 rfl) ?_
  refine lr_f (rL (rest := []) ⟨hx, hb, hml, hown, hts⟩ (LB_place l G cA A o (u, v, (goF u v f g b0), (goG u v f g b0), (goL u v g L b0)) (recN n) K ch  ) (cwV 0 hts gL_tick_X8_place rfl rfl rfl mdX8_place ⟨Nat.le_of_ble_eq_true rfl, Nat.le_of_ble_eq_true rfl⟩) hA hL rfl hl rfl (Nat.le_of_ble_eq_true rfl) dL_tick_443 ⟨Nat.le_of_ble_eq_true rfl, Nat.le_of_ble_eq_true rfl⟩) hA hL (fun r_443 H locs hr_443 hA hL => ?_)
  replace hr_443 : r_443 = (goF u v f g b0) 7 := hr_443
  subst hr_443
  refine lv_fload hx hb dL_tick_446 (lv_at hl 2 rfl) ?_
  refine lv_fcmp hx hb dL_tick_448 ?_
  refine lv_if_ne (tgt := 489) hx hb dL_tick_449 (by decide) (fun c_449 => absurd (by rw [ht.2.2.2]; exact cmp_self (of_vf hf) _) c_449) (fun c_449 => ?_)
  refine lv_fload hx hb dL_tick_452 (lv_at hl 7 rfl) ?_
  refine lv_fload hx hb dL_tick_454 (lv_at hl 2 rfl) ?_
  refine lv_fcmp hx hb dL_tick_456 ?_
  refine lv_if_ne (tgt := 489) hx hb dL_tick_457 (by decide) (fun c_457 => absurd (by rw [ht.2.2.2]; exact cmp_self (of_vf hf) _) c_457) (fun c_457 => ?_)
  refine lv_aload_n hx hb dL_tick_460 rfl (lv_at hl 17 rfl) ?_
  refine lv_iconst (v := 1) hx hb dL_tick_461 (by decide) ?_
  refine lr_i (rL (rest := []) ⟨hx, hb, hml, hown, hts⟩ (LB_door l G cA A o (u, v, (goF u v f g b0), (goG u v f g b0), (goL u v g L b0)) (recN n) K ch 1 ) (cwV 1 hts gL_tick_X8_door rfl rfl rfl mdX8_door ⟨Nat.le_of_ble_eq_true rfl, Nat.le_of_ble_eq_true rfl⟩) hA hL rfl hl rfl (Nat.le_of_ble_eq_true rfl) dL_tick_462 ⟨Nat.le_of_ble_eq_true rfl, Nat.le_of_ble_eq_true rfl⟩) hA hL (fun r_462 H locs hr_462 hA hL => ?_)
  replace hr_462 : r_462 = (goG u v f g b0) 16 := hr_462
  subst hr_462
  refine lv_iload hx hb dL_tick_465 (lv_at hl 4 rfl) ?_
  refine lv_icmp_ne (tgt := 489) hx hb dL_tick_467 (by decide) (fun c_467 => absurd ht.2.1 c_467) (fun c_467 => ?_)
  refine lv_aload_n hx hb dL_tick_470 rfl (lv_at hl 17 rfl) ?_
  refine lv_iconst (v := 2) hx hb dL_tick_471 (by decide) ?_
  refine lr_i (rL (rest := []) ⟨hx, hb, hml, hown, hts⟩ (LB_door l G cA A o (u, v, (goF u v f g b0), (goG u v f g b0), (goL u v g L b0)) (recN n) K ch 2 ) (cwV 1 hts gL_tick_X8_door rfl rfl rfl mdX8_door ⟨Nat.le_of_ble_eq_true rfl, Nat.le_of_ble_eq_true rfl⟩) hA hL rfl hl rfl (Nat.le_of_ble_eq_true rfl) dL_tick_472 ⟨Nat.le_of_ble_eq_true rfl, Nat.le_of_ble_eq_true rfl⟩) hA hL (fun r_472 H locs hr_472 hA hL => ?_)
  replace hr_472 : r_472 = oneF ((goG u v f g b0) 17) := hr_472
  subst hr_472
  refine lv_iload hx hb dL_tick_475 (lv_at hl 0 rfl) ?_
  refine lv_if_eq (tgt := 484) hx hb dL_tick_477 (by decide) (fun _ => ?_) (fun h9 => absurd (by decide) h9)
  refine lv_iload hx hb dL_tick_484 (lv_at hl 12 rfl) ?_
  refine lv_icmp_eq (tgt := 491) hx hb dL_tick_486 (by decide) (fun c_486 => ?_) (fun c_486 => absurd (by rw [ht.2.2.1] <;> rfl) c_486)
  refine lv_iload hx hb dL_tick_491 (lv_at hl 5 rfl) ?_
  refine lv_if_eq (tgt := 554) hx hb dL_tick_493 (by decide) (fun _ => ?_) (fun h9 => absurd (by decide) h9)
  refine lv_iload_n hx hb dL_tick_554 rfl (lv_at hl 18 rfl) ?_
  refine lv_if_eq (tgt := 599) hx hb dL_tick_555 (by decide) (fun c_555 => absurd c_555 hbz) (fun c_555 => ?_)
  refine lv_aload_n hx hb dL_tick_558 rfl (lv_at hl 17 rfl) ?_
  refine lv_iconst (v := 0) hx hb dL_tick_559 (by decide) ?_
  refine lr_i (rL (rest := []) ⟨hx, hb, hml, hown, hts⟩ (LB_thing l G cA A o (u, v, (goF u v f g b0), (goG u v f g b0), (goL u v g L b0)) (recN n) K ch 0 hP2) (cwV 1 hts gL_tick_X8_thing rfl rfl rfl mdX8_thing ⟨Nat.le_of_ble_eq_true rfl, Nat.le_of_ble_eq_true rfl⟩) hA hL rfl hl rfl (Nat.le_of_ble_eq_true rfl) dL_tick_560 ⟨Nat.le_of_ble_eq_true rfl, Nat.le_of_ble_eq_true rfl⟩) hA hL (fun r_560 H locs hr_560 hA hL => ?_)
  replace hr_560 : r_560 = 1 := hr_560.trans ((th_0 h5).trans e7t)
  subst hr_560
  refine lv_iload hx hb dL_tick_563 (lv_at hl 11 rfl) ?_
  refine lv_if_ge (tgt := 572) hx hb dL_tick_565 (by decide) (fun h9 => absurd h9 (by decide)) (fun _ => ?_)
  refine lv_iconst (v := 1) hx hb dL_tick_568 (by decide) ?_
  refine lv_goto (tgt := 576) hx hb dL_tick_569 (by decide) ?_
  refine lv_icmp_ne (tgt := 603) hx hb dL_tick_576 (by decide) (fun h9 => absurd (by decide) h9) (fun _ => ?_)
  refine lv_aload_n hx hb dL_tick_579 rfl (lv_at hl 17 rfl) ?_
  refine lv_bipush (v := 6) hx hb dL_tick_580 (by decide) ?_
  refine lr_i (rL (rest := []) ⟨hx, hb, hml, hown, hts⟩ (LB_thing l G cA A o (u, v, (goF u v f g b0), (goG u v f g b0), (goL u v g L b0)) (recN n) K ch 6 hP2) (cwV 1 hts gL_tick_X8_thing rfl rfl rfl mdX8_thing ⟨Nat.le_of_ble_eq_true rfl, Nat.le_of_ble_eq_true rfl⟩) hA hL rfl hl rfl (Nat.le_of_ble_eq_true rfl) dL_tick_582 ⟨Nat.le_of_ble_eq_true rfl, Nat.le_of_ble_eq_true rfl⟩) hA hL (fun r_582 H locs hr_582 hA hL => ?_)
  replace hr_582 : r_582 = oneF ((goG u v f g b0) 12) := hr_582.trans (th_6 h5)
  subst hr_582
  refine lv_iload hx hb dL_tick_585 (lv_at hl 1 rfl) ?_
  refine lv_if_eq (tgt := 594) hx hb dL_tick_587 (by decide) (fun _ => ?_) (fun h9 => absurd (by decide) h9)
  refine lv_iload hx hb dL_tick_594 (lv_at hl 9 rfl) ?_
  refine lv_icmp_ne (tgt := 603) hx hb dL_tick_596 (by decide) (fun c_596 => absurd (by rw [ht12] <;> rfl) c_596) (fun c_596 => ?_)
  refine lv_iconst (v := 1) hx hb dL_tick_599 (by decide) ?_
  refine lv_goto (tgt := 604) hx hb dL_tick_600 (by decide) ?_
  exact en_l (post := fun r (_ : Unit) => r = 1) (B := fun _ H => LB G cA A o (u, v, (goF u v f g b0), (goG u v f g b0), (goL u v g L b0)) (recN n) K ch H) () hx hb hr hlocks hA rfl hL dL_tick_604
set_option maxHeartbeats 8000000 in
set_option maxRecDepth 100000 in
/-- tick(o, beams), in the state 1, case nb -/
theorem cL_tick_1_nb (l : Launch) (G : va_G) (cA : Nat → ClassId) (A : Nat → Prop) (o : Nat) (u : FF) (v : GG) (f : FF) (g L : GG) (n K : Nat) (ch : GG) (b0 : Int32) (hb0 : ¬ b0 < 0) (hb7 : ¬ 7 < b0) (hbz : ¬ b0 = 0) (hs : g 13 = 1) (hn : n ≤ 4) (hGo : GoOk u f g) (hPr : PrOk u g) (hP2 : PrOk u (goG u v f g b0)) (hT : ¬ 99999 < g 27 + nI 1) (hBo : Bo g) (hf : vf_n32 (f 7)) (hg : g 5 = 0) : Met l yL_tick wsL_tick ({ frames := 7, cells := 0, slots := 0, locals := 160 } : Room) (va_Pc [.ref o, .int b0] (LbP G cA A o (u, v, f, g, L) n K ch)) (va_Qi (fun r (_ : Unit) => r = 1) (fun _ t => LB G cA A o (u, v, (goF u v f g b0), (goG u v f g b0), (goL u v g L b0)) (recN n) K ch t.heap) A) 0 0 A := by
  refine ofW2 (cc := cL_tick) (maxL := 19) (ret := (some .boolean)) (own := RL) (by decide) rfl rfl (Nat.le_of_ble_eq_true rfl) rfl ?_
  intro p e s m below meth c ls hx hb hml hr hts hown hlocks hv hl
  obtain ⟨hE, hN, hL⟩ := hv
  have hA : At G cA A s s.heap [] := ⟨hE, hN, va_S.rf⟩
  obtain ⟨H, hH0⟩ : ∃ H, H = s.heap := ⟨_, rfl⟩
  rw [← hH0] at hL ⊢
  replace hA : At G cA A s H [] := by rw [hH0]; exact hA
  generalize ([] : List Loc) = locs at hA ⊢
  clear hH0
  replace hl : lv_has ls 19 [(0, .ref o), (1, .int b0)] := hl
  have hG1 : ∀ k, k < 1 → GoOk u (itS u v b0 (f, g, L) k).1 (itS u v b0 (f, g, L) k).2.1 := fun k hk => (show k = 0 by omega) ▸ hGo
  have ht := t_1 (b := b0) hs (u := u) (v := v) (f := f)
  have hp16 : preG u v g b0 16 = g 16 := pre_16b hbz
  have hk5 : (preG u v g b0) 5 = 1 := by rw [pre_b hbz]; exact (show (if g 5 = 0 then 1 else g 5) = 1 by rw [if_pos hg])
  have hk7 : (preG u v g b0) 7 = 1 := by rw [pre_b hbz]; show (if g 5 = 0 then 0 else g 7) + 1 = _; rw [if_pos hg]; rfl
  have hk12 : (preG u v g b0) 12 = 0 := by rw [pre_b hbz]; show (if g 5 = 0 then 0 else g 12) = _; rw [if_pos hg]
  have h5e : (goG u v f g b0) 5 = (preG u v g b0) 5 := mv_5
  have e7e : (goG u v f g b0) 7 = (preG u v g b0) 7 := mv_7
  have ht12 : (goG u v f g b0) 12 = 0 := (go_G (by decide)).trans (by rw [(mv_1 (pre_13.trans hs)).1]; exact hk12)
  have h5 : ¬ (goG u v f g b0) 5 = 0 := by rw [h5e, hk5]; decide
  have e7t := e7e.trans hk7
  refine lv_aload_n hx hb dL_tick_0 rfl (lv_at hl 0 rfl) ?_
  refine lv_iconst (v := 0) hx hb dL_tick_1 (by decide) ?_
  refine lr_i (rL (rest := []) ⟨hx, hb, hml, hown, hts⟩ (LB_door l G cA A o (u, v, f, g, L) n K ch 0 ) (cwV 1 hts gL_tick_X8_door rfl rfl rfl mdX8_door ⟨Nat.le_of_ble_eq_true rfl, Nat.le_of_ble_eq_true rfl⟩) hA hL rfl hl rfl (Nat.le_of_ble_eq_true rfl) dL_tick_2 ⟨Nat.le_of_ble_eq_true rfl, Nat.le_of_ble_eq_true rfl⟩) hA hL (fun r_2 H locs hr_2 hA hL => ?_)
  replace hr_2 : r_2 = 1 := hr_2.trans hs
  subst hr_2
  refine lv_istore_n (lv' := [(2, .int 1), (0, .ref o), (1, .int b0)]) hx hb dL_tick_5 rfl hl (by decide) rfl (fun ls hl => ?_)
  refine lv_aload_n hx hb dL_tick_6 rfl (lv_at hl 1 rfl) ?_
  refine lr_f (rL (rest := []) ⟨hx, hb, hml, hown, hts⟩ (LB_place l G cA A o (u, v, f, g, L) n K ch  ) (cwV 0 hts gL_tick_X8_place rfl rfl rfl mdX8_place ⟨Nat.le_of_ble_eq_true rfl, Nat.le_of_ble_eq_true rfl⟩) hA hL rfl hl rfl (Nat.le_of_ble_eq_true rfl) dL_tick_7 ⟨Nat.le_of_ble_eq_true rfl, Nat.le_of_ble_eq_true rfl⟩) hA hL (fun r_7 H locs hr_7 hA hL => ?_)
  replace hr_7 : r_7 = f 7 := hr_7
  subst hr_7
  refine lv_fstore_n (lv' := [(3, .float (f 7)), (2, .int 1), (0, .ref o), (1, .int b0)]) hx hb dL_tick_10 rfl hl (by decide) rfl (fun ls hl => ?_)
  refine lv_aload_n hx hb dL_tick_11 rfl (lv_at hl 2 rfl) ?_
  refine lv_iconst (v := 1) hx hb dL_tick_12 (by decide) ?_
  refine lr_i (rL (rest := []) ⟨hx, hb, hml, hown, hts⟩ (LB_door l G cA A o (u, v, f, g, L) n K ch 1 ) (cwV 1 hts gL_tick_X8_door rfl rfl rfl mdX8_door ⟨Nat.le_of_ble_eq_true rfl, Nat.le_of_ble_eq_true rfl⟩) hA hL rfl hl rfl (Nat.le_of_ble_eq_true rfl) dL_tick_13 ⟨Nat.le_of_ble_eq_true rfl, Nat.le_of_ble_eq_true rfl⟩) hA hL (fun r_13 H locs hr_13 hA hL => ?_)
  replace hr_13 : r_13 = g 16 := hr_13
  subst hr_13
  refine lv_istore (lv' := [(4, .int (g 16)), (3, .float (f 7)), (2, .int 1), (0, .ref o), (1, .int b0)]) hx hb dL_tick_16 hl (by decide) rfl (fun ls hl => ?_)
  refine lv_aload_n hx hb dL_tick_18 rfl (lv_at hl 3 rfl) ?_
  refine lv_iconst (v := 3) hx hb dL_tick_19 (by decide) ?_
  refine lr_i (rL (rest := []) ⟨hx, hb, hml, hown, hts⟩ (LB_door l G cA A o (u, v, f, g, L) n K ch 3 ) (cwV 1 hts gL_tick_X8_door rfl rfl rfl mdX8_door ⟨Nat.le_of_ble_eq_true rfl, Nat.le_of_ble_eq_true rfl⟩) hA hL rfl hl rfl (Nat.le_of_ble_eq_true rfl) dL_tick_20 ⟨Nat.le_of_ble_eq_true rfl, Nat.le_of_ble_eq_true rfl⟩) hA hL (fun r_20 H locs hr_20 hA hL => ?_)
  rw [show doF f g 3 = 0 from (by show (if g 13 = 2 then g 14 else 0) = 0; rw [if_neg (by rw [hs]; decide)])] at hr_20
  subst hr_20
  refine lv_istore (lv' := [(5, .int 0), (4, .int (g 16)), (3, .float (f 7)), (2, .int 1), (0, .ref o), (1, .int b0)]) hx hb dL_tick_23 hl (by decide) rfl (fun ls hl => ?_)
  refine lv_aload_n hx hb dL_tick_25 rfl (lv_at hl 4 rfl) ?_
  refine lv_iconst (v := 4) hx hb dL_tick_26 (by decide) ?_
  refine lr_i (rL (rest := []) ⟨hx, hb, hml, hown, hts⟩ (LB_door l G cA A o (u, v, f, g, L) n K ch 4 ) (cwV 1 hts gL_tick_X8_door rfl rfl rfl mdX8_door ⟨Nat.le_of_ble_eq_true rfl, Nat.le_of_ble_eq_true rfl⟩) hA hL rfl hl rfl (Nat.le_of_ble_eq_true rfl) dL_tick_27 ⟨Nat.le_of_ble_eq_true rfl, Nat.le_of_ble_eq_true rfl⟩) hA hL (fun r_27 H locs hr_27 hA hL => ?_)
  rw [show doF f g 4 = 0 from (by show (if g 13 = 3 then g 15 else 0) = 0; rw [if_neg (by rw [hs]; decide)])] at hr_27
  subst hr_27
  refine lv_istore (lv' := [(6, .int 0), (5, .int 0), (4, .int (g 16)), (3, .float (f 7)), (2, .int 1), (0, .ref o), (1, .int b0)]) hx hb dL_tick_30 hl (by decide) rfl (fun ls hl => ?_)
  refine lv_aload_n hx hb dL_tick_32 rfl (lv_at hl 5 rfl) ?_
  refine lv_iconst (v := 2) hx hb dL_tick_33 (by decide) ?_
  refine lr_i (rL (rest := []) ⟨hx, hb, hml, hown, hts⟩ (LB_door l G cA A o (u, v, f, g, L) n K ch 2 ) (cwV 1 hts gL_tick_X8_door rfl rfl rfl mdX8_door ⟨Nat.le_of_ble_eq_true rfl, Nat.le_of_ble_eq_true rfl⟩) hA hL rfl hl rfl (Nat.le_of_ble_eq_true rfl) dL_tick_34 ⟨Nat.le_of_ble_eq_true rfl, Nat.le_of_ble_eq_true rfl⟩) hA hL (fun r_34 H locs hr_34 hA hL => ?_)
  replace hr_34 : r_34 = oneF (g 17) := hr_34
  subst hr_34
  refine lv_istore (lv' := [(7, .int (oneF (g 17))), (6, .int 0), (5, .int 0), (4, .int (g 16)), (3, .float (f 7)), (2, .int 1), (0, .ref o), (1, .int b0)]) hx hb dL_tick_37 hl (by decide) rfl (fun ls hl => ?_)
  refine lv_aload_n hx hb dL_tick_39 rfl (lv_at hl 6 rfl) ?_
  refine lv_iconst (v := 0) hx hb dL_tick_40 (by decide) ?_
  refine lr_i (rL (rest := []) ⟨hx, hb, hml, hown, hts⟩ (LB_thing l G cA A o (u, v, f, g, L) n K ch 0 hPr) (cwV 1 hts gL_tick_X8_thing rfl rfl rfl mdX8_thing ⟨Nat.le_of_ble_eq_true rfl, Nat.le_of_ble_eq_true rfl⟩) hA hL rfl hl rfl (Nat.le_of_ble_eq_true rfl) dL_tick_41 ⟨Nat.le_of_ble_eq_true rfl, Nat.le_of_ble_eq_true rfl⟩) hA hL (fun r_41 H locs hr_41 hA hL => ?_)
  replace hr_41 : r_41 = -5 := hr_41.trans (th_none 0 (by decide) (by decide) hg)
  subst hr_41
  refine lv_istore (lv' := [(8, .int (-5)), (7, .int (oneF (g 17))), (6, .int 0), (5, .int 0), (4, .int (g 16)), (3, .float (f 7)), (2, .int 1), (0, .ref o), (1, .int b0)]) hx hb dL_tick_44 hl (by decide) rfl (fun ls hl => ?_)
  refine lv_iload hx hb dL_tick_46 (lv_at hl 0 rfl) ?_
  refine lv_if_ge (tgt := 55) hx hb dL_tick_48 (by decide) (fun h9 => absurd h9 (by decide)) (fun _ => ?_)
  refine lv_iconst (v := 0) hx hb dL_tick_51 (by decide) ?_
  refine lv_goto (tgt := 60) hx hb dL_tick_52 (by decide) ?_
  refine lv_istore (lv' := [(9, .int 0), (8, .int (-5)), (7, .int (oneF (g 17))), (6, .int 0), (5, .int 0), (4, .int (g 16)), (3, .float (f 7)), (2, .int 1), (0, .ref o), (1, .int b0)]) hx hb dL_tick_60 hl (by decide) rfl (fun ls hl => ?_)
  refine lv_iload hx hb dL_tick_62 (lv_at hl 1 rfl) ?_
  refine lv_if_ge (tgt := 71) hx hb dL_tick_64 (by decide) (fun h9 => absurd h9 (by decide)) (fun _ => ?_)
  refine lv_iconst (v := 0) hx hb dL_tick_67 (by decide) ?_
  refine lv_goto (tgt := 77) hx hb dL_tick_68 (by decide) ?_
  refine lv_istore (lv' := [(10, .int 0), (9, .int 0), (8, .int (-5)), (7, .int (oneF (g 17))), (6, .int 0), (5, .int 0), (4, .int (g 16)), (3, .float (f 7)), (2, .int 1), (0, .ref o), (1, .int b0)]) hx hb dL_tick_77 hl (by decide) rfl (fun ls hl => ?_)
  refine lv_iload hx hb dL_tick_79 (lv_at hl 2 rfl) ?_
  refine lv_if_ge (tgt := 88) hx hb dL_tick_81 (by decide) (fun h9 => absurd h9 (by decide)) (fun _ => ?_)
  refine lv_iconst (v := 0) hx hb dL_tick_84 (by decide) ?_
  refine lv_goto (tgt := 94) hx hb dL_tick_85 (by decide) ?_
  refine lv_istore (lv' := [(11, .int 0), (10, .int 0), (9, .int 0), (8, .int (-5)), (7, .int (oneF (g 17))), (6, .int 0), (5, .int 0), (4, .int (g 16)), (3, .float (f 7)), (2, .int 1), (0, .ref o), (1, .int b0)]) hx hb dL_tick_94 hl (by decide) rfl (fun ls hl => ?_)
  refine lv_aload_n hx hb dL_tick_96 rfl (lv_at hl 10 rfl) ?_
  refine lv_iload_n hx hb dL_tick_97 rfl (lv_at hl 11 rfl) ?_
  refine lv_iconst (v := 1) hx hb dL_tick_98 (by decide) ?_
  refine lw_f (rL (rest := []) ⟨hx, hb, hml, hown, hts⟩ (LB_placeIn_ok l G cA A o (u, v, f, g, L) n K ch b0 1 hb0 hb7 (by decide) hG1) (cwV 2 hts gL_tick_X8_placeIn rfl rfl rfl mdX8_placeIn ⟨Nat.le_of_ble_eq_true rfl, Nat.le_of_ble_eq_true rfl⟩) hA hL rfl hl rfl (Nat.le_of_ble_eq_true rfl) dL_tick_99 ⟨Nat.le_of_ble_eq_true rfl, Nat.le_of_ble_eq_true rfl⟩) hA (fun r_99 _ H locs hr_99 hA hL => ?_)
  replace hL : LB G cA A o (u, v, f, g, L) n K ch H := hL
  replace hr_99 : r_99 = (goF u v f g b0) 7 := hr_99
  subst hr_99
  refine lv_fstore (lv' := [(12, .float ((goF u v f g b0) 7)), (11, .int 0), (10, .int 0), (9, .int 0), (8, .int (-5)), (7, .int (oneF (g 17))), (6, .int 0), (5, .int 0), (4, .int (g 16)), (3, .float (f 7)), (2, .int 1), (0, .ref o), (1, .int b0)]) hx hb dL_tick_102 hl (by decide) rfl (fun ls hl => ?_)
  refine lv_aload_n hx hb dL_tick_104 rfl (lv_at hl 11 rfl) ?_
  refine lv_iload hx hb dL_tick_105 (lv_at hl 1 rfl) ?_
  refine lv_iconst (v := 1) hx hb dL_tick_107 (by decide) ?_
  refine lv_iadd hx hb dL_tick_108 ?_
  refine W.eq (g2 := F0 m 109 ls [.int 1, .ref o]) rfl ?_
  refine lr_i (rL (rest := []) ⟨hx, hb, hml, hown, hts⟩ (LB_count l G cA A o (u, v, f, g, L) n K ch 1) (cwV 1 hts gL_tick_X8_count rfl rfl rfl mdX8_count ⟨Nat.le_of_ble_eq_true rfl, Nat.le_of_ble_eq_true rfl⟩) hA hL rfl hl rfl (Nat.le_of_ble_eq_true rfl) dL_tick_109 ⟨Nat.le_of_ble_eq_true rfl, Nat.le_of_ble_eq_true rfl⟩) hA hL (fun r_109 H locs hr_109 hA hL => ?_)
  replace hr_109 : r_109 = g 19 := hr_109
  subst hr_109
  refine lv_istore (lv' := [(13, .int (g 19)), (12, .float ((goF u v f g b0) 7)), (11, .int 0), (10, .int 0), (9, .int 0), (8, .int (-5)), (7, .int (oneF (g 17))), (6, .int 0), (5, .int 0), (4, .int (g 16)), (3, .float (f 7)), (2, .int 1), (0, .ref o), (1, .int b0)]) hx hb dL_tick_112 hl (by decide) rfl (fun ls hl => ?_)
  refine lv_iload hx hb dL_tick_114 (lv_at hl 5 rfl) ?_
  refine lv_if_le (tgt := 139) hx hb dL_tick_116 (by decide) (fun _ => ?_) (fun h9 => absurd (by decide) h9)
  refine lv_iconst (v := 0) hx hb dL_tick_139 (by decide) ?_
  refine lv_istore (lv' := [(14, .int 0), (13, .int (g 19)), (12, .float ((goF u v f g b0) 7)), (11, .int 0), (10, .int 0), (9, .int 0), (8, .int (-5)), (7, .int (oneF (g 17))), (6, .int 0), (5, .int 0), (4, .int (g 16)), (3, .float (f 7)), (2, .int 1), (0, .ref o), (1, .int b0)]) hx hb dL_tick_140 hl (by decide) rfl (fun ls hl => ?_)
  refine lv_iload hx hb dL_tick_142 (lv_at hl 10 rfl) ?_
  refine lv_iload hx hb dL_tick_144 (lv_at hl 0 rfl) ?_
  refine lv_if_eq (tgt := 169) hx hb dL_tick_146 (by decide) (fun _ => ?_) (fun h9 => absurd (by decide) h9)
  refine lv_iconst (v := 0) hx hb dL_tick_169 (by decide) ?_
  refine lv_isub hx hb dL_tick_170 ?_
  refine W.eq (g2 := F0 m 171 ls [.int (preG u v g b0 16)]) (by rw [hp16, Int32.sub_zero]) ?_
  refine lv_istore (lv' := [(4, .int (preG u v g b0 16)), (14, .int 0), (13, .int (g 19)), (12, .float ((goF u v f g b0) 7)), (11, .int 0), (10, .int 0), (9, .int 0), (8, .int (-5)), (7, .int (oneF (g 17))), (6, .int 0), (5, .int 0), (3, .float (f 7)), (2, .int 1), (0, .ref o), (1, .int b0)]) hx hb dL_tick_171 hl (by decide) rfl (fun ls hl => ?_)
  refine lv_iload_n hx hb dL_tick_173 rfl (lv_at hl 12 rfl) ?_
  refine lv_istore (lv' := [(15, .int 1), (4, .int (preG u v g b0 16)), (14, .int 0), (13, .int (g 19)), (12, .float ((goF u v f g b0) 7)), (11, .int 0), (10, .int 0), (9, .int 0), (8, .int (-5)), (7, .int (oneF (g 17))), (6, .int 0), (5, .int 0), (3, .float (f 7)), (2, .int 1), (0, .ref o), (1, .int b0)]) hx hb dL_tick_174 hl (by decide) rfl (fun ls hl => ?_)
  refine lv_fload_n hx hb dL_tick_176 rfl (lv_at hl 12 rfl) ?_
  refine lv_fstore (lv' := [(16, .float (f 7)), (15, .int 1), (4, .int (preG u v g b0 16)), (14, .int 0), (13, .int (g 19)), (12, .float ((goF u v f g b0) 7)), (11, .int 0), (10, .int 0), (9, .int 0), (8, .int (-5)), (7, .int (oneF (g 17))), (6, .int 0), (5, .int 0), (3, .float (f 7)), (2, .int 1), (0, .ref o), (1, .int b0)]) hx hb dL_tick_177 hl (by decide) rfl (fun ls hl => ?_)
  refine lv_iload_n hx hb dL_tick_179 rfl (lv_at hl 14 rfl) ?_
  refine lv_iconst (v := 1) hx hb dL_tick_180 (by decide) ?_
  refine lv_icmp_ne (tgt := 228) hx hb dL_tick_181 (by decide) (fun h9 => absurd (by decide) h9) (fun _ => ?_)
  refine lv_fload_n hx hb dL_tick_184 rfl (lv_at hl 13 rfl) ?_
  refine lv_aload_n hx hb dL_tick_185 rfl (lv_at hl 15 rfl) ?_
  refine lv_iconst (v := 0) hx hb dL_tick_186 (by decide) ?_
  refine lr_f (rL (rest := [.float (f 7)]) ⟨hx, hb, hml, hown, hts⟩ (LB_speed l G cA A o (u, v, f, g, L) n K ch 0 ) (cwV 1 hts gL_tick_X8_speed rfl rfl rfl mdX8_speed ⟨Nat.le_of_ble_eq_true rfl, Nat.le_of_ble_eq_true rfl⟩) hA hL rfl hl rfl (Nat.le_of_ble_eq_true rfl) dL_tick_187 ⟨Nat.le_of_ble_eq_true rfl, Nat.le_of_ble_eq_true rfl⟩) hA hL (fun r_187 H locs hr_187 hA hL => ?_)
  replace hr_187 : r_187 = u 0 := hr_187
  subst hr_187
  refine lv_fadd hx hb dL_tick_190 (hGo.2.1) ?_
  refine lv_fstore (lv' := [(16, .float (FP.fadd (f 7) (u 0))), (15, .int 1), (4, .int (preG u v g b0 16)), (14, .int 0), (13, .int (g 19)), (12, .float ((goF u v f g b0) 7)), (11, .int 0), (10, .int 0), (9, .int 0), (8, .int (-5)), (7, .int (oneF (g 17))), (6, .int 0), (5, .int 0), (3, .float (f 7)), (2, .int 1), (0, .ref o), (1, .int b0)]) hx hb dL_tick_191 hl (by decide) rfl (fun ls hl => ?_)
  refine lv_fload hx hb dL_tick_193 (lv_at hl 0 rfl) ?_
  refine lv_ldcf hx hb hown (hts (.constantFloat RL 32 (1120403456)) (by decide +kernel)) dL_tick_195 ?_
  refine lv_fcmp hx hb dL_tick_197 ?_
  refine lv_if_lt (tgt := 205) hx hb dL_tick_198 (by decide) (fun c_198 => ?_) (fun c_198 => ?_)
  · skip
    refine lv_iconst (v := 1) hx hb dL_tick_205 (by decide) ?_
    refine lv_istore (lv' := [(15, .int 1), (16, .float (FP.fadd (f 7) (u 0))), (4, .int (preG u v g b0 16)), (14, .int 0), (13, .int (g 19)), (12, .float ((goF u v f g b0) 7)), (11, .int 0), (10, .int 0), (9, .int 0), (8, .int (-5)), (7, .int (oneF (g 17))), (6, .int 0), (5, .int 0), (3, .float (f 7)), (2, .int 1), (0, .ref o), (1, .int b0)]) hx hb dL_tick_206 hl (by decide) rfl (fun ls hl => ?_)
    refine lv_fload hx hb dL_tick_208 (lv_at hl 1 rfl) ?_
    refine lv_ldcf hx hb hown (hts (.constantFloat RL 32 (1120403456)) (by decide +kernel)) dL_tick_210 ?_
    refine lv_fcmp hx hb dL_tick_212 ?_
    refine lv_if_lt (tgt := 221) hx hb dL_tick_213 (by decide) (fun c_213 => ?_) (fun c_213 => absurd c_198 c_213)
    refine lv_fload hx hb dL_tick_221 (lv_at hl 1 rfl) ?_
    refine lv_fstore (lv' := [(16, .float (FP.fadd (f 7) (u 0))), (15, .int 1), (4, .int (preG u v g b0 16)), (14, .int 0), (13, .int (g 19)), (12, .float ((goF u v f g b0) 7)), (11, .int 0), (10, .int 0), (9, .int 0), (8, .int (-5)), (7, .int (oneF (g 17))), (6, .int 0), (5, .int 0), (3, .float (f 7)), (2, .int 1), (0, .ref o), (1, .int b0)]) hx hb dL_tick_223 hl (by decide) rfl (fun ls hl => ?_)
    refine lv_goto (tgt := 385) hx hb dL_tick_225 (by decide) ?_
    refine lv_iload_n hx hb dL_tick_385 rfl (lv_at hl 14 rfl) ?_
    refine lv_iconst (v := 3) hx hb dL_tick_386 (by decide) ?_
    refine lv_icmp_ne (tgt := 400) hx hb dL_tick_387 (by decide) (fun _ => ?_) (fun h9 => absurd h9 (by decide))
    refine lv_iconst (v := 0) hx hb dL_tick_400 (by decide) ?_
    refine lv_istore (lv' := [(17, .int 0), (16, .float (FP.fadd (f 7) (u 0))), (15, .int 1), (4, .int (preG u v g b0 16)), (14, .int 0), (13, .int (g 19)), (12, .float ((goF u v f g b0) 7)), (11, .int 0), (10, .int 0), (9, .int 0), (8, .int (-5)), (7, .int (oneF (g 17))), (6, .int 0), (5, .int 0), (3, .float (f 7)), (2, .int 1), (0, .ref o), (1, .int b0)]) hx hb dL_tick_401 hl (by decide) rfl (fun ls hl => ?_)
    refine lv_iload hx hb dL_tick_403 (lv_at hl 0 rfl) ?_
    refine lv_if_eq (tgt := 428) hx hb dL_tick_405 (by decide) (fun _ => ?_) (fun h9 => absurd (by decide) h9)
    refine lv_iconst (v := 0) hx hb dL_tick_428 (by decide) ?_
    refine lv_istore (lv' := [(18, .int 0), (17, .int 0), (16, .float (FP.fadd (f 7) (u 0))), (15, .int 1), (4, .int (preG u v g b0 16)), (14, .int 0), (13, .int (g 19)), (12, .float ((goF u v f g b0) 7)), (11, .int 0), (10, .int 0), (9, .int 0), (8, .int (-5)), (7, .int (oneF (g 17))), (6, .int 0), (5, .int 0), (3, .float (f 7)), (2, .int 1), (0, .ref o), (1, .int b0)]) hx hb dL_tick_429 hl (by decide) rfl (fun ls hl => ?_)
    refine lv_aload_n hx hb dL_tick_431 rfl (lv_at hl 17 rfl) ?_
    refine lv_iload_n hx hb dL_tick_432 rfl (lv_at hl 18 rfl) ?_
    refine lv_iconst (v := 1) hx hb dL_tick_433 (by decide) ?_
    refine lw_i (rL (rest := []) ⟨hx, hb, hml, hown, hts⟩ (LB_pass_ok l G cA A o (u, v, f, g, L) n K ch hn b0 1 hb0 hb7 (by decide) (by decide) hT hG1 hBo) (cwV 2 hts gL_tick_X8_pass rfl rfl rfl mdX8_pass ⟨Nat.le_of_ble_eq_true rfl, Nat.le_of_ble_eq_true rfl⟩) hA hL rfl hl rfl (Nat.le_of_ble_eq_true rfl) dL_tick_434 ⟨Nat.le_of_ble_eq_true rfl, Nat.le_of_ble_eq_true rfl⟩) hA (fun r_434 _ H locs hr_434 hA hL => ?_)
    replace hL : LB G cA A o (u, v, (goF u v f g b0), (goG u v f g b0), (goL u v g L b0)) (recN n) K ch H := hL
    replace hr_434 : r_434 = (goG u v f g b0) 13 := hr_434
    subst hr_434
    refine lv_iload hx hb dL_tick_437 (lv_at hl 3 rfl) ?_
    refine lv_icmp_ne (tgt := 489) hx hb dL_tick_439 (by decide) (fun c_439 => absurd (ht.1.trans (if_pos c_198)) c_439) (fun c_439 => ?_)
    refine lv_aload_n hx hb dL_tick_442 rfl (lv_at hl 17 rfl) ?_
    refine lr_f (rL (rest := []) ⟨hx, hb, hml, hown, hts⟩ (LB_place l G cA A o (u, v, (goF u v f g b0), (goG u v f g b0), (goL u v g L b0)) (recN n) K ch  ) (cwV 0 hts gL_tick_X8_place rfl rfl rfl mdX8_place ⟨Nat.le_of_ble_eq_true rfl, Nat.le_of_ble_eq_true rfl⟩) hA hL rfl hl rfl (Nat.le_of_ble_eq_true rfl) dL_tick_443 ⟨Nat.le_of_ble_eq_true rfl, Nat.le_of_ble_eq_true rfl⟩) hA hL (fun r_443 H locs hr_443 hA hL => ?_)
    replace hr_443 : r_443 = (goF u v f g b0) 7 := hr_443
    subst hr_443
    refine lv_fload hx hb dL_tick_446 (lv_at hl 2 rfl) ?_
    refine lv_fcmp hx hb dL_tick_448 ?_
    refine lv_if_ne (tgt := 489) hx hb dL_tick_449 (by decide) (fun c_449 => absurd (by rw [(ht.2.2.2.trans (if_pos c_198))]; exact cmp_self (of_vf hGo.2.1) _) c_449) (fun c_449 => ?_)
    refine lv_fload hx hb dL_tick_452 (lv_at hl 7 rfl) ?_
    refine lv_fload hx hb dL_tick_454 (lv_at hl 2 rfl) ?_
    refine lv_fcmp hx hb dL_tick_456 ?_
    refine lv_if_ne (tgt := 489) hx hb dL_tick_457 (by decide) (fun c_457 => absurd (by rw [(ht.2.2.2.trans (if_pos c_198))]; exact cmp_self (of_vf hGo.2.1) _) c_457) (fun c_457 => ?_)
    refine lv_aload_n hx hb dL_tick_460 rfl (lv_at hl 17 rfl) ?_
    refine lv_iconst (v := 1) hx hb dL_tick_461 (by decide) ?_
    refine lr_i (rL (rest := []) ⟨hx, hb, hml, hown, hts⟩ (LB_door l G cA A o (u, v, (goF u v f g b0), (goG u v f g b0), (goL u v g L b0)) (recN n) K ch 1 ) (cwV 1 hts gL_tick_X8_door rfl rfl rfl mdX8_door ⟨Nat.le_of_ble_eq_true rfl, Nat.le_of_ble_eq_true rfl⟩) hA hL rfl hl rfl (Nat.le_of_ble_eq_true rfl) dL_tick_462 ⟨Nat.le_of_ble_eq_true rfl, Nat.le_of_ble_eq_true rfl⟩) hA hL (fun r_462 H locs hr_462 hA hL => ?_)
    replace hr_462 : r_462 = (goG u v f g b0) 16 := hr_462
    subst hr_462
    refine lv_iload hx hb dL_tick_465 (lv_at hl 4 rfl) ?_
    refine lv_icmp_ne (tgt := 489) hx hb dL_tick_467 (by decide) (fun c_467 => absurd ht.2.1 c_467) (fun c_467 => ?_)
    refine lv_aload_n hx hb dL_tick_470 rfl (lv_at hl 17 rfl) ?_
    refine lv_iconst (v := 2) hx hb dL_tick_471 (by decide) ?_
    refine lr_i (rL (rest := []) ⟨hx, hb, hml, hown, hts⟩ (LB_door l G cA A o (u, v, (goF u v f g b0), (goG u v f g b0), (goL u v g L b0)) (recN n) K ch 2 ) (cwV 1 hts gL_tick_X8_door rfl rfl rfl mdX8_door ⟨Nat.le_of_ble_eq_true rfl, Nat.le_of_ble_eq_true rfl⟩) hA hL rfl hl rfl (Nat.le_of_ble_eq_true rfl) dL_tick_472 ⟨Nat.le_of_ble_eq_true rfl, Nat.le_of_ble_eq_true rfl⟩) hA hL (fun r_472 H locs hr_472 hA hL => ?_)
    replace hr_472 : r_472 = oneF ((goG u v f g b0) 17) := hr_472
    subst hr_472
    refine lv_iload hx hb dL_tick_475 (lv_at hl 0 rfl) ?_
    refine lv_if_eq (tgt := 484) hx hb dL_tick_477 (by decide) (fun _ => ?_) (fun h9 => absurd (by decide) h9)
    refine lv_iload hx hb dL_tick_484 (lv_at hl 12 rfl) ?_
    refine lv_icmp_eq (tgt := 491) hx hb dL_tick_486 (by decide) (fun c_486 => ?_) (fun c_486 => absurd (by rw [ht.2.2.1] <;> rfl) c_486)
    refine lv_iload hx hb dL_tick_491 (lv_at hl 5 rfl) ?_
    refine lv_if_eq (tgt := 554) hx hb dL_tick_493 (by decide) (fun _ => ?_) (fun h9 => absurd (by decide) h9)
    refine lv_iload_n hx hb dL_tick_554 rfl (lv_at hl 18 rfl) ?_
    refine lv_if_eq (tgt := 599) hx hb dL_tick_555 (by decide) (fun c_555 => absurd c_555 hbz) (fun c_555 => ?_)
    refine lv_aload_n hx hb dL_tick_558 rfl (lv_at hl 17 rfl) ?_
    refine lv_iconst (v := 0) hx hb dL_tick_559 (by decide) ?_
    refine lr_i (rL (rest := []) ⟨hx, hb, hml, hown, hts⟩ (LB_thing l G cA A o (u, v, (goF u v f g b0), (goG u v f g b0), (goL u v g L b0)) (recN n) K ch 0 hP2) (cwV 1 hts gL_tick_X8_thing rfl rfl rfl mdX8_thing ⟨Nat.le_of_ble_eq_true rfl, Nat.le_of_ble_eq_true rfl⟩) hA hL rfl hl rfl (Nat.le_of_ble_eq_true rfl) dL_tick_560 ⟨Nat.le_of_ble_eq_true rfl, Nat.le_of_ble_eq_true rfl⟩) hA hL (fun r_560 H locs hr_560 hA hL => ?_)
    replace hr_560 : r_560 = 1 := hr_560.trans ((th_0 h5).trans e7t)
    subst hr_560
    refine lv_iload hx hb dL_tick_563 (lv_at hl 11 rfl) ?_
    refine lv_if_ge (tgt := 572) hx hb dL_tick_565 (by decide) (fun h9 => absurd h9 (by decide)) (fun _ => ?_)
    refine lv_iconst (v := 1) hx hb dL_tick_568 (by decide) ?_
    refine lv_goto (tgt := 576) hx hb dL_tick_569 (by decide) ?_
    refine lv_icmp_ne (tgt := 603) hx hb dL_tick_576 (by decide) (fun h9 => absurd (by decide) h9) (fun _ => ?_)
    refine lv_aload_n hx hb dL_tick_579 rfl (lv_at hl 17 rfl) ?_
    refine lv_bipush (v := 6) hx hb dL_tick_580 (by decide) ?_
    refine lr_i (rL (rest := []) ⟨hx, hb, hml, hown, hts⟩ (LB_thing l G cA A o (u, v, (goF u v f g b0), (goG u v f g b0), (goL u v g L b0)) (recN n) K ch 6 hP2) (cwV 1 hts gL_tick_X8_thing rfl rfl rfl mdX8_thing ⟨Nat.le_of_ble_eq_true rfl, Nat.le_of_ble_eq_true rfl⟩) hA hL rfl hl rfl (Nat.le_of_ble_eq_true rfl) dL_tick_582 ⟨Nat.le_of_ble_eq_true rfl, Nat.le_of_ble_eq_true rfl⟩) hA hL (fun r_582 H locs hr_582 hA hL => ?_)
    replace hr_582 : r_582 = oneF ((goG u v f g b0) 12) := hr_582.trans (th_6 h5)
    subst hr_582
    refine lv_iload hx hb dL_tick_585 (lv_at hl 1 rfl) ?_
    refine lv_if_eq (tgt := 594) hx hb dL_tick_587 (by decide) (fun _ => ?_) (fun h9 => absurd (by decide) h9)
    refine lv_iload hx hb dL_tick_594 (lv_at hl 9 rfl) ?_
    refine lv_icmp_ne (tgt := 603) hx hb dL_tick_596 (by decide) (fun c_596 => absurd (by rw [ht12] <;> rfl) c_596) (fun c_596 => ?_)
    refine lv_iconst (v := 1) hx hb dL_tick_599 (by decide) ?_
    refine lv_goto (tgt := 604) hx hb dL_tick_600 (by decide) ?_
    exact en_l (post := fun r (_ : Unit) => r = 1) (B := fun _ H => LB G cA A o (u, v, (goF u v f g b0), (goG u v f g b0), (goL u v g L b0)) (recN n) K ch H) () hx hb hr hlocks hA rfl hL dL_tick_604
  · skip
    refine lv_iconst (v := 2) hx hb dL_tick_201 (by decide) ?_
    refine lv_goto (tgt := 206) hx hb dL_tick_202 (by decide) ?_
    refine lv_istore (lv' := [(15, .int 2), (16, .float (FP.fadd (f 7) (u 0))), (4, .int (preG u v g b0 16)), (14, .int 0), (13, .int (g 19)), (12, .float ((goF u v f g b0) 7)), (11, .int 0), (10, .int 0), (9, .int 0), (8, .int (-5)), (7, .int (oneF (g 17))), (6, .int 0), (5, .int 0), (3, .float (f 7)), (2, .int 1), (0, .ref o), (1, .int b0)]) hx hb dL_tick_206 hl (by decide) rfl (fun ls hl => ?_)
    refine lv_fload hx hb dL_tick_208 (lv_at hl 1 rfl) ?_
    refine lv_ldcf hx hb hown (hts (.constantFloat RL 32 (1120403456)) (by decide +kernel)) dL_tick_210 ?_
    refine lv_fcmp hx hb dL_tick_212 ?_
    refine lv_if_lt (tgt := 221) hx hb dL_tick_213 (by decide) (fun c_213_1 => absurd c_213_1 c_198) (fun c_213_1 => ?_)
    refine lv_ldcf hx hb hown (hts (.constantFloat RL 32 (1120403456)) (by decide +kernel)) dL_tick_216 ?_
    refine lv_goto (tgt := 223) hx hb dL_tick_218 (by decide) ?_
    refine lv_fstore (lv' := [(16, .float 1120403456), (15, .int 2), (4, .int (preG u v g b0 16)), (14, .int 0), (13, .int (g 19)), (12, .float ((goF u v f g b0) 7)), (11, .int 0), (10, .int 0), (9, .int 0), (8, .int (-5)), (7, .int (oneF (g 17))), (6, .int 0), (5, .int 0), (3, .float (f 7)), (2, .int 1), (0, .ref o), (1, .int b0)]) hx hb dL_tick_223 hl (by decide) rfl (fun ls hl => ?_)
    refine lv_goto (tgt := 385) hx hb dL_tick_225 (by decide) ?_
    refine lv_iload_n hx hb dL_tick_385 rfl (lv_at hl 14 rfl) ?_
    refine lv_iconst (v := 3) hx hb dL_tick_386 (by decide) ?_
    refine lv_icmp_ne (tgt := 400) hx hb dL_tick_387 (by decide) (fun _ => ?_) (fun h9 => absurd h9 (by decide))
    refine lv_iconst (v := 0) hx hb dL_tick_400 (by decide) ?_
    refine lv_istore (lv' := [(17, .int 0), (16, .float 1120403456), (15, .int 2), (4, .int (preG u v g b0 16)), (14, .int 0), (13, .int (g 19)), (12, .float ((goF u v f g b0) 7)), (11, .int 0), (10, .int 0), (9, .int 0), (8, .int (-5)), (7, .int (oneF (g 17))), (6, .int 0), (5, .int 0), (3, .float (f 7)), (2, .int 1), (0, .ref o), (1, .int b0)]) hx hb dL_tick_401 hl (by decide) rfl (fun ls hl => ?_)
    refine lv_iload hx hb dL_tick_403 (lv_at hl 0 rfl) ?_
    refine lv_if_eq (tgt := 428) hx hb dL_tick_405 (by decide) (fun _ => ?_) (fun h9 => absurd (by decide) h9)
    refine lv_iconst (v := 0) hx hb dL_tick_428 (by decide) ?_
    refine lv_istore (lv' := [(18, .int 0), (17, .int 0), (16, .float 1120403456), (15, .int 2), (4, .int (preG u v g b0 16)), (14, .int 0), (13, .int (g 19)), (12, .float ((goF u v f g b0) 7)), (11, .int 0), (10, .int 0), (9, .int 0), (8, .int (-5)), (7, .int (oneF (g 17))), (6, .int 0), (5, .int 0), (3, .float (f 7)), (2, .int 1), (0, .ref o), (1, .int b0)]) hx hb dL_tick_429 hl (by decide) rfl (fun ls hl => ?_)
    refine lv_aload_n hx hb dL_tick_431 rfl (lv_at hl 17 rfl) ?_
    refine lv_iload_n hx hb dL_tick_432 rfl (lv_at hl 18 rfl) ?_
    refine lv_iconst (v := 1) hx hb dL_tick_433 (by decide) ?_
    refine lw_i (rL (rest := []) ⟨hx, hb, hml, hown, hts⟩ (LB_pass_ok l G cA A o (u, v, f, g, L) n K ch hn b0 1 hb0 hb7 (by decide) (by decide) hT hG1 hBo) (cwV 2 hts gL_tick_X8_pass rfl rfl rfl mdX8_pass ⟨Nat.le_of_ble_eq_true rfl, Nat.le_of_ble_eq_true rfl⟩) hA hL rfl hl rfl (Nat.le_of_ble_eq_true rfl) dL_tick_434 ⟨Nat.le_of_ble_eq_true rfl, Nat.le_of_ble_eq_true rfl⟩) hA (fun r_434_1 _ H locs hr_434_1 hA hL => ?_)
    replace hL : LB G cA A o (u, v, (goF u v f g b0), (goG u v f g b0), (goL u v g L b0)) (recN n) K ch H := hL
    replace hr_434_1 : r_434_1 = (goG u v f g b0) 13 := hr_434_1
    subst hr_434_1
    refine lv_iload hx hb dL_tick_437 (lv_at hl 3 rfl) ?_
    refine lv_icmp_ne (tgt := 489) hx hb dL_tick_439 (by decide) (fun c_439_1 => absurd (ht.1.trans (if_neg c_198)) c_439_1) (fun c_439_1 => ?_)
    refine lv_aload_n hx hb dL_tick_442 rfl (lv_at hl 17 rfl) ?_
    refine lr_f (rL (rest := []) ⟨hx, hb, hml, hown, hts⟩ (LB_place l G cA A o (u, v, (goF u v f g b0), (goG u v f g b0), (goL u v g L b0)) (recN n) K ch  ) (cwV 0 hts gL_tick_X8_place rfl rfl rfl mdX8_place ⟨Nat.le_of_ble_eq_true rfl, Nat.le_of_ble_eq_true rfl⟩) hA hL rfl hl rfl (Nat.le_of_ble_eq_true rfl) dL_tick_443 ⟨Nat.le_of_ble_eq_true rfl, Nat.le_of_ble_eq_true rfl⟩) hA hL (fun r_443_1 H locs hr_443_1 hA hL => ?_)
    replace hr_443_1 : r_443_1 = (goF u v f g b0) 7 := hr_443_1
    subst hr_443_1
    refine lv_fload hx hb dL_tick_446 (lv_at hl 2 rfl) ?_
    refine lv_fcmp hx hb dL_tick_448 ?_
    refine lv_if_ne (tgt := 489) hx hb dL_tick_449 (by decide) (fun c_449_1 => absurd (by rw [(ht.2.2.2.trans (if_neg c_198))]; exact cmp_self (of_vf n32_100) _) c_449_1) (fun c_449_1 => ?_)
    refine lv_fload hx hb dL_tick_452 (lv_at hl 7 rfl) ?_
    refine lv_fload hx hb dL_tick_454 (lv_at hl 2 rfl) ?_
    refine lv_fcmp hx hb dL_tick_456 ?_
    refine lv_if_ne (tgt := 489) hx hb dL_tick_457 (by decide) (fun c_457_1 => absurd (by rw [(ht.2.2.2.trans (if_neg c_198))]; exact cmp_self (of_vf n32_100) _) c_457_1) (fun c_457_1 => ?_)
    refine lv_aload_n hx hb dL_tick_460 rfl (lv_at hl 17 rfl) ?_
    refine lv_iconst (v := 1) hx hb dL_tick_461 (by decide) ?_
    refine lr_i (rL (rest := []) ⟨hx, hb, hml, hown, hts⟩ (LB_door l G cA A o (u, v, (goF u v f g b0), (goG u v f g b0), (goL u v g L b0)) (recN n) K ch 1 ) (cwV 1 hts gL_tick_X8_door rfl rfl rfl mdX8_door ⟨Nat.le_of_ble_eq_true rfl, Nat.le_of_ble_eq_true rfl⟩) hA hL rfl hl rfl (Nat.le_of_ble_eq_true rfl) dL_tick_462 ⟨Nat.le_of_ble_eq_true rfl, Nat.le_of_ble_eq_true rfl⟩) hA hL (fun r_462_1 H locs hr_462_1 hA hL => ?_)
    replace hr_462_1 : r_462_1 = (goG u v f g b0) 16 := hr_462_1
    subst hr_462_1
    refine lv_iload hx hb dL_tick_465 (lv_at hl 4 rfl) ?_
    refine lv_icmp_ne (tgt := 489) hx hb dL_tick_467 (by decide) (fun c_467_1 => absurd ht.2.1 c_467_1) (fun c_467_1 => ?_)
    refine lv_aload_n hx hb dL_tick_470 rfl (lv_at hl 17 rfl) ?_
    refine lv_iconst (v := 2) hx hb dL_tick_471 (by decide) ?_
    refine lr_i (rL (rest := []) ⟨hx, hb, hml, hown, hts⟩ (LB_door l G cA A o (u, v, (goF u v f g b0), (goG u v f g b0), (goL u v g L b0)) (recN n) K ch 2 ) (cwV 1 hts gL_tick_X8_door rfl rfl rfl mdX8_door ⟨Nat.le_of_ble_eq_true rfl, Nat.le_of_ble_eq_true rfl⟩) hA hL rfl hl rfl (Nat.le_of_ble_eq_true rfl) dL_tick_472 ⟨Nat.le_of_ble_eq_true rfl, Nat.le_of_ble_eq_true rfl⟩) hA hL (fun r_472_1 H locs hr_472_1 hA hL => ?_)
    replace hr_472_1 : r_472_1 = oneF ((goG u v f g b0) 17) := hr_472_1
    subst hr_472_1
    refine lv_iload hx hb dL_tick_475 (lv_at hl 0 rfl) ?_
    refine lv_if_eq (tgt := 484) hx hb dL_tick_477 (by decide) (fun _ => ?_) (fun h9 => absurd (by decide) h9)
    refine lv_iload hx hb dL_tick_484 (lv_at hl 12 rfl) ?_
    refine lv_icmp_eq (tgt := 491) hx hb dL_tick_486 (by decide) (fun c_486_1 => ?_) (fun c_486_1 => absurd (by rw [ht.2.2.1] <;> rfl) c_486_1)
    refine lv_iload hx hb dL_tick_491 (lv_at hl 5 rfl) ?_
    refine lv_if_eq (tgt := 554) hx hb dL_tick_493 (by decide) (fun _ => ?_) (fun h9 => absurd (by decide) h9)
    refine lv_iload_n hx hb dL_tick_554 rfl (lv_at hl 18 rfl) ?_
    refine lv_if_eq (tgt := 599) hx hb dL_tick_555 (by decide) (fun c_555_1 => absurd c_555_1 hbz) (fun c_555_1 => ?_)
    refine lv_aload_n hx hb dL_tick_558 rfl (lv_at hl 17 rfl) ?_
    refine lv_iconst (v := 0) hx hb dL_tick_559 (by decide) ?_
    refine lr_i (rL (rest := []) ⟨hx, hb, hml, hown, hts⟩ (LB_thing l G cA A o (u, v, (goF u v f g b0), (goG u v f g b0), (goL u v g L b0)) (recN n) K ch 0 hP2) (cwV 1 hts gL_tick_X8_thing rfl rfl rfl mdX8_thing ⟨Nat.le_of_ble_eq_true rfl, Nat.le_of_ble_eq_true rfl⟩) hA hL rfl hl rfl (Nat.le_of_ble_eq_true rfl) dL_tick_560 ⟨Nat.le_of_ble_eq_true rfl, Nat.le_of_ble_eq_true rfl⟩) hA hL (fun r_560_1 H locs hr_560_1 hA hL => ?_)
    replace hr_560_1 : r_560_1 = 1 := hr_560_1.trans ((th_0 h5).trans e7t)
    subst hr_560_1
    refine lv_iload hx hb dL_tick_563 (lv_at hl 11 rfl) ?_
    refine lv_if_ge (tgt := 572) hx hb dL_tick_565 (by decide) (fun h9 => absurd h9 (by decide)) (fun _ => ?_)
    refine lv_iconst (v := 1) hx hb dL_tick_568 (by decide) ?_
    refine lv_goto (tgt := 576) hx hb dL_tick_569 (by decide) ?_
    refine lv_icmp_ne (tgt := 603) hx hb dL_tick_576 (by decide) (fun h9 => absurd (by decide) h9) (fun _ => ?_)
    refine lv_aload_n hx hb dL_tick_579 rfl (lv_at hl 17 rfl) ?_
    refine lv_bipush (v := 6) hx hb dL_tick_580 (by decide) ?_
    refine lr_i (rL (rest := []) ⟨hx, hb, hml, hown, hts⟩ (LB_thing l G cA A o (u, v, (goF u v f g b0), (goG u v f g b0), (goL u v g L b0)) (recN n) K ch 6 hP2) (cwV 1 hts gL_tick_X8_thing rfl rfl rfl mdX8_thing ⟨Nat.le_of_ble_eq_true rfl, Nat.le_of_ble_eq_true rfl⟩) hA hL rfl hl rfl (Nat.le_of_ble_eq_true rfl) dL_tick_582 ⟨Nat.le_of_ble_eq_true rfl, Nat.le_of_ble_eq_true rfl⟩) hA hL (fun r_582_1 H locs hr_582_1 hA hL => ?_)
    replace hr_582_1 : r_582_1 = oneF ((goG u v f g b0) 12) := hr_582_1.trans (th_6 h5)
    subst hr_582_1
    refine lv_iload hx hb dL_tick_585 (lv_at hl 1 rfl) ?_
    refine lv_if_eq (tgt := 594) hx hb dL_tick_587 (by decide) (fun _ => ?_) (fun h9 => absurd (by decide) h9)
    refine lv_iload hx hb dL_tick_594 (lv_at hl 9 rfl) ?_
    refine lv_icmp_ne (tgt := 603) hx hb dL_tick_596 (by decide) (fun c_596_1 => absurd (by rw [ht12] <;> rfl) c_596_1) (fun c_596_1 => ?_)
    refine lv_iconst (v := 1) hx hb dL_tick_599 (by decide) ?_
    refine lv_goto (tgt := 604) hx hb dL_tick_600 (by decide) ?_
    exact en_l (post := fun r (_ : Unit) => r = 1) (B := fun _ H => LB G cA A o (u, v, (goF u v f g b0), (goG u v f g b0), (goL u v g L b0)) (recN n) K ch H) () hx hb hr hlocks hA rfl hL dL_tick_604
set_option maxHeartbeats 8000000 in
set_option maxRecDepth 100000 in
/-- tick(o, beams), in the state 2, case nb -/
theorem cL_tick_2_nb (l : Launch) (G : va_G) (cA : Nat → ClassId) (A : Nat → Prop) (o : Nat) (u : FF) (v : GG) (f : FF) (g L : GG) (n K : Nat) (ch : GG) (b0 : Int32) (hb0 : ¬ b0 < 0) (hb7 : ¬ 7 < b0) (hbz : ¬ b0 = 0) (hs : g 13 = 2) (hn : n ≤ 4) (hGo : GoOk u f g) (hPr : PrOk u g) (hP2 : PrOk u (goG u v f g b0)) (hT : ¬ 99999 < g 27 + nI 1) (hBo : Bo g) (hf : vf_n32 (f 7)) (hg : g 5 = 0) : Met l yL_tick wsL_tick ({ frames := 7, cells := 0, slots := 0, locals := 160 } : Room) (va_Pc [.ref o, .int b0] (LbP G cA A o (u, v, f, g, L) n K ch)) (va_Qi (fun r (_ : Unit) => r = 1) (fun _ t => LB G cA A o (u, v, (goF u v f g b0), (goG u v f g b0), (goL u v g L b0)) (recN n) K ch t.heap) A) 0 0 A := by
  refine ofW2 (cc := cL_tick) (maxL := 19) (ret := (some .boolean)) (own := RL) (by decide) rfl rfl (Nat.le_of_ble_eq_true rfl) rfl ?_
  intro p e s m below meth c ls hx hb hml hr hts hown hlocks hv hl
  obtain ⟨hE, hN, hL⟩ := hv
  have hA : At G cA A s s.heap [] := ⟨hE, hN, va_S.rf⟩
  obtain ⟨H, hH0⟩ : ∃ H, H = s.heap := ⟨_, rfl⟩
  rw [← hH0] at hL ⊢
  replace hA : At G cA A s H [] := by rw [hH0]; exact hA
  generalize ([] : List Loc) = locs at hA ⊢
  clear hH0
  replace hl : lv_has ls 19 [(0, .ref o), (1, .int b0)] := hl
  have hG1 : ∀ k, k < 1 → GoOk u (itS u v b0 (f, g, L) k).1 (itS u v b0 (f, g, L) k).2.1 := fun k hk => (show k = 0 by omega) ▸ hGo
  have ht := t_2b hs hbz (u := u) (v := v) (f := f)
  have hp16 : preG u v g b0 16 = g 16 := pre_16b hbz
  have hk5 : (preG u v g b0) 5 = 1 := by rw [pre_b hbz]; exact (show (if g 5 = 0 then 1 else g 5) = 1 by rw [if_pos hg])
  have hk7 : (preG u v g b0) 7 = 1 := by rw [pre_b hbz]; show (if g 5 = 0 then 0 else g 7) + 1 = _; rw [if_pos hg]; rfl
  have hk12 : (preG u v g b0) 12 = 0 := by rw [pre_b hbz]; show (if g 5 = 0 then 0 else g 12) = _; rw [if_pos hg]
  have h5e : (goG u v f g b0) 5 = (preG u v g b0) 5 := mv_5
  have e7e : (goG u v f g b0) 7 = (preG u v g b0) 7 := mv_7
  have ht12 : (goG u v f g b0) 12 = 0 := (go_G (by decide)).trans (by rw [(mv_2 (pre_13.trans hs)).1]; exact hk12)
  have h5 : ¬ (goG u v f g b0) 5 = 0 := by rw [h5e, hk5]; decide
  have e7t := e7e.trans hk7
  refine lv_aload_n hx hb dL_tick_0 rfl (lv_at hl 0 rfl) ?_
  refine lv_iconst (v := 0) hx hb dL_tick_1 (by decide) ?_
  refine lr_i (rL (rest := []) ⟨hx, hb, hml, hown, hts⟩ (LB_door l G cA A o (u, v, f, g, L) n K ch 0 ) (cwV 1 hts gL_tick_X8_door rfl rfl rfl mdX8_door ⟨Nat.le_of_ble_eq_true rfl, Nat.le_of_ble_eq_true rfl⟩) hA hL rfl hl rfl (Nat.le_of_ble_eq_true rfl) dL_tick_2 ⟨Nat.le_of_ble_eq_true rfl, Nat.le_of_ble_eq_true rfl⟩) hA hL (fun r_2 H locs hr_2 hA hL => ?_)
  replace hr_2 : r_2 = 2 := hr_2.trans hs
  subst hr_2
  refine lv_istore_n (lv' := [(2, .int 2), (0, .ref o), (1, .int b0)]) hx hb dL_tick_5 rfl hl (by decide) rfl (fun ls hl => ?_)
  refine lv_aload_n hx hb dL_tick_6 rfl (lv_at hl 1 rfl) ?_
  refine lr_f (rL (rest := []) ⟨hx, hb, hml, hown, hts⟩ (LB_place l G cA A o (u, v, f, g, L) n K ch  ) (cwV 0 hts gL_tick_X8_place rfl rfl rfl mdX8_place ⟨Nat.le_of_ble_eq_true rfl, Nat.le_of_ble_eq_true rfl⟩) hA hL rfl hl rfl (Nat.le_of_ble_eq_true rfl) dL_tick_7 ⟨Nat.le_of_ble_eq_true rfl, Nat.le_of_ble_eq_true rfl⟩) hA hL (fun r_7 H locs hr_7 hA hL => ?_)
  replace hr_7 : r_7 = f 7 := hr_7
  subst hr_7
  refine lv_fstore_n (lv' := [(3, .float (f 7)), (2, .int 2), (0, .ref o), (1, .int b0)]) hx hb dL_tick_10 rfl hl (by decide) rfl (fun ls hl => ?_)
  refine lv_aload_n hx hb dL_tick_11 rfl (lv_at hl 2 rfl) ?_
  refine lv_iconst (v := 1) hx hb dL_tick_12 (by decide) ?_
  refine lr_i (rL (rest := []) ⟨hx, hb, hml, hown, hts⟩ (LB_door l G cA A o (u, v, f, g, L) n K ch 1 ) (cwV 1 hts gL_tick_X8_door rfl rfl rfl mdX8_door ⟨Nat.le_of_ble_eq_true rfl, Nat.le_of_ble_eq_true rfl⟩) hA hL rfl hl rfl (Nat.le_of_ble_eq_true rfl) dL_tick_13 ⟨Nat.le_of_ble_eq_true rfl, Nat.le_of_ble_eq_true rfl⟩) hA hL (fun r_13 H locs hr_13 hA hL => ?_)
  replace hr_13 : r_13 = g 16 := hr_13
  subst hr_13
  refine lv_istore (lv' := [(4, .int (g 16)), (3, .float (f 7)), (2, .int 2), (0, .ref o), (1, .int b0)]) hx hb dL_tick_16 hl (by decide) rfl (fun ls hl => ?_)
  refine lv_aload_n hx hb dL_tick_18 rfl (lv_at hl 3 rfl) ?_
  refine lv_iconst (v := 3) hx hb dL_tick_19 (by decide) ?_
  refine lr_i (rL (rest := []) ⟨hx, hb, hml, hown, hts⟩ (LB_door l G cA A o (u, v, f, g, L) n K ch 3 ) (cwV 1 hts gL_tick_X8_door rfl rfl rfl mdX8_door ⟨Nat.le_of_ble_eq_true rfl, Nat.le_of_ble_eq_true rfl⟩) hA hL rfl hl rfl (Nat.le_of_ble_eq_true rfl) dL_tick_20 ⟨Nat.le_of_ble_eq_true rfl, Nat.le_of_ble_eq_true rfl⟩) hA hL (fun r_20 H locs hr_20 hA hL => ?_)
  rw [show doF f g 3 = g 14 from (by show (if g 13 = 2 then g 14 else 0) = g 14; rw [if_pos hs])] at hr_20
  subst hr_20
  refine lv_istore (lv' := [(5, .int (g 14)), (4, .int (g 16)), (3, .float (f 7)), (2, .int 2), (0, .ref o), (1, .int b0)]) hx hb dL_tick_23 hl (by decide) rfl (fun ls hl => ?_)
  refine lv_aload_n hx hb dL_tick_25 rfl (lv_at hl 4 rfl) ?_
  refine lv_iconst (v := 4) hx hb dL_tick_26 (by decide) ?_
  refine lr_i (rL (rest := []) ⟨hx, hb, hml, hown, hts⟩ (LB_door l G cA A o (u, v, f, g, L) n K ch 4 ) (cwV 1 hts gL_tick_X8_door rfl rfl rfl mdX8_door ⟨Nat.le_of_ble_eq_true rfl, Nat.le_of_ble_eq_true rfl⟩) hA hL rfl hl rfl (Nat.le_of_ble_eq_true rfl) dL_tick_27 ⟨Nat.le_of_ble_eq_true rfl, Nat.le_of_ble_eq_true rfl⟩) hA hL (fun r_27 H locs hr_27 hA hL => ?_)
  rw [show doF f g 4 = 0 from (by show (if g 13 = 3 then g 15 else 0) = 0; rw [if_neg (by rw [hs]; decide)])] at hr_27
  subst hr_27
  refine lv_istore (lv' := [(6, .int 0), (5, .int (g 14)), (4, .int (g 16)), (3, .float (f 7)), (2, .int 2), (0, .ref o), (1, .int b0)]) hx hb dL_tick_30 hl (by decide) rfl (fun ls hl => ?_)
  refine lv_aload_n hx hb dL_tick_32 rfl (lv_at hl 5 rfl) ?_
  refine lv_iconst (v := 2) hx hb dL_tick_33 (by decide) ?_
  refine lr_i (rL (rest := []) ⟨hx, hb, hml, hown, hts⟩ (LB_door l G cA A o (u, v, f, g, L) n K ch 2 ) (cwV 1 hts gL_tick_X8_door rfl rfl rfl mdX8_door ⟨Nat.le_of_ble_eq_true rfl, Nat.le_of_ble_eq_true rfl⟩) hA hL rfl hl rfl (Nat.le_of_ble_eq_true rfl) dL_tick_34 ⟨Nat.le_of_ble_eq_true rfl, Nat.le_of_ble_eq_true rfl⟩) hA hL (fun r_34 H locs hr_34 hA hL => ?_)
  replace hr_34 : r_34 = oneF (g 17) := hr_34
  subst hr_34
  refine lv_istore (lv' := [(7, .int (oneF (g 17))), (6, .int 0), (5, .int (g 14)), (4, .int (g 16)), (3, .float (f 7)), (2, .int 2), (0, .ref o), (1, .int b0)]) hx hb dL_tick_37 hl (by decide) rfl (fun ls hl => ?_)
  refine lv_aload_n hx hb dL_tick_39 rfl (lv_at hl 6 rfl) ?_
  refine lv_iconst (v := 0) hx hb dL_tick_40 (by decide) ?_
  refine lr_i (rL (rest := []) ⟨hx, hb, hml, hown, hts⟩ (LB_thing l G cA A o (u, v, f, g, L) n K ch 0 hPr) (cwV 1 hts gL_tick_X8_thing rfl rfl rfl mdX8_thing ⟨Nat.le_of_ble_eq_true rfl, Nat.le_of_ble_eq_true rfl⟩) hA hL rfl hl rfl (Nat.le_of_ble_eq_true rfl) dL_tick_41 ⟨Nat.le_of_ble_eq_true rfl, Nat.le_of_ble_eq_true rfl⟩) hA hL (fun r_41 H locs hr_41 hA hL => ?_)
  replace hr_41 : r_41 = -5 := hr_41.trans (th_none 0 (by decide) (by decide) hg)
  subst hr_41
  refine lv_istore (lv' := [(8, .int (-5)), (7, .int (oneF (g 17))), (6, .int 0), (5, .int (g 14)), (4, .int (g 16)), (3, .float (f 7)), (2, .int 2), (0, .ref o), (1, .int b0)]) hx hb dL_tick_44 hl (by decide) rfl (fun ls hl => ?_)
  refine lv_iload hx hb dL_tick_46 (lv_at hl 0 rfl) ?_
  refine lv_if_ge (tgt := 55) hx hb dL_tick_48 (by decide) (fun h9 => absurd h9 (by decide)) (fun _ => ?_)
  refine lv_iconst (v := 0) hx hb dL_tick_51 (by decide) ?_
  refine lv_goto (tgt := 60) hx hb dL_tick_52 (by decide) ?_
  refine lv_istore (lv' := [(9, .int 0), (8, .int (-5)), (7, .int (oneF (g 17))), (6, .int 0), (5, .int (g 14)), (4, .int (g 16)), (3, .float (f 7)), (2, .int 2), (0, .ref o), (1, .int b0)]) hx hb dL_tick_60 hl (by decide) rfl (fun ls hl => ?_)
  refine lv_iload hx hb dL_tick_62 (lv_at hl 1 rfl) ?_
  refine lv_if_ge (tgt := 71) hx hb dL_tick_64 (by decide) (fun h9 => absurd h9 (by decide)) (fun _ => ?_)
  refine lv_iconst (v := 0) hx hb dL_tick_67 (by decide) ?_
  refine lv_goto (tgt := 77) hx hb dL_tick_68 (by decide) ?_
  refine lv_istore (lv' := [(10, .int 0), (9, .int 0), (8, .int (-5)), (7, .int (oneF (g 17))), (6, .int 0), (5, .int (g 14)), (4, .int (g 16)), (3, .float (f 7)), (2, .int 2), (0, .ref o), (1, .int b0)]) hx hb dL_tick_77 hl (by decide) rfl (fun ls hl => ?_)
  refine lv_iload hx hb dL_tick_79 (lv_at hl 2 rfl) ?_
  refine lv_if_ge (tgt := 88) hx hb dL_tick_81 (by decide) (fun h9 => absurd h9 (by decide)) (fun _ => ?_)
  refine lv_iconst (v := 0) hx hb dL_tick_84 (by decide) ?_
  refine lv_goto (tgt := 94) hx hb dL_tick_85 (by decide) ?_
  refine lv_istore (lv' := [(11, .int 0), (10, .int 0), (9, .int 0), (8, .int (-5)), (7, .int (oneF (g 17))), (6, .int 0), (5, .int (g 14)), (4, .int (g 16)), (3, .float (f 7)), (2, .int 2), (0, .ref o), (1, .int b0)]) hx hb dL_tick_94 hl (by decide) rfl (fun ls hl => ?_)
  refine lv_aload_n hx hb dL_tick_96 rfl (lv_at hl 10 rfl) ?_
  refine lv_iload_n hx hb dL_tick_97 rfl (lv_at hl 11 rfl) ?_
  refine lv_iconst (v := 1) hx hb dL_tick_98 (by decide) ?_
  refine lw_f (rL (rest := []) ⟨hx, hb, hml, hown, hts⟩ (LB_placeIn_ok l G cA A o (u, v, f, g, L) n K ch b0 1 hb0 hb7 (by decide) hG1) (cwV 2 hts gL_tick_X8_placeIn rfl rfl rfl mdX8_placeIn ⟨Nat.le_of_ble_eq_true rfl, Nat.le_of_ble_eq_true rfl⟩) hA hL rfl hl rfl (Nat.le_of_ble_eq_true rfl) dL_tick_99 ⟨Nat.le_of_ble_eq_true rfl, Nat.le_of_ble_eq_true rfl⟩) hA (fun r_99 _ H locs hr_99 hA hL => ?_)
  replace hL : LB G cA A o (u, v, f, g, L) n K ch H := hL
  replace hr_99 : r_99 = (goF u v f g b0) 7 := hr_99
  subst hr_99
  refine lv_fstore (lv' := [(12, .float ((goF u v f g b0) 7)), (11, .int 0), (10, .int 0), (9, .int 0), (8, .int (-5)), (7, .int (oneF (g 17))), (6, .int 0), (5, .int (g 14)), (4, .int (g 16)), (3, .float (f 7)), (2, .int 2), (0, .ref o), (1, .int b0)]) hx hb dL_tick_102 hl (by decide) rfl (fun ls hl => ?_)
  refine lv_aload_n hx hb dL_tick_104 rfl (lv_at hl 11 rfl) ?_
  refine lv_iload hx hb dL_tick_105 (lv_at hl 1 rfl) ?_
  refine lv_iconst (v := 1) hx hb dL_tick_107 (by decide) ?_
  refine lv_iadd hx hb dL_tick_108 ?_
  refine W.eq (g2 := F0 m 109 ls [.int 1, .ref o]) rfl ?_
  refine lr_i (rL (rest := []) ⟨hx, hb, hml, hown, hts⟩ (LB_count l G cA A o (u, v, f, g, L) n K ch 1) (cwV 1 hts gL_tick_X8_count rfl rfl rfl mdX8_count ⟨Nat.le_of_ble_eq_true rfl, Nat.le_of_ble_eq_true rfl⟩) hA hL rfl hl rfl (Nat.le_of_ble_eq_true rfl) dL_tick_109 ⟨Nat.le_of_ble_eq_true rfl, Nat.le_of_ble_eq_true rfl⟩) hA hL (fun r_109 H locs hr_109 hA hL => ?_)
  replace hr_109 : r_109 = g 19 := hr_109
  subst hr_109
  refine lv_istore (lv' := [(13, .int (g 19)), (12, .float ((goF u v f g b0) 7)), (11, .int 0), (10, .int 0), (9, .int 0), (8, .int (-5)), (7, .int (oneF (g 17))), (6, .int 0), (5, .int (g 14)), (4, .int (g 16)), (3, .float (f 7)), (2, .int 2), (0, .ref o), (1, .int b0)]) hx hb dL_tick_112 hl (by decide) rfl (fun ls hl => ?_)
  refine lv_iload hx hb dL_tick_114 (lv_at hl 5 rfl) ?_
  refine lv_if_le (tgt := 139) hx hb dL_tick_116 (by decide) (fun _ => ?_) (fun h9 => absurd (by decide) h9)
  refine lv_iconst (v := 0) hx hb dL_tick_139 (by decide) ?_
  refine lv_istore (lv' := [(14, .int 0), (13, .int (g 19)), (12, .float ((goF u v f g b0) 7)), (11, .int 0), (10, .int 0), (9, .int 0), (8, .int (-5)), (7, .int (oneF (g 17))), (6, .int 0), (5, .int (g 14)), (4, .int (g 16)), (3, .float (f 7)), (2, .int 2), (0, .ref o), (1, .int b0)]) hx hb dL_tick_140 hl (by decide) rfl (fun ls hl => ?_)
  refine lv_iload hx hb dL_tick_142 (lv_at hl 10 rfl) ?_
  refine lv_iload hx hb dL_tick_144 (lv_at hl 0 rfl) ?_
  refine lv_if_eq (tgt := 169) hx hb dL_tick_146 (by decide) (fun _ => ?_) (fun h9 => absurd (by decide) h9)
  refine lv_iconst (v := 0) hx hb dL_tick_169 (by decide) ?_
  refine lv_isub hx hb dL_tick_170 ?_
  refine W.eq (g2 := F0 m 171 ls [.int (preG u v g b0 16)]) (by rw [hp16, Int32.sub_zero]) ?_
  refine lv_istore (lv' := [(4, .int (preG u v g b0 16)), (14, .int 0), (13, .int (g 19)), (12, .float ((goF u v f g b0) 7)), (11, .int 0), (10, .int 0), (9, .int 0), (8, .int (-5)), (7, .int (oneF (g 17))), (6, .int 0), (5, .int (g 14)), (3, .float (f 7)), (2, .int 2), (0, .ref o), (1, .int b0)]) hx hb dL_tick_171 hl (by decide) rfl (fun ls hl => ?_)
  refine lv_iload_n hx hb dL_tick_173 rfl (lv_at hl 12 rfl) ?_
  refine lv_istore (lv' := [(15, .int 2), (4, .int (preG u v g b0 16)), (14, .int 0), (13, .int (g 19)), (12, .float ((goF u v f g b0) 7)), (11, .int 0), (10, .int 0), (9, .int 0), (8, .int (-5)), (7, .int (oneF (g 17))), (6, .int 0), (5, .int (g 14)), (3, .float (f 7)), (2, .int 2), (0, .ref o), (1, .int b0)]) hx hb dL_tick_174 hl (by decide) rfl (fun ls hl => ?_)
  refine lv_fload_n hx hb dL_tick_176 rfl (lv_at hl 12 rfl) ?_
  refine lv_fstore (lv' := [(16, .float (f 7)), (15, .int 2), (4, .int (preG u v g b0 16)), (14, .int 0), (13, .int (g 19)), (12, .float ((goF u v f g b0) 7)), (11, .int 0), (10, .int 0), (9, .int 0), (8, .int (-5)), (7, .int (oneF (g 17))), (6, .int 0), (5, .int (g 14)), (3, .float (f 7)), (2, .int 2), (0, .ref o), (1, .int b0)]) hx hb dL_tick_177 hl (by decide) rfl (fun ls hl => ?_)
  refine lv_iload_n hx hb dL_tick_179 rfl (lv_at hl 14 rfl) ?_
  refine lv_iconst (v := 1) hx hb dL_tick_180 (by decide) ?_
  refine lv_icmp_ne (tgt := 228) hx hb dL_tick_181 (by decide) (fun _ => ?_) (fun h9 => absurd h9 (by decide))
  refine lv_iload_n hx hb dL_tick_228 rfl (lv_at hl 14 rfl) ?_
  refine lv_iconst (v := 2) hx hb dL_tick_229 (by decide) ?_
  refine lv_icmp_ne (tgt := 264) hx hb dL_tick_230 (by decide) (fun h9 => absurd (by decide) h9) (fun _ => ?_)
  refine lv_iload_n hx hb dL_tick_233 rfl (lv_at hl 16 rfl) ?_
  refine lv_if_ne (tgt := 258) hx hb dL_tick_234 (by decide) (fun c_234 => ?_) (fun c_234 => absurd c_234 hbz)
  refine lv_iconst (v := 2) hx hb dL_tick_258 (by decide) ?_
  refine lv_istore (lv' := [(15, .int 2), (16, .float (f 7)), (4, .int (preG u v g b0 16)), (14, .int 0), (13, .int (g 19)), (12, .float ((goF u v f g b0) 7)), (11, .int 0), (10, .int 0), (9, .int 0), (8, .int (-5)), (7, .int (oneF (g 17))), (6, .int 0), (5, .int (g 14)), (3, .float (f 7)), (2, .int 2), (0, .ref o), (1, .int b0)]) hx hb dL_tick_259 hl (by decide) rfl (fun ls hl => ?_)
  refine lv_goto (tgt := 385) hx hb dL_tick_261 (by decide) ?_
  refine lv_iload_n hx hb dL_tick_385 rfl (lv_at hl 14 rfl) ?_
  refine lv_iconst (v := 3) hx hb dL_tick_386 (by decide) ?_
  refine lv_icmp_ne (tgt := 400) hx hb dL_tick_387 (by decide) (fun _ => ?_) (fun h9 => absurd h9 (by decide))
  refine lv_iconst (v := 0) hx hb dL_tick_400 (by decide) ?_
  refine lv_istore (lv' := [(17, .int 0), (15, .int 2), (16, .float (f 7)), (4, .int (preG u v g b0 16)), (14, .int 0), (13, .int (g 19)), (12, .float ((goF u v f g b0) 7)), (11, .int 0), (10, .int 0), (9, .int 0), (8, .int (-5)), (7, .int (oneF (g 17))), (6, .int 0), (5, .int (g 14)), (3, .float (f 7)), (2, .int 2), (0, .ref o), (1, .int b0)]) hx hb dL_tick_401 hl (by decide) rfl (fun ls hl => ?_)
  refine lv_iload hx hb dL_tick_403 (lv_at hl 0 rfl) ?_
  refine lv_if_eq (tgt := 428) hx hb dL_tick_405 (by decide) (fun _ => ?_) (fun h9 => absurd (by decide) h9)
  refine lv_iconst (v := 0) hx hb dL_tick_428 (by decide) ?_
  refine lv_istore (lv' := [(18, .int 0), (17, .int 0), (15, .int 2), (16, .float (f 7)), (4, .int (preG u v g b0 16)), (14, .int 0), (13, .int (g 19)), (12, .float ((goF u v f g b0) 7)), (11, .int 0), (10, .int 0), (9, .int 0), (8, .int (-5)), (7, .int (oneF (g 17))), (6, .int 0), (5, .int (g 14)), (3, .float (f 7)), (2, .int 2), (0, .ref o), (1, .int b0)]) hx hb dL_tick_429 hl (by decide) rfl (fun ls hl => ?_)
  refine lv_aload_n hx hb dL_tick_431 rfl (lv_at hl 17 rfl) ?_
  refine lv_iload_n hx hb dL_tick_432 rfl (lv_at hl 18 rfl) ?_
  refine lv_iconst (v := 1) hx hb dL_tick_433 (by decide) ?_
  refine lw_i (rL (rest := []) ⟨hx, hb, hml, hown, hts⟩ (LB_pass_ok l G cA A o (u, v, f, g, L) n K ch hn b0 1 hb0 hb7 (by decide) (by decide) hT hG1 hBo) (cwV 2 hts gL_tick_X8_pass rfl rfl rfl mdX8_pass ⟨Nat.le_of_ble_eq_true rfl, Nat.le_of_ble_eq_true rfl⟩) hA hL rfl hl rfl (Nat.le_of_ble_eq_true rfl) dL_tick_434 ⟨Nat.le_of_ble_eq_true rfl, Nat.le_of_ble_eq_true rfl⟩) hA (fun r_434 _ H locs hr_434 hA hL => ?_)
  replace hL : LB G cA A o (u, v, (goF u v f g b0), (goG u v f g b0), (goL u v g L b0)) (recN n) K ch H := hL
  replace hr_434 : r_434 = (goG u v f g b0) 13 := hr_434
  subst hr_434
  refine lv_iload hx hb dL_tick_437 (lv_at hl 2 rfl) ?_
  refine lv_icmp_ne (tgt := 489) hx hb dL_tick_439 (by decide) (fun c_439 => absurd ht.1 c_439) (fun c_439 => ?_)
  refine lv_aload_n hx hb dL_tick_442 rfl (lv_at hl 17 rfl) ?_
  refine lr_f (rL (rest := []) ⟨hx, hb, hml, hown, hts⟩ (LB_place l G cA A o (u, v, (goF u v f g b0), (goG u v f g b0), (goL u v g L b0)) (recN n) K ch  ) (cwV 0 hts gL_tick_X8_place rfl rfl rfl mdX8_place ⟨Nat.le_of_ble_eq_true rfl, Nat.le_of_ble_eq_true rfl⟩) hA hL rfl hl rfl (Nat.le_of_ble_eq_true rfl) dL_tick_443 ⟨Nat.le_of_ble_eq_true rfl, Nat.le_of_ble_eq_true rfl⟩) hA hL (fun r_443 H locs hr_443 hA hL => ?_)
  replace hr_443 : r_443 = (goF u v f g b0) 7 := hr_443
  subst hr_443
  refine lv_fload hx hb dL_tick_446 (lv_at hl 3 rfl) ?_
  refine lv_fcmp hx hb dL_tick_448 ?_
  refine lv_if_ne (tgt := 489) hx hb dL_tick_449 (by decide) (fun c_449 => absurd (by rw [ht.2.2.2]; exact cmp_self (of_vf hf) _) c_449) (fun c_449 => ?_)
  refine lv_fload hx hb dL_tick_452 (lv_at hl 7 rfl) ?_
  refine lv_fload hx hb dL_tick_454 (lv_at hl 3 rfl) ?_
  refine lv_fcmp hx hb dL_tick_456 ?_
  refine lv_if_ne (tgt := 489) hx hb dL_tick_457 (by decide) (fun c_457 => absurd (by rw [ht.2.2.2]; exact cmp_self (of_vf hf) _) c_457) (fun c_457 => ?_)
  refine lv_aload_n hx hb dL_tick_460 rfl (lv_at hl 17 rfl) ?_
  refine lv_iconst (v := 1) hx hb dL_tick_461 (by decide) ?_
  refine lr_i (rL (rest := []) ⟨hx, hb, hml, hown, hts⟩ (LB_door l G cA A o (u, v, (goF u v f g b0), (goG u v f g b0), (goL u v g L b0)) (recN n) K ch 1 ) (cwV 1 hts gL_tick_X8_door rfl rfl rfl mdX8_door ⟨Nat.le_of_ble_eq_true rfl, Nat.le_of_ble_eq_true rfl⟩) hA hL rfl hl rfl (Nat.le_of_ble_eq_true rfl) dL_tick_462 ⟨Nat.le_of_ble_eq_true rfl, Nat.le_of_ble_eq_true rfl⟩) hA hL (fun r_462 H locs hr_462 hA hL => ?_)
  replace hr_462 : r_462 = (goG u v f g b0) 16 := hr_462
  subst hr_462
  refine lv_iload hx hb dL_tick_465 (lv_at hl 4 rfl) ?_
  refine lv_icmp_ne (tgt := 489) hx hb dL_tick_467 (by decide) (fun c_467 => absurd ht.2.1 c_467) (fun c_467 => ?_)
  refine lv_aload_n hx hb dL_tick_470 rfl (lv_at hl 17 rfl) ?_
  refine lv_iconst (v := 2) hx hb dL_tick_471 (by decide) ?_
  refine lr_i (rL (rest := []) ⟨hx, hb, hml, hown, hts⟩ (LB_door l G cA A o (u, v, (goF u v f g b0), (goG u v f g b0), (goL u v g L b0)) (recN n) K ch 2 ) (cwV 1 hts gL_tick_X8_door rfl rfl rfl mdX8_door ⟨Nat.le_of_ble_eq_true rfl, Nat.le_of_ble_eq_true rfl⟩) hA hL rfl hl rfl (Nat.le_of_ble_eq_true rfl) dL_tick_472 ⟨Nat.le_of_ble_eq_true rfl, Nat.le_of_ble_eq_true rfl⟩) hA hL (fun r_472 H locs hr_472 hA hL => ?_)
  replace hr_472 : r_472 = oneF ((goG u v f g b0) 17) := hr_472
  subst hr_472
  refine lv_iload hx hb dL_tick_475 (lv_at hl 0 rfl) ?_
  refine lv_if_eq (tgt := 484) hx hb dL_tick_477 (by decide) (fun _ => ?_) (fun h9 => absurd (by decide) h9)
  refine lv_iload hx hb dL_tick_484 (lv_at hl 12 rfl) ?_
  refine lv_icmp_eq (tgt := 491) hx hb dL_tick_486 (by decide) (fun c_486 => ?_) (fun c_486 => absurd (by rw [ht.2.2.1] <;> rfl) c_486)
  refine lv_iload hx hb dL_tick_491 (lv_at hl 5 rfl) ?_
  refine lv_if_eq (tgt := 554) hx hb dL_tick_493 (by decide) (fun _ => ?_) (fun h9 => absurd (by decide) h9)
  refine lv_iload_n hx hb dL_tick_554 rfl (lv_at hl 18 rfl) ?_
  refine lv_if_eq (tgt := 599) hx hb dL_tick_555 (by decide) (fun c_555 => absurd c_555 hbz) (fun c_555 => ?_)
  refine lv_aload_n hx hb dL_tick_558 rfl (lv_at hl 17 rfl) ?_
  refine lv_iconst (v := 0) hx hb dL_tick_559 (by decide) ?_
  refine lr_i (rL (rest := []) ⟨hx, hb, hml, hown, hts⟩ (LB_thing l G cA A o (u, v, (goF u v f g b0), (goG u v f g b0), (goL u v g L b0)) (recN n) K ch 0 hP2) (cwV 1 hts gL_tick_X8_thing rfl rfl rfl mdX8_thing ⟨Nat.le_of_ble_eq_true rfl, Nat.le_of_ble_eq_true rfl⟩) hA hL rfl hl rfl (Nat.le_of_ble_eq_true rfl) dL_tick_560 ⟨Nat.le_of_ble_eq_true rfl, Nat.le_of_ble_eq_true rfl⟩) hA hL (fun r_560 H locs hr_560 hA hL => ?_)
  replace hr_560 : r_560 = 1 := hr_560.trans ((th_0 h5).trans e7t)
  subst hr_560
  refine lv_iload hx hb dL_tick_563 (lv_at hl 11 rfl) ?_
  refine lv_if_ge (tgt := 572) hx hb dL_tick_565 (by decide) (fun h9 => absurd h9 (by decide)) (fun _ => ?_)
  refine lv_iconst (v := 1) hx hb dL_tick_568 (by decide) ?_
  refine lv_goto (tgt := 576) hx hb dL_tick_569 (by decide) ?_
  refine lv_icmp_ne (tgt := 603) hx hb dL_tick_576 (by decide) (fun h9 => absurd (by decide) h9) (fun _ => ?_)
  refine lv_aload_n hx hb dL_tick_579 rfl (lv_at hl 17 rfl) ?_
  refine lv_bipush (v := 6) hx hb dL_tick_580 (by decide) ?_
  refine lr_i (rL (rest := []) ⟨hx, hb, hml, hown, hts⟩ (LB_thing l G cA A o (u, v, (goF u v f g b0), (goG u v f g b0), (goL u v g L b0)) (recN n) K ch 6 hP2) (cwV 1 hts gL_tick_X8_thing rfl rfl rfl mdX8_thing ⟨Nat.le_of_ble_eq_true rfl, Nat.le_of_ble_eq_true rfl⟩) hA hL rfl hl rfl (Nat.le_of_ble_eq_true rfl) dL_tick_582 ⟨Nat.le_of_ble_eq_true rfl, Nat.le_of_ble_eq_true rfl⟩) hA hL (fun r_582 H locs hr_582 hA hL => ?_)
  replace hr_582 : r_582 = oneF ((goG u v f g b0) 12) := hr_582.trans (th_6 h5)
  subst hr_582
  refine lv_iload hx hb dL_tick_585 (lv_at hl 1 rfl) ?_
  refine lv_if_eq (tgt := 594) hx hb dL_tick_587 (by decide) (fun _ => ?_) (fun h9 => absurd (by decide) h9)
  refine lv_iload hx hb dL_tick_594 (lv_at hl 9 rfl) ?_
  refine lv_icmp_ne (tgt := 603) hx hb dL_tick_596 (by decide) (fun c_596 => absurd (by rw [ht12] <;> rfl) c_596) (fun c_596 => ?_)
  refine lv_iconst (v := 1) hx hb dL_tick_599 (by decide) ?_
  refine lv_goto (tgt := 604) hx hb dL_tick_600 (by decide) ?_
  exact en_l (post := fun r (_ : Unit) => r = 1) (B := fun _ H => LB G cA A o (u, v, (goF u v f g b0), (goG u v f g b0), (goL u v g L b0)) (recN n) K ch H) () hx hb hr hlocks hA rfl hL dL_tick_604
set_option maxHeartbeats 8000000 in
set_option maxRecDepth 100000 in
/-- tick(o, beams), in the state 3, case nb -/
theorem cL_tick_3_nb (l : Launch) (G : va_G) (cA : Nat → ClassId) (A : Nat → Prop) (o : Nat) (u : FF) (v : GG) (f : FF) (g L : GG) (n K : Nat) (ch : GG) (b0 : Int32) (hb0 : ¬ b0 < 0) (hb7 : ¬ 7 < b0) (hbz : ¬ b0 = 0) (hs : g 13 = 3) (hn : n ≤ 4) (hGo : GoOk u f g) (hPr : PrOk u g) (hP2 : PrOk u (goG u v f g b0)) (hT : ¬ 99999 < g 27 + nI 1) (hBo : Bo g) (hf : vf_n32 (f 7)) (hg : g 5 = 0) : Met l yL_tick wsL_tick ({ frames := 7, cells := 0, slots := 0, locals := 160 } : Room) (va_Pc [.ref o, .int b0] (LbP G cA A o (u, v, f, g, L) n K ch)) (va_Qi (fun r (_ : Unit) => r = 1) (fun _ t => LB G cA A o (u, v, (goF u v f g b0), (goG u v f g b0), (goL u v g L b0)) (recN n) K ch t.heap) A) 0 0 A := by
  refine ofW2 (cc := cL_tick) (maxL := 19) (ret := (some .boolean)) (own := RL) (by decide) rfl rfl (Nat.le_of_ble_eq_true rfl) rfl ?_
  intro p e s m below meth c ls hx hb hml hr hts hown hlocks hv hl
  obtain ⟨hE, hN, hL⟩ := hv
  have hA : At G cA A s s.heap [] := ⟨hE, hN, va_S.rf⟩
  obtain ⟨H, hH0⟩ : ∃ H, H = s.heap := ⟨_, rfl⟩
  rw [← hH0] at hL ⊢
  replace hA : At G cA A s H [] := by rw [hH0]; exact hA
  generalize ([] : List Loc) = locs at hA ⊢
  clear hH0
  replace hl : lv_has ls 19 [(0, .ref o), (1, .int b0)] := hl
  have hG1 : ∀ k, k < 1 → GoOk u (itS u v b0 (f, g, L) k).1 (itS u v b0 (f, g, L) k).2.1 := fun k hk => (show k = 0 by omega) ▸ hGo
  have ht := t_3b hs hbz (u := u) (v := v) (f := f)
  have hp16 : preG u v g b0 16 = g 16 := pre_16b hbz
  have hk5 : (preG u v g b0) 5 = 1 := by rw [pre_b hbz]; exact (show (if g 5 = 0 then 1 else g 5) = 1 by rw [if_pos hg])
  have hk7 : (preG u v g b0) 7 = 1 := by rw [pre_b hbz]; show (if g 5 = 0 then 0 else g 7) + 1 = _; rw [if_pos hg]; rfl
  have hk12 : (preG u v g b0) 12 = 0 := by rw [pre_b hbz]; show (if g 5 = 0 then 0 else g 12) = _; rw [if_pos hg]
  have h5e : (goG u v f g b0) 5 = (preG u v g b0) 5 := mv_5
  have e7e : (goG u v f g b0) 7 = (preG u v g b0) 7 := mv_7
  have h5 : ¬ (goG u v f g b0) 5 = 0 := by rw [h5e, hk5]; decide
  have e7t := e7e.trans hk7
  refine lv_aload_n hx hb dL_tick_0 rfl (lv_at hl 0 rfl) ?_
  refine lv_iconst (v := 0) hx hb dL_tick_1 (by decide) ?_
  refine lr_i (rL (rest := []) ⟨hx, hb, hml, hown, hts⟩ (LB_door l G cA A o (u, v, f, g, L) n K ch 0 ) (cwV 1 hts gL_tick_X8_door rfl rfl rfl mdX8_door ⟨Nat.le_of_ble_eq_true rfl, Nat.le_of_ble_eq_true rfl⟩) hA hL rfl hl rfl (Nat.le_of_ble_eq_true rfl) dL_tick_2 ⟨Nat.le_of_ble_eq_true rfl, Nat.le_of_ble_eq_true rfl⟩) hA hL (fun r_2 H locs hr_2 hA hL => ?_)
  replace hr_2 : r_2 = 3 := hr_2.trans hs
  subst hr_2
  refine lv_istore_n (lv' := [(2, .int 3), (0, .ref o), (1, .int b0)]) hx hb dL_tick_5 rfl hl (by decide) rfl (fun ls hl => ?_)
  refine lv_aload_n hx hb dL_tick_6 rfl (lv_at hl 1 rfl) ?_
  refine lr_f (rL (rest := []) ⟨hx, hb, hml, hown, hts⟩ (LB_place l G cA A o (u, v, f, g, L) n K ch  ) (cwV 0 hts gL_tick_X8_place rfl rfl rfl mdX8_place ⟨Nat.le_of_ble_eq_true rfl, Nat.le_of_ble_eq_true rfl⟩) hA hL rfl hl rfl (Nat.le_of_ble_eq_true rfl) dL_tick_7 ⟨Nat.le_of_ble_eq_true rfl, Nat.le_of_ble_eq_true rfl⟩) hA hL (fun r_7 H locs hr_7 hA hL => ?_)
  replace hr_7 : r_7 = f 7 := hr_7
  subst hr_7
  refine lv_fstore_n (lv' := [(3, .float (f 7)), (2, .int 3), (0, .ref o), (1, .int b0)]) hx hb dL_tick_10 rfl hl (by decide) rfl (fun ls hl => ?_)
  refine lv_aload_n hx hb dL_tick_11 rfl (lv_at hl 2 rfl) ?_
  refine lv_iconst (v := 1) hx hb dL_tick_12 (by decide) ?_
  refine lr_i (rL (rest := []) ⟨hx, hb, hml, hown, hts⟩ (LB_door l G cA A o (u, v, f, g, L) n K ch 1 ) (cwV 1 hts gL_tick_X8_door rfl rfl rfl mdX8_door ⟨Nat.le_of_ble_eq_true rfl, Nat.le_of_ble_eq_true rfl⟩) hA hL rfl hl rfl (Nat.le_of_ble_eq_true rfl) dL_tick_13 ⟨Nat.le_of_ble_eq_true rfl, Nat.le_of_ble_eq_true rfl⟩) hA hL (fun r_13 H locs hr_13 hA hL => ?_)
  replace hr_13 : r_13 = g 16 := hr_13
  subst hr_13
  refine lv_istore (lv' := [(4, .int (g 16)), (3, .float (f 7)), (2, .int 3), (0, .ref o), (1, .int b0)]) hx hb dL_tick_16 hl (by decide) rfl (fun ls hl => ?_)
  refine lv_aload_n hx hb dL_tick_18 rfl (lv_at hl 3 rfl) ?_
  refine lv_iconst (v := 3) hx hb dL_tick_19 (by decide) ?_
  refine lr_i (rL (rest := []) ⟨hx, hb, hml, hown, hts⟩ (LB_door l G cA A o (u, v, f, g, L) n K ch 3 ) (cwV 1 hts gL_tick_X8_door rfl rfl rfl mdX8_door ⟨Nat.le_of_ble_eq_true rfl, Nat.le_of_ble_eq_true rfl⟩) hA hL rfl hl rfl (Nat.le_of_ble_eq_true rfl) dL_tick_20 ⟨Nat.le_of_ble_eq_true rfl, Nat.le_of_ble_eq_true rfl⟩) hA hL (fun r_20 H locs hr_20 hA hL => ?_)
  rw [show doF f g 3 = 0 from (by show (if g 13 = 2 then g 14 else 0) = 0; rw [if_neg (by rw [hs]; decide)])] at hr_20
  subst hr_20
  refine lv_istore (lv' := [(5, .int 0), (4, .int (g 16)), (3, .float (f 7)), (2, .int 3), (0, .ref o), (1, .int b0)]) hx hb dL_tick_23 hl (by decide) rfl (fun ls hl => ?_)
  refine lv_aload_n hx hb dL_tick_25 rfl (lv_at hl 4 rfl) ?_
  refine lv_iconst (v := 4) hx hb dL_tick_26 (by decide) ?_
  refine lr_i (rL (rest := []) ⟨hx, hb, hml, hown, hts⟩ (LB_door l G cA A o (u, v, f, g, L) n K ch 4 ) (cwV 1 hts gL_tick_X8_door rfl rfl rfl mdX8_door ⟨Nat.le_of_ble_eq_true rfl, Nat.le_of_ble_eq_true rfl⟩) hA hL rfl hl rfl (Nat.le_of_ble_eq_true rfl) dL_tick_27 ⟨Nat.le_of_ble_eq_true rfl, Nat.le_of_ble_eq_true rfl⟩) hA hL (fun r_27 H locs hr_27 hA hL => ?_)
  rw [show doF f g 4 = g 15 from (by show (if g 13 = 3 then g 15 else 0) = g 15; rw [if_pos hs])] at hr_27
  subst hr_27
  refine lv_istore (lv' := [(6, .int (g 15)), (5, .int 0), (4, .int (g 16)), (3, .float (f 7)), (2, .int 3), (0, .ref o), (1, .int b0)]) hx hb dL_tick_30 hl (by decide) rfl (fun ls hl => ?_)
  refine lv_aload_n hx hb dL_tick_32 rfl (lv_at hl 5 rfl) ?_
  refine lv_iconst (v := 2) hx hb dL_tick_33 (by decide) ?_
  refine lr_i (rL (rest := []) ⟨hx, hb, hml, hown, hts⟩ (LB_door l G cA A o (u, v, f, g, L) n K ch 2 ) (cwV 1 hts gL_tick_X8_door rfl rfl rfl mdX8_door ⟨Nat.le_of_ble_eq_true rfl, Nat.le_of_ble_eq_true rfl⟩) hA hL rfl hl rfl (Nat.le_of_ble_eq_true rfl) dL_tick_34 ⟨Nat.le_of_ble_eq_true rfl, Nat.le_of_ble_eq_true rfl⟩) hA hL (fun r_34 H locs hr_34 hA hL => ?_)
  replace hr_34 : r_34 = oneF (g 17) := hr_34
  subst hr_34
  refine lv_istore (lv' := [(7, .int (oneF (g 17))), (6, .int (g 15)), (5, .int 0), (4, .int (g 16)), (3, .float (f 7)), (2, .int 3), (0, .ref o), (1, .int b0)]) hx hb dL_tick_37 hl (by decide) rfl (fun ls hl => ?_)
  refine lv_aload_n hx hb dL_tick_39 rfl (lv_at hl 6 rfl) ?_
  refine lv_iconst (v := 0) hx hb dL_tick_40 (by decide) ?_
  refine lr_i (rL (rest := []) ⟨hx, hb, hml, hown, hts⟩ (LB_thing l G cA A o (u, v, f, g, L) n K ch 0 hPr) (cwV 1 hts gL_tick_X8_thing rfl rfl rfl mdX8_thing ⟨Nat.le_of_ble_eq_true rfl, Nat.le_of_ble_eq_true rfl⟩) hA hL rfl hl rfl (Nat.le_of_ble_eq_true rfl) dL_tick_41 ⟨Nat.le_of_ble_eq_true rfl, Nat.le_of_ble_eq_true rfl⟩) hA hL (fun r_41 H locs hr_41 hA hL => ?_)
  replace hr_41 : r_41 = -5 := hr_41.trans (th_none 0 (by decide) (by decide) hg)
  subst hr_41
  refine lv_istore (lv' := [(8, .int (-5)), (7, .int (oneF (g 17))), (6, .int (g 15)), (5, .int 0), (4, .int (g 16)), (3, .float (f 7)), (2, .int 3), (0, .ref o), (1, .int b0)]) hx hb dL_tick_44 hl (by decide) rfl (fun ls hl => ?_)
  refine lv_iload hx hb dL_tick_46 (lv_at hl 0 rfl) ?_
  refine lv_if_ge (tgt := 55) hx hb dL_tick_48 (by decide) (fun h9 => absurd h9 (by decide)) (fun _ => ?_)
  refine lv_iconst (v := 0) hx hb dL_tick_51 (by decide) ?_
  refine lv_goto (tgt := 60) hx hb dL_tick_52 (by decide) ?_
  refine lv_istore (lv' := [(9, .int 0), (8, .int (-5)), (7, .int (oneF (g 17))), (6, .int (g 15)), (5, .int 0), (4, .int (g 16)), (3, .float (f 7)), (2, .int 3), (0, .ref o), (1, .int b0)]) hx hb dL_tick_60 hl (by decide) rfl (fun ls hl => ?_)
  refine lv_iload hx hb dL_tick_62 (lv_at hl 1 rfl) ?_
  refine lv_if_ge (tgt := 71) hx hb dL_tick_64 (by decide) (fun h9 => absurd h9 (by decide)) (fun _ => ?_)
  refine lv_iconst (v := 0) hx hb dL_tick_67 (by decide) ?_
  refine lv_goto (tgt := 77) hx hb dL_tick_68 (by decide) ?_
  refine lv_istore (lv' := [(10, .int 0), (9, .int 0), (8, .int (-5)), (7, .int (oneF (g 17))), (6, .int (g 15)), (5, .int 0), (4, .int (g 16)), (3, .float (f 7)), (2, .int 3), (0, .ref o), (1, .int b0)]) hx hb dL_tick_77 hl (by decide) rfl (fun ls hl => ?_)
  refine lv_iload hx hb dL_tick_79 (lv_at hl 2 rfl) ?_
  refine lv_if_ge (tgt := 88) hx hb dL_tick_81 (by decide) (fun h9 => absurd h9 (by decide)) (fun _ => ?_)
  refine lv_iconst (v := 0) hx hb dL_tick_84 (by decide) ?_
  refine lv_goto (tgt := 94) hx hb dL_tick_85 (by decide) ?_
  refine lv_istore (lv' := [(11, .int 0), (10, .int 0), (9, .int 0), (8, .int (-5)), (7, .int (oneF (g 17))), (6, .int (g 15)), (5, .int 0), (4, .int (g 16)), (3, .float (f 7)), (2, .int 3), (0, .ref o), (1, .int b0)]) hx hb dL_tick_94 hl (by decide) rfl (fun ls hl => ?_)
  refine lv_aload_n hx hb dL_tick_96 rfl (lv_at hl 10 rfl) ?_
  refine lv_iload_n hx hb dL_tick_97 rfl (lv_at hl 11 rfl) ?_
  refine lv_iconst (v := 1) hx hb dL_tick_98 (by decide) ?_
  refine lw_f (rL (rest := []) ⟨hx, hb, hml, hown, hts⟩ (LB_placeIn_ok l G cA A o (u, v, f, g, L) n K ch b0 1 hb0 hb7 (by decide) hG1) (cwV 2 hts gL_tick_X8_placeIn rfl rfl rfl mdX8_placeIn ⟨Nat.le_of_ble_eq_true rfl, Nat.le_of_ble_eq_true rfl⟩) hA hL rfl hl rfl (Nat.le_of_ble_eq_true rfl) dL_tick_99 ⟨Nat.le_of_ble_eq_true rfl, Nat.le_of_ble_eq_true rfl⟩) hA (fun r_99 _ H locs hr_99 hA hL => ?_)
  replace hL : LB G cA A o (u, v, f, g, L) n K ch H := hL
  replace hr_99 : r_99 = (goF u v f g b0) 7 := hr_99
  subst hr_99
  refine lv_fstore (lv' := [(12, .float ((goF u v f g b0) 7)), (11, .int 0), (10, .int 0), (9, .int 0), (8, .int (-5)), (7, .int (oneF (g 17))), (6, .int (g 15)), (5, .int 0), (4, .int (g 16)), (3, .float (f 7)), (2, .int 3), (0, .ref o), (1, .int b0)]) hx hb dL_tick_102 hl (by decide) rfl (fun ls hl => ?_)
  refine lv_aload_n hx hb dL_tick_104 rfl (lv_at hl 11 rfl) ?_
  refine lv_iload hx hb dL_tick_105 (lv_at hl 1 rfl) ?_
  refine lv_iconst (v := 1) hx hb dL_tick_107 (by decide) ?_
  refine lv_iadd hx hb dL_tick_108 ?_
  refine W.eq (g2 := F0 m 109 ls [.int 1, .ref o]) rfl ?_
  refine lr_i (rL (rest := []) ⟨hx, hb, hml, hown, hts⟩ (LB_count l G cA A o (u, v, f, g, L) n K ch 1) (cwV 1 hts gL_tick_X8_count rfl rfl rfl mdX8_count ⟨Nat.le_of_ble_eq_true rfl, Nat.le_of_ble_eq_true rfl⟩) hA hL rfl hl rfl (Nat.le_of_ble_eq_true rfl) dL_tick_109 ⟨Nat.le_of_ble_eq_true rfl, Nat.le_of_ble_eq_true rfl⟩) hA hL (fun r_109 H locs hr_109 hA hL => ?_)
  replace hr_109 : r_109 = g 19 := hr_109
  subst hr_109
  refine lv_istore (lv' := [(13, .int (g 19)), (12, .float ((goF u v f g b0) 7)), (11, .int 0), (10, .int 0), (9, .int 0), (8, .int (-5)), (7, .int (oneF (g 17))), (6, .int (g 15)), (5, .int 0), (4, .int (g 16)), (3, .float (f 7)), (2, .int 3), (0, .ref o), (1, .int b0)]) hx hb dL_tick_112 hl (by decide) rfl (fun ls hl => ?_)
  refine lv_iload hx hb dL_tick_114 (lv_at hl 5 rfl) ?_
  refine lv_if_le (tgt := 139) hx hb dL_tick_116 (by decide) (fun _ => ?_) (fun h9 => absurd (by decide) h9)
  refine lv_iconst (v := 0) hx hb dL_tick_139 (by decide) ?_
  refine lv_istore (lv' := [(14, .int 0), (13, .int (g 19)), (12, .float ((goF u v f g b0) 7)), (11, .int 0), (10, .int 0), (9, .int 0), (8, .int (-5)), (7, .int (oneF (g 17))), (6, .int (g 15)), (5, .int 0), (4, .int (g 16)), (3, .float (f 7)), (2, .int 3), (0, .ref o), (1, .int b0)]) hx hb dL_tick_140 hl (by decide) rfl (fun ls hl => ?_)
  refine lv_iload hx hb dL_tick_142 (lv_at hl 10 rfl) ?_
  refine lv_iload hx hb dL_tick_144 (lv_at hl 0 rfl) ?_
  refine lv_if_eq (tgt := 169) hx hb dL_tick_146 (by decide) (fun _ => ?_) (fun h9 => absurd (by decide) h9)
  refine lv_iconst (v := 0) hx hb dL_tick_169 (by decide) ?_
  refine lv_isub hx hb dL_tick_170 ?_
  refine W.eq (g2 := F0 m 171 ls [.int (preG u v g b0 16)]) (by rw [hp16, Int32.sub_zero]) ?_
  refine lv_istore (lv' := [(4, .int (preG u v g b0 16)), (14, .int 0), (13, .int (g 19)), (12, .float ((goF u v f g b0) 7)), (11, .int 0), (10, .int 0), (9, .int 0), (8, .int (-5)), (7, .int (oneF (g 17))), (6, .int (g 15)), (5, .int 0), (3, .float (f 7)), (2, .int 3), (0, .ref o), (1, .int b0)]) hx hb dL_tick_171 hl (by decide) rfl (fun ls hl => ?_)
  refine lv_iload_n hx hb dL_tick_173 rfl (lv_at hl 12 rfl) ?_
  refine lv_istore (lv' := [(15, .int 3), (4, .int (preG u v g b0 16)), (14, .int 0), (13, .int (g 19)), (12, .float ((goF u v f g b0) 7)), (11, .int 0), (10, .int 0), (9, .int 0), (8, .int (-5)), (7, .int (oneF (g 17))), (6, .int (g 15)), (5, .int 0), (3, .float (f 7)), (2, .int 3), (0, .ref o), (1, .int b0)]) hx hb dL_tick_174 hl (by decide) rfl (fun ls hl => ?_)
  refine lv_fload_n hx hb dL_tick_176 rfl (lv_at hl 12 rfl) ?_
  refine lv_fstore (lv' := [(16, .float (f 7)), (15, .int 3), (4, .int (preG u v g b0 16)), (14, .int 0), (13, .int (g 19)), (12, .float ((goF u v f g b0) 7)), (11, .int 0), (10, .int 0), (9, .int 0), (8, .int (-5)), (7, .int (oneF (g 17))), (6, .int (g 15)), (5, .int 0), (3, .float (f 7)), (2, .int 3), (0, .ref o), (1, .int b0)]) hx hb dL_tick_177 hl (by decide) rfl (fun ls hl => ?_)
  refine lv_iload_n hx hb dL_tick_179 rfl (lv_at hl 14 rfl) ?_
  refine lv_iconst (v := 1) hx hb dL_tick_180 (by decide) ?_
  refine lv_icmp_ne (tgt := 228) hx hb dL_tick_181 (by decide) (fun _ => ?_) (fun h9 => absurd h9 (by decide))
  refine lv_iload_n hx hb dL_tick_228 rfl (lv_at hl 14 rfl) ?_
  refine lv_iconst (v := 2) hx hb dL_tick_229 (by decide) ?_
  refine lv_icmp_ne (tgt := 264) hx hb dL_tick_230 (by decide) (fun _ => ?_) (fun h9 => absurd h9 (by decide))
  refine lv_iload_n hx hb dL_tick_264 rfl (lv_at hl 14 rfl) ?_
  refine lv_iconst (v := 3) hx hb dL_tick_265 (by decide) ?_
  refine lv_icmp_ne (tgt := 311) hx hb dL_tick_266 (by decide) (fun h9 => absurd (by decide) h9) (fun _ => ?_)
  refine lv_iload_n hx hb dL_tick_269 rfl (lv_at hl 16 rfl) ?_
  refine lv_if_eq (tgt := 311) hx hb dL_tick_270 (by decide) (fun c_270 => absurd c_270 hbz) (fun c_270 => ?_)
  refine lv_iload hx hb dL_tick_273 (lv_at hl 11 rfl) ?_
  refine lv_iconst (v := 1) hx hb dL_tick_275 (by decide) ?_
  refine lv_iadd hx hb dL_tick_276 ?_
  refine lv_aload_n hx hb dL_tick_277 rfl (lv_at hl 15 rfl) ?_
  refine lv_iconst (v := 1) hx hb dL_tick_278 (by decide) ?_
  refine lr_i (rL (rest := [.int ((g 15) + 1)]) ⟨hx, hb, hml, hown, hts⟩ (LB_number l G cA A o (u, v, f, g, L) n K ch 1 ) (cwV 1 hts gL_tick_X8_number rfl rfl rfl mdX8_number ⟨Nat.le_of_ble_eq_true rfl, Nat.le_of_ble_eq_true rfl⟩) hA hL rfl hl rfl (Nat.le_of_ble_eq_true rfl) dL_tick_279 ⟨Nat.le_of_ble_eq_true rfl, Nat.le_of_ble_eq_true rfl⟩) hA hL (fun r_279 H locs hr_279 hA hL => ?_)
  replace hr_279 : r_279 = v 1 := hr_279
  subst hr_279
  refine lv_icmp_le (tgt := 289) hx hb dL_tick_282 (by decide) (fun c_282 => ?_) (fun c_282 => ?_)
  · skip
    refine lv_iconst (v := 3) hx hb dL_tick_289 (by decide) ?_
    refine lv_istore (lv' := [(15, .int 3), (16, .float (f 7)), (4, .int (preG u v g b0 16)), (14, .int 0), (13, .int (g 19)), (12, .float ((goF u v f g b0) 7)), (11, .int 0), (10, .int 0), (9, .int 0), (8, .int (-5)), (7, .int (oneF (g 17))), (6, .int (g 15)), (5, .int 0), (3, .float (f 7)), (2, .int 3), (0, .ref o), (1, .int b0)]) hx hb dL_tick_290 hl (by decide) rfl (fun ls hl => ?_)
    refine lv_iload hx hb dL_tick_292 (lv_at hl 2 rfl) ?_
    refine lv_iload hx hb dL_tick_294 (lv_at hl 0 rfl) ?_
    refine lv_iconst (v := 1) hx hb dL_tick_296 (by decide) ?_
    refine lv_icmp_ne (tgt := 304) hx hb dL_tick_297 (by decide) (fun _ => ?_) (fun h9 => absurd h9 (by decide))
    refine lv_iconst (v := 0) hx hb dL_tick_304 (by decide) ?_
    refine lv_iadd hx hb dL_tick_305 ?_
    refine W.eq (g2 := F0 m 306 ls [.int (preG u v g b0 16)]) (by rw [Int32.add_zero]) ?_
    refine lv_istore (lv' := [(4, .int (preG u v g b0 16)), (15, .int 3), (16, .float (f 7)), (14, .int 0), (13, .int (g 19)), (12, .float ((goF u v f g b0) 7)), (11, .int 0), (10, .int 0), (9, .int 0), (8, .int (-5)), (7, .int (oneF (g 17))), (6, .int (g 15)), (5, .int 0), (3, .float (f 7)), (2, .int 3), (0, .ref o), (1, .int b0)]) hx hb dL_tick_306 hl (by decide) rfl (fun ls hl => ?_)
    refine lv_goto (tgt := 385) hx hb dL_tick_308 (by decide) ?_
    refine lv_iload_n hx hb dL_tick_385 rfl (lv_at hl 14 rfl) ?_
    refine lv_iconst (v := 3) hx hb dL_tick_386 (by decide) ?_
    refine lv_icmp_ne (tgt := 400) hx hb dL_tick_387 (by decide) (fun h9 => absurd (by decide) h9) (fun _ => ?_)
    refine lv_iload hx hb dL_tick_390 (lv_at hl 1 rfl) ?_
    refine lv_iconst (v := 1) hx hb dL_tick_392 (by decide) ?_
    refine lv_icmp_ne (tgt := 400) hx hb dL_tick_393 (by decide) (fun _ => ?_) (fun h9 => absurd h9 (by decide))
    refine lv_iconst (v := 0) hx hb dL_tick_400 (by decide) ?_
    refine lv_istore (lv' := [(17, .int 0), (4, .int (preG u v g b0 16)), (15, .int 3), (16, .float (f 7)), (14, .int 0), (13, .int (g 19)), (12, .float ((goF u v f g b0) 7)), (11, .int 0), (10, .int 0), (9, .int 0), (8, .int (-5)), (7, .int (oneF (g 17))), (6, .int (g 15)), (5, .int 0), (3, .float (f 7)), (2, .int 3), (0, .ref o), (1, .int b0)]) hx hb dL_tick_401 hl (by decide) rfl (fun ls hl => ?_)
    refine lv_iload hx hb dL_tick_403 (lv_at hl 0 rfl) ?_
    refine lv_if_eq (tgt := 428) hx hb dL_tick_405 (by decide) (fun _ => ?_) (fun h9 => absurd (by decide) h9)
    refine lv_iconst (v := 0) hx hb dL_tick_428 (by decide) ?_
    refine lv_istore (lv' := [(18, .int 0), (17, .int 0), (4, .int (preG u v g b0 16)), (15, .int 3), (16, .float (f 7)), (14, .int 0), (13, .int (g 19)), (12, .float ((goF u v f g b0) 7)), (11, .int 0), (10, .int 0), (9, .int 0), (8, .int (-5)), (7, .int (oneF (g 17))), (6, .int (g 15)), (5, .int 0), (3, .float (f 7)), (2, .int 3), (0, .ref o), (1, .int b0)]) hx hb dL_tick_429 hl (by decide) rfl (fun ls hl => ?_)
    refine lv_aload_n hx hb dL_tick_431 rfl (lv_at hl 17 rfl) ?_
    refine lv_iload_n hx hb dL_tick_432 rfl (lv_at hl 18 rfl) ?_
    refine lv_iconst (v := 1) hx hb dL_tick_433 (by decide) ?_
    refine lw_i (rL (rest := []) ⟨hx, hb, hml, hown, hts⟩ (LB_pass_ok l G cA A o (u, v, f, g, L) n K ch hn b0 1 hb0 hb7 (by decide) (by decide) hT hG1 hBo) (cwV 2 hts gL_tick_X8_pass rfl rfl rfl mdX8_pass ⟨Nat.le_of_ble_eq_true rfl, Nat.le_of_ble_eq_true rfl⟩) hA hL rfl hl rfl (Nat.le_of_ble_eq_true rfl) dL_tick_434 ⟨Nat.le_of_ble_eq_true rfl, Nat.le_of_ble_eq_true rfl⟩) hA (fun r_434 _ H locs hr_434 hA hL => ?_)
    replace hL : LB G cA A o (u, v, (goF u v f g b0), (goG u v f g b0), (goL u v g L b0)) (recN n) K ch H := hL
    replace hr_434 : r_434 = (goG u v f g b0) 13 := hr_434
    subst hr_434
    refine lv_iload hx hb dL_tick_437 (lv_at hl 3 rfl) ?_
    refine lv_icmp_ne (tgt := 489) hx hb dL_tick_439 (by decide) (fun c_439 => absurd (ht.1.trans (if_pos c_282)) c_439) (fun c_439 => ?_)
    refine lv_aload_n hx hb dL_tick_442 rfl (lv_at hl 17 rfl) ?_
    refine lr_f (rL (rest := []) ⟨hx, hb, hml, hown, hts⟩ (LB_place l G cA A o (u, v, (goF u v f g b0), (goG u v f g b0), (goL u v g L b0)) (recN n) K ch  ) (cwV 0 hts gL_tick_X8_place rfl rfl rfl mdX8_place ⟨Nat.le_of_ble_eq_true rfl, Nat.le_of_ble_eq_true rfl⟩) hA hL rfl hl rfl (Nat.le_of_ble_eq_true rfl) dL_tick_443 ⟨Nat.le_of_ble_eq_true rfl, Nat.le_of_ble_eq_true rfl⟩) hA hL (fun r_443 H locs hr_443 hA hL => ?_)
    replace hr_443 : r_443 = (goF u v f g b0) 7 := hr_443
    subst hr_443
    refine lv_fload hx hb dL_tick_446 (lv_at hl 4 rfl) ?_
    refine lv_fcmp hx hb dL_tick_448 ?_
    refine lv_if_ne (tgt := 489) hx hb dL_tick_449 (by decide) (fun c_449 => absurd (by rw [ht.2.2.2.1]; exact cmp_self (of_vf hf) _) c_449) (fun c_449 => ?_)
    refine lv_fload hx hb dL_tick_452 (lv_at hl 7 rfl) ?_
    refine lv_fload hx hb dL_tick_454 (lv_at hl 4 rfl) ?_
    refine lv_fcmp hx hb dL_tick_456 ?_
    refine lv_if_ne (tgt := 489) hx hb dL_tick_457 (by decide) (fun c_457 => absurd (by rw [ht.2.2.2.1]; exact cmp_self (of_vf hf) _) c_457) (fun c_457 => ?_)
    refine lv_aload_n hx hb dL_tick_460 rfl (lv_at hl 17 rfl) ?_
    refine lv_iconst (v := 1) hx hb dL_tick_461 (by decide) ?_
    refine lr_i (rL (rest := []) ⟨hx, hb, hml, hown, hts⟩ (LB_door l G cA A o (u, v, (goF u v f g b0), (goG u v f g b0), (goL u v g L b0)) (recN n) K ch 1 ) (cwV 1 hts gL_tick_X8_door rfl rfl rfl mdX8_door ⟨Nat.le_of_ble_eq_true rfl, Nat.le_of_ble_eq_true rfl⟩) hA hL rfl hl rfl (Nat.le_of_ble_eq_true rfl) dL_tick_462 ⟨Nat.le_of_ble_eq_true rfl, Nat.le_of_ble_eq_true rfl⟩) hA hL (fun r_462 H locs hr_462 hA hL => ?_)
    replace hr_462 : r_462 = (goG u v f g b0) 16 := hr_462
    subst hr_462
    refine lv_iload hx hb dL_tick_465 (lv_at hl 2 rfl) ?_
    refine lv_icmp_ne (tgt := 489) hx hb dL_tick_467 (by decide) (fun c_467 => absurd (ht.2.1.trans (if_pos c_282)) c_467) (fun c_467 => ?_)
    refine lv_aload_n hx hb dL_tick_470 rfl (lv_at hl 17 rfl) ?_
    refine lv_iconst (v := 2) hx hb dL_tick_471 (by decide) ?_
    refine lr_i (rL (rest := []) ⟨hx, hb, hml, hown, hts⟩ (LB_door l G cA A o (u, v, (goF u v f g b0), (goG u v f g b0), (goL u v g L b0)) (recN n) K ch 2 ) (cwV 1 hts gL_tick_X8_door rfl rfl rfl mdX8_door ⟨Nat.le_of_ble_eq_true rfl, Nat.le_of_ble_eq_true rfl⟩) hA hL rfl hl rfl (Nat.le_of_ble_eq_true rfl) dL_tick_472 ⟨Nat.le_of_ble_eq_true rfl, Nat.le_of_ble_eq_true rfl⟩) hA hL (fun r_472 H locs hr_472 hA hL => ?_)
    replace hr_472 : r_472 = oneF ((goG u v f g b0) 17) := hr_472
    subst hr_472
    refine lv_iload hx hb dL_tick_475 (lv_at hl 0 rfl) ?_
    refine lv_if_eq (tgt := 484) hx hb dL_tick_477 (by decide) (fun _ => ?_) (fun h9 => absurd (by decide) h9)
    refine lv_iload hx hb dL_tick_484 (lv_at hl 12 rfl) ?_
    refine lv_icmp_eq (tgt := 491) hx hb dL_tick_486 (by decide) (fun c_486 => ?_) (fun c_486 => absurd (by rw [(ht.2.2.1.trans (if_pos c_282))] <;> rfl) c_486)
    refine lv_iload hx hb dL_tick_491 (lv_at hl 5 rfl) ?_
    refine lv_if_eq (tgt := 554) hx hb dL_tick_493 (by decide) (fun _ => ?_) (fun h9 => absurd (by decide) h9)
    refine lv_iload_n hx hb dL_tick_554 rfl (lv_at hl 18 rfl) ?_
    refine lv_if_eq (tgt := 599) hx hb dL_tick_555 (by decide) (fun c_555 => absurd c_555 hbz) (fun c_555 => ?_)
    refine lv_aload_n hx hb dL_tick_558 rfl (lv_at hl 17 rfl) ?_
    refine lv_iconst (v := 0) hx hb dL_tick_559 (by decide) ?_
    refine lr_i (rL (rest := []) ⟨hx, hb, hml, hown, hts⟩ (LB_thing l G cA A o (u, v, (goF u v f g b0), (goG u v f g b0), (goL u v g L b0)) (recN n) K ch 0 hP2) (cwV 1 hts gL_tick_X8_thing rfl rfl rfl mdX8_thing ⟨Nat.le_of_ble_eq_true rfl, Nat.le_of_ble_eq_true rfl⟩) hA hL rfl hl rfl (Nat.le_of_ble_eq_true rfl) dL_tick_560 ⟨Nat.le_of_ble_eq_true rfl, Nat.le_of_ble_eq_true rfl⟩) hA hL (fun r_560 H locs hr_560 hA hL => ?_)
    replace hr_560 : r_560 = 1 := hr_560.trans ((th_0 h5).trans e7t)
    subst hr_560
    refine lv_iload hx hb dL_tick_563 (lv_at hl 11 rfl) ?_
    refine lv_if_ge (tgt := 572) hx hb dL_tick_565 (by decide) (fun h9 => absurd h9 (by decide)) (fun _ => ?_)
    refine lv_iconst (v := 1) hx hb dL_tick_568 (by decide) ?_
    refine lv_goto (tgt := 576) hx hb dL_tick_569 (by decide) ?_
    refine lv_icmp_ne (tgt := 603) hx hb dL_tick_576 (by decide) (fun h9 => absurd (by decide) h9) (fun _ => ?_)
    refine lv_aload_n hx hb dL_tick_579 rfl (lv_at hl 17 rfl) ?_
    refine lv_bipush (v := 6) hx hb dL_tick_580 (by decide) ?_
    refine lr_i (rL (rest := []) ⟨hx, hb, hml, hown, hts⟩ (LB_thing l G cA A o (u, v, (goF u v f g b0), (goG u v f g b0), (goL u v g L b0)) (recN n) K ch 6 hP2) (cwV 1 hts gL_tick_X8_thing rfl rfl rfl mdX8_thing ⟨Nat.le_of_ble_eq_true rfl, Nat.le_of_ble_eq_true rfl⟩) hA hL rfl hl rfl (Nat.le_of_ble_eq_true rfl) dL_tick_582 ⟨Nat.le_of_ble_eq_true rfl, Nat.le_of_ble_eq_true rfl⟩) hA hL (fun r_582 H locs hr_582 hA hL => ?_)
    replace hr_582 : r_582 = oneF ((goG u v f g b0) 12) := hr_582.trans (th_6 h5)
    subst hr_582
    refine lv_iload hx hb dL_tick_585 (lv_at hl 1 rfl) ?_
    refine lv_if_eq (tgt := 594) hx hb dL_tick_587 (by decide) (fun _ => ?_) (fun h9 => absurd (by decide) h9)
    refine lv_iload hx hb dL_tick_594 (lv_at hl 9 rfl) ?_
    refine lv_icmp_ne (tgt := 603) hx hb dL_tick_596 (by decide) (fun c_596 => absurd (by rw [ht.2.2.2.2, if_pos c_282, hk12] <;> rfl) c_596) (fun c_596 => ?_)
    refine lv_iconst (v := 1) hx hb dL_tick_599 (by decide) ?_
    refine lv_goto (tgt := 604) hx hb dL_tick_600 (by decide) ?_
    exact en_l (post := fun r (_ : Unit) => r = 1) (B := fun _ H => LB G cA A o (u, v, (goF u v f g b0), (goG u v f g b0), (goL u v g L b0)) (recN n) K ch H) () hx hb hr hlocks hA rfl hL dL_tick_604
  · skip
    refine lv_iconst (v := 1) hx hb dL_tick_285 (by decide) ?_
    refine lv_goto (tgt := 290) hx hb dL_tick_286 (by decide) ?_
    refine lv_istore (lv' := [(15, .int 1), (16, .float (f 7)), (4, .int (preG u v g b0 16)), (14, .int 0), (13, .int (g 19)), (12, .float ((goF u v f g b0) 7)), (11, .int 0), (10, .int 0), (9, .int 0), (8, .int (-5)), (7, .int (oneF (g 17))), (6, .int (g 15)), (5, .int 0), (3, .float (f 7)), (2, .int 3), (0, .ref o), (1, .int b0)]) hx hb dL_tick_290 hl (by decide) rfl (fun ls hl => ?_)
    refine lv_iload hx hb dL_tick_292 (lv_at hl 2 rfl) ?_
    refine lv_iload hx hb dL_tick_294 (lv_at hl 0 rfl) ?_
    refine lv_iconst (v := 1) hx hb dL_tick_296 (by decide) ?_
    refine lv_icmp_ne (tgt := 304) hx hb dL_tick_297 (by decide) (fun h9 => absurd (by decide) h9) (fun _ => ?_)
    refine lv_iconst (v := 1) hx hb dL_tick_300 (by decide) ?_
    refine lv_goto (tgt := 305) hx hb dL_tick_301 (by decide) ?_
    refine lv_iadd hx hb dL_tick_305 ?_
    refine lv_istore (lv' := [(4, .int ((preG u v g b0 16) + 1)), (15, .int 1), (16, .float (f 7)), (14, .int 0), (13, .int (g 19)), (12, .float ((goF u v f g b0) 7)), (11, .int 0), (10, .int 0), (9, .int 0), (8, .int (-5)), (7, .int (oneF (g 17))), (6, .int (g 15)), (5, .int 0), (3, .float (f 7)), (2, .int 3), (0, .ref o), (1, .int b0)]) hx hb dL_tick_306 hl (by decide) rfl (fun ls hl => ?_)
    refine lv_goto (tgt := 385) hx hb dL_tick_308 (by decide) ?_
    refine lv_iload_n hx hb dL_tick_385 rfl (lv_at hl 14 rfl) ?_
    refine lv_iconst (v := 3) hx hb dL_tick_386 (by decide) ?_
    refine lv_icmp_ne (tgt := 400) hx hb dL_tick_387 (by decide) (fun h9 => absurd (by decide) h9) (fun _ => ?_)
    refine lv_iload hx hb dL_tick_390 (lv_at hl 1 rfl) ?_
    refine lv_iconst (v := 1) hx hb dL_tick_392 (by decide) ?_
    refine lv_icmp_ne (tgt := 400) hx hb dL_tick_393 (by decide) (fun h9 => absurd (by decide) h9) (fun _ => ?_)
    refine lv_iconst (v := 1) hx hb dL_tick_396 (by decide) ?_
    refine lv_goto (tgt := 401) hx hb dL_tick_397 (by decide) ?_
    refine lv_istore (lv' := [(17, .int 1), (4, .int ((preG u v g b0 16) + 1)), (15, .int 1), (16, .float (f 7)), (14, .int 0), (13, .int (g 19)), (12, .float ((goF u v f g b0) 7)), (11, .int 0), (10, .int 0), (9, .int 0), (8, .int (-5)), (7, .int (oneF (g 17))), (6, .int (g 15)), (5, .int 0), (3, .float (f 7)), (2, .int 3), (0, .ref o), (1, .int b0)]) hx hb dL_tick_401 hl (by decide) rfl (fun ls hl => ?_)
    refine lv_iload hx hb dL_tick_403 (lv_at hl 0 rfl) ?_
    refine lv_if_eq (tgt := 428) hx hb dL_tick_405 (by decide) (fun h9 => absurd h9 (by decide)) (fun _ => ?_)
    refine lv_iload hx hb dL_tick_408 (lv_at hl 1 rfl) ?_
    refine lv_aload_n hx hb dL_tick_410 rfl (lv_at hl 16 rfl) ?_
    refine lv_iconst (v := 2) hx hb dL_tick_411 (by decide) ?_
    refine lr_i (rL (rest := [.int ((preG u v g b0 16) + 1)]) ⟨hx, hb, hml, hown, hts⟩ (LB_number l G cA A o (u, v, f, g, L) n K ch 2 ) (cwV 1 hts gL_tick_X8_number rfl rfl rfl mdX8_number ⟨Nat.le_of_ble_eq_true rfl, Nat.le_of_ble_eq_true rfl⟩) hA hL rfl hl rfl (Nat.le_of_ble_eq_true rfl) dL_tick_412 ⟨Nat.le_of_ble_eq_true rfl, Nat.le_of_ble_eq_true rfl⟩) hA hL (fun r_412 H locs hr_412 hA hL => ?_)
    replace hr_412 : r_412 = v 2 := hr_412
    subst hr_412
    refine lv_aload_n hx hb dL_tick_415 rfl (lv_at hl 16 rfl) ?_
    refine lv_iconst (v := 3) hx hb dL_tick_416 (by decide) ?_
    refine lr_i (rL (rest := [.int (v 2), .int ((preG u v g b0 16) + 1)]) ⟨hx, hb, hml, hown, hts⟩ (LB_number l G cA A o (u, v, f, g, L) n K ch 3 ) (cwV 1 hts gL_tick_X8_number rfl rfl rfl mdX8_number ⟨Nat.le_of_ble_eq_true rfl, Nat.le_of_ble_eq_true rfl⟩) hA hL rfl hl rfl (Nat.le_of_ble_eq_true rfl) dL_tick_417 ⟨Nat.le_of_ble_eq_true rfl, Nat.le_of_ble_eq_true rfl⟩) hA hL (fun r_417 H locs hr_417 hA hL => ?_)
    replace hr_417 : r_417 = v 3 := hr_417
    subst hr_417
    refine lv_iadd hx hb dL_tick_420 ?_
    refine lv_icmp_le (tgt := 428) hx hb dL_tick_421 (by decide) (fun c_421 => ?_) (fun c_421 => ?_)
    · skip
      refine lv_iconst (v := 0) hx hb dL_tick_428 (by decide) ?_
      refine lv_istore (lv' := [(18, .int 0), (17, .int 1), (4, .int ((preG u v g b0 16) + 1)), (15, .int 1), (16, .float (f 7)), (14, .int 0), (13, .int (g 19)), (12, .float ((goF u v f g b0) 7)), (11, .int 0), (10, .int 0), (9, .int 0), (8, .int (-5)), (7, .int (oneF (g 17))), (6, .int (g 15)), (5, .int 0), (3, .float (f 7)), (2, .int 3), (0, .ref o), (1, .int b0)]) hx hb dL_tick_429 hl (by decide) rfl (fun ls hl => ?_)
      refine lv_aload_n hx hb dL_tick_431 rfl (lv_at hl 17 rfl) ?_
      refine lv_iload_n hx hb dL_tick_432 rfl (lv_at hl 18 rfl) ?_
      refine lv_iconst (v := 1) hx hb dL_tick_433 (by decide) ?_
      refine lw_i (rL (rest := []) ⟨hx, hb, hml, hown, hts⟩ (LB_pass_ok l G cA A o (u, v, f, g, L) n K ch hn b0 1 hb0 hb7 (by decide) (by decide) hT hG1 hBo) (cwV 2 hts gL_tick_X8_pass rfl rfl rfl mdX8_pass ⟨Nat.le_of_ble_eq_true rfl, Nat.le_of_ble_eq_true rfl⟩) hA hL rfl hl rfl (Nat.le_of_ble_eq_true rfl) dL_tick_434 ⟨Nat.le_of_ble_eq_true rfl, Nat.le_of_ble_eq_true rfl⟩) hA (fun r_434_1 _ H locs hr_434_1 hA hL => ?_)
      replace hL : LB G cA A o (u, v, (goF u v f g b0), (goG u v f g b0), (goL u v g L b0)) (recN n) K ch H := hL
      replace hr_434_1 : r_434_1 = (goG u v f g b0) 13 := hr_434_1
      subst hr_434_1
      refine lv_iload hx hb dL_tick_437 (lv_at hl 3 rfl) ?_
      refine lv_icmp_ne (tgt := 489) hx hb dL_tick_439 (by decide) (fun c_439_1 => absurd (ht.1.trans (if_neg c_282)) c_439_1) (fun c_439_1 => ?_)
      refine lv_aload_n hx hb dL_tick_442 rfl (lv_at hl 17 rfl) ?_
      refine lr_f (rL (rest := []) ⟨hx, hb, hml, hown, hts⟩ (LB_place l G cA A o (u, v, (goF u v f g b0), (goG u v f g b0), (goL u v g L b0)) (recN n) K ch  ) (cwV 0 hts gL_tick_X8_place rfl rfl rfl mdX8_place ⟨Nat.le_of_ble_eq_true rfl, Nat.le_of_ble_eq_true rfl⟩) hA hL rfl hl rfl (Nat.le_of_ble_eq_true rfl) dL_tick_443 ⟨Nat.le_of_ble_eq_true rfl, Nat.le_of_ble_eq_true rfl⟩) hA hL (fun r_443_1 H locs hr_443_1 hA hL => ?_)
      replace hr_443_1 : r_443_1 = (goF u v f g b0) 7 := hr_443_1
      subst hr_443_1
      refine lv_fload hx hb dL_tick_446 (lv_at hl 4 rfl) ?_
      refine lv_fcmp hx hb dL_tick_448 ?_
      refine lv_if_ne (tgt := 489) hx hb dL_tick_449 (by decide) (fun c_449_1 => absurd (by rw [ht.2.2.2.1]; exact cmp_self (of_vf hf) _) c_449_1) (fun c_449_1 => ?_)
      refine lv_fload hx hb dL_tick_452 (lv_at hl 7 rfl) ?_
      refine lv_fload hx hb dL_tick_454 (lv_at hl 4 rfl) ?_
      refine lv_fcmp hx hb dL_tick_456 ?_
      refine lv_if_ne (tgt := 489) hx hb dL_tick_457 (by decide) (fun c_457_1 => absurd (by rw [ht.2.2.2.1]; exact cmp_self (of_vf hf) _) c_457_1) (fun c_457_1 => ?_)
      refine lv_aload_n hx hb dL_tick_460 rfl (lv_at hl 17 rfl) ?_
      refine lv_iconst (v := 1) hx hb dL_tick_461 (by decide) ?_
      refine lr_i (rL (rest := []) ⟨hx, hb, hml, hown, hts⟩ (LB_door l G cA A o (u, v, (goF u v f g b0), (goG u v f g b0), (goL u v g L b0)) (recN n) K ch 1 ) (cwV 1 hts gL_tick_X8_door rfl rfl rfl mdX8_door ⟨Nat.le_of_ble_eq_true rfl, Nat.le_of_ble_eq_true rfl⟩) hA hL rfl hl rfl (Nat.le_of_ble_eq_true rfl) dL_tick_462 ⟨Nat.le_of_ble_eq_true rfl, Nat.le_of_ble_eq_true rfl⟩) hA hL (fun r_462_1 H locs hr_462_1 hA hL => ?_)
      replace hr_462_1 : r_462_1 = (goG u v f g b0) 16 := hr_462_1
      subst hr_462_1
      refine lv_iload hx hb dL_tick_465 (lv_at hl 2 rfl) ?_
      refine lv_icmp_ne (tgt := 489) hx hb dL_tick_467 (by decide) (fun c_467_1 => absurd (ht.2.1.trans (if_neg c_282)) c_467_1) (fun c_467_1 => ?_)
      refine lv_aload_n hx hb dL_tick_470 rfl (lv_at hl 17 rfl) ?_
      refine lv_iconst (v := 2) hx hb dL_tick_471 (by decide) ?_
      refine lr_i (rL (rest := []) ⟨hx, hb, hml, hown, hts⟩ (LB_door l G cA A o (u, v, (goF u v f g b0), (goG u v f g b0), (goL u v g L b0)) (recN n) K ch 2 ) (cwV 1 hts gL_tick_X8_door rfl rfl rfl mdX8_door ⟨Nat.le_of_ble_eq_true rfl, Nat.le_of_ble_eq_true rfl⟩) hA hL rfl hl rfl (Nat.le_of_ble_eq_true rfl) dL_tick_472 ⟨Nat.le_of_ble_eq_true rfl, Nat.le_of_ble_eq_true rfl⟩) hA hL (fun r_472_1 H locs hr_472_1 hA hL => ?_)
      replace hr_472_1 : r_472_1 = oneF ((goG u v f g b0) 17) := hr_472_1
      subst hr_472_1
      refine lv_iload hx hb dL_tick_475 (lv_at hl 0 rfl) ?_
      refine lv_if_eq (tgt := 484) hx hb dL_tick_477 (by decide) (fun _ => ?_) (fun h9 => absurd (by decide) h9)
      refine lv_iload hx hb dL_tick_484 (lv_at hl 12 rfl) ?_
      refine lv_icmp_eq (tgt := 491) hx hb dL_tick_486 (by decide) (fun c_486_1 => ?_) (fun c_486_1 => absurd (by rw [(ht.2.2.1.trans ((if_neg c_282).trans (if_pos c_421)))] <;> rfl) c_486_1)
      refine lv_iload hx hb dL_tick_491 (lv_at hl 5 rfl) ?_
      refine lv_if_eq (tgt := 554) hx hb dL_tick_493 (by decide) (fun _ => ?_) (fun h9 => absurd (by decide) h9)
      refine lv_iload_n hx hb dL_tick_554 rfl (lv_at hl 18 rfl) ?_
      refine lv_if_eq (tgt := 599) hx hb dL_tick_555 (by decide) (fun c_555_1 => absurd c_555_1 hbz) (fun c_555_1 => ?_)
      refine lv_aload_n hx hb dL_tick_558 rfl (lv_at hl 17 rfl) ?_
      refine lv_iconst (v := 0) hx hb dL_tick_559 (by decide) ?_
      refine lr_i (rL (rest := []) ⟨hx, hb, hml, hown, hts⟩ (LB_thing l G cA A o (u, v, (goF u v f g b0), (goG u v f g b0), (goL u v g L b0)) (recN n) K ch 0 hP2) (cwV 1 hts gL_tick_X8_thing rfl rfl rfl mdX8_thing ⟨Nat.le_of_ble_eq_true rfl, Nat.le_of_ble_eq_true rfl⟩) hA hL rfl hl rfl (Nat.le_of_ble_eq_true rfl) dL_tick_560 ⟨Nat.le_of_ble_eq_true rfl, Nat.le_of_ble_eq_true rfl⟩) hA hL (fun r_560_1 H locs hr_560_1 hA hL => ?_)
      replace hr_560_1 : r_560_1 = 1 := hr_560_1.trans ((th_0 h5).trans e7t)
      subst hr_560_1
      refine lv_iload hx hb dL_tick_563 (lv_at hl 11 rfl) ?_
      refine lv_if_ge (tgt := 572) hx hb dL_tick_565 (by decide) (fun h9 => absurd h9 (by decide)) (fun _ => ?_)
      refine lv_iconst (v := 1) hx hb dL_tick_568 (by decide) ?_
      refine lv_goto (tgt := 576) hx hb dL_tick_569 (by decide) ?_
      refine lv_icmp_ne (tgt := 603) hx hb dL_tick_576 (by decide) (fun h9 => absurd (by decide) h9) (fun _ => ?_)
      refine lv_aload_n hx hb dL_tick_579 rfl (lv_at hl 17 rfl) ?_
      refine lv_bipush (v := 6) hx hb dL_tick_580 (by decide) ?_
      refine lr_i (rL (rest := []) ⟨hx, hb, hml, hown, hts⟩ (LB_thing l G cA A o (u, v, (goF u v f g b0), (goG u v f g b0), (goL u v g L b0)) (recN n) K ch 6 hP2) (cwV 1 hts gL_tick_X8_thing rfl rfl rfl mdX8_thing ⟨Nat.le_of_ble_eq_true rfl, Nat.le_of_ble_eq_true rfl⟩) hA hL rfl hl rfl (Nat.le_of_ble_eq_true rfl) dL_tick_582 ⟨Nat.le_of_ble_eq_true rfl, Nat.le_of_ble_eq_true rfl⟩) hA hL (fun r_582_1 H locs hr_582_1 hA hL => ?_)
      replace hr_582_1 : r_582_1 = oneF ((goG u v f g b0) 12) := hr_582_1.trans (th_6 h5)
      subst hr_582_1
      refine lv_iload hx hb dL_tick_585 (lv_at hl 1 rfl) ?_
      refine lv_if_eq (tgt := 594) hx hb dL_tick_587 (by decide) (fun h9 => absurd h9 (by decide)) (fun _ => ?_)
      refine lv_iconst (v := 1) hx hb dL_tick_590 (by decide) ?_
      refine lv_goto (tgt := 596) hx hb dL_tick_591 (by decide) ?_
      refine lv_icmp_ne (tgt := 603) hx hb dL_tick_596 (by decide) (fun c_596_1 => absurd (by rw [ht.2.2.2.2, if_neg c_282] <;> rfl) c_596_1) (fun c_596_1 => ?_)
      refine lv_iconst (v := 1) hx hb dL_tick_599 (by decide) ?_
      refine lv_goto (tgt := 604) hx hb dL_tick_600 (by decide) ?_
      exact en_l (post := fun r (_ : Unit) => r = 1) (B := fun _ H => LB G cA A o (u, v, (goF u v f g b0), (goG u v f g b0), (goL u v g L b0)) (recN n) K ch H) () hx hb hr hlocks hA rfl hL dL_tick_604
    · skip
      refine lv_iconst (v := 1) hx hb dL_tick_424 (by decide) ?_
      refine lv_goto (tgt := 429) hx hb dL_tick_425 (by decide) ?_
      refine lv_istore (lv' := [(18, .int 1), (17, .int 1), (4, .int ((preG u v g b0 16) + 1)), (15, .int 1), (16, .float (f 7)), (14, .int 0), (13, .int (g 19)), (12, .float ((goF u v f g b0) 7)), (11, .int 0), (10, .int 0), (9, .int 0), (8, .int (-5)), (7, .int (oneF (g 17))), (6, .int (g 15)), (5, .int 0), (3, .float (f 7)), (2, .int 3), (0, .ref o), (1, .int b0)]) hx hb dL_tick_429 hl (by decide) rfl (fun ls hl => ?_)
      refine lv_aload_n hx hb dL_tick_431 rfl (lv_at hl 17 rfl) ?_
      refine lv_iload_n hx hb dL_tick_432 rfl (lv_at hl 18 rfl) ?_
      refine lv_iconst (v := 1) hx hb dL_tick_433 (by decide) ?_
      refine lw_i (rL (rest := []) ⟨hx, hb, hml, hown, hts⟩ (LB_pass_ok l G cA A o (u, v, f, g, L) n K ch hn b0 1 hb0 hb7 (by decide) (by decide) hT hG1 hBo) (cwV 2 hts gL_tick_X8_pass rfl rfl rfl mdX8_pass ⟨Nat.le_of_ble_eq_true rfl, Nat.le_of_ble_eq_true rfl⟩) hA hL rfl hl rfl (Nat.le_of_ble_eq_true rfl) dL_tick_434 ⟨Nat.le_of_ble_eq_true rfl, Nat.le_of_ble_eq_true rfl⟩) hA (fun r_434_2 _ H locs hr_434_2 hA hL => ?_)
      replace hL : LB G cA A o (u, v, (goF u v f g b0), (goG u v f g b0), (goL u v g L b0)) (recN n) K ch H := hL
      replace hr_434_2 : r_434_2 = (goG u v f g b0) 13 := hr_434_2
      subst hr_434_2
      refine lv_iload hx hb dL_tick_437 (lv_at hl 3 rfl) ?_
      refine lv_icmp_ne (tgt := 489) hx hb dL_tick_439 (by decide) (fun c_439_2 => absurd (ht.1.trans (if_neg c_282)) c_439_2) (fun c_439_2 => ?_)
      refine lv_aload_n hx hb dL_tick_442 rfl (lv_at hl 17 rfl) ?_
      refine lr_f (rL (rest := []) ⟨hx, hb, hml, hown, hts⟩ (LB_place l G cA A o (u, v, (goF u v f g b0), (goG u v f g b0), (goL u v g L b0)) (recN n) K ch  ) (cwV 0 hts gL_tick_X8_place rfl rfl rfl mdX8_place ⟨Nat.le_of_ble_eq_true rfl, Nat.le_of_ble_eq_true rfl⟩) hA hL rfl hl rfl (Nat.le_of_ble_eq_true rfl) dL_tick_443 ⟨Nat.le_of_ble_eq_true rfl, Nat.le_of_ble_eq_true rfl⟩) hA hL (fun r_443_2 H locs hr_443_2 hA hL => ?_)
      replace hr_443_2 : r_443_2 = (goF u v f g b0) 7 := hr_443_2
      subst hr_443_2
      refine lv_fload hx hb dL_tick_446 (lv_at hl 4 rfl) ?_
      refine lv_fcmp hx hb dL_tick_448 ?_
      refine lv_if_ne (tgt := 489) hx hb dL_tick_449 (by decide) (fun c_449_2 => absurd (by rw [ht.2.2.2.1]; exact cmp_self (of_vf hf) _) c_449_2) (fun c_449_2 => ?_)
      refine lv_fload hx hb dL_tick_452 (lv_at hl 7 rfl) ?_
      refine lv_fload hx hb dL_tick_454 (lv_at hl 4 rfl) ?_
      refine lv_fcmp hx hb dL_tick_456 ?_
      refine lv_if_ne (tgt := 489) hx hb dL_tick_457 (by decide) (fun c_457_2 => absurd (by rw [ht.2.2.2.1]; exact cmp_self (of_vf hf) _) c_457_2) (fun c_457_2 => ?_)
      refine lv_aload_n hx hb dL_tick_460 rfl (lv_at hl 17 rfl) ?_
      refine lv_iconst (v := 1) hx hb dL_tick_461 (by decide) ?_
      refine lr_i (rL (rest := []) ⟨hx, hb, hml, hown, hts⟩ (LB_door l G cA A o (u, v, (goF u v f g b0), (goG u v f g b0), (goL u v g L b0)) (recN n) K ch 1 ) (cwV 1 hts gL_tick_X8_door rfl rfl rfl mdX8_door ⟨Nat.le_of_ble_eq_true rfl, Nat.le_of_ble_eq_true rfl⟩) hA hL rfl hl rfl (Nat.le_of_ble_eq_true rfl) dL_tick_462 ⟨Nat.le_of_ble_eq_true rfl, Nat.le_of_ble_eq_true rfl⟩) hA hL (fun r_462_2 H locs hr_462_2 hA hL => ?_)
      replace hr_462_2 : r_462_2 = (goG u v f g b0) 16 := hr_462_2
      subst hr_462_2
      refine lv_iload hx hb dL_tick_465 (lv_at hl 2 rfl) ?_
      refine lv_icmp_ne (tgt := 489) hx hb dL_tick_467 (by decide) (fun c_467_2 => absurd (ht.2.1.trans (if_neg c_282)) c_467_2) (fun c_467_2 => ?_)
      refine lv_aload_n hx hb dL_tick_470 rfl (lv_at hl 17 rfl) ?_
      refine lv_iconst (v := 2) hx hb dL_tick_471 (by decide) ?_
      refine lr_i (rL (rest := []) ⟨hx, hb, hml, hown, hts⟩ (LB_door l G cA A o (u, v, (goF u v f g b0), (goG u v f g b0), (goL u v g L b0)) (recN n) K ch 2 ) (cwV 1 hts gL_tick_X8_door rfl rfl rfl mdX8_door ⟨Nat.le_of_ble_eq_true rfl, Nat.le_of_ble_eq_true rfl⟩) hA hL rfl hl rfl (Nat.le_of_ble_eq_true rfl) dL_tick_472 ⟨Nat.le_of_ble_eq_true rfl, Nat.le_of_ble_eq_true rfl⟩) hA hL (fun r_472_2 H locs hr_472_2 hA hL => ?_)
      replace hr_472_2 : r_472_2 = oneF ((goG u v f g b0) 17) := hr_472_2
      subst hr_472_2
      refine lv_iload hx hb dL_tick_475 (lv_at hl 0 rfl) ?_
      refine lv_if_eq (tgt := 484) hx hb dL_tick_477 (by decide) (fun h9 => absurd h9 (by decide)) (fun _ => ?_)
      refine lv_iconst (v := 1) hx hb dL_tick_480 (by decide) ?_
      refine lv_goto (tgt := 486) hx hb dL_tick_481 (by decide) ?_
      refine lv_icmp_eq (tgt := 491) hx hb dL_tick_486 (by decide) (fun c_486_2 => ?_) (fun c_486_2 => absurd (by rw [(ht.2.2.1.trans ((if_neg c_282).trans (if_neg c_421)))] <;> rfl) c_486_2)
      refine lv_iload hx hb dL_tick_491 (lv_at hl 5 rfl) ?_
      refine lv_if_eq (tgt := 554) hx hb dL_tick_493 (by decide) (fun _ => ?_) (fun h9 => absurd (by decide) h9)
      refine lv_iload_n hx hb dL_tick_554 rfl (lv_at hl 18 rfl) ?_
      refine lv_if_eq (tgt := 599) hx hb dL_tick_555 (by decide) (fun c_555_2 => absurd c_555_2 hbz) (fun c_555_2 => ?_)
      refine lv_aload_n hx hb dL_tick_558 rfl (lv_at hl 17 rfl) ?_
      refine lv_iconst (v := 0) hx hb dL_tick_559 (by decide) ?_
      refine lr_i (rL (rest := []) ⟨hx, hb, hml, hown, hts⟩ (LB_thing l G cA A o (u, v, (goF u v f g b0), (goG u v f g b0), (goL u v g L b0)) (recN n) K ch 0 hP2) (cwV 1 hts gL_tick_X8_thing rfl rfl rfl mdX8_thing ⟨Nat.le_of_ble_eq_true rfl, Nat.le_of_ble_eq_true rfl⟩) hA hL rfl hl rfl (Nat.le_of_ble_eq_true rfl) dL_tick_560 ⟨Nat.le_of_ble_eq_true rfl, Nat.le_of_ble_eq_true rfl⟩) hA hL (fun r_560_2 H locs hr_560_2 hA hL => ?_)
      replace hr_560_2 : r_560_2 = 1 := hr_560_2.trans ((th_0 h5).trans e7t)
      subst hr_560_2
      refine lv_iload hx hb dL_tick_563 (lv_at hl 11 rfl) ?_
      refine lv_if_ge (tgt := 572) hx hb dL_tick_565 (by decide) (fun h9 => absurd h9 (by decide)) (fun _ => ?_)
      refine lv_iconst (v := 1) hx hb dL_tick_568 (by decide) ?_
      refine lv_goto (tgt := 576) hx hb dL_tick_569 (by decide) ?_
      refine lv_icmp_ne (tgt := 603) hx hb dL_tick_576 (by decide) (fun h9 => absurd (by decide) h9) (fun _ => ?_)
      refine lv_aload_n hx hb dL_tick_579 rfl (lv_at hl 17 rfl) ?_
      refine lv_bipush (v := 6) hx hb dL_tick_580 (by decide) ?_
      refine lr_i (rL (rest := []) ⟨hx, hb, hml, hown, hts⟩ (LB_thing l G cA A o (u, v, (goF u v f g b0), (goG u v f g b0), (goL u v g L b0)) (recN n) K ch 6 hP2) (cwV 1 hts gL_tick_X8_thing rfl rfl rfl mdX8_thing ⟨Nat.le_of_ble_eq_true rfl, Nat.le_of_ble_eq_true rfl⟩) hA hL rfl hl rfl (Nat.le_of_ble_eq_true rfl) dL_tick_582 ⟨Nat.le_of_ble_eq_true rfl, Nat.le_of_ble_eq_true rfl⟩) hA hL (fun r_582_2 H locs hr_582_2 hA hL => ?_)
      replace hr_582_2 : r_582_2 = oneF ((goG u v f g b0) 12) := hr_582_2.trans (th_6 h5)
      subst hr_582_2
      refine lv_iload hx hb dL_tick_585 (lv_at hl 1 rfl) ?_
      refine lv_if_eq (tgt := 594) hx hb dL_tick_587 (by decide) (fun h9 => absurd h9 (by decide)) (fun _ => ?_)
      refine lv_iconst (v := 1) hx hb dL_tick_590 (by decide) ?_
      refine lv_goto (tgt := 596) hx hb dL_tick_591 (by decide) ?_
      refine lv_icmp_ne (tgt := 603) hx hb dL_tick_596 (by decide) (fun c_596_2 => absurd (by rw [ht.2.2.2.2, if_neg c_282] <;> rfl) c_596_2) (fun c_596_2 => ?_)
      refine lv_iconst (v := 1) hx hb dL_tick_599 (by decide) ?_
      refine lv_goto (tgt := 604) hx hb dL_tick_600 (by decide) ?_
      exact en_l (post := fun r (_ : Unit) => r = 1) (B := fun _ H => LB G cA A o (u, v, (goF u v f g b0), (goG u v f g b0), (goL u v g L b0)) (recN n) K ch H) () hx hb hr hlocks hA rfl hL dL_tick_604
set_option maxHeartbeats 8000000 in
set_option maxRecDepth 100000 in
/-- tick(o, beams), in the state 0, case tb -/
theorem cL_tick_0_tb (l : Launch) (G : va_G) (cA : Nat → ClassId) (A : Nat → Prop) (o : Nat) (u : FF) (v : GG) (f : FF) (g L : GG) (n K : Nat) (ch : GG) (b0 : Int32) (hb0 : ¬ b0 < 0) (hb7 : ¬ 7 < b0) (hbz : ¬ b0 = 0) (hs : g 13 = 0) (hn : n ≤ 4) (hGo : GoOk u f g) (hPr : PrOk u g) (hP2 : PrOk u (goG u v f g b0)) (hT : ¬ 99999 < g 27 + nI 1) (hBo : Bo g) (hf : vf_n32 (f 7)) (hg : ¬ g 5 = 0) (h7 : ¬ g 7 < 1) : Met l yL_tick wsL_tick ({ frames := 7, cells := 0, slots := 0, locals := 160 } : Room) (va_Pc [.ref o, .int b0] (LbP G cA A o (u, v, f, g, L) n K ch)) (va_Qi (fun r (_ : Unit) => r = 1) (fun _ t => LB G cA A o (u, v, (goF u v f g b0), (goG u v f g b0), (goL u v g L b0)) (recN n) K ch t.heap) A) 0 0 A := by
  refine ofW2 (cc := cL_tick) (maxL := 19) (ret := (some .boolean)) (own := RL) (by decide) rfl rfl (Nat.le_of_ble_eq_true rfl) rfl ?_
  intro p e s m below meth c ls hx hb hml hr hts hown hlocks hv hl
  obtain ⟨hE, hN, hL⟩ := hv
  have hA : At G cA A s s.heap [] := ⟨hE, hN, va_S.rf⟩
  obtain ⟨H, hH0⟩ : ∃ H, H = s.heap := ⟨_, rfl⟩
  rw [← hH0] at hL ⊢
  replace hA : At G cA A s H [] := by rw [hH0]; exact hA
  generalize ([] : List Loc) = locs at hA ⊢
  clear hH0
  replace hl : lv_has ls 19 [(0, .ref o), (1, .int b0)] := hl
  have hG1 : ∀ k, k < 1 → GoOk u (itS u v b0 (f, g, L) k).1 (itS u v b0 (f, g, L) k).2.1 := fun k hk => (show k = 0 by omega) ▸ hGo
  have ht := t_0 (b := b0) hs (u := u) (v := v) (f := f)
  have hp16 : preG u v g b0 16 = g 16 := pre_16b hbz
  have hk5 : (preG u v g b0) 5 = g 5 := by rw [pre_b hbz]; exact (show (if g 5 = 0 then 1 else g 5) = g 5 by rw [if_neg hg])
  have hk7 : (preG u v g b0) 7 = g 7 + 1 := by rw [pre_b hbz]; show (if g 5 = 0 then 0 else g 7) + 1 = _; rw [if_neg hg]
  have hk12 : (preG u v g b0) 12 = g 12 := by rw [pre_b hbz]; show (if g 5 = 0 then 0 else g 12) = _; rw [if_neg hg]
  have h5e : (goG u v f g b0) 5 = (preG u v g b0) 5 := mv_5
  have e7e : (goG u v f g b0) 7 = (preG u v g b0) 7 := mv_7
  have ht12 : (goG u v f g b0) 12 = g 12 := (go_G (by decide)).trans (by rw [(mv_0 (pre_13.trans hs)).1]; exact hk12)
  have h5 : ¬ (goG u v f g b0) 5 = 0 := by rw [h5e, hk5]; exact hg
  have e7t := e7e.trans hk7
  refine lv_aload_n hx hb dL_tick_0 rfl (lv_at hl 0 rfl) ?_
  refine lv_iconst (v := 0) hx hb dL_tick_1 (by decide) ?_
  refine lr_i (rL (rest := []) ⟨hx, hb, hml, hown, hts⟩ (LB_door l G cA A o (u, v, f, g, L) n K ch 0 ) (cwV 1 hts gL_tick_X8_door rfl rfl rfl mdX8_door ⟨Nat.le_of_ble_eq_true rfl, Nat.le_of_ble_eq_true rfl⟩) hA hL rfl hl rfl (Nat.le_of_ble_eq_true rfl) dL_tick_2 ⟨Nat.le_of_ble_eq_true rfl, Nat.le_of_ble_eq_true rfl⟩) hA hL (fun r_2 H locs hr_2 hA hL => ?_)
  replace hr_2 : r_2 = 0 := hr_2.trans hs
  subst hr_2
  refine lv_istore_n (lv' := [(2, .int 0), (0, .ref o), (1, .int b0)]) hx hb dL_tick_5 rfl hl (by decide) rfl (fun ls hl => ?_)
  refine lv_aload_n hx hb dL_tick_6 rfl (lv_at hl 1 rfl) ?_
  refine lr_f (rL (rest := []) ⟨hx, hb, hml, hown, hts⟩ (LB_place l G cA A o (u, v, f, g, L) n K ch  ) (cwV 0 hts gL_tick_X8_place rfl rfl rfl mdX8_place ⟨Nat.le_of_ble_eq_true rfl, Nat.le_of_ble_eq_true rfl⟩) hA hL rfl hl rfl (Nat.le_of_ble_eq_true rfl) dL_tick_7 ⟨Nat.le_of_ble_eq_true rfl, Nat.le_of_ble_eq_true rfl⟩) hA hL (fun r_7 H locs hr_7 hA hL => ?_)
  replace hr_7 : r_7 = f 7 := hr_7
  subst hr_7
  refine lv_fstore_n (lv' := [(3, .float (f 7)), (2, .int 0), (0, .ref o), (1, .int b0)]) hx hb dL_tick_10 rfl hl (by decide) rfl (fun ls hl => ?_)
  refine lv_aload_n hx hb dL_tick_11 rfl (lv_at hl 2 rfl) ?_
  refine lv_iconst (v := 1) hx hb dL_tick_12 (by decide) ?_
  refine lr_i (rL (rest := []) ⟨hx, hb, hml, hown, hts⟩ (LB_door l G cA A o (u, v, f, g, L) n K ch 1 ) (cwV 1 hts gL_tick_X8_door rfl rfl rfl mdX8_door ⟨Nat.le_of_ble_eq_true rfl, Nat.le_of_ble_eq_true rfl⟩) hA hL rfl hl rfl (Nat.le_of_ble_eq_true rfl) dL_tick_13 ⟨Nat.le_of_ble_eq_true rfl, Nat.le_of_ble_eq_true rfl⟩) hA hL (fun r_13 H locs hr_13 hA hL => ?_)
  replace hr_13 : r_13 = g 16 := hr_13
  subst hr_13
  refine lv_istore (lv' := [(4, .int (g 16)), (3, .float (f 7)), (2, .int 0), (0, .ref o), (1, .int b0)]) hx hb dL_tick_16 hl (by decide) rfl (fun ls hl => ?_)
  refine lv_aload_n hx hb dL_tick_18 rfl (lv_at hl 3 rfl) ?_
  refine lv_iconst (v := 3) hx hb dL_tick_19 (by decide) ?_
  refine lr_i (rL (rest := []) ⟨hx, hb, hml, hown, hts⟩ (LB_door l G cA A o (u, v, f, g, L) n K ch 3 ) (cwV 1 hts gL_tick_X8_door rfl rfl rfl mdX8_door ⟨Nat.le_of_ble_eq_true rfl, Nat.le_of_ble_eq_true rfl⟩) hA hL rfl hl rfl (Nat.le_of_ble_eq_true rfl) dL_tick_20 ⟨Nat.le_of_ble_eq_true rfl, Nat.le_of_ble_eq_true rfl⟩) hA hL (fun r_20 H locs hr_20 hA hL => ?_)
  rw [show doF f g 3 = 0 from (by show (if g 13 = 2 then g 14 else 0) = 0; rw [if_neg (by rw [hs]; decide)])] at hr_20
  subst hr_20
  refine lv_istore (lv' := [(5, .int 0), (4, .int (g 16)), (3, .float (f 7)), (2, .int 0), (0, .ref o), (1, .int b0)]) hx hb dL_tick_23 hl (by decide) rfl (fun ls hl => ?_)
  refine lv_aload_n hx hb dL_tick_25 rfl (lv_at hl 4 rfl) ?_
  refine lv_iconst (v := 4) hx hb dL_tick_26 (by decide) ?_
  refine lr_i (rL (rest := []) ⟨hx, hb, hml, hown, hts⟩ (LB_door l G cA A o (u, v, f, g, L) n K ch 4 ) (cwV 1 hts gL_tick_X8_door rfl rfl rfl mdX8_door ⟨Nat.le_of_ble_eq_true rfl, Nat.le_of_ble_eq_true rfl⟩) hA hL rfl hl rfl (Nat.le_of_ble_eq_true rfl) dL_tick_27 ⟨Nat.le_of_ble_eq_true rfl, Nat.le_of_ble_eq_true rfl⟩) hA hL (fun r_27 H locs hr_27 hA hL => ?_)
  rw [show doF f g 4 = 0 from (by show (if g 13 = 3 then g 15 else 0) = 0; rw [if_neg (by rw [hs]; decide)])] at hr_27
  subst hr_27
  refine lv_istore (lv' := [(6, .int 0), (5, .int 0), (4, .int (g 16)), (3, .float (f 7)), (2, .int 0), (0, .ref o), (1, .int b0)]) hx hb dL_tick_30 hl (by decide) rfl (fun ls hl => ?_)
  refine lv_aload_n hx hb dL_tick_32 rfl (lv_at hl 5 rfl) ?_
  refine lv_iconst (v := 2) hx hb dL_tick_33 (by decide) ?_
  refine lr_i (rL (rest := []) ⟨hx, hb, hml, hown, hts⟩ (LB_door l G cA A o (u, v, f, g, L) n K ch 2 ) (cwV 1 hts gL_tick_X8_door rfl rfl rfl mdX8_door ⟨Nat.le_of_ble_eq_true rfl, Nat.le_of_ble_eq_true rfl⟩) hA hL rfl hl rfl (Nat.le_of_ble_eq_true rfl) dL_tick_34 ⟨Nat.le_of_ble_eq_true rfl, Nat.le_of_ble_eq_true rfl⟩) hA hL (fun r_34 H locs hr_34 hA hL => ?_)
  replace hr_34 : r_34 = oneF (g 17) := hr_34
  subst hr_34
  refine lv_istore (lv' := [(7, .int (oneF (g 17))), (6, .int 0), (5, .int 0), (4, .int (g 16)), (3, .float (f 7)), (2, .int 0), (0, .ref o), (1, .int b0)]) hx hb dL_tick_37 hl (by decide) rfl (fun ls hl => ?_)
  refine lv_aload_n hx hb dL_tick_39 rfl (lv_at hl 6 rfl) ?_
  refine lv_iconst (v := 0) hx hb dL_tick_40 (by decide) ?_
  refine lr_i (rL (rest := []) ⟨hx, hb, hml, hown, hts⟩ (LB_thing l G cA A o (u, v, f, g, L) n K ch 0 hPr) (cwV 1 hts gL_tick_X8_thing rfl rfl rfl mdX8_thing ⟨Nat.le_of_ble_eq_true rfl, Nat.le_of_ble_eq_true rfl⟩) hA hL rfl hl rfl (Nat.le_of_ble_eq_true rfl) dL_tick_41 ⟨Nat.le_of_ble_eq_true rfl, Nat.le_of_ble_eq_true rfl⟩) hA hL (fun r_41 H locs hr_41 hA hL => ?_)
  replace hr_41 : r_41 = g 7 := hr_41.trans (th_0 hg)
  subst hr_41
  refine lv_istore (lv' := [(8, .int (g 7)), (7, .int (oneF (g 17))), (6, .int 0), (5, .int 0), (4, .int (g 16)), (3, .float (f 7)), (2, .int 0), (0, .ref o), (1, .int b0)]) hx hb dL_tick_44 hl (by decide) rfl (fun ls hl => ?_)
  refine lv_iload hx hb dL_tick_46 (lv_at hl 0 rfl) ?_
  refine lv_if_ge (tgt := 55) hx hb dL_tick_48 (by decide) (fun c_48 => ?_) (fun c_48 => absurd (show g 7 < 1 by have := Int32.not_le.mp c_48; exact Int32.lt_trans this (by decide)) h7)
  refine lv_aload_n hx hb dL_tick_55 rfl (lv_at hl 7 rfl) ?_
  refine lv_iconst (v := 5) hx hb dL_tick_56 (by decide) ?_
  refine lr_i (rL (rest := []) ⟨hx, hb, hml, hown, hts⟩ (LB_thing l G cA A o (u, v, f, g, L) n K ch 5 hPr) (cwV 1 hts gL_tick_X8_thing rfl rfl rfl mdX8_thing ⟨Nat.le_of_ble_eq_true rfl, Nat.le_of_ble_eq_true rfl⟩) hA hL rfl hl rfl (Nat.le_of_ble_eq_true rfl) dL_tick_57 ⟨Nat.le_of_ble_eq_true rfl, Nat.le_of_ble_eq_true rfl⟩) hA hL (fun r_57 H locs hr_57 hA hL => ?_)
  replace hr_57 : r_57 = g 11 := hr_57.trans (th_5 hg)
  subst hr_57
  refine lv_istore (lv' := [(9, .int (g 11)), (8, .int (g 7)), (7, .int (oneF (g 17))), (6, .int 0), (5, .int 0), (4, .int (g 16)), (3, .float (f 7)), (2, .int 0), (0, .ref o), (1, .int b0)]) hx hb dL_tick_60 hl (by decide) rfl (fun ls hl => ?_)
  refine lv_iload hx hb dL_tick_62 (lv_at hl 1 rfl) ?_
  refine lv_if_ge (tgt := 71) hx hb dL_tick_64 (by decide) (fun c_64 => ?_) (fun c_64 => absurd c_48 c_64)
  refine lv_aload_n hx hb dL_tick_71 rfl (lv_at hl 8 rfl) ?_
  refine lv_bipush (v := 6) hx hb dL_tick_72 (by decide) ?_
  refine lr_i (rL (rest := []) ⟨hx, hb, hml, hown, hts⟩ (LB_thing l G cA A o (u, v, f, g, L) n K ch 6 hPr) (cwV 1 hts gL_tick_X8_thing rfl rfl rfl mdX8_thing ⟨Nat.le_of_ble_eq_true rfl, Nat.le_of_ble_eq_true rfl⟩) hA hL rfl hl rfl (Nat.le_of_ble_eq_true rfl) dL_tick_74 ⟨Nat.le_of_ble_eq_true rfl, Nat.le_of_ble_eq_true rfl⟩) hA hL (fun r_74 H locs hr_74 hA hL => ?_)
  replace hr_74 : r_74 = oneF (g 12) := hr_74.trans (th_6 hg)
  subst hr_74
  refine lv_istore (lv' := [(10, .int (oneF (g 12))), (9, .int (g 11)), (8, .int (g 7)), (7, .int (oneF (g 17))), (6, .int 0), (5, .int 0), (4, .int (g 16)), (3, .float (f 7)), (2, .int 0), (0, .ref o), (1, .int b0)]) hx hb dL_tick_77 hl (by decide) rfl (fun ls hl => ?_)
  refine lv_iload hx hb dL_tick_79 (lv_at hl 2 rfl) ?_
  refine lv_if_ge (tgt := 88) hx hb dL_tick_81 (by decide) (fun c_81 => ?_) (fun c_81 => absurd c_48 c_81)
  refine lv_aload_n hx hb dL_tick_88 rfl (lv_at hl 9 rfl) ?_
  refine lv_bipush (v := 7) hx hb dL_tick_89 (by decide) ?_
  refine lr_i (rL (rest := []) ⟨hx, hb, hml, hown, hts⟩ (LB_thing l G cA A o (u, v, f, g, L) n K ch 7 hPr) (cwV 1 hts gL_tick_X8_thing rfl rfl rfl mdX8_thing ⟨Nat.le_of_ble_eq_true rfl, Nat.le_of_ble_eq_true rfl⟩) hA hL rfl hl rfl (Nat.le_of_ble_eq_true rfl) dL_tick_91 ⟨Nat.le_of_ble_eq_true rfl, Nat.le_of_ble_eq_true rfl⟩) hA hL (fun r_91 H locs hr_91 hA hL => ?_)
  replace hr_91 : r_91 = bestK u g := hr_91.trans (th_7 hg)
  subst hr_91
  refine lv_istore (lv' := [(11, .int (bestK u g)), (10, .int (oneF (g 12))), (9, .int (g 11)), (8, .int (g 7)), (7, .int (oneF (g 17))), (6, .int 0), (5, .int 0), (4, .int (g 16)), (3, .float (f 7)), (2, .int 0), (0, .ref o), (1, .int b0)]) hx hb dL_tick_94 hl (by decide) rfl (fun ls hl => ?_)
  refine lv_aload_n hx hb dL_tick_96 rfl (lv_at hl 10 rfl) ?_
  refine lv_iload_n hx hb dL_tick_97 rfl (lv_at hl 11 rfl) ?_
  refine lv_iconst (v := 1) hx hb dL_tick_98 (by decide) ?_
  refine lw_f (rL (rest := []) ⟨hx, hb, hml, hown, hts⟩ (LB_placeIn_ok l G cA A o (u, v, f, g, L) n K ch b0 1 hb0 hb7 (by decide) hG1) (cwV 2 hts gL_tick_X8_placeIn rfl rfl rfl mdX8_placeIn ⟨Nat.le_of_ble_eq_true rfl, Nat.le_of_ble_eq_true rfl⟩) hA hL rfl hl rfl (Nat.le_of_ble_eq_true rfl) dL_tick_99 ⟨Nat.le_of_ble_eq_true rfl, Nat.le_of_ble_eq_true rfl⟩) hA (fun r_99 _ H locs hr_99 hA hL => ?_)
  replace hL : LB G cA A o (u, v, f, g, L) n K ch H := hL
  replace hr_99 : r_99 = (goF u v f g b0) 7 := hr_99
  subst hr_99
  refine lv_fstore (lv' := [(12, .float ((goF u v f g b0) 7)), (11, .int (bestK u g)), (10, .int (oneF (g 12))), (9, .int (g 11)), (8, .int (g 7)), (7, .int (oneF (g 17))), (6, .int 0), (5, .int 0), (4, .int (g 16)), (3, .float (f 7)), (2, .int 0), (0, .ref o), (1, .int b0)]) hx hb dL_tick_102 hl (by decide) rfl (fun ls hl => ?_)
  refine lv_aload_n hx hb dL_tick_104 rfl (lv_at hl 11 rfl) ?_
  refine lv_iload hx hb dL_tick_105 (lv_at hl 1 rfl) ?_
  refine lv_iconst (v := 1) hx hb dL_tick_107 (by decide) ?_
  refine lv_iadd hx hb dL_tick_108 ?_
  refine lr_i (rL (rest := []) ⟨hx, hb, hml, hown, hts⟩ (LB_count l G cA A o (u, v, f, g, L) n K ch ((bestK u g) + 1)) (cwV 1 hts gL_tick_X8_count rfl rfl rfl mdX8_count ⟨Nat.le_of_ble_eq_true rfl, Nat.le_of_ble_eq_true rfl⟩) hA hL rfl hl rfl (Nat.le_of_ble_eq_true rfl) dL_tick_109 ⟨Nat.le_of_ble_eq_true rfl, Nat.le_of_ble_eq_true rfl⟩) hA hL (fun r_109 H locs hr_109 hA hL => ?_)
  replace hr_109 : r_109 = cnF g (nI n) (nI K) ((bestK u g) + 1) := hr_109
  subst hr_109
  refine lv_istore (lv' := [(13, .int (cnF g (nI n) (nI K) ((bestK u g) + 1))), (12, .float ((goF u v f g b0) 7)), (11, .int (bestK u g)), (10, .int (oneF (g 12))), (9, .int (g 11)), (8, .int (g 7)), (7, .int (oneF (g 17))), (6, .int 0), (5, .int 0), (4, .int (g 16)), (3, .float (f 7)), (2, .int 0), (0, .ref o), (1, .int b0)]) hx hb dL_tick_112 hl (by decide) rfl (fun ls hl => ?_)
  refine lv_iload hx hb dL_tick_114 (lv_at hl 5 rfl) ?_
  refine lv_if_le (tgt := 139) hx hb dL_tick_116 (by decide) (fun c_116 => absurd (Int32.lt_of_lt_of_le (by decide) (Int32.not_lt.mp h7)) (Int32.not_lt.mpr c_116)) (fun c_116 => ?_)
  refine lv_iload_n hx hb dL_tick_119 rfl (lv_at hl 13 rfl) ?_
  refine lv_if_ne (tgt := 139) hx hb dL_tick_120 (by decide) (fun c_120 => ?_) (fun c_120 => absurd c_120 hbz)
  refine lv_iconst (v := 0) hx hb dL_tick_139 (by decide) ?_
  refine lv_istore (lv' := [(14, .int 0), (13, .int (cnF g (nI n) (nI K) ((bestK u g) + 1))), (12, .float ((goF u v f g b0) 7)), (11, .int (bestK u g)), (10, .int (oneF (g 12))), (9, .int (g 11)), (8, .int (g 7)), (7, .int (oneF (g 17))), (6, .int 0), (5, .int 0), (4, .int (g 16)), (3, .float (f 7)), (2, .int 0), (0, .ref o), (1, .int b0)]) hx hb dL_tick_140 hl (by decide) rfl (fun ls hl => ?_)
  refine lv_iload hx hb dL_tick_142 (lv_at hl 10 rfl) ?_
  refine lv_iload hx hb dL_tick_144 (lv_at hl 0 rfl) ?_
  refine lv_if_eq (tgt := 169) hx hb dL_tick_146 (by decide) (fun _ => ?_) (fun h9 => absurd (by decide) h9)
  refine lv_iconst (v := 0) hx hb dL_tick_169 (by decide) ?_
  refine lv_isub hx hb dL_tick_170 ?_
  refine W.eq (g2 := F0 m 171 ls [.int (preG u v g b0 16)]) (by rw [hp16, Int32.sub_zero]) ?_
  refine lv_istore (lv' := [(4, .int (preG u v g b0 16)), (14, .int 0), (13, .int (cnF g (nI n) (nI K) ((bestK u g) + 1))), (12, .float ((goF u v f g b0) 7)), (11, .int (bestK u g)), (10, .int (oneF (g 12))), (9, .int (g 11)), (8, .int (g 7)), (7, .int (oneF (g 17))), (6, .int 0), (5, .int 0), (3, .float (f 7)), (2, .int 0), (0, .ref o), (1, .int b0)]) hx hb dL_tick_171 hl (by decide) rfl (fun ls hl => ?_)
  refine lv_iload_n hx hb dL_tick_173 rfl (lv_at hl 12 rfl) ?_
  refine lv_istore (lv' := [(15, .int 0), (4, .int (preG u v g b0 16)), (14, .int 0), (13, .int (cnF g (nI n) (nI K) ((bestK u g) + 1))), (12, .float ((goF u v f g b0) 7)), (11, .int (bestK u g)), (10, .int (oneF (g 12))), (9, .int (g 11)), (8, .int (g 7)), (7, .int (oneF (g 17))), (6, .int 0), (5, .int 0), (3, .float (f 7)), (2, .int 0), (0, .ref o), (1, .int b0)]) hx hb dL_tick_174 hl (by decide) rfl (fun ls hl => ?_)
  refine lv_fload_n hx hb dL_tick_176 rfl (lv_at hl 12 rfl) ?_
  refine lv_fstore (lv' := [(16, .float (f 7)), (15, .int 0), (4, .int (preG u v g b0 16)), (14, .int 0), (13, .int (cnF g (nI n) (nI K) ((bestK u g) + 1))), (12, .float ((goF u v f g b0) 7)), (11, .int (bestK u g)), (10, .int (oneF (g 12))), (9, .int (g 11)), (8, .int (g 7)), (7, .int (oneF (g 17))), (6, .int 0), (5, .int 0), (3, .float (f 7)), (2, .int 0), (0, .ref o), (1, .int b0)]) hx hb dL_tick_177 hl (by decide) rfl (fun ls hl => ?_)
  refine lv_iload_n hx hb dL_tick_179 rfl (lv_at hl 14 rfl) ?_
  refine lv_iconst (v := 1) hx hb dL_tick_180 (by decide) ?_
  refine lv_icmp_ne (tgt := 228) hx hb dL_tick_181 (by decide) (fun _ => ?_) (fun h9 => absurd h9 (by decide))
  refine lv_iload_n hx hb dL_tick_228 rfl (lv_at hl 14 rfl) ?_
  refine lv_iconst (v := 2) hx hb dL_tick_229 (by decide) ?_
  refine lv_icmp_ne (tgt := 264) hx hb dL_tick_230 (by decide) (fun _ => ?_) (fun h9 => absurd h9 (by decide))
  refine lv_iload_n hx hb dL_tick_264 rfl (lv_at hl 14 rfl) ?_
  refine lv_iconst (v := 3) hx hb dL_tick_265 (by decide) ?_
  refine lv_icmp_ne (tgt := 311) hx hb dL_tick_266 (by decide) (fun _ => ?_) (fun h9 => absurd h9 (by decide))
  refine lv_iload_n hx hb dL_tick_311 rfl (lv_at hl 14 rfl) ?_
  refine lv_iconst (v := 3) hx hb dL_tick_312 (by decide) ?_
  refine lv_icmp_ne (tgt := 385) hx hb dL_tick_313 (by decide) (fun _ => ?_) (fun h9 => absurd h9 (by decide))
  refine lv_iload_n hx hb dL_tick_385 rfl (lv_at hl 14 rfl) ?_
  refine lv_iconst (v := 3) hx hb dL_tick_386 (by decide) ?_
  refine lv_icmp_ne (tgt := 400) hx hb dL_tick_387 (by decide) (fun _ => ?_) (fun h9 => absurd h9 (by decide))
  refine lv_iconst (v := 0) hx hb dL_tick_400 (by decide) ?_
  refine lv_istore (lv' := [(17, .int 0), (16, .float (f 7)), (15, .int 0), (4, .int (preG u v g b0 16)), (14, .int 0), (13, .int (cnF g (nI n) (nI K) ((bestK u g) + 1))), (12, .float ((goF u v f g b0) 7)), (11, .int (bestK u g)), (10, .int (oneF (g 12))), (9, .int (g 11)), (8, .int (g 7)), (7, .int (oneF (g 17))), (6, .int 0), (5, .int 0), (3, .float (f 7)), (2, .int 0), (0, .ref o), (1, .int b0)]) hx hb dL_tick_401 hl (by decide) rfl (fun ls hl => ?_)
  refine lv_iload hx hb dL_tick_403 (lv_at hl 0 rfl) ?_
  refine lv_if_eq (tgt := 428) hx hb dL_tick_405 (by decide) (fun _ => ?_) (fun h9 => absurd (by decide) h9)
  refine lv_iconst (v := 0) hx hb dL_tick_428 (by decide) ?_
  refine lv_istore (lv' := [(18, .int 0), (17, .int 0), (16, .float (f 7)), (15, .int 0), (4, .int (preG u v g b0 16)), (14, .int 0), (13, .int (cnF g (nI n) (nI K) ((bestK u g) + 1))), (12, .float ((goF u v f g b0) 7)), (11, .int (bestK u g)), (10, .int (oneF (g 12))), (9, .int (g 11)), (8, .int (g 7)), (7, .int (oneF (g 17))), (6, .int 0), (5, .int 0), (3, .float (f 7)), (2, .int 0), (0, .ref o), (1, .int b0)]) hx hb dL_tick_429 hl (by decide) rfl (fun ls hl => ?_)
  refine lv_aload_n hx hb dL_tick_431 rfl (lv_at hl 17 rfl) ?_
  refine lv_iload_n hx hb dL_tick_432 rfl (lv_at hl 18 rfl) ?_
  refine lv_iconst (v := 1) hx hb dL_tick_433 (by decide) ?_
  refine lw_i (rL (rest := []) ⟨hx, hb, hml, hown, hts⟩ (LB_pass_ok l G cA A o (u, v, f, g, L) n K ch hn b0 1 hb0 hb7 (by decide) (by decide) hT hG1 hBo) (cwV 2 hts gL_tick_X8_pass rfl rfl rfl mdX8_pass ⟨Nat.le_of_ble_eq_true rfl, Nat.le_of_ble_eq_true rfl⟩) hA hL rfl hl rfl (Nat.le_of_ble_eq_true rfl) dL_tick_434 ⟨Nat.le_of_ble_eq_true rfl, Nat.le_of_ble_eq_true rfl⟩) hA (fun r_434 _ H locs hr_434 hA hL => ?_)
  replace hL : LB G cA A o (u, v, (goF u v f g b0), (goG u v f g b0), (goL u v g L b0)) (recN n) K ch H := hL
  replace hr_434 : r_434 = (goG u v f g b0) 13 := hr_434
  subst hr_434
  refine lv_iload hx hb dL_tick_437 (lv_at hl 3 rfl) ?_
  refine lv_icmp_ne (tgt := 489) hx hb dL_tick_439 (by decide) (fun c_439 => absurd ht.1 c_439) (fun c_439 => ?_)
  refine lv_aload_n hx hb dL_tick_442 rfl (lv_at hl 17 rfl) ?_
  refine lr_f (rL (rest := []) ⟨hx, hb, hml, hown, hts⟩ (LB_place l G cA A o (u, v, (goF u v f g b0), (goG u v f g b0), (goL u v g L b0)) (recN n) K ch  ) (cwV 0 hts gL_tick_X8_place rfl rfl rfl mdX8_place ⟨Nat.le_of_ble_eq_true rfl, Nat.le_of_ble_eq_true rfl⟩) hA hL rfl hl rfl (Nat.le_of_ble_eq_true rfl) dL_tick_443 ⟨Nat.le_of_ble_eq_true rfl, Nat.le_of_ble_eq_true rfl⟩) hA hL (fun r_443 H locs hr_443 hA hL => ?_)
  replace hr_443 : r_443 = (goF u v f g b0) 7 := hr_443
  subst hr_443
  refine lv_fload hx hb dL_tick_446 (lv_at hl 2 rfl) ?_
  refine lv_fcmp hx hb dL_tick_448 ?_
  refine lv_if_ne (tgt := 489) hx hb dL_tick_449 (by decide) (fun c_449 => absurd (by rw [ht.2.2.2]; exact cmp_self (of_vf hf) _) c_449) (fun c_449 => ?_)
  refine lv_fload hx hb dL_tick_452 (lv_at hl 7 rfl) ?_
  refine lv_fload hx hb dL_tick_454 (lv_at hl 2 rfl) ?_
  refine lv_fcmp hx hb dL_tick_456 ?_
  refine lv_if_ne (tgt := 489) hx hb dL_tick_457 (by decide) (fun c_457 => absurd (by rw [ht.2.2.2]; exact cmp_self (of_vf hf) _) c_457) (fun c_457 => ?_)
  refine lv_aload_n hx hb dL_tick_460 rfl (lv_at hl 17 rfl) ?_
  refine lv_iconst (v := 1) hx hb dL_tick_461 (by decide) ?_
  refine lr_i (rL (rest := []) ⟨hx, hb, hml, hown, hts⟩ (LB_door l G cA A o (u, v, (goF u v f g b0), (goG u v f g b0), (goL u v g L b0)) (recN n) K ch 1 ) (cwV 1 hts gL_tick_X8_door rfl rfl rfl mdX8_door ⟨Nat.le_of_ble_eq_true rfl, Nat.le_of_ble_eq_true rfl⟩) hA hL rfl hl rfl (Nat.le_of_ble_eq_true rfl) dL_tick_462 ⟨Nat.le_of_ble_eq_true rfl, Nat.le_of_ble_eq_true rfl⟩) hA hL (fun r_462 H locs hr_462 hA hL => ?_)
  replace hr_462 : r_462 = (goG u v f g b0) 16 := hr_462
  subst hr_462
  refine lv_iload hx hb dL_tick_465 (lv_at hl 4 rfl) ?_
  refine lv_icmp_ne (tgt := 489) hx hb dL_tick_467 (by decide) (fun c_467 => absurd ht.2.1 c_467) (fun c_467 => ?_)
  refine lv_aload_n hx hb dL_tick_470 rfl (lv_at hl 17 rfl) ?_
  refine lv_iconst (v := 2) hx hb dL_tick_471 (by decide) ?_
  refine lr_i (rL (rest := []) ⟨hx, hb, hml, hown, hts⟩ (LB_door l G cA A o (u, v, (goF u v f g b0), (goG u v f g b0), (goL u v g L b0)) (recN n) K ch 2 ) (cwV 1 hts gL_tick_X8_door rfl rfl rfl mdX8_door ⟨Nat.le_of_ble_eq_true rfl, Nat.le_of_ble_eq_true rfl⟩) hA hL rfl hl rfl (Nat.le_of_ble_eq_true rfl) dL_tick_472 ⟨Nat.le_of_ble_eq_true rfl, Nat.le_of_ble_eq_true rfl⟩) hA hL (fun r_472 H locs hr_472 hA hL => ?_)
  replace hr_472 : r_472 = oneF ((goG u v f g b0) 17) := hr_472
  subst hr_472
  refine lv_iload hx hb dL_tick_475 (lv_at hl 0 rfl) ?_
  refine lv_if_eq (tgt := 484) hx hb dL_tick_477 (by decide) (fun _ => ?_) (fun h9 => absurd (by decide) h9)
  refine lv_iload hx hb dL_tick_484 (lv_at hl 12 rfl) ?_
  refine lv_icmp_eq (tgt := 491) hx hb dL_tick_486 (by decide) (fun c_486 => ?_) (fun c_486 => absurd (by rw [ht.2.2.1] <;> rfl) c_486)
  refine lv_iload hx hb dL_tick_491 (lv_at hl 5 rfl) ?_
  refine lv_if_eq (tgt := 554) hx hb dL_tick_493 (by decide) (fun _ => ?_) (fun h9 => absurd (by decide) h9)
  refine lv_iload_n hx hb dL_tick_554 rfl (lv_at hl 18 rfl) ?_
  refine lv_if_eq (tgt := 599) hx hb dL_tick_555 (by decide) (fun c_555 => absurd c_555 hbz) (fun c_555 => ?_)
  refine lv_aload_n hx hb dL_tick_558 rfl (lv_at hl 17 rfl) ?_
  refine lv_iconst (v := 0) hx hb dL_tick_559 (by decide) ?_
  refine lr_i (rL (rest := []) ⟨hx, hb, hml, hown, hts⟩ (LB_thing l G cA A o (u, v, (goF u v f g b0), (goG u v f g b0), (goL u v g L b0)) (recN n) K ch 0 hP2) (cwV 1 hts gL_tick_X8_thing rfl rfl rfl mdX8_thing ⟨Nat.le_of_ble_eq_true rfl, Nat.le_of_ble_eq_true rfl⟩) hA hL rfl hl rfl (Nat.le_of_ble_eq_true rfl) dL_tick_560 ⟨Nat.le_of_ble_eq_true rfl, Nat.le_of_ble_eq_true rfl⟩) hA hL (fun r_560 H locs hr_560 hA hL => ?_)
  replace hr_560 : r_560 = g 7 + 1 := hr_560.trans ((th_0 h5).trans e7t)
  subst hr_560
  refine lv_iload hx hb dL_tick_563 (lv_at hl 11 rfl) ?_
  refine lv_if_ge (tgt := 572) hx hb dL_tick_565 (by decide) (fun c_565 => ?_) (fun c_565 => absurd c_48 c_565)
  refine lv_iload hx hb dL_tick_572 (lv_at hl 11 rfl) ?_
  refine lv_iconst (v := 1) hx hb dL_tick_574 (by decide) ?_
  refine lv_iadd hx hb dL_tick_575 ?_
  refine lv_icmp_ne (tgt := 603) hx hb dL_tick_576 (by decide) (fun c_576 => absurd rfl c_576) (fun c_576 => ?_)
  refine lv_aload_n hx hb dL_tick_579 rfl (lv_at hl 17 rfl) ?_
  refine lv_bipush (v := 6) hx hb dL_tick_580 (by decide) ?_
  refine lr_i (rL (rest := []) ⟨hx, hb, hml, hown, hts⟩ (LB_thing l G cA A o (u, v, (goF u v f g b0), (goG u v f g b0), (goL u v g L b0)) (recN n) K ch 6 hP2) (cwV 1 hts gL_tick_X8_thing rfl rfl rfl mdX8_thing ⟨Nat.le_of_ble_eq_true rfl, Nat.le_of_ble_eq_true rfl⟩) hA hL rfl hl rfl (Nat.le_of_ble_eq_true rfl) dL_tick_582 ⟨Nat.le_of_ble_eq_true rfl, Nat.le_of_ble_eq_true rfl⟩) hA hL (fun r_582 H locs hr_582 hA hL => ?_)
  replace hr_582 : r_582 = oneF ((goG u v f g b0) 12) := hr_582.trans (th_6 h5)
  subst hr_582
  refine lv_iload hx hb dL_tick_585 (lv_at hl 1 rfl) ?_
  refine lv_if_eq (tgt := 594) hx hb dL_tick_587 (by decide) (fun _ => ?_) (fun h9 => absurd (by decide) h9)
  refine lv_iload hx hb dL_tick_594 (lv_at hl 9 rfl) ?_
  refine lv_icmp_ne (tgt := 603) hx hb dL_tick_596 (by decide) (fun c_596 => absurd (by rw [ht12] <;> rfl) c_596) (fun c_596 => ?_)
  refine lv_iconst (v := 1) hx hb dL_tick_599 (by decide) ?_
  refine lv_goto (tgt := 604) hx hb dL_tick_600 (by decide) ?_
  exact en_l (post := fun r (_ : Unit) => r = 1) (B := fun _ H => LB G cA A o (u, v, (goF u v f g b0), (goG u v f g b0), (goL u v g L b0)) (recN n) K ch H) () hx hb hr hlocks hA rfl hL dL_tick_604
set_option maxHeartbeats 8000000 in
set_option maxRecDepth 100000 in
/-- tick(o, beams), in the state 1, case tb -/
theorem cL_tick_1_tb (l : Launch) (G : va_G) (cA : Nat → ClassId) (A : Nat → Prop) (o : Nat) (u : FF) (v : GG) (f : FF) (g L : GG) (n K : Nat) (ch : GG) (b0 : Int32) (hb0 : ¬ b0 < 0) (hb7 : ¬ 7 < b0) (hbz : ¬ b0 = 0) (hs : g 13 = 1) (hn : n ≤ 4) (hGo : GoOk u f g) (hPr : PrOk u g) (hP2 : PrOk u (goG u v f g b0)) (hT : ¬ 99999 < g 27 + nI 1) (hBo : Bo g) (hf : vf_n32 (f 7)) (hg : ¬ g 5 = 0) (h7 : ¬ g 7 < 1) : Met l yL_tick wsL_tick ({ frames := 7, cells := 0, slots := 0, locals := 160 } : Room) (va_Pc [.ref o, .int b0] (LbP G cA A o (u, v, f, g, L) n K ch)) (va_Qi (fun r (_ : Unit) => r = 1) (fun _ t => LB G cA A o (u, v, (goF u v f g b0), (goG u v f g b0), (goL u v g L b0)) (recN n) K ch t.heap) A) 0 0 A := by
  refine ofW2 (cc := cL_tick) (maxL := 19) (ret := (some .boolean)) (own := RL) (by decide) rfl rfl (Nat.le_of_ble_eq_true rfl) rfl ?_
  intro p e s m below meth c ls hx hb hml hr hts hown hlocks hv hl
  obtain ⟨hE, hN, hL⟩ := hv
  have hA : At G cA A s s.heap [] := ⟨hE, hN, va_S.rf⟩
  obtain ⟨H, hH0⟩ : ∃ H, H = s.heap := ⟨_, rfl⟩
  rw [← hH0] at hL ⊢
  replace hA : At G cA A s H [] := by rw [hH0]; exact hA
  generalize ([] : List Loc) = locs at hA ⊢
  clear hH0
  replace hl : lv_has ls 19 [(0, .ref o), (1, .int b0)] := hl
  have hG1 : ∀ k, k < 1 → GoOk u (itS u v b0 (f, g, L) k).1 (itS u v b0 (f, g, L) k).2.1 := fun k hk => (show k = 0 by omega) ▸ hGo
  have ht := t_1 (b := b0) hs (u := u) (v := v) (f := f)
  have hp16 : preG u v g b0 16 = g 16 := pre_16b hbz
  have hk5 : (preG u v g b0) 5 = g 5 := by rw [pre_b hbz]; exact (show (if g 5 = 0 then 1 else g 5) = g 5 by rw [if_neg hg])
  have hk7 : (preG u v g b0) 7 = g 7 + 1 := by rw [pre_b hbz]; show (if g 5 = 0 then 0 else g 7) + 1 = _; rw [if_neg hg]
  have hk12 : (preG u v g b0) 12 = g 12 := by rw [pre_b hbz]; show (if g 5 = 0 then 0 else g 12) = _; rw [if_neg hg]
  have h5e : (goG u v f g b0) 5 = (preG u v g b0) 5 := mv_5
  have e7e : (goG u v f g b0) 7 = (preG u v g b0) 7 := mv_7
  have ht12 : (goG u v f g b0) 12 = g 12 := (go_G (by decide)).trans (by rw [(mv_1 (pre_13.trans hs)).1]; exact hk12)
  have h5 : ¬ (goG u v f g b0) 5 = 0 := by rw [h5e, hk5]; exact hg
  have e7t := e7e.trans hk7
  refine lv_aload_n hx hb dL_tick_0 rfl (lv_at hl 0 rfl) ?_
  refine lv_iconst (v := 0) hx hb dL_tick_1 (by decide) ?_
  refine lr_i (rL (rest := []) ⟨hx, hb, hml, hown, hts⟩ (LB_door l G cA A o (u, v, f, g, L) n K ch 0 ) (cwV 1 hts gL_tick_X8_door rfl rfl rfl mdX8_door ⟨Nat.le_of_ble_eq_true rfl, Nat.le_of_ble_eq_true rfl⟩) hA hL rfl hl rfl (Nat.le_of_ble_eq_true rfl) dL_tick_2 ⟨Nat.le_of_ble_eq_true rfl, Nat.le_of_ble_eq_true rfl⟩) hA hL (fun r_2 H locs hr_2 hA hL => ?_)
  replace hr_2 : r_2 = 1 := hr_2.trans hs
  subst hr_2
  refine lv_istore_n (lv' := [(2, .int 1), (0, .ref o), (1, .int b0)]) hx hb dL_tick_5 rfl hl (by decide) rfl (fun ls hl => ?_)
  refine lv_aload_n hx hb dL_tick_6 rfl (lv_at hl 1 rfl) ?_
  refine lr_f (rL (rest := []) ⟨hx, hb, hml, hown, hts⟩ (LB_place l G cA A o (u, v, f, g, L) n K ch  ) (cwV 0 hts gL_tick_X8_place rfl rfl rfl mdX8_place ⟨Nat.le_of_ble_eq_true rfl, Nat.le_of_ble_eq_true rfl⟩) hA hL rfl hl rfl (Nat.le_of_ble_eq_true rfl) dL_tick_7 ⟨Nat.le_of_ble_eq_true rfl, Nat.le_of_ble_eq_true rfl⟩) hA hL (fun r_7 H locs hr_7 hA hL => ?_)
  replace hr_7 : r_7 = f 7 := hr_7
  subst hr_7
  refine lv_fstore_n (lv' := [(3, .float (f 7)), (2, .int 1), (0, .ref o), (1, .int b0)]) hx hb dL_tick_10 rfl hl (by decide) rfl (fun ls hl => ?_)
  refine lv_aload_n hx hb dL_tick_11 rfl (lv_at hl 2 rfl) ?_
  refine lv_iconst (v := 1) hx hb dL_tick_12 (by decide) ?_
  refine lr_i (rL (rest := []) ⟨hx, hb, hml, hown, hts⟩ (LB_door l G cA A o (u, v, f, g, L) n K ch 1 ) (cwV 1 hts gL_tick_X8_door rfl rfl rfl mdX8_door ⟨Nat.le_of_ble_eq_true rfl, Nat.le_of_ble_eq_true rfl⟩) hA hL rfl hl rfl (Nat.le_of_ble_eq_true rfl) dL_tick_13 ⟨Nat.le_of_ble_eq_true rfl, Nat.le_of_ble_eq_true rfl⟩) hA hL (fun r_13 H locs hr_13 hA hL => ?_)
  replace hr_13 : r_13 = g 16 := hr_13
  subst hr_13
  refine lv_istore (lv' := [(4, .int (g 16)), (3, .float (f 7)), (2, .int 1), (0, .ref o), (1, .int b0)]) hx hb dL_tick_16 hl (by decide) rfl (fun ls hl => ?_)
  refine lv_aload_n hx hb dL_tick_18 rfl (lv_at hl 3 rfl) ?_
  refine lv_iconst (v := 3) hx hb dL_tick_19 (by decide) ?_
  refine lr_i (rL (rest := []) ⟨hx, hb, hml, hown, hts⟩ (LB_door l G cA A o (u, v, f, g, L) n K ch 3 ) (cwV 1 hts gL_tick_X8_door rfl rfl rfl mdX8_door ⟨Nat.le_of_ble_eq_true rfl, Nat.le_of_ble_eq_true rfl⟩) hA hL rfl hl rfl (Nat.le_of_ble_eq_true rfl) dL_tick_20 ⟨Nat.le_of_ble_eq_true rfl, Nat.le_of_ble_eq_true rfl⟩) hA hL (fun r_20 H locs hr_20 hA hL => ?_)
  rw [show doF f g 3 = 0 from (by show (if g 13 = 2 then g 14 else 0) = 0; rw [if_neg (by rw [hs]; decide)])] at hr_20
  subst hr_20
  refine lv_istore (lv' := [(5, .int 0), (4, .int (g 16)), (3, .float (f 7)), (2, .int 1), (0, .ref o), (1, .int b0)]) hx hb dL_tick_23 hl (by decide) rfl (fun ls hl => ?_)
  refine lv_aload_n hx hb dL_tick_25 rfl (lv_at hl 4 rfl) ?_
  refine lv_iconst (v := 4) hx hb dL_tick_26 (by decide) ?_
  refine lr_i (rL (rest := []) ⟨hx, hb, hml, hown, hts⟩ (LB_door l G cA A o (u, v, f, g, L) n K ch 4 ) (cwV 1 hts gL_tick_X8_door rfl rfl rfl mdX8_door ⟨Nat.le_of_ble_eq_true rfl, Nat.le_of_ble_eq_true rfl⟩) hA hL rfl hl rfl (Nat.le_of_ble_eq_true rfl) dL_tick_27 ⟨Nat.le_of_ble_eq_true rfl, Nat.le_of_ble_eq_true rfl⟩) hA hL (fun r_27 H locs hr_27 hA hL => ?_)
  rw [show doF f g 4 = 0 from (by show (if g 13 = 3 then g 15 else 0) = 0; rw [if_neg (by rw [hs]; decide)])] at hr_27
  subst hr_27
  refine lv_istore (lv' := [(6, .int 0), (5, .int 0), (4, .int (g 16)), (3, .float (f 7)), (2, .int 1), (0, .ref o), (1, .int b0)]) hx hb dL_tick_30 hl (by decide) rfl (fun ls hl => ?_)
  refine lv_aload_n hx hb dL_tick_32 rfl (lv_at hl 5 rfl) ?_
  refine lv_iconst (v := 2) hx hb dL_tick_33 (by decide) ?_
  refine lr_i (rL (rest := []) ⟨hx, hb, hml, hown, hts⟩ (LB_door l G cA A o (u, v, f, g, L) n K ch 2 ) (cwV 1 hts gL_tick_X8_door rfl rfl rfl mdX8_door ⟨Nat.le_of_ble_eq_true rfl, Nat.le_of_ble_eq_true rfl⟩) hA hL rfl hl rfl (Nat.le_of_ble_eq_true rfl) dL_tick_34 ⟨Nat.le_of_ble_eq_true rfl, Nat.le_of_ble_eq_true rfl⟩) hA hL (fun r_34 H locs hr_34 hA hL => ?_)
  replace hr_34 : r_34 = oneF (g 17) := hr_34
  subst hr_34
  refine lv_istore (lv' := [(7, .int (oneF (g 17))), (6, .int 0), (5, .int 0), (4, .int (g 16)), (3, .float (f 7)), (2, .int 1), (0, .ref o), (1, .int b0)]) hx hb dL_tick_37 hl (by decide) rfl (fun ls hl => ?_)
  refine lv_aload_n hx hb dL_tick_39 rfl (lv_at hl 6 rfl) ?_
  refine lv_iconst (v := 0) hx hb dL_tick_40 (by decide) ?_
  refine lr_i (rL (rest := []) ⟨hx, hb, hml, hown, hts⟩ (LB_thing l G cA A o (u, v, f, g, L) n K ch 0 hPr) (cwV 1 hts gL_tick_X8_thing rfl rfl rfl mdX8_thing ⟨Nat.le_of_ble_eq_true rfl, Nat.le_of_ble_eq_true rfl⟩) hA hL rfl hl rfl (Nat.le_of_ble_eq_true rfl) dL_tick_41 ⟨Nat.le_of_ble_eq_true rfl, Nat.le_of_ble_eq_true rfl⟩) hA hL (fun r_41 H locs hr_41 hA hL => ?_)
  replace hr_41 : r_41 = g 7 := hr_41.trans (th_0 hg)
  subst hr_41
  refine lv_istore (lv' := [(8, .int (g 7)), (7, .int (oneF (g 17))), (6, .int 0), (5, .int 0), (4, .int (g 16)), (3, .float (f 7)), (2, .int 1), (0, .ref o), (1, .int b0)]) hx hb dL_tick_44 hl (by decide) rfl (fun ls hl => ?_)
  refine lv_iload hx hb dL_tick_46 (lv_at hl 0 rfl) ?_
  refine lv_if_ge (tgt := 55) hx hb dL_tick_48 (by decide) (fun c_48 => ?_) (fun c_48 => absurd (show g 7 < 1 by have := Int32.not_le.mp c_48; exact Int32.lt_trans this (by decide)) h7)
  refine lv_aload_n hx hb dL_tick_55 rfl (lv_at hl 7 rfl) ?_
  refine lv_iconst (v := 5) hx hb dL_tick_56 (by decide) ?_
  refine lr_i (rL (rest := []) ⟨hx, hb, hml, hown, hts⟩ (LB_thing l G cA A o (u, v, f, g, L) n K ch 5 hPr) (cwV 1 hts gL_tick_X8_thing rfl rfl rfl mdX8_thing ⟨Nat.le_of_ble_eq_true rfl, Nat.le_of_ble_eq_true rfl⟩) hA hL rfl hl rfl (Nat.le_of_ble_eq_true rfl) dL_tick_57 ⟨Nat.le_of_ble_eq_true rfl, Nat.le_of_ble_eq_true rfl⟩) hA hL (fun r_57 H locs hr_57 hA hL => ?_)
  replace hr_57 : r_57 = g 11 := hr_57.trans (th_5 hg)
  subst hr_57
  refine lv_istore (lv' := [(9, .int (g 11)), (8, .int (g 7)), (7, .int (oneF (g 17))), (6, .int 0), (5, .int 0), (4, .int (g 16)), (3, .float (f 7)), (2, .int 1), (0, .ref o), (1, .int b0)]) hx hb dL_tick_60 hl (by decide) rfl (fun ls hl => ?_)
  refine lv_iload hx hb dL_tick_62 (lv_at hl 1 rfl) ?_
  refine lv_if_ge (tgt := 71) hx hb dL_tick_64 (by decide) (fun c_64 => ?_) (fun c_64 => absurd c_48 c_64)
  refine lv_aload_n hx hb dL_tick_71 rfl (lv_at hl 8 rfl) ?_
  refine lv_bipush (v := 6) hx hb dL_tick_72 (by decide) ?_
  refine lr_i (rL (rest := []) ⟨hx, hb, hml, hown, hts⟩ (LB_thing l G cA A o (u, v, f, g, L) n K ch 6 hPr) (cwV 1 hts gL_tick_X8_thing rfl rfl rfl mdX8_thing ⟨Nat.le_of_ble_eq_true rfl, Nat.le_of_ble_eq_true rfl⟩) hA hL rfl hl rfl (Nat.le_of_ble_eq_true rfl) dL_tick_74 ⟨Nat.le_of_ble_eq_true rfl, Nat.le_of_ble_eq_true rfl⟩) hA hL (fun r_74 H locs hr_74 hA hL => ?_)
  replace hr_74 : r_74 = oneF (g 12) := hr_74.trans (th_6 hg)
  subst hr_74
  refine lv_istore (lv' := [(10, .int (oneF (g 12))), (9, .int (g 11)), (8, .int (g 7)), (7, .int (oneF (g 17))), (6, .int 0), (5, .int 0), (4, .int (g 16)), (3, .float (f 7)), (2, .int 1), (0, .ref o), (1, .int b0)]) hx hb dL_tick_77 hl (by decide) rfl (fun ls hl => ?_)
  refine lv_iload hx hb dL_tick_79 (lv_at hl 2 rfl) ?_
  refine lv_if_ge (tgt := 88) hx hb dL_tick_81 (by decide) (fun c_81 => ?_) (fun c_81 => absurd c_48 c_81)
  refine lv_aload_n hx hb dL_tick_88 rfl (lv_at hl 9 rfl) ?_
  refine lv_bipush (v := 7) hx hb dL_tick_89 (by decide) ?_
  refine lr_i (rL (rest := []) ⟨hx, hb, hml, hown, hts⟩ (LB_thing l G cA A o (u, v, f, g, L) n K ch 7 hPr) (cwV 1 hts gL_tick_X8_thing rfl rfl rfl mdX8_thing ⟨Nat.le_of_ble_eq_true rfl, Nat.le_of_ble_eq_true rfl⟩) hA hL rfl hl rfl (Nat.le_of_ble_eq_true rfl) dL_tick_91 ⟨Nat.le_of_ble_eq_true rfl, Nat.le_of_ble_eq_true rfl⟩) hA hL (fun r_91 H locs hr_91 hA hL => ?_)
  replace hr_91 : r_91 = bestK u g := hr_91.trans (th_7 hg)
  subst hr_91
  refine lv_istore (lv' := [(11, .int (bestK u g)), (10, .int (oneF (g 12))), (9, .int (g 11)), (8, .int (g 7)), (7, .int (oneF (g 17))), (6, .int 0), (5, .int 0), (4, .int (g 16)), (3, .float (f 7)), (2, .int 1), (0, .ref o), (1, .int b0)]) hx hb dL_tick_94 hl (by decide) rfl (fun ls hl => ?_)
  refine lv_aload_n hx hb dL_tick_96 rfl (lv_at hl 10 rfl) ?_
  refine lv_iload_n hx hb dL_tick_97 rfl (lv_at hl 11 rfl) ?_
  refine lv_iconst (v := 1) hx hb dL_tick_98 (by decide) ?_
  refine lw_f (rL (rest := []) ⟨hx, hb, hml, hown, hts⟩ (LB_placeIn_ok l G cA A o (u, v, f, g, L) n K ch b0 1 hb0 hb7 (by decide) hG1) (cwV 2 hts gL_tick_X8_placeIn rfl rfl rfl mdX8_placeIn ⟨Nat.le_of_ble_eq_true rfl, Nat.le_of_ble_eq_true rfl⟩) hA hL rfl hl rfl (Nat.le_of_ble_eq_true rfl) dL_tick_99 ⟨Nat.le_of_ble_eq_true rfl, Nat.le_of_ble_eq_true rfl⟩) hA (fun r_99 _ H locs hr_99 hA hL => ?_)
  replace hL : LB G cA A o (u, v, f, g, L) n K ch H := hL
  replace hr_99 : r_99 = (goF u v f g b0) 7 := hr_99
  subst hr_99
  refine lv_fstore (lv' := [(12, .float ((goF u v f g b0) 7)), (11, .int (bestK u g)), (10, .int (oneF (g 12))), (9, .int (g 11)), (8, .int (g 7)), (7, .int (oneF (g 17))), (6, .int 0), (5, .int 0), (4, .int (g 16)), (3, .float (f 7)), (2, .int 1), (0, .ref o), (1, .int b0)]) hx hb dL_tick_102 hl (by decide) rfl (fun ls hl => ?_)
  refine lv_aload_n hx hb dL_tick_104 rfl (lv_at hl 11 rfl) ?_
  refine lv_iload hx hb dL_tick_105 (lv_at hl 1 rfl) ?_
  refine lv_iconst (v := 1) hx hb dL_tick_107 (by decide) ?_
  refine lv_iadd hx hb dL_tick_108 ?_
  refine lr_i (rL (rest := []) ⟨hx, hb, hml, hown, hts⟩ (LB_count l G cA A o (u, v, f, g, L) n K ch ((bestK u g) + 1)) (cwV 1 hts gL_tick_X8_count rfl rfl rfl mdX8_count ⟨Nat.le_of_ble_eq_true rfl, Nat.le_of_ble_eq_true rfl⟩) hA hL rfl hl rfl (Nat.le_of_ble_eq_true rfl) dL_tick_109 ⟨Nat.le_of_ble_eq_true rfl, Nat.le_of_ble_eq_true rfl⟩) hA hL (fun r_109 H locs hr_109 hA hL => ?_)
  replace hr_109 : r_109 = cnF g (nI n) (nI K) ((bestK u g) + 1) := hr_109
  subst hr_109
  refine lv_istore (lv' := [(13, .int (cnF g (nI n) (nI K) ((bestK u g) + 1))), (12, .float ((goF u v f g b0) 7)), (11, .int (bestK u g)), (10, .int (oneF (g 12))), (9, .int (g 11)), (8, .int (g 7)), (7, .int (oneF (g 17))), (6, .int 0), (5, .int 0), (4, .int (g 16)), (3, .float (f 7)), (2, .int 1), (0, .ref o), (1, .int b0)]) hx hb dL_tick_112 hl (by decide) rfl (fun ls hl => ?_)
  refine lv_iload hx hb dL_tick_114 (lv_at hl 5 rfl) ?_
  refine lv_if_le (tgt := 139) hx hb dL_tick_116 (by decide) (fun c_116 => absurd (Int32.lt_of_lt_of_le (by decide) (Int32.not_lt.mp h7)) (Int32.not_lt.mpr c_116)) (fun c_116 => ?_)
  refine lv_iload_n hx hb dL_tick_119 rfl (lv_at hl 13 rfl) ?_
  refine lv_if_ne (tgt := 139) hx hb dL_tick_120 (by decide) (fun c_120 => ?_) (fun c_120 => absurd c_120 hbz)
  refine lv_iconst (v := 0) hx hb dL_tick_139 (by decide) ?_
  refine lv_istore (lv' := [(14, .int 0), (13, .int (cnF g (nI n) (nI K) ((bestK u g) + 1))), (12, .float ((goF u v f g b0) 7)), (11, .int (bestK u g)), (10, .int (oneF (g 12))), (9, .int (g 11)), (8, .int (g 7)), (7, .int (oneF (g 17))), (6, .int 0), (5, .int 0), (4, .int (g 16)), (3, .float (f 7)), (2, .int 1), (0, .ref o), (1, .int b0)]) hx hb dL_tick_140 hl (by decide) rfl (fun ls hl => ?_)
  refine lv_iload hx hb dL_tick_142 (lv_at hl 10 rfl) ?_
  refine lv_iload hx hb dL_tick_144 (lv_at hl 0 rfl) ?_
  refine lv_if_eq (tgt := 169) hx hb dL_tick_146 (by decide) (fun _ => ?_) (fun h9 => absurd (by decide) h9)
  refine lv_iconst (v := 0) hx hb dL_tick_169 (by decide) ?_
  refine lv_isub hx hb dL_tick_170 ?_
  refine W.eq (g2 := F0 m 171 ls [.int (preG u v g b0 16)]) (by rw [hp16, Int32.sub_zero]) ?_
  refine lv_istore (lv' := [(4, .int (preG u v g b0 16)), (14, .int 0), (13, .int (cnF g (nI n) (nI K) ((bestK u g) + 1))), (12, .float ((goF u v f g b0) 7)), (11, .int (bestK u g)), (10, .int (oneF (g 12))), (9, .int (g 11)), (8, .int (g 7)), (7, .int (oneF (g 17))), (6, .int 0), (5, .int 0), (3, .float (f 7)), (2, .int 1), (0, .ref o), (1, .int b0)]) hx hb dL_tick_171 hl (by decide) rfl (fun ls hl => ?_)
  refine lv_iload_n hx hb dL_tick_173 rfl (lv_at hl 12 rfl) ?_
  refine lv_istore (lv' := [(15, .int 1), (4, .int (preG u v g b0 16)), (14, .int 0), (13, .int (cnF g (nI n) (nI K) ((bestK u g) + 1))), (12, .float ((goF u v f g b0) 7)), (11, .int (bestK u g)), (10, .int (oneF (g 12))), (9, .int (g 11)), (8, .int (g 7)), (7, .int (oneF (g 17))), (6, .int 0), (5, .int 0), (3, .float (f 7)), (2, .int 1), (0, .ref o), (1, .int b0)]) hx hb dL_tick_174 hl (by decide) rfl (fun ls hl => ?_)
  refine lv_fload_n hx hb dL_tick_176 rfl (lv_at hl 12 rfl) ?_
  refine lv_fstore (lv' := [(16, .float (f 7)), (15, .int 1), (4, .int (preG u v g b0 16)), (14, .int 0), (13, .int (cnF g (nI n) (nI K) ((bestK u g) + 1))), (12, .float ((goF u v f g b0) 7)), (11, .int (bestK u g)), (10, .int (oneF (g 12))), (9, .int (g 11)), (8, .int (g 7)), (7, .int (oneF (g 17))), (6, .int 0), (5, .int 0), (3, .float (f 7)), (2, .int 1), (0, .ref o), (1, .int b0)]) hx hb dL_tick_177 hl (by decide) rfl (fun ls hl => ?_)
  refine lv_iload_n hx hb dL_tick_179 rfl (lv_at hl 14 rfl) ?_
  refine lv_iconst (v := 1) hx hb dL_tick_180 (by decide) ?_
  refine lv_icmp_ne (tgt := 228) hx hb dL_tick_181 (by decide) (fun h9 => absurd (by decide) h9) (fun _ => ?_)
  refine lv_fload_n hx hb dL_tick_184 rfl (lv_at hl 13 rfl) ?_
  refine lv_aload_n hx hb dL_tick_185 rfl (lv_at hl 15 rfl) ?_
  refine lv_iconst (v := 0) hx hb dL_tick_186 (by decide) ?_
  refine lr_f (rL (rest := [.float (f 7)]) ⟨hx, hb, hml, hown, hts⟩ (LB_speed l G cA A o (u, v, f, g, L) n K ch 0 ) (cwV 1 hts gL_tick_X8_speed rfl rfl rfl mdX8_speed ⟨Nat.le_of_ble_eq_true rfl, Nat.le_of_ble_eq_true rfl⟩) hA hL rfl hl rfl (Nat.le_of_ble_eq_true rfl) dL_tick_187 ⟨Nat.le_of_ble_eq_true rfl, Nat.le_of_ble_eq_true rfl⟩) hA hL (fun r_187 H locs hr_187 hA hL => ?_)
  replace hr_187 : r_187 = u 0 := hr_187
  subst hr_187
  refine lv_fadd hx hb dL_tick_190 (hGo.2.1) ?_
  refine lv_fstore (lv' := [(16, .float (FP.fadd (f 7) (u 0))), (15, .int 1), (4, .int (preG u v g b0 16)), (14, .int 0), (13, .int (cnF g (nI n) (nI K) ((bestK u g) + 1))), (12, .float ((goF u v f g b0) 7)), (11, .int (bestK u g)), (10, .int (oneF (g 12))), (9, .int (g 11)), (8, .int (g 7)), (7, .int (oneF (g 17))), (6, .int 0), (5, .int 0), (3, .float (f 7)), (2, .int 1), (0, .ref o), (1, .int b0)]) hx hb dL_tick_191 hl (by decide) rfl (fun ls hl => ?_)
  refine lv_fload hx hb dL_tick_193 (lv_at hl 0 rfl) ?_
  refine lv_ldcf hx hb hown (hts (.constantFloat RL 32 (1120403456)) (by decide +kernel)) dL_tick_195 ?_
  refine lv_fcmp hx hb dL_tick_197 ?_
  refine lv_if_lt (tgt := 205) hx hb dL_tick_198 (by decide) (fun c_198 => ?_) (fun c_198 => ?_)
  · skip
    refine lv_iconst (v := 1) hx hb dL_tick_205 (by decide) ?_
    refine lv_istore (lv' := [(15, .int 1), (16, .float (FP.fadd (f 7) (u 0))), (4, .int (preG u v g b0 16)), (14, .int 0), (13, .int (cnF g (nI n) (nI K) ((bestK u g) + 1))), (12, .float ((goF u v f g b0) 7)), (11, .int (bestK u g)), (10, .int (oneF (g 12))), (9, .int (g 11)), (8, .int (g 7)), (7, .int (oneF (g 17))), (6, .int 0), (5, .int 0), (3, .float (f 7)), (2, .int 1), (0, .ref o), (1, .int b0)]) hx hb dL_tick_206 hl (by decide) rfl (fun ls hl => ?_)
    refine lv_fload hx hb dL_tick_208 (lv_at hl 1 rfl) ?_
    refine lv_ldcf hx hb hown (hts (.constantFloat RL 32 (1120403456)) (by decide +kernel)) dL_tick_210 ?_
    refine lv_fcmp hx hb dL_tick_212 ?_
    refine lv_if_lt (tgt := 221) hx hb dL_tick_213 (by decide) (fun c_213 => ?_) (fun c_213 => absurd c_198 c_213)
    refine lv_fload hx hb dL_tick_221 (lv_at hl 1 rfl) ?_
    refine lv_fstore (lv' := [(16, .float (FP.fadd (f 7) (u 0))), (15, .int 1), (4, .int (preG u v g b0 16)), (14, .int 0), (13, .int (cnF g (nI n) (nI K) ((bestK u g) + 1))), (12, .float ((goF u v f g b0) 7)), (11, .int (bestK u g)), (10, .int (oneF (g 12))), (9, .int (g 11)), (8, .int (g 7)), (7, .int (oneF (g 17))), (6, .int 0), (5, .int 0), (3, .float (f 7)), (2, .int 1), (0, .ref o), (1, .int b0)]) hx hb dL_tick_223 hl (by decide) rfl (fun ls hl => ?_)
    refine lv_goto (tgt := 385) hx hb dL_tick_225 (by decide) ?_
    refine lv_iload_n hx hb dL_tick_385 rfl (lv_at hl 14 rfl) ?_
    refine lv_iconst (v := 3) hx hb dL_tick_386 (by decide) ?_
    refine lv_icmp_ne (tgt := 400) hx hb dL_tick_387 (by decide) (fun _ => ?_) (fun h9 => absurd h9 (by decide))
    refine lv_iconst (v := 0) hx hb dL_tick_400 (by decide) ?_
    refine lv_istore (lv' := [(17, .int 0), (16, .float (FP.fadd (f 7) (u 0))), (15, .int 1), (4, .int (preG u v g b0 16)), (14, .int 0), (13, .int (cnF g (nI n) (nI K) ((bestK u g) + 1))), (12, .float ((goF u v f g b0) 7)), (11, .int (bestK u g)), (10, .int (oneF (g 12))), (9, .int (g 11)), (8, .int (g 7)), (7, .int (oneF (g 17))), (6, .int 0), (5, .int 0), (3, .float (f 7)), (2, .int 1), (0, .ref o), (1, .int b0)]) hx hb dL_tick_401 hl (by decide) rfl (fun ls hl => ?_)
    refine lv_iload hx hb dL_tick_403 (lv_at hl 0 rfl) ?_
    refine lv_if_eq (tgt := 428) hx hb dL_tick_405 (by decide) (fun _ => ?_) (fun h9 => absurd (by decide) h9)
    refine lv_iconst (v := 0) hx hb dL_tick_428 (by decide) ?_
    refine lv_istore (lv' := [(18, .int 0), (17, .int 0), (16, .float (FP.fadd (f 7) (u 0))), (15, .int 1), (4, .int (preG u v g b0 16)), (14, .int 0), (13, .int (cnF g (nI n) (nI K) ((bestK u g) + 1))), (12, .float ((goF u v f g b0) 7)), (11, .int (bestK u g)), (10, .int (oneF (g 12))), (9, .int (g 11)), (8, .int (g 7)), (7, .int (oneF (g 17))), (6, .int 0), (5, .int 0), (3, .float (f 7)), (2, .int 1), (0, .ref o), (1, .int b0)]) hx hb dL_tick_429 hl (by decide) rfl (fun ls hl => ?_)
    refine lv_aload_n hx hb dL_tick_431 rfl (lv_at hl 17 rfl) ?_
    refine lv_iload_n hx hb dL_tick_432 rfl (lv_at hl 18 rfl) ?_
    refine lv_iconst (v := 1) hx hb dL_tick_433 (by decide) ?_
    refine lw_i (rL (rest := []) ⟨hx, hb, hml, hown, hts⟩ (LB_pass_ok l G cA A o (u, v, f, g, L) n K ch hn b0 1 hb0 hb7 (by decide) (by decide) hT hG1 hBo) (cwV 2 hts gL_tick_X8_pass rfl rfl rfl mdX8_pass ⟨Nat.le_of_ble_eq_true rfl, Nat.le_of_ble_eq_true rfl⟩) hA hL rfl hl rfl (Nat.le_of_ble_eq_true rfl) dL_tick_434 ⟨Nat.le_of_ble_eq_true rfl, Nat.le_of_ble_eq_true rfl⟩) hA (fun r_434 _ H locs hr_434 hA hL => ?_)
    replace hL : LB G cA A o (u, v, (goF u v f g b0), (goG u v f g b0), (goL u v g L b0)) (recN n) K ch H := hL
    replace hr_434 : r_434 = (goG u v f g b0) 13 := hr_434
    subst hr_434
    refine lv_iload hx hb dL_tick_437 (lv_at hl 3 rfl) ?_
    refine lv_icmp_ne (tgt := 489) hx hb dL_tick_439 (by decide) (fun c_439 => absurd (ht.1.trans (if_pos c_198)) c_439) (fun c_439 => ?_)
    refine lv_aload_n hx hb dL_tick_442 rfl (lv_at hl 17 rfl) ?_
    refine lr_f (rL (rest := []) ⟨hx, hb, hml, hown, hts⟩ (LB_place l G cA A o (u, v, (goF u v f g b0), (goG u v f g b0), (goL u v g L b0)) (recN n) K ch  ) (cwV 0 hts gL_tick_X8_place rfl rfl rfl mdX8_place ⟨Nat.le_of_ble_eq_true rfl, Nat.le_of_ble_eq_true rfl⟩) hA hL rfl hl rfl (Nat.le_of_ble_eq_true rfl) dL_tick_443 ⟨Nat.le_of_ble_eq_true rfl, Nat.le_of_ble_eq_true rfl⟩) hA hL (fun r_443 H locs hr_443 hA hL => ?_)
    replace hr_443 : r_443 = (goF u v f g b0) 7 := hr_443
    subst hr_443
    refine lv_fload hx hb dL_tick_446 (lv_at hl 2 rfl) ?_
    refine lv_fcmp hx hb dL_tick_448 ?_
    refine lv_if_ne (tgt := 489) hx hb dL_tick_449 (by decide) (fun c_449 => absurd (by rw [(ht.2.2.2.trans (if_pos c_198))]; exact cmp_self (of_vf hGo.2.1) _) c_449) (fun c_449 => ?_)
    refine lv_fload hx hb dL_tick_452 (lv_at hl 7 rfl) ?_
    refine lv_fload hx hb dL_tick_454 (lv_at hl 2 rfl) ?_
    refine lv_fcmp hx hb dL_tick_456 ?_
    refine lv_if_ne (tgt := 489) hx hb dL_tick_457 (by decide) (fun c_457 => absurd (by rw [(ht.2.2.2.trans (if_pos c_198))]; exact cmp_self (of_vf hGo.2.1) _) c_457) (fun c_457 => ?_)
    refine lv_aload_n hx hb dL_tick_460 rfl (lv_at hl 17 rfl) ?_
    refine lv_iconst (v := 1) hx hb dL_tick_461 (by decide) ?_
    refine lr_i (rL (rest := []) ⟨hx, hb, hml, hown, hts⟩ (LB_door l G cA A o (u, v, (goF u v f g b0), (goG u v f g b0), (goL u v g L b0)) (recN n) K ch 1 ) (cwV 1 hts gL_tick_X8_door rfl rfl rfl mdX8_door ⟨Nat.le_of_ble_eq_true rfl, Nat.le_of_ble_eq_true rfl⟩) hA hL rfl hl rfl (Nat.le_of_ble_eq_true rfl) dL_tick_462 ⟨Nat.le_of_ble_eq_true rfl, Nat.le_of_ble_eq_true rfl⟩) hA hL (fun r_462 H locs hr_462 hA hL => ?_)
    replace hr_462 : r_462 = (goG u v f g b0) 16 := hr_462
    subst hr_462
    refine lv_iload hx hb dL_tick_465 (lv_at hl 4 rfl) ?_
    refine lv_icmp_ne (tgt := 489) hx hb dL_tick_467 (by decide) (fun c_467 => absurd ht.2.1 c_467) (fun c_467 => ?_)
    refine lv_aload_n hx hb dL_tick_470 rfl (lv_at hl 17 rfl) ?_
    refine lv_iconst (v := 2) hx hb dL_tick_471 (by decide) ?_
    refine lr_i (rL (rest := []) ⟨hx, hb, hml, hown, hts⟩ (LB_door l G cA A o (u, v, (goF u v f g b0), (goG u v f g b0), (goL u v g L b0)) (recN n) K ch 2 ) (cwV 1 hts gL_tick_X8_door rfl rfl rfl mdX8_door ⟨Nat.le_of_ble_eq_true rfl, Nat.le_of_ble_eq_true rfl⟩) hA hL rfl hl rfl (Nat.le_of_ble_eq_true rfl) dL_tick_472 ⟨Nat.le_of_ble_eq_true rfl, Nat.le_of_ble_eq_true rfl⟩) hA hL (fun r_472 H locs hr_472 hA hL => ?_)
    replace hr_472 : r_472 = oneF ((goG u v f g b0) 17) := hr_472
    subst hr_472
    refine lv_iload hx hb dL_tick_475 (lv_at hl 0 rfl) ?_
    refine lv_if_eq (tgt := 484) hx hb dL_tick_477 (by decide) (fun _ => ?_) (fun h9 => absurd (by decide) h9)
    refine lv_iload hx hb dL_tick_484 (lv_at hl 12 rfl) ?_
    refine lv_icmp_eq (tgt := 491) hx hb dL_tick_486 (by decide) (fun c_486 => ?_) (fun c_486 => absurd (by rw [ht.2.2.1] <;> rfl) c_486)
    refine lv_iload hx hb dL_tick_491 (lv_at hl 5 rfl) ?_
    refine lv_if_eq (tgt := 554) hx hb dL_tick_493 (by decide) (fun _ => ?_) (fun h9 => absurd (by decide) h9)
    refine lv_iload_n hx hb dL_tick_554 rfl (lv_at hl 18 rfl) ?_
    refine lv_if_eq (tgt := 599) hx hb dL_tick_555 (by decide) (fun c_555 => absurd c_555 hbz) (fun c_555 => ?_)
    refine lv_aload_n hx hb dL_tick_558 rfl (lv_at hl 17 rfl) ?_
    refine lv_iconst (v := 0) hx hb dL_tick_559 (by decide) ?_
    refine lr_i (rL (rest := []) ⟨hx, hb, hml, hown, hts⟩ (LB_thing l G cA A o (u, v, (goF u v f g b0), (goG u v f g b0), (goL u v g L b0)) (recN n) K ch 0 hP2) (cwV 1 hts gL_tick_X8_thing rfl rfl rfl mdX8_thing ⟨Nat.le_of_ble_eq_true rfl, Nat.le_of_ble_eq_true rfl⟩) hA hL rfl hl rfl (Nat.le_of_ble_eq_true rfl) dL_tick_560 ⟨Nat.le_of_ble_eq_true rfl, Nat.le_of_ble_eq_true rfl⟩) hA hL (fun r_560 H locs hr_560 hA hL => ?_)
    replace hr_560 : r_560 = g 7 + 1 := hr_560.trans ((th_0 h5).trans e7t)
    subst hr_560
    refine lv_iload hx hb dL_tick_563 (lv_at hl 11 rfl) ?_
    refine lv_if_ge (tgt := 572) hx hb dL_tick_565 (by decide) (fun c_565 => ?_) (fun c_565 => absurd c_48 c_565)
    refine lv_iload hx hb dL_tick_572 (lv_at hl 11 rfl) ?_
    refine lv_iconst (v := 1) hx hb dL_tick_574 (by decide) ?_
    refine lv_iadd hx hb dL_tick_575 ?_
    refine lv_icmp_ne (tgt := 603) hx hb dL_tick_576 (by decide) (fun c_576 => absurd rfl c_576) (fun c_576 => ?_)
    refine lv_aload_n hx hb dL_tick_579 rfl (lv_at hl 17 rfl) ?_
    refine lv_bipush (v := 6) hx hb dL_tick_580 (by decide) ?_
    refine lr_i (rL (rest := []) ⟨hx, hb, hml, hown, hts⟩ (LB_thing l G cA A o (u, v, (goF u v f g b0), (goG u v f g b0), (goL u v g L b0)) (recN n) K ch 6 hP2) (cwV 1 hts gL_tick_X8_thing rfl rfl rfl mdX8_thing ⟨Nat.le_of_ble_eq_true rfl, Nat.le_of_ble_eq_true rfl⟩) hA hL rfl hl rfl (Nat.le_of_ble_eq_true rfl) dL_tick_582 ⟨Nat.le_of_ble_eq_true rfl, Nat.le_of_ble_eq_true rfl⟩) hA hL (fun r_582 H locs hr_582 hA hL => ?_)
    replace hr_582 : r_582 = oneF ((goG u v f g b0) 12) := hr_582.trans (th_6 h5)
    subst hr_582
    refine lv_iload hx hb dL_tick_585 (lv_at hl 1 rfl) ?_
    refine lv_if_eq (tgt := 594) hx hb dL_tick_587 (by decide) (fun _ => ?_) (fun h9 => absurd (by decide) h9)
    refine lv_iload hx hb dL_tick_594 (lv_at hl 9 rfl) ?_
    refine lv_icmp_ne (tgt := 603) hx hb dL_tick_596 (by decide) (fun c_596 => absurd (by rw [ht12] <;> rfl) c_596) (fun c_596 => ?_)
    refine lv_iconst (v := 1) hx hb dL_tick_599 (by decide) ?_
    refine lv_goto (tgt := 604) hx hb dL_tick_600 (by decide) ?_
    exact en_l (post := fun r (_ : Unit) => r = 1) (B := fun _ H => LB G cA A o (u, v, (goF u v f g b0), (goG u v f g b0), (goL u v g L b0)) (recN n) K ch H) () hx hb hr hlocks hA rfl hL dL_tick_604
  · skip
    refine lv_iconst (v := 2) hx hb dL_tick_201 (by decide) ?_
    refine lv_goto (tgt := 206) hx hb dL_tick_202 (by decide) ?_
    refine lv_istore (lv' := [(15, .int 2), (16, .float (FP.fadd (f 7) (u 0))), (4, .int (preG u v g b0 16)), (14, .int 0), (13, .int (cnF g (nI n) (nI K) ((bestK u g) + 1))), (12, .float ((goF u v f g b0) 7)), (11, .int (bestK u g)), (10, .int (oneF (g 12))), (9, .int (g 11)), (8, .int (g 7)), (7, .int (oneF (g 17))), (6, .int 0), (5, .int 0), (3, .float (f 7)), (2, .int 1), (0, .ref o), (1, .int b0)]) hx hb dL_tick_206 hl (by decide) rfl (fun ls hl => ?_)
    refine lv_fload hx hb dL_tick_208 (lv_at hl 1 rfl) ?_
    refine lv_ldcf hx hb hown (hts (.constantFloat RL 32 (1120403456)) (by decide +kernel)) dL_tick_210 ?_
    refine lv_fcmp hx hb dL_tick_212 ?_
    refine lv_if_lt (tgt := 221) hx hb dL_tick_213 (by decide) (fun c_213_1 => absurd c_213_1 c_198) (fun c_213_1 => ?_)
    refine lv_ldcf hx hb hown (hts (.constantFloat RL 32 (1120403456)) (by decide +kernel)) dL_tick_216 ?_
    refine lv_goto (tgt := 223) hx hb dL_tick_218 (by decide) ?_
    refine lv_fstore (lv' := [(16, .float 1120403456), (15, .int 2), (4, .int (preG u v g b0 16)), (14, .int 0), (13, .int (cnF g (nI n) (nI K) ((bestK u g) + 1))), (12, .float ((goF u v f g b0) 7)), (11, .int (bestK u g)), (10, .int (oneF (g 12))), (9, .int (g 11)), (8, .int (g 7)), (7, .int (oneF (g 17))), (6, .int 0), (5, .int 0), (3, .float (f 7)), (2, .int 1), (0, .ref o), (1, .int b0)]) hx hb dL_tick_223 hl (by decide) rfl (fun ls hl => ?_)
    refine lv_goto (tgt := 385) hx hb dL_tick_225 (by decide) ?_
    refine lv_iload_n hx hb dL_tick_385 rfl (lv_at hl 14 rfl) ?_
    refine lv_iconst (v := 3) hx hb dL_tick_386 (by decide) ?_
    refine lv_icmp_ne (tgt := 400) hx hb dL_tick_387 (by decide) (fun _ => ?_) (fun h9 => absurd h9 (by decide))
    refine lv_iconst (v := 0) hx hb dL_tick_400 (by decide) ?_
    refine lv_istore (lv' := [(17, .int 0), (16, .float 1120403456), (15, .int 2), (4, .int (preG u v g b0 16)), (14, .int 0), (13, .int (cnF g (nI n) (nI K) ((bestK u g) + 1))), (12, .float ((goF u v f g b0) 7)), (11, .int (bestK u g)), (10, .int (oneF (g 12))), (9, .int (g 11)), (8, .int (g 7)), (7, .int (oneF (g 17))), (6, .int 0), (5, .int 0), (3, .float (f 7)), (2, .int 1), (0, .ref o), (1, .int b0)]) hx hb dL_tick_401 hl (by decide) rfl (fun ls hl => ?_)
    refine lv_iload hx hb dL_tick_403 (lv_at hl 0 rfl) ?_
    refine lv_if_eq (tgt := 428) hx hb dL_tick_405 (by decide) (fun _ => ?_) (fun h9 => absurd (by decide) h9)
    refine lv_iconst (v := 0) hx hb dL_tick_428 (by decide) ?_
    refine lv_istore (lv' := [(18, .int 0), (17, .int 0), (16, .float 1120403456), (15, .int 2), (4, .int (preG u v g b0 16)), (14, .int 0), (13, .int (cnF g (nI n) (nI K) ((bestK u g) + 1))), (12, .float ((goF u v f g b0) 7)), (11, .int (bestK u g)), (10, .int (oneF (g 12))), (9, .int (g 11)), (8, .int (g 7)), (7, .int (oneF (g 17))), (6, .int 0), (5, .int 0), (3, .float (f 7)), (2, .int 1), (0, .ref o), (1, .int b0)]) hx hb dL_tick_429 hl (by decide) rfl (fun ls hl => ?_)
    refine lv_aload_n hx hb dL_tick_431 rfl (lv_at hl 17 rfl) ?_
    refine lv_iload_n hx hb dL_tick_432 rfl (lv_at hl 18 rfl) ?_
    refine lv_iconst (v := 1) hx hb dL_tick_433 (by decide) ?_
    refine lw_i (rL (rest := []) ⟨hx, hb, hml, hown, hts⟩ (LB_pass_ok l G cA A o (u, v, f, g, L) n K ch hn b0 1 hb0 hb7 (by decide) (by decide) hT hG1 hBo) (cwV 2 hts gL_tick_X8_pass rfl rfl rfl mdX8_pass ⟨Nat.le_of_ble_eq_true rfl, Nat.le_of_ble_eq_true rfl⟩) hA hL rfl hl rfl (Nat.le_of_ble_eq_true rfl) dL_tick_434 ⟨Nat.le_of_ble_eq_true rfl, Nat.le_of_ble_eq_true rfl⟩) hA (fun r_434_1 _ H locs hr_434_1 hA hL => ?_)
    replace hL : LB G cA A o (u, v, (goF u v f g b0), (goG u v f g b0), (goL u v g L b0)) (recN n) K ch H := hL
    replace hr_434_1 : r_434_1 = (goG u v f g b0) 13 := hr_434_1
    subst hr_434_1
    refine lv_iload hx hb dL_tick_437 (lv_at hl 3 rfl) ?_
    refine lv_icmp_ne (tgt := 489) hx hb dL_tick_439 (by decide) (fun c_439_1 => absurd (ht.1.trans (if_neg c_198)) c_439_1) (fun c_439_1 => ?_)
    refine lv_aload_n hx hb dL_tick_442 rfl (lv_at hl 17 rfl) ?_
    refine lr_f (rL (rest := []) ⟨hx, hb, hml, hown, hts⟩ (LB_place l G cA A o (u, v, (goF u v f g b0), (goG u v f g b0), (goL u v g L b0)) (recN n) K ch  ) (cwV 0 hts gL_tick_X8_place rfl rfl rfl mdX8_place ⟨Nat.le_of_ble_eq_true rfl, Nat.le_of_ble_eq_true rfl⟩) hA hL rfl hl rfl (Nat.le_of_ble_eq_true rfl) dL_tick_443 ⟨Nat.le_of_ble_eq_true rfl, Nat.le_of_ble_eq_true rfl⟩) hA hL (fun r_443_1 H locs hr_443_1 hA hL => ?_)
    replace hr_443_1 : r_443_1 = (goF u v f g b0) 7 := hr_443_1
    subst hr_443_1
    refine lv_fload hx hb dL_tick_446 (lv_at hl 2 rfl) ?_
    refine lv_fcmp hx hb dL_tick_448 ?_
    refine lv_if_ne (tgt := 489) hx hb dL_tick_449 (by decide) (fun c_449_1 => absurd (by rw [(ht.2.2.2.trans (if_neg c_198))]; exact cmp_self (of_vf n32_100) _) c_449_1) (fun c_449_1 => ?_)
    refine lv_fload hx hb dL_tick_452 (lv_at hl 7 rfl) ?_
    refine lv_fload hx hb dL_tick_454 (lv_at hl 2 rfl) ?_
    refine lv_fcmp hx hb dL_tick_456 ?_
    refine lv_if_ne (tgt := 489) hx hb dL_tick_457 (by decide) (fun c_457_1 => absurd (by rw [(ht.2.2.2.trans (if_neg c_198))]; exact cmp_self (of_vf n32_100) _) c_457_1) (fun c_457_1 => ?_)
    refine lv_aload_n hx hb dL_tick_460 rfl (lv_at hl 17 rfl) ?_
    refine lv_iconst (v := 1) hx hb dL_tick_461 (by decide) ?_
    refine lr_i (rL (rest := []) ⟨hx, hb, hml, hown, hts⟩ (LB_door l G cA A o (u, v, (goF u v f g b0), (goG u v f g b0), (goL u v g L b0)) (recN n) K ch 1 ) (cwV 1 hts gL_tick_X8_door rfl rfl rfl mdX8_door ⟨Nat.le_of_ble_eq_true rfl, Nat.le_of_ble_eq_true rfl⟩) hA hL rfl hl rfl (Nat.le_of_ble_eq_true rfl) dL_tick_462 ⟨Nat.le_of_ble_eq_true rfl, Nat.le_of_ble_eq_true rfl⟩) hA hL (fun r_462_1 H locs hr_462_1 hA hL => ?_)
    replace hr_462_1 : r_462_1 = (goG u v f g b0) 16 := hr_462_1
    subst hr_462_1
    refine lv_iload hx hb dL_tick_465 (lv_at hl 4 rfl) ?_
    refine lv_icmp_ne (tgt := 489) hx hb dL_tick_467 (by decide) (fun c_467_1 => absurd ht.2.1 c_467_1) (fun c_467_1 => ?_)
    refine lv_aload_n hx hb dL_tick_470 rfl (lv_at hl 17 rfl) ?_
    refine lv_iconst (v := 2) hx hb dL_tick_471 (by decide) ?_
    refine lr_i (rL (rest := []) ⟨hx, hb, hml, hown, hts⟩ (LB_door l G cA A o (u, v, (goF u v f g b0), (goG u v f g b0), (goL u v g L b0)) (recN n) K ch 2 ) (cwV 1 hts gL_tick_X8_door rfl rfl rfl mdX8_door ⟨Nat.le_of_ble_eq_true rfl, Nat.le_of_ble_eq_true rfl⟩) hA hL rfl hl rfl (Nat.le_of_ble_eq_true rfl) dL_tick_472 ⟨Nat.le_of_ble_eq_true rfl, Nat.le_of_ble_eq_true rfl⟩) hA hL (fun r_472_1 H locs hr_472_1 hA hL => ?_)
    replace hr_472_1 : r_472_1 = oneF ((goG u v f g b0) 17) := hr_472_1
    subst hr_472_1
    refine lv_iload hx hb dL_tick_475 (lv_at hl 0 rfl) ?_
    refine lv_if_eq (tgt := 484) hx hb dL_tick_477 (by decide) (fun _ => ?_) (fun h9 => absurd (by decide) h9)
    refine lv_iload hx hb dL_tick_484 (lv_at hl 12 rfl) ?_
    refine lv_icmp_eq (tgt := 491) hx hb dL_tick_486 (by decide) (fun c_486_1 => ?_) (fun c_486_1 => absurd (by rw [ht.2.2.1] <;> rfl) c_486_1)
    refine lv_iload hx hb dL_tick_491 (lv_at hl 5 rfl) ?_
    refine lv_if_eq (tgt := 554) hx hb dL_tick_493 (by decide) (fun _ => ?_) (fun h9 => absurd (by decide) h9)
    refine lv_iload_n hx hb dL_tick_554 rfl (lv_at hl 18 rfl) ?_
    refine lv_if_eq (tgt := 599) hx hb dL_tick_555 (by decide) (fun c_555_1 => absurd c_555_1 hbz) (fun c_555_1 => ?_)
    refine lv_aload_n hx hb dL_tick_558 rfl (lv_at hl 17 rfl) ?_
    refine lv_iconst (v := 0) hx hb dL_tick_559 (by decide) ?_
    refine lr_i (rL (rest := []) ⟨hx, hb, hml, hown, hts⟩ (LB_thing l G cA A o (u, v, (goF u v f g b0), (goG u v f g b0), (goL u v g L b0)) (recN n) K ch 0 hP2) (cwV 1 hts gL_tick_X8_thing rfl rfl rfl mdX8_thing ⟨Nat.le_of_ble_eq_true rfl, Nat.le_of_ble_eq_true rfl⟩) hA hL rfl hl rfl (Nat.le_of_ble_eq_true rfl) dL_tick_560 ⟨Nat.le_of_ble_eq_true rfl, Nat.le_of_ble_eq_true rfl⟩) hA hL (fun r_560_1 H locs hr_560_1 hA hL => ?_)
    replace hr_560_1 : r_560_1 = g 7 + 1 := hr_560_1.trans ((th_0 h5).trans e7t)
    subst hr_560_1
    refine lv_iload hx hb dL_tick_563 (lv_at hl 11 rfl) ?_
    refine lv_if_ge (tgt := 572) hx hb dL_tick_565 (by decide) (fun c_565_1 => ?_) (fun c_565_1 => absurd c_48 c_565_1)
    refine lv_iload hx hb dL_tick_572 (lv_at hl 11 rfl) ?_
    refine lv_iconst (v := 1) hx hb dL_tick_574 (by decide) ?_
    refine lv_iadd hx hb dL_tick_575 ?_
    refine lv_icmp_ne (tgt := 603) hx hb dL_tick_576 (by decide) (fun c_576_1 => absurd rfl c_576_1) (fun c_576_1 => ?_)
    refine lv_aload_n hx hb dL_tick_579 rfl (lv_at hl 17 rfl) ?_
    refine lv_bipush (v := 6) hx hb dL_tick_580 (by decide) ?_
    refine lr_i (rL (rest := []) ⟨hx, hb, hml, hown, hts⟩ (LB_thing l G cA A o (u, v, (goF u v f g b0), (goG u v f g b0), (goL u v g L b0)) (recN n) K ch 6 hP2) (cwV 1 hts gL_tick_X8_thing rfl rfl rfl mdX8_thing ⟨Nat.le_of_ble_eq_true rfl, Nat.le_of_ble_eq_true rfl⟩) hA hL rfl hl rfl (Nat.le_of_ble_eq_true rfl) dL_tick_582 ⟨Nat.le_of_ble_eq_true rfl, Nat.le_of_ble_eq_true rfl⟩) hA hL (fun r_582_1 H locs hr_582_1 hA hL => ?_)
    replace hr_582_1 : r_582_1 = oneF ((goG u v f g b0) 12) := hr_582_1.trans (th_6 h5)
    subst hr_582_1
    refine lv_iload hx hb dL_tick_585 (lv_at hl 1 rfl) ?_
    refine lv_if_eq (tgt := 594) hx hb dL_tick_587 (by decide) (fun _ => ?_) (fun h9 => absurd (by decide) h9)
    refine lv_iload hx hb dL_tick_594 (lv_at hl 9 rfl) ?_
    refine lv_icmp_ne (tgt := 603) hx hb dL_tick_596 (by decide) (fun c_596_1 => absurd (by rw [ht12] <;> rfl) c_596_1) (fun c_596_1 => ?_)
    refine lv_iconst (v := 1) hx hb dL_tick_599 (by decide) ?_
    refine lv_goto (tgt := 604) hx hb dL_tick_600 (by decide) ?_
    exact en_l (post := fun r (_ : Unit) => r = 1) (B := fun _ H => LB G cA A o (u, v, (goF u v f g b0), (goG u v f g b0), (goL u v g L b0)) (recN n) K ch H) () hx hb hr hlocks hA rfl hL dL_tick_604
set_option maxHeartbeats 8000000 in
set_option maxRecDepth 100000 in
/-- tick(o, beams), in the state 2, case tb -/
theorem cL_tick_2_tb (l : Launch) (G : va_G) (cA : Nat → ClassId) (A : Nat → Prop) (o : Nat) (u : FF) (v : GG) (f : FF) (g L : GG) (n K : Nat) (ch : GG) (b0 : Int32) (hb0 : ¬ b0 < 0) (hb7 : ¬ 7 < b0) (hbz : ¬ b0 = 0) (hs : g 13 = 2) (hn : n ≤ 4) (hGo : GoOk u f g) (hPr : PrOk u g) (hP2 : PrOk u (goG u v f g b0)) (hT : ¬ 99999 < g 27 + nI 1) (hBo : Bo g) (hf : vf_n32 (f 7)) (hg : ¬ g 5 = 0) (h7 : ¬ g 7 < 1) : Met l yL_tick wsL_tick ({ frames := 7, cells := 0, slots := 0, locals := 160 } : Room) (va_Pc [.ref o, .int b0] (LbP G cA A o (u, v, f, g, L) n K ch)) (va_Qi (fun r (_ : Unit) => r = 1) (fun _ t => LB G cA A o (u, v, (goF u v f g b0), (goG u v f g b0), (goL u v g L b0)) (recN n) K ch t.heap) A) 0 0 A := by
  refine ofW2 (cc := cL_tick) (maxL := 19) (ret := (some .boolean)) (own := RL) (by decide) rfl rfl (Nat.le_of_ble_eq_true rfl) rfl ?_
  intro p e s m below meth c ls hx hb hml hr hts hown hlocks hv hl
  obtain ⟨hE, hN, hL⟩ := hv
  have hA : At G cA A s s.heap [] := ⟨hE, hN, va_S.rf⟩
  obtain ⟨H, hH0⟩ : ∃ H, H = s.heap := ⟨_, rfl⟩
  rw [← hH0] at hL ⊢
  replace hA : At G cA A s H [] := by rw [hH0]; exact hA
  generalize ([] : List Loc) = locs at hA ⊢
  clear hH0
  replace hl : lv_has ls 19 [(0, .ref o), (1, .int b0)] := hl
  have hG1 : ∀ k, k < 1 → GoOk u (itS u v b0 (f, g, L) k).1 (itS u v b0 (f, g, L) k).2.1 := fun k hk => (show k = 0 by omega) ▸ hGo
  have ht := t_2b hs hbz (u := u) (v := v) (f := f)
  have hp16 : preG u v g b0 16 = g 16 := pre_16b hbz
  have hk5 : (preG u v g b0) 5 = g 5 := by rw [pre_b hbz]; exact (show (if g 5 = 0 then 1 else g 5) = g 5 by rw [if_neg hg])
  have hk7 : (preG u v g b0) 7 = g 7 + 1 := by rw [pre_b hbz]; show (if g 5 = 0 then 0 else g 7) + 1 = _; rw [if_neg hg]
  have hk12 : (preG u v g b0) 12 = g 12 := by rw [pre_b hbz]; show (if g 5 = 0 then 0 else g 12) = _; rw [if_neg hg]
  have h5e : (goG u v f g b0) 5 = (preG u v g b0) 5 := mv_5
  have e7e : (goG u v f g b0) 7 = (preG u v g b0) 7 := mv_7
  have ht12 : (goG u v f g b0) 12 = g 12 := (go_G (by decide)).trans (by rw [(mv_2 (pre_13.trans hs)).1]; exact hk12)
  have h5 : ¬ (goG u v f g b0) 5 = 0 := by rw [h5e, hk5]; exact hg
  have e7t := e7e.trans hk7
  refine lv_aload_n hx hb dL_tick_0 rfl (lv_at hl 0 rfl) ?_
  refine lv_iconst (v := 0) hx hb dL_tick_1 (by decide) ?_
  refine lr_i (rL (rest := []) ⟨hx, hb, hml, hown, hts⟩ (LB_door l G cA A o (u, v, f, g, L) n K ch 0 ) (cwV 1 hts gL_tick_X8_door rfl rfl rfl mdX8_door ⟨Nat.le_of_ble_eq_true rfl, Nat.le_of_ble_eq_true rfl⟩) hA hL rfl hl rfl (Nat.le_of_ble_eq_true rfl) dL_tick_2 ⟨Nat.le_of_ble_eq_true rfl, Nat.le_of_ble_eq_true rfl⟩) hA hL (fun r_2 H locs hr_2 hA hL => ?_)
  replace hr_2 : r_2 = 2 := hr_2.trans hs
  subst hr_2
  refine lv_istore_n (lv' := [(2, .int 2), (0, .ref o), (1, .int b0)]) hx hb dL_tick_5 rfl hl (by decide) rfl (fun ls hl => ?_)
  refine lv_aload_n hx hb dL_tick_6 rfl (lv_at hl 1 rfl) ?_
  refine lr_f (rL (rest := []) ⟨hx, hb, hml, hown, hts⟩ (LB_place l G cA A o (u, v, f, g, L) n K ch  ) (cwV 0 hts gL_tick_X8_place rfl rfl rfl mdX8_place ⟨Nat.le_of_ble_eq_true rfl, Nat.le_of_ble_eq_true rfl⟩) hA hL rfl hl rfl (Nat.le_of_ble_eq_true rfl) dL_tick_7 ⟨Nat.le_of_ble_eq_true rfl, Nat.le_of_ble_eq_true rfl⟩) hA hL (fun r_7 H locs hr_7 hA hL => ?_)
  replace hr_7 : r_7 = f 7 := hr_7
  subst hr_7
  refine lv_fstore_n (lv' := [(3, .float (f 7)), (2, .int 2), (0, .ref o), (1, .int b0)]) hx hb dL_tick_10 rfl hl (by decide) rfl (fun ls hl => ?_)
  refine lv_aload_n hx hb dL_tick_11 rfl (lv_at hl 2 rfl) ?_
  refine lv_iconst (v := 1) hx hb dL_tick_12 (by decide) ?_
  refine lr_i (rL (rest := []) ⟨hx, hb, hml, hown, hts⟩ (LB_door l G cA A o (u, v, f, g, L) n K ch 1 ) (cwV 1 hts gL_tick_X8_door rfl rfl rfl mdX8_door ⟨Nat.le_of_ble_eq_true rfl, Nat.le_of_ble_eq_true rfl⟩) hA hL rfl hl rfl (Nat.le_of_ble_eq_true rfl) dL_tick_13 ⟨Nat.le_of_ble_eq_true rfl, Nat.le_of_ble_eq_true rfl⟩) hA hL (fun r_13 H locs hr_13 hA hL => ?_)
  replace hr_13 : r_13 = g 16 := hr_13
  subst hr_13
  refine lv_istore (lv' := [(4, .int (g 16)), (3, .float (f 7)), (2, .int 2), (0, .ref o), (1, .int b0)]) hx hb dL_tick_16 hl (by decide) rfl (fun ls hl => ?_)
  refine lv_aload_n hx hb dL_tick_18 rfl (lv_at hl 3 rfl) ?_
  refine lv_iconst (v := 3) hx hb dL_tick_19 (by decide) ?_
  refine lr_i (rL (rest := []) ⟨hx, hb, hml, hown, hts⟩ (LB_door l G cA A o (u, v, f, g, L) n K ch 3 ) (cwV 1 hts gL_tick_X8_door rfl rfl rfl mdX8_door ⟨Nat.le_of_ble_eq_true rfl, Nat.le_of_ble_eq_true rfl⟩) hA hL rfl hl rfl (Nat.le_of_ble_eq_true rfl) dL_tick_20 ⟨Nat.le_of_ble_eq_true rfl, Nat.le_of_ble_eq_true rfl⟩) hA hL (fun r_20 H locs hr_20 hA hL => ?_)
  rw [show doF f g 3 = g 14 from (by show (if g 13 = 2 then g 14 else 0) = g 14; rw [if_pos hs])] at hr_20
  subst hr_20
  refine lv_istore (lv' := [(5, .int (g 14)), (4, .int (g 16)), (3, .float (f 7)), (2, .int 2), (0, .ref o), (1, .int b0)]) hx hb dL_tick_23 hl (by decide) rfl (fun ls hl => ?_)
  refine lv_aload_n hx hb dL_tick_25 rfl (lv_at hl 4 rfl) ?_
  refine lv_iconst (v := 4) hx hb dL_tick_26 (by decide) ?_
  refine lr_i (rL (rest := []) ⟨hx, hb, hml, hown, hts⟩ (LB_door l G cA A o (u, v, f, g, L) n K ch 4 ) (cwV 1 hts gL_tick_X8_door rfl rfl rfl mdX8_door ⟨Nat.le_of_ble_eq_true rfl, Nat.le_of_ble_eq_true rfl⟩) hA hL rfl hl rfl (Nat.le_of_ble_eq_true rfl) dL_tick_27 ⟨Nat.le_of_ble_eq_true rfl, Nat.le_of_ble_eq_true rfl⟩) hA hL (fun r_27 H locs hr_27 hA hL => ?_)
  rw [show doF f g 4 = 0 from (by show (if g 13 = 3 then g 15 else 0) = 0; rw [if_neg (by rw [hs]; decide)])] at hr_27
  subst hr_27
  refine lv_istore (lv' := [(6, .int 0), (5, .int (g 14)), (4, .int (g 16)), (3, .float (f 7)), (2, .int 2), (0, .ref o), (1, .int b0)]) hx hb dL_tick_30 hl (by decide) rfl (fun ls hl => ?_)
  refine lv_aload_n hx hb dL_tick_32 rfl (lv_at hl 5 rfl) ?_
  refine lv_iconst (v := 2) hx hb dL_tick_33 (by decide) ?_
  refine lr_i (rL (rest := []) ⟨hx, hb, hml, hown, hts⟩ (LB_door l G cA A o (u, v, f, g, L) n K ch 2 ) (cwV 1 hts gL_tick_X8_door rfl rfl rfl mdX8_door ⟨Nat.le_of_ble_eq_true rfl, Nat.le_of_ble_eq_true rfl⟩) hA hL rfl hl rfl (Nat.le_of_ble_eq_true rfl) dL_tick_34 ⟨Nat.le_of_ble_eq_true rfl, Nat.le_of_ble_eq_true rfl⟩) hA hL (fun r_34 H locs hr_34 hA hL => ?_)
  replace hr_34 : r_34 = oneF (g 17) := hr_34
  subst hr_34
  refine lv_istore (lv' := [(7, .int (oneF (g 17))), (6, .int 0), (5, .int (g 14)), (4, .int (g 16)), (3, .float (f 7)), (2, .int 2), (0, .ref o), (1, .int b0)]) hx hb dL_tick_37 hl (by decide) rfl (fun ls hl => ?_)
  refine lv_aload_n hx hb dL_tick_39 rfl (lv_at hl 6 rfl) ?_
  refine lv_iconst (v := 0) hx hb dL_tick_40 (by decide) ?_
  refine lr_i (rL (rest := []) ⟨hx, hb, hml, hown, hts⟩ (LB_thing l G cA A o (u, v, f, g, L) n K ch 0 hPr) (cwV 1 hts gL_tick_X8_thing rfl rfl rfl mdX8_thing ⟨Nat.le_of_ble_eq_true rfl, Nat.le_of_ble_eq_true rfl⟩) hA hL rfl hl rfl (Nat.le_of_ble_eq_true rfl) dL_tick_41 ⟨Nat.le_of_ble_eq_true rfl, Nat.le_of_ble_eq_true rfl⟩) hA hL (fun r_41 H locs hr_41 hA hL => ?_)
  replace hr_41 : r_41 = g 7 := hr_41.trans (th_0 hg)
  subst hr_41
  refine lv_istore (lv' := [(8, .int (g 7)), (7, .int (oneF (g 17))), (6, .int 0), (5, .int (g 14)), (4, .int (g 16)), (3, .float (f 7)), (2, .int 2), (0, .ref o), (1, .int b0)]) hx hb dL_tick_44 hl (by decide) rfl (fun ls hl => ?_)
  refine lv_iload hx hb dL_tick_46 (lv_at hl 0 rfl) ?_
  refine lv_if_ge (tgt := 55) hx hb dL_tick_48 (by decide) (fun c_48 => ?_) (fun c_48 => absurd (show g 7 < 1 by have := Int32.not_le.mp c_48; exact Int32.lt_trans this (by decide)) h7)
  refine lv_aload_n hx hb dL_tick_55 rfl (lv_at hl 7 rfl) ?_
  refine lv_iconst (v := 5) hx hb dL_tick_56 (by decide) ?_
  refine lr_i (rL (rest := []) ⟨hx, hb, hml, hown, hts⟩ (LB_thing l G cA A o (u, v, f, g, L) n K ch 5 hPr) (cwV 1 hts gL_tick_X8_thing rfl rfl rfl mdX8_thing ⟨Nat.le_of_ble_eq_true rfl, Nat.le_of_ble_eq_true rfl⟩) hA hL rfl hl rfl (Nat.le_of_ble_eq_true rfl) dL_tick_57 ⟨Nat.le_of_ble_eq_true rfl, Nat.le_of_ble_eq_true rfl⟩) hA hL (fun r_57 H locs hr_57 hA hL => ?_)
  replace hr_57 : r_57 = g 11 := hr_57.trans (th_5 hg)
  subst hr_57
  refine lv_istore (lv' := [(9, .int (g 11)), (8, .int (g 7)), (7, .int (oneF (g 17))), (6, .int 0), (5, .int (g 14)), (4, .int (g 16)), (3, .float (f 7)), (2, .int 2), (0, .ref o), (1, .int b0)]) hx hb dL_tick_60 hl (by decide) rfl (fun ls hl => ?_)
  refine lv_iload hx hb dL_tick_62 (lv_at hl 1 rfl) ?_
  refine lv_if_ge (tgt := 71) hx hb dL_tick_64 (by decide) (fun c_64 => ?_) (fun c_64 => absurd c_48 c_64)
  refine lv_aload_n hx hb dL_tick_71 rfl (lv_at hl 8 rfl) ?_
  refine lv_bipush (v := 6) hx hb dL_tick_72 (by decide) ?_
  refine lr_i (rL (rest := []) ⟨hx, hb, hml, hown, hts⟩ (LB_thing l G cA A o (u, v, f, g, L) n K ch 6 hPr) (cwV 1 hts gL_tick_X8_thing rfl rfl rfl mdX8_thing ⟨Nat.le_of_ble_eq_true rfl, Nat.le_of_ble_eq_true rfl⟩) hA hL rfl hl rfl (Nat.le_of_ble_eq_true rfl) dL_tick_74 ⟨Nat.le_of_ble_eq_true rfl, Nat.le_of_ble_eq_true rfl⟩) hA hL (fun r_74 H locs hr_74 hA hL => ?_)
  replace hr_74 : r_74 = oneF (g 12) := hr_74.trans (th_6 hg)
  subst hr_74
  refine lv_istore (lv' := [(10, .int (oneF (g 12))), (9, .int (g 11)), (8, .int (g 7)), (7, .int (oneF (g 17))), (6, .int 0), (5, .int (g 14)), (4, .int (g 16)), (3, .float (f 7)), (2, .int 2), (0, .ref o), (1, .int b0)]) hx hb dL_tick_77 hl (by decide) rfl (fun ls hl => ?_)
  refine lv_iload hx hb dL_tick_79 (lv_at hl 2 rfl) ?_
  refine lv_if_ge (tgt := 88) hx hb dL_tick_81 (by decide) (fun c_81 => ?_) (fun c_81 => absurd c_48 c_81)
  refine lv_aload_n hx hb dL_tick_88 rfl (lv_at hl 9 rfl) ?_
  refine lv_bipush (v := 7) hx hb dL_tick_89 (by decide) ?_
  refine lr_i (rL (rest := []) ⟨hx, hb, hml, hown, hts⟩ (LB_thing l G cA A o (u, v, f, g, L) n K ch 7 hPr) (cwV 1 hts gL_tick_X8_thing rfl rfl rfl mdX8_thing ⟨Nat.le_of_ble_eq_true rfl, Nat.le_of_ble_eq_true rfl⟩) hA hL rfl hl rfl (Nat.le_of_ble_eq_true rfl) dL_tick_91 ⟨Nat.le_of_ble_eq_true rfl, Nat.le_of_ble_eq_true rfl⟩) hA hL (fun r_91 H locs hr_91 hA hL => ?_)
  replace hr_91 : r_91 = bestK u g := hr_91.trans (th_7 hg)
  subst hr_91
  refine lv_istore (lv' := [(11, .int (bestK u g)), (10, .int (oneF (g 12))), (9, .int (g 11)), (8, .int (g 7)), (7, .int (oneF (g 17))), (6, .int 0), (5, .int (g 14)), (4, .int (g 16)), (3, .float (f 7)), (2, .int 2), (0, .ref o), (1, .int b0)]) hx hb dL_tick_94 hl (by decide) rfl (fun ls hl => ?_)
  refine lv_aload_n hx hb dL_tick_96 rfl (lv_at hl 10 rfl) ?_
  refine lv_iload_n hx hb dL_tick_97 rfl (lv_at hl 11 rfl) ?_
  refine lv_iconst (v := 1) hx hb dL_tick_98 (by decide) ?_
  refine lw_f (rL (rest := []) ⟨hx, hb, hml, hown, hts⟩ (LB_placeIn_ok l G cA A o (u, v, f, g, L) n K ch b0 1 hb0 hb7 (by decide) hG1) (cwV 2 hts gL_tick_X8_placeIn rfl rfl rfl mdX8_placeIn ⟨Nat.le_of_ble_eq_true rfl, Nat.le_of_ble_eq_true rfl⟩) hA hL rfl hl rfl (Nat.le_of_ble_eq_true rfl) dL_tick_99 ⟨Nat.le_of_ble_eq_true rfl, Nat.le_of_ble_eq_true rfl⟩) hA (fun r_99 _ H locs hr_99 hA hL => ?_)
  replace hL : LB G cA A o (u, v, f, g, L) n K ch H := hL
  replace hr_99 : r_99 = (goF u v f g b0) 7 := hr_99
  subst hr_99
  refine lv_fstore (lv' := [(12, .float ((goF u v f g b0) 7)), (11, .int (bestK u g)), (10, .int (oneF (g 12))), (9, .int (g 11)), (8, .int (g 7)), (7, .int (oneF (g 17))), (6, .int 0), (5, .int (g 14)), (4, .int (g 16)), (3, .float (f 7)), (2, .int 2), (0, .ref o), (1, .int b0)]) hx hb dL_tick_102 hl (by decide) rfl (fun ls hl => ?_)
  refine lv_aload_n hx hb dL_tick_104 rfl (lv_at hl 11 rfl) ?_
  refine lv_iload hx hb dL_tick_105 (lv_at hl 1 rfl) ?_
  refine lv_iconst (v := 1) hx hb dL_tick_107 (by decide) ?_
  refine lv_iadd hx hb dL_tick_108 ?_
  refine lr_i (rL (rest := []) ⟨hx, hb, hml, hown, hts⟩ (LB_count l G cA A o (u, v, f, g, L) n K ch ((bestK u g) + 1)) (cwV 1 hts gL_tick_X8_count rfl rfl rfl mdX8_count ⟨Nat.le_of_ble_eq_true rfl, Nat.le_of_ble_eq_true rfl⟩) hA hL rfl hl rfl (Nat.le_of_ble_eq_true rfl) dL_tick_109 ⟨Nat.le_of_ble_eq_true rfl, Nat.le_of_ble_eq_true rfl⟩) hA hL (fun r_109 H locs hr_109 hA hL => ?_)
  replace hr_109 : r_109 = cnF g (nI n) (nI K) ((bestK u g) + 1) := hr_109
  subst hr_109
  refine lv_istore (lv' := [(13, .int (cnF g (nI n) (nI K) ((bestK u g) + 1))), (12, .float ((goF u v f g b0) 7)), (11, .int (bestK u g)), (10, .int (oneF (g 12))), (9, .int (g 11)), (8, .int (g 7)), (7, .int (oneF (g 17))), (6, .int 0), (5, .int (g 14)), (4, .int (g 16)), (3, .float (f 7)), (2, .int 2), (0, .ref o), (1, .int b0)]) hx hb dL_tick_112 hl (by decide) rfl (fun ls hl => ?_)
  refine lv_iload hx hb dL_tick_114 (lv_at hl 5 rfl) ?_
  refine lv_if_le (tgt := 139) hx hb dL_tick_116 (by decide) (fun c_116 => absurd (Int32.lt_of_lt_of_le (by decide) (Int32.not_lt.mp h7)) (Int32.not_lt.mpr c_116)) (fun c_116 => ?_)
  refine lv_iload_n hx hb dL_tick_119 rfl (lv_at hl 13 rfl) ?_
  refine lv_if_ne (tgt := 139) hx hb dL_tick_120 (by decide) (fun c_120 => ?_) (fun c_120 => absurd c_120 hbz)
  refine lv_iconst (v := 0) hx hb dL_tick_139 (by decide) ?_
  refine lv_istore (lv' := [(14, .int 0), (13, .int (cnF g (nI n) (nI K) ((bestK u g) + 1))), (12, .float ((goF u v f g b0) 7)), (11, .int (bestK u g)), (10, .int (oneF (g 12))), (9, .int (g 11)), (8, .int (g 7)), (7, .int (oneF (g 17))), (6, .int 0), (5, .int (g 14)), (4, .int (g 16)), (3, .float (f 7)), (2, .int 2), (0, .ref o), (1, .int b0)]) hx hb dL_tick_140 hl (by decide) rfl (fun ls hl => ?_)
  refine lv_iload hx hb dL_tick_142 (lv_at hl 10 rfl) ?_
  refine lv_iload hx hb dL_tick_144 (lv_at hl 0 rfl) ?_
  refine lv_if_eq (tgt := 169) hx hb dL_tick_146 (by decide) (fun _ => ?_) (fun h9 => absurd (by decide) h9)
  refine lv_iconst (v := 0) hx hb dL_tick_169 (by decide) ?_
  refine lv_isub hx hb dL_tick_170 ?_
  refine W.eq (g2 := F0 m 171 ls [.int (preG u v g b0 16)]) (by rw [hp16, Int32.sub_zero]) ?_
  refine lv_istore (lv' := [(4, .int (preG u v g b0 16)), (14, .int 0), (13, .int (cnF g (nI n) (nI K) ((bestK u g) + 1))), (12, .float ((goF u v f g b0) 7)), (11, .int (bestK u g)), (10, .int (oneF (g 12))), (9, .int (g 11)), (8, .int (g 7)), (7, .int (oneF (g 17))), (6, .int 0), (5, .int (g 14)), (3, .float (f 7)), (2, .int 2), (0, .ref o), (1, .int b0)]) hx hb dL_tick_171 hl (by decide) rfl (fun ls hl => ?_)
  refine lv_iload_n hx hb dL_tick_173 rfl (lv_at hl 12 rfl) ?_
  refine lv_istore (lv' := [(15, .int 2), (4, .int (preG u v g b0 16)), (14, .int 0), (13, .int (cnF g (nI n) (nI K) ((bestK u g) + 1))), (12, .float ((goF u v f g b0) 7)), (11, .int (bestK u g)), (10, .int (oneF (g 12))), (9, .int (g 11)), (8, .int (g 7)), (7, .int (oneF (g 17))), (6, .int 0), (5, .int (g 14)), (3, .float (f 7)), (2, .int 2), (0, .ref o), (1, .int b0)]) hx hb dL_tick_174 hl (by decide) rfl (fun ls hl => ?_)
  refine lv_fload_n hx hb dL_tick_176 rfl (lv_at hl 12 rfl) ?_
  refine lv_fstore (lv' := [(16, .float (f 7)), (15, .int 2), (4, .int (preG u v g b0 16)), (14, .int 0), (13, .int (cnF g (nI n) (nI K) ((bestK u g) + 1))), (12, .float ((goF u v f g b0) 7)), (11, .int (bestK u g)), (10, .int (oneF (g 12))), (9, .int (g 11)), (8, .int (g 7)), (7, .int (oneF (g 17))), (6, .int 0), (5, .int (g 14)), (3, .float (f 7)), (2, .int 2), (0, .ref o), (1, .int b0)]) hx hb dL_tick_177 hl (by decide) rfl (fun ls hl => ?_)
  refine lv_iload_n hx hb dL_tick_179 rfl (lv_at hl 14 rfl) ?_
  refine lv_iconst (v := 1) hx hb dL_tick_180 (by decide) ?_
  refine lv_icmp_ne (tgt := 228) hx hb dL_tick_181 (by decide) (fun _ => ?_) (fun h9 => absurd h9 (by decide))
  refine lv_iload_n hx hb dL_tick_228 rfl (lv_at hl 14 rfl) ?_
  refine lv_iconst (v := 2) hx hb dL_tick_229 (by decide) ?_
  refine lv_icmp_ne (tgt := 264) hx hb dL_tick_230 (by decide) (fun h9 => absurd (by decide) h9) (fun _ => ?_)
  refine lv_iload_n hx hb dL_tick_233 rfl (lv_at hl 16 rfl) ?_
  refine lv_if_ne (tgt := 258) hx hb dL_tick_234 (by decide) (fun c_234 => ?_) (fun c_234 => absurd c_234 hbz)
  refine lv_iconst (v := 2) hx hb dL_tick_258 (by decide) ?_
  refine lv_istore (lv' := [(15, .int 2), (16, .float (f 7)), (4, .int (preG u v g b0 16)), (14, .int 0), (13, .int (cnF g (nI n) (nI K) ((bestK u g) + 1))), (12, .float ((goF u v f g b0) 7)), (11, .int (bestK u g)), (10, .int (oneF (g 12))), (9, .int (g 11)), (8, .int (g 7)), (7, .int (oneF (g 17))), (6, .int 0), (5, .int (g 14)), (3, .float (f 7)), (2, .int 2), (0, .ref o), (1, .int b0)]) hx hb dL_tick_259 hl (by decide) rfl (fun ls hl => ?_)
  refine lv_goto (tgt := 385) hx hb dL_tick_261 (by decide) ?_
  refine lv_iload_n hx hb dL_tick_385 rfl (lv_at hl 14 rfl) ?_
  refine lv_iconst (v := 3) hx hb dL_tick_386 (by decide) ?_
  refine lv_icmp_ne (tgt := 400) hx hb dL_tick_387 (by decide) (fun _ => ?_) (fun h9 => absurd h9 (by decide))
  refine lv_iconst (v := 0) hx hb dL_tick_400 (by decide) ?_
  refine lv_istore (lv' := [(17, .int 0), (15, .int 2), (16, .float (f 7)), (4, .int (preG u v g b0 16)), (14, .int 0), (13, .int (cnF g (nI n) (nI K) ((bestK u g) + 1))), (12, .float ((goF u v f g b0) 7)), (11, .int (bestK u g)), (10, .int (oneF (g 12))), (9, .int (g 11)), (8, .int (g 7)), (7, .int (oneF (g 17))), (6, .int 0), (5, .int (g 14)), (3, .float (f 7)), (2, .int 2), (0, .ref o), (1, .int b0)]) hx hb dL_tick_401 hl (by decide) rfl (fun ls hl => ?_)
  refine lv_iload hx hb dL_tick_403 (lv_at hl 0 rfl) ?_
  refine lv_if_eq (tgt := 428) hx hb dL_tick_405 (by decide) (fun _ => ?_) (fun h9 => absurd (by decide) h9)
  refine lv_iconst (v := 0) hx hb dL_tick_428 (by decide) ?_
  refine lv_istore (lv' := [(18, .int 0), (17, .int 0), (15, .int 2), (16, .float (f 7)), (4, .int (preG u v g b0 16)), (14, .int 0), (13, .int (cnF g (nI n) (nI K) ((bestK u g) + 1))), (12, .float ((goF u v f g b0) 7)), (11, .int (bestK u g)), (10, .int (oneF (g 12))), (9, .int (g 11)), (8, .int (g 7)), (7, .int (oneF (g 17))), (6, .int 0), (5, .int (g 14)), (3, .float (f 7)), (2, .int 2), (0, .ref o), (1, .int b0)]) hx hb dL_tick_429 hl (by decide) rfl (fun ls hl => ?_)
  refine lv_aload_n hx hb dL_tick_431 rfl (lv_at hl 17 rfl) ?_
  refine lv_iload_n hx hb dL_tick_432 rfl (lv_at hl 18 rfl) ?_
  refine lv_iconst (v := 1) hx hb dL_tick_433 (by decide) ?_
  refine lw_i (rL (rest := []) ⟨hx, hb, hml, hown, hts⟩ (LB_pass_ok l G cA A o (u, v, f, g, L) n K ch hn b0 1 hb0 hb7 (by decide) (by decide) hT hG1 hBo) (cwV 2 hts gL_tick_X8_pass rfl rfl rfl mdX8_pass ⟨Nat.le_of_ble_eq_true rfl, Nat.le_of_ble_eq_true rfl⟩) hA hL rfl hl rfl (Nat.le_of_ble_eq_true rfl) dL_tick_434 ⟨Nat.le_of_ble_eq_true rfl, Nat.le_of_ble_eq_true rfl⟩) hA (fun r_434 _ H locs hr_434 hA hL => ?_)
  replace hL : LB G cA A o (u, v, (goF u v f g b0), (goG u v f g b0), (goL u v g L b0)) (recN n) K ch H := hL
  replace hr_434 : r_434 = (goG u v f g b0) 13 := hr_434
  subst hr_434
  refine lv_iload hx hb dL_tick_437 (lv_at hl 2 rfl) ?_
  refine lv_icmp_ne (tgt := 489) hx hb dL_tick_439 (by decide) (fun c_439 => absurd ht.1 c_439) (fun c_439 => ?_)
  refine lv_aload_n hx hb dL_tick_442 rfl (lv_at hl 17 rfl) ?_
  refine lr_f (rL (rest := []) ⟨hx, hb, hml, hown, hts⟩ (LB_place l G cA A o (u, v, (goF u v f g b0), (goG u v f g b0), (goL u v g L b0)) (recN n) K ch  ) (cwV 0 hts gL_tick_X8_place rfl rfl rfl mdX8_place ⟨Nat.le_of_ble_eq_true rfl, Nat.le_of_ble_eq_true rfl⟩) hA hL rfl hl rfl (Nat.le_of_ble_eq_true rfl) dL_tick_443 ⟨Nat.le_of_ble_eq_true rfl, Nat.le_of_ble_eq_true rfl⟩) hA hL (fun r_443 H locs hr_443 hA hL => ?_)
  replace hr_443 : r_443 = (goF u v f g b0) 7 := hr_443
  subst hr_443
  refine lv_fload hx hb dL_tick_446 (lv_at hl 3 rfl) ?_
  refine lv_fcmp hx hb dL_tick_448 ?_
  refine lv_if_ne (tgt := 489) hx hb dL_tick_449 (by decide) (fun c_449 => absurd (by rw [ht.2.2.2]; exact cmp_self (of_vf hf) _) c_449) (fun c_449 => ?_)
  refine lv_fload hx hb dL_tick_452 (lv_at hl 7 rfl) ?_
  refine lv_fload hx hb dL_tick_454 (lv_at hl 3 rfl) ?_
  refine lv_fcmp hx hb dL_tick_456 ?_
  refine lv_if_ne (tgt := 489) hx hb dL_tick_457 (by decide) (fun c_457 => absurd (by rw [ht.2.2.2]; exact cmp_self (of_vf hf) _) c_457) (fun c_457 => ?_)
  refine lv_aload_n hx hb dL_tick_460 rfl (lv_at hl 17 rfl) ?_
  refine lv_iconst (v := 1) hx hb dL_tick_461 (by decide) ?_
  refine lr_i (rL (rest := []) ⟨hx, hb, hml, hown, hts⟩ (LB_door l G cA A o (u, v, (goF u v f g b0), (goG u v f g b0), (goL u v g L b0)) (recN n) K ch 1 ) (cwV 1 hts gL_tick_X8_door rfl rfl rfl mdX8_door ⟨Nat.le_of_ble_eq_true rfl, Nat.le_of_ble_eq_true rfl⟩) hA hL rfl hl rfl (Nat.le_of_ble_eq_true rfl) dL_tick_462 ⟨Nat.le_of_ble_eq_true rfl, Nat.le_of_ble_eq_true rfl⟩) hA hL (fun r_462 H locs hr_462 hA hL => ?_)
  replace hr_462 : r_462 = (goG u v f g b0) 16 := hr_462
  subst hr_462
  refine lv_iload hx hb dL_tick_465 (lv_at hl 4 rfl) ?_
  refine lv_icmp_ne (tgt := 489) hx hb dL_tick_467 (by decide) (fun c_467 => absurd ht.2.1 c_467) (fun c_467 => ?_)
  refine lv_aload_n hx hb dL_tick_470 rfl (lv_at hl 17 rfl) ?_
  refine lv_iconst (v := 2) hx hb dL_tick_471 (by decide) ?_
  refine lr_i (rL (rest := []) ⟨hx, hb, hml, hown, hts⟩ (LB_door l G cA A o (u, v, (goF u v f g b0), (goG u v f g b0), (goL u v g L b0)) (recN n) K ch 2 ) (cwV 1 hts gL_tick_X8_door rfl rfl rfl mdX8_door ⟨Nat.le_of_ble_eq_true rfl, Nat.le_of_ble_eq_true rfl⟩) hA hL rfl hl rfl (Nat.le_of_ble_eq_true rfl) dL_tick_472 ⟨Nat.le_of_ble_eq_true rfl, Nat.le_of_ble_eq_true rfl⟩) hA hL (fun r_472 H locs hr_472 hA hL => ?_)
  replace hr_472 : r_472 = oneF ((goG u v f g b0) 17) := hr_472
  subst hr_472
  refine lv_iload hx hb dL_tick_475 (lv_at hl 0 rfl) ?_
  refine lv_if_eq (tgt := 484) hx hb dL_tick_477 (by decide) (fun _ => ?_) (fun h9 => absurd (by decide) h9)
  refine lv_iload hx hb dL_tick_484 (lv_at hl 12 rfl) ?_
  refine lv_icmp_eq (tgt := 491) hx hb dL_tick_486 (by decide) (fun c_486 => ?_) (fun c_486 => absurd (by rw [ht.2.2.1] <;> rfl) c_486)
  refine lv_iload hx hb dL_tick_491 (lv_at hl 5 rfl) ?_
  refine lv_if_eq (tgt := 554) hx hb dL_tick_493 (by decide) (fun _ => ?_) (fun h9 => absurd (by decide) h9)
  refine lv_iload_n hx hb dL_tick_554 rfl (lv_at hl 18 rfl) ?_
  refine lv_if_eq (tgt := 599) hx hb dL_tick_555 (by decide) (fun c_555 => absurd c_555 hbz) (fun c_555 => ?_)
  refine lv_aload_n hx hb dL_tick_558 rfl (lv_at hl 17 rfl) ?_
  refine lv_iconst (v := 0) hx hb dL_tick_559 (by decide) ?_
  refine lr_i (rL (rest := []) ⟨hx, hb, hml, hown, hts⟩ (LB_thing l G cA A o (u, v, (goF u v f g b0), (goG u v f g b0), (goL u v g L b0)) (recN n) K ch 0 hP2) (cwV 1 hts gL_tick_X8_thing rfl rfl rfl mdX8_thing ⟨Nat.le_of_ble_eq_true rfl, Nat.le_of_ble_eq_true rfl⟩) hA hL rfl hl rfl (Nat.le_of_ble_eq_true rfl) dL_tick_560 ⟨Nat.le_of_ble_eq_true rfl, Nat.le_of_ble_eq_true rfl⟩) hA hL (fun r_560 H locs hr_560 hA hL => ?_)
  replace hr_560 : r_560 = g 7 + 1 := hr_560.trans ((th_0 h5).trans e7t)
  subst hr_560
  refine lv_iload hx hb dL_tick_563 (lv_at hl 11 rfl) ?_
  refine lv_if_ge (tgt := 572) hx hb dL_tick_565 (by decide) (fun c_565 => ?_) (fun c_565 => absurd c_48 c_565)
  refine lv_iload hx hb dL_tick_572 (lv_at hl 11 rfl) ?_
  refine lv_iconst (v := 1) hx hb dL_tick_574 (by decide) ?_
  refine lv_iadd hx hb dL_tick_575 ?_
  refine lv_icmp_ne (tgt := 603) hx hb dL_tick_576 (by decide) (fun c_576 => absurd rfl c_576) (fun c_576 => ?_)
  refine lv_aload_n hx hb dL_tick_579 rfl (lv_at hl 17 rfl) ?_
  refine lv_bipush (v := 6) hx hb dL_tick_580 (by decide) ?_
  refine lr_i (rL (rest := []) ⟨hx, hb, hml, hown, hts⟩ (LB_thing l G cA A o (u, v, (goF u v f g b0), (goG u v f g b0), (goL u v g L b0)) (recN n) K ch 6 hP2) (cwV 1 hts gL_tick_X8_thing rfl rfl rfl mdX8_thing ⟨Nat.le_of_ble_eq_true rfl, Nat.le_of_ble_eq_true rfl⟩) hA hL rfl hl rfl (Nat.le_of_ble_eq_true rfl) dL_tick_582 ⟨Nat.le_of_ble_eq_true rfl, Nat.le_of_ble_eq_true rfl⟩) hA hL (fun r_582 H locs hr_582 hA hL => ?_)
  replace hr_582 : r_582 = oneF ((goG u v f g b0) 12) := hr_582.trans (th_6 h5)
  subst hr_582
  refine lv_iload hx hb dL_tick_585 (lv_at hl 1 rfl) ?_
  refine lv_if_eq (tgt := 594) hx hb dL_tick_587 (by decide) (fun _ => ?_) (fun h9 => absurd (by decide) h9)
  refine lv_iload hx hb dL_tick_594 (lv_at hl 9 rfl) ?_
  refine lv_icmp_ne (tgt := 603) hx hb dL_tick_596 (by decide) (fun c_596 => absurd (by rw [ht12] <;> rfl) c_596) (fun c_596 => ?_)
  refine lv_iconst (v := 1) hx hb dL_tick_599 (by decide) ?_
  refine lv_goto (tgt := 604) hx hb dL_tick_600 (by decide) ?_
  exact en_l (post := fun r (_ : Unit) => r = 1) (B := fun _ H => LB G cA A o (u, v, (goF u v f g b0), (goG u v f g b0), (goL u v g L b0)) (recN n) K ch H) () hx hb hr hlocks hA rfl hL dL_tick_604
set_option maxHeartbeats 8000000 in
set_option maxRecDepth 100000 in
/-- tick(o, beams), in the state 3, case tb -/
theorem cL_tick_3_tb (l : Launch) (G : va_G) (cA : Nat → ClassId) (A : Nat → Prop) (o : Nat) (u : FF) (v : GG) (f : FF) (g L : GG) (n K : Nat) (ch : GG) (b0 : Int32) (hb0 : ¬ b0 < 0) (hb7 : ¬ 7 < b0) (hbz : ¬ b0 = 0) (hs : g 13 = 3) (hn : n ≤ 4) (hGo : GoOk u f g) (hPr : PrOk u g) (hP2 : PrOk u (goG u v f g b0)) (hT : ¬ 99999 < g 27 + nI 1) (hBo : Bo g) (hf : vf_n32 (f 7)) (hg : ¬ g 5 = 0) (h7 : ¬ g 7 < 1) : Met l yL_tick wsL_tick ({ frames := 7, cells := 0, slots := 0, locals := 160 } : Room) (va_Pc [.ref o, .int b0] (LbP G cA A o (u, v, f, g, L) n K ch)) (va_Qi (fun r (_ : Unit) => r = 1) (fun _ t => LB G cA A o (u, v, (goF u v f g b0), (goG u v f g b0), (goL u v g L b0)) (recN n) K ch t.heap) A) 0 0 A := by
  refine ofW2 (cc := cL_tick) (maxL := 19) (ret := (some .boolean)) (own := RL) (by decide) rfl rfl (Nat.le_of_ble_eq_true rfl) rfl ?_
  intro p e s m below meth c ls hx hb hml hr hts hown hlocks hv hl
  obtain ⟨hE, hN, hL⟩ := hv
  have hA : At G cA A s s.heap [] := ⟨hE, hN, va_S.rf⟩
  obtain ⟨H, hH0⟩ : ∃ H, H = s.heap := ⟨_, rfl⟩
  rw [← hH0] at hL ⊢
  replace hA : At G cA A s H [] := by rw [hH0]; exact hA
  generalize ([] : List Loc) = locs at hA ⊢
  clear hH0
  replace hl : lv_has ls 19 [(0, .ref o), (1, .int b0)] := hl
  have hG1 : ∀ k, k < 1 → GoOk u (itS u v b0 (f, g, L) k).1 (itS u v b0 (f, g, L) k).2.1 := fun k hk => (show k = 0 by omega) ▸ hGo
  have ht := t_3b hs hbz (u := u) (v := v) (f := f)
  have hp16 : preG u v g b0 16 = g 16 := pre_16b hbz
  have hk5 : (preG u v g b0) 5 = g 5 := by rw [pre_b hbz]; exact (show (if g 5 = 0 then 1 else g 5) = g 5 by rw [if_neg hg])
  have hk7 : (preG u v g b0) 7 = g 7 + 1 := by rw [pre_b hbz]; show (if g 5 = 0 then 0 else g 7) + 1 = _; rw [if_neg hg]
  have hk12 : (preG u v g b0) 12 = g 12 := by rw [pre_b hbz]; show (if g 5 = 0 then 0 else g 12) = _; rw [if_neg hg]
  have h5e : (goG u v f g b0) 5 = (preG u v g b0) 5 := mv_5
  have e7e : (goG u v f g b0) 7 = (preG u v g b0) 7 := mv_7
  have h5 : ¬ (goG u v f g b0) 5 = 0 := by rw [h5e, hk5]; exact hg
  have e7t := e7e.trans hk7
  refine lv_aload_n hx hb dL_tick_0 rfl (lv_at hl 0 rfl) ?_
  refine lv_iconst (v := 0) hx hb dL_tick_1 (by decide) ?_
  refine lr_i (rL (rest := []) ⟨hx, hb, hml, hown, hts⟩ (LB_door l G cA A o (u, v, f, g, L) n K ch 0 ) (cwV 1 hts gL_tick_X8_door rfl rfl rfl mdX8_door ⟨Nat.le_of_ble_eq_true rfl, Nat.le_of_ble_eq_true rfl⟩) hA hL rfl hl rfl (Nat.le_of_ble_eq_true rfl) dL_tick_2 ⟨Nat.le_of_ble_eq_true rfl, Nat.le_of_ble_eq_true rfl⟩) hA hL (fun r_2 H locs hr_2 hA hL => ?_)
  replace hr_2 : r_2 = 3 := hr_2.trans hs
  subst hr_2
  refine lv_istore_n (lv' := [(2, .int 3), (0, .ref o), (1, .int b0)]) hx hb dL_tick_5 rfl hl (by decide) rfl (fun ls hl => ?_)
  refine lv_aload_n hx hb dL_tick_6 rfl (lv_at hl 1 rfl) ?_
  refine lr_f (rL (rest := []) ⟨hx, hb, hml, hown, hts⟩ (LB_place l G cA A o (u, v, f, g, L) n K ch  ) (cwV 0 hts gL_tick_X8_place rfl rfl rfl mdX8_place ⟨Nat.le_of_ble_eq_true rfl, Nat.le_of_ble_eq_true rfl⟩) hA hL rfl hl rfl (Nat.le_of_ble_eq_true rfl) dL_tick_7 ⟨Nat.le_of_ble_eq_true rfl, Nat.le_of_ble_eq_true rfl⟩) hA hL (fun r_7 H locs hr_7 hA hL => ?_)
  replace hr_7 : r_7 = f 7 := hr_7
  subst hr_7
  refine lv_fstore_n (lv' := [(3, .float (f 7)), (2, .int 3), (0, .ref o), (1, .int b0)]) hx hb dL_tick_10 rfl hl (by decide) rfl (fun ls hl => ?_)
  refine lv_aload_n hx hb dL_tick_11 rfl (lv_at hl 2 rfl) ?_
  refine lv_iconst (v := 1) hx hb dL_tick_12 (by decide) ?_
  refine lr_i (rL (rest := []) ⟨hx, hb, hml, hown, hts⟩ (LB_door l G cA A o (u, v, f, g, L) n K ch 1 ) (cwV 1 hts gL_tick_X8_door rfl rfl rfl mdX8_door ⟨Nat.le_of_ble_eq_true rfl, Nat.le_of_ble_eq_true rfl⟩) hA hL rfl hl rfl (Nat.le_of_ble_eq_true rfl) dL_tick_13 ⟨Nat.le_of_ble_eq_true rfl, Nat.le_of_ble_eq_true rfl⟩) hA hL (fun r_13 H locs hr_13 hA hL => ?_)
  replace hr_13 : r_13 = g 16 := hr_13
  subst hr_13
  refine lv_istore (lv' := [(4, .int (g 16)), (3, .float (f 7)), (2, .int 3), (0, .ref o), (1, .int b0)]) hx hb dL_tick_16 hl (by decide) rfl (fun ls hl => ?_)
  refine lv_aload_n hx hb dL_tick_18 rfl (lv_at hl 3 rfl) ?_
  refine lv_iconst (v := 3) hx hb dL_tick_19 (by decide) ?_
  refine lr_i (rL (rest := []) ⟨hx, hb, hml, hown, hts⟩ (LB_door l G cA A o (u, v, f, g, L) n K ch 3 ) (cwV 1 hts gL_tick_X8_door rfl rfl rfl mdX8_door ⟨Nat.le_of_ble_eq_true rfl, Nat.le_of_ble_eq_true rfl⟩) hA hL rfl hl rfl (Nat.le_of_ble_eq_true rfl) dL_tick_20 ⟨Nat.le_of_ble_eq_true rfl, Nat.le_of_ble_eq_true rfl⟩) hA hL (fun r_20 H locs hr_20 hA hL => ?_)
  rw [show doF f g 3 = 0 from (by show (if g 13 = 2 then g 14 else 0) = 0; rw [if_neg (by rw [hs]; decide)])] at hr_20
  subst hr_20
  refine lv_istore (lv' := [(5, .int 0), (4, .int (g 16)), (3, .float (f 7)), (2, .int 3), (0, .ref o), (1, .int b0)]) hx hb dL_tick_23 hl (by decide) rfl (fun ls hl => ?_)
  refine lv_aload_n hx hb dL_tick_25 rfl (lv_at hl 4 rfl) ?_
  refine lv_iconst (v := 4) hx hb dL_tick_26 (by decide) ?_
  refine lr_i (rL (rest := []) ⟨hx, hb, hml, hown, hts⟩ (LB_door l G cA A o (u, v, f, g, L) n K ch 4 ) (cwV 1 hts gL_tick_X8_door rfl rfl rfl mdX8_door ⟨Nat.le_of_ble_eq_true rfl, Nat.le_of_ble_eq_true rfl⟩) hA hL rfl hl rfl (Nat.le_of_ble_eq_true rfl) dL_tick_27 ⟨Nat.le_of_ble_eq_true rfl, Nat.le_of_ble_eq_true rfl⟩) hA hL (fun r_27 H locs hr_27 hA hL => ?_)
  rw [show doF f g 4 = g 15 from (by show (if g 13 = 3 then g 15 else 0) = g 15; rw [if_pos hs])] at hr_27
  subst hr_27
  refine lv_istore (lv' := [(6, .int (g 15)), (5, .int 0), (4, .int (g 16)), (3, .float (f 7)), (2, .int 3), (0, .ref o), (1, .int b0)]) hx hb dL_tick_30 hl (by decide) rfl (fun ls hl => ?_)
  refine lv_aload_n hx hb dL_tick_32 rfl (lv_at hl 5 rfl) ?_
  refine lv_iconst (v := 2) hx hb dL_tick_33 (by decide) ?_
  refine lr_i (rL (rest := []) ⟨hx, hb, hml, hown, hts⟩ (LB_door l G cA A o (u, v, f, g, L) n K ch 2 ) (cwV 1 hts gL_tick_X8_door rfl rfl rfl mdX8_door ⟨Nat.le_of_ble_eq_true rfl, Nat.le_of_ble_eq_true rfl⟩) hA hL rfl hl rfl (Nat.le_of_ble_eq_true rfl) dL_tick_34 ⟨Nat.le_of_ble_eq_true rfl, Nat.le_of_ble_eq_true rfl⟩) hA hL (fun r_34 H locs hr_34 hA hL => ?_)
  replace hr_34 : r_34 = oneF (g 17) := hr_34
  subst hr_34
  refine lv_istore (lv' := [(7, .int (oneF (g 17))), (6, .int (g 15)), (5, .int 0), (4, .int (g 16)), (3, .float (f 7)), (2, .int 3), (0, .ref o), (1, .int b0)]) hx hb dL_tick_37 hl (by decide) rfl (fun ls hl => ?_)
  refine lv_aload_n hx hb dL_tick_39 rfl (lv_at hl 6 rfl) ?_
  refine lv_iconst (v := 0) hx hb dL_tick_40 (by decide) ?_
  refine lr_i (rL (rest := []) ⟨hx, hb, hml, hown, hts⟩ (LB_thing l G cA A o (u, v, f, g, L) n K ch 0 hPr) (cwV 1 hts gL_tick_X8_thing rfl rfl rfl mdX8_thing ⟨Nat.le_of_ble_eq_true rfl, Nat.le_of_ble_eq_true rfl⟩) hA hL rfl hl rfl (Nat.le_of_ble_eq_true rfl) dL_tick_41 ⟨Nat.le_of_ble_eq_true rfl, Nat.le_of_ble_eq_true rfl⟩) hA hL (fun r_41 H locs hr_41 hA hL => ?_)
  replace hr_41 : r_41 = g 7 := hr_41.trans (th_0 hg)
  subst hr_41
  refine lv_istore (lv' := [(8, .int (g 7)), (7, .int (oneF (g 17))), (6, .int (g 15)), (5, .int 0), (4, .int (g 16)), (3, .float (f 7)), (2, .int 3), (0, .ref o), (1, .int b0)]) hx hb dL_tick_44 hl (by decide) rfl (fun ls hl => ?_)
  refine lv_iload hx hb dL_tick_46 (lv_at hl 0 rfl) ?_
  refine lv_if_ge (tgt := 55) hx hb dL_tick_48 (by decide) (fun c_48 => ?_) (fun c_48 => absurd (show g 7 < 1 by have := Int32.not_le.mp c_48; exact Int32.lt_trans this (by decide)) h7)
  refine lv_aload_n hx hb dL_tick_55 rfl (lv_at hl 7 rfl) ?_
  refine lv_iconst (v := 5) hx hb dL_tick_56 (by decide) ?_
  refine lr_i (rL (rest := []) ⟨hx, hb, hml, hown, hts⟩ (LB_thing l G cA A o (u, v, f, g, L) n K ch 5 hPr) (cwV 1 hts gL_tick_X8_thing rfl rfl rfl mdX8_thing ⟨Nat.le_of_ble_eq_true rfl, Nat.le_of_ble_eq_true rfl⟩) hA hL rfl hl rfl (Nat.le_of_ble_eq_true rfl) dL_tick_57 ⟨Nat.le_of_ble_eq_true rfl, Nat.le_of_ble_eq_true rfl⟩) hA hL (fun r_57 H locs hr_57 hA hL => ?_)
  replace hr_57 : r_57 = g 11 := hr_57.trans (th_5 hg)
  subst hr_57
  refine lv_istore (lv' := [(9, .int (g 11)), (8, .int (g 7)), (7, .int (oneF (g 17))), (6, .int (g 15)), (5, .int 0), (4, .int (g 16)), (3, .float (f 7)), (2, .int 3), (0, .ref o), (1, .int b0)]) hx hb dL_tick_60 hl (by decide) rfl (fun ls hl => ?_)
  refine lv_iload hx hb dL_tick_62 (lv_at hl 1 rfl) ?_
  refine lv_if_ge (tgt := 71) hx hb dL_tick_64 (by decide) (fun c_64 => ?_) (fun c_64 => absurd c_48 c_64)
  refine lv_aload_n hx hb dL_tick_71 rfl (lv_at hl 8 rfl) ?_
  refine lv_bipush (v := 6) hx hb dL_tick_72 (by decide) ?_
  refine lr_i (rL (rest := []) ⟨hx, hb, hml, hown, hts⟩ (LB_thing l G cA A o (u, v, f, g, L) n K ch 6 hPr) (cwV 1 hts gL_tick_X8_thing rfl rfl rfl mdX8_thing ⟨Nat.le_of_ble_eq_true rfl, Nat.le_of_ble_eq_true rfl⟩) hA hL rfl hl rfl (Nat.le_of_ble_eq_true rfl) dL_tick_74 ⟨Nat.le_of_ble_eq_true rfl, Nat.le_of_ble_eq_true rfl⟩) hA hL (fun r_74 H locs hr_74 hA hL => ?_)
  replace hr_74 : r_74 = oneF (g 12) := hr_74.trans (th_6 hg)
  subst hr_74
  refine lv_istore (lv' := [(10, .int (oneF (g 12))), (9, .int (g 11)), (8, .int (g 7)), (7, .int (oneF (g 17))), (6, .int (g 15)), (5, .int 0), (4, .int (g 16)), (3, .float (f 7)), (2, .int 3), (0, .ref o), (1, .int b0)]) hx hb dL_tick_77 hl (by decide) rfl (fun ls hl => ?_)
  refine lv_iload hx hb dL_tick_79 (lv_at hl 2 rfl) ?_
  refine lv_if_ge (tgt := 88) hx hb dL_tick_81 (by decide) (fun c_81 => ?_) (fun c_81 => absurd c_48 c_81)
  refine lv_aload_n hx hb dL_tick_88 rfl (lv_at hl 9 rfl) ?_
  refine lv_bipush (v := 7) hx hb dL_tick_89 (by decide) ?_
  refine lr_i (rL (rest := []) ⟨hx, hb, hml, hown, hts⟩ (LB_thing l G cA A o (u, v, f, g, L) n K ch 7 hPr) (cwV 1 hts gL_tick_X8_thing rfl rfl rfl mdX8_thing ⟨Nat.le_of_ble_eq_true rfl, Nat.le_of_ble_eq_true rfl⟩) hA hL rfl hl rfl (Nat.le_of_ble_eq_true rfl) dL_tick_91 ⟨Nat.le_of_ble_eq_true rfl, Nat.le_of_ble_eq_true rfl⟩) hA hL (fun r_91 H locs hr_91 hA hL => ?_)
  replace hr_91 : r_91 = bestK u g := hr_91.trans (th_7 hg)
  subst hr_91
  refine lv_istore (lv' := [(11, .int (bestK u g)), (10, .int (oneF (g 12))), (9, .int (g 11)), (8, .int (g 7)), (7, .int (oneF (g 17))), (6, .int (g 15)), (5, .int 0), (4, .int (g 16)), (3, .float (f 7)), (2, .int 3), (0, .ref o), (1, .int b0)]) hx hb dL_tick_94 hl (by decide) rfl (fun ls hl => ?_)
  refine lv_aload_n hx hb dL_tick_96 rfl (lv_at hl 10 rfl) ?_
  refine lv_iload_n hx hb dL_tick_97 rfl (lv_at hl 11 rfl) ?_
  refine lv_iconst (v := 1) hx hb dL_tick_98 (by decide) ?_
  refine lw_f (rL (rest := []) ⟨hx, hb, hml, hown, hts⟩ (LB_placeIn_ok l G cA A o (u, v, f, g, L) n K ch b0 1 hb0 hb7 (by decide) hG1) (cwV 2 hts gL_tick_X8_placeIn rfl rfl rfl mdX8_placeIn ⟨Nat.le_of_ble_eq_true rfl, Nat.le_of_ble_eq_true rfl⟩) hA hL rfl hl rfl (Nat.le_of_ble_eq_true rfl) dL_tick_99 ⟨Nat.le_of_ble_eq_true rfl, Nat.le_of_ble_eq_true rfl⟩) hA (fun r_99 _ H locs hr_99 hA hL => ?_)
  replace hL : LB G cA A o (u, v, f, g, L) n K ch H := hL
  replace hr_99 : r_99 = (goF u v f g b0) 7 := hr_99
  subst hr_99
  refine lv_fstore (lv' := [(12, .float ((goF u v f g b0) 7)), (11, .int (bestK u g)), (10, .int (oneF (g 12))), (9, .int (g 11)), (8, .int (g 7)), (7, .int (oneF (g 17))), (6, .int (g 15)), (5, .int 0), (4, .int (g 16)), (3, .float (f 7)), (2, .int 3), (0, .ref o), (1, .int b0)]) hx hb dL_tick_102 hl (by decide) rfl (fun ls hl => ?_)
  refine lv_aload_n hx hb dL_tick_104 rfl (lv_at hl 11 rfl) ?_
  refine lv_iload hx hb dL_tick_105 (lv_at hl 1 rfl) ?_
  refine lv_iconst (v := 1) hx hb dL_tick_107 (by decide) ?_
  refine lv_iadd hx hb dL_tick_108 ?_
  refine lr_i (rL (rest := []) ⟨hx, hb, hml, hown, hts⟩ (LB_count l G cA A o (u, v, f, g, L) n K ch ((bestK u g) + 1)) (cwV 1 hts gL_tick_X8_count rfl rfl rfl mdX8_count ⟨Nat.le_of_ble_eq_true rfl, Nat.le_of_ble_eq_true rfl⟩) hA hL rfl hl rfl (Nat.le_of_ble_eq_true rfl) dL_tick_109 ⟨Nat.le_of_ble_eq_true rfl, Nat.le_of_ble_eq_true rfl⟩) hA hL (fun r_109 H locs hr_109 hA hL => ?_)
  replace hr_109 : r_109 = cnF g (nI n) (nI K) ((bestK u g) + 1) := hr_109
  subst hr_109
  refine lv_istore (lv' := [(13, .int (cnF g (nI n) (nI K) ((bestK u g) + 1))), (12, .float ((goF u v f g b0) 7)), (11, .int (bestK u g)), (10, .int (oneF (g 12))), (9, .int (g 11)), (8, .int (g 7)), (7, .int (oneF (g 17))), (6, .int (g 15)), (5, .int 0), (4, .int (g 16)), (3, .float (f 7)), (2, .int 3), (0, .ref o), (1, .int b0)]) hx hb dL_tick_112 hl (by decide) rfl (fun ls hl => ?_)
  refine lv_iload hx hb dL_tick_114 (lv_at hl 5 rfl) ?_
  refine lv_if_le (tgt := 139) hx hb dL_tick_116 (by decide) (fun c_116 => absurd (Int32.lt_of_lt_of_le (by decide) (Int32.not_lt.mp h7)) (Int32.not_lt.mpr c_116)) (fun c_116 => ?_)
  refine lv_iload_n hx hb dL_tick_119 rfl (lv_at hl 13 rfl) ?_
  refine lv_if_ne (tgt := 139) hx hb dL_tick_120 (by decide) (fun c_120 => ?_) (fun c_120 => absurd c_120 hbz)
  refine lv_iconst (v := 0) hx hb dL_tick_139 (by decide) ?_
  refine lv_istore (lv' := [(14, .int 0), (13, .int (cnF g (nI n) (nI K) ((bestK u g) + 1))), (12, .float ((goF u v f g b0) 7)), (11, .int (bestK u g)), (10, .int (oneF (g 12))), (9, .int (g 11)), (8, .int (g 7)), (7, .int (oneF (g 17))), (6, .int (g 15)), (5, .int 0), (4, .int (g 16)), (3, .float (f 7)), (2, .int 3), (0, .ref o), (1, .int b0)]) hx hb dL_tick_140 hl (by decide) rfl (fun ls hl => ?_)
  refine lv_iload hx hb dL_tick_142 (lv_at hl 10 rfl) ?_
  refine lv_iload hx hb dL_tick_144 (lv_at hl 0 rfl) ?_
  refine lv_if_eq (tgt := 169) hx hb dL_tick_146 (by decide) (fun _ => ?_) (fun h9 => absurd (by decide) h9)
  refine lv_iconst (v := 0) hx hb dL_tick_169 (by decide) ?_
  refine lv_isub hx hb dL_tick_170 ?_
  refine W.eq (g2 := F0 m 171 ls [.int (preG u v g b0 16)]) (by rw [hp16, Int32.sub_zero]) ?_
  refine lv_istore (lv' := [(4, .int (preG u v g b0 16)), (14, .int 0), (13, .int (cnF g (nI n) (nI K) ((bestK u g) + 1))), (12, .float ((goF u v f g b0) 7)), (11, .int (bestK u g)), (10, .int (oneF (g 12))), (9, .int (g 11)), (8, .int (g 7)), (7, .int (oneF (g 17))), (6, .int (g 15)), (5, .int 0), (3, .float (f 7)), (2, .int 3), (0, .ref o), (1, .int b0)]) hx hb dL_tick_171 hl (by decide) rfl (fun ls hl => ?_)
  refine lv_iload_n hx hb dL_tick_173 rfl (lv_at hl 12 rfl) ?_
  refine lv_istore (lv' := [(15, .int 3), (4, .int (preG u v g b0 16)), (14, .int 0), (13, .int (cnF g (nI n) (nI K) ((bestK u g) + 1))), (12, .float ((goF u v f g b0) 7)), (11, .int (bestK u g)), (10, .int (oneF (g 12))), (9, .int (g 11)), (8, .int (g 7)), (7, .int (oneF (g 17))), (6, .int (g 15)), (5, .int 0), (3, .float (f 7)), (2, .int 3), (0, .ref o), (1, .int b0)]) hx hb dL_tick_174 hl (by decide) rfl (fun ls hl => ?_)
  refine lv_fload_n hx hb dL_tick_176 rfl (lv_at hl 12 rfl) ?_
  refine lv_fstore (lv' := [(16, .float (f 7)), (15, .int 3), (4, .int (preG u v g b0 16)), (14, .int 0), (13, .int (cnF g (nI n) (nI K) ((bestK u g) + 1))), (12, .float ((goF u v f g b0) 7)), (11, .int (bestK u g)), (10, .int (oneF (g 12))), (9, .int (g 11)), (8, .int (g 7)), (7, .int (oneF (g 17))), (6, .int (g 15)), (5, .int 0), (3, .float (f 7)), (2, .int 3), (0, .ref o), (1, .int b0)]) hx hb dL_tick_177 hl (by decide) rfl (fun ls hl => ?_)
  refine lv_iload_n hx hb dL_tick_179 rfl (lv_at hl 14 rfl) ?_
  refine lv_iconst (v := 1) hx hb dL_tick_180 (by decide) ?_
  refine lv_icmp_ne (tgt := 228) hx hb dL_tick_181 (by decide) (fun _ => ?_) (fun h9 => absurd h9 (by decide))
  refine lv_iload_n hx hb dL_tick_228 rfl (lv_at hl 14 rfl) ?_
  refine lv_iconst (v := 2) hx hb dL_tick_229 (by decide) ?_
  refine lv_icmp_ne (tgt := 264) hx hb dL_tick_230 (by decide) (fun _ => ?_) (fun h9 => absurd h9 (by decide))
  refine lv_iload_n hx hb dL_tick_264 rfl (lv_at hl 14 rfl) ?_
  refine lv_iconst (v := 3) hx hb dL_tick_265 (by decide) ?_
  refine lv_icmp_ne (tgt := 311) hx hb dL_tick_266 (by decide) (fun h9 => absurd (by decide) h9) (fun _ => ?_)
  refine lv_iload_n hx hb dL_tick_269 rfl (lv_at hl 16 rfl) ?_
  refine lv_if_eq (tgt := 311) hx hb dL_tick_270 (by decide) (fun c_270 => absurd c_270 hbz) (fun c_270 => ?_)
  refine lv_iload hx hb dL_tick_273 (lv_at hl 11 rfl) ?_
  refine lv_iconst (v := 1) hx hb dL_tick_275 (by decide) ?_
  refine lv_iadd hx hb dL_tick_276 ?_
  refine lv_aload_n hx hb dL_tick_277 rfl (lv_at hl 15 rfl) ?_
  refine lv_iconst (v := 1) hx hb dL_tick_278 (by decide) ?_
  refine lr_i (rL (rest := [.int ((g 15) + 1)]) ⟨hx, hb, hml, hown, hts⟩ (LB_number l G cA A o (u, v, f, g, L) n K ch 1 ) (cwV 1 hts gL_tick_X8_number rfl rfl rfl mdX8_number ⟨Nat.le_of_ble_eq_true rfl, Nat.le_of_ble_eq_true rfl⟩) hA hL rfl hl rfl (Nat.le_of_ble_eq_true rfl) dL_tick_279 ⟨Nat.le_of_ble_eq_true rfl, Nat.le_of_ble_eq_true rfl⟩) hA hL (fun r_279 H locs hr_279 hA hL => ?_)
  replace hr_279 : r_279 = v 1 := hr_279
  subst hr_279
  refine lv_icmp_le (tgt := 289) hx hb dL_tick_282 (by decide) (fun c_282 => ?_) (fun c_282 => ?_)
  · skip
    refine lv_iconst (v := 3) hx hb dL_tick_289 (by decide) ?_
    refine lv_istore (lv' := [(15, .int 3), (16, .float (f 7)), (4, .int (preG u v g b0 16)), (14, .int 0), (13, .int (cnF g (nI n) (nI K) ((bestK u g) + 1))), (12, .float ((goF u v f g b0) 7)), (11, .int (bestK u g)), (10, .int (oneF (g 12))), (9, .int (g 11)), (8, .int (g 7)), (7, .int (oneF (g 17))), (6, .int (g 15)), (5, .int 0), (3, .float (f 7)), (2, .int 3), (0, .ref o), (1, .int b0)]) hx hb dL_tick_290 hl (by decide) rfl (fun ls hl => ?_)
    refine lv_iload hx hb dL_tick_292 (lv_at hl 2 rfl) ?_
    refine lv_iload hx hb dL_tick_294 (lv_at hl 0 rfl) ?_
    refine lv_iconst (v := 1) hx hb dL_tick_296 (by decide) ?_
    refine lv_icmp_ne (tgt := 304) hx hb dL_tick_297 (by decide) (fun _ => ?_) (fun h9 => absurd h9 (by decide))
    refine lv_iconst (v := 0) hx hb dL_tick_304 (by decide) ?_
    refine lv_iadd hx hb dL_tick_305 ?_
    refine W.eq (g2 := F0 m 306 ls [.int (preG u v g b0 16)]) (by rw [Int32.add_zero]) ?_
    refine lv_istore (lv' := [(4, .int (preG u v g b0 16)), (15, .int 3), (16, .float (f 7)), (14, .int 0), (13, .int (cnF g (nI n) (nI K) ((bestK u g) + 1))), (12, .float ((goF u v f g b0) 7)), (11, .int (bestK u g)), (10, .int (oneF (g 12))), (9, .int (g 11)), (8, .int (g 7)), (7, .int (oneF (g 17))), (6, .int (g 15)), (5, .int 0), (3, .float (f 7)), (2, .int 3), (0, .ref o), (1, .int b0)]) hx hb dL_tick_306 hl (by decide) rfl (fun ls hl => ?_)
    refine lv_goto (tgt := 385) hx hb dL_tick_308 (by decide) ?_
    refine lv_iload_n hx hb dL_tick_385 rfl (lv_at hl 14 rfl) ?_
    refine lv_iconst (v := 3) hx hb dL_tick_386 (by decide) ?_
    refine lv_icmp_ne (tgt := 400) hx hb dL_tick_387 (by decide) (fun h9 => absurd (by decide) h9) (fun _ => ?_)
    refine lv_iload hx hb dL_tick_390 (lv_at hl 1 rfl) ?_
    refine lv_iconst (v := 1) hx hb dL_tick_392 (by decide) ?_
    refine lv_icmp_ne (tgt := 400) hx hb dL_tick_393 (by decide) (fun _ => ?_) (fun h9 => absurd h9 (by decide))
    refine lv_iconst (v := 0) hx hb dL_tick_400 (by decide) ?_
    refine lv_istore (lv' := [(17, .int 0), (4, .int (preG u v g b0 16)), (15, .int 3), (16, .float (f 7)), (14, .int 0), (13, .int (cnF g (nI n) (nI K) ((bestK u g) + 1))), (12, .float ((goF u v f g b0) 7)), (11, .int (bestK u g)), (10, .int (oneF (g 12))), (9, .int (g 11)), (8, .int (g 7)), (7, .int (oneF (g 17))), (6, .int (g 15)), (5, .int 0), (3, .float (f 7)), (2, .int 3), (0, .ref o), (1, .int b0)]) hx hb dL_tick_401 hl (by decide) rfl (fun ls hl => ?_)
    refine lv_iload hx hb dL_tick_403 (lv_at hl 0 rfl) ?_
    refine lv_if_eq (tgt := 428) hx hb dL_tick_405 (by decide) (fun _ => ?_) (fun h9 => absurd (by decide) h9)
    refine lv_iconst (v := 0) hx hb dL_tick_428 (by decide) ?_
    refine lv_istore (lv' := [(18, .int 0), (17, .int 0), (4, .int (preG u v g b0 16)), (15, .int 3), (16, .float (f 7)), (14, .int 0), (13, .int (cnF g (nI n) (nI K) ((bestK u g) + 1))), (12, .float ((goF u v f g b0) 7)), (11, .int (bestK u g)), (10, .int (oneF (g 12))), (9, .int (g 11)), (8, .int (g 7)), (7, .int (oneF (g 17))), (6, .int (g 15)), (5, .int 0), (3, .float (f 7)), (2, .int 3), (0, .ref o), (1, .int b0)]) hx hb dL_tick_429 hl (by decide) rfl (fun ls hl => ?_)
    refine lv_aload_n hx hb dL_tick_431 rfl (lv_at hl 17 rfl) ?_
    refine lv_iload_n hx hb dL_tick_432 rfl (lv_at hl 18 rfl) ?_
    refine lv_iconst (v := 1) hx hb dL_tick_433 (by decide) ?_
    refine lw_i (rL (rest := []) ⟨hx, hb, hml, hown, hts⟩ (LB_pass_ok l G cA A o (u, v, f, g, L) n K ch hn b0 1 hb0 hb7 (by decide) (by decide) hT hG1 hBo) (cwV 2 hts gL_tick_X8_pass rfl rfl rfl mdX8_pass ⟨Nat.le_of_ble_eq_true rfl, Nat.le_of_ble_eq_true rfl⟩) hA hL rfl hl rfl (Nat.le_of_ble_eq_true rfl) dL_tick_434 ⟨Nat.le_of_ble_eq_true rfl, Nat.le_of_ble_eq_true rfl⟩) hA (fun r_434 _ H locs hr_434 hA hL => ?_)
    replace hL : LB G cA A o (u, v, (goF u v f g b0), (goG u v f g b0), (goL u v g L b0)) (recN n) K ch H := hL
    replace hr_434 : r_434 = (goG u v f g b0) 13 := hr_434
    subst hr_434
    refine lv_iload hx hb dL_tick_437 (lv_at hl 3 rfl) ?_
    refine lv_icmp_ne (tgt := 489) hx hb dL_tick_439 (by decide) (fun c_439 => absurd (ht.1.trans (if_pos c_282)) c_439) (fun c_439 => ?_)
    refine lv_aload_n hx hb dL_tick_442 rfl (lv_at hl 17 rfl) ?_
    refine lr_f (rL (rest := []) ⟨hx, hb, hml, hown, hts⟩ (LB_place l G cA A o (u, v, (goF u v f g b0), (goG u v f g b0), (goL u v g L b0)) (recN n) K ch  ) (cwV 0 hts gL_tick_X8_place rfl rfl rfl mdX8_place ⟨Nat.le_of_ble_eq_true rfl, Nat.le_of_ble_eq_true rfl⟩) hA hL rfl hl rfl (Nat.le_of_ble_eq_true rfl) dL_tick_443 ⟨Nat.le_of_ble_eq_true rfl, Nat.le_of_ble_eq_true rfl⟩) hA hL (fun r_443 H locs hr_443 hA hL => ?_)
    replace hr_443 : r_443 = (goF u v f g b0) 7 := hr_443
    subst hr_443
    refine lv_fload hx hb dL_tick_446 (lv_at hl 4 rfl) ?_
    refine lv_fcmp hx hb dL_tick_448 ?_
    refine lv_if_ne (tgt := 489) hx hb dL_tick_449 (by decide) (fun c_449 => absurd (by rw [ht.2.2.2.1]; exact cmp_self (of_vf hf) _) c_449) (fun c_449 => ?_)
    refine lv_fload hx hb dL_tick_452 (lv_at hl 7 rfl) ?_
    refine lv_fload hx hb dL_tick_454 (lv_at hl 4 rfl) ?_
    refine lv_fcmp hx hb dL_tick_456 ?_
    refine lv_if_ne (tgt := 489) hx hb dL_tick_457 (by decide) (fun c_457 => absurd (by rw [ht.2.2.2.1]; exact cmp_self (of_vf hf) _) c_457) (fun c_457 => ?_)
    refine lv_aload_n hx hb dL_tick_460 rfl (lv_at hl 17 rfl) ?_
    refine lv_iconst (v := 1) hx hb dL_tick_461 (by decide) ?_
    refine lr_i (rL (rest := []) ⟨hx, hb, hml, hown, hts⟩ (LB_door l G cA A o (u, v, (goF u v f g b0), (goG u v f g b0), (goL u v g L b0)) (recN n) K ch 1 ) (cwV 1 hts gL_tick_X8_door rfl rfl rfl mdX8_door ⟨Nat.le_of_ble_eq_true rfl, Nat.le_of_ble_eq_true rfl⟩) hA hL rfl hl rfl (Nat.le_of_ble_eq_true rfl) dL_tick_462 ⟨Nat.le_of_ble_eq_true rfl, Nat.le_of_ble_eq_true rfl⟩) hA hL (fun r_462 H locs hr_462 hA hL => ?_)
    replace hr_462 : r_462 = (goG u v f g b0) 16 := hr_462
    subst hr_462
    refine lv_iload hx hb dL_tick_465 (lv_at hl 2 rfl) ?_
    refine lv_icmp_ne (tgt := 489) hx hb dL_tick_467 (by decide) (fun c_467 => absurd (ht.2.1.trans (if_pos c_282)) c_467) (fun c_467 => ?_)
    refine lv_aload_n hx hb dL_tick_470 rfl (lv_at hl 17 rfl) ?_
    refine lv_iconst (v := 2) hx hb dL_tick_471 (by decide) ?_
    refine lr_i (rL (rest := []) ⟨hx, hb, hml, hown, hts⟩ (LB_door l G cA A o (u, v, (goF u v f g b0), (goG u v f g b0), (goL u v g L b0)) (recN n) K ch 2 ) (cwV 1 hts gL_tick_X8_door rfl rfl rfl mdX8_door ⟨Nat.le_of_ble_eq_true rfl, Nat.le_of_ble_eq_true rfl⟩) hA hL rfl hl rfl (Nat.le_of_ble_eq_true rfl) dL_tick_472 ⟨Nat.le_of_ble_eq_true rfl, Nat.le_of_ble_eq_true rfl⟩) hA hL (fun r_472 H locs hr_472 hA hL => ?_)
    replace hr_472 : r_472 = oneF ((goG u v f g b0) 17) := hr_472
    subst hr_472
    refine lv_iload hx hb dL_tick_475 (lv_at hl 0 rfl) ?_
    refine lv_if_eq (tgt := 484) hx hb dL_tick_477 (by decide) (fun _ => ?_) (fun h9 => absurd (by decide) h9)
    refine lv_iload hx hb dL_tick_484 (lv_at hl 12 rfl) ?_
    refine lv_icmp_eq (tgt := 491) hx hb dL_tick_486 (by decide) (fun c_486 => ?_) (fun c_486 => absurd (by rw [(ht.2.2.1.trans (if_pos c_282))] <;> rfl) c_486)
    refine lv_iload hx hb dL_tick_491 (lv_at hl 5 rfl) ?_
    refine lv_if_eq (tgt := 554) hx hb dL_tick_493 (by decide) (fun _ => ?_) (fun h9 => absurd (by decide) h9)
    refine lv_iload_n hx hb dL_tick_554 rfl (lv_at hl 18 rfl) ?_
    refine lv_if_eq (tgt := 599) hx hb dL_tick_555 (by decide) (fun c_555 => absurd c_555 hbz) (fun c_555 => ?_)
    refine lv_aload_n hx hb dL_tick_558 rfl (lv_at hl 17 rfl) ?_
    refine lv_iconst (v := 0) hx hb dL_tick_559 (by decide) ?_
    refine lr_i (rL (rest := []) ⟨hx, hb, hml, hown, hts⟩ (LB_thing l G cA A o (u, v, (goF u v f g b0), (goG u v f g b0), (goL u v g L b0)) (recN n) K ch 0 hP2) (cwV 1 hts gL_tick_X8_thing rfl rfl rfl mdX8_thing ⟨Nat.le_of_ble_eq_true rfl, Nat.le_of_ble_eq_true rfl⟩) hA hL rfl hl rfl (Nat.le_of_ble_eq_true rfl) dL_tick_560 ⟨Nat.le_of_ble_eq_true rfl, Nat.le_of_ble_eq_true rfl⟩) hA hL (fun r_560 H locs hr_560 hA hL => ?_)
    replace hr_560 : r_560 = g 7 + 1 := hr_560.trans ((th_0 h5).trans e7t)
    subst hr_560
    refine lv_iload hx hb dL_tick_563 (lv_at hl 11 rfl) ?_
    refine lv_if_ge (tgt := 572) hx hb dL_tick_565 (by decide) (fun c_565 => ?_) (fun c_565 => absurd c_48 c_565)
    refine lv_iload hx hb dL_tick_572 (lv_at hl 11 rfl) ?_
    refine lv_iconst (v := 1) hx hb dL_tick_574 (by decide) ?_
    refine lv_iadd hx hb dL_tick_575 ?_
    refine lv_icmp_ne (tgt := 603) hx hb dL_tick_576 (by decide) (fun c_576 => absurd rfl c_576) (fun c_576 => ?_)
    refine lv_aload_n hx hb dL_tick_579 rfl (lv_at hl 17 rfl) ?_
    refine lv_bipush (v := 6) hx hb dL_tick_580 (by decide) ?_
    refine lr_i (rL (rest := []) ⟨hx, hb, hml, hown, hts⟩ (LB_thing l G cA A o (u, v, (goF u v f g b0), (goG u v f g b0), (goL u v g L b0)) (recN n) K ch 6 hP2) (cwV 1 hts gL_tick_X8_thing rfl rfl rfl mdX8_thing ⟨Nat.le_of_ble_eq_true rfl, Nat.le_of_ble_eq_true rfl⟩) hA hL rfl hl rfl (Nat.le_of_ble_eq_true rfl) dL_tick_582 ⟨Nat.le_of_ble_eq_true rfl, Nat.le_of_ble_eq_true rfl⟩) hA hL (fun r_582 H locs hr_582 hA hL => ?_)
    replace hr_582 : r_582 = oneF ((goG u v f g b0) 12) := hr_582.trans (th_6 h5)
    subst hr_582
    refine lv_iload hx hb dL_tick_585 (lv_at hl 1 rfl) ?_
    refine lv_if_eq (tgt := 594) hx hb dL_tick_587 (by decide) (fun _ => ?_) (fun h9 => absurd (by decide) h9)
    refine lv_iload hx hb dL_tick_594 (lv_at hl 9 rfl) ?_
    refine lv_icmp_ne (tgt := 603) hx hb dL_tick_596 (by decide) (fun c_596 => absurd (by rw [ht.2.2.2.2, if_pos c_282, hk12] <;> rfl) c_596) (fun c_596 => ?_)
    refine lv_iconst (v := 1) hx hb dL_tick_599 (by decide) ?_
    refine lv_goto (tgt := 604) hx hb dL_tick_600 (by decide) ?_
    exact en_l (post := fun r (_ : Unit) => r = 1) (B := fun _ H => LB G cA A o (u, v, (goF u v f g b0), (goG u v f g b0), (goL u v g L b0)) (recN n) K ch H) () hx hb hr hlocks hA rfl hL dL_tick_604
  · skip
    refine lv_iconst (v := 1) hx hb dL_tick_285 (by decide) ?_
    refine lv_goto (tgt := 290) hx hb dL_tick_286 (by decide) ?_
    refine lv_istore (lv' := [(15, .int 1), (16, .float (f 7)), (4, .int (preG u v g b0 16)), (14, .int 0), (13, .int (cnF g (nI n) (nI K) ((bestK u g) + 1))), (12, .float ((goF u v f g b0) 7)), (11, .int (bestK u g)), (10, .int (oneF (g 12))), (9, .int (g 11)), (8, .int (g 7)), (7, .int (oneF (g 17))), (6, .int (g 15)), (5, .int 0), (3, .float (f 7)), (2, .int 3), (0, .ref o), (1, .int b0)]) hx hb dL_tick_290 hl (by decide) rfl (fun ls hl => ?_)
    refine lv_iload hx hb dL_tick_292 (lv_at hl 2 rfl) ?_
    refine lv_iload hx hb dL_tick_294 (lv_at hl 0 rfl) ?_
    refine lv_iconst (v := 1) hx hb dL_tick_296 (by decide) ?_
    refine lv_icmp_ne (tgt := 304) hx hb dL_tick_297 (by decide) (fun h9 => absurd (by decide) h9) (fun _ => ?_)
    refine lv_iconst (v := 1) hx hb dL_tick_300 (by decide) ?_
    refine lv_goto (tgt := 305) hx hb dL_tick_301 (by decide) ?_
    refine lv_iadd hx hb dL_tick_305 ?_
    refine lv_istore (lv' := [(4, .int ((preG u v g b0 16) + 1)), (15, .int 1), (16, .float (f 7)), (14, .int 0), (13, .int (cnF g (nI n) (nI K) ((bestK u g) + 1))), (12, .float ((goF u v f g b0) 7)), (11, .int (bestK u g)), (10, .int (oneF (g 12))), (9, .int (g 11)), (8, .int (g 7)), (7, .int (oneF (g 17))), (6, .int (g 15)), (5, .int 0), (3, .float (f 7)), (2, .int 3), (0, .ref o), (1, .int b0)]) hx hb dL_tick_306 hl (by decide) rfl (fun ls hl => ?_)
    refine lv_goto (tgt := 385) hx hb dL_tick_308 (by decide) ?_
    refine lv_iload_n hx hb dL_tick_385 rfl (lv_at hl 14 rfl) ?_
    refine lv_iconst (v := 3) hx hb dL_tick_386 (by decide) ?_
    refine lv_icmp_ne (tgt := 400) hx hb dL_tick_387 (by decide) (fun h9 => absurd (by decide) h9) (fun _ => ?_)
    refine lv_iload hx hb dL_tick_390 (lv_at hl 1 rfl) ?_
    refine lv_iconst (v := 1) hx hb dL_tick_392 (by decide) ?_
    refine lv_icmp_ne (tgt := 400) hx hb dL_tick_393 (by decide) (fun h9 => absurd (by decide) h9) (fun _ => ?_)
    refine lv_iconst (v := 1) hx hb dL_tick_396 (by decide) ?_
    refine lv_goto (tgt := 401) hx hb dL_tick_397 (by decide) ?_
    refine lv_istore (lv' := [(17, .int 1), (4, .int ((preG u v g b0 16) + 1)), (15, .int 1), (16, .float (f 7)), (14, .int 0), (13, .int (cnF g (nI n) (nI K) ((bestK u g) + 1))), (12, .float ((goF u v f g b0) 7)), (11, .int (bestK u g)), (10, .int (oneF (g 12))), (9, .int (g 11)), (8, .int (g 7)), (7, .int (oneF (g 17))), (6, .int (g 15)), (5, .int 0), (3, .float (f 7)), (2, .int 3), (0, .ref o), (1, .int b0)]) hx hb dL_tick_401 hl (by decide) rfl (fun ls hl => ?_)
    refine lv_iload hx hb dL_tick_403 (lv_at hl 0 rfl) ?_
    refine lv_if_eq (tgt := 428) hx hb dL_tick_405 (by decide) (fun h9 => absurd h9 (by decide)) (fun _ => ?_)
    refine lv_iload hx hb dL_tick_408 (lv_at hl 1 rfl) ?_
    refine lv_aload_n hx hb dL_tick_410 rfl (lv_at hl 16 rfl) ?_
    refine lv_iconst (v := 2) hx hb dL_tick_411 (by decide) ?_
    refine lr_i (rL (rest := [.int ((preG u v g b0 16) + 1)]) ⟨hx, hb, hml, hown, hts⟩ (LB_number l G cA A o (u, v, f, g, L) n K ch 2 ) (cwV 1 hts gL_tick_X8_number rfl rfl rfl mdX8_number ⟨Nat.le_of_ble_eq_true rfl, Nat.le_of_ble_eq_true rfl⟩) hA hL rfl hl rfl (Nat.le_of_ble_eq_true rfl) dL_tick_412 ⟨Nat.le_of_ble_eq_true rfl, Nat.le_of_ble_eq_true rfl⟩) hA hL (fun r_412 H locs hr_412 hA hL => ?_)
    replace hr_412 : r_412 = v 2 := hr_412
    subst hr_412
    refine lv_aload_n hx hb dL_tick_415 rfl (lv_at hl 16 rfl) ?_
    refine lv_iconst (v := 3) hx hb dL_tick_416 (by decide) ?_
    refine lr_i (rL (rest := [.int (v 2), .int ((preG u v g b0 16) + 1)]) ⟨hx, hb, hml, hown, hts⟩ (LB_number l G cA A o (u, v, f, g, L) n K ch 3 ) (cwV 1 hts gL_tick_X8_number rfl rfl rfl mdX8_number ⟨Nat.le_of_ble_eq_true rfl, Nat.le_of_ble_eq_true rfl⟩) hA hL rfl hl rfl (Nat.le_of_ble_eq_true rfl) dL_tick_417 ⟨Nat.le_of_ble_eq_true rfl, Nat.le_of_ble_eq_true rfl⟩) hA hL (fun r_417 H locs hr_417 hA hL => ?_)
    replace hr_417 : r_417 = v 3 := hr_417
    subst hr_417
    refine lv_iadd hx hb dL_tick_420 ?_
    refine lv_icmp_le (tgt := 428) hx hb dL_tick_421 (by decide) (fun c_421 => ?_) (fun c_421 => ?_)
    · skip
      refine lv_iconst (v := 0) hx hb dL_tick_428 (by decide) ?_
      refine lv_istore (lv' := [(18, .int 0), (17, .int 1), (4, .int ((preG u v g b0 16) + 1)), (15, .int 1), (16, .float (f 7)), (14, .int 0), (13, .int (cnF g (nI n) (nI K) ((bestK u g) + 1))), (12, .float ((goF u v f g b0) 7)), (11, .int (bestK u g)), (10, .int (oneF (g 12))), (9, .int (g 11)), (8, .int (g 7)), (7, .int (oneF (g 17))), (6, .int (g 15)), (5, .int 0), (3, .float (f 7)), (2, .int 3), (0, .ref o), (1, .int b0)]) hx hb dL_tick_429 hl (by decide) rfl (fun ls hl => ?_)
      refine lv_aload_n hx hb dL_tick_431 rfl (lv_at hl 17 rfl) ?_
      refine lv_iload_n hx hb dL_tick_432 rfl (lv_at hl 18 rfl) ?_
      refine lv_iconst (v := 1) hx hb dL_tick_433 (by decide) ?_
      refine lw_i (rL (rest := []) ⟨hx, hb, hml, hown, hts⟩ (LB_pass_ok l G cA A o (u, v, f, g, L) n K ch hn b0 1 hb0 hb7 (by decide) (by decide) hT hG1 hBo) (cwV 2 hts gL_tick_X8_pass rfl rfl rfl mdX8_pass ⟨Nat.le_of_ble_eq_true rfl, Nat.le_of_ble_eq_true rfl⟩) hA hL rfl hl rfl (Nat.le_of_ble_eq_true rfl) dL_tick_434 ⟨Nat.le_of_ble_eq_true rfl, Nat.le_of_ble_eq_true rfl⟩) hA (fun r_434_1 _ H locs hr_434_1 hA hL => ?_)
      replace hL : LB G cA A o (u, v, (goF u v f g b0), (goG u v f g b0), (goL u v g L b0)) (recN n) K ch H := hL
      replace hr_434_1 : r_434_1 = (goG u v f g b0) 13 := hr_434_1
      subst hr_434_1
      refine lv_iload hx hb dL_tick_437 (lv_at hl 3 rfl) ?_
      refine lv_icmp_ne (tgt := 489) hx hb dL_tick_439 (by decide) (fun c_439_1 => absurd (ht.1.trans (if_neg c_282)) c_439_1) (fun c_439_1 => ?_)
      refine lv_aload_n hx hb dL_tick_442 rfl (lv_at hl 17 rfl) ?_
      refine lr_f (rL (rest := []) ⟨hx, hb, hml, hown, hts⟩ (LB_place l G cA A o (u, v, (goF u v f g b0), (goG u v f g b0), (goL u v g L b0)) (recN n) K ch  ) (cwV 0 hts gL_tick_X8_place rfl rfl rfl mdX8_place ⟨Nat.le_of_ble_eq_true rfl, Nat.le_of_ble_eq_true rfl⟩) hA hL rfl hl rfl (Nat.le_of_ble_eq_true rfl) dL_tick_443 ⟨Nat.le_of_ble_eq_true rfl, Nat.le_of_ble_eq_true rfl⟩) hA hL (fun r_443_1 H locs hr_443_1 hA hL => ?_)
      replace hr_443_1 : r_443_1 = (goF u v f g b0) 7 := hr_443_1
      subst hr_443_1
      refine lv_fload hx hb dL_tick_446 (lv_at hl 4 rfl) ?_
      refine lv_fcmp hx hb dL_tick_448 ?_
      refine lv_if_ne (tgt := 489) hx hb dL_tick_449 (by decide) (fun c_449_1 => absurd (by rw [ht.2.2.2.1]; exact cmp_self (of_vf hf) _) c_449_1) (fun c_449_1 => ?_)
      refine lv_fload hx hb dL_tick_452 (lv_at hl 7 rfl) ?_
      refine lv_fload hx hb dL_tick_454 (lv_at hl 4 rfl) ?_
      refine lv_fcmp hx hb dL_tick_456 ?_
      refine lv_if_ne (tgt := 489) hx hb dL_tick_457 (by decide) (fun c_457_1 => absurd (by rw [ht.2.2.2.1]; exact cmp_self (of_vf hf) _) c_457_1) (fun c_457_1 => ?_)
      refine lv_aload_n hx hb dL_tick_460 rfl (lv_at hl 17 rfl) ?_
      refine lv_iconst (v := 1) hx hb dL_tick_461 (by decide) ?_
      refine lr_i (rL (rest := []) ⟨hx, hb, hml, hown, hts⟩ (LB_door l G cA A o (u, v, (goF u v f g b0), (goG u v f g b0), (goL u v g L b0)) (recN n) K ch 1 ) (cwV 1 hts gL_tick_X8_door rfl rfl rfl mdX8_door ⟨Nat.le_of_ble_eq_true rfl, Nat.le_of_ble_eq_true rfl⟩) hA hL rfl hl rfl (Nat.le_of_ble_eq_true rfl) dL_tick_462 ⟨Nat.le_of_ble_eq_true rfl, Nat.le_of_ble_eq_true rfl⟩) hA hL (fun r_462_1 H locs hr_462_1 hA hL => ?_)
      replace hr_462_1 : r_462_1 = (goG u v f g b0) 16 := hr_462_1
      subst hr_462_1
      refine lv_iload hx hb dL_tick_465 (lv_at hl 2 rfl) ?_
      refine lv_icmp_ne (tgt := 489) hx hb dL_tick_467 (by decide) (fun c_467_1 => absurd (ht.2.1.trans (if_neg c_282)) c_467_1) (fun c_467_1 => ?_)
      refine lv_aload_n hx hb dL_tick_470 rfl (lv_at hl 17 rfl) ?_
      refine lv_iconst (v := 2) hx hb dL_tick_471 (by decide) ?_
      refine lr_i (rL (rest := []) ⟨hx, hb, hml, hown, hts⟩ (LB_door l G cA A o (u, v, (goF u v f g b0), (goG u v f g b0), (goL u v g L b0)) (recN n) K ch 2 ) (cwV 1 hts gL_tick_X8_door rfl rfl rfl mdX8_door ⟨Nat.le_of_ble_eq_true rfl, Nat.le_of_ble_eq_true rfl⟩) hA hL rfl hl rfl (Nat.le_of_ble_eq_true rfl) dL_tick_472 ⟨Nat.le_of_ble_eq_true rfl, Nat.le_of_ble_eq_true rfl⟩) hA hL (fun r_472_1 H locs hr_472_1 hA hL => ?_)
      replace hr_472_1 : r_472_1 = oneF ((goG u v f g b0) 17) := hr_472_1
      subst hr_472_1
      refine lv_iload hx hb dL_tick_475 (lv_at hl 0 rfl) ?_
      refine lv_if_eq (tgt := 484) hx hb dL_tick_477 (by decide) (fun _ => ?_) (fun h9 => absurd (by decide) h9)
      refine lv_iload hx hb dL_tick_484 (lv_at hl 12 rfl) ?_
      refine lv_icmp_eq (tgt := 491) hx hb dL_tick_486 (by decide) (fun c_486_1 => ?_) (fun c_486_1 => absurd (by rw [(ht.2.2.1.trans ((if_neg c_282).trans (if_pos c_421)))] <;> rfl) c_486_1)
      refine lv_iload hx hb dL_tick_491 (lv_at hl 5 rfl) ?_
      refine lv_if_eq (tgt := 554) hx hb dL_tick_493 (by decide) (fun _ => ?_) (fun h9 => absurd (by decide) h9)
      refine lv_iload_n hx hb dL_tick_554 rfl (lv_at hl 18 rfl) ?_
      refine lv_if_eq (tgt := 599) hx hb dL_tick_555 (by decide) (fun c_555_1 => absurd c_555_1 hbz) (fun c_555_1 => ?_)
      refine lv_aload_n hx hb dL_tick_558 rfl (lv_at hl 17 rfl) ?_
      refine lv_iconst (v := 0) hx hb dL_tick_559 (by decide) ?_
      refine lr_i (rL (rest := []) ⟨hx, hb, hml, hown, hts⟩ (LB_thing l G cA A o (u, v, (goF u v f g b0), (goG u v f g b0), (goL u v g L b0)) (recN n) K ch 0 hP2) (cwV 1 hts gL_tick_X8_thing rfl rfl rfl mdX8_thing ⟨Nat.le_of_ble_eq_true rfl, Nat.le_of_ble_eq_true rfl⟩) hA hL rfl hl rfl (Nat.le_of_ble_eq_true rfl) dL_tick_560 ⟨Nat.le_of_ble_eq_true rfl, Nat.le_of_ble_eq_true rfl⟩) hA hL (fun r_560_1 H locs hr_560_1 hA hL => ?_)
      replace hr_560_1 : r_560_1 = g 7 + 1 := hr_560_1.trans ((th_0 h5).trans e7t)
      subst hr_560_1
      refine lv_iload hx hb dL_tick_563 (lv_at hl 11 rfl) ?_
      refine lv_if_ge (tgt := 572) hx hb dL_tick_565 (by decide) (fun c_565_1 => ?_) (fun c_565_1 => absurd c_48 c_565_1)
      refine lv_iload hx hb dL_tick_572 (lv_at hl 11 rfl) ?_
      refine lv_iconst (v := 1) hx hb dL_tick_574 (by decide) ?_
      refine lv_iadd hx hb dL_tick_575 ?_
      refine lv_icmp_ne (tgt := 603) hx hb dL_tick_576 (by decide) (fun c_576_1 => absurd rfl c_576_1) (fun c_576_1 => ?_)
      refine lv_aload_n hx hb dL_tick_579 rfl (lv_at hl 17 rfl) ?_
      refine lv_bipush (v := 6) hx hb dL_tick_580 (by decide) ?_
      refine lr_i (rL (rest := []) ⟨hx, hb, hml, hown, hts⟩ (LB_thing l G cA A o (u, v, (goF u v f g b0), (goG u v f g b0), (goL u v g L b0)) (recN n) K ch 6 hP2) (cwV 1 hts gL_tick_X8_thing rfl rfl rfl mdX8_thing ⟨Nat.le_of_ble_eq_true rfl, Nat.le_of_ble_eq_true rfl⟩) hA hL rfl hl rfl (Nat.le_of_ble_eq_true rfl) dL_tick_582 ⟨Nat.le_of_ble_eq_true rfl, Nat.le_of_ble_eq_true rfl⟩) hA hL (fun r_582_1 H locs hr_582_1 hA hL => ?_)
      replace hr_582_1 : r_582_1 = oneF ((goG u v f g b0) 12) := hr_582_1.trans (th_6 h5)
      subst hr_582_1
      refine lv_iload hx hb dL_tick_585 (lv_at hl 1 rfl) ?_
      refine lv_if_eq (tgt := 594) hx hb dL_tick_587 (by decide) (fun h9 => absurd h9 (by decide)) (fun _ => ?_)
      refine lv_iconst (v := 1) hx hb dL_tick_590 (by decide) ?_
      refine lv_goto (tgt := 596) hx hb dL_tick_591 (by decide) ?_
      refine lv_icmp_ne (tgt := 603) hx hb dL_tick_596 (by decide) (fun c_596_1 => absurd (by rw [ht.2.2.2.2, if_neg c_282] <;> rfl) c_596_1) (fun c_596_1 => ?_)
      refine lv_iconst (v := 1) hx hb dL_tick_599 (by decide) ?_
      refine lv_goto (tgt := 604) hx hb dL_tick_600 (by decide) ?_
      exact en_l (post := fun r (_ : Unit) => r = 1) (B := fun _ H => LB G cA A o (u, v, (goF u v f g b0), (goG u v f g b0), (goL u v g L b0)) (recN n) K ch H) () hx hb hr hlocks hA rfl hL dL_tick_604
    · skip
      refine lv_iconst (v := 1) hx hb dL_tick_424 (by decide) ?_
      refine lv_goto (tgt := 429) hx hb dL_tick_425 (by decide) ?_
      refine lv_istore (lv' := [(18, .int 1), (17, .int 1), (4, .int ((preG u v g b0 16) + 1)), (15, .int 1), (16, .float (f 7)), (14, .int 0), (13, .int (cnF g (nI n) (nI K) ((bestK u g) + 1))), (12, .float ((goF u v f g b0) 7)), (11, .int (bestK u g)), (10, .int (oneF (g 12))), (9, .int (g 11)), (8, .int (g 7)), (7, .int (oneF (g 17))), (6, .int (g 15)), (5, .int 0), (3, .float (f 7)), (2, .int 3), (0, .ref o), (1, .int b0)]) hx hb dL_tick_429 hl (by decide) rfl (fun ls hl => ?_)
      refine lv_aload_n hx hb dL_tick_431 rfl (lv_at hl 17 rfl) ?_
      refine lv_iload_n hx hb dL_tick_432 rfl (lv_at hl 18 rfl) ?_
      refine lv_iconst (v := 1) hx hb dL_tick_433 (by decide) ?_
      refine lw_i (rL (rest := []) ⟨hx, hb, hml, hown, hts⟩ (LB_pass_ok l G cA A o (u, v, f, g, L) n K ch hn b0 1 hb0 hb7 (by decide) (by decide) hT hG1 hBo) (cwV 2 hts gL_tick_X8_pass rfl rfl rfl mdX8_pass ⟨Nat.le_of_ble_eq_true rfl, Nat.le_of_ble_eq_true rfl⟩) hA hL rfl hl rfl (Nat.le_of_ble_eq_true rfl) dL_tick_434 ⟨Nat.le_of_ble_eq_true rfl, Nat.le_of_ble_eq_true rfl⟩) hA (fun r_434_2 _ H locs hr_434_2 hA hL => ?_)
      replace hL : LB G cA A o (u, v, (goF u v f g b0), (goG u v f g b0), (goL u v g L b0)) (recN n) K ch H := hL
      replace hr_434_2 : r_434_2 = (goG u v f g b0) 13 := hr_434_2
      subst hr_434_2
      refine lv_iload hx hb dL_tick_437 (lv_at hl 3 rfl) ?_
      refine lv_icmp_ne (tgt := 489) hx hb dL_tick_439 (by decide) (fun c_439_2 => absurd (ht.1.trans (if_neg c_282)) c_439_2) (fun c_439_2 => ?_)
      refine lv_aload_n hx hb dL_tick_442 rfl (lv_at hl 17 rfl) ?_
      refine lr_f (rL (rest := []) ⟨hx, hb, hml, hown, hts⟩ (LB_place l G cA A o (u, v, (goF u v f g b0), (goG u v f g b0), (goL u v g L b0)) (recN n) K ch  ) (cwV 0 hts gL_tick_X8_place rfl rfl rfl mdX8_place ⟨Nat.le_of_ble_eq_true rfl, Nat.le_of_ble_eq_true rfl⟩) hA hL rfl hl rfl (Nat.le_of_ble_eq_true rfl) dL_tick_443 ⟨Nat.le_of_ble_eq_true rfl, Nat.le_of_ble_eq_true rfl⟩) hA hL (fun r_443_2 H locs hr_443_2 hA hL => ?_)
      replace hr_443_2 : r_443_2 = (goF u v f g b0) 7 := hr_443_2
      subst hr_443_2
      refine lv_fload hx hb dL_tick_446 (lv_at hl 4 rfl) ?_
      refine lv_fcmp hx hb dL_tick_448 ?_
      refine lv_if_ne (tgt := 489) hx hb dL_tick_449 (by decide) (fun c_449_2 => absurd (by rw [ht.2.2.2.1]; exact cmp_self (of_vf hf) _) c_449_2) (fun c_449_2 => ?_)
      refine lv_fload hx hb dL_tick_452 (lv_at hl 7 rfl) ?_
      refine lv_fload hx hb dL_tick_454 (lv_at hl 4 rfl) ?_
      refine lv_fcmp hx hb dL_tick_456 ?_
      refine lv_if_ne (tgt := 489) hx hb dL_tick_457 (by decide) (fun c_457_2 => absurd (by rw [ht.2.2.2.1]; exact cmp_self (of_vf hf) _) c_457_2) (fun c_457_2 => ?_)
      refine lv_aload_n hx hb dL_tick_460 rfl (lv_at hl 17 rfl) ?_
      refine lv_iconst (v := 1) hx hb dL_tick_461 (by decide) ?_
      refine lr_i (rL (rest := []) ⟨hx, hb, hml, hown, hts⟩ (LB_door l G cA A o (u, v, (goF u v f g b0), (goG u v f g b0), (goL u v g L b0)) (recN n) K ch 1 ) (cwV 1 hts gL_tick_X8_door rfl rfl rfl mdX8_door ⟨Nat.le_of_ble_eq_true rfl, Nat.le_of_ble_eq_true rfl⟩) hA hL rfl hl rfl (Nat.le_of_ble_eq_true rfl) dL_tick_462 ⟨Nat.le_of_ble_eq_true rfl, Nat.le_of_ble_eq_true rfl⟩) hA hL (fun r_462_2 H locs hr_462_2 hA hL => ?_)
      replace hr_462_2 : r_462_2 = (goG u v f g b0) 16 := hr_462_2
      subst hr_462_2
      refine lv_iload hx hb dL_tick_465 (lv_at hl 2 rfl) ?_
      refine lv_icmp_ne (tgt := 489) hx hb dL_tick_467 (by decide) (fun c_467_2 => absurd (ht.2.1.trans (if_neg c_282)) c_467_2) (fun c_467_2 => ?_)
      refine lv_aload_n hx hb dL_tick_470 rfl (lv_at hl 17 rfl) ?_
      refine lv_iconst (v := 2) hx hb dL_tick_471 (by decide) ?_
      refine lr_i (rL (rest := []) ⟨hx, hb, hml, hown, hts⟩ (LB_door l G cA A o (u, v, (goF u v f g b0), (goG u v f g b0), (goL u v g L b0)) (recN n) K ch 2 ) (cwV 1 hts gL_tick_X8_door rfl rfl rfl mdX8_door ⟨Nat.le_of_ble_eq_true rfl, Nat.le_of_ble_eq_true rfl⟩) hA hL rfl hl rfl (Nat.le_of_ble_eq_true rfl) dL_tick_472 ⟨Nat.le_of_ble_eq_true rfl, Nat.le_of_ble_eq_true rfl⟩) hA hL (fun r_472_2 H locs hr_472_2 hA hL => ?_)
      replace hr_472_2 : r_472_2 = oneF ((goG u v f g b0) 17) := hr_472_2
      subst hr_472_2
      refine lv_iload hx hb dL_tick_475 (lv_at hl 0 rfl) ?_
      refine lv_if_eq (tgt := 484) hx hb dL_tick_477 (by decide) (fun h9 => absurd h9 (by decide)) (fun _ => ?_)
      refine lv_iconst (v := 1) hx hb dL_tick_480 (by decide) ?_
      refine lv_goto (tgt := 486) hx hb dL_tick_481 (by decide) ?_
      refine lv_icmp_eq (tgt := 491) hx hb dL_tick_486 (by decide) (fun c_486_2 => ?_) (fun c_486_2 => absurd (by rw [(ht.2.2.1.trans ((if_neg c_282).trans (if_neg c_421)))] <;> rfl) c_486_2)
      refine lv_iload hx hb dL_tick_491 (lv_at hl 5 rfl) ?_
      refine lv_if_eq (tgt := 554) hx hb dL_tick_493 (by decide) (fun _ => ?_) (fun h9 => absurd (by decide) h9)
      refine lv_iload_n hx hb dL_tick_554 rfl (lv_at hl 18 rfl) ?_
      refine lv_if_eq (tgt := 599) hx hb dL_tick_555 (by decide) (fun c_555_2 => absurd c_555_2 hbz) (fun c_555_2 => ?_)
      refine lv_aload_n hx hb dL_tick_558 rfl (lv_at hl 17 rfl) ?_
      refine lv_iconst (v := 0) hx hb dL_tick_559 (by decide) ?_
      refine lr_i (rL (rest := []) ⟨hx, hb, hml, hown, hts⟩ (LB_thing l G cA A o (u, v, (goF u v f g b0), (goG u v f g b0), (goL u v g L b0)) (recN n) K ch 0 hP2) (cwV 1 hts gL_tick_X8_thing rfl rfl rfl mdX8_thing ⟨Nat.le_of_ble_eq_true rfl, Nat.le_of_ble_eq_true rfl⟩) hA hL rfl hl rfl (Nat.le_of_ble_eq_true rfl) dL_tick_560 ⟨Nat.le_of_ble_eq_true rfl, Nat.le_of_ble_eq_true rfl⟩) hA hL (fun r_560_2 H locs hr_560_2 hA hL => ?_)
      replace hr_560_2 : r_560_2 = g 7 + 1 := hr_560_2.trans ((th_0 h5).trans e7t)
      subst hr_560_2
      refine lv_iload hx hb dL_tick_563 (lv_at hl 11 rfl) ?_
      refine lv_if_ge (tgt := 572) hx hb dL_tick_565 (by decide) (fun c_565_2 => ?_) (fun c_565_2 => absurd c_48 c_565_2)
      refine lv_iload hx hb dL_tick_572 (lv_at hl 11 rfl) ?_
      refine lv_iconst (v := 1) hx hb dL_tick_574 (by decide) ?_
      refine lv_iadd hx hb dL_tick_575 ?_
      refine lv_icmp_ne (tgt := 603) hx hb dL_tick_576 (by decide) (fun c_576_2 => absurd rfl c_576_2) (fun c_576_2 => ?_)
      refine lv_aload_n hx hb dL_tick_579 rfl (lv_at hl 17 rfl) ?_
      refine lv_bipush (v := 6) hx hb dL_tick_580 (by decide) ?_
      refine lr_i (rL (rest := []) ⟨hx, hb, hml, hown, hts⟩ (LB_thing l G cA A o (u, v, (goF u v f g b0), (goG u v f g b0), (goL u v g L b0)) (recN n) K ch 6 hP2) (cwV 1 hts gL_tick_X8_thing rfl rfl rfl mdX8_thing ⟨Nat.le_of_ble_eq_true rfl, Nat.le_of_ble_eq_true rfl⟩) hA hL rfl hl rfl (Nat.le_of_ble_eq_true rfl) dL_tick_582 ⟨Nat.le_of_ble_eq_true rfl, Nat.le_of_ble_eq_true rfl⟩) hA hL (fun r_582_2 H locs hr_582_2 hA hL => ?_)
      replace hr_582_2 : r_582_2 = oneF ((goG u v f g b0) 12) := hr_582_2.trans (th_6 h5)
      subst hr_582_2
      refine lv_iload hx hb dL_tick_585 (lv_at hl 1 rfl) ?_
      refine lv_if_eq (tgt := 594) hx hb dL_tick_587 (by decide) (fun h9 => absurd h9 (by decide)) (fun _ => ?_)
      refine lv_iconst (v := 1) hx hb dL_tick_590 (by decide) ?_
      refine lv_goto (tgt := 596) hx hb dL_tick_591 (by decide) ?_
      refine lv_icmp_ne (tgt := 603) hx hb dL_tick_596 (by decide) (fun c_596_2 => absurd (by rw [ht.2.2.2.2, if_neg c_282] <;> rfl) c_596_2) (fun c_596_2 => ?_)
      refine lv_iconst (v := 1) hx hb dL_tick_599 (by decide) ?_
      refine lv_goto (tgt := 604) hx hb dL_tick_600 (by decide) ?_
      exact en_l (post := fun r (_ : Unit) => r = 1) (B := fun _ H => LB G cA A o (u, v, (goF u v f g b0), (goG u v f g b0), (goL u v g L b0)) (recN n) K ch H) () hx hb hr hlocks hA rfl hL dL_tick_604
