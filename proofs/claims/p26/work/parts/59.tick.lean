/-! tick(o, beams) (by wip/p26/tick.py) -/
theorem th_6 {u : FF} {g : GG} (hg : ¬ g 5 = 0) : thF u g 6 = oneF (g 12) := by unfold thF; rw [if_neg (by decide), if_pos (by decide), if_neg hg, if_neg (by decide), if_neg (by decide), if_neg (by decide), if_neg (by decide), if_neg (by decide), if_neg (by decide), if_pos rfl]
theorem one_z {x : Int32} (h : oneF x = 0) : x = 0 := by
  unfold oneF at h
  split at h
  · assumption
  · exact absurd h (by decide)
theorem one_nz {x : Int32} (h : ¬ oneF x = 0) : ¬ x = 0 := fun h9 => h (by rw [h9]; rfl)
theorem n32_0 : vf_n32 FP.fconst0 := by unfold vf_n32; decide +kernel
theorem n32_100 : vf_n32 1120403456 := by unfold vf_n32; decide +kernel
set_option maxHeartbeats 8000000 in
set_option maxRecDepth 100000 in
/-- tick(o, beams), in the state 0, case n0 -/
theorem cL_tick_0_n0 (l : Launch) (G : va_G) (cA : Nat → ClassId) (A : Nat → Prop) (o : Nat) (u : FF) (v : GG) (f : FF) (g L : GG) (n K : Nat) (ch : GG) (hs : g 13 = 0) (hn : n ≤ 4) (hGo : GoOk u f g) (hPr : PrOk u g) (hP2 : PrOk u (goG u v f g 0)) (hT : ¬ 99999 < g 27 + nI 1) (hBo : Bo g) (hf : vf_n32 (f 7)) (hg : g 5 = 0) : Met l yL_tick wsL_tick ({ frames := 7, cells := 0, slots := 0, locals := 160 } : Room) (va_Pc [.ref o, .int 0] (LbP G cA A o (u, v, f, g, L) n K ch)) (va_Qi (fun r (_ : Unit) => r = 1) (fun _ t => LB G cA A o (u, v, (goF u v f g 0), (goG u v f g 0), (goL u v g L 0)) (recN n) K ch t.heap) A) 0 0 A := by
  refine ofW2 (cc := cL_tick) (maxL := 19) (ret := (some .boolean)) (own := RL) (by decide) rfl rfl (Nat.le_of_ble_eq_true rfl) rfl ?_
  intro p e s m below meth c ls hx hb hml hr hts hown hlocks hv hl
  obtain ⟨hE, hN, hL⟩ := hv
  have hA : At G cA A s s.heap [] := ⟨hE, hN, va_S.rf⟩
  obtain ⟨H, hH0⟩ : ∃ H, H = s.heap := ⟨_, rfl⟩
  rw [← hH0] at hL ⊢
  replace hA : At G cA A s H [] := by rw [hH0]; exact hA
  generalize ([] : List Loc) = locs at hA ⊢
  clear hH0
  replace hl : lv_has ls 19 [(0, .ref o), (1, .int 0)] := hl
  have hG1 : ∀ k, k < 1 → GoOk u (itS u v 0 (f, g, L) k).1 (itS u v 0 (f, g, L) k).2.1 := fun k hk => (show k = 0 by omega) ▸ hGo
  have ht := t_0 (b := 0) hs (u := u) (v := v) (f := f)
  have hp16 : preG u v g 0 16 = g 16 := pre_16c (clearR_none hg)
  refine lv_aload_n hx hb dL_tick_0 rfl (lv_at hl 0 rfl) ?_
  refine lv_iconst (v := 0) hx hb dL_tick_1 (by decide) ?_
  refine lr_i (rL (rest := []) ⟨hx, hb, hml, hown, hts⟩ (LB_door l G cA A o (u, v, f, g, L) n K ch 0 ) (cwV 1 hts gL_tick_X8_door rfl rfl rfl mdX8_door ⟨Nat.le_of_ble_eq_true rfl, Nat.le_of_ble_eq_true rfl⟩) hA hL rfl hl rfl (Nat.le_of_ble_eq_true rfl) dL_tick_2 ⟨Nat.le_of_ble_eq_true rfl, Nat.le_of_ble_eq_true rfl⟩) hA hL (fun r_2 H locs hr_2 hA hL => ?_)
  replace hr_2 : r_2 = 0 := hr_2.trans hs
  subst hr_2
  refine lv_istore_n (lv' := [(2, .int 0), (0, .ref o), (1, .int 0)]) hx hb dL_tick_5 rfl hl (by decide) rfl (fun ls hl => ?_)
  refine lv_aload_n hx hb dL_tick_6 rfl (lv_at hl 1 rfl) ?_
  refine lr_f (rL (rest := []) ⟨hx, hb, hml, hown, hts⟩ (LB_place l G cA A o (u, v, f, g, L) n K ch  ) (cwV 0 hts gL_tick_X8_place rfl rfl rfl mdX8_place ⟨Nat.le_of_ble_eq_true rfl, Nat.le_of_ble_eq_true rfl⟩) hA hL rfl hl rfl (Nat.le_of_ble_eq_true rfl) dL_tick_7 ⟨Nat.le_of_ble_eq_true rfl, Nat.le_of_ble_eq_true rfl⟩) hA hL (fun r_7 H locs hr_7 hA hL => ?_)
  replace hr_7 : r_7 = f 7 := hr_7
  subst hr_7
  refine lv_fstore_n (lv' := [(3, .float (f 7)), (2, .int 0), (0, .ref o), (1, .int 0)]) hx hb dL_tick_10 rfl hl (by decide) rfl (fun ls hl => ?_)
  refine lv_aload_n hx hb dL_tick_11 rfl (lv_at hl 2 rfl) ?_
  refine lv_iconst (v := 1) hx hb dL_tick_12 (by decide) ?_
  refine lr_i (rL (rest := []) ⟨hx, hb, hml, hown, hts⟩ (LB_door l G cA A o (u, v, f, g, L) n K ch 1 ) (cwV 1 hts gL_tick_X8_door rfl rfl rfl mdX8_door ⟨Nat.le_of_ble_eq_true rfl, Nat.le_of_ble_eq_true rfl⟩) hA hL rfl hl rfl (Nat.le_of_ble_eq_true rfl) dL_tick_13 ⟨Nat.le_of_ble_eq_true rfl, Nat.le_of_ble_eq_true rfl⟩) hA hL (fun r_13 H locs hr_13 hA hL => ?_)
  replace hr_13 : r_13 = g 16 := hr_13
  subst hr_13
  refine lv_istore (lv' := [(4, .int (g 16)), (3, .float (f 7)), (2, .int 0), (0, .ref o), (1, .int 0)]) hx hb dL_tick_16 hl (by decide) rfl (fun ls hl => ?_)
  refine lv_aload_n hx hb dL_tick_18 rfl (lv_at hl 3 rfl) ?_
  refine lv_iconst (v := 3) hx hb dL_tick_19 (by decide) ?_
  refine lr_i (rL (rest := []) ⟨hx, hb, hml, hown, hts⟩ (LB_door l G cA A o (u, v, f, g, L) n K ch 3 ) (cwV 1 hts gL_tick_X8_door rfl rfl rfl mdX8_door ⟨Nat.le_of_ble_eq_true rfl, Nat.le_of_ble_eq_true rfl⟩) hA hL rfl hl rfl (Nat.le_of_ble_eq_true rfl) dL_tick_20 ⟨Nat.le_of_ble_eq_true rfl, Nat.le_of_ble_eq_true rfl⟩) hA hL (fun r_20 H locs hr_20 hA hL => ?_)
  rw [show doF f g 3 = 0 from (by show (if g 13 = 2 then g 14 else 0) = 0; rw [if_neg (by rw [hs]; decide)])] at hr_20
  subst hr_20
  refine lv_istore (lv' := [(5, .int 0), (4, .int (g 16)), (3, .float (f 7)), (2, .int 0), (0, .ref o), (1, .int 0)]) hx hb dL_tick_23 hl (by decide) rfl (fun ls hl => ?_)
  refine lv_aload_n hx hb dL_tick_25 rfl (lv_at hl 4 rfl) ?_
  refine lv_iconst (v := 4) hx hb dL_tick_26 (by decide) ?_
  refine lr_i (rL (rest := []) ⟨hx, hb, hml, hown, hts⟩ (LB_door l G cA A o (u, v, f, g, L) n K ch 4 ) (cwV 1 hts gL_tick_X8_door rfl rfl rfl mdX8_door ⟨Nat.le_of_ble_eq_true rfl, Nat.le_of_ble_eq_true rfl⟩) hA hL rfl hl rfl (Nat.le_of_ble_eq_true rfl) dL_tick_27 ⟨Nat.le_of_ble_eq_true rfl, Nat.le_of_ble_eq_true rfl⟩) hA hL (fun r_27 H locs hr_27 hA hL => ?_)
  rw [show doF f g 4 = 0 from (by show (if g 13 = 3 then g 15 else 0) = 0; rw [if_neg (by rw [hs]; decide)])] at hr_27
  subst hr_27
  refine lv_istore (lv' := [(6, .int 0), (5, .int 0), (4, .int (g 16)), (3, .float (f 7)), (2, .int 0), (0, .ref o), (1, .int 0)]) hx hb dL_tick_30 hl (by decide) rfl (fun ls hl => ?_)
  refine lv_aload_n hx hb dL_tick_32 rfl (lv_at hl 5 rfl) ?_
  refine lv_iconst (v := 2) hx hb dL_tick_33 (by decide) ?_
  refine lr_i (rL (rest := []) ⟨hx, hb, hml, hown, hts⟩ (LB_door l G cA A o (u, v, f, g, L) n K ch 2 ) (cwV 1 hts gL_tick_X8_door rfl rfl rfl mdX8_door ⟨Nat.le_of_ble_eq_true rfl, Nat.le_of_ble_eq_true rfl⟩) hA hL rfl hl rfl (Nat.le_of_ble_eq_true rfl) dL_tick_34 ⟨Nat.le_of_ble_eq_true rfl, Nat.le_of_ble_eq_true rfl⟩) hA hL (fun r_34 H locs hr_34 hA hL => ?_)
  replace hr_34 : r_34 = oneF (g 17) := hr_34
  subst hr_34
  refine lv_istore (lv' := [(7, .int (oneF (g 17))), (6, .int 0), (5, .int 0), (4, .int (g 16)), (3, .float (f 7)), (2, .int 0), (0, .ref o), (1, .int 0)]) hx hb dL_tick_37 hl (by decide) rfl (fun ls hl => ?_)
  refine lv_aload_n hx hb dL_tick_39 rfl (lv_at hl 6 rfl) ?_
  refine lv_iconst (v := 0) hx hb dL_tick_40 (by decide) ?_
  refine lr_i (rL (rest := []) ⟨hx, hb, hml, hown, hts⟩ (LB_thing l G cA A o (u, v, f, g, L) n K ch 0 hPr) (cwV 1 hts gL_tick_X8_thing rfl rfl rfl mdX8_thing ⟨Nat.le_of_ble_eq_true rfl, Nat.le_of_ble_eq_true rfl⟩) hA hL rfl hl rfl (Nat.le_of_ble_eq_true rfl) dL_tick_41 ⟨Nat.le_of_ble_eq_true rfl, Nat.le_of_ble_eq_true rfl⟩) hA hL (fun r_41 H locs hr_41 hA hL => ?_)
  replace hr_41 : r_41 = -5 := hr_41.trans (th_none 0 (by decide) (by decide) hg)
  subst hr_41
  refine lv_istore (lv' := [(8, .int (-5)), (7, .int (oneF (g 17))), (6, .int 0), (5, .int 0), (4, .int (g 16)), (3, .float (f 7)), (2, .int 0), (0, .ref o), (1, .int 0)]) hx hb dL_tick_44 hl (by decide) rfl (fun ls hl => ?_)
  refine lv_iload hx hb dL_tick_46 (lv_at hl 0 rfl) ?_
  refine lv_if_ge (tgt := 55) hx hb dL_tick_48 (by decide) (fun h9 => absurd h9 (by decide)) (fun _ => ?_)
  refine lv_iconst (v := 0) hx hb dL_tick_51 (by decide) ?_
  refine lv_goto (tgt := 60) hx hb dL_tick_52 (by decide) ?_
  refine lv_istore (lv' := [(9, .int 0), (8, .int (-5)), (7, .int (oneF (g 17))), (6, .int 0), (5, .int 0), (4, .int (g 16)), (3, .float (f 7)), (2, .int 0), (0, .ref o), (1, .int 0)]) hx hb dL_tick_60 hl (by decide) rfl (fun ls hl => ?_)
  refine lv_iload hx hb dL_tick_62 (lv_at hl 1 rfl) ?_
  refine lv_if_ge (tgt := 71) hx hb dL_tick_64 (by decide) (fun h9 => absurd h9 (by decide)) (fun _ => ?_)
  refine lv_iconst (v := 0) hx hb dL_tick_67 (by decide) ?_
  refine lv_goto (tgt := 77) hx hb dL_tick_68 (by decide) ?_
  refine lv_istore (lv' := [(10, .int 0), (9, .int 0), (8, .int (-5)), (7, .int (oneF (g 17))), (6, .int 0), (5, .int 0), (4, .int (g 16)), (3, .float (f 7)), (2, .int 0), (0, .ref o), (1, .int 0)]) hx hb dL_tick_77 hl (by decide) rfl (fun ls hl => ?_)
  refine lv_iload hx hb dL_tick_79 (lv_at hl 2 rfl) ?_
  refine lv_if_ge (tgt := 88) hx hb dL_tick_81 (by decide) (fun h9 => absurd h9 (by decide)) (fun _ => ?_)
  refine lv_iconst (v := 0) hx hb dL_tick_84 (by decide) ?_
  refine lv_goto (tgt := 94) hx hb dL_tick_85 (by decide) ?_
  refine lv_istore (lv' := [(11, .int 0), (10, .int 0), (9, .int 0), (8, .int (-5)), (7, .int (oneF (g 17))), (6, .int 0), (5, .int 0), (4, .int (g 16)), (3, .float (f 7)), (2, .int 0), (0, .ref o), (1, .int 0)]) hx hb dL_tick_94 hl (by decide) rfl (fun ls hl => ?_)
  refine lv_aload_n hx hb dL_tick_96 rfl (lv_at hl 10 rfl) ?_
  refine lv_iload_n hx hb dL_tick_97 rfl (lv_at hl 11 rfl) ?_
  refine lv_iconst (v := 1) hx hb dL_tick_98 (by decide) ?_
  refine lw_f (rL (rest := []) ⟨hx, hb, hml, hown, hts⟩ (LB_placeIn_ok l G cA A o (u, v, f, g, L) n K ch 0 1 (by decide) (by decide) (by decide) hG1) (cwV 2 hts gL_tick_X8_placeIn rfl rfl rfl mdX8_placeIn ⟨Nat.le_of_ble_eq_true rfl, Nat.le_of_ble_eq_true rfl⟩) hA hL rfl hl rfl (Nat.le_of_ble_eq_true rfl) dL_tick_99 ⟨Nat.le_of_ble_eq_true rfl, Nat.le_of_ble_eq_true rfl⟩) hA (fun r_99 _ H locs hr_99 hA hL => ?_)
  replace hL : LB G cA A o (u, v, f, g, L) n K ch H := hL
  replace hr_99 : r_99 = (goF u v f g 0) 7 := hr_99
  subst hr_99
  refine lv_fstore (lv' := [(12, .float ((goF u v f g 0) 7)), (11, .int 0), (10, .int 0), (9, .int 0), (8, .int (-5)), (7, .int (oneF (g 17))), (6, .int 0), (5, .int 0), (4, .int (g 16)), (3, .float (f 7)), (2, .int 0), (0, .ref o), (1, .int 0)]) hx hb dL_tick_102 hl (by decide) rfl (fun ls hl => ?_)
  refine lv_aload_n hx hb dL_tick_104 rfl (lv_at hl 11 rfl) ?_
  refine lv_iload hx hb dL_tick_105 (lv_at hl 1 rfl) ?_
  refine lv_iconst (v := 1) hx hb dL_tick_107 (by decide) ?_
  refine lv_iadd hx hb dL_tick_108 ?_
  refine W.eq (g2 := F0 m 109 ls [.int 1, .ref o]) rfl ?_
  refine lr_i (rL (rest := []) ⟨hx, hb, hml, hown, hts⟩ (LB_count l G cA A o (u, v, f, g, L) n K ch 1) (cwV 1 hts gL_tick_X8_count rfl rfl rfl mdX8_count ⟨Nat.le_of_ble_eq_true rfl, Nat.le_of_ble_eq_true rfl⟩) hA hL rfl hl rfl (Nat.le_of_ble_eq_true rfl) dL_tick_109 ⟨Nat.le_of_ble_eq_true rfl, Nat.le_of_ble_eq_true rfl⟩) hA hL (fun r_109 H locs hr_109 hA hL => ?_)
  replace hr_109 : r_109 = g 19 := hr_109
  subst hr_109
  refine lv_istore (lv' := [(13, .int (g 19)), (12, .float ((goF u v f g 0) 7)), (11, .int 0), (10, .int 0), (9, .int 0), (8, .int (-5)), (7, .int (oneF (g 17))), (6, .int 0), (5, .int 0), (4, .int (g 16)), (3, .float (f 7)), (2, .int 0), (0, .ref o), (1, .int 0)]) hx hb dL_tick_112 hl (by decide) rfl (fun ls hl => ?_)
  refine lv_iload hx hb dL_tick_114 (lv_at hl 5 rfl) ?_
  refine lv_if_le (tgt := 139) hx hb dL_tick_116 (by decide) (fun _ => ?_) (fun h9 => absurd (by decide) h9)
  refine lv_iconst (v := 0) hx hb dL_tick_139 (by decide) ?_
  refine lv_istore (lv' := [(14, .int 0), (13, .int (g 19)), (12, .float ((goF u v f g 0) 7)), (11, .int 0), (10, .int 0), (9, .int 0), (8, .int (-5)), (7, .int (oneF (g 17))), (6, .int 0), (5, .int 0), (4, .int (g 16)), (3, .float (f 7)), (2, .int 0), (0, .ref o), (1, .int 0)]) hx hb dL_tick_140 hl (by decide) rfl (fun ls hl => ?_)
  refine lv_iload hx hb dL_tick_142 (lv_at hl 10 rfl) ?_
  refine lv_iload hx hb dL_tick_144 (lv_at hl 0 rfl) ?_
  refine lv_if_eq (tgt := 169) hx hb dL_tick_146 (by decide) (fun _ => ?_) (fun h9 => absurd (by decide) h9)
  refine lv_iconst (v := 0) hx hb dL_tick_169 (by decide) ?_
  refine lv_isub hx hb dL_tick_170 ?_
  refine W.eq (g2 := F0 m 171 ls [.int (preG u v g 0 16)]) (by rw [hp16, Int32.sub_zero]) ?_
  refine lv_istore (lv' := [(4, .int (preG u v g 0 16)), (14, .int 0), (13, .int (g 19)), (12, .float ((goF u v f g 0) 7)), (11, .int 0), (10, .int 0), (9, .int 0), (8, .int (-5)), (7, .int (oneF (g 17))), (6, .int 0), (5, .int 0), (3, .float (f 7)), (2, .int 0), (0, .ref o), (1, .int 0)]) hx hb dL_tick_171 hl (by decide) rfl (fun ls hl => ?_)
  refine lv_iload_n hx hb dL_tick_173 rfl (lv_at hl 12 rfl) ?_
  refine lv_istore (lv' := [(15, .int 0), (4, .int (preG u v g 0 16)), (14, .int 0), (13, .int (g 19)), (12, .float ((goF u v f g 0) 7)), (11, .int 0), (10, .int 0), (9, .int 0), (8, .int (-5)), (7, .int (oneF (g 17))), (6, .int 0), (5, .int 0), (3, .float (f 7)), (2, .int 0), (0, .ref o), (1, .int 0)]) hx hb dL_tick_174 hl (by decide) rfl (fun ls hl => ?_)
  refine lv_fload_n hx hb dL_tick_176 rfl (lv_at hl 12 rfl) ?_
  refine lv_fstore (lv' := [(16, .float (f 7)), (15, .int 0), (4, .int (preG u v g 0 16)), (14, .int 0), (13, .int (g 19)), (12, .float ((goF u v f g 0) 7)), (11, .int 0), (10, .int 0), (9, .int 0), (8, .int (-5)), (7, .int (oneF (g 17))), (6, .int 0), (5, .int 0), (3, .float (f 7)), (2, .int 0), (0, .ref o), (1, .int 0)]) hx hb dL_tick_177 hl (by decide) rfl (fun ls hl => ?_)
  refine lv_iload_n hx hb dL_tick_179 rfl (lv_at hl 14 rfl) ?_
  refine lv_iconst (v := 1) hx hb dL_tick_180 (by decide) ?_
  refine lv_icmp_ne (tgt := 228) hx hb dL_tick_181 (by decide) (fun _ => ?_) (fun h9 => absurd h9 (by decide))
  refine lv_iload_n hx hb dL_tick_228 rfl (lv_at hl 14 rfl) ?_
  refine lv_iconst (v := 2) hx hb dL_tick_229 (by decide) ?_
  refine lv_icmp_ne (tgt := 264) hx hb dL_tick_230 (by decide) (fun _ => ?_) (fun h9 => absurd h9 (by decide))
  refine lv_iload_n hx hb dL_tick_264 rfl (lv_at hl 14 rfl) ?_
  refine lv_iconst (v := 3) hx hb dL_tick_265 (by decide) ?_
  refine lv_icmp_ne (tgt := 311) hx hb dL_tick_266 (by decide) (fun _ => ?_) (fun h9 => absurd h9 (by decide))
  refine lv_iload_n hx hb dL_tick_311 rfl (lv_at hl 14 rfl) ?_
  refine lv_iconst (v := 3) hx hb dL_tick_312 (by decide) ?_
  refine lv_icmp_ne (tgt := 385) hx hb dL_tick_313 (by decide) (fun _ => ?_) (fun h9 => absurd h9 (by decide))
  refine lv_iload_n hx hb dL_tick_385 rfl (lv_at hl 14 rfl) ?_
  refine lv_iconst (v := 3) hx hb dL_tick_386 (by decide) ?_
  refine lv_icmp_ne (tgt := 400) hx hb dL_tick_387 (by decide) (fun _ => ?_) (fun h9 => absurd h9 (by decide))
  refine lv_iconst (v := 0) hx hb dL_tick_400 (by decide) ?_
  refine lv_istore (lv' := [(17, .int 0), (16, .float (f 7)), (15, .int 0), (4, .int (preG u v g 0 16)), (14, .int 0), (13, .int (g 19)), (12, .float ((goF u v f g 0) 7)), (11, .int 0), (10, .int 0), (9, .int 0), (8, .int (-5)), (7, .int (oneF (g 17))), (6, .int 0), (5, .int 0), (3, .float (f 7)), (2, .int 0), (0, .ref o), (1, .int 0)]) hx hb dL_tick_401 hl (by decide) rfl (fun ls hl => ?_)
  refine lv_iload hx hb dL_tick_403 (lv_at hl 0 rfl) ?_
  refine lv_if_eq (tgt := 428) hx hb dL_tick_405 (by decide) (fun _ => ?_) (fun h9 => absurd (by decide) h9)
  refine lv_iconst (v := 0) hx hb dL_tick_428 (by decide) ?_
  refine lv_istore (lv' := [(18, .int 0), (17, .int 0), (16, .float (f 7)), (15, .int 0), (4, .int (preG u v g 0 16)), (14, .int 0), (13, .int (g 19)), (12, .float ((goF u v f g 0) 7)), (11, .int 0), (10, .int 0), (9, .int 0), (8, .int (-5)), (7, .int (oneF (g 17))), (6, .int 0), (5, .int 0), (3, .float (f 7)), (2, .int 0), (0, .ref o), (1, .int 0)]) hx hb dL_tick_429 hl (by decide) rfl (fun ls hl => ?_)
  refine lv_aload_n hx hb dL_tick_431 rfl (lv_at hl 17 rfl) ?_
  refine lv_iload_n hx hb dL_tick_432 rfl (lv_at hl 18 rfl) ?_
  refine lv_iconst (v := 1) hx hb dL_tick_433 (by decide) ?_
  refine lw_i (rL (rest := []) ⟨hx, hb, hml, hown, hts⟩ (LB_pass_ok l G cA A o (u, v, f, g, L) n K ch hn 0 1 (by decide) (by decide) (by decide) (by decide) hT hG1 hBo) (cwV 2 hts gL_tick_X8_pass rfl rfl rfl mdX8_pass ⟨Nat.le_of_ble_eq_true rfl, Nat.le_of_ble_eq_true rfl⟩) hA hL rfl hl rfl (Nat.le_of_ble_eq_true rfl) dL_tick_434 ⟨Nat.le_of_ble_eq_true rfl, Nat.le_of_ble_eq_true rfl⟩) hA (fun r_434 _ H locs hr_434 hA hL => ?_)
  replace hL : LB G cA A o (u, v, (goF u v f g 0), (goG u v f g 0), (goL u v g L 0)) (recN n) K ch H := hL
  replace hr_434 : r_434 = (goG u v f g 0) 13 := hr_434
  subst hr_434
  refine lv_iload hx hb dL_tick_437 (lv_at hl 3 rfl) ?_
  refine lv_icmp_ne (tgt := 489) hx hb dL_tick_439 (by decide) (fun c_439 => absurd ht.1 c_439) (fun c_439 => ?_)
  refine lv_aload_n hx hb dL_tick_442 rfl (lv_at hl 17 rfl) ?_
  refine lr_f (rL (rest := []) ⟨hx, hb, hml, hown, hts⟩ (LB_place l G cA A o (u, v, (goF u v f g 0), (goG u v f g 0), (goL u v g L 0)) (recN n) K ch  ) (cwV 0 hts gL_tick_X8_place rfl rfl rfl mdX8_place ⟨Nat.le_of_ble_eq_true rfl, Nat.le_of_ble_eq_true rfl⟩) hA hL rfl hl rfl (Nat.le_of_ble_eq_true rfl) dL_tick_443 ⟨Nat.le_of_ble_eq_true rfl, Nat.le_of_ble_eq_true rfl⟩) hA hL (fun r_443 H locs hr_443 hA hL => ?_)
  replace hr_443 : r_443 = (goF u v f g 0) 7 := hr_443
  subst hr_443
  refine lv_fload hx hb dL_tick_446 (lv_at hl 2 rfl) ?_
  refine lv_fcmp hx hb dL_tick_448 ?_
  refine lv_if_ne (tgt := 489) hx hb dL_tick_449 (by decide) (fun c_449 => absurd (by rw [ht.2.2.2]; exact cmp_self (of_vf hf) _) c_449) (fun c_449 => ?_)
  refine lv_fload hx hb dL_tick_452 (lv_at hl 7 rfl) ?_
  refine lv_fload hx hb dL_tick_454 (lv_at hl 2 rfl) ?_
  refine lv_fcmp hx hb dL_tick_456 ?_
  refine lv_if_ne (tgt := 489) hx hb dL_tick_457 (by decide) (fun c_457 => absurd (by rw [ht.2.2.2]; exact cmp_self (of_vf hf) _) c_457) (fun c_457 => ?_)
  refine lv_aload_n hx hb dL_tick_460 rfl (lv_at hl 17 rfl) ?_
  refine lv_iconst (v := 1) hx hb dL_tick_461 (by decide) ?_
  refine lr_i (rL (rest := []) ⟨hx, hb, hml, hown, hts⟩ (LB_door l G cA A o (u, v, (goF u v f g 0), (goG u v f g 0), (goL u v g L 0)) (recN n) K ch 1 ) (cwV 1 hts gL_tick_X8_door rfl rfl rfl mdX8_door ⟨Nat.le_of_ble_eq_true rfl, Nat.le_of_ble_eq_true rfl⟩) hA hL rfl hl rfl (Nat.le_of_ble_eq_true rfl) dL_tick_462 ⟨Nat.le_of_ble_eq_true rfl, Nat.le_of_ble_eq_true rfl⟩) hA hL (fun r_462 H locs hr_462 hA hL => ?_)
  replace hr_462 : r_462 = (goG u v f g 0) 16 := hr_462
  subst hr_462
  refine lv_iload hx hb dL_tick_465 (lv_at hl 4 rfl) ?_
  refine lv_icmp_ne (tgt := 489) hx hb dL_tick_467 (by decide) (fun c_467 => absurd ht.2.1 c_467) (fun c_467 => ?_)
  refine lv_aload_n hx hb dL_tick_470 rfl (lv_at hl 17 rfl) ?_
  refine lv_iconst (v := 2) hx hb dL_tick_471 (by decide) ?_
  refine lr_i (rL (rest := []) ⟨hx, hb, hml, hown, hts⟩ (LB_door l G cA A o (u, v, (goF u v f g 0), (goG u v f g 0), (goL u v g L 0)) (recN n) K ch 2 ) (cwV 1 hts gL_tick_X8_door rfl rfl rfl mdX8_door ⟨Nat.le_of_ble_eq_true rfl, Nat.le_of_ble_eq_true rfl⟩) hA hL rfl hl rfl (Nat.le_of_ble_eq_true rfl) dL_tick_472 ⟨Nat.le_of_ble_eq_true rfl, Nat.le_of_ble_eq_true rfl⟩) hA hL (fun r_472 H locs hr_472 hA hL => ?_)
  replace hr_472 : r_472 = oneF ((goG u v f g 0) 17) := hr_472
  subst hr_472
  refine lv_iload hx hb dL_tick_475 (lv_at hl 0 rfl) ?_
  refine lv_if_eq (tgt := 484) hx hb dL_tick_477 (by decide) (fun _ => ?_) (fun h9 => absurd (by decide) h9)
  refine lv_iload hx hb dL_tick_484 (lv_at hl 12 rfl) ?_
  refine lv_icmp_eq (tgt := 491) hx hb dL_tick_486 (by decide) (fun c_486 => ?_) (fun c_486 => absurd (by rw [ht.2.2.1] <;> rfl) c_486)
  refine lv_iload hx hb dL_tick_491 (lv_at hl 5 rfl) ?_
  refine lv_if_eq (tgt := 554) hx hb dL_tick_493 (by decide) (fun _ => ?_) (fun h9 => absurd (by decide) h9)
  refine lv_iload_n hx hb dL_tick_554 rfl (lv_at hl 18 rfl) ?_
  refine lv_if_eq (tgt := 599) hx hb dL_tick_555 (by decide) (fun _ => ?_) (fun h9 => absurd (by decide) h9)
  refine lv_iconst (v := 1) hx hb dL_tick_599 (by decide) ?_
  refine lv_goto (tgt := 604) hx hb dL_tick_600 (by decide) ?_
  exact en_l (post := fun r (_ : Unit) => r = 1) (B := fun _ H => LB G cA A o (u, v, (goF u v f g 0), (goG u v f g 0), (goL u v g L 0)) (recN n) K ch H) () hx hb hr hlocks hA rfl hL dL_tick_604
set_option maxHeartbeats 8000000 in
set_option maxRecDepth 100000 in
/-- tick(o, beams), in the state 1, case n0 -/
theorem cL_tick_1_n0 (l : Launch) (G : va_G) (cA : Nat → ClassId) (A : Nat → Prop) (o : Nat) (u : FF) (v : GG) (f : FF) (g L : GG) (n K : Nat) (ch : GG) (hs : g 13 = 1) (hn : n ≤ 4) (hGo : GoOk u f g) (hPr : PrOk u g) (hP2 : PrOk u (goG u v f g 0)) (hT : ¬ 99999 < g 27 + nI 1) (hBo : Bo g) (hf : vf_n32 (f 7)) (hg : g 5 = 0) : Met l yL_tick wsL_tick ({ frames := 7, cells := 0, slots := 0, locals := 160 } : Room) (va_Pc [.ref o, .int 0] (LbP G cA A o (u, v, f, g, L) n K ch)) (va_Qi (fun r (_ : Unit) => r = 1) (fun _ t => LB G cA A o (u, v, (goF u v f g 0), (goG u v f g 0), (goL u v g L 0)) (recN n) K ch t.heap) A) 0 0 A := by
  refine ofW2 (cc := cL_tick) (maxL := 19) (ret := (some .boolean)) (own := RL) (by decide) rfl rfl (Nat.le_of_ble_eq_true rfl) rfl ?_
  intro p e s m below meth c ls hx hb hml hr hts hown hlocks hv hl
  obtain ⟨hE, hN, hL⟩ := hv
  have hA : At G cA A s s.heap [] := ⟨hE, hN, va_S.rf⟩
  obtain ⟨H, hH0⟩ : ∃ H, H = s.heap := ⟨_, rfl⟩
  rw [← hH0] at hL ⊢
  replace hA : At G cA A s H [] := by rw [hH0]; exact hA
  generalize ([] : List Loc) = locs at hA ⊢
  clear hH0
  replace hl : lv_has ls 19 [(0, .ref o), (1, .int 0)] := hl
  have hG1 : ∀ k, k < 1 → GoOk u (itS u v 0 (f, g, L) k).1 (itS u v 0 (f, g, L) k).2.1 := fun k hk => (show k = 0 by omega) ▸ hGo
  have ht := t_1 (b := 0) hs (u := u) (v := v) (f := f)
  have hp16 : preG u v g 0 16 = g 16 := pre_16c (clearR_none hg)
  refine lv_aload_n hx hb dL_tick_0 rfl (lv_at hl 0 rfl) ?_
  refine lv_iconst (v := 0) hx hb dL_tick_1 (by decide) ?_
  refine lr_i (rL (rest := []) ⟨hx, hb, hml, hown, hts⟩ (LB_door l G cA A o (u, v, f, g, L) n K ch 0 ) (cwV 1 hts gL_tick_X8_door rfl rfl rfl mdX8_door ⟨Nat.le_of_ble_eq_true rfl, Nat.le_of_ble_eq_true rfl⟩) hA hL rfl hl rfl (Nat.le_of_ble_eq_true rfl) dL_tick_2 ⟨Nat.le_of_ble_eq_true rfl, Nat.le_of_ble_eq_true rfl⟩) hA hL (fun r_2 H locs hr_2 hA hL => ?_)
  replace hr_2 : r_2 = 1 := hr_2.trans hs
  subst hr_2
  refine lv_istore_n (lv' := [(2, .int 1), (0, .ref o), (1, .int 0)]) hx hb dL_tick_5 rfl hl (by decide) rfl (fun ls hl => ?_)
  refine lv_aload_n hx hb dL_tick_6 rfl (lv_at hl 1 rfl) ?_
  refine lr_f (rL (rest := []) ⟨hx, hb, hml, hown, hts⟩ (LB_place l G cA A o (u, v, f, g, L) n K ch  ) (cwV 0 hts gL_tick_X8_place rfl rfl rfl mdX8_place ⟨Nat.le_of_ble_eq_true rfl, Nat.le_of_ble_eq_true rfl⟩) hA hL rfl hl rfl (Nat.le_of_ble_eq_true rfl) dL_tick_7 ⟨Nat.le_of_ble_eq_true rfl, Nat.le_of_ble_eq_true rfl⟩) hA hL (fun r_7 H locs hr_7 hA hL => ?_)
  replace hr_7 : r_7 = f 7 := hr_7
  subst hr_7
  refine lv_fstore_n (lv' := [(3, .float (f 7)), (2, .int 1), (0, .ref o), (1, .int 0)]) hx hb dL_tick_10 rfl hl (by decide) rfl (fun ls hl => ?_)
  refine lv_aload_n hx hb dL_tick_11 rfl (lv_at hl 2 rfl) ?_
  refine lv_iconst (v := 1) hx hb dL_tick_12 (by decide) ?_
  refine lr_i (rL (rest := []) ⟨hx, hb, hml, hown, hts⟩ (LB_door l G cA A o (u, v, f, g, L) n K ch 1 ) (cwV 1 hts gL_tick_X8_door rfl rfl rfl mdX8_door ⟨Nat.le_of_ble_eq_true rfl, Nat.le_of_ble_eq_true rfl⟩) hA hL rfl hl rfl (Nat.le_of_ble_eq_true rfl) dL_tick_13 ⟨Nat.le_of_ble_eq_true rfl, Nat.le_of_ble_eq_true rfl⟩) hA hL (fun r_13 H locs hr_13 hA hL => ?_)
  replace hr_13 : r_13 = g 16 := hr_13
  subst hr_13
  refine lv_istore (lv' := [(4, .int (g 16)), (3, .float (f 7)), (2, .int 1), (0, .ref o), (1, .int 0)]) hx hb dL_tick_16 hl (by decide) rfl (fun ls hl => ?_)
  refine lv_aload_n hx hb dL_tick_18 rfl (lv_at hl 3 rfl) ?_
  refine lv_iconst (v := 3) hx hb dL_tick_19 (by decide) ?_
  refine lr_i (rL (rest := []) ⟨hx, hb, hml, hown, hts⟩ (LB_door l G cA A o (u, v, f, g, L) n K ch 3 ) (cwV 1 hts gL_tick_X8_door rfl rfl rfl mdX8_door ⟨Nat.le_of_ble_eq_true rfl, Nat.le_of_ble_eq_true rfl⟩) hA hL rfl hl rfl (Nat.le_of_ble_eq_true rfl) dL_tick_20 ⟨Nat.le_of_ble_eq_true rfl, Nat.le_of_ble_eq_true rfl⟩) hA hL (fun r_20 H locs hr_20 hA hL => ?_)
  rw [show doF f g 3 = 0 from (by show (if g 13 = 2 then g 14 else 0) = 0; rw [if_neg (by rw [hs]; decide)])] at hr_20
  subst hr_20
  refine lv_istore (lv' := [(5, .int 0), (4, .int (g 16)), (3, .float (f 7)), (2, .int 1), (0, .ref o), (1, .int 0)]) hx hb dL_tick_23 hl (by decide) rfl (fun ls hl => ?_)
  refine lv_aload_n hx hb dL_tick_25 rfl (lv_at hl 4 rfl) ?_
  refine lv_iconst (v := 4) hx hb dL_tick_26 (by decide) ?_
  refine lr_i (rL (rest := []) ⟨hx, hb, hml, hown, hts⟩ (LB_door l G cA A o (u, v, f, g, L) n K ch 4 ) (cwV 1 hts gL_tick_X8_door rfl rfl rfl mdX8_door ⟨Nat.le_of_ble_eq_true rfl, Nat.le_of_ble_eq_true rfl⟩) hA hL rfl hl rfl (Nat.le_of_ble_eq_true rfl) dL_tick_27 ⟨Nat.le_of_ble_eq_true rfl, Nat.le_of_ble_eq_true rfl⟩) hA hL (fun r_27 H locs hr_27 hA hL => ?_)
  rw [show doF f g 4 = 0 from (by show (if g 13 = 3 then g 15 else 0) = 0; rw [if_neg (by rw [hs]; decide)])] at hr_27
  subst hr_27
  refine lv_istore (lv' := [(6, .int 0), (5, .int 0), (4, .int (g 16)), (3, .float (f 7)), (2, .int 1), (0, .ref o), (1, .int 0)]) hx hb dL_tick_30 hl (by decide) rfl (fun ls hl => ?_)
  refine lv_aload_n hx hb dL_tick_32 rfl (lv_at hl 5 rfl) ?_
  refine lv_iconst (v := 2) hx hb dL_tick_33 (by decide) ?_
  refine lr_i (rL (rest := []) ⟨hx, hb, hml, hown, hts⟩ (LB_door l G cA A o (u, v, f, g, L) n K ch 2 ) (cwV 1 hts gL_tick_X8_door rfl rfl rfl mdX8_door ⟨Nat.le_of_ble_eq_true rfl, Nat.le_of_ble_eq_true rfl⟩) hA hL rfl hl rfl (Nat.le_of_ble_eq_true rfl) dL_tick_34 ⟨Nat.le_of_ble_eq_true rfl, Nat.le_of_ble_eq_true rfl⟩) hA hL (fun r_34 H locs hr_34 hA hL => ?_)
  replace hr_34 : r_34 = oneF (g 17) := hr_34
  subst hr_34
  refine lv_istore (lv' := [(7, .int (oneF (g 17))), (6, .int 0), (5, .int 0), (4, .int (g 16)), (3, .float (f 7)), (2, .int 1), (0, .ref o), (1, .int 0)]) hx hb dL_tick_37 hl (by decide) rfl (fun ls hl => ?_)
  refine lv_aload_n hx hb dL_tick_39 rfl (lv_at hl 6 rfl) ?_
  refine lv_iconst (v := 0) hx hb dL_tick_40 (by decide) ?_
  refine lr_i (rL (rest := []) ⟨hx, hb, hml, hown, hts⟩ (LB_thing l G cA A o (u, v, f, g, L) n K ch 0 hPr) (cwV 1 hts gL_tick_X8_thing rfl rfl rfl mdX8_thing ⟨Nat.le_of_ble_eq_true rfl, Nat.le_of_ble_eq_true rfl⟩) hA hL rfl hl rfl (Nat.le_of_ble_eq_true rfl) dL_tick_41 ⟨Nat.le_of_ble_eq_true rfl, Nat.le_of_ble_eq_true rfl⟩) hA hL (fun r_41 H locs hr_41 hA hL => ?_)
  replace hr_41 : r_41 = -5 := hr_41.trans (th_none 0 (by decide) (by decide) hg)
  subst hr_41
  refine lv_istore (lv' := [(8, .int (-5)), (7, .int (oneF (g 17))), (6, .int 0), (5, .int 0), (4, .int (g 16)), (3, .float (f 7)), (2, .int 1), (0, .ref o), (1, .int 0)]) hx hb dL_tick_44 hl (by decide) rfl (fun ls hl => ?_)
  refine lv_iload hx hb dL_tick_46 (lv_at hl 0 rfl) ?_
  refine lv_if_ge (tgt := 55) hx hb dL_tick_48 (by decide) (fun h9 => absurd h9 (by decide)) (fun _ => ?_)
  refine lv_iconst (v := 0) hx hb dL_tick_51 (by decide) ?_
  refine lv_goto (tgt := 60) hx hb dL_tick_52 (by decide) ?_
  refine lv_istore (lv' := [(9, .int 0), (8, .int (-5)), (7, .int (oneF (g 17))), (6, .int 0), (5, .int 0), (4, .int (g 16)), (3, .float (f 7)), (2, .int 1), (0, .ref o), (1, .int 0)]) hx hb dL_tick_60 hl (by decide) rfl (fun ls hl => ?_)
  refine lv_iload hx hb dL_tick_62 (lv_at hl 1 rfl) ?_
  refine lv_if_ge (tgt := 71) hx hb dL_tick_64 (by decide) (fun h9 => absurd h9 (by decide)) (fun _ => ?_)
  refine lv_iconst (v := 0) hx hb dL_tick_67 (by decide) ?_
  refine lv_goto (tgt := 77) hx hb dL_tick_68 (by decide) ?_
  refine lv_istore (lv' := [(10, .int 0), (9, .int 0), (8, .int (-5)), (7, .int (oneF (g 17))), (6, .int 0), (5, .int 0), (4, .int (g 16)), (3, .float (f 7)), (2, .int 1), (0, .ref o), (1, .int 0)]) hx hb dL_tick_77 hl (by decide) rfl (fun ls hl => ?_)
  refine lv_iload hx hb dL_tick_79 (lv_at hl 2 rfl) ?_
  refine lv_if_ge (tgt := 88) hx hb dL_tick_81 (by decide) (fun h9 => absurd h9 (by decide)) (fun _ => ?_)
  refine lv_iconst (v := 0) hx hb dL_tick_84 (by decide) ?_
  refine lv_goto (tgt := 94) hx hb dL_tick_85 (by decide) ?_
  refine lv_istore (lv' := [(11, .int 0), (10, .int 0), (9, .int 0), (8, .int (-5)), (7, .int (oneF (g 17))), (6, .int 0), (5, .int 0), (4, .int (g 16)), (3, .float (f 7)), (2, .int 1), (0, .ref o), (1, .int 0)]) hx hb dL_tick_94 hl (by decide) rfl (fun ls hl => ?_)
  refine lv_aload_n hx hb dL_tick_96 rfl (lv_at hl 10 rfl) ?_
  refine lv_iload_n hx hb dL_tick_97 rfl (lv_at hl 11 rfl) ?_
  refine lv_iconst (v := 1) hx hb dL_tick_98 (by decide) ?_
  refine lw_f (rL (rest := []) ⟨hx, hb, hml, hown, hts⟩ (LB_placeIn_ok l G cA A o (u, v, f, g, L) n K ch 0 1 (by decide) (by decide) (by decide) hG1) (cwV 2 hts gL_tick_X8_placeIn rfl rfl rfl mdX8_placeIn ⟨Nat.le_of_ble_eq_true rfl, Nat.le_of_ble_eq_true rfl⟩) hA hL rfl hl rfl (Nat.le_of_ble_eq_true rfl) dL_tick_99 ⟨Nat.le_of_ble_eq_true rfl, Nat.le_of_ble_eq_true rfl⟩) hA (fun r_99 _ H locs hr_99 hA hL => ?_)
  replace hL : LB G cA A o (u, v, f, g, L) n K ch H := hL
  replace hr_99 : r_99 = (goF u v f g 0) 7 := hr_99
  subst hr_99
  refine lv_fstore (lv' := [(12, .float ((goF u v f g 0) 7)), (11, .int 0), (10, .int 0), (9, .int 0), (8, .int (-5)), (7, .int (oneF (g 17))), (6, .int 0), (5, .int 0), (4, .int (g 16)), (3, .float (f 7)), (2, .int 1), (0, .ref o), (1, .int 0)]) hx hb dL_tick_102 hl (by decide) rfl (fun ls hl => ?_)
  refine lv_aload_n hx hb dL_tick_104 rfl (lv_at hl 11 rfl) ?_
  refine lv_iload hx hb dL_tick_105 (lv_at hl 1 rfl) ?_
  refine lv_iconst (v := 1) hx hb dL_tick_107 (by decide) ?_
  refine lv_iadd hx hb dL_tick_108 ?_
  refine W.eq (g2 := F0 m 109 ls [.int 1, .ref o]) rfl ?_
  refine lr_i (rL (rest := []) ⟨hx, hb, hml, hown, hts⟩ (LB_count l G cA A o (u, v, f, g, L) n K ch 1) (cwV 1 hts gL_tick_X8_count rfl rfl rfl mdX8_count ⟨Nat.le_of_ble_eq_true rfl, Nat.le_of_ble_eq_true rfl⟩) hA hL rfl hl rfl (Nat.le_of_ble_eq_true rfl) dL_tick_109 ⟨Nat.le_of_ble_eq_true rfl, Nat.le_of_ble_eq_true rfl⟩) hA hL (fun r_109 H locs hr_109 hA hL => ?_)
  replace hr_109 : r_109 = g 19 := hr_109
  subst hr_109
  refine lv_istore (lv' := [(13, .int (g 19)), (12, .float ((goF u v f g 0) 7)), (11, .int 0), (10, .int 0), (9, .int 0), (8, .int (-5)), (7, .int (oneF (g 17))), (6, .int 0), (5, .int 0), (4, .int (g 16)), (3, .float (f 7)), (2, .int 1), (0, .ref o), (1, .int 0)]) hx hb dL_tick_112 hl (by decide) rfl (fun ls hl => ?_)
  refine lv_iload hx hb dL_tick_114 (lv_at hl 5 rfl) ?_
  refine lv_if_le (tgt := 139) hx hb dL_tick_116 (by decide) (fun _ => ?_) (fun h9 => absurd (by decide) h9)
  refine lv_iconst (v := 0) hx hb dL_tick_139 (by decide) ?_
  refine lv_istore (lv' := [(14, .int 0), (13, .int (g 19)), (12, .float ((goF u v f g 0) 7)), (11, .int 0), (10, .int 0), (9, .int 0), (8, .int (-5)), (7, .int (oneF (g 17))), (6, .int 0), (5, .int 0), (4, .int (g 16)), (3, .float (f 7)), (2, .int 1), (0, .ref o), (1, .int 0)]) hx hb dL_tick_140 hl (by decide) rfl (fun ls hl => ?_)
  refine lv_iload hx hb dL_tick_142 (lv_at hl 10 rfl) ?_
  refine lv_iload hx hb dL_tick_144 (lv_at hl 0 rfl) ?_
  refine lv_if_eq (tgt := 169) hx hb dL_tick_146 (by decide) (fun _ => ?_) (fun h9 => absurd (by decide) h9)
  refine lv_iconst (v := 0) hx hb dL_tick_169 (by decide) ?_
  refine lv_isub hx hb dL_tick_170 ?_
  refine W.eq (g2 := F0 m 171 ls [.int (preG u v g 0 16)]) (by rw [hp16, Int32.sub_zero]) ?_
  refine lv_istore (lv' := [(4, .int (preG u v g 0 16)), (14, .int 0), (13, .int (g 19)), (12, .float ((goF u v f g 0) 7)), (11, .int 0), (10, .int 0), (9, .int 0), (8, .int (-5)), (7, .int (oneF (g 17))), (6, .int 0), (5, .int 0), (3, .float (f 7)), (2, .int 1), (0, .ref o), (1, .int 0)]) hx hb dL_tick_171 hl (by decide) rfl (fun ls hl => ?_)
  refine lv_iload_n hx hb dL_tick_173 rfl (lv_at hl 12 rfl) ?_
  refine lv_istore (lv' := [(15, .int 1), (4, .int (preG u v g 0 16)), (14, .int 0), (13, .int (g 19)), (12, .float ((goF u v f g 0) 7)), (11, .int 0), (10, .int 0), (9, .int 0), (8, .int (-5)), (7, .int (oneF (g 17))), (6, .int 0), (5, .int 0), (3, .float (f 7)), (2, .int 1), (0, .ref o), (1, .int 0)]) hx hb dL_tick_174 hl (by decide) rfl (fun ls hl => ?_)
  refine lv_fload_n hx hb dL_tick_176 rfl (lv_at hl 12 rfl) ?_
  refine lv_fstore (lv' := [(16, .float (f 7)), (15, .int 1), (4, .int (preG u v g 0 16)), (14, .int 0), (13, .int (g 19)), (12, .float ((goF u v f g 0) 7)), (11, .int 0), (10, .int 0), (9, .int 0), (8, .int (-5)), (7, .int (oneF (g 17))), (6, .int 0), (5, .int 0), (3, .float (f 7)), (2, .int 1), (0, .ref o), (1, .int 0)]) hx hb dL_tick_177 hl (by decide) rfl (fun ls hl => ?_)
  refine lv_iload_n hx hb dL_tick_179 rfl (lv_at hl 14 rfl) ?_
  refine lv_iconst (v := 1) hx hb dL_tick_180 (by decide) ?_
  refine lv_icmp_ne (tgt := 228) hx hb dL_tick_181 (by decide) (fun h9 => absurd (by decide) h9) (fun _ => ?_)
  refine lv_fload_n hx hb dL_tick_184 rfl (lv_at hl 13 rfl) ?_
  refine lv_aload_n hx hb dL_tick_185 rfl (lv_at hl 15 rfl) ?_
  refine lv_iconst (v := 0) hx hb dL_tick_186 (by decide) ?_
  refine lr_f (rL (rest := [.float (f 7)]) ⟨hx, hb, hml, hown, hts⟩ (LB_speed l G cA A o (u, v, f, g, L) n K ch 0 ) (cwV 1 hts gL_tick_X8_speed rfl rfl rfl mdX8_speed ⟨Nat.le_of_ble_eq_true rfl, Nat.le_of_ble_eq_true rfl⟩) hA hL rfl hl rfl (Nat.le_of_ble_eq_true rfl) dL_tick_187 ⟨Nat.le_of_ble_eq_true rfl, Nat.le_of_ble_eq_true rfl⟩) hA hL (fun r_187 H locs hr_187 hA hL => ?_)
  replace hr_187 : r_187 = u 0 := hr_187
  subst hr_187
  refine lv_fadd hx hb dL_tick_190 (hGo.2.1) ?_
  refine lv_fstore (lv' := [(16, .float (FP.fadd (f 7) (u 0))), (15, .int 1), (4, .int (preG u v g 0 16)), (14, .int 0), (13, .int (g 19)), (12, .float ((goF u v f g 0) 7)), (11, .int 0), (10, .int 0), (9, .int 0), (8, .int (-5)), (7, .int (oneF (g 17))), (6, .int 0), (5, .int 0), (3, .float (f 7)), (2, .int 1), (0, .ref o), (1, .int 0)]) hx hb dL_tick_191 hl (by decide) rfl (fun ls hl => ?_)
  refine lv_fload hx hb dL_tick_193 (lv_at hl 0 rfl) ?_
  refine lv_ldcf hx hb hown (hts (.constantFloat RL 32 (1120403456)) (by decide +kernel)) dL_tick_195 ?_
  refine lv_fcmp hx hb dL_tick_197 ?_
  refine lv_if_lt (tgt := 205) hx hb dL_tick_198 (by decide) (fun c_198 => ?_) (fun c_198 => ?_)
  · skip
    refine lv_iconst (v := 1) hx hb dL_tick_205 (by decide) ?_
    refine lv_istore (lv' := [(15, .int 1), (16, .float (FP.fadd (f 7) (u 0))), (4, .int (preG u v g 0 16)), (14, .int 0), (13, .int (g 19)), (12, .float ((goF u v f g 0) 7)), (11, .int 0), (10, .int 0), (9, .int 0), (8, .int (-5)), (7, .int (oneF (g 17))), (6, .int 0), (5, .int 0), (3, .float (f 7)), (2, .int 1), (0, .ref o), (1, .int 0)]) hx hb dL_tick_206 hl (by decide) rfl (fun ls hl => ?_)
    refine lv_fload hx hb dL_tick_208 (lv_at hl 1 rfl) ?_
    refine lv_ldcf hx hb hown (hts (.constantFloat RL 32 (1120403456)) (by decide +kernel)) dL_tick_210 ?_
    refine lv_fcmp hx hb dL_tick_212 ?_
    refine lv_if_lt (tgt := 221) hx hb dL_tick_213 (by decide) (fun c_213 => ?_) (fun c_213 => absurd c_198 c_213)
    refine lv_fload hx hb dL_tick_221 (lv_at hl 1 rfl) ?_
    refine lv_fstore (lv' := [(16, .float (FP.fadd (f 7) (u 0))), (15, .int 1), (4, .int (preG u v g 0 16)), (14, .int 0), (13, .int (g 19)), (12, .float ((goF u v f g 0) 7)), (11, .int 0), (10, .int 0), (9, .int 0), (8, .int (-5)), (7, .int (oneF (g 17))), (6, .int 0), (5, .int 0), (3, .float (f 7)), (2, .int 1), (0, .ref o), (1, .int 0)]) hx hb dL_tick_223 hl (by decide) rfl (fun ls hl => ?_)
    refine lv_goto (tgt := 385) hx hb dL_tick_225 (by decide) ?_
    refine lv_iload_n hx hb dL_tick_385 rfl (lv_at hl 14 rfl) ?_
    refine lv_iconst (v := 3) hx hb dL_tick_386 (by decide) ?_
    refine lv_icmp_ne (tgt := 400) hx hb dL_tick_387 (by decide) (fun _ => ?_) (fun h9 => absurd h9 (by decide))
    refine lv_iconst (v := 0) hx hb dL_tick_400 (by decide) ?_
    refine lv_istore (lv' := [(17, .int 0), (16, .float (FP.fadd (f 7) (u 0))), (15, .int 1), (4, .int (preG u v g 0 16)), (14, .int 0), (13, .int (g 19)), (12, .float ((goF u v f g 0) 7)), (11, .int 0), (10, .int 0), (9, .int 0), (8, .int (-5)), (7, .int (oneF (g 17))), (6, .int 0), (5, .int 0), (3, .float (f 7)), (2, .int 1), (0, .ref o), (1, .int 0)]) hx hb dL_tick_401 hl (by decide) rfl (fun ls hl => ?_)
    refine lv_iload hx hb dL_tick_403 (lv_at hl 0 rfl) ?_
    refine lv_if_eq (tgt := 428) hx hb dL_tick_405 (by decide) (fun _ => ?_) (fun h9 => absurd (by decide) h9)
    refine lv_iconst (v := 0) hx hb dL_tick_428 (by decide) ?_
    refine lv_istore (lv' := [(18, .int 0), (17, .int 0), (16, .float (FP.fadd (f 7) (u 0))), (15, .int 1), (4, .int (preG u v g 0 16)), (14, .int 0), (13, .int (g 19)), (12, .float ((goF u v f g 0) 7)), (11, .int 0), (10, .int 0), (9, .int 0), (8, .int (-5)), (7, .int (oneF (g 17))), (6, .int 0), (5, .int 0), (3, .float (f 7)), (2, .int 1), (0, .ref o), (1, .int 0)]) hx hb dL_tick_429 hl (by decide) rfl (fun ls hl => ?_)
    refine lv_aload_n hx hb dL_tick_431 rfl (lv_at hl 17 rfl) ?_
    refine lv_iload_n hx hb dL_tick_432 rfl (lv_at hl 18 rfl) ?_
    refine lv_iconst (v := 1) hx hb dL_tick_433 (by decide) ?_
    refine lw_i (rL (rest := []) ⟨hx, hb, hml, hown, hts⟩ (LB_pass_ok l G cA A o (u, v, f, g, L) n K ch hn 0 1 (by decide) (by decide) (by decide) (by decide) hT hG1 hBo) (cwV 2 hts gL_tick_X8_pass rfl rfl rfl mdX8_pass ⟨Nat.le_of_ble_eq_true rfl, Nat.le_of_ble_eq_true rfl⟩) hA hL rfl hl rfl (Nat.le_of_ble_eq_true rfl) dL_tick_434 ⟨Nat.le_of_ble_eq_true rfl, Nat.le_of_ble_eq_true rfl⟩) hA (fun r_434 _ H locs hr_434 hA hL => ?_)
    replace hL : LB G cA A o (u, v, (goF u v f g 0), (goG u v f g 0), (goL u v g L 0)) (recN n) K ch H := hL
    replace hr_434 : r_434 = (goG u v f g 0) 13 := hr_434
    subst hr_434
    refine lv_iload hx hb dL_tick_437 (lv_at hl 3 rfl) ?_
    refine lv_icmp_ne (tgt := 489) hx hb dL_tick_439 (by decide) (fun c_439 => absurd (ht.1.trans (if_pos c_198)) c_439) (fun c_439 => ?_)
    refine lv_aload_n hx hb dL_tick_442 rfl (lv_at hl 17 rfl) ?_
    refine lr_f (rL (rest := []) ⟨hx, hb, hml, hown, hts⟩ (LB_place l G cA A o (u, v, (goF u v f g 0), (goG u v f g 0), (goL u v g L 0)) (recN n) K ch  ) (cwV 0 hts gL_tick_X8_place rfl rfl rfl mdX8_place ⟨Nat.le_of_ble_eq_true rfl, Nat.le_of_ble_eq_true rfl⟩) hA hL rfl hl rfl (Nat.le_of_ble_eq_true rfl) dL_tick_443 ⟨Nat.le_of_ble_eq_true rfl, Nat.le_of_ble_eq_true rfl⟩) hA hL (fun r_443 H locs hr_443 hA hL => ?_)
    replace hr_443 : r_443 = (goF u v f g 0) 7 := hr_443
    subst hr_443
    refine lv_fload hx hb dL_tick_446 (lv_at hl 2 rfl) ?_
    refine lv_fcmp hx hb dL_tick_448 ?_
    refine lv_if_ne (tgt := 489) hx hb dL_tick_449 (by decide) (fun c_449 => absurd (by rw [(ht.2.2.2.trans (if_pos c_198))]; exact cmp_self (of_vf hGo.2.1) _) c_449) (fun c_449 => ?_)
    refine lv_fload hx hb dL_tick_452 (lv_at hl 7 rfl) ?_
    refine lv_fload hx hb dL_tick_454 (lv_at hl 2 rfl) ?_
    refine lv_fcmp hx hb dL_tick_456 ?_
    refine lv_if_ne (tgt := 489) hx hb dL_tick_457 (by decide) (fun c_457 => absurd (by rw [(ht.2.2.2.trans (if_pos c_198))]; exact cmp_self (of_vf hGo.2.1) _) c_457) (fun c_457 => ?_)
    refine lv_aload_n hx hb dL_tick_460 rfl (lv_at hl 17 rfl) ?_
    refine lv_iconst (v := 1) hx hb dL_tick_461 (by decide) ?_
    refine lr_i (rL (rest := []) ⟨hx, hb, hml, hown, hts⟩ (LB_door l G cA A o (u, v, (goF u v f g 0), (goG u v f g 0), (goL u v g L 0)) (recN n) K ch 1 ) (cwV 1 hts gL_tick_X8_door rfl rfl rfl mdX8_door ⟨Nat.le_of_ble_eq_true rfl, Nat.le_of_ble_eq_true rfl⟩) hA hL rfl hl rfl (Nat.le_of_ble_eq_true rfl) dL_tick_462 ⟨Nat.le_of_ble_eq_true rfl, Nat.le_of_ble_eq_true rfl⟩) hA hL (fun r_462 H locs hr_462 hA hL => ?_)
    replace hr_462 : r_462 = (goG u v f g 0) 16 := hr_462
    subst hr_462
    refine lv_iload hx hb dL_tick_465 (lv_at hl 4 rfl) ?_
    refine lv_icmp_ne (tgt := 489) hx hb dL_tick_467 (by decide) (fun c_467 => absurd ht.2.1 c_467) (fun c_467 => ?_)
    refine lv_aload_n hx hb dL_tick_470 rfl (lv_at hl 17 rfl) ?_
    refine lv_iconst (v := 2) hx hb dL_tick_471 (by decide) ?_
    refine lr_i (rL (rest := []) ⟨hx, hb, hml, hown, hts⟩ (LB_door l G cA A o (u, v, (goF u v f g 0), (goG u v f g 0), (goL u v g L 0)) (recN n) K ch 2 ) (cwV 1 hts gL_tick_X8_door rfl rfl rfl mdX8_door ⟨Nat.le_of_ble_eq_true rfl, Nat.le_of_ble_eq_true rfl⟩) hA hL rfl hl rfl (Nat.le_of_ble_eq_true rfl) dL_tick_472 ⟨Nat.le_of_ble_eq_true rfl, Nat.le_of_ble_eq_true rfl⟩) hA hL (fun r_472 H locs hr_472 hA hL => ?_)
    replace hr_472 : r_472 = oneF ((goG u v f g 0) 17) := hr_472
    subst hr_472
    refine lv_iload hx hb dL_tick_475 (lv_at hl 0 rfl) ?_
    refine lv_if_eq (tgt := 484) hx hb dL_tick_477 (by decide) (fun _ => ?_) (fun h9 => absurd (by decide) h9)
    refine lv_iload hx hb dL_tick_484 (lv_at hl 12 rfl) ?_
    refine lv_icmp_eq (tgt := 491) hx hb dL_tick_486 (by decide) (fun c_486 => ?_) (fun c_486 => absurd (by rw [ht.2.2.1] <;> rfl) c_486)
    refine lv_iload hx hb dL_tick_491 (lv_at hl 5 rfl) ?_
    refine lv_if_eq (tgt := 554) hx hb dL_tick_493 (by decide) (fun _ => ?_) (fun h9 => absurd (by decide) h9)
    refine lv_iload_n hx hb dL_tick_554 rfl (lv_at hl 18 rfl) ?_
    refine lv_if_eq (tgt := 599) hx hb dL_tick_555 (by decide) (fun _ => ?_) (fun h9 => absurd (by decide) h9)
    refine lv_iconst (v := 1) hx hb dL_tick_599 (by decide) ?_
    refine lv_goto (tgt := 604) hx hb dL_tick_600 (by decide) ?_
    exact en_l (post := fun r (_ : Unit) => r = 1) (B := fun _ H => LB G cA A o (u, v, (goF u v f g 0), (goG u v f g 0), (goL u v g L 0)) (recN n) K ch H) () hx hb hr hlocks hA rfl hL dL_tick_604
  · skip
    refine lv_iconst (v := 2) hx hb dL_tick_201 (by decide) ?_
    refine lv_goto (tgt := 206) hx hb dL_tick_202 (by decide) ?_
    refine lv_istore (lv' := [(15, .int 2), (16, .float (FP.fadd (f 7) (u 0))), (4, .int (preG u v g 0 16)), (14, .int 0), (13, .int (g 19)), (12, .float ((goF u v f g 0) 7)), (11, .int 0), (10, .int 0), (9, .int 0), (8, .int (-5)), (7, .int (oneF (g 17))), (6, .int 0), (5, .int 0), (3, .float (f 7)), (2, .int 1), (0, .ref o), (1, .int 0)]) hx hb dL_tick_206 hl (by decide) rfl (fun ls hl => ?_)
    refine lv_fload hx hb dL_tick_208 (lv_at hl 1 rfl) ?_
    refine lv_ldcf hx hb hown (hts (.constantFloat RL 32 (1120403456)) (by decide +kernel)) dL_tick_210 ?_
    refine lv_fcmp hx hb dL_tick_212 ?_
    refine lv_if_lt (tgt := 221) hx hb dL_tick_213 (by decide) (fun c_213_1 => absurd c_213_1 c_198) (fun c_213_1 => ?_)
    refine lv_ldcf hx hb hown (hts (.constantFloat RL 32 (1120403456)) (by decide +kernel)) dL_tick_216 ?_
    refine lv_goto (tgt := 223) hx hb dL_tick_218 (by decide) ?_
    refine lv_fstore (lv' := [(16, .float 1120403456), (15, .int 2), (4, .int (preG u v g 0 16)), (14, .int 0), (13, .int (g 19)), (12, .float ((goF u v f g 0) 7)), (11, .int 0), (10, .int 0), (9, .int 0), (8, .int (-5)), (7, .int (oneF (g 17))), (6, .int 0), (5, .int 0), (3, .float (f 7)), (2, .int 1), (0, .ref o), (1, .int 0)]) hx hb dL_tick_223 hl (by decide) rfl (fun ls hl => ?_)
    refine lv_goto (tgt := 385) hx hb dL_tick_225 (by decide) ?_
    refine lv_iload_n hx hb dL_tick_385 rfl (lv_at hl 14 rfl) ?_
    refine lv_iconst (v := 3) hx hb dL_tick_386 (by decide) ?_
    refine lv_icmp_ne (tgt := 400) hx hb dL_tick_387 (by decide) (fun _ => ?_) (fun h9 => absurd h9 (by decide))
    refine lv_iconst (v := 0) hx hb dL_tick_400 (by decide) ?_
    refine lv_istore (lv' := [(17, .int 0), (16, .float 1120403456), (15, .int 2), (4, .int (preG u v g 0 16)), (14, .int 0), (13, .int (g 19)), (12, .float ((goF u v f g 0) 7)), (11, .int 0), (10, .int 0), (9, .int 0), (8, .int (-5)), (7, .int (oneF (g 17))), (6, .int 0), (5, .int 0), (3, .float (f 7)), (2, .int 1), (0, .ref o), (1, .int 0)]) hx hb dL_tick_401 hl (by decide) rfl (fun ls hl => ?_)
    refine lv_iload hx hb dL_tick_403 (lv_at hl 0 rfl) ?_
    refine lv_if_eq (tgt := 428) hx hb dL_tick_405 (by decide) (fun _ => ?_) (fun h9 => absurd (by decide) h9)
    refine lv_iconst (v := 0) hx hb dL_tick_428 (by decide) ?_
    refine lv_istore (lv' := [(18, .int 0), (17, .int 0), (16, .float 1120403456), (15, .int 2), (4, .int (preG u v g 0 16)), (14, .int 0), (13, .int (g 19)), (12, .float ((goF u v f g 0) 7)), (11, .int 0), (10, .int 0), (9, .int 0), (8, .int (-5)), (7, .int (oneF (g 17))), (6, .int 0), (5, .int 0), (3, .float (f 7)), (2, .int 1), (0, .ref o), (1, .int 0)]) hx hb dL_tick_429 hl (by decide) rfl (fun ls hl => ?_)
    refine lv_aload_n hx hb dL_tick_431 rfl (lv_at hl 17 rfl) ?_
    refine lv_iload_n hx hb dL_tick_432 rfl (lv_at hl 18 rfl) ?_
    refine lv_iconst (v := 1) hx hb dL_tick_433 (by decide) ?_
    refine lw_i (rL (rest := []) ⟨hx, hb, hml, hown, hts⟩ (LB_pass_ok l G cA A o (u, v, f, g, L) n K ch hn 0 1 (by decide) (by decide) (by decide) (by decide) hT hG1 hBo) (cwV 2 hts gL_tick_X8_pass rfl rfl rfl mdX8_pass ⟨Nat.le_of_ble_eq_true rfl, Nat.le_of_ble_eq_true rfl⟩) hA hL rfl hl rfl (Nat.le_of_ble_eq_true rfl) dL_tick_434 ⟨Nat.le_of_ble_eq_true rfl, Nat.le_of_ble_eq_true rfl⟩) hA (fun r_434_1 _ H locs hr_434_1 hA hL => ?_)
    replace hL : LB G cA A o (u, v, (goF u v f g 0), (goG u v f g 0), (goL u v g L 0)) (recN n) K ch H := hL
    replace hr_434_1 : r_434_1 = (goG u v f g 0) 13 := hr_434_1
    subst hr_434_1
    refine lv_iload hx hb dL_tick_437 (lv_at hl 3 rfl) ?_
    refine lv_icmp_ne (tgt := 489) hx hb dL_tick_439 (by decide) (fun c_439_1 => absurd (ht.1.trans (if_neg c_198)) c_439_1) (fun c_439_1 => ?_)
    refine lv_aload_n hx hb dL_tick_442 rfl (lv_at hl 17 rfl) ?_
    refine lr_f (rL (rest := []) ⟨hx, hb, hml, hown, hts⟩ (LB_place l G cA A o (u, v, (goF u v f g 0), (goG u v f g 0), (goL u v g L 0)) (recN n) K ch  ) (cwV 0 hts gL_tick_X8_place rfl rfl rfl mdX8_place ⟨Nat.le_of_ble_eq_true rfl, Nat.le_of_ble_eq_true rfl⟩) hA hL rfl hl rfl (Nat.le_of_ble_eq_true rfl) dL_tick_443 ⟨Nat.le_of_ble_eq_true rfl, Nat.le_of_ble_eq_true rfl⟩) hA hL (fun r_443_1 H locs hr_443_1 hA hL => ?_)
    replace hr_443_1 : r_443_1 = (goF u v f g 0) 7 := hr_443_1
    subst hr_443_1
    refine lv_fload hx hb dL_tick_446 (lv_at hl 2 rfl) ?_
    refine lv_fcmp hx hb dL_tick_448 ?_
    refine lv_if_ne (tgt := 489) hx hb dL_tick_449 (by decide) (fun c_449_1 => absurd (by rw [(ht.2.2.2.trans (if_neg c_198))]; exact cmp_self (of_vf n32_100) _) c_449_1) (fun c_449_1 => ?_)
    refine lv_fload hx hb dL_tick_452 (lv_at hl 7 rfl) ?_
    refine lv_fload hx hb dL_tick_454 (lv_at hl 2 rfl) ?_
    refine lv_fcmp hx hb dL_tick_456 ?_
    refine lv_if_ne (tgt := 489) hx hb dL_tick_457 (by decide) (fun c_457_1 => absurd (by rw [(ht.2.2.2.trans (if_neg c_198))]; exact cmp_self (of_vf n32_100) _) c_457_1) (fun c_457_1 => ?_)
    refine lv_aload_n hx hb dL_tick_460 rfl (lv_at hl 17 rfl) ?_
    refine lv_iconst (v := 1) hx hb dL_tick_461 (by decide) ?_
    refine lr_i (rL (rest := []) ⟨hx, hb, hml, hown, hts⟩ (LB_door l G cA A o (u, v, (goF u v f g 0), (goG u v f g 0), (goL u v g L 0)) (recN n) K ch 1 ) (cwV 1 hts gL_tick_X8_door rfl rfl rfl mdX8_door ⟨Nat.le_of_ble_eq_true rfl, Nat.le_of_ble_eq_true rfl⟩) hA hL rfl hl rfl (Nat.le_of_ble_eq_true rfl) dL_tick_462 ⟨Nat.le_of_ble_eq_true rfl, Nat.le_of_ble_eq_true rfl⟩) hA hL (fun r_462_1 H locs hr_462_1 hA hL => ?_)
    replace hr_462_1 : r_462_1 = (goG u v f g 0) 16 := hr_462_1
    subst hr_462_1
    refine lv_iload hx hb dL_tick_465 (lv_at hl 4 rfl) ?_
    refine lv_icmp_ne (tgt := 489) hx hb dL_tick_467 (by decide) (fun c_467_1 => absurd ht.2.1 c_467_1) (fun c_467_1 => ?_)
    refine lv_aload_n hx hb dL_tick_470 rfl (lv_at hl 17 rfl) ?_
    refine lv_iconst (v := 2) hx hb dL_tick_471 (by decide) ?_
    refine lr_i (rL (rest := []) ⟨hx, hb, hml, hown, hts⟩ (LB_door l G cA A o (u, v, (goF u v f g 0), (goG u v f g 0), (goL u v g L 0)) (recN n) K ch 2 ) (cwV 1 hts gL_tick_X8_door rfl rfl rfl mdX8_door ⟨Nat.le_of_ble_eq_true rfl, Nat.le_of_ble_eq_true rfl⟩) hA hL rfl hl rfl (Nat.le_of_ble_eq_true rfl) dL_tick_472 ⟨Nat.le_of_ble_eq_true rfl, Nat.le_of_ble_eq_true rfl⟩) hA hL (fun r_472_1 H locs hr_472_1 hA hL => ?_)
    replace hr_472_1 : r_472_1 = oneF ((goG u v f g 0) 17) := hr_472_1
    subst hr_472_1
    refine lv_iload hx hb dL_tick_475 (lv_at hl 0 rfl) ?_
    refine lv_if_eq (tgt := 484) hx hb dL_tick_477 (by decide) (fun _ => ?_) (fun h9 => absurd (by decide) h9)
    refine lv_iload hx hb dL_tick_484 (lv_at hl 12 rfl) ?_
    refine lv_icmp_eq (tgt := 491) hx hb dL_tick_486 (by decide) (fun c_486_1 => ?_) (fun c_486_1 => absurd (by rw [ht.2.2.1] <;> rfl) c_486_1)
    refine lv_iload hx hb dL_tick_491 (lv_at hl 5 rfl) ?_
    refine lv_if_eq (tgt := 554) hx hb dL_tick_493 (by decide) (fun _ => ?_) (fun h9 => absurd (by decide) h9)
    refine lv_iload_n hx hb dL_tick_554 rfl (lv_at hl 18 rfl) ?_
    refine lv_if_eq (tgt := 599) hx hb dL_tick_555 (by decide) (fun _ => ?_) (fun h9 => absurd (by decide) h9)
    refine lv_iconst (v := 1) hx hb dL_tick_599 (by decide) ?_
    refine lv_goto (tgt := 604) hx hb dL_tick_600 (by decide) ?_
    exact en_l (post := fun r (_ : Unit) => r = 1) (B := fun _ H => LB G cA A o (u, v, (goF u v f g 0), (goG u v f g 0), (goL u v g L 0)) (recN n) K ch H) () hx hb hr hlocks hA rfl hL dL_tick_604
set_option maxHeartbeats 8000000 in
set_option maxRecDepth 100000 in
/-- tick(o, beams), in the state 2, case n0 -/
theorem cL_tick_2_n0 (l : Launch) (G : va_G) (cA : Nat → ClassId) (A : Nat → Prop) (o : Nat) (u : FF) (v : GG) (f : FF) (g L : GG) (n K : Nat) (ch : GG) (hs : g 13 = 2) (hn : n ≤ 4) (hGo : GoOk u f g) (hPr : PrOk u g) (hP2 : PrOk u (goG u v f g 0)) (hT : ¬ 99999 < g 27 + nI 1) (hBo : Bo g) (hf : vf_n32 (f 7)) (hg : g 5 = 0) : Met l yL_tick wsL_tick ({ frames := 7, cells := 0, slots := 0, locals := 160 } : Room) (va_Pc [.ref o, .int 0] (LbP G cA A o (u, v, f, g, L) n K ch)) (va_Qi (fun r (_ : Unit) => r = 1) (fun _ t => LB G cA A o (u, v, (goF u v f g 0), (goG u v f g 0), (goL u v g L 0)) (recN n) K ch t.heap) A) 0 0 A := by
  refine ofW2 (cc := cL_tick) (maxL := 19) (ret := (some .boolean)) (own := RL) (by decide) rfl rfl (Nat.le_of_ble_eq_true rfl) rfl ?_
  intro p e s m below meth c ls hx hb hml hr hts hown hlocks hv hl
  obtain ⟨hE, hN, hL⟩ := hv
  have hA : At G cA A s s.heap [] := ⟨hE, hN, va_S.rf⟩
  obtain ⟨H, hH0⟩ : ∃ H, H = s.heap := ⟨_, rfl⟩
  rw [← hH0] at hL ⊢
  replace hA : At G cA A s H [] := by rw [hH0]; exact hA
  generalize ([] : List Loc) = locs at hA ⊢
  clear hH0
  replace hl : lv_has ls 19 [(0, .ref o), (1, .int 0)] := hl
  have hG1 : ∀ k, k < 1 → GoOk u (itS u v 0 (f, g, L) k).1 (itS u v 0 (f, g, L) k).2.1 := fun k hk => (show k = 0 by omega) ▸ hGo
  have ht := t_2a hs (u := u) (v := v) (f := f)
  have hp16 : preG u v g 0 16 = g 16 := pre_16c (clearR_none hg)
  refine lv_aload_n hx hb dL_tick_0 rfl (lv_at hl 0 rfl) ?_
  refine lv_iconst (v := 0) hx hb dL_tick_1 (by decide) ?_
  refine lr_i (rL (rest := []) ⟨hx, hb, hml, hown, hts⟩ (LB_door l G cA A o (u, v, f, g, L) n K ch 0 ) (cwV 1 hts gL_tick_X8_door rfl rfl rfl mdX8_door ⟨Nat.le_of_ble_eq_true rfl, Nat.le_of_ble_eq_true rfl⟩) hA hL rfl hl rfl (Nat.le_of_ble_eq_true rfl) dL_tick_2 ⟨Nat.le_of_ble_eq_true rfl, Nat.le_of_ble_eq_true rfl⟩) hA hL (fun r_2 H locs hr_2 hA hL => ?_)
  replace hr_2 : r_2 = 2 := hr_2.trans hs
  subst hr_2
  refine lv_istore_n (lv' := [(2, .int 2), (0, .ref o), (1, .int 0)]) hx hb dL_tick_5 rfl hl (by decide) rfl (fun ls hl => ?_)
  refine lv_aload_n hx hb dL_tick_6 rfl (lv_at hl 1 rfl) ?_
  refine lr_f (rL (rest := []) ⟨hx, hb, hml, hown, hts⟩ (LB_place l G cA A o (u, v, f, g, L) n K ch  ) (cwV 0 hts gL_tick_X8_place rfl rfl rfl mdX8_place ⟨Nat.le_of_ble_eq_true rfl, Nat.le_of_ble_eq_true rfl⟩) hA hL rfl hl rfl (Nat.le_of_ble_eq_true rfl) dL_tick_7 ⟨Nat.le_of_ble_eq_true rfl, Nat.le_of_ble_eq_true rfl⟩) hA hL (fun r_7 H locs hr_7 hA hL => ?_)
  replace hr_7 : r_7 = f 7 := hr_7
  subst hr_7
  refine lv_fstore_n (lv' := [(3, .float (f 7)), (2, .int 2), (0, .ref o), (1, .int 0)]) hx hb dL_tick_10 rfl hl (by decide) rfl (fun ls hl => ?_)
  refine lv_aload_n hx hb dL_tick_11 rfl (lv_at hl 2 rfl) ?_
  refine lv_iconst (v := 1) hx hb dL_tick_12 (by decide) ?_
  refine lr_i (rL (rest := []) ⟨hx, hb, hml, hown, hts⟩ (LB_door l G cA A o (u, v, f, g, L) n K ch 1 ) (cwV 1 hts gL_tick_X8_door rfl rfl rfl mdX8_door ⟨Nat.le_of_ble_eq_true rfl, Nat.le_of_ble_eq_true rfl⟩) hA hL rfl hl rfl (Nat.le_of_ble_eq_true rfl) dL_tick_13 ⟨Nat.le_of_ble_eq_true rfl, Nat.le_of_ble_eq_true rfl⟩) hA hL (fun r_13 H locs hr_13 hA hL => ?_)
  replace hr_13 : r_13 = g 16 := hr_13
  subst hr_13
  refine lv_istore (lv' := [(4, .int (g 16)), (3, .float (f 7)), (2, .int 2), (0, .ref o), (1, .int 0)]) hx hb dL_tick_16 hl (by decide) rfl (fun ls hl => ?_)
  refine lv_aload_n hx hb dL_tick_18 rfl (lv_at hl 3 rfl) ?_
  refine lv_iconst (v := 3) hx hb dL_tick_19 (by decide) ?_
  refine lr_i (rL (rest := []) ⟨hx, hb, hml, hown, hts⟩ (LB_door l G cA A o (u, v, f, g, L) n K ch 3 ) (cwV 1 hts gL_tick_X8_door rfl rfl rfl mdX8_door ⟨Nat.le_of_ble_eq_true rfl, Nat.le_of_ble_eq_true rfl⟩) hA hL rfl hl rfl (Nat.le_of_ble_eq_true rfl) dL_tick_20 ⟨Nat.le_of_ble_eq_true rfl, Nat.le_of_ble_eq_true rfl⟩) hA hL (fun r_20 H locs hr_20 hA hL => ?_)
  rw [show doF f g 3 = g 14 from (by show (if g 13 = 2 then g 14 else 0) = g 14; rw [if_pos hs])] at hr_20
  subst hr_20
  refine lv_istore (lv' := [(5, .int (g 14)), (4, .int (g 16)), (3, .float (f 7)), (2, .int 2), (0, .ref o), (1, .int 0)]) hx hb dL_tick_23 hl (by decide) rfl (fun ls hl => ?_)
  refine lv_aload_n hx hb dL_tick_25 rfl (lv_at hl 4 rfl) ?_
  refine lv_iconst (v := 4) hx hb dL_tick_26 (by decide) ?_
  refine lr_i (rL (rest := []) ⟨hx, hb, hml, hown, hts⟩ (LB_door l G cA A o (u, v, f, g, L) n K ch 4 ) (cwV 1 hts gL_tick_X8_door rfl rfl rfl mdX8_door ⟨Nat.le_of_ble_eq_true rfl, Nat.le_of_ble_eq_true rfl⟩) hA hL rfl hl rfl (Nat.le_of_ble_eq_true rfl) dL_tick_27 ⟨Nat.le_of_ble_eq_true rfl, Nat.le_of_ble_eq_true rfl⟩) hA hL (fun r_27 H locs hr_27 hA hL => ?_)
  rw [show doF f g 4 = 0 from (by show (if g 13 = 3 then g 15 else 0) = 0; rw [if_neg (by rw [hs]; decide)])] at hr_27
  subst hr_27
  refine lv_istore (lv' := [(6, .int 0), (5, .int (g 14)), (4, .int (g 16)), (3, .float (f 7)), (2, .int 2), (0, .ref o), (1, .int 0)]) hx hb dL_tick_30 hl (by decide) rfl (fun ls hl => ?_)
  refine lv_aload_n hx hb dL_tick_32 rfl (lv_at hl 5 rfl) ?_
  refine lv_iconst (v := 2) hx hb dL_tick_33 (by decide) ?_
  refine lr_i (rL (rest := []) ⟨hx, hb, hml, hown, hts⟩ (LB_door l G cA A o (u, v, f, g, L) n K ch 2 ) (cwV 1 hts gL_tick_X8_door rfl rfl rfl mdX8_door ⟨Nat.le_of_ble_eq_true rfl, Nat.le_of_ble_eq_true rfl⟩) hA hL rfl hl rfl (Nat.le_of_ble_eq_true rfl) dL_tick_34 ⟨Nat.le_of_ble_eq_true rfl, Nat.le_of_ble_eq_true rfl⟩) hA hL (fun r_34 H locs hr_34 hA hL => ?_)
  replace hr_34 : r_34 = oneF (g 17) := hr_34
  subst hr_34
  refine lv_istore (lv' := [(7, .int (oneF (g 17))), (6, .int 0), (5, .int (g 14)), (4, .int (g 16)), (3, .float (f 7)), (2, .int 2), (0, .ref o), (1, .int 0)]) hx hb dL_tick_37 hl (by decide) rfl (fun ls hl => ?_)
  refine lv_aload_n hx hb dL_tick_39 rfl (lv_at hl 6 rfl) ?_
  refine lv_iconst (v := 0) hx hb dL_tick_40 (by decide) ?_
  refine lr_i (rL (rest := []) ⟨hx, hb, hml, hown, hts⟩ (LB_thing l G cA A o (u, v, f, g, L) n K ch 0 hPr) (cwV 1 hts gL_tick_X8_thing rfl rfl rfl mdX8_thing ⟨Nat.le_of_ble_eq_true rfl, Nat.le_of_ble_eq_true rfl⟩) hA hL rfl hl rfl (Nat.le_of_ble_eq_true rfl) dL_tick_41 ⟨Nat.le_of_ble_eq_true rfl, Nat.le_of_ble_eq_true rfl⟩) hA hL (fun r_41 H locs hr_41 hA hL => ?_)
  replace hr_41 : r_41 = -5 := hr_41.trans (th_none 0 (by decide) (by decide) hg)
  subst hr_41
  refine lv_istore (lv' := [(8, .int (-5)), (7, .int (oneF (g 17))), (6, .int 0), (5, .int (g 14)), (4, .int (g 16)), (3, .float (f 7)), (2, .int 2), (0, .ref o), (1, .int 0)]) hx hb dL_tick_44 hl (by decide) rfl (fun ls hl => ?_)
  refine lv_iload hx hb dL_tick_46 (lv_at hl 0 rfl) ?_
  refine lv_if_ge (tgt := 55) hx hb dL_tick_48 (by decide) (fun h9 => absurd h9 (by decide)) (fun _ => ?_)
  refine lv_iconst (v := 0) hx hb dL_tick_51 (by decide) ?_
  refine lv_goto (tgt := 60) hx hb dL_tick_52 (by decide) ?_
  refine lv_istore (lv' := [(9, .int 0), (8, .int (-5)), (7, .int (oneF (g 17))), (6, .int 0), (5, .int (g 14)), (4, .int (g 16)), (3, .float (f 7)), (2, .int 2), (0, .ref o), (1, .int 0)]) hx hb dL_tick_60 hl (by decide) rfl (fun ls hl => ?_)
  refine lv_iload hx hb dL_tick_62 (lv_at hl 1 rfl) ?_
  refine lv_if_ge (tgt := 71) hx hb dL_tick_64 (by decide) (fun h9 => absurd h9 (by decide)) (fun _ => ?_)
  refine lv_iconst (v := 0) hx hb dL_tick_67 (by decide) ?_
  refine lv_goto (tgt := 77) hx hb dL_tick_68 (by decide) ?_
  refine lv_istore (lv' := [(10, .int 0), (9, .int 0), (8, .int (-5)), (7, .int (oneF (g 17))), (6, .int 0), (5, .int (g 14)), (4, .int (g 16)), (3, .float (f 7)), (2, .int 2), (0, .ref o), (1, .int 0)]) hx hb dL_tick_77 hl (by decide) rfl (fun ls hl => ?_)
  refine lv_iload hx hb dL_tick_79 (lv_at hl 2 rfl) ?_
  refine lv_if_ge (tgt := 88) hx hb dL_tick_81 (by decide) (fun h9 => absurd h9 (by decide)) (fun _ => ?_)
  refine lv_iconst (v := 0) hx hb dL_tick_84 (by decide) ?_
  refine lv_goto (tgt := 94) hx hb dL_tick_85 (by decide) ?_
  refine lv_istore (lv' := [(11, .int 0), (10, .int 0), (9, .int 0), (8, .int (-5)), (7, .int (oneF (g 17))), (6, .int 0), (5, .int (g 14)), (4, .int (g 16)), (3, .float (f 7)), (2, .int 2), (0, .ref o), (1, .int 0)]) hx hb dL_tick_94 hl (by decide) rfl (fun ls hl => ?_)
  refine lv_aload_n hx hb dL_tick_96 rfl (lv_at hl 10 rfl) ?_
  refine lv_iload_n hx hb dL_tick_97 rfl (lv_at hl 11 rfl) ?_
  refine lv_iconst (v := 1) hx hb dL_tick_98 (by decide) ?_
  refine lw_f (rL (rest := []) ⟨hx, hb, hml, hown, hts⟩ (LB_placeIn_ok l G cA A o (u, v, f, g, L) n K ch 0 1 (by decide) (by decide) (by decide) hG1) (cwV 2 hts gL_tick_X8_placeIn rfl rfl rfl mdX8_placeIn ⟨Nat.le_of_ble_eq_true rfl, Nat.le_of_ble_eq_true rfl⟩) hA hL rfl hl rfl (Nat.le_of_ble_eq_true rfl) dL_tick_99 ⟨Nat.le_of_ble_eq_true rfl, Nat.le_of_ble_eq_true rfl⟩) hA (fun r_99 _ H locs hr_99 hA hL => ?_)
  replace hL : LB G cA A o (u, v, f, g, L) n K ch H := hL
  replace hr_99 : r_99 = (goF u v f g 0) 7 := hr_99
  subst hr_99
  refine lv_fstore (lv' := [(12, .float ((goF u v f g 0) 7)), (11, .int 0), (10, .int 0), (9, .int 0), (8, .int (-5)), (7, .int (oneF (g 17))), (6, .int 0), (5, .int (g 14)), (4, .int (g 16)), (3, .float (f 7)), (2, .int 2), (0, .ref o), (1, .int 0)]) hx hb dL_tick_102 hl (by decide) rfl (fun ls hl => ?_)
  refine lv_aload_n hx hb dL_tick_104 rfl (lv_at hl 11 rfl) ?_
  refine lv_iload hx hb dL_tick_105 (lv_at hl 1 rfl) ?_
  refine lv_iconst (v := 1) hx hb dL_tick_107 (by decide) ?_
  refine lv_iadd hx hb dL_tick_108 ?_
  refine W.eq (g2 := F0 m 109 ls [.int 1, .ref o]) rfl ?_
  refine lr_i (rL (rest := []) ⟨hx, hb, hml, hown, hts⟩ (LB_count l G cA A o (u, v, f, g, L) n K ch 1) (cwV 1 hts gL_tick_X8_count rfl rfl rfl mdX8_count ⟨Nat.le_of_ble_eq_true rfl, Nat.le_of_ble_eq_true rfl⟩) hA hL rfl hl rfl (Nat.le_of_ble_eq_true rfl) dL_tick_109 ⟨Nat.le_of_ble_eq_true rfl, Nat.le_of_ble_eq_true rfl⟩) hA hL (fun r_109 H locs hr_109 hA hL => ?_)
  replace hr_109 : r_109 = g 19 := hr_109
  subst hr_109
  refine lv_istore (lv' := [(13, .int (g 19)), (12, .float ((goF u v f g 0) 7)), (11, .int 0), (10, .int 0), (9, .int 0), (8, .int (-5)), (7, .int (oneF (g 17))), (6, .int 0), (5, .int (g 14)), (4, .int (g 16)), (3, .float (f 7)), (2, .int 2), (0, .ref o), (1, .int 0)]) hx hb dL_tick_112 hl (by decide) rfl (fun ls hl => ?_)
  refine lv_iload hx hb dL_tick_114 (lv_at hl 5 rfl) ?_
  refine lv_if_le (tgt := 139) hx hb dL_tick_116 (by decide) (fun _ => ?_) (fun h9 => absurd (by decide) h9)
  refine lv_iconst (v := 0) hx hb dL_tick_139 (by decide) ?_
  refine lv_istore (lv' := [(14, .int 0), (13, .int (g 19)), (12, .float ((goF u v f g 0) 7)), (11, .int 0), (10, .int 0), (9, .int 0), (8, .int (-5)), (7, .int (oneF (g 17))), (6, .int 0), (5, .int (g 14)), (4, .int (g 16)), (3, .float (f 7)), (2, .int 2), (0, .ref o), (1, .int 0)]) hx hb dL_tick_140 hl (by decide) rfl (fun ls hl => ?_)
  refine lv_iload hx hb dL_tick_142 (lv_at hl 10 rfl) ?_
  refine lv_iload hx hb dL_tick_144 (lv_at hl 0 rfl) ?_
  refine lv_if_eq (tgt := 169) hx hb dL_tick_146 (by decide) (fun _ => ?_) (fun h9 => absurd (by decide) h9)
  refine lv_iconst (v := 0) hx hb dL_tick_169 (by decide) ?_
  refine lv_isub hx hb dL_tick_170 ?_
  refine W.eq (g2 := F0 m 171 ls [.int (preG u v g 0 16)]) (by rw [hp16, Int32.sub_zero]) ?_
  refine lv_istore (lv' := [(4, .int (preG u v g 0 16)), (14, .int 0), (13, .int (g 19)), (12, .float ((goF u v f g 0) 7)), (11, .int 0), (10, .int 0), (9, .int 0), (8, .int (-5)), (7, .int (oneF (g 17))), (6, .int 0), (5, .int (g 14)), (3, .float (f 7)), (2, .int 2), (0, .ref o), (1, .int 0)]) hx hb dL_tick_171 hl (by decide) rfl (fun ls hl => ?_)
  refine lv_iload_n hx hb dL_tick_173 rfl (lv_at hl 12 rfl) ?_
  refine lv_istore (lv' := [(15, .int 2), (4, .int (preG u v g 0 16)), (14, .int 0), (13, .int (g 19)), (12, .float ((goF u v f g 0) 7)), (11, .int 0), (10, .int 0), (9, .int 0), (8, .int (-5)), (7, .int (oneF (g 17))), (6, .int 0), (5, .int (g 14)), (3, .float (f 7)), (2, .int 2), (0, .ref o), (1, .int 0)]) hx hb dL_tick_174 hl (by decide) rfl (fun ls hl => ?_)
  refine lv_fload_n hx hb dL_tick_176 rfl (lv_at hl 12 rfl) ?_
  refine lv_fstore (lv' := [(16, .float (f 7)), (15, .int 2), (4, .int (preG u v g 0 16)), (14, .int 0), (13, .int (g 19)), (12, .float ((goF u v f g 0) 7)), (11, .int 0), (10, .int 0), (9, .int 0), (8, .int (-5)), (7, .int (oneF (g 17))), (6, .int 0), (5, .int (g 14)), (3, .float (f 7)), (2, .int 2), (0, .ref o), (1, .int 0)]) hx hb dL_tick_177 hl (by decide) rfl (fun ls hl => ?_)
  refine lv_iload_n hx hb dL_tick_179 rfl (lv_at hl 14 rfl) ?_
  refine lv_iconst (v := 1) hx hb dL_tick_180 (by decide) ?_
  refine lv_icmp_ne (tgt := 228) hx hb dL_tick_181 (by decide) (fun _ => ?_) (fun h9 => absurd h9 (by decide))
  refine lv_iload_n hx hb dL_tick_228 rfl (lv_at hl 14 rfl) ?_
  refine lv_iconst (v := 2) hx hb dL_tick_229 (by decide) ?_
  refine lv_icmp_ne (tgt := 264) hx hb dL_tick_230 (by decide) (fun h9 => absurd (by decide) h9) (fun _ => ?_)
  refine lv_iload_n hx hb dL_tick_233 rfl (lv_at hl 16 rfl) ?_
  refine lv_if_ne (tgt := 258) hx hb dL_tick_234 (by decide) (fun h9 => absurd (by decide) h9) (fun _ => ?_)
  refine lv_iload hx hb dL_tick_237 (lv_at hl 12 rfl) ?_
  refine lv_iconst (v := 1) hx hb dL_tick_239 (by decide) ?_
  refine lv_iadd hx hb dL_tick_240 ?_
  refine lv_aload_n hx hb dL_tick_241 rfl (lv_at hl 15 rfl) ?_
  refine lv_iconst (v := 0) hx hb dL_tick_242 (by decide) ?_
  refine lr_i (rL (rest := [.int ((g 14) + 1)]) ⟨hx, hb, hml, hown, hts⟩ (LB_number l G cA A o (u, v, f, g, L) n K ch 0 ) (cwV 1 hts gL_tick_X8_number rfl rfl rfl mdX8_number ⟨Nat.le_of_ble_eq_true rfl, Nat.le_of_ble_eq_true rfl⟩) hA hL rfl hl rfl (Nat.le_of_ble_eq_true rfl) dL_tick_243 ⟨Nat.le_of_ble_eq_true rfl, Nat.le_of_ble_eq_true rfl⟩) hA hL (fun r_243 H locs hr_243 hA hL => ?_)
  replace hr_243 : r_243 = v 0 := hr_243
  subst hr_243
  refine lv_icmp_lt (tgt := 258) hx hb dL_tick_246 (by decide) (fun c_246 => ?_) (fun c_246 => ?_)
  · skip
    refine lv_iconst (v := 2) hx hb dL_tick_258 (by decide) ?_
    refine lv_istore (lv' := [(15, .int 2), (16, .float (f 7)), (4, .int (preG u v g 0 16)), (14, .int 0), (13, .int (g 19)), (12, .float ((goF u v f g 0) 7)), (11, .int 0), (10, .int 0), (9, .int 0), (8, .int (-5)), (7, .int (oneF (g 17))), (6, .int 0), (5, .int (g 14)), (3, .float (f 7)), (2, .int 2), (0, .ref o), (1, .int 0)]) hx hb dL_tick_259 hl (by decide) rfl (fun ls hl => ?_)
    refine lv_goto (tgt := 385) hx hb dL_tick_261 (by decide) ?_
    refine lv_iload_n hx hb dL_tick_385 rfl (lv_at hl 14 rfl) ?_
    refine lv_iconst (v := 3) hx hb dL_tick_386 (by decide) ?_
    refine lv_icmp_ne (tgt := 400) hx hb dL_tick_387 (by decide) (fun _ => ?_) (fun h9 => absurd h9 (by decide))
    refine lv_iconst (v := 0) hx hb dL_tick_400 (by decide) ?_
    refine lv_istore (lv' := [(17, .int 0), (15, .int 2), (16, .float (f 7)), (4, .int (preG u v g 0 16)), (14, .int 0), (13, .int (g 19)), (12, .float ((goF u v f g 0) 7)), (11, .int 0), (10, .int 0), (9, .int 0), (8, .int (-5)), (7, .int (oneF (g 17))), (6, .int 0), (5, .int (g 14)), (3, .float (f 7)), (2, .int 2), (0, .ref o), (1, .int 0)]) hx hb dL_tick_401 hl (by decide) rfl (fun ls hl => ?_)
    refine lv_iload hx hb dL_tick_403 (lv_at hl 0 rfl) ?_
    refine lv_if_eq (tgt := 428) hx hb dL_tick_405 (by decide) (fun _ => ?_) (fun h9 => absurd (by decide) h9)
    refine lv_iconst (v := 0) hx hb dL_tick_428 (by decide) ?_
    refine lv_istore (lv' := [(18, .int 0), (17, .int 0), (15, .int 2), (16, .float (f 7)), (4, .int (preG u v g 0 16)), (14, .int 0), (13, .int (g 19)), (12, .float ((goF u v f g 0) 7)), (11, .int 0), (10, .int 0), (9, .int 0), (8, .int (-5)), (7, .int (oneF (g 17))), (6, .int 0), (5, .int (g 14)), (3, .float (f 7)), (2, .int 2), (0, .ref o), (1, .int 0)]) hx hb dL_tick_429 hl (by decide) rfl (fun ls hl => ?_)
    refine lv_aload_n hx hb dL_tick_431 rfl (lv_at hl 17 rfl) ?_
    refine lv_iload_n hx hb dL_tick_432 rfl (lv_at hl 18 rfl) ?_
    refine lv_iconst (v := 1) hx hb dL_tick_433 (by decide) ?_
    refine lw_i (rL (rest := []) ⟨hx, hb, hml, hown, hts⟩ (LB_pass_ok l G cA A o (u, v, f, g, L) n K ch hn 0 1 (by decide) (by decide) (by decide) (by decide) hT hG1 hBo) (cwV 2 hts gL_tick_X8_pass rfl rfl rfl mdX8_pass ⟨Nat.le_of_ble_eq_true rfl, Nat.le_of_ble_eq_true rfl⟩) hA hL rfl hl rfl (Nat.le_of_ble_eq_true rfl) dL_tick_434 ⟨Nat.le_of_ble_eq_true rfl, Nat.le_of_ble_eq_true rfl⟩) hA (fun r_434 _ H locs hr_434 hA hL => ?_)
    replace hL : LB G cA A o (u, v, (goF u v f g 0), (goG u v f g 0), (goL u v g L 0)) (recN n) K ch H := hL
    replace hr_434 : r_434 = (goG u v f g 0) 13 := hr_434
    subst hr_434
    refine lv_iload hx hb dL_tick_437 (lv_at hl 2 rfl) ?_
    refine lv_icmp_ne (tgt := 489) hx hb dL_tick_439 (by decide) (fun c_439 => absurd (ht.1.trans (if_pos c_246)) c_439) (fun c_439 => ?_)
    refine lv_aload_n hx hb dL_tick_442 rfl (lv_at hl 17 rfl) ?_
    refine lr_f (rL (rest := []) ⟨hx, hb, hml, hown, hts⟩ (LB_place l G cA A o (u, v, (goF u v f g 0), (goG u v f g 0), (goL u v g L 0)) (recN n) K ch  ) (cwV 0 hts gL_tick_X8_place rfl rfl rfl mdX8_place ⟨Nat.le_of_ble_eq_true rfl, Nat.le_of_ble_eq_true rfl⟩) hA hL rfl hl rfl (Nat.le_of_ble_eq_true rfl) dL_tick_443 ⟨Nat.le_of_ble_eq_true rfl, Nat.le_of_ble_eq_true rfl⟩) hA hL (fun r_443 H locs hr_443 hA hL => ?_)
    replace hr_443 : r_443 = (goF u v f g 0) 7 := hr_443
    subst hr_443
    refine lv_fload hx hb dL_tick_446 (lv_at hl 3 rfl) ?_
    refine lv_fcmp hx hb dL_tick_448 ?_
    refine lv_if_ne (tgt := 489) hx hb dL_tick_449 (by decide) (fun c_449 => absurd (by rw [ht.2.2.2]; exact cmp_self (of_vf hf) _) c_449) (fun c_449 => ?_)
    refine lv_fload hx hb dL_tick_452 (lv_at hl 7 rfl) ?_
    refine lv_fload hx hb dL_tick_454 (lv_at hl 3 rfl) ?_
    refine lv_fcmp hx hb dL_tick_456 ?_
    refine lv_if_ne (tgt := 489) hx hb dL_tick_457 (by decide) (fun c_457 => absurd (by rw [ht.2.2.2]; exact cmp_self (of_vf hf) _) c_457) (fun c_457 => ?_)
    refine lv_aload_n hx hb dL_tick_460 rfl (lv_at hl 17 rfl) ?_
    refine lv_iconst (v := 1) hx hb dL_tick_461 (by decide) ?_
    refine lr_i (rL (rest := []) ⟨hx, hb, hml, hown, hts⟩ (LB_door l G cA A o (u, v, (goF u v f g 0), (goG u v f g 0), (goL u v g L 0)) (recN n) K ch 1 ) (cwV 1 hts gL_tick_X8_door rfl rfl rfl mdX8_door ⟨Nat.le_of_ble_eq_true rfl, Nat.le_of_ble_eq_true rfl⟩) hA hL rfl hl rfl (Nat.le_of_ble_eq_true rfl) dL_tick_462 ⟨Nat.le_of_ble_eq_true rfl, Nat.le_of_ble_eq_true rfl⟩) hA hL (fun r_462 H locs hr_462 hA hL => ?_)
    replace hr_462 : r_462 = (goG u v f g 0) 16 := hr_462
    subst hr_462
    refine lv_iload hx hb dL_tick_465 (lv_at hl 4 rfl) ?_
    refine lv_icmp_ne (tgt := 489) hx hb dL_tick_467 (by decide) (fun c_467 => absurd ht.2.1 c_467) (fun c_467 => ?_)
    refine lv_aload_n hx hb dL_tick_470 rfl (lv_at hl 17 rfl) ?_
    refine lv_iconst (v := 2) hx hb dL_tick_471 (by decide) ?_
    refine lr_i (rL (rest := []) ⟨hx, hb, hml, hown, hts⟩ (LB_door l G cA A o (u, v, (goF u v f g 0), (goG u v f g 0), (goL u v g L 0)) (recN n) K ch 2 ) (cwV 1 hts gL_tick_X8_door rfl rfl rfl mdX8_door ⟨Nat.le_of_ble_eq_true rfl, Nat.le_of_ble_eq_true rfl⟩) hA hL rfl hl rfl (Nat.le_of_ble_eq_true rfl) dL_tick_472 ⟨Nat.le_of_ble_eq_true rfl, Nat.le_of_ble_eq_true rfl⟩) hA hL (fun r_472 H locs hr_472 hA hL => ?_)
    replace hr_472 : r_472 = oneF ((goG u v f g 0) 17) := hr_472
    subst hr_472
    refine lv_iload hx hb dL_tick_475 (lv_at hl 0 rfl) ?_
    refine lv_if_eq (tgt := 484) hx hb dL_tick_477 (by decide) (fun _ => ?_) (fun h9 => absurd (by decide) h9)
    refine lv_iload hx hb dL_tick_484 (lv_at hl 12 rfl) ?_
    refine lv_icmp_eq (tgt := 491) hx hb dL_tick_486 (by decide) (fun c_486 => ?_) (fun c_486 => absurd (by rw [ht.2.2.1] <;> rfl) c_486)
    refine lv_iload hx hb dL_tick_491 (lv_at hl 5 rfl) ?_
    refine lv_if_eq (tgt := 554) hx hb dL_tick_493 (by decide) (fun _ => ?_) (fun h9 => absurd (by decide) h9)
    refine lv_iload_n hx hb dL_tick_554 rfl (lv_at hl 18 rfl) ?_
    refine lv_if_eq (tgt := 599) hx hb dL_tick_555 (by decide) (fun _ => ?_) (fun h9 => absurd (by decide) h9)
    refine lv_iconst (v := 1) hx hb dL_tick_599 (by decide) ?_
    refine lv_goto (tgt := 604) hx hb dL_tick_600 (by decide) ?_
    exact en_l (post := fun r (_ : Unit) => r = 1) (B := fun _ H => LB G cA A o (u, v, (goF u v f g 0), (goG u v f g 0), (goL u v g L 0)) (recN n) K ch H) () hx hb hr hlocks hA rfl hL dL_tick_604
  · skip
    refine lv_iload hx hb dL_tick_249 (lv_at hl 10 rfl) ?_
    refine lv_if_ne (tgt := 258) hx hb dL_tick_251 (by decide) (fun c_251 => ?_) (fun c_251 => ?_)
    · skip
      refine lv_iconst (v := 2) hx hb dL_tick_258 (by decide) ?_
      refine lv_istore (lv' := [(15, .int 2), (16, .float (f 7)), (4, .int (preG u v g 0 16)), (14, .int 0), (13, .int (g 19)), (12, .float ((goF u v f g 0) 7)), (11, .int 0), (10, .int 0), (9, .int 0), (8, .int (-5)), (7, .int (oneF (g 17))), (6, .int 0), (5, .int (g 14)), (3, .float (f 7)), (2, .int 2), (0, .ref o), (1, .int 0)]) hx hb dL_tick_259 hl (by decide) rfl (fun ls hl => ?_)
      refine lv_goto (tgt := 385) hx hb dL_tick_261 (by decide) ?_
      refine lv_iload_n hx hb dL_tick_385 rfl (lv_at hl 14 rfl) ?_
      refine lv_iconst (v := 3) hx hb dL_tick_386 (by decide) ?_
      refine lv_icmp_ne (tgt := 400) hx hb dL_tick_387 (by decide) (fun _ => ?_) (fun h9 => absurd h9 (by decide))
      refine lv_iconst (v := 0) hx hb dL_tick_400 (by decide) ?_
      refine lv_istore (lv' := [(17, .int 0), (15, .int 2), (16, .float (f 7)), (4, .int (preG u v g 0 16)), (14, .int 0), (13, .int (g 19)), (12, .float ((goF u v f g 0) 7)), (11, .int 0), (10, .int 0), (9, .int 0), (8, .int (-5)), (7, .int (oneF (g 17))), (6, .int 0), (5, .int (g 14)), (3, .float (f 7)), (2, .int 2), (0, .ref o), (1, .int 0)]) hx hb dL_tick_401 hl (by decide) rfl (fun ls hl => ?_)
      refine lv_iload hx hb dL_tick_403 (lv_at hl 0 rfl) ?_
      refine lv_if_eq (tgt := 428) hx hb dL_tick_405 (by decide) (fun _ => ?_) (fun h9 => absurd (by decide) h9)
      refine lv_iconst (v := 0) hx hb dL_tick_428 (by decide) ?_
      refine lv_istore (lv' := [(18, .int 0), (17, .int 0), (15, .int 2), (16, .float (f 7)), (4, .int (preG u v g 0 16)), (14, .int 0), (13, .int (g 19)), (12, .float ((goF u v f g 0) 7)), (11, .int 0), (10, .int 0), (9, .int 0), (8, .int (-5)), (7, .int (oneF (g 17))), (6, .int 0), (5, .int (g 14)), (3, .float (f 7)), (2, .int 2), (0, .ref o), (1, .int 0)]) hx hb dL_tick_429 hl (by decide) rfl (fun ls hl => ?_)
      refine lv_aload_n hx hb dL_tick_431 rfl (lv_at hl 17 rfl) ?_
      refine lv_iload_n hx hb dL_tick_432 rfl (lv_at hl 18 rfl) ?_
      refine lv_iconst (v := 1) hx hb dL_tick_433 (by decide) ?_
      refine lw_i (rL (rest := []) ⟨hx, hb, hml, hown, hts⟩ (LB_pass_ok l G cA A o (u, v, f, g, L) n K ch hn 0 1 (by decide) (by decide) (by decide) (by decide) hT hG1 hBo) (cwV 2 hts gL_tick_X8_pass rfl rfl rfl mdX8_pass ⟨Nat.le_of_ble_eq_true rfl, Nat.le_of_ble_eq_true rfl⟩) hA hL rfl hl rfl (Nat.le_of_ble_eq_true rfl) dL_tick_434 ⟨Nat.le_of_ble_eq_true rfl, Nat.le_of_ble_eq_true rfl⟩) hA (fun r_434_1 _ H locs hr_434_1 hA hL => ?_)
      replace hL : LB G cA A o (u, v, (goF u v f g 0), (goG u v f g 0), (goL u v g L 0)) (recN n) K ch H := hL
      replace hr_434_1 : r_434_1 = (goG u v f g 0) 13 := hr_434_1
      subst hr_434_1
      refine lv_iload hx hb dL_tick_437 (lv_at hl 2 rfl) ?_
      refine lv_icmp_ne (tgt := 489) hx hb dL_tick_439 (by decide) (fun c_439_1 => absurd (ht.1.trans ((if_neg c_246).trans (if_neg (one_nz c_251)))) c_439_1) (fun c_439_1 => ?_)
      refine lv_aload_n hx hb dL_tick_442 rfl (lv_at hl 17 rfl) ?_
      refine lr_f (rL (rest := []) ⟨hx, hb, hml, hown, hts⟩ (LB_place l G cA A o (u, v, (goF u v f g 0), (goG u v f g 0), (goL u v g L 0)) (recN n) K ch  ) (cwV 0 hts gL_tick_X8_place rfl rfl rfl mdX8_place ⟨Nat.le_of_ble_eq_true rfl, Nat.le_of_ble_eq_true rfl⟩) hA hL rfl hl rfl (Nat.le_of_ble_eq_true rfl) dL_tick_443 ⟨Nat.le_of_ble_eq_true rfl, Nat.le_of_ble_eq_true rfl⟩) hA hL (fun r_443_1 H locs hr_443_1 hA hL => ?_)
      replace hr_443_1 : r_443_1 = (goF u v f g 0) 7 := hr_443_1
      subst hr_443_1
      refine lv_fload hx hb dL_tick_446 (lv_at hl 3 rfl) ?_
      refine lv_fcmp hx hb dL_tick_448 ?_
      refine lv_if_ne (tgt := 489) hx hb dL_tick_449 (by decide) (fun c_449_1 => absurd (by rw [ht.2.2.2]; exact cmp_self (of_vf hf) _) c_449_1) (fun c_449_1 => ?_)
      refine lv_fload hx hb dL_tick_452 (lv_at hl 7 rfl) ?_
      refine lv_fload hx hb dL_tick_454 (lv_at hl 3 rfl) ?_
      refine lv_fcmp hx hb dL_tick_456 ?_
      refine lv_if_ne (tgt := 489) hx hb dL_tick_457 (by decide) (fun c_457_1 => absurd (by rw [ht.2.2.2]; exact cmp_self (of_vf hf) _) c_457_1) (fun c_457_1 => ?_)
      refine lv_aload_n hx hb dL_tick_460 rfl (lv_at hl 17 rfl) ?_
      refine lv_iconst (v := 1) hx hb dL_tick_461 (by decide) ?_
      refine lr_i (rL (rest := []) ⟨hx, hb, hml, hown, hts⟩ (LB_door l G cA A o (u, v, (goF u v f g 0), (goG u v f g 0), (goL u v g L 0)) (recN n) K ch 1 ) (cwV 1 hts gL_tick_X8_door rfl rfl rfl mdX8_door ⟨Nat.le_of_ble_eq_true rfl, Nat.le_of_ble_eq_true rfl⟩) hA hL rfl hl rfl (Nat.le_of_ble_eq_true rfl) dL_tick_462 ⟨Nat.le_of_ble_eq_true rfl, Nat.le_of_ble_eq_true rfl⟩) hA hL (fun r_462_1 H locs hr_462_1 hA hL => ?_)
      replace hr_462_1 : r_462_1 = (goG u v f g 0) 16 := hr_462_1
      subst hr_462_1
      refine lv_iload hx hb dL_tick_465 (lv_at hl 4 rfl) ?_
      refine lv_icmp_ne (tgt := 489) hx hb dL_tick_467 (by decide) (fun c_467_1 => absurd ht.2.1 c_467_1) (fun c_467_1 => ?_)
      refine lv_aload_n hx hb dL_tick_470 rfl (lv_at hl 17 rfl) ?_
      refine lv_iconst (v := 2) hx hb dL_tick_471 (by decide) ?_
      refine lr_i (rL (rest := []) ⟨hx, hb, hml, hown, hts⟩ (LB_door l G cA A o (u, v, (goF u v f g 0), (goG u v f g 0), (goL u v g L 0)) (recN n) K ch 2 ) (cwV 1 hts gL_tick_X8_door rfl rfl rfl mdX8_door ⟨Nat.le_of_ble_eq_true rfl, Nat.le_of_ble_eq_true rfl⟩) hA hL rfl hl rfl (Nat.le_of_ble_eq_true rfl) dL_tick_472 ⟨Nat.le_of_ble_eq_true rfl, Nat.le_of_ble_eq_true rfl⟩) hA hL (fun r_472_1 H locs hr_472_1 hA hL => ?_)
      replace hr_472_1 : r_472_1 = oneF ((goG u v f g 0) 17) := hr_472_1
      subst hr_472_1
      refine lv_iload hx hb dL_tick_475 (lv_at hl 0 rfl) ?_
      refine lv_if_eq (tgt := 484) hx hb dL_tick_477 (by decide) (fun _ => ?_) (fun h9 => absurd (by decide) h9)
      refine lv_iload hx hb dL_tick_484 (lv_at hl 12 rfl) ?_
      refine lv_icmp_eq (tgt := 491) hx hb dL_tick_486 (by decide) (fun c_486_1 => ?_) (fun c_486_1 => absurd (by rw [ht.2.2.1] <;> rfl) c_486_1)
      refine lv_iload hx hb dL_tick_491 (lv_at hl 5 rfl) ?_
      refine lv_if_eq (tgt := 554) hx hb dL_tick_493 (by decide) (fun _ => ?_) (fun h9 => absurd (by decide) h9)
      refine lv_iload_n hx hb dL_tick_554 rfl (lv_at hl 18 rfl) ?_
      refine lv_if_eq (tgt := 599) hx hb dL_tick_555 (by decide) (fun _ => ?_) (fun h9 => absurd (by decide) h9)
      refine lv_iconst (v := 1) hx hb dL_tick_599 (by decide) ?_
      refine lv_goto (tgt := 604) hx hb dL_tick_600 (by decide) ?_
      exact en_l (post := fun r (_ : Unit) => r = 1) (B := fun _ H => LB G cA A o (u, v, (goF u v f g 0), (goG u v f g 0), (goL u v g L 0)) (recN n) K ch H) () hx hb hr hlocks hA rfl hL dL_tick_604
    · skip
      refine lv_iconst (v := 3) hx hb dL_tick_254 (by decide) ?_
      refine lv_goto (tgt := 259) hx hb dL_tick_255 (by decide) ?_
      refine lv_istore (lv' := [(15, .int 3), (16, .float (f 7)), (4, .int (preG u v g 0 16)), (14, .int 0), (13, .int (g 19)), (12, .float ((goF u v f g 0) 7)), (11, .int 0), (10, .int 0), (9, .int 0), (8, .int (-5)), (7, .int (oneF (g 17))), (6, .int 0), (5, .int (g 14)), (3, .float (f 7)), (2, .int 2), (0, .ref o), (1, .int 0)]) hx hb dL_tick_259 hl (by decide) rfl (fun ls hl => ?_)
      refine lv_goto (tgt := 385) hx hb dL_tick_261 (by decide) ?_
      refine lv_iload_n hx hb dL_tick_385 rfl (lv_at hl 14 rfl) ?_
      refine lv_iconst (v := 3) hx hb dL_tick_386 (by decide) ?_
      refine lv_icmp_ne (tgt := 400) hx hb dL_tick_387 (by decide) (fun _ => ?_) (fun h9 => absurd h9 (by decide))
      refine lv_iconst (v := 0) hx hb dL_tick_400 (by decide) ?_
      refine lv_istore (lv' := [(17, .int 0), (15, .int 3), (16, .float (f 7)), (4, .int (preG u v g 0 16)), (14, .int 0), (13, .int (g 19)), (12, .float ((goF u v f g 0) 7)), (11, .int 0), (10, .int 0), (9, .int 0), (8, .int (-5)), (7, .int (oneF (g 17))), (6, .int 0), (5, .int (g 14)), (3, .float (f 7)), (2, .int 2), (0, .ref o), (1, .int 0)]) hx hb dL_tick_401 hl (by decide) rfl (fun ls hl => ?_)
      refine lv_iload hx hb dL_tick_403 (lv_at hl 0 rfl) ?_
      refine lv_if_eq (tgt := 428) hx hb dL_tick_405 (by decide) (fun _ => ?_) (fun h9 => absurd (by decide) h9)
      refine lv_iconst (v := 0) hx hb dL_tick_428 (by decide) ?_
      refine lv_istore (lv' := [(18, .int 0), (17, .int 0), (15, .int 3), (16, .float (f 7)), (4, .int (preG u v g 0 16)), (14, .int 0), (13, .int (g 19)), (12, .float ((goF u v f g 0) 7)), (11, .int 0), (10, .int 0), (9, .int 0), (8, .int (-5)), (7, .int (oneF (g 17))), (6, .int 0), (5, .int (g 14)), (3, .float (f 7)), (2, .int 2), (0, .ref o), (1, .int 0)]) hx hb dL_tick_429 hl (by decide) rfl (fun ls hl => ?_)
      refine lv_aload_n hx hb dL_tick_431 rfl (lv_at hl 17 rfl) ?_
      refine lv_iload_n hx hb dL_tick_432 rfl (lv_at hl 18 rfl) ?_
      refine lv_iconst (v := 1) hx hb dL_tick_433 (by decide) ?_
      refine lw_i (rL (rest := []) ⟨hx, hb, hml, hown, hts⟩ (LB_pass_ok l G cA A o (u, v, f, g, L) n K ch hn 0 1 (by decide) (by decide) (by decide) (by decide) hT hG1 hBo) (cwV 2 hts gL_tick_X8_pass rfl rfl rfl mdX8_pass ⟨Nat.le_of_ble_eq_true rfl, Nat.le_of_ble_eq_true rfl⟩) hA hL rfl hl rfl (Nat.le_of_ble_eq_true rfl) dL_tick_434 ⟨Nat.le_of_ble_eq_true rfl, Nat.le_of_ble_eq_true rfl⟩) hA (fun r_434_2 _ H locs hr_434_2 hA hL => ?_)
      replace hL : LB G cA A o (u, v, (goF u v f g 0), (goG u v f g 0), (goL u v g L 0)) (recN n) K ch H := hL
      replace hr_434_2 : r_434_2 = (goG u v f g 0) 13 := hr_434_2
      subst hr_434_2
      refine lv_iload hx hb dL_tick_437 (lv_at hl 2 rfl) ?_
      refine lv_icmp_ne (tgt := 489) hx hb dL_tick_439 (by decide) (fun c_439_2 => absurd (ht.1.trans ((if_neg c_246).trans (if_pos (one_z c_251)))) c_439_2) (fun c_439_2 => ?_)
      refine lv_aload_n hx hb dL_tick_442 rfl (lv_at hl 17 rfl) ?_
      refine lr_f (rL (rest := []) ⟨hx, hb, hml, hown, hts⟩ (LB_place l G cA A o (u, v, (goF u v f g 0), (goG u v f g 0), (goL u v g L 0)) (recN n) K ch  ) (cwV 0 hts gL_tick_X8_place rfl rfl rfl mdX8_place ⟨Nat.le_of_ble_eq_true rfl, Nat.le_of_ble_eq_true rfl⟩) hA hL rfl hl rfl (Nat.le_of_ble_eq_true rfl) dL_tick_443 ⟨Nat.le_of_ble_eq_true rfl, Nat.le_of_ble_eq_true rfl⟩) hA hL (fun r_443_2 H locs hr_443_2 hA hL => ?_)
      replace hr_443_2 : r_443_2 = (goF u v f g 0) 7 := hr_443_2
      subst hr_443_2
      refine lv_fload hx hb dL_tick_446 (lv_at hl 3 rfl) ?_
      refine lv_fcmp hx hb dL_tick_448 ?_
      refine lv_if_ne (tgt := 489) hx hb dL_tick_449 (by decide) (fun c_449_2 => absurd (by rw [ht.2.2.2]; exact cmp_self (of_vf hf) _) c_449_2) (fun c_449_2 => ?_)
      refine lv_fload hx hb dL_tick_452 (lv_at hl 7 rfl) ?_
      refine lv_fload hx hb dL_tick_454 (lv_at hl 3 rfl) ?_
      refine lv_fcmp hx hb dL_tick_456 ?_
      refine lv_if_ne (tgt := 489) hx hb dL_tick_457 (by decide) (fun c_457_2 => absurd (by rw [ht.2.2.2]; exact cmp_self (of_vf hf) _) c_457_2) (fun c_457_2 => ?_)
      refine lv_aload_n hx hb dL_tick_460 rfl (lv_at hl 17 rfl) ?_
      refine lv_iconst (v := 1) hx hb dL_tick_461 (by decide) ?_
      refine lr_i (rL (rest := []) ⟨hx, hb, hml, hown, hts⟩ (LB_door l G cA A o (u, v, (goF u v f g 0), (goG u v f g 0), (goL u v g L 0)) (recN n) K ch 1 ) (cwV 1 hts gL_tick_X8_door rfl rfl rfl mdX8_door ⟨Nat.le_of_ble_eq_true rfl, Nat.le_of_ble_eq_true rfl⟩) hA hL rfl hl rfl (Nat.le_of_ble_eq_true rfl) dL_tick_462 ⟨Nat.le_of_ble_eq_true rfl, Nat.le_of_ble_eq_true rfl⟩) hA hL (fun r_462_2 H locs hr_462_2 hA hL => ?_)
      replace hr_462_2 : r_462_2 = (goG u v f g 0) 16 := hr_462_2
      subst hr_462_2
      refine lv_iload hx hb dL_tick_465 (lv_at hl 4 rfl) ?_
      refine lv_icmp_ne (tgt := 489) hx hb dL_tick_467 (by decide) (fun c_467_2 => absurd ht.2.1 c_467_2) (fun c_467_2 => ?_)
      refine lv_aload_n hx hb dL_tick_470 rfl (lv_at hl 17 rfl) ?_
      refine lv_iconst (v := 2) hx hb dL_tick_471 (by decide) ?_
      refine lr_i (rL (rest := []) ⟨hx, hb, hml, hown, hts⟩ (LB_door l G cA A o (u, v, (goF u v f g 0), (goG u v f g 0), (goL u v g L 0)) (recN n) K ch 2 ) (cwV 1 hts gL_tick_X8_door rfl rfl rfl mdX8_door ⟨Nat.le_of_ble_eq_true rfl, Nat.le_of_ble_eq_true rfl⟩) hA hL rfl hl rfl (Nat.le_of_ble_eq_true rfl) dL_tick_472 ⟨Nat.le_of_ble_eq_true rfl, Nat.le_of_ble_eq_true rfl⟩) hA hL (fun r_472_2 H locs hr_472_2 hA hL => ?_)
      replace hr_472_2 : r_472_2 = oneF ((goG u v f g 0) 17) := hr_472_2
      subst hr_472_2
      refine lv_iload hx hb dL_tick_475 (lv_at hl 0 rfl) ?_
      refine lv_if_eq (tgt := 484) hx hb dL_tick_477 (by decide) (fun _ => ?_) (fun h9 => absurd (by decide) h9)
      refine lv_iload hx hb dL_tick_484 (lv_at hl 12 rfl) ?_
      refine lv_icmp_eq (tgt := 491) hx hb dL_tick_486 (by decide) (fun c_486_2 => ?_) (fun c_486_2 => absurd (by rw [ht.2.2.1] <;> rfl) c_486_2)
      refine lv_iload hx hb dL_tick_491 (lv_at hl 5 rfl) ?_
      refine lv_if_eq (tgt := 554) hx hb dL_tick_493 (by decide) (fun _ => ?_) (fun h9 => absurd (by decide) h9)
      refine lv_iload_n hx hb dL_tick_554 rfl (lv_at hl 18 rfl) ?_
      refine lv_if_eq (tgt := 599) hx hb dL_tick_555 (by decide) (fun _ => ?_) (fun h9 => absurd (by decide) h9)
      refine lv_iconst (v := 1) hx hb dL_tick_599 (by decide) ?_
      refine lv_goto (tgt := 604) hx hb dL_tick_600 (by decide) ?_
      exact en_l (post := fun r (_ : Unit) => r = 1) (B := fun _ H => LB G cA A o (u, v, (goF u v f g 0), (goG u v f g 0), (goL u v g L 0)) (recN n) K ch H) () hx hb hr hlocks hA rfl hL dL_tick_604
set_option maxHeartbeats 8000000 in
set_option maxRecDepth 100000 in
/-- tick(o, beams), in the state 3, case n0 -/
theorem cL_tick_3_n0 (l : Launch) (G : va_G) (cA : Nat → ClassId) (A : Nat → Prop) (o : Nat) (u : FF) (v : GG) (f : FF) (g L : GG) (n K : Nat) (ch : GG) (hs : g 13 = 3) (hn : n ≤ 4) (hGo : GoOk u f g) (hPr : PrOk u g) (hP2 : PrOk u (goG u v f g 0)) (hT : ¬ 99999 < g 27 + nI 1) (hBo : Bo g) (hf : vf_n32 (f 7)) (hg : g 5 = 0) : Met l yL_tick wsL_tick ({ frames := 7, cells := 0, slots := 0, locals := 160 } : Room) (va_Pc [.ref o, .int 0] (LbP G cA A o (u, v, f, g, L) n K ch)) (va_Qi (fun r (_ : Unit) => r = 1) (fun _ t => LB G cA A o (u, v, (goF u v f g 0), (goG u v f g 0), (goL u v g L 0)) (recN n) K ch t.heap) A) 0 0 A := by
  refine ofW2 (cc := cL_tick) (maxL := 19) (ret := (some .boolean)) (own := RL) (by decide) rfl rfl (Nat.le_of_ble_eq_true rfl) rfl ?_
  intro p e s m below meth c ls hx hb hml hr hts hown hlocks hv hl
  obtain ⟨hE, hN, hL⟩ := hv
  have hA : At G cA A s s.heap [] := ⟨hE, hN, va_S.rf⟩
  obtain ⟨H, hH0⟩ : ∃ H, H = s.heap := ⟨_, rfl⟩
  rw [← hH0] at hL ⊢
  replace hA : At G cA A s H [] := by rw [hH0]; exact hA
  generalize ([] : List Loc) = locs at hA ⊢
  clear hH0
  replace hl : lv_has ls 19 [(0, .ref o), (1, .int 0)] := hl
  have hG1 : ∀ k, k < 1 → GoOk u (itS u v 0 (f, g, L) k).1 (itS u v 0 (f, g, L) k).2.1 := fun k hk => (show k = 0 by omega) ▸ hGo
  have ht := t_3a hs (u := u) (v := v) (f := f)
  have hp16 : preG u v g 0 16 = g 16 := pre_16c (clearR_none hg)
  have hsn : vf_n32 (FP.fsub (f 7) (spF u (scF v (preG u v g 0)))) := sub_ok hGo.2.2.1 hGo.2.2.2
  refine lv_aload_n hx hb dL_tick_0 rfl (lv_at hl 0 rfl) ?_
  refine lv_iconst (v := 0) hx hb dL_tick_1 (by decide) ?_
  refine lr_i (rL (rest := []) ⟨hx, hb, hml, hown, hts⟩ (LB_door l G cA A o (u, v, f, g, L) n K ch 0 ) (cwV 1 hts gL_tick_X8_door rfl rfl rfl mdX8_door ⟨Nat.le_of_ble_eq_true rfl, Nat.le_of_ble_eq_true rfl⟩) hA hL rfl hl rfl (Nat.le_of_ble_eq_true rfl) dL_tick_2 ⟨Nat.le_of_ble_eq_true rfl, Nat.le_of_ble_eq_true rfl⟩) hA hL (fun r_2 H locs hr_2 hA hL => ?_)
  replace hr_2 : r_2 = 3 := hr_2.trans hs
  subst hr_2
  refine lv_istore_n (lv' := [(2, .int 3), (0, .ref o), (1, .int 0)]) hx hb dL_tick_5 rfl hl (by decide) rfl (fun ls hl => ?_)
  refine lv_aload_n hx hb dL_tick_6 rfl (lv_at hl 1 rfl) ?_
  refine lr_f (rL (rest := []) ⟨hx, hb, hml, hown, hts⟩ (LB_place l G cA A o (u, v, f, g, L) n K ch  ) (cwV 0 hts gL_tick_X8_place rfl rfl rfl mdX8_place ⟨Nat.le_of_ble_eq_true rfl, Nat.le_of_ble_eq_true rfl⟩) hA hL rfl hl rfl (Nat.le_of_ble_eq_true rfl) dL_tick_7 ⟨Nat.le_of_ble_eq_true rfl, Nat.le_of_ble_eq_true rfl⟩) hA hL (fun r_7 H locs hr_7 hA hL => ?_)
  replace hr_7 : r_7 = f 7 := hr_7
  subst hr_7
  refine lv_fstore_n (lv' := [(3, .float (f 7)), (2, .int 3), (0, .ref o), (1, .int 0)]) hx hb dL_tick_10 rfl hl (by decide) rfl (fun ls hl => ?_)
  refine lv_aload_n hx hb dL_tick_11 rfl (lv_at hl 2 rfl) ?_
  refine lv_iconst (v := 1) hx hb dL_tick_12 (by decide) ?_
  refine lr_i (rL (rest := []) ⟨hx, hb, hml, hown, hts⟩ (LB_door l G cA A o (u, v, f, g, L) n K ch 1 ) (cwV 1 hts gL_tick_X8_door rfl rfl rfl mdX8_door ⟨Nat.le_of_ble_eq_true rfl, Nat.le_of_ble_eq_true rfl⟩) hA hL rfl hl rfl (Nat.le_of_ble_eq_true rfl) dL_tick_13 ⟨Nat.le_of_ble_eq_true rfl, Nat.le_of_ble_eq_true rfl⟩) hA hL (fun r_13 H locs hr_13 hA hL => ?_)
  replace hr_13 : r_13 = g 16 := hr_13
  subst hr_13
  refine lv_istore (lv' := [(4, .int (g 16)), (3, .float (f 7)), (2, .int 3), (0, .ref o), (1, .int 0)]) hx hb dL_tick_16 hl (by decide) rfl (fun ls hl => ?_)
  refine lv_aload_n hx hb dL_tick_18 rfl (lv_at hl 3 rfl) ?_
  refine lv_iconst (v := 3) hx hb dL_tick_19 (by decide) ?_
  refine lr_i (rL (rest := []) ⟨hx, hb, hml, hown, hts⟩ (LB_door l G cA A o (u, v, f, g, L) n K ch 3 ) (cwV 1 hts gL_tick_X8_door rfl rfl rfl mdX8_door ⟨Nat.le_of_ble_eq_true rfl, Nat.le_of_ble_eq_true rfl⟩) hA hL rfl hl rfl (Nat.le_of_ble_eq_true rfl) dL_tick_20 ⟨Nat.le_of_ble_eq_true rfl, Nat.le_of_ble_eq_true rfl⟩) hA hL (fun r_20 H locs hr_20 hA hL => ?_)
  rw [show doF f g 3 = 0 from (by show (if g 13 = 2 then g 14 else 0) = 0; rw [if_neg (by rw [hs]; decide)])] at hr_20
  subst hr_20
  refine lv_istore (lv' := [(5, .int 0), (4, .int (g 16)), (3, .float (f 7)), (2, .int 3), (0, .ref o), (1, .int 0)]) hx hb dL_tick_23 hl (by decide) rfl (fun ls hl => ?_)
  refine lv_aload_n hx hb dL_tick_25 rfl (lv_at hl 4 rfl) ?_
  refine lv_iconst (v := 4) hx hb dL_tick_26 (by decide) ?_
  refine lr_i (rL (rest := []) ⟨hx, hb, hml, hown, hts⟩ (LB_door l G cA A o (u, v, f, g, L) n K ch 4 ) (cwV 1 hts gL_tick_X8_door rfl rfl rfl mdX8_door ⟨Nat.le_of_ble_eq_true rfl, Nat.le_of_ble_eq_true rfl⟩) hA hL rfl hl rfl (Nat.le_of_ble_eq_true rfl) dL_tick_27 ⟨Nat.le_of_ble_eq_true rfl, Nat.le_of_ble_eq_true rfl⟩) hA hL (fun r_27 H locs hr_27 hA hL => ?_)
  rw [show doF f g 4 = g 15 from (by show (if g 13 = 3 then g 15 else 0) = g 15; rw [if_pos hs])] at hr_27
  subst hr_27
  refine lv_istore (lv' := [(6, .int (g 15)), (5, .int 0), (4, .int (g 16)), (3, .float (f 7)), (2, .int 3), (0, .ref o), (1, .int 0)]) hx hb dL_tick_30 hl (by decide) rfl (fun ls hl => ?_)
  refine lv_aload_n hx hb dL_tick_32 rfl (lv_at hl 5 rfl) ?_
  refine lv_iconst (v := 2) hx hb dL_tick_33 (by decide) ?_
  refine lr_i (rL (rest := []) ⟨hx, hb, hml, hown, hts⟩ (LB_door l G cA A o (u, v, f, g, L) n K ch 2 ) (cwV 1 hts gL_tick_X8_door rfl rfl rfl mdX8_door ⟨Nat.le_of_ble_eq_true rfl, Nat.le_of_ble_eq_true rfl⟩) hA hL rfl hl rfl (Nat.le_of_ble_eq_true rfl) dL_tick_34 ⟨Nat.le_of_ble_eq_true rfl, Nat.le_of_ble_eq_true rfl⟩) hA hL (fun r_34 H locs hr_34 hA hL => ?_)
  replace hr_34 : r_34 = oneF (g 17) := hr_34
  subst hr_34
  refine lv_istore (lv' := [(7, .int (oneF (g 17))), (6, .int (g 15)), (5, .int 0), (4, .int (g 16)), (3, .float (f 7)), (2, .int 3), (0, .ref o), (1, .int 0)]) hx hb dL_tick_37 hl (by decide) rfl (fun ls hl => ?_)
  refine lv_aload_n hx hb dL_tick_39 rfl (lv_at hl 6 rfl) ?_
  refine lv_iconst (v := 0) hx hb dL_tick_40 (by decide) ?_
  refine lr_i (rL (rest := []) ⟨hx, hb, hml, hown, hts⟩ (LB_thing l G cA A o (u, v, f, g, L) n K ch 0 hPr) (cwV 1 hts gL_tick_X8_thing rfl rfl rfl mdX8_thing ⟨Nat.le_of_ble_eq_true rfl, Nat.le_of_ble_eq_true rfl⟩) hA hL rfl hl rfl (Nat.le_of_ble_eq_true rfl) dL_tick_41 ⟨Nat.le_of_ble_eq_true rfl, Nat.le_of_ble_eq_true rfl⟩) hA hL (fun r_41 H locs hr_41 hA hL => ?_)
  replace hr_41 : r_41 = -5 := hr_41.trans (th_none 0 (by decide) (by decide) hg)
  subst hr_41
  refine lv_istore (lv' := [(8, .int (-5)), (7, .int (oneF (g 17))), (6, .int (g 15)), (5, .int 0), (4, .int (g 16)), (3, .float (f 7)), (2, .int 3), (0, .ref o), (1, .int 0)]) hx hb dL_tick_44 hl (by decide) rfl (fun ls hl => ?_)
  refine lv_iload hx hb dL_tick_46 (lv_at hl 0 rfl) ?_
  refine lv_if_ge (tgt := 55) hx hb dL_tick_48 (by decide) (fun h9 => absurd h9 (by decide)) (fun _ => ?_)
  refine lv_iconst (v := 0) hx hb dL_tick_51 (by decide) ?_
  refine lv_goto (tgt := 60) hx hb dL_tick_52 (by decide) ?_
  refine lv_istore (lv' := [(9, .int 0), (8, .int (-5)), (7, .int (oneF (g 17))), (6, .int (g 15)), (5, .int 0), (4, .int (g 16)), (3, .float (f 7)), (2, .int 3), (0, .ref o), (1, .int 0)]) hx hb dL_tick_60 hl (by decide) rfl (fun ls hl => ?_)
  refine lv_iload hx hb dL_tick_62 (lv_at hl 1 rfl) ?_
  refine lv_if_ge (tgt := 71) hx hb dL_tick_64 (by decide) (fun h9 => absurd h9 (by decide)) (fun _ => ?_)
  refine lv_iconst (v := 0) hx hb dL_tick_67 (by decide) ?_
  refine lv_goto (tgt := 77) hx hb dL_tick_68 (by decide) ?_
  refine lv_istore (lv' := [(10, .int 0), (9, .int 0), (8, .int (-5)), (7, .int (oneF (g 17))), (6, .int (g 15)), (5, .int 0), (4, .int (g 16)), (3, .float (f 7)), (2, .int 3), (0, .ref o), (1, .int 0)]) hx hb dL_tick_77 hl (by decide) rfl (fun ls hl => ?_)
  refine lv_iload hx hb dL_tick_79 (lv_at hl 2 rfl) ?_
  refine lv_if_ge (tgt := 88) hx hb dL_tick_81 (by decide) (fun h9 => absurd h9 (by decide)) (fun _ => ?_)
  refine lv_iconst (v := 0) hx hb dL_tick_84 (by decide) ?_
  refine lv_goto (tgt := 94) hx hb dL_tick_85 (by decide) ?_
  refine lv_istore (lv' := [(11, .int 0), (10, .int 0), (9, .int 0), (8, .int (-5)), (7, .int (oneF (g 17))), (6, .int (g 15)), (5, .int 0), (4, .int (g 16)), (3, .float (f 7)), (2, .int 3), (0, .ref o), (1, .int 0)]) hx hb dL_tick_94 hl (by decide) rfl (fun ls hl => ?_)
  refine lv_aload_n hx hb dL_tick_96 rfl (lv_at hl 10 rfl) ?_
  refine lv_iload_n hx hb dL_tick_97 rfl (lv_at hl 11 rfl) ?_
  refine lv_iconst (v := 1) hx hb dL_tick_98 (by decide) ?_
  refine lw_f (rL (rest := []) ⟨hx, hb, hml, hown, hts⟩ (LB_placeIn_ok l G cA A o (u, v, f, g, L) n K ch 0 1 (by decide) (by decide) (by decide) hG1) (cwV 2 hts gL_tick_X8_placeIn rfl rfl rfl mdX8_placeIn ⟨Nat.le_of_ble_eq_true rfl, Nat.le_of_ble_eq_true rfl⟩) hA hL rfl hl rfl (Nat.le_of_ble_eq_true rfl) dL_tick_99 ⟨Nat.le_of_ble_eq_true rfl, Nat.le_of_ble_eq_true rfl⟩) hA (fun r_99 _ H locs hr_99 hA hL => ?_)
  replace hL : LB G cA A o (u, v, f, g, L) n K ch H := hL
  replace hr_99 : r_99 = (goF u v f g 0) 7 := hr_99
  subst hr_99
  refine lv_fstore (lv' := [(12, .float ((goF u v f g 0) 7)), (11, .int 0), (10, .int 0), (9, .int 0), (8, .int (-5)), (7, .int (oneF (g 17))), (6, .int (g 15)), (5, .int 0), (4, .int (g 16)), (3, .float (f 7)), (2, .int 3), (0, .ref o), (1, .int 0)]) hx hb dL_tick_102 hl (by decide) rfl (fun ls hl => ?_)
  refine lv_aload_n hx hb dL_tick_104 rfl (lv_at hl 11 rfl) ?_
  refine lv_iload hx hb dL_tick_105 (lv_at hl 1 rfl) ?_
  refine lv_iconst (v := 1) hx hb dL_tick_107 (by decide) ?_
  refine lv_iadd hx hb dL_tick_108 ?_
  refine W.eq (g2 := F0 m 109 ls [.int 1, .ref o]) rfl ?_
  refine lr_i (rL (rest := []) ⟨hx, hb, hml, hown, hts⟩ (LB_count l G cA A o (u, v, f, g, L) n K ch 1) (cwV 1 hts gL_tick_X8_count rfl rfl rfl mdX8_count ⟨Nat.le_of_ble_eq_true rfl, Nat.le_of_ble_eq_true rfl⟩) hA hL rfl hl rfl (Nat.le_of_ble_eq_true rfl) dL_tick_109 ⟨Nat.le_of_ble_eq_true rfl, Nat.le_of_ble_eq_true rfl⟩) hA hL (fun r_109 H locs hr_109 hA hL => ?_)
  replace hr_109 : r_109 = g 19 := hr_109
  subst hr_109
  refine lv_istore (lv' := [(13, .int (g 19)), (12, .float ((goF u v f g 0) 7)), (11, .int 0), (10, .int 0), (9, .int 0), (8, .int (-5)), (7, .int (oneF (g 17))), (6, .int (g 15)), (5, .int 0), (4, .int (g 16)), (3, .float (f 7)), (2, .int 3), (0, .ref o), (1, .int 0)]) hx hb dL_tick_112 hl (by decide) rfl (fun ls hl => ?_)
  refine lv_iload hx hb dL_tick_114 (lv_at hl 5 rfl) ?_
  refine lv_if_le (tgt := 139) hx hb dL_tick_116 (by decide) (fun _ => ?_) (fun h9 => absurd (by decide) h9)
  refine lv_iconst (v := 0) hx hb dL_tick_139 (by decide) ?_
  refine lv_istore (lv' := [(14, .int 0), (13, .int (g 19)), (12, .float ((goF u v f g 0) 7)), (11, .int 0), (10, .int 0), (9, .int 0), (8, .int (-5)), (7, .int (oneF (g 17))), (6, .int (g 15)), (5, .int 0), (4, .int (g 16)), (3, .float (f 7)), (2, .int 3), (0, .ref o), (1, .int 0)]) hx hb dL_tick_140 hl (by decide) rfl (fun ls hl => ?_)
  refine lv_iload hx hb dL_tick_142 (lv_at hl 10 rfl) ?_
  refine lv_iload hx hb dL_tick_144 (lv_at hl 0 rfl) ?_
  refine lv_if_eq (tgt := 169) hx hb dL_tick_146 (by decide) (fun _ => ?_) (fun h9 => absurd (by decide) h9)
  refine lv_iconst (v := 0) hx hb dL_tick_169 (by decide) ?_
  refine lv_isub hx hb dL_tick_170 ?_
  refine W.eq (g2 := F0 m 171 ls [.int (preG u v g 0 16)]) (by rw [hp16, Int32.sub_zero]) ?_
  refine lv_istore (lv' := [(4, .int (preG u v g 0 16)), (14, .int 0), (13, .int (g 19)), (12, .float ((goF u v f g 0) 7)), (11, .int 0), (10, .int 0), (9, .int 0), (8, .int (-5)), (7, .int (oneF (g 17))), (6, .int (g 15)), (5, .int 0), (3, .float (f 7)), (2, .int 3), (0, .ref o), (1, .int 0)]) hx hb dL_tick_171 hl (by decide) rfl (fun ls hl => ?_)
  refine lv_iload_n hx hb dL_tick_173 rfl (lv_at hl 12 rfl) ?_
  refine lv_istore (lv' := [(15, .int 3), (4, .int (preG u v g 0 16)), (14, .int 0), (13, .int (g 19)), (12, .float ((goF u v f g 0) 7)), (11, .int 0), (10, .int 0), (9, .int 0), (8, .int (-5)), (7, .int (oneF (g 17))), (6, .int (g 15)), (5, .int 0), (3, .float (f 7)), (2, .int 3), (0, .ref o), (1, .int 0)]) hx hb dL_tick_174 hl (by decide) rfl (fun ls hl => ?_)
  refine lv_fload_n hx hb dL_tick_176 rfl (lv_at hl 12 rfl) ?_
  refine lv_fstore (lv' := [(16, .float (f 7)), (15, .int 3), (4, .int (preG u v g 0 16)), (14, .int 0), (13, .int (g 19)), (12, .float ((goF u v f g 0) 7)), (11, .int 0), (10, .int 0), (9, .int 0), (8, .int (-5)), (7, .int (oneF (g 17))), (6, .int (g 15)), (5, .int 0), (3, .float (f 7)), (2, .int 3), (0, .ref o), (1, .int 0)]) hx hb dL_tick_177 hl (by decide) rfl (fun ls hl => ?_)
  refine lv_iload_n hx hb dL_tick_179 rfl (lv_at hl 14 rfl) ?_
  refine lv_iconst (v := 1) hx hb dL_tick_180 (by decide) ?_
  refine lv_icmp_ne (tgt := 228) hx hb dL_tick_181 (by decide) (fun _ => ?_) (fun h9 => absurd h9 (by decide))
  refine lv_iload_n hx hb dL_tick_228 rfl (lv_at hl 14 rfl) ?_
  refine lv_iconst (v := 2) hx hb dL_tick_229 (by decide) ?_
  refine lv_icmp_ne (tgt := 264) hx hb dL_tick_230 (by decide) (fun _ => ?_) (fun h9 => absurd h9 (by decide))
  refine lv_iload_n hx hb dL_tick_264 rfl (lv_at hl 14 rfl) ?_
  refine lv_iconst (v := 3) hx hb dL_tick_265 (by decide) ?_
  refine lv_icmp_ne (tgt := 311) hx hb dL_tick_266 (by decide) (fun h9 => absurd (by decide) h9) (fun _ => ?_)
  refine lv_iload_n hx hb dL_tick_269 rfl (lv_at hl 16 rfl) ?_
  refine lv_if_eq (tgt := 311) hx hb dL_tick_270 (by decide) (fun _ => ?_) (fun h9 => absurd (by decide) h9)
  refine lv_iload_n hx hb dL_tick_311 rfl (lv_at hl 14 rfl) ?_
  refine lv_iconst (v := 3) hx hb dL_tick_312 (by decide) ?_
  refine lv_icmp_ne (tgt := 385) hx hb dL_tick_313 (by decide) (fun h9 => absurd (by decide) h9) (fun _ => ?_)
  refine lv_fload_n hx hb dL_tick_316 rfl (lv_at hl 13 rfl) ?_
  refine lv_iload hx hb dL_tick_317 (lv_at hl 2 rfl) ?_
  refine lv_aload_n hx hb dL_tick_319 rfl (lv_at hl 15 rfl) ?_
  refine lv_iconst (v := 2) hx hb dL_tick_320 (by decide) ?_
  refine lr_i (rL (rest := [.int (preG u v g 0 16), .float (f 7)]) ⟨hx, hb, hml, hown, hts⟩ (LB_number l G cA A o (u, v, f, g, L) n K ch 2 ) (cwV 1 hts gL_tick_X8_number rfl rfl rfl mdX8_number ⟨Nat.le_of_ble_eq_true rfl, Nat.le_of_ble_eq_true rfl⟩) hA hL rfl hl rfl (Nat.le_of_ble_eq_true rfl) dL_tick_321 ⟨Nat.le_of_ble_eq_true rfl, Nat.le_of_ble_eq_true rfl⟩) hA hL (fun r_321 H locs hr_321 hA hL => ?_)
  replace hr_321 : r_321 = v 2 := hr_321
  subst hr_321
  refine lv_icmp_le (tgt := 335) hx hb dL_tick_324 (by decide) (fun c_324 => ?_) (fun c_324 => ?_)
  · skip
    refine lv_aload_n hx hb dL_tick_335 rfl (lv_at hl 15 rfl) ?_
    refine lv_iconst (v := 1) hx hb dL_tick_336 (by decide) ?_
    refine lr_f (rL (rest := [.float (f 7)]) ⟨hx, hb, hml, hown, hts⟩ (LB_speed l G cA A o (u, v, f, g, L) n K ch 1 ) (cwV 1 hts gL_tick_X8_speed rfl rfl rfl mdX8_speed ⟨Nat.le_of_ble_eq_true rfl, Nat.le_of_ble_eq_true rfl⟩) hA hL rfl hl rfl (Nat.le_of_ble_eq_true rfl) dL_tick_337 ⟨Nat.le_of_ble_eq_true rfl, Nat.le_of_ble_eq_true rfl⟩) hA hL (fun r_337 H locs hr_337 hA hL => ?_)
    replace hr_337 : r_337 = u 1 := hr_337
    subst hr_337
    refine lv_fsub hx hb dL_tick_340 (hGo.2.2.1) ?_
    refine W.eq (g2 := F0 m 341 ls [.float (FP.fsub (f 7) (spF u (scF v (preG u v g 0))))]) (by rw [show spF u (scF v (preG u v g 0)) = u 1 from by unfold scF; rw [if_pos c_324]; rfl]) ?_
    refine lv_fstore (lv' := [(16, .float (FP.fsub (f 7) (spF u (scF v (preG u v g 0))))), (15, .int 3), (4, .int (preG u v g 0 16)), (14, .int 0), (13, .int (g 19)), (12, .float ((goF u v f g 0) 7)), (11, .int 0), (10, .int 0), (9, .int 0), (8, .int (-5)), (7, .int (oneF (g 17))), (6, .int (g 15)), (5, .int 0), (3, .float (f 7)), (2, .int 3), (0, .ref o), (1, .int 0)]) hx hb dL_tick_341 hl (by decide) rfl (fun ls hl => ?_)
    refine lv_fload hx hb dL_tick_343 (lv_at hl 0 rfl) ?_
    refine lv_fconst0 hx hb dL_tick_345 ?_
    refine lv_fcmp hx hb dL_tick_346 ?_
    refine W.eq (g2 := F0 m 347 ls [.int (Op.cmpValue (FP.fcmp (FP.fsub (f 7) (spF u (scF v (preG u v g 0)))) FP.fconst0) CmpOp.l)]) (by rw [cmp_gl hsn n32_0]) ?_
    refine lv_if_gt (tgt := 354) hx hb dL_tick_347 (by decide) (fun c_347 => ?_) (fun c_347 => ?_)
    · skip
      refine lv_iconst (v := 3) hx hb dL_tick_354 (by decide) ?_
      refine lv_istore (lv' := [(15, .int 3), (16, .float (FP.fsub (f 7) (spF u (scF v (preG u v g 0))))), (4, .int (preG u v g 0 16)), (14, .int 0), (13, .int (g 19)), (12, .float ((goF u v f g 0) 7)), (11, .int 0), (10, .int 0), (9, .int 0), (8, .int (-5)), (7, .int (oneF (g 17))), (6, .int (g 15)), (5, .int 0), (3, .float (f 7)), (2, .int 3), (0, .ref o), (1, .int 0)]) hx hb dL_tick_355 hl (by decide) rfl (fun ls hl => ?_)
      refine lv_fload hx hb dL_tick_357 (lv_at hl 1 rfl) ?_
      refine lv_fconst0 hx hb dL_tick_359 ?_
      refine lv_fcmp hx hb dL_tick_360 ?_
      refine W.eq (g2 := F0 m 361 ls [.int (Op.cmpValue (FP.fcmp (FP.fsub (f 7) (spF u (scF v (preG u v g 0)))) FP.fconst0) CmpOp.l)]) (by rw [cmp_gl hsn n32_0]) ?_
      refine lv_if_gt (tgt := 368) hx hb dL_tick_361 (by decide) (fun c_361 => ?_) (fun c_361 => absurd c_347 c_361)
      refine lv_fload hx hb dL_tick_368 (lv_at hl 1 rfl) ?_
      refine lv_fstore (lv' := [(16, .float (FP.fsub (f 7) (spF u (scF v (preG u v g 0))))), (15, .int 3), (4, .int (preG u v g 0 16)), (14, .int 0), (13, .int (g 19)), (12, .float ((goF u v f g 0) 7)), (11, .int 0), (10, .int 0), (9, .int 0), (8, .int (-5)), (7, .int (oneF (g 17))), (6, .int (g 15)), (5, .int 0), (3, .float (f 7)), (2, .int 3), (0, .ref o), (1, .int 0)]) hx hb dL_tick_370 hl (by decide) rfl (fun ls hl => ?_)
      refine lv_iload hx hb dL_tick_372 (lv_at hl 1 rfl) ?_
      refine lv_if_ne (tgt := 381) hx hb dL_tick_374 (by decide) (fun _ => ?_) (fun h9 => absurd h9 (by decide))
      refine lv_iload hx hb dL_tick_381 (lv_at hl 2 rfl) ?_
      refine lv_istore (lv' := [(4, .int (preG u v g 0 16)), (16, .float (FP.fsub (f 7) (spF u (scF v (preG u v g 0))))), (15, .int 3), (14, .int 0), (13, .int (g 19)), (12, .float ((goF u v f g 0) 7)), (11, .int 0), (10, .int 0), (9, .int 0), (8, .int (-5)), (7, .int (oneF (g 17))), (6, .int (g 15)), (5, .int 0), (3, .float (f 7)), (2, .int 3), (0, .ref o), (1, .int 0)]) hx hb dL_tick_383 hl (by decide) rfl (fun ls hl => ?_)
      refine lv_iload_n hx hb dL_tick_385 rfl (lv_at hl 14 rfl) ?_
      refine lv_iconst (v := 3) hx hb dL_tick_386 (by decide) ?_
      refine lv_icmp_ne (tgt := 400) hx hb dL_tick_387 (by decide) (fun h9 => absurd (by decide) h9) (fun _ => ?_)
      refine lv_iload hx hb dL_tick_390 (lv_at hl 2 rfl) ?_
      refine lv_iconst (v := 1) hx hb dL_tick_392 (by decide) ?_
      refine lv_icmp_ne (tgt := 400) hx hb dL_tick_393 (by decide) (fun _ => ?_) (fun h9 => absurd h9 (by decide))
      refine lv_iconst (v := 0) hx hb dL_tick_400 (by decide) ?_
      refine lv_istore (lv' := [(17, .int 0), (4, .int (preG u v g 0 16)), (16, .float (FP.fsub (f 7) (spF u (scF v (preG u v g 0))))), (15, .int 3), (14, .int 0), (13, .int (g 19)), (12, .float ((goF u v f g 0) 7)), (11, .int 0), (10, .int 0), (9, .int 0), (8, .int (-5)), (7, .int (oneF (g 17))), (6, .int (g 15)), (5, .int 0), (3, .float (f 7)), (2, .int 3), (0, .ref o), (1, .int 0)]) hx hb dL_tick_401 hl (by decide) rfl (fun ls hl => ?_)
      refine lv_iload hx hb dL_tick_403 (lv_at hl 0 rfl) ?_
      refine lv_if_eq (tgt := 428) hx hb dL_tick_405 (by decide) (fun _ => ?_) (fun h9 => absurd (by decide) h9)
      refine lv_iconst (v := 0) hx hb dL_tick_428 (by decide) ?_
      refine lv_istore (lv' := [(18, .int 0), (17, .int 0), (4, .int (preG u v g 0 16)), (16, .float (FP.fsub (f 7) (spF u (scF v (preG u v g 0))))), (15, .int 3), (14, .int 0), (13, .int (g 19)), (12, .float ((goF u v f g 0) 7)), (11, .int 0), (10, .int 0), (9, .int 0), (8, .int (-5)), (7, .int (oneF (g 17))), (6, .int (g 15)), (5, .int 0), (3, .float (f 7)), (2, .int 3), (0, .ref o), (1, .int 0)]) hx hb dL_tick_429 hl (by decide) rfl (fun ls hl => ?_)
      refine lv_aload_n hx hb dL_tick_431 rfl (lv_at hl 17 rfl) ?_
      refine lv_iload_n hx hb dL_tick_432 rfl (lv_at hl 18 rfl) ?_
      refine lv_iconst (v := 1) hx hb dL_tick_433 (by decide) ?_
      refine lw_i (rL (rest := []) ⟨hx, hb, hml, hown, hts⟩ (LB_pass_ok l G cA A o (u, v, f, g, L) n K ch hn 0 1 (by decide) (by decide) (by decide) (by decide) hT hG1 hBo) (cwV 2 hts gL_tick_X8_pass rfl rfl rfl mdX8_pass ⟨Nat.le_of_ble_eq_true rfl, Nat.le_of_ble_eq_true rfl⟩) hA hL rfl hl rfl (Nat.le_of_ble_eq_true rfl) dL_tick_434 ⟨Nat.le_of_ble_eq_true rfl, Nat.le_of_ble_eq_true rfl⟩) hA (fun r_434 _ H locs hr_434 hA hL => ?_)
      replace hL : LB G cA A o (u, v, (goF u v f g 0), (goG u v f g 0), (goL u v g L 0)) (recN n) K ch H := hL
      replace hr_434 : r_434 = (goG u v f g 0) 13 := hr_434
      subst hr_434
      refine lv_iload hx hb dL_tick_437 (lv_at hl 4 rfl) ?_
      refine lv_icmp_ne (tgt := 489) hx hb dL_tick_439 (by decide) (fun c_439 => absurd (ht.1.trans (if_neg (Int32.not_le.mpr c_347))) c_439) (fun c_439 => ?_)
      refine lv_aload_n hx hb dL_tick_442 rfl (lv_at hl 17 rfl) ?_
      refine lr_f (rL (rest := []) ⟨hx, hb, hml, hown, hts⟩ (LB_place l G cA A o (u, v, (goF u v f g 0), (goG u v f g 0), (goL u v g L 0)) (recN n) K ch  ) (cwV 0 hts gL_tick_X8_place rfl rfl rfl mdX8_place ⟨Nat.le_of_ble_eq_true rfl, Nat.le_of_ble_eq_true rfl⟩) hA hL rfl hl rfl (Nat.le_of_ble_eq_true rfl) dL_tick_443 ⟨Nat.le_of_ble_eq_true rfl, Nat.le_of_ble_eq_true rfl⟩) hA hL (fun r_443 H locs hr_443 hA hL => ?_)
      replace hr_443 : r_443 = (goF u v f g 0) 7 := hr_443
      subst hr_443
      refine lv_fload hx hb dL_tick_446 (lv_at hl 3 rfl) ?_
      refine lv_fcmp hx hb dL_tick_448 ?_
      refine lv_if_ne (tgt := 489) hx hb dL_tick_449 (by decide) (fun c_449 => absurd (by rw [(ht.2.2.2.trans (if_neg (Int32.not_le.mpr c_347)))]; exact cmp_self (of_vf hsn) _) c_449) (fun c_449 => ?_)
      refine lv_fload hx hb dL_tick_452 (lv_at hl 7 rfl) ?_
      refine lv_fload hx hb dL_tick_454 (lv_at hl 3 rfl) ?_
      refine lv_fcmp hx hb dL_tick_456 ?_
      refine lv_if_ne (tgt := 489) hx hb dL_tick_457 (by decide) (fun c_457 => absurd (by rw [(ht.2.2.2.trans (if_neg (Int32.not_le.mpr c_347)))]; exact cmp_self (of_vf hsn) _) c_457) (fun c_457 => ?_)
      refine lv_aload_n hx hb dL_tick_460 rfl (lv_at hl 17 rfl) ?_
      refine lv_iconst (v := 1) hx hb dL_tick_461 (by decide) ?_
      refine lr_i (rL (rest := []) ⟨hx, hb, hml, hown, hts⟩ (LB_door l G cA A o (u, v, (goF u v f g 0), (goG u v f g 0), (goL u v g L 0)) (recN n) K ch 1 ) (cwV 1 hts gL_tick_X8_door rfl rfl rfl mdX8_door ⟨Nat.le_of_ble_eq_true rfl, Nat.le_of_ble_eq_true rfl⟩) hA hL rfl hl rfl (Nat.le_of_ble_eq_true rfl) dL_tick_462 ⟨Nat.le_of_ble_eq_true rfl, Nat.le_of_ble_eq_true rfl⟩) hA hL (fun r_462 H locs hr_462 hA hL => ?_)
      replace hr_462 : r_462 = (goG u v f g 0) 16 := hr_462
      subst hr_462
      refine lv_iload hx hb dL_tick_465 (lv_at hl 2 rfl) ?_
      refine lv_icmp_ne (tgt := 489) hx hb dL_tick_467 (by decide) (fun c_467 => absurd (ht.2.1.trans (if_neg (Int32.not_le.mpr c_347))) c_467) (fun c_467 => ?_)
      refine lv_aload_n hx hb dL_tick_470 rfl (lv_at hl 17 rfl) ?_
      refine lv_iconst (v := 2) hx hb dL_tick_471 (by decide) ?_
      refine lr_i (rL (rest := []) ⟨hx, hb, hml, hown, hts⟩ (LB_door l G cA A o (u, v, (goF u v f g 0), (goG u v f g 0), (goL u v g L 0)) (recN n) K ch 2 ) (cwV 1 hts gL_tick_X8_door rfl rfl rfl mdX8_door ⟨Nat.le_of_ble_eq_true rfl, Nat.le_of_ble_eq_true rfl⟩) hA hL rfl hl rfl (Nat.le_of_ble_eq_true rfl) dL_tick_472 ⟨Nat.le_of_ble_eq_true rfl, Nat.le_of_ble_eq_true rfl⟩) hA hL (fun r_472 H locs hr_472 hA hL => ?_)
      replace hr_472 : r_472 = oneF ((goG u v f g 0) 17) := hr_472
      subst hr_472
      refine lv_iload hx hb dL_tick_475 (lv_at hl 0 rfl) ?_
      refine lv_if_eq (tgt := 484) hx hb dL_tick_477 (by decide) (fun _ => ?_) (fun h9 => absurd (by decide) h9)
      refine lv_iload hx hb dL_tick_484 (lv_at hl 12 rfl) ?_
      refine lv_icmp_eq (tgt := 491) hx hb dL_tick_486 (by decide) (fun c_486 => ?_) (fun c_486 => absurd (by rw [ht.2.2.1] <;> rfl) c_486)
      refine lv_iload hx hb dL_tick_491 (lv_at hl 5 rfl) ?_
      refine lv_if_eq (tgt := 554) hx hb dL_tick_493 (by decide) (fun _ => ?_) (fun h9 => absurd (by decide) h9)
      refine lv_iload_n hx hb dL_tick_554 rfl (lv_at hl 18 rfl) ?_
      refine lv_if_eq (tgt := 599) hx hb dL_tick_555 (by decide) (fun _ => ?_) (fun h9 => absurd (by decide) h9)
      refine lv_iconst (v := 1) hx hb dL_tick_599 (by decide) ?_
      refine lv_goto (tgt := 604) hx hb dL_tick_600 (by decide) ?_
      exact en_l (post := fun r (_ : Unit) => r = 1) (B := fun _ H => LB G cA A o (u, v, (goF u v f g 0), (goG u v f g 0), (goL u v g L 0)) (recN n) K ch H) () hx hb hr hlocks hA rfl hL dL_tick_604
    · skip
      refine lv_iconst (v := 0) hx hb dL_tick_350 (by decide) ?_
      refine lv_goto (tgt := 355) hx hb dL_tick_351 (by decide) ?_
      refine lv_istore (lv' := [(15, .int 0), (16, .float (FP.fsub (f 7) (spF u (scF v (preG u v g 0))))), (4, .int (preG u v g 0 16)), (14, .int 0), (13, .int (g 19)), (12, .float ((goF u v f g 0) 7)), (11, .int 0), (10, .int 0), (9, .int 0), (8, .int (-5)), (7, .int (oneF (g 17))), (6, .int (g 15)), (5, .int 0), (3, .float (f 7)), (2, .int 3), (0, .ref o), (1, .int 0)]) hx hb dL_tick_355 hl (by decide) rfl (fun ls hl => ?_)
      refine lv_fload hx hb dL_tick_357 (lv_at hl 1 rfl) ?_
      refine lv_fconst0 hx hb dL_tick_359 ?_
      refine lv_fcmp hx hb dL_tick_360 ?_
      refine W.eq (g2 := F0 m 361 ls [.int (Op.cmpValue (FP.fcmp (FP.fsub (f 7) (spF u (scF v (preG u v g 0)))) FP.fconst0) CmpOp.l)]) (by rw [cmp_gl hsn n32_0]) ?_
      refine lv_if_gt (tgt := 368) hx hb dL_tick_361 (by decide) (fun c_361_1 => absurd c_361_1 c_347) (fun c_361_1 => ?_)
      refine lv_fconst0 hx hb dL_tick_364 ?_
      refine lv_goto (tgt := 370) hx hb dL_tick_365 (by decide) ?_
      refine lv_fstore (lv' := [(16, .float FP.fconst0), (15, .int 0), (4, .int (preG u v g 0 16)), (14, .int 0), (13, .int (g 19)), (12, .float ((goF u v f g 0) 7)), (11, .int 0), (10, .int 0), (9, .int 0), (8, .int (-5)), (7, .int (oneF (g 17))), (6, .int (g 15)), (5, .int 0), (3, .float (f 7)), (2, .int 3), (0, .ref o), (1, .int 0)]) hx hb dL_tick_370 hl (by decide) rfl (fun ls hl => ?_)
      refine lv_iload hx hb dL_tick_372 (lv_at hl 1 rfl) ?_
      refine lv_if_ne (tgt := 381) hx hb dL_tick_374 (by decide) (fun h9 => absurd (by decide) h9) (fun _ => ?_)
      refine lv_iconst (v := 0) hx hb dL_tick_377 (by decide) ?_
      refine lv_goto (tgt := 383) hx hb dL_tick_378 (by decide) ?_
      refine lv_istore (lv' := [(4, .int 0), (16, .float FP.fconst0), (15, .int 0), (14, .int 0), (13, .int (g 19)), (12, .float ((goF u v f g 0) 7)), (11, .int 0), (10, .int 0), (9, .int 0), (8, .int (-5)), (7, .int (oneF (g 17))), (6, .int (g 15)), (5, .int 0), (3, .float (f 7)), (2, .int 3), (0, .ref o), (1, .int 0)]) hx hb dL_tick_383 hl (by decide) rfl (fun ls hl => ?_)
      refine lv_iload_n hx hb dL_tick_385 rfl (lv_at hl 14 rfl) ?_
      refine lv_iconst (v := 3) hx hb dL_tick_386 (by decide) ?_
      refine lv_icmp_ne (tgt := 400) hx hb dL_tick_387 (by decide) (fun h9 => absurd (by decide) h9) (fun _ => ?_)
      refine lv_iload hx hb dL_tick_390 (lv_at hl 2 rfl) ?_
      refine lv_iconst (v := 1) hx hb dL_tick_392 (by decide) ?_
      refine lv_icmp_ne (tgt := 400) hx hb dL_tick_393 (by decide) (fun _ => ?_) (fun h9 => absurd h9 (by decide))
      refine lv_iconst (v := 0) hx hb dL_tick_400 (by decide) ?_
      refine lv_istore (lv' := [(17, .int 0), (4, .int 0), (16, .float FP.fconst0), (15, .int 0), (14, .int 0), (13, .int (g 19)), (12, .float ((goF u v f g 0) 7)), (11, .int 0), (10, .int 0), (9, .int 0), (8, .int (-5)), (7, .int (oneF (g 17))), (6, .int (g 15)), (5, .int 0), (3, .float (f 7)), (2, .int 3), (0, .ref o), (1, .int 0)]) hx hb dL_tick_401 hl (by decide) rfl (fun ls hl => ?_)
      refine lv_iload hx hb dL_tick_403 (lv_at hl 0 rfl) ?_
      refine lv_if_eq (tgt := 428) hx hb dL_tick_405 (by decide) (fun _ => ?_) (fun h9 => absurd (by decide) h9)
      refine lv_iconst (v := 0) hx hb dL_tick_428 (by decide) ?_
      refine lv_istore (lv' := [(18, .int 0), (17, .int 0), (4, .int 0), (16, .float FP.fconst0), (15, .int 0), (14, .int 0), (13, .int (g 19)), (12, .float ((goF u v f g 0) 7)), (11, .int 0), (10, .int 0), (9, .int 0), (8, .int (-5)), (7, .int (oneF (g 17))), (6, .int (g 15)), (5, .int 0), (3, .float (f 7)), (2, .int 3), (0, .ref o), (1, .int 0)]) hx hb dL_tick_429 hl (by decide) rfl (fun ls hl => ?_)
      refine lv_aload_n hx hb dL_tick_431 rfl (lv_at hl 17 rfl) ?_
      refine lv_iload_n hx hb dL_tick_432 rfl (lv_at hl 18 rfl) ?_
      refine lv_iconst (v := 1) hx hb dL_tick_433 (by decide) ?_
      refine lw_i (rL (rest := []) ⟨hx, hb, hml, hown, hts⟩ (LB_pass_ok l G cA A o (u, v, f, g, L) n K ch hn 0 1 (by decide) (by decide) (by decide) (by decide) hT hG1 hBo) (cwV 2 hts gL_tick_X8_pass rfl rfl rfl mdX8_pass ⟨Nat.le_of_ble_eq_true rfl, Nat.le_of_ble_eq_true rfl⟩) hA hL rfl hl rfl (Nat.le_of_ble_eq_true rfl) dL_tick_434 ⟨Nat.le_of_ble_eq_true rfl, Nat.le_of_ble_eq_true rfl⟩) hA (fun r_434_1 _ H locs hr_434_1 hA hL => ?_)
      replace hL : LB G cA A o (u, v, (goF u v f g 0), (goG u v f g 0), (goL u v g L 0)) (recN n) K ch H := hL
      replace hr_434_1 : r_434_1 = (goG u v f g 0) 13 := hr_434_1
      subst hr_434_1
      refine lv_iload hx hb dL_tick_437 (lv_at hl 4 rfl) ?_
      refine lv_icmp_ne (tgt := 489) hx hb dL_tick_439 (by decide) (fun c_439_1 => absurd (ht.1.trans (if_pos (Int32.not_lt.mp c_347))) c_439_1) (fun c_439_1 => ?_)
      refine lv_aload_n hx hb dL_tick_442 rfl (lv_at hl 17 rfl) ?_
      refine lr_f (rL (rest := []) ⟨hx, hb, hml, hown, hts⟩ (LB_place l G cA A o (u, v, (goF u v f g 0), (goG u v f g 0), (goL u v g L 0)) (recN n) K ch  ) (cwV 0 hts gL_tick_X8_place rfl rfl rfl mdX8_place ⟨Nat.le_of_ble_eq_true rfl, Nat.le_of_ble_eq_true rfl⟩) hA hL rfl hl rfl (Nat.le_of_ble_eq_true rfl) dL_tick_443 ⟨Nat.le_of_ble_eq_true rfl, Nat.le_of_ble_eq_true rfl⟩) hA hL (fun r_443_1 H locs hr_443_1 hA hL => ?_)
      replace hr_443_1 : r_443_1 = (goF u v f g 0) 7 := hr_443_1
      subst hr_443_1
      refine lv_fload hx hb dL_tick_446 (lv_at hl 3 rfl) ?_
      refine lv_fcmp hx hb dL_tick_448 ?_
      refine lv_if_ne (tgt := 489) hx hb dL_tick_449 (by decide) (fun c_449_1 => absurd (by rw [(ht.2.2.2.trans (if_pos (Int32.not_lt.mp c_347)))]; exact cmp_self (of_vf n32_0) _) c_449_1) (fun c_449_1 => ?_)
      refine lv_fload hx hb dL_tick_452 (lv_at hl 7 rfl) ?_
      refine lv_fload hx hb dL_tick_454 (lv_at hl 3 rfl) ?_
      refine lv_fcmp hx hb dL_tick_456 ?_
      refine lv_if_ne (tgt := 489) hx hb dL_tick_457 (by decide) (fun c_457_1 => absurd (by rw [(ht.2.2.2.trans (if_pos (Int32.not_lt.mp c_347)))]; exact cmp_self (of_vf n32_0) _) c_457_1) (fun c_457_1 => ?_)
      refine lv_aload_n hx hb dL_tick_460 rfl (lv_at hl 17 rfl) ?_
      refine lv_iconst (v := 1) hx hb dL_tick_461 (by decide) ?_
      refine lr_i (rL (rest := []) ⟨hx, hb, hml, hown, hts⟩ (LB_door l G cA A o (u, v, (goF u v f g 0), (goG u v f g 0), (goL u v g L 0)) (recN n) K ch 1 ) (cwV 1 hts gL_tick_X8_door rfl rfl rfl mdX8_door ⟨Nat.le_of_ble_eq_true rfl, Nat.le_of_ble_eq_true rfl⟩) hA hL rfl hl rfl (Nat.le_of_ble_eq_true rfl) dL_tick_462 ⟨Nat.le_of_ble_eq_true rfl, Nat.le_of_ble_eq_true rfl⟩) hA hL (fun r_462_1 H locs hr_462_1 hA hL => ?_)
      replace hr_462_1 : r_462_1 = (goG u v f g 0) 16 := hr_462_1
      subst hr_462_1
      refine lv_iload hx hb dL_tick_465 (lv_at hl 2 rfl) ?_
      refine lv_icmp_ne (tgt := 489) hx hb dL_tick_467 (by decide) (fun c_467_1 => absurd (ht.2.1.trans (if_pos (Int32.not_lt.mp c_347))) c_467_1) (fun c_467_1 => ?_)
      refine lv_aload_n hx hb dL_tick_470 rfl (lv_at hl 17 rfl) ?_
      refine lv_iconst (v := 2) hx hb dL_tick_471 (by decide) ?_
      refine lr_i (rL (rest := []) ⟨hx, hb, hml, hown, hts⟩ (LB_door l G cA A o (u, v, (goF u v f g 0), (goG u v f g 0), (goL u v g L 0)) (recN n) K ch 2 ) (cwV 1 hts gL_tick_X8_door rfl rfl rfl mdX8_door ⟨Nat.le_of_ble_eq_true rfl, Nat.le_of_ble_eq_true rfl⟩) hA hL rfl hl rfl (Nat.le_of_ble_eq_true rfl) dL_tick_472 ⟨Nat.le_of_ble_eq_true rfl, Nat.le_of_ble_eq_true rfl⟩) hA hL (fun r_472_1 H locs hr_472_1 hA hL => ?_)
      replace hr_472_1 : r_472_1 = oneF ((goG u v f g 0) 17) := hr_472_1
      subst hr_472_1
      refine lv_iload hx hb dL_tick_475 (lv_at hl 0 rfl) ?_
      refine lv_if_eq (tgt := 484) hx hb dL_tick_477 (by decide) (fun _ => ?_) (fun h9 => absurd (by decide) h9)
      refine lv_iload hx hb dL_tick_484 (lv_at hl 12 rfl) ?_
      refine lv_icmp_eq (tgt := 491) hx hb dL_tick_486 (by decide) (fun c_486_1 => ?_) (fun c_486_1 => absurd (by rw [ht.2.2.1] <;> rfl) c_486_1)
      refine lv_iload hx hb dL_tick_491 (lv_at hl 5 rfl) ?_
      refine lv_if_eq (tgt := 554) hx hb dL_tick_493 (by decide) (fun _ => ?_) (fun h9 => absurd (by decide) h9)
      refine lv_iload_n hx hb dL_tick_554 rfl (lv_at hl 18 rfl) ?_
      refine lv_if_eq (tgt := 599) hx hb dL_tick_555 (by decide) (fun _ => ?_) (fun h9 => absurd (by decide) h9)
      refine lv_iconst (v := 1) hx hb dL_tick_599 (by decide) ?_
      refine lv_goto (tgt := 604) hx hb dL_tick_600 (by decide) ?_
      exact en_l (post := fun r (_ : Unit) => r = 1) (B := fun _ H => LB G cA A o (u, v, (goF u v f g 0), (goG u v f g 0), (goL u v g L 0)) (recN n) K ch H) () hx hb hr hlocks hA rfl hL dL_tick_604
  · skip
    refine lv_aload_n hx hb dL_tick_327 rfl (lv_at hl 15 rfl) ?_
    refine lv_iconst (v := 2) hx hb dL_tick_328 (by decide) ?_
    refine lr_f (rL (rest := [.float (f 7)]) ⟨hx, hb, hml, hown, hts⟩ (LB_speed l G cA A o (u, v, f, g, L) n K ch 2 ) (cwV 1 hts gL_tick_X8_speed rfl rfl rfl mdX8_speed ⟨Nat.le_of_ble_eq_true rfl, Nat.le_of_ble_eq_true rfl⟩) hA hL rfl hl rfl (Nat.le_of_ble_eq_true rfl) dL_tick_329 ⟨Nat.le_of_ble_eq_true rfl, Nat.le_of_ble_eq_true rfl⟩) hA hL (fun r_329 H locs hr_329 hA hL => ?_)
    replace hr_329 : r_329 = u 2 := hr_329
    subst hr_329
    refine lv_goto (tgt := 340) hx hb dL_tick_332 (by decide) ?_
    refine lv_fsub hx hb dL_tick_340 (hGo.2.2.2) ?_
    refine W.eq (g2 := F0 m 341 ls [.float (FP.fsub (f 7) (spF u (scF v (preG u v g 0))))]) (by rw [show spF u (scF v (preG u v g 0)) = u 2 from by unfold scF; rw [if_neg c_324]; rfl]) ?_
    refine lv_fstore (lv' := [(16, .float (FP.fsub (f 7) (spF u (scF v (preG u v g 0))))), (15, .int 3), (4, .int (preG u v g 0 16)), (14, .int 0), (13, .int (g 19)), (12, .float ((goF u v f g 0) 7)), (11, .int 0), (10, .int 0), (9, .int 0), (8, .int (-5)), (7, .int (oneF (g 17))), (6, .int (g 15)), (5, .int 0), (3, .float (f 7)), (2, .int 3), (0, .ref o), (1, .int 0)]) hx hb dL_tick_341 hl (by decide) rfl (fun ls hl => ?_)
    refine lv_fload hx hb dL_tick_343 (lv_at hl 0 rfl) ?_
    refine lv_fconst0 hx hb dL_tick_345 ?_
    refine lv_fcmp hx hb dL_tick_346 ?_
    refine W.eq (g2 := F0 m 347 ls [.int (Op.cmpValue (FP.fcmp (FP.fsub (f 7) (spF u (scF v (preG u v g 0)))) FP.fconst0) CmpOp.l)]) (by rw [cmp_gl hsn n32_0]) ?_
    refine lv_if_gt (tgt := 354) hx hb dL_tick_347 (by decide) (fun c_347_1 => ?_) (fun c_347_1 => ?_)
    · skip
      refine lv_iconst (v := 3) hx hb dL_tick_354 (by decide) ?_
      refine lv_istore (lv' := [(15, .int 3), (16, .float (FP.fsub (f 7) (spF u (scF v (preG u v g 0))))), (4, .int (preG u v g 0 16)), (14, .int 0), (13, .int (g 19)), (12, .float ((goF u v f g 0) 7)), (11, .int 0), (10, .int 0), (9, .int 0), (8, .int (-5)), (7, .int (oneF (g 17))), (6, .int (g 15)), (5, .int 0), (3, .float (f 7)), (2, .int 3), (0, .ref o), (1, .int 0)]) hx hb dL_tick_355 hl (by decide) rfl (fun ls hl => ?_)
      refine lv_fload hx hb dL_tick_357 (lv_at hl 1 rfl) ?_
      refine lv_fconst0 hx hb dL_tick_359 ?_
      refine lv_fcmp hx hb dL_tick_360 ?_
      refine W.eq (g2 := F0 m 361 ls [.int (Op.cmpValue (FP.fcmp (FP.fsub (f 7) (spF u (scF v (preG u v g 0)))) FP.fconst0) CmpOp.l)]) (by rw [cmp_gl hsn n32_0]) ?_
      refine lv_if_gt (tgt := 368) hx hb dL_tick_361 (by decide) (fun c_361_2 => ?_) (fun c_361_2 => absurd c_347_1 c_361_2)
      refine lv_fload hx hb dL_tick_368 (lv_at hl 1 rfl) ?_
      refine lv_fstore (lv' := [(16, .float (FP.fsub (f 7) (spF u (scF v (preG u v g 0))))), (15, .int 3), (4, .int (preG u v g 0 16)), (14, .int 0), (13, .int (g 19)), (12, .float ((goF u v f g 0) 7)), (11, .int 0), (10, .int 0), (9, .int 0), (8, .int (-5)), (7, .int (oneF (g 17))), (6, .int (g 15)), (5, .int 0), (3, .float (f 7)), (2, .int 3), (0, .ref o), (1, .int 0)]) hx hb dL_tick_370 hl (by decide) rfl (fun ls hl => ?_)
      refine lv_iload hx hb dL_tick_372 (lv_at hl 1 rfl) ?_
      refine lv_if_ne (tgt := 381) hx hb dL_tick_374 (by decide) (fun _ => ?_) (fun h9 => absurd h9 (by decide))
      refine lv_iload hx hb dL_tick_381 (lv_at hl 2 rfl) ?_
      refine lv_istore (lv' := [(4, .int (preG u v g 0 16)), (16, .float (FP.fsub (f 7) (spF u (scF v (preG u v g 0))))), (15, .int 3), (14, .int 0), (13, .int (g 19)), (12, .float ((goF u v f g 0) 7)), (11, .int 0), (10, .int 0), (9, .int 0), (8, .int (-5)), (7, .int (oneF (g 17))), (6, .int (g 15)), (5, .int 0), (3, .float (f 7)), (2, .int 3), (0, .ref o), (1, .int 0)]) hx hb dL_tick_383 hl (by decide) rfl (fun ls hl => ?_)
      refine lv_iload_n hx hb dL_tick_385 rfl (lv_at hl 14 rfl) ?_
      refine lv_iconst (v := 3) hx hb dL_tick_386 (by decide) ?_
      refine lv_icmp_ne (tgt := 400) hx hb dL_tick_387 (by decide) (fun h9 => absurd (by decide) h9) (fun _ => ?_)
      refine lv_iload hx hb dL_tick_390 (lv_at hl 2 rfl) ?_
      refine lv_iconst (v := 1) hx hb dL_tick_392 (by decide) ?_
      refine lv_icmp_ne (tgt := 400) hx hb dL_tick_393 (by decide) (fun _ => ?_) (fun h9 => absurd h9 (by decide))
      refine lv_iconst (v := 0) hx hb dL_tick_400 (by decide) ?_
      refine lv_istore (lv' := [(17, .int 0), (4, .int (preG u v g 0 16)), (16, .float (FP.fsub (f 7) (spF u (scF v (preG u v g 0))))), (15, .int 3), (14, .int 0), (13, .int (g 19)), (12, .float ((goF u v f g 0) 7)), (11, .int 0), (10, .int 0), (9, .int 0), (8, .int (-5)), (7, .int (oneF (g 17))), (6, .int (g 15)), (5, .int 0), (3, .float (f 7)), (2, .int 3), (0, .ref o), (1, .int 0)]) hx hb dL_tick_401 hl (by decide) rfl (fun ls hl => ?_)
      refine lv_iload hx hb dL_tick_403 (lv_at hl 0 rfl) ?_
      refine lv_if_eq (tgt := 428) hx hb dL_tick_405 (by decide) (fun _ => ?_) (fun h9 => absurd (by decide) h9)
      refine lv_iconst (v := 0) hx hb dL_tick_428 (by decide) ?_
      refine lv_istore (lv' := [(18, .int 0), (17, .int 0), (4, .int (preG u v g 0 16)), (16, .float (FP.fsub (f 7) (spF u (scF v (preG u v g 0))))), (15, .int 3), (14, .int 0), (13, .int (g 19)), (12, .float ((goF u v f g 0) 7)), (11, .int 0), (10, .int 0), (9, .int 0), (8, .int (-5)), (7, .int (oneF (g 17))), (6, .int (g 15)), (5, .int 0), (3, .float (f 7)), (2, .int 3), (0, .ref o), (1, .int 0)]) hx hb dL_tick_429 hl (by decide) rfl (fun ls hl => ?_)
      refine lv_aload_n hx hb dL_tick_431 rfl (lv_at hl 17 rfl) ?_
      refine lv_iload_n hx hb dL_tick_432 rfl (lv_at hl 18 rfl) ?_
      refine lv_iconst (v := 1) hx hb dL_tick_433 (by decide) ?_
      refine lw_i (rL (rest := []) ⟨hx, hb, hml, hown, hts⟩ (LB_pass_ok l G cA A o (u, v, f, g, L) n K ch hn 0 1 (by decide) (by decide) (by decide) (by decide) hT hG1 hBo) (cwV 2 hts gL_tick_X8_pass rfl rfl rfl mdX8_pass ⟨Nat.le_of_ble_eq_true rfl, Nat.le_of_ble_eq_true rfl⟩) hA hL rfl hl rfl (Nat.le_of_ble_eq_true rfl) dL_tick_434 ⟨Nat.le_of_ble_eq_true rfl, Nat.le_of_ble_eq_true rfl⟩) hA (fun r_434_2 _ H locs hr_434_2 hA hL => ?_)
      replace hL : LB G cA A o (u, v, (goF u v f g 0), (goG u v f g 0), (goL u v g L 0)) (recN n) K ch H := hL
      replace hr_434_2 : r_434_2 = (goG u v f g 0) 13 := hr_434_2
      subst hr_434_2
      refine lv_iload hx hb dL_tick_437 (lv_at hl 4 rfl) ?_
      refine lv_icmp_ne (tgt := 489) hx hb dL_tick_439 (by decide) (fun c_439_2 => absurd (ht.1.trans (if_neg (Int32.not_le.mpr c_347_1))) c_439_2) (fun c_439_2 => ?_)
      refine lv_aload_n hx hb dL_tick_442 rfl (lv_at hl 17 rfl) ?_
      refine lr_f (rL (rest := []) ⟨hx, hb, hml, hown, hts⟩ (LB_place l G cA A o (u, v, (goF u v f g 0), (goG u v f g 0), (goL u v g L 0)) (recN n) K ch  ) (cwV 0 hts gL_tick_X8_place rfl rfl rfl mdX8_place ⟨Nat.le_of_ble_eq_true rfl, Nat.le_of_ble_eq_true rfl⟩) hA hL rfl hl rfl (Nat.le_of_ble_eq_true rfl) dL_tick_443 ⟨Nat.le_of_ble_eq_true rfl, Nat.le_of_ble_eq_true rfl⟩) hA hL (fun r_443_2 H locs hr_443_2 hA hL => ?_)
      replace hr_443_2 : r_443_2 = (goF u v f g 0) 7 := hr_443_2
      subst hr_443_2
      refine lv_fload hx hb dL_tick_446 (lv_at hl 3 rfl) ?_
      refine lv_fcmp hx hb dL_tick_448 ?_
      refine lv_if_ne (tgt := 489) hx hb dL_tick_449 (by decide) (fun c_449_2 => absurd (by rw [(ht.2.2.2.trans (if_neg (Int32.not_le.mpr c_347_1)))]; exact cmp_self (of_vf hsn) _) c_449_2) (fun c_449_2 => ?_)
      refine lv_fload hx hb dL_tick_452 (lv_at hl 7 rfl) ?_
      refine lv_fload hx hb dL_tick_454 (lv_at hl 3 rfl) ?_
      refine lv_fcmp hx hb dL_tick_456 ?_
      refine lv_if_ne (tgt := 489) hx hb dL_tick_457 (by decide) (fun c_457_2 => absurd (by rw [(ht.2.2.2.trans (if_neg (Int32.not_le.mpr c_347_1)))]; exact cmp_self (of_vf hsn) _) c_457_2) (fun c_457_2 => ?_)
      refine lv_aload_n hx hb dL_tick_460 rfl (lv_at hl 17 rfl) ?_
      refine lv_iconst (v := 1) hx hb dL_tick_461 (by decide) ?_
      refine lr_i (rL (rest := []) ⟨hx, hb, hml, hown, hts⟩ (LB_door l G cA A o (u, v, (goF u v f g 0), (goG u v f g 0), (goL u v g L 0)) (recN n) K ch 1 ) (cwV 1 hts gL_tick_X8_door rfl rfl rfl mdX8_door ⟨Nat.le_of_ble_eq_true rfl, Nat.le_of_ble_eq_true rfl⟩) hA hL rfl hl rfl (Nat.le_of_ble_eq_true rfl) dL_tick_462 ⟨Nat.le_of_ble_eq_true rfl, Nat.le_of_ble_eq_true rfl⟩) hA hL (fun r_462_2 H locs hr_462_2 hA hL => ?_)
      replace hr_462_2 : r_462_2 = (goG u v f g 0) 16 := hr_462_2
      subst hr_462_2
      refine lv_iload hx hb dL_tick_465 (lv_at hl 2 rfl) ?_
      refine lv_icmp_ne (tgt := 489) hx hb dL_tick_467 (by decide) (fun c_467_2 => absurd (ht.2.1.trans (if_neg (Int32.not_le.mpr c_347_1))) c_467_2) (fun c_467_2 => ?_)
      refine lv_aload_n hx hb dL_tick_470 rfl (lv_at hl 17 rfl) ?_
      refine lv_iconst (v := 2) hx hb dL_tick_471 (by decide) ?_
      refine lr_i (rL (rest := []) ⟨hx, hb, hml, hown, hts⟩ (LB_door l G cA A o (u, v, (goF u v f g 0), (goG u v f g 0), (goL u v g L 0)) (recN n) K ch 2 ) (cwV 1 hts gL_tick_X8_door rfl rfl rfl mdX8_door ⟨Nat.le_of_ble_eq_true rfl, Nat.le_of_ble_eq_true rfl⟩) hA hL rfl hl rfl (Nat.le_of_ble_eq_true rfl) dL_tick_472 ⟨Nat.le_of_ble_eq_true rfl, Nat.le_of_ble_eq_true rfl⟩) hA hL (fun r_472_2 H locs hr_472_2 hA hL => ?_)
      replace hr_472_2 : r_472_2 = oneF ((goG u v f g 0) 17) := hr_472_2
      subst hr_472_2
      refine lv_iload hx hb dL_tick_475 (lv_at hl 0 rfl) ?_
      refine lv_if_eq (tgt := 484) hx hb dL_tick_477 (by decide) (fun _ => ?_) (fun h9 => absurd (by decide) h9)
      refine lv_iload hx hb dL_tick_484 (lv_at hl 12 rfl) ?_
      refine lv_icmp_eq (tgt := 491) hx hb dL_tick_486 (by decide) (fun c_486_2 => ?_) (fun c_486_2 => absurd (by rw [ht.2.2.1] <;> rfl) c_486_2)
      refine lv_iload hx hb dL_tick_491 (lv_at hl 5 rfl) ?_
      refine lv_if_eq (tgt := 554) hx hb dL_tick_493 (by decide) (fun _ => ?_) (fun h9 => absurd (by decide) h9)
      refine lv_iload_n hx hb dL_tick_554 rfl (lv_at hl 18 rfl) ?_
      refine lv_if_eq (tgt := 599) hx hb dL_tick_555 (by decide) (fun _ => ?_) (fun h9 => absurd (by decide) h9)
      refine lv_iconst (v := 1) hx hb dL_tick_599 (by decide) ?_
      refine lv_goto (tgt := 604) hx hb dL_tick_600 (by decide) ?_
      exact en_l (post := fun r (_ : Unit) => r = 1) (B := fun _ H => LB G cA A o (u, v, (goF u v f g 0), (goG u v f g 0), (goL u v g L 0)) (recN n) K ch H) () hx hb hr hlocks hA rfl hL dL_tick_604
    · skip
      refine lv_iconst (v := 0) hx hb dL_tick_350 (by decide) ?_
      refine lv_goto (tgt := 355) hx hb dL_tick_351 (by decide) ?_
      refine lv_istore (lv' := [(15, .int 0), (16, .float (FP.fsub (f 7) (spF u (scF v (preG u v g 0))))), (4, .int (preG u v g 0 16)), (14, .int 0), (13, .int (g 19)), (12, .float ((goF u v f g 0) 7)), (11, .int 0), (10, .int 0), (9, .int 0), (8, .int (-5)), (7, .int (oneF (g 17))), (6, .int (g 15)), (5, .int 0), (3, .float (f 7)), (2, .int 3), (0, .ref o), (1, .int 0)]) hx hb dL_tick_355 hl (by decide) rfl (fun ls hl => ?_)
      refine lv_fload hx hb dL_tick_357 (lv_at hl 1 rfl) ?_
      refine lv_fconst0 hx hb dL_tick_359 ?_
      refine lv_fcmp hx hb dL_tick_360 ?_
      refine W.eq (g2 := F0 m 361 ls [.int (Op.cmpValue (FP.fcmp (FP.fsub (f 7) (spF u (scF v (preG u v g 0)))) FP.fconst0) CmpOp.l)]) (by rw [cmp_gl hsn n32_0]) ?_
      refine lv_if_gt (tgt := 368) hx hb dL_tick_361 (by decide) (fun c_361_3 => absurd c_361_3 c_347_1) (fun c_361_3 => ?_)
      refine lv_fconst0 hx hb dL_tick_364 ?_
      refine lv_goto (tgt := 370) hx hb dL_tick_365 (by decide) ?_
      refine lv_fstore (lv' := [(16, .float FP.fconst0), (15, .int 0), (4, .int (preG u v g 0 16)), (14, .int 0), (13, .int (g 19)), (12, .float ((goF u v f g 0) 7)), (11, .int 0), (10, .int 0), (9, .int 0), (8, .int (-5)), (7, .int (oneF (g 17))), (6, .int (g 15)), (5, .int 0), (3, .float (f 7)), (2, .int 3), (0, .ref o), (1, .int 0)]) hx hb dL_tick_370 hl (by decide) rfl (fun ls hl => ?_)
      refine lv_iload hx hb dL_tick_372 (lv_at hl 1 rfl) ?_
      refine lv_if_ne (tgt := 381) hx hb dL_tick_374 (by decide) (fun h9 => absurd (by decide) h9) (fun _ => ?_)
      refine lv_iconst (v := 0) hx hb dL_tick_377 (by decide) ?_
      refine lv_goto (tgt := 383) hx hb dL_tick_378 (by decide) ?_
      refine lv_istore (lv' := [(4, .int 0), (16, .float FP.fconst0), (15, .int 0), (14, .int 0), (13, .int (g 19)), (12, .float ((goF u v f g 0) 7)), (11, .int 0), (10, .int 0), (9, .int 0), (8, .int (-5)), (7, .int (oneF (g 17))), (6, .int (g 15)), (5, .int 0), (3, .float (f 7)), (2, .int 3), (0, .ref o), (1, .int 0)]) hx hb dL_tick_383 hl (by decide) rfl (fun ls hl => ?_)
      refine lv_iload_n hx hb dL_tick_385 rfl (lv_at hl 14 rfl) ?_
      refine lv_iconst (v := 3) hx hb dL_tick_386 (by decide) ?_
      refine lv_icmp_ne (tgt := 400) hx hb dL_tick_387 (by decide) (fun h9 => absurd (by decide) h9) (fun _ => ?_)
      refine lv_iload hx hb dL_tick_390 (lv_at hl 2 rfl) ?_
      refine lv_iconst (v := 1) hx hb dL_tick_392 (by decide) ?_
      refine lv_icmp_ne (tgt := 400) hx hb dL_tick_393 (by decide) (fun _ => ?_) (fun h9 => absurd h9 (by decide))
      refine lv_iconst (v := 0) hx hb dL_tick_400 (by decide) ?_
      refine lv_istore (lv' := [(17, .int 0), (4, .int 0), (16, .float FP.fconst0), (15, .int 0), (14, .int 0), (13, .int (g 19)), (12, .float ((goF u v f g 0) 7)), (11, .int 0), (10, .int 0), (9, .int 0), (8, .int (-5)), (7, .int (oneF (g 17))), (6, .int (g 15)), (5, .int 0), (3, .float (f 7)), (2, .int 3), (0, .ref o), (1, .int 0)]) hx hb dL_tick_401 hl (by decide) rfl (fun ls hl => ?_)
      refine lv_iload hx hb dL_tick_403 (lv_at hl 0 rfl) ?_
      refine lv_if_eq (tgt := 428) hx hb dL_tick_405 (by decide) (fun _ => ?_) (fun h9 => absurd (by decide) h9)
      refine lv_iconst (v := 0) hx hb dL_tick_428 (by decide) ?_
      refine lv_istore (lv' := [(18, .int 0), (17, .int 0), (4, .int 0), (16, .float FP.fconst0), (15, .int 0), (14, .int 0), (13, .int (g 19)), (12, .float ((goF u v f g 0) 7)), (11, .int 0), (10, .int 0), (9, .int 0), (8, .int (-5)), (7, .int (oneF (g 17))), (6, .int (g 15)), (5, .int 0), (3, .float (f 7)), (2, .int 3), (0, .ref o), (1, .int 0)]) hx hb dL_tick_429 hl (by decide) rfl (fun ls hl => ?_)
      refine lv_aload_n hx hb dL_tick_431 rfl (lv_at hl 17 rfl) ?_
      refine lv_iload_n hx hb dL_tick_432 rfl (lv_at hl 18 rfl) ?_
      refine lv_iconst (v := 1) hx hb dL_tick_433 (by decide) ?_
      refine lw_i (rL (rest := []) ⟨hx, hb, hml, hown, hts⟩ (LB_pass_ok l G cA A o (u, v, f, g, L) n K ch hn 0 1 (by decide) (by decide) (by decide) (by decide) hT hG1 hBo) (cwV 2 hts gL_tick_X8_pass rfl rfl rfl mdX8_pass ⟨Nat.le_of_ble_eq_true rfl, Nat.le_of_ble_eq_true rfl⟩) hA hL rfl hl rfl (Nat.le_of_ble_eq_true rfl) dL_tick_434 ⟨Nat.le_of_ble_eq_true rfl, Nat.le_of_ble_eq_true rfl⟩) hA (fun r_434_3 _ H locs hr_434_3 hA hL => ?_)
      replace hL : LB G cA A o (u, v, (goF u v f g 0), (goG u v f g 0), (goL u v g L 0)) (recN n) K ch H := hL
      replace hr_434_3 : r_434_3 = (goG u v f g 0) 13 := hr_434_3
      subst hr_434_3
      refine lv_iload hx hb dL_tick_437 (lv_at hl 4 rfl) ?_
      refine lv_icmp_ne (tgt := 489) hx hb dL_tick_439 (by decide) (fun c_439_3 => absurd (ht.1.trans (if_pos (Int32.not_lt.mp c_347_1))) c_439_3) (fun c_439_3 => ?_)
      refine lv_aload_n hx hb dL_tick_442 rfl (lv_at hl 17 rfl) ?_
      refine lr_f (rL (rest := []) ⟨hx, hb, hml, hown, hts⟩ (LB_place l G cA A o (u, v, (goF u v f g 0), (goG u v f g 0), (goL u v g L 0)) (recN n) K ch  ) (cwV 0 hts gL_tick_X8_place rfl rfl rfl mdX8_place ⟨Nat.le_of_ble_eq_true rfl, Nat.le_of_ble_eq_true rfl⟩) hA hL rfl hl rfl (Nat.le_of_ble_eq_true rfl) dL_tick_443 ⟨Nat.le_of_ble_eq_true rfl, Nat.le_of_ble_eq_true rfl⟩) hA hL (fun r_443_3 H locs hr_443_3 hA hL => ?_)
      replace hr_443_3 : r_443_3 = (goF u v f g 0) 7 := hr_443_3
      subst hr_443_3
      refine lv_fload hx hb dL_tick_446 (lv_at hl 3 rfl) ?_
      refine lv_fcmp hx hb dL_tick_448 ?_
      refine lv_if_ne (tgt := 489) hx hb dL_tick_449 (by decide) (fun c_449_3 => absurd (by rw [(ht.2.2.2.trans (if_pos (Int32.not_lt.mp c_347_1)))]; exact cmp_self (of_vf n32_0) _) c_449_3) (fun c_449_3 => ?_)
      refine lv_fload hx hb dL_tick_452 (lv_at hl 7 rfl) ?_
      refine lv_fload hx hb dL_tick_454 (lv_at hl 3 rfl) ?_
      refine lv_fcmp hx hb dL_tick_456 ?_
      refine lv_if_ne (tgt := 489) hx hb dL_tick_457 (by decide) (fun c_457_3 => absurd (by rw [(ht.2.2.2.trans (if_pos (Int32.not_lt.mp c_347_1)))]; exact cmp_self (of_vf n32_0) _) c_457_3) (fun c_457_3 => ?_)
      refine lv_aload_n hx hb dL_tick_460 rfl (lv_at hl 17 rfl) ?_
      refine lv_iconst (v := 1) hx hb dL_tick_461 (by decide) ?_
      refine lr_i (rL (rest := []) ⟨hx, hb, hml, hown, hts⟩ (LB_door l G cA A o (u, v, (goF u v f g 0), (goG u v f g 0), (goL u v g L 0)) (recN n) K ch 1 ) (cwV 1 hts gL_tick_X8_door rfl rfl rfl mdX8_door ⟨Nat.le_of_ble_eq_true rfl, Nat.le_of_ble_eq_true rfl⟩) hA hL rfl hl rfl (Nat.le_of_ble_eq_true rfl) dL_tick_462 ⟨Nat.le_of_ble_eq_true rfl, Nat.le_of_ble_eq_true rfl⟩) hA hL (fun r_462_3 H locs hr_462_3 hA hL => ?_)
      replace hr_462_3 : r_462_3 = (goG u v f g 0) 16 := hr_462_3
      subst hr_462_3
      refine lv_iload hx hb dL_tick_465 (lv_at hl 2 rfl) ?_
      refine lv_icmp_ne (tgt := 489) hx hb dL_tick_467 (by decide) (fun c_467_3 => absurd (ht.2.1.trans (if_pos (Int32.not_lt.mp c_347_1))) c_467_3) (fun c_467_3 => ?_)
      refine lv_aload_n hx hb dL_tick_470 rfl (lv_at hl 17 rfl) ?_
      refine lv_iconst (v := 2) hx hb dL_tick_471 (by decide) ?_
      refine lr_i (rL (rest := []) ⟨hx, hb, hml, hown, hts⟩ (LB_door l G cA A o (u, v, (goF u v f g 0), (goG u v f g 0), (goL u v g L 0)) (recN n) K ch 2 ) (cwV 1 hts gL_tick_X8_door rfl rfl rfl mdX8_door ⟨Nat.le_of_ble_eq_true rfl, Nat.le_of_ble_eq_true rfl⟩) hA hL rfl hl rfl (Nat.le_of_ble_eq_true rfl) dL_tick_472 ⟨Nat.le_of_ble_eq_true rfl, Nat.le_of_ble_eq_true rfl⟩) hA hL (fun r_472_3 H locs hr_472_3 hA hL => ?_)
      replace hr_472_3 : r_472_3 = oneF ((goG u v f g 0) 17) := hr_472_3
      subst hr_472_3
      refine lv_iload hx hb dL_tick_475 (lv_at hl 0 rfl) ?_
      refine lv_if_eq (tgt := 484) hx hb dL_tick_477 (by decide) (fun _ => ?_) (fun h9 => absurd (by decide) h9)
      refine lv_iload hx hb dL_tick_484 (lv_at hl 12 rfl) ?_
      refine lv_icmp_eq (tgt := 491) hx hb dL_tick_486 (by decide) (fun c_486_3 => ?_) (fun c_486_3 => absurd (by rw [ht.2.2.1] <;> rfl) c_486_3)
      refine lv_iload hx hb dL_tick_491 (lv_at hl 5 rfl) ?_
      refine lv_if_eq (tgt := 554) hx hb dL_tick_493 (by decide) (fun _ => ?_) (fun h9 => absurd (by decide) h9)
      refine lv_iload_n hx hb dL_tick_554 rfl (lv_at hl 18 rfl) ?_
      refine lv_if_eq (tgt := 599) hx hb dL_tick_555 (by decide) (fun _ => ?_) (fun h9 => absurd (by decide) h9)
      refine lv_iconst (v := 1) hx hb dL_tick_599 (by decide) ?_
      refine lv_goto (tgt := 604) hx hb dL_tick_600 (by decide) ?_
      exact en_l (post := fun r (_ : Unit) => r = 1) (B := fun _ H => LB G cA A o (u, v, (goF u v f g 0), (goG u v f g 0), (goL u v g L 0)) (recN n) K ch H) () hx hb hr hlocks hA rfl hL dL_tick_604
set_option maxHeartbeats 8000000 in
set_option maxRecDepth 100000 in
/-- tick(o, beams), in the state 0, case t0 -/
theorem cL_tick_0_t0 (l : Launch) (G : va_G) (cA : Nat → ClassId) (A : Nat → Prop) (o : Nat) (u : FF) (v : GG) (f : FF) (g L : GG) (n K : Nat) (ch : GG) (hs : g 13 = 0) (hn : n ≤ 4) (hGo : GoOk u f g) (hPr : PrOk u g) (hP2 : PrOk u (goG u v f g 0)) (hT : ¬ 99999 < g 27 + nI 1) (hBo : Bo g) (hf : vf_n32 (f 7)) (hg : ¬ g 5 = 0) (h7 : ¬ g 7 < 1) (hc : g 11 + 1 < v 4) : Met l yL_tick wsL_tick ({ frames := 7, cells := 0, slots := 0, locals := 160 } : Room) (va_Pc [.ref o, .int 0] (LbP G cA A o (u, v, f, g, L) n K ch)) (va_Qi (fun r (_ : Unit) => r = 1) (fun _ t => LB G cA A o (u, v, (goF u v f g 0), (goG u v f g 0), (goL u v g L 0)) (recN n) K ch t.heap) A) 0 0 A := by
  refine ofW2 (cc := cL_tick) (maxL := 19) (ret := (some .boolean)) (own := RL) (by decide) rfl rfl (Nat.le_of_ble_eq_true rfl) rfl ?_
  intro p e s m below meth c ls hx hb hml hr hts hown hlocks hv hl
  obtain ⟨hE, hN, hL⟩ := hv
  have hA : At G cA A s s.heap [] := ⟨hE, hN, va_S.rf⟩
  obtain ⟨H, hH0⟩ : ∃ H, H = s.heap := ⟨_, rfl⟩
  rw [← hH0] at hL ⊢
  replace hA : At G cA A s H [] := by rw [hH0]; exact hA
  generalize ([] : List Loc) = locs at hA ⊢
  clear hH0
  replace hl : lv_has ls 19 [(0, .ref o), (1, .int 0)] := hl
  have hG1 : ∀ k, k < 1 → GoOk u (itS u v 0 (f, g, L) k).1 (itS u v 0 (f, g, L) k).2.1 := fun k hk => (show k = 0 by omega) ▸ hGo
  have ht := t_0 (b := 0) hs (u := u) (v := v) (f := f)
  have hp16 : preG u v g 0 16 = g 16 := pre_16c (clearR_no hc)
  refine lv_aload_n hx hb dL_tick_0 rfl (lv_at hl 0 rfl) ?_
  refine lv_iconst (v := 0) hx hb dL_tick_1 (by decide) ?_
  refine lr_i (rL (rest := []) ⟨hx, hb, hml, hown, hts⟩ (LB_door l G cA A o (u, v, f, g, L) n K ch 0 ) (cwV 1 hts gL_tick_X8_door rfl rfl rfl mdX8_door ⟨Nat.le_of_ble_eq_true rfl, Nat.le_of_ble_eq_true rfl⟩) hA hL rfl hl rfl (Nat.le_of_ble_eq_true rfl) dL_tick_2 ⟨Nat.le_of_ble_eq_true rfl, Nat.le_of_ble_eq_true rfl⟩) hA hL (fun r_2 H locs hr_2 hA hL => ?_)
  replace hr_2 : r_2 = 0 := hr_2.trans hs
  subst hr_2
  refine lv_istore_n (lv' := [(2, .int 0), (0, .ref o), (1, .int 0)]) hx hb dL_tick_5 rfl hl (by decide) rfl (fun ls hl => ?_)
  refine lv_aload_n hx hb dL_tick_6 rfl (lv_at hl 1 rfl) ?_
  refine lr_f (rL (rest := []) ⟨hx, hb, hml, hown, hts⟩ (LB_place l G cA A o (u, v, f, g, L) n K ch  ) (cwV 0 hts gL_tick_X8_place rfl rfl rfl mdX8_place ⟨Nat.le_of_ble_eq_true rfl, Nat.le_of_ble_eq_true rfl⟩) hA hL rfl hl rfl (Nat.le_of_ble_eq_true rfl) dL_tick_7 ⟨Nat.le_of_ble_eq_true rfl, Nat.le_of_ble_eq_true rfl⟩) hA hL (fun r_7 H locs hr_7 hA hL => ?_)
  replace hr_7 : r_7 = f 7 := hr_7
  subst hr_7
  refine lv_fstore_n (lv' := [(3, .float (f 7)), (2, .int 0), (0, .ref o), (1, .int 0)]) hx hb dL_tick_10 rfl hl (by decide) rfl (fun ls hl => ?_)
  refine lv_aload_n hx hb dL_tick_11 rfl (lv_at hl 2 rfl) ?_
  refine lv_iconst (v := 1) hx hb dL_tick_12 (by decide) ?_
  refine lr_i (rL (rest := []) ⟨hx, hb, hml, hown, hts⟩ (LB_door l G cA A o (u, v, f, g, L) n K ch 1 ) (cwV 1 hts gL_tick_X8_door rfl rfl rfl mdX8_door ⟨Nat.le_of_ble_eq_true rfl, Nat.le_of_ble_eq_true rfl⟩) hA hL rfl hl rfl (Nat.le_of_ble_eq_true rfl) dL_tick_13 ⟨Nat.le_of_ble_eq_true rfl, Nat.le_of_ble_eq_true rfl⟩) hA hL (fun r_13 H locs hr_13 hA hL => ?_)
  replace hr_13 : r_13 = g 16 := hr_13
  subst hr_13
  refine lv_istore (lv' := [(4, .int (g 16)), (3, .float (f 7)), (2, .int 0), (0, .ref o), (1, .int 0)]) hx hb dL_tick_16 hl (by decide) rfl (fun ls hl => ?_)
  refine lv_aload_n hx hb dL_tick_18 rfl (lv_at hl 3 rfl) ?_
  refine lv_iconst (v := 3) hx hb dL_tick_19 (by decide) ?_
  refine lr_i (rL (rest := []) ⟨hx, hb, hml, hown, hts⟩ (LB_door l G cA A o (u, v, f, g, L) n K ch 3 ) (cwV 1 hts gL_tick_X8_door rfl rfl rfl mdX8_door ⟨Nat.le_of_ble_eq_true rfl, Nat.le_of_ble_eq_true rfl⟩) hA hL rfl hl rfl (Nat.le_of_ble_eq_true rfl) dL_tick_20 ⟨Nat.le_of_ble_eq_true rfl, Nat.le_of_ble_eq_true rfl⟩) hA hL (fun r_20 H locs hr_20 hA hL => ?_)
  rw [show doF f g 3 = 0 from (by show (if g 13 = 2 then g 14 else 0) = 0; rw [if_neg (by rw [hs]; decide)])] at hr_20
  subst hr_20
  refine lv_istore (lv' := [(5, .int 0), (4, .int (g 16)), (3, .float (f 7)), (2, .int 0), (0, .ref o), (1, .int 0)]) hx hb dL_tick_23 hl (by decide) rfl (fun ls hl => ?_)
  refine lv_aload_n hx hb dL_tick_25 rfl (lv_at hl 4 rfl) ?_
  refine lv_iconst (v := 4) hx hb dL_tick_26 (by decide) ?_
  refine lr_i (rL (rest := []) ⟨hx, hb, hml, hown, hts⟩ (LB_door l G cA A o (u, v, f, g, L) n K ch 4 ) (cwV 1 hts gL_tick_X8_door rfl rfl rfl mdX8_door ⟨Nat.le_of_ble_eq_true rfl, Nat.le_of_ble_eq_true rfl⟩) hA hL rfl hl rfl (Nat.le_of_ble_eq_true rfl) dL_tick_27 ⟨Nat.le_of_ble_eq_true rfl, Nat.le_of_ble_eq_true rfl⟩) hA hL (fun r_27 H locs hr_27 hA hL => ?_)
  rw [show doF f g 4 = 0 from (by show (if g 13 = 3 then g 15 else 0) = 0; rw [if_neg (by rw [hs]; decide)])] at hr_27
  subst hr_27
  refine lv_istore (lv' := [(6, .int 0), (5, .int 0), (4, .int (g 16)), (3, .float (f 7)), (2, .int 0), (0, .ref o), (1, .int 0)]) hx hb dL_tick_30 hl (by decide) rfl (fun ls hl => ?_)
  refine lv_aload_n hx hb dL_tick_32 rfl (lv_at hl 5 rfl) ?_
  refine lv_iconst (v := 2) hx hb dL_tick_33 (by decide) ?_
  refine lr_i (rL (rest := []) ⟨hx, hb, hml, hown, hts⟩ (LB_door l G cA A o (u, v, f, g, L) n K ch 2 ) (cwV 1 hts gL_tick_X8_door rfl rfl rfl mdX8_door ⟨Nat.le_of_ble_eq_true rfl, Nat.le_of_ble_eq_true rfl⟩) hA hL rfl hl rfl (Nat.le_of_ble_eq_true rfl) dL_tick_34 ⟨Nat.le_of_ble_eq_true rfl, Nat.le_of_ble_eq_true rfl⟩) hA hL (fun r_34 H locs hr_34 hA hL => ?_)
  replace hr_34 : r_34 = oneF (g 17) := hr_34
  subst hr_34
  refine lv_istore (lv' := [(7, .int (oneF (g 17))), (6, .int 0), (5, .int 0), (4, .int (g 16)), (3, .float (f 7)), (2, .int 0), (0, .ref o), (1, .int 0)]) hx hb dL_tick_37 hl (by decide) rfl (fun ls hl => ?_)
  refine lv_aload_n hx hb dL_tick_39 rfl (lv_at hl 6 rfl) ?_
  refine lv_iconst (v := 0) hx hb dL_tick_40 (by decide) ?_
  refine lr_i (rL (rest := []) ⟨hx, hb, hml, hown, hts⟩ (LB_thing l G cA A o (u, v, f, g, L) n K ch 0 hPr) (cwV 1 hts gL_tick_X8_thing rfl rfl rfl mdX8_thing ⟨Nat.le_of_ble_eq_true rfl, Nat.le_of_ble_eq_true rfl⟩) hA hL rfl hl rfl (Nat.le_of_ble_eq_true rfl) dL_tick_41 ⟨Nat.le_of_ble_eq_true rfl, Nat.le_of_ble_eq_true rfl⟩) hA hL (fun r_41 H locs hr_41 hA hL => ?_)
  replace hr_41 : r_41 = g 7 := hr_41.trans (th_0 hg)
  subst hr_41
  refine lv_istore (lv' := [(8, .int (g 7)), (7, .int (oneF (g 17))), (6, .int 0), (5, .int 0), (4, .int (g 16)), (3, .float (f 7)), (2, .int 0), (0, .ref o), (1, .int 0)]) hx hb dL_tick_44 hl (by decide) rfl (fun ls hl => ?_)
  refine lv_iload hx hb dL_tick_46 (lv_at hl 0 rfl) ?_
  refine lv_if_ge (tgt := 55) hx hb dL_tick_48 (by decide) (fun c_48 => ?_) (fun c_48 => absurd (show g 7 < 1 by have := Int32.not_le.mp c_48; exact Int32.lt_trans this (by decide)) h7)
  refine lv_aload_n hx hb dL_tick_55 rfl (lv_at hl 7 rfl) ?_
  refine lv_iconst (v := 5) hx hb dL_tick_56 (by decide) ?_
  refine lr_i (rL (rest := []) ⟨hx, hb, hml, hown, hts⟩ (LB_thing l G cA A o (u, v, f, g, L) n K ch 5 hPr) (cwV 1 hts gL_tick_X8_thing rfl rfl rfl mdX8_thing ⟨Nat.le_of_ble_eq_true rfl, Nat.le_of_ble_eq_true rfl⟩) hA hL rfl hl rfl (Nat.le_of_ble_eq_true rfl) dL_tick_57 ⟨Nat.le_of_ble_eq_true rfl, Nat.le_of_ble_eq_true rfl⟩) hA hL (fun r_57 H locs hr_57 hA hL => ?_)
  replace hr_57 : r_57 = g 11 := hr_57.trans (th_5 hg)
  subst hr_57
  refine lv_istore (lv' := [(9, .int (g 11)), (8, .int (g 7)), (7, .int (oneF (g 17))), (6, .int 0), (5, .int 0), (4, .int (g 16)), (3, .float (f 7)), (2, .int 0), (0, .ref o), (1, .int 0)]) hx hb dL_tick_60 hl (by decide) rfl (fun ls hl => ?_)
  refine lv_iload hx hb dL_tick_62 (lv_at hl 1 rfl) ?_
  refine lv_if_ge (tgt := 71) hx hb dL_tick_64 (by decide) (fun c_64 => ?_) (fun c_64 => absurd c_48 c_64)
  refine lv_aload_n hx hb dL_tick_71 rfl (lv_at hl 8 rfl) ?_
  refine lv_bipush (v := 6) hx hb dL_tick_72 (by decide) ?_
  refine lr_i (rL (rest := []) ⟨hx, hb, hml, hown, hts⟩ (LB_thing l G cA A o (u, v, f, g, L) n K ch 6 hPr) (cwV 1 hts gL_tick_X8_thing rfl rfl rfl mdX8_thing ⟨Nat.le_of_ble_eq_true rfl, Nat.le_of_ble_eq_true rfl⟩) hA hL rfl hl rfl (Nat.le_of_ble_eq_true rfl) dL_tick_74 ⟨Nat.le_of_ble_eq_true rfl, Nat.le_of_ble_eq_true rfl⟩) hA hL (fun r_74 H locs hr_74 hA hL => ?_)
  replace hr_74 : r_74 = oneF (g 12) := hr_74.trans (th_6 hg)
  subst hr_74
  refine lv_istore (lv' := [(10, .int (oneF (g 12))), (9, .int (g 11)), (8, .int (g 7)), (7, .int (oneF (g 17))), (6, .int 0), (5, .int 0), (4, .int (g 16)), (3, .float (f 7)), (2, .int 0), (0, .ref o), (1, .int 0)]) hx hb dL_tick_77 hl (by decide) rfl (fun ls hl => ?_)
  refine lv_iload hx hb dL_tick_79 (lv_at hl 2 rfl) ?_
  refine lv_if_ge (tgt := 88) hx hb dL_tick_81 (by decide) (fun c_81 => ?_) (fun c_81 => absurd c_48 c_81)
  refine lv_aload_n hx hb dL_tick_88 rfl (lv_at hl 9 rfl) ?_
  refine lv_bipush (v := 7) hx hb dL_tick_89 (by decide) ?_
  refine lr_i (rL (rest := []) ⟨hx, hb, hml, hown, hts⟩ (LB_thing l G cA A o (u, v, f, g, L) n K ch 7 hPr) (cwV 1 hts gL_tick_X8_thing rfl rfl rfl mdX8_thing ⟨Nat.le_of_ble_eq_true rfl, Nat.le_of_ble_eq_true rfl⟩) hA hL rfl hl rfl (Nat.le_of_ble_eq_true rfl) dL_tick_91 ⟨Nat.le_of_ble_eq_true rfl, Nat.le_of_ble_eq_true rfl⟩) hA hL (fun r_91 H locs hr_91 hA hL => ?_)
  replace hr_91 : r_91 = bestK u g := hr_91.trans (th_7 hg)
  subst hr_91
  refine lv_istore (lv' := [(11, .int (bestK u g)), (10, .int (oneF (g 12))), (9, .int (g 11)), (8, .int (g 7)), (7, .int (oneF (g 17))), (6, .int 0), (5, .int 0), (4, .int (g 16)), (3, .float (f 7)), (2, .int 0), (0, .ref o), (1, .int 0)]) hx hb dL_tick_94 hl (by decide) rfl (fun ls hl => ?_)
  refine lv_aload_n hx hb dL_tick_96 rfl (lv_at hl 10 rfl) ?_
  refine lv_iload_n hx hb dL_tick_97 rfl (lv_at hl 11 rfl) ?_
  refine lv_iconst (v := 1) hx hb dL_tick_98 (by decide) ?_
  refine lw_f (rL (rest := []) ⟨hx, hb, hml, hown, hts⟩ (LB_placeIn_ok l G cA A o (u, v, f, g, L) n K ch 0 1 (by decide) (by decide) (by decide) hG1) (cwV 2 hts gL_tick_X8_placeIn rfl rfl rfl mdX8_placeIn ⟨Nat.le_of_ble_eq_true rfl, Nat.le_of_ble_eq_true rfl⟩) hA hL rfl hl rfl (Nat.le_of_ble_eq_true rfl) dL_tick_99 ⟨Nat.le_of_ble_eq_true rfl, Nat.le_of_ble_eq_true rfl⟩) hA (fun r_99 _ H locs hr_99 hA hL => ?_)
  replace hL : LB G cA A o (u, v, f, g, L) n K ch H := hL
  replace hr_99 : r_99 = (goF u v f g 0) 7 := hr_99
  subst hr_99
  refine lv_fstore (lv' := [(12, .float ((goF u v f g 0) 7)), (11, .int (bestK u g)), (10, .int (oneF (g 12))), (9, .int (g 11)), (8, .int (g 7)), (7, .int (oneF (g 17))), (6, .int 0), (5, .int 0), (4, .int (g 16)), (3, .float (f 7)), (2, .int 0), (0, .ref o), (1, .int 0)]) hx hb dL_tick_102 hl (by decide) rfl (fun ls hl => ?_)
  refine lv_aload_n hx hb dL_tick_104 rfl (lv_at hl 11 rfl) ?_
  refine lv_iload hx hb dL_tick_105 (lv_at hl 1 rfl) ?_
  refine lv_iconst (v := 1) hx hb dL_tick_107 (by decide) ?_
  refine lv_iadd hx hb dL_tick_108 ?_
  refine lr_i (rL (rest := []) ⟨hx, hb, hml, hown, hts⟩ (LB_count l G cA A o (u, v, f, g, L) n K ch ((bestK u g) + 1)) (cwV 1 hts gL_tick_X8_count rfl rfl rfl mdX8_count ⟨Nat.le_of_ble_eq_true rfl, Nat.le_of_ble_eq_true rfl⟩) hA hL rfl hl rfl (Nat.le_of_ble_eq_true rfl) dL_tick_109 ⟨Nat.le_of_ble_eq_true rfl, Nat.le_of_ble_eq_true rfl⟩) hA hL (fun r_109 H locs hr_109 hA hL => ?_)
  replace hr_109 : r_109 = cnF g (nI n) (nI K) ((bestK u g) + 1) := hr_109
  subst hr_109
  refine lv_istore (lv' := [(13, .int (cnF g (nI n) (nI K) ((bestK u g) + 1))), (12, .float ((goF u v f g 0) 7)), (11, .int (bestK u g)), (10, .int (oneF (g 12))), (9, .int (g 11)), (8, .int (g 7)), (7, .int (oneF (g 17))), (6, .int 0), (5, .int 0), (4, .int (g 16)), (3, .float (f 7)), (2, .int 0), (0, .ref o), (1, .int 0)]) hx hb dL_tick_112 hl (by decide) rfl (fun ls hl => ?_)
  refine lv_iload hx hb dL_tick_114 (lv_at hl 5 rfl) ?_
  refine lv_if_le (tgt := 139) hx hb dL_tick_116 (by decide) (fun c_116 => absurd (Int32.lt_of_lt_of_le (by decide) (Int32.not_lt.mp h7)) (Int32.not_lt.mpr c_116)) (fun c_116 => ?_)
  refine lv_iload_n hx hb dL_tick_119 rfl (lv_at hl 13 rfl) ?_
  refine lv_if_ne (tgt := 139) hx hb dL_tick_120 (by decide) (fun h9 => absurd (by decide) h9) (fun _ => ?_)
  refine lv_iload hx hb dL_tick_123 (lv_at hl 4 rfl) ?_
  refine lv_iconst (v := 1) hx hb dL_tick_125 (by decide) ?_
  refine lv_iadd hx hb dL_tick_126 ?_
  refine lv_aload_n hx hb dL_tick_127 rfl (lv_at hl 12 rfl) ?_
  refine lv_iconst (v := 4) hx hb dL_tick_128 (by decide) ?_
  refine lr_i (rL (rest := [.int ((g 11) + 1)]) ⟨hx, hb, hml, hown, hts⟩ (LB_number l G cA A o (u, v, f, g, L) n K ch 4 ) (cwV 1 hts gL_tick_X8_number rfl rfl rfl mdX8_number ⟨Nat.le_of_ble_eq_true rfl, Nat.le_of_ble_eq_true rfl⟩) hA hL rfl hl rfl (Nat.le_of_ble_eq_true rfl) dL_tick_129 ⟨Nat.le_of_ble_eq_true rfl, Nat.le_of_ble_eq_true rfl⟩) hA hL (fun r_129 H locs hr_129 hA hL => ?_)
  replace hr_129 : r_129 = v 4 := hr_129
  subst hr_129
  refine lv_icmp_lt (tgt := 139) hx hb dL_tick_132 (by decide) (fun c_132 => ?_) (fun c_132 => absurd hc c_132)
  refine lv_iconst (v := 0) hx hb dL_tick_139 (by decide) ?_
  refine lv_istore (lv' := [(14, .int 0), (13, .int (cnF g (nI n) (nI K) ((bestK u g) + 1))), (12, .float ((goF u v f g 0) 7)), (11, .int (bestK u g)), (10, .int (oneF (g 12))), (9, .int (g 11)), (8, .int (g 7)), (7, .int (oneF (g 17))), (6, .int 0), (5, .int 0), (4, .int (g 16)), (3, .float (f 7)), (2, .int 0), (0, .ref o), (1, .int 0)]) hx hb dL_tick_140 hl (by decide) rfl (fun ls hl => ?_)
  refine lv_iload hx hb dL_tick_142 (lv_at hl 10 rfl) ?_
  refine lv_iload hx hb dL_tick_144 (lv_at hl 0 rfl) ?_
  refine lv_if_eq (tgt := 169) hx hb dL_tick_146 (by decide) (fun _ => ?_) (fun h9 => absurd (by decide) h9)
  refine lv_iconst (v := 0) hx hb dL_tick_169 (by decide) ?_
  refine lv_isub hx hb dL_tick_170 ?_
  refine W.eq (g2 := F0 m 171 ls [.int (preG u v g 0 16)]) (by rw [hp16, Int32.sub_zero]) ?_
  refine lv_istore (lv' := [(4, .int (preG u v g 0 16)), (14, .int 0), (13, .int (cnF g (nI n) (nI K) ((bestK u g) + 1))), (12, .float ((goF u v f g 0) 7)), (11, .int (bestK u g)), (10, .int (oneF (g 12))), (9, .int (g 11)), (8, .int (g 7)), (7, .int (oneF (g 17))), (6, .int 0), (5, .int 0), (3, .float (f 7)), (2, .int 0), (0, .ref o), (1, .int 0)]) hx hb dL_tick_171 hl (by decide) rfl (fun ls hl => ?_)
  refine lv_iload_n hx hb dL_tick_173 rfl (lv_at hl 12 rfl) ?_
  refine lv_istore (lv' := [(15, .int 0), (4, .int (preG u v g 0 16)), (14, .int 0), (13, .int (cnF g (nI n) (nI K) ((bestK u g) + 1))), (12, .float ((goF u v f g 0) 7)), (11, .int (bestK u g)), (10, .int (oneF (g 12))), (9, .int (g 11)), (8, .int (g 7)), (7, .int (oneF (g 17))), (6, .int 0), (5, .int 0), (3, .float (f 7)), (2, .int 0), (0, .ref o), (1, .int 0)]) hx hb dL_tick_174 hl (by decide) rfl (fun ls hl => ?_)
  refine lv_fload_n hx hb dL_tick_176 rfl (lv_at hl 12 rfl) ?_
  refine lv_fstore (lv' := [(16, .float (f 7)), (15, .int 0), (4, .int (preG u v g 0 16)), (14, .int 0), (13, .int (cnF g (nI n) (nI K) ((bestK u g) + 1))), (12, .float ((goF u v f g 0) 7)), (11, .int (bestK u g)), (10, .int (oneF (g 12))), (9, .int (g 11)), (8, .int (g 7)), (7, .int (oneF (g 17))), (6, .int 0), (5, .int 0), (3, .float (f 7)), (2, .int 0), (0, .ref o), (1, .int 0)]) hx hb dL_tick_177 hl (by decide) rfl (fun ls hl => ?_)
  refine lv_iload_n hx hb dL_tick_179 rfl (lv_at hl 14 rfl) ?_
  refine lv_iconst (v := 1) hx hb dL_tick_180 (by decide) ?_
  refine lv_icmp_ne (tgt := 228) hx hb dL_tick_181 (by decide) (fun _ => ?_) (fun h9 => absurd h9 (by decide))
  refine lv_iload_n hx hb dL_tick_228 rfl (lv_at hl 14 rfl) ?_
  refine lv_iconst (v := 2) hx hb dL_tick_229 (by decide) ?_
  refine lv_icmp_ne (tgt := 264) hx hb dL_tick_230 (by decide) (fun _ => ?_) (fun h9 => absurd h9 (by decide))
  refine lv_iload_n hx hb dL_tick_264 rfl (lv_at hl 14 rfl) ?_
  refine lv_iconst (v := 3) hx hb dL_tick_265 (by decide) ?_
  refine lv_icmp_ne (tgt := 311) hx hb dL_tick_266 (by decide) (fun _ => ?_) (fun h9 => absurd h9 (by decide))
  refine lv_iload_n hx hb dL_tick_311 rfl (lv_at hl 14 rfl) ?_
  refine lv_iconst (v := 3) hx hb dL_tick_312 (by decide) ?_
  refine lv_icmp_ne (tgt := 385) hx hb dL_tick_313 (by decide) (fun _ => ?_) (fun h9 => absurd h9 (by decide))
  refine lv_iload_n hx hb dL_tick_385 rfl (lv_at hl 14 rfl) ?_
  refine lv_iconst (v := 3) hx hb dL_tick_386 (by decide) ?_
  refine lv_icmp_ne (tgt := 400) hx hb dL_tick_387 (by decide) (fun _ => ?_) (fun h9 => absurd h9 (by decide))
  refine lv_iconst (v := 0) hx hb dL_tick_400 (by decide) ?_
  refine lv_istore (lv' := [(17, .int 0), (16, .float (f 7)), (15, .int 0), (4, .int (preG u v g 0 16)), (14, .int 0), (13, .int (cnF g (nI n) (nI K) ((bestK u g) + 1))), (12, .float ((goF u v f g 0) 7)), (11, .int (bestK u g)), (10, .int (oneF (g 12))), (9, .int (g 11)), (8, .int (g 7)), (7, .int (oneF (g 17))), (6, .int 0), (5, .int 0), (3, .float (f 7)), (2, .int 0), (0, .ref o), (1, .int 0)]) hx hb dL_tick_401 hl (by decide) rfl (fun ls hl => ?_)
  refine lv_iload hx hb dL_tick_403 (lv_at hl 0 rfl) ?_
  refine lv_if_eq (tgt := 428) hx hb dL_tick_405 (by decide) (fun _ => ?_) (fun h9 => absurd (by decide) h9)
  refine lv_iconst (v := 0) hx hb dL_tick_428 (by decide) ?_
  refine lv_istore (lv' := [(18, .int 0), (17, .int 0), (16, .float (f 7)), (15, .int 0), (4, .int (preG u v g 0 16)), (14, .int 0), (13, .int (cnF g (nI n) (nI K) ((bestK u g) + 1))), (12, .float ((goF u v f g 0) 7)), (11, .int (bestK u g)), (10, .int (oneF (g 12))), (9, .int (g 11)), (8, .int (g 7)), (7, .int (oneF (g 17))), (6, .int 0), (5, .int 0), (3, .float (f 7)), (2, .int 0), (0, .ref o), (1, .int 0)]) hx hb dL_tick_429 hl (by decide) rfl (fun ls hl => ?_)
  refine lv_aload_n hx hb dL_tick_431 rfl (lv_at hl 17 rfl) ?_
  refine lv_iload_n hx hb dL_tick_432 rfl (lv_at hl 18 rfl) ?_
  refine lv_iconst (v := 1) hx hb dL_tick_433 (by decide) ?_
  refine lw_i (rL (rest := []) ⟨hx, hb, hml, hown, hts⟩ (LB_pass_ok l G cA A o (u, v, f, g, L) n K ch hn 0 1 (by decide) (by decide) (by decide) (by decide) hT hG1 hBo) (cwV 2 hts gL_tick_X8_pass rfl rfl rfl mdX8_pass ⟨Nat.le_of_ble_eq_true rfl, Nat.le_of_ble_eq_true rfl⟩) hA hL rfl hl rfl (Nat.le_of_ble_eq_true rfl) dL_tick_434 ⟨Nat.le_of_ble_eq_true rfl, Nat.le_of_ble_eq_true rfl⟩) hA (fun r_434 _ H locs hr_434 hA hL => ?_)
  replace hL : LB G cA A o (u, v, (goF u v f g 0), (goG u v f g 0), (goL u v g L 0)) (recN n) K ch H := hL
  replace hr_434 : r_434 = (goG u v f g 0) 13 := hr_434
  subst hr_434
  refine lv_iload hx hb dL_tick_437 (lv_at hl 3 rfl) ?_
  refine lv_icmp_ne (tgt := 489) hx hb dL_tick_439 (by decide) (fun c_439 => absurd ht.1 c_439) (fun c_439 => ?_)
  refine lv_aload_n hx hb dL_tick_442 rfl (lv_at hl 17 rfl) ?_
  refine lr_f (rL (rest := []) ⟨hx, hb, hml, hown, hts⟩ (LB_place l G cA A o (u, v, (goF u v f g 0), (goG u v f g 0), (goL u v g L 0)) (recN n) K ch  ) (cwV 0 hts gL_tick_X8_place rfl rfl rfl mdX8_place ⟨Nat.le_of_ble_eq_true rfl, Nat.le_of_ble_eq_true rfl⟩) hA hL rfl hl rfl (Nat.le_of_ble_eq_true rfl) dL_tick_443 ⟨Nat.le_of_ble_eq_true rfl, Nat.le_of_ble_eq_true rfl⟩) hA hL (fun r_443 H locs hr_443 hA hL => ?_)
  replace hr_443 : r_443 = (goF u v f g 0) 7 := hr_443
  subst hr_443
  refine lv_fload hx hb dL_tick_446 (lv_at hl 2 rfl) ?_
  refine lv_fcmp hx hb dL_tick_448 ?_
  refine lv_if_ne (tgt := 489) hx hb dL_tick_449 (by decide) (fun c_449 => absurd (by rw [ht.2.2.2]; exact cmp_self (of_vf hf) _) c_449) (fun c_449 => ?_)
  refine lv_fload hx hb dL_tick_452 (lv_at hl 7 rfl) ?_
  refine lv_fload hx hb dL_tick_454 (lv_at hl 2 rfl) ?_
  refine lv_fcmp hx hb dL_tick_456 ?_
  refine lv_if_ne (tgt := 489) hx hb dL_tick_457 (by decide) (fun c_457 => absurd (by rw [ht.2.2.2]; exact cmp_self (of_vf hf) _) c_457) (fun c_457 => ?_)
  refine lv_aload_n hx hb dL_tick_460 rfl (lv_at hl 17 rfl) ?_
  refine lv_iconst (v := 1) hx hb dL_tick_461 (by decide) ?_
  refine lr_i (rL (rest := []) ⟨hx, hb, hml, hown, hts⟩ (LB_door l G cA A o (u, v, (goF u v f g 0), (goG u v f g 0), (goL u v g L 0)) (recN n) K ch 1 ) (cwV 1 hts gL_tick_X8_door rfl rfl rfl mdX8_door ⟨Nat.le_of_ble_eq_true rfl, Nat.le_of_ble_eq_true rfl⟩) hA hL rfl hl rfl (Nat.le_of_ble_eq_true rfl) dL_tick_462 ⟨Nat.le_of_ble_eq_true rfl, Nat.le_of_ble_eq_true rfl⟩) hA hL (fun r_462 H locs hr_462 hA hL => ?_)
  replace hr_462 : r_462 = (goG u v f g 0) 16 := hr_462
  subst hr_462
  refine lv_iload hx hb dL_tick_465 (lv_at hl 4 rfl) ?_
  refine lv_icmp_ne (tgt := 489) hx hb dL_tick_467 (by decide) (fun c_467 => absurd ht.2.1 c_467) (fun c_467 => ?_)
  refine lv_aload_n hx hb dL_tick_470 rfl (lv_at hl 17 rfl) ?_
  refine lv_iconst (v := 2) hx hb dL_tick_471 (by decide) ?_
  refine lr_i (rL (rest := []) ⟨hx, hb, hml, hown, hts⟩ (LB_door l G cA A o (u, v, (goF u v f g 0), (goG u v f g 0), (goL u v g L 0)) (recN n) K ch 2 ) (cwV 1 hts gL_tick_X8_door rfl rfl rfl mdX8_door ⟨Nat.le_of_ble_eq_true rfl, Nat.le_of_ble_eq_true rfl⟩) hA hL rfl hl rfl (Nat.le_of_ble_eq_true rfl) dL_tick_472 ⟨Nat.le_of_ble_eq_true rfl, Nat.le_of_ble_eq_true rfl⟩) hA hL (fun r_472 H locs hr_472 hA hL => ?_)
  replace hr_472 : r_472 = oneF ((goG u v f g 0) 17) := hr_472
  subst hr_472
  refine lv_iload hx hb dL_tick_475 (lv_at hl 0 rfl) ?_
  refine lv_if_eq (tgt := 484) hx hb dL_tick_477 (by decide) (fun _ => ?_) (fun h9 => absurd (by decide) h9)
  refine lv_iload hx hb dL_tick_484 (lv_at hl 12 rfl) ?_
  refine lv_icmp_eq (tgt := 491) hx hb dL_tick_486 (by decide) (fun c_486 => ?_) (fun c_486 => absurd (by rw [ht.2.2.1] <;> rfl) c_486)
  refine lv_iload hx hb dL_tick_491 (lv_at hl 5 rfl) ?_
  refine lv_if_eq (tgt := 554) hx hb dL_tick_493 (by decide) (fun _ => ?_) (fun h9 => absurd (by decide) h9)
  refine lv_iload_n hx hb dL_tick_554 rfl (lv_at hl 18 rfl) ?_
  refine lv_if_eq (tgt := 599) hx hb dL_tick_555 (by decide) (fun _ => ?_) (fun h9 => absurd (by decide) h9)
  refine lv_iconst (v := 1) hx hb dL_tick_599 (by decide) ?_
  refine lv_goto (tgt := 604) hx hb dL_tick_600 (by decide) ?_
  exact en_l (post := fun r (_ : Unit) => r = 1) (B := fun _ H => LB G cA A o (u, v, (goF u v f g 0), (goG u v f g 0), (goL u v g L 0)) (recN n) K ch H) () hx hb hr hlocks hA rfl hL dL_tick_604
set_option maxHeartbeats 8000000 in
set_option maxRecDepth 100000 in
/-- tick(o, beams), in the state 1, case t0 -/
theorem cL_tick_1_t0 (l : Launch) (G : va_G) (cA : Nat → ClassId) (A : Nat → Prop) (o : Nat) (u : FF) (v : GG) (f : FF) (g L : GG) (n K : Nat) (ch : GG) (hs : g 13 = 1) (hn : n ≤ 4) (hGo : GoOk u f g) (hPr : PrOk u g) (hP2 : PrOk u (goG u v f g 0)) (hT : ¬ 99999 < g 27 + nI 1) (hBo : Bo g) (hf : vf_n32 (f 7)) (hg : ¬ g 5 = 0) (h7 : ¬ g 7 < 1) (hc : g 11 + 1 < v 4) : Met l yL_tick wsL_tick ({ frames := 7, cells := 0, slots := 0, locals := 160 } : Room) (va_Pc [.ref o, .int 0] (LbP G cA A o (u, v, f, g, L) n K ch)) (va_Qi (fun r (_ : Unit) => r = 1) (fun _ t => LB G cA A o (u, v, (goF u v f g 0), (goG u v f g 0), (goL u v g L 0)) (recN n) K ch t.heap) A) 0 0 A := by
  refine ofW2 (cc := cL_tick) (maxL := 19) (ret := (some .boolean)) (own := RL) (by decide) rfl rfl (Nat.le_of_ble_eq_true rfl) rfl ?_
  intro p e s m below meth c ls hx hb hml hr hts hown hlocks hv hl
  obtain ⟨hE, hN, hL⟩ := hv
  have hA : At G cA A s s.heap [] := ⟨hE, hN, va_S.rf⟩
  obtain ⟨H, hH0⟩ : ∃ H, H = s.heap := ⟨_, rfl⟩
  rw [← hH0] at hL ⊢
  replace hA : At G cA A s H [] := by rw [hH0]; exact hA
  generalize ([] : List Loc) = locs at hA ⊢
  clear hH0
  replace hl : lv_has ls 19 [(0, .ref o), (1, .int 0)] := hl
  have hG1 : ∀ k, k < 1 → GoOk u (itS u v 0 (f, g, L) k).1 (itS u v 0 (f, g, L) k).2.1 := fun k hk => (show k = 0 by omega) ▸ hGo
  have ht := t_1 (b := 0) hs (u := u) (v := v) (f := f)
  have hp16 : preG u v g 0 16 = g 16 := pre_16c (clearR_no hc)
  refine lv_aload_n hx hb dL_tick_0 rfl (lv_at hl 0 rfl) ?_
  refine lv_iconst (v := 0) hx hb dL_tick_1 (by decide) ?_
  refine lr_i (rL (rest := []) ⟨hx, hb, hml, hown, hts⟩ (LB_door l G cA A o (u, v, f, g, L) n K ch 0 ) (cwV 1 hts gL_tick_X8_door rfl rfl rfl mdX8_door ⟨Nat.le_of_ble_eq_true rfl, Nat.le_of_ble_eq_true rfl⟩) hA hL rfl hl rfl (Nat.le_of_ble_eq_true rfl) dL_tick_2 ⟨Nat.le_of_ble_eq_true rfl, Nat.le_of_ble_eq_true rfl⟩) hA hL (fun r_2 H locs hr_2 hA hL => ?_)
  replace hr_2 : r_2 = 1 := hr_2.trans hs
  subst hr_2
  refine lv_istore_n (lv' := [(2, .int 1), (0, .ref o), (1, .int 0)]) hx hb dL_tick_5 rfl hl (by decide) rfl (fun ls hl => ?_)
  refine lv_aload_n hx hb dL_tick_6 rfl (lv_at hl 1 rfl) ?_
  refine lr_f (rL (rest := []) ⟨hx, hb, hml, hown, hts⟩ (LB_place l G cA A o (u, v, f, g, L) n K ch  ) (cwV 0 hts gL_tick_X8_place rfl rfl rfl mdX8_place ⟨Nat.le_of_ble_eq_true rfl, Nat.le_of_ble_eq_true rfl⟩) hA hL rfl hl rfl (Nat.le_of_ble_eq_true rfl) dL_tick_7 ⟨Nat.le_of_ble_eq_true rfl, Nat.le_of_ble_eq_true rfl⟩) hA hL (fun r_7 H locs hr_7 hA hL => ?_)
  replace hr_7 : r_7 = f 7 := hr_7
  subst hr_7
  refine lv_fstore_n (lv' := [(3, .float (f 7)), (2, .int 1), (0, .ref o), (1, .int 0)]) hx hb dL_tick_10 rfl hl (by decide) rfl (fun ls hl => ?_)
  refine lv_aload_n hx hb dL_tick_11 rfl (lv_at hl 2 rfl) ?_
  refine lv_iconst (v := 1) hx hb dL_tick_12 (by decide) ?_
  refine lr_i (rL (rest := []) ⟨hx, hb, hml, hown, hts⟩ (LB_door l G cA A o (u, v, f, g, L) n K ch 1 ) (cwV 1 hts gL_tick_X8_door rfl rfl rfl mdX8_door ⟨Nat.le_of_ble_eq_true rfl, Nat.le_of_ble_eq_true rfl⟩) hA hL rfl hl rfl (Nat.le_of_ble_eq_true rfl) dL_tick_13 ⟨Nat.le_of_ble_eq_true rfl, Nat.le_of_ble_eq_true rfl⟩) hA hL (fun r_13 H locs hr_13 hA hL => ?_)
  replace hr_13 : r_13 = g 16 := hr_13
  subst hr_13
  refine lv_istore (lv' := [(4, .int (g 16)), (3, .float (f 7)), (2, .int 1), (0, .ref o), (1, .int 0)]) hx hb dL_tick_16 hl (by decide) rfl (fun ls hl => ?_)
  refine lv_aload_n hx hb dL_tick_18 rfl (lv_at hl 3 rfl) ?_
  refine lv_iconst (v := 3) hx hb dL_tick_19 (by decide) ?_
  refine lr_i (rL (rest := []) ⟨hx, hb, hml, hown, hts⟩ (LB_door l G cA A o (u, v, f, g, L) n K ch 3 ) (cwV 1 hts gL_tick_X8_door rfl rfl rfl mdX8_door ⟨Nat.le_of_ble_eq_true rfl, Nat.le_of_ble_eq_true rfl⟩) hA hL rfl hl rfl (Nat.le_of_ble_eq_true rfl) dL_tick_20 ⟨Nat.le_of_ble_eq_true rfl, Nat.le_of_ble_eq_true rfl⟩) hA hL (fun r_20 H locs hr_20 hA hL => ?_)
  rw [show doF f g 3 = 0 from (by show (if g 13 = 2 then g 14 else 0) = 0; rw [if_neg (by rw [hs]; decide)])] at hr_20
  subst hr_20
  refine lv_istore (lv' := [(5, .int 0), (4, .int (g 16)), (3, .float (f 7)), (2, .int 1), (0, .ref o), (1, .int 0)]) hx hb dL_tick_23 hl (by decide) rfl (fun ls hl => ?_)
  refine lv_aload_n hx hb dL_tick_25 rfl (lv_at hl 4 rfl) ?_
  refine lv_iconst (v := 4) hx hb dL_tick_26 (by decide) ?_
  refine lr_i (rL (rest := []) ⟨hx, hb, hml, hown, hts⟩ (LB_door l G cA A o (u, v, f, g, L) n K ch 4 ) (cwV 1 hts gL_tick_X8_door rfl rfl rfl mdX8_door ⟨Nat.le_of_ble_eq_true rfl, Nat.le_of_ble_eq_true rfl⟩) hA hL rfl hl rfl (Nat.le_of_ble_eq_true rfl) dL_tick_27 ⟨Nat.le_of_ble_eq_true rfl, Nat.le_of_ble_eq_true rfl⟩) hA hL (fun r_27 H locs hr_27 hA hL => ?_)
  rw [show doF f g 4 = 0 from (by show (if g 13 = 3 then g 15 else 0) = 0; rw [if_neg (by rw [hs]; decide)])] at hr_27
  subst hr_27
  refine lv_istore (lv' := [(6, .int 0), (5, .int 0), (4, .int (g 16)), (3, .float (f 7)), (2, .int 1), (0, .ref o), (1, .int 0)]) hx hb dL_tick_30 hl (by decide) rfl (fun ls hl => ?_)
  refine lv_aload_n hx hb dL_tick_32 rfl (lv_at hl 5 rfl) ?_
  refine lv_iconst (v := 2) hx hb dL_tick_33 (by decide) ?_
  refine lr_i (rL (rest := []) ⟨hx, hb, hml, hown, hts⟩ (LB_door l G cA A o (u, v, f, g, L) n K ch 2 ) (cwV 1 hts gL_tick_X8_door rfl rfl rfl mdX8_door ⟨Nat.le_of_ble_eq_true rfl, Nat.le_of_ble_eq_true rfl⟩) hA hL rfl hl rfl (Nat.le_of_ble_eq_true rfl) dL_tick_34 ⟨Nat.le_of_ble_eq_true rfl, Nat.le_of_ble_eq_true rfl⟩) hA hL (fun r_34 H locs hr_34 hA hL => ?_)
  replace hr_34 : r_34 = oneF (g 17) := hr_34
  subst hr_34
  refine lv_istore (lv' := [(7, .int (oneF (g 17))), (6, .int 0), (5, .int 0), (4, .int (g 16)), (3, .float (f 7)), (2, .int 1), (0, .ref o), (1, .int 0)]) hx hb dL_tick_37 hl (by decide) rfl (fun ls hl => ?_)
  refine lv_aload_n hx hb dL_tick_39 rfl (lv_at hl 6 rfl) ?_
  refine lv_iconst (v := 0) hx hb dL_tick_40 (by decide) ?_
  refine lr_i (rL (rest := []) ⟨hx, hb, hml, hown, hts⟩ (LB_thing l G cA A o (u, v, f, g, L) n K ch 0 hPr) (cwV 1 hts gL_tick_X8_thing rfl rfl rfl mdX8_thing ⟨Nat.le_of_ble_eq_true rfl, Nat.le_of_ble_eq_true rfl⟩) hA hL rfl hl rfl (Nat.le_of_ble_eq_true rfl) dL_tick_41 ⟨Nat.le_of_ble_eq_true rfl, Nat.le_of_ble_eq_true rfl⟩) hA hL (fun r_41 H locs hr_41 hA hL => ?_)
  replace hr_41 : r_41 = g 7 := hr_41.trans (th_0 hg)
  subst hr_41
  refine lv_istore (lv' := [(8, .int (g 7)), (7, .int (oneF (g 17))), (6, .int 0), (5, .int 0), (4, .int (g 16)), (3, .float (f 7)), (2, .int 1), (0, .ref o), (1, .int 0)]) hx hb dL_tick_44 hl (by decide) rfl (fun ls hl => ?_)
  refine lv_iload hx hb dL_tick_46 (lv_at hl 0 rfl) ?_
  refine lv_if_ge (tgt := 55) hx hb dL_tick_48 (by decide) (fun c_48 => ?_) (fun c_48 => absurd (show g 7 < 1 by have := Int32.not_le.mp c_48; exact Int32.lt_trans this (by decide)) h7)
  refine lv_aload_n hx hb dL_tick_55 rfl (lv_at hl 7 rfl) ?_
  refine lv_iconst (v := 5) hx hb dL_tick_56 (by decide) ?_
  refine lr_i (rL (rest := []) ⟨hx, hb, hml, hown, hts⟩ (LB_thing l G cA A o (u, v, f, g, L) n K ch 5 hPr) (cwV 1 hts gL_tick_X8_thing rfl rfl rfl mdX8_thing ⟨Nat.le_of_ble_eq_true rfl, Nat.le_of_ble_eq_true rfl⟩) hA hL rfl hl rfl (Nat.le_of_ble_eq_true rfl) dL_tick_57 ⟨Nat.le_of_ble_eq_true rfl, Nat.le_of_ble_eq_true rfl⟩) hA hL (fun r_57 H locs hr_57 hA hL => ?_)
  replace hr_57 : r_57 = g 11 := hr_57.trans (th_5 hg)
  subst hr_57
  refine lv_istore (lv' := [(9, .int (g 11)), (8, .int (g 7)), (7, .int (oneF (g 17))), (6, .int 0), (5, .int 0), (4, .int (g 16)), (3, .float (f 7)), (2, .int 1), (0, .ref o), (1, .int 0)]) hx hb dL_tick_60 hl (by decide) rfl (fun ls hl => ?_)
  refine lv_iload hx hb dL_tick_62 (lv_at hl 1 rfl) ?_
  refine lv_if_ge (tgt := 71) hx hb dL_tick_64 (by decide) (fun c_64 => ?_) (fun c_64 => absurd c_48 c_64)
  refine lv_aload_n hx hb dL_tick_71 rfl (lv_at hl 8 rfl) ?_
  refine lv_bipush (v := 6) hx hb dL_tick_72 (by decide) ?_
  refine lr_i (rL (rest := []) ⟨hx, hb, hml, hown, hts⟩ (LB_thing l G cA A o (u, v, f, g, L) n K ch 6 hPr) (cwV 1 hts gL_tick_X8_thing rfl rfl rfl mdX8_thing ⟨Nat.le_of_ble_eq_true rfl, Nat.le_of_ble_eq_true rfl⟩) hA hL rfl hl rfl (Nat.le_of_ble_eq_true rfl) dL_tick_74 ⟨Nat.le_of_ble_eq_true rfl, Nat.le_of_ble_eq_true rfl⟩) hA hL (fun r_74 H locs hr_74 hA hL => ?_)
  replace hr_74 : r_74 = oneF (g 12) := hr_74.trans (th_6 hg)
  subst hr_74
  refine lv_istore (lv' := [(10, .int (oneF (g 12))), (9, .int (g 11)), (8, .int (g 7)), (7, .int (oneF (g 17))), (6, .int 0), (5, .int 0), (4, .int (g 16)), (3, .float (f 7)), (2, .int 1), (0, .ref o), (1, .int 0)]) hx hb dL_tick_77 hl (by decide) rfl (fun ls hl => ?_)
  refine lv_iload hx hb dL_tick_79 (lv_at hl 2 rfl) ?_
  refine lv_if_ge (tgt := 88) hx hb dL_tick_81 (by decide) (fun c_81 => ?_) (fun c_81 => absurd c_48 c_81)
  refine lv_aload_n hx hb dL_tick_88 rfl (lv_at hl 9 rfl) ?_
  refine lv_bipush (v := 7) hx hb dL_tick_89 (by decide) ?_
  refine lr_i (rL (rest := []) ⟨hx, hb, hml, hown, hts⟩ (LB_thing l G cA A o (u, v, f, g, L) n K ch 7 hPr) (cwV 1 hts gL_tick_X8_thing rfl rfl rfl mdX8_thing ⟨Nat.le_of_ble_eq_true rfl, Nat.le_of_ble_eq_true rfl⟩) hA hL rfl hl rfl (Nat.le_of_ble_eq_true rfl) dL_tick_91 ⟨Nat.le_of_ble_eq_true rfl, Nat.le_of_ble_eq_true rfl⟩) hA hL (fun r_91 H locs hr_91 hA hL => ?_)
  replace hr_91 : r_91 = bestK u g := hr_91.trans (th_7 hg)
  subst hr_91
  refine lv_istore (lv' := [(11, .int (bestK u g)), (10, .int (oneF (g 12))), (9, .int (g 11)), (8, .int (g 7)), (7, .int (oneF (g 17))), (6, .int 0), (5, .int 0), (4, .int (g 16)), (3, .float (f 7)), (2, .int 1), (0, .ref o), (1, .int 0)]) hx hb dL_tick_94 hl (by decide) rfl (fun ls hl => ?_)
  refine lv_aload_n hx hb dL_tick_96 rfl (lv_at hl 10 rfl) ?_
  refine lv_iload_n hx hb dL_tick_97 rfl (lv_at hl 11 rfl) ?_
  refine lv_iconst (v := 1) hx hb dL_tick_98 (by decide) ?_
  refine lw_f (rL (rest := []) ⟨hx, hb, hml, hown, hts⟩ (LB_placeIn_ok l G cA A o (u, v, f, g, L) n K ch 0 1 (by decide) (by decide) (by decide) hG1) (cwV 2 hts gL_tick_X8_placeIn rfl rfl rfl mdX8_placeIn ⟨Nat.le_of_ble_eq_true rfl, Nat.le_of_ble_eq_true rfl⟩) hA hL rfl hl rfl (Nat.le_of_ble_eq_true rfl) dL_tick_99 ⟨Nat.le_of_ble_eq_true rfl, Nat.le_of_ble_eq_true rfl⟩) hA (fun r_99 _ H locs hr_99 hA hL => ?_)
  replace hL : LB G cA A o (u, v, f, g, L) n K ch H := hL
  replace hr_99 : r_99 = (goF u v f g 0) 7 := hr_99
  subst hr_99
  refine lv_fstore (lv' := [(12, .float ((goF u v f g 0) 7)), (11, .int (bestK u g)), (10, .int (oneF (g 12))), (9, .int (g 11)), (8, .int (g 7)), (7, .int (oneF (g 17))), (6, .int 0), (5, .int 0), (4, .int (g 16)), (3, .float (f 7)), (2, .int 1), (0, .ref o), (1, .int 0)]) hx hb dL_tick_102 hl (by decide) rfl (fun ls hl => ?_)
  refine lv_aload_n hx hb dL_tick_104 rfl (lv_at hl 11 rfl) ?_
  refine lv_iload hx hb dL_tick_105 (lv_at hl 1 rfl) ?_
  refine lv_iconst (v := 1) hx hb dL_tick_107 (by decide) ?_
  refine lv_iadd hx hb dL_tick_108 ?_
  refine lr_i (rL (rest := []) ⟨hx, hb, hml, hown, hts⟩ (LB_count l G cA A o (u, v, f, g, L) n K ch ((bestK u g) + 1)) (cwV 1 hts gL_tick_X8_count rfl rfl rfl mdX8_count ⟨Nat.le_of_ble_eq_true rfl, Nat.le_of_ble_eq_true rfl⟩) hA hL rfl hl rfl (Nat.le_of_ble_eq_true rfl) dL_tick_109 ⟨Nat.le_of_ble_eq_true rfl, Nat.le_of_ble_eq_true rfl⟩) hA hL (fun r_109 H locs hr_109 hA hL => ?_)
  replace hr_109 : r_109 = cnF g (nI n) (nI K) ((bestK u g) + 1) := hr_109
  subst hr_109
  refine lv_istore (lv' := [(13, .int (cnF g (nI n) (nI K) ((bestK u g) + 1))), (12, .float ((goF u v f g 0) 7)), (11, .int (bestK u g)), (10, .int (oneF (g 12))), (9, .int (g 11)), (8, .int (g 7)), (7, .int (oneF (g 17))), (6, .int 0), (5, .int 0), (4, .int (g 16)), (3, .float (f 7)), (2, .int 1), (0, .ref o), (1, .int 0)]) hx hb dL_tick_112 hl (by decide) rfl (fun ls hl => ?_)
  refine lv_iload hx hb dL_tick_114 (lv_at hl 5 rfl) ?_
  refine lv_if_le (tgt := 139) hx hb dL_tick_116 (by decide) (fun c_116 => absurd (Int32.lt_of_lt_of_le (by decide) (Int32.not_lt.mp h7)) (Int32.not_lt.mpr c_116)) (fun c_116 => ?_)
  refine lv_iload_n hx hb dL_tick_119 rfl (lv_at hl 13 rfl) ?_
  refine lv_if_ne (tgt := 139) hx hb dL_tick_120 (by decide) (fun h9 => absurd (by decide) h9) (fun _ => ?_)
  refine lv_iload hx hb dL_tick_123 (lv_at hl 4 rfl) ?_
  refine lv_iconst (v := 1) hx hb dL_tick_125 (by decide) ?_
  refine lv_iadd hx hb dL_tick_126 ?_
  refine lv_aload_n hx hb dL_tick_127 rfl (lv_at hl 12 rfl) ?_
  refine lv_iconst (v := 4) hx hb dL_tick_128 (by decide) ?_
  refine lr_i (rL (rest := [.int ((g 11) + 1)]) ⟨hx, hb, hml, hown, hts⟩ (LB_number l G cA A o (u, v, f, g, L) n K ch 4 ) (cwV 1 hts gL_tick_X8_number rfl rfl rfl mdX8_number ⟨Nat.le_of_ble_eq_true rfl, Nat.le_of_ble_eq_true rfl⟩) hA hL rfl hl rfl (Nat.le_of_ble_eq_true rfl) dL_tick_129 ⟨Nat.le_of_ble_eq_true rfl, Nat.le_of_ble_eq_true rfl⟩) hA hL (fun r_129 H locs hr_129 hA hL => ?_)
  replace hr_129 : r_129 = v 4 := hr_129
  subst hr_129
  refine lv_icmp_lt (tgt := 139) hx hb dL_tick_132 (by decide) (fun c_132 => ?_) (fun c_132 => absurd hc c_132)
  refine lv_iconst (v := 0) hx hb dL_tick_139 (by decide) ?_
  refine lv_istore (lv' := [(14, .int 0), (13, .int (cnF g (nI n) (nI K) ((bestK u g) + 1))), (12, .float ((goF u v f g 0) 7)), (11, .int (bestK u g)), (10, .int (oneF (g 12))), (9, .int (g 11)), (8, .int (g 7)), (7, .int (oneF (g 17))), (6, .int 0), (5, .int 0), (4, .int (g 16)), (3, .float (f 7)), (2, .int 1), (0, .ref o), (1, .int 0)]) hx hb dL_tick_140 hl (by decide) rfl (fun ls hl => ?_)
  refine lv_iload hx hb dL_tick_142 (lv_at hl 10 rfl) ?_
  refine lv_iload hx hb dL_tick_144 (lv_at hl 0 rfl) ?_
  refine lv_if_eq (tgt := 169) hx hb dL_tick_146 (by decide) (fun _ => ?_) (fun h9 => absurd (by decide) h9)
  refine lv_iconst (v := 0) hx hb dL_tick_169 (by decide) ?_
  refine lv_isub hx hb dL_tick_170 ?_
  refine W.eq (g2 := F0 m 171 ls [.int (preG u v g 0 16)]) (by rw [hp16, Int32.sub_zero]) ?_
  refine lv_istore (lv' := [(4, .int (preG u v g 0 16)), (14, .int 0), (13, .int (cnF g (nI n) (nI K) ((bestK u g) + 1))), (12, .float ((goF u v f g 0) 7)), (11, .int (bestK u g)), (10, .int (oneF (g 12))), (9, .int (g 11)), (8, .int (g 7)), (7, .int (oneF (g 17))), (6, .int 0), (5, .int 0), (3, .float (f 7)), (2, .int 1), (0, .ref o), (1, .int 0)]) hx hb dL_tick_171 hl (by decide) rfl (fun ls hl => ?_)
  refine lv_iload_n hx hb dL_tick_173 rfl (lv_at hl 12 rfl) ?_
  refine lv_istore (lv' := [(15, .int 1), (4, .int (preG u v g 0 16)), (14, .int 0), (13, .int (cnF g (nI n) (nI K) ((bestK u g) + 1))), (12, .float ((goF u v f g 0) 7)), (11, .int (bestK u g)), (10, .int (oneF (g 12))), (9, .int (g 11)), (8, .int (g 7)), (7, .int (oneF (g 17))), (6, .int 0), (5, .int 0), (3, .float (f 7)), (2, .int 1), (0, .ref o), (1, .int 0)]) hx hb dL_tick_174 hl (by decide) rfl (fun ls hl => ?_)
  refine lv_fload_n hx hb dL_tick_176 rfl (lv_at hl 12 rfl) ?_
  refine lv_fstore (lv' := [(16, .float (f 7)), (15, .int 1), (4, .int (preG u v g 0 16)), (14, .int 0), (13, .int (cnF g (nI n) (nI K) ((bestK u g) + 1))), (12, .float ((goF u v f g 0) 7)), (11, .int (bestK u g)), (10, .int (oneF (g 12))), (9, .int (g 11)), (8, .int (g 7)), (7, .int (oneF (g 17))), (6, .int 0), (5, .int 0), (3, .float (f 7)), (2, .int 1), (0, .ref o), (1, .int 0)]) hx hb dL_tick_177 hl (by decide) rfl (fun ls hl => ?_)
  refine lv_iload_n hx hb dL_tick_179 rfl (lv_at hl 14 rfl) ?_
  refine lv_iconst (v := 1) hx hb dL_tick_180 (by decide) ?_
  refine lv_icmp_ne (tgt := 228) hx hb dL_tick_181 (by decide) (fun h9 => absurd (by decide) h9) (fun _ => ?_)
  refine lv_fload_n hx hb dL_tick_184 rfl (lv_at hl 13 rfl) ?_
  refine lv_aload_n hx hb dL_tick_185 rfl (lv_at hl 15 rfl) ?_
  refine lv_iconst (v := 0) hx hb dL_tick_186 (by decide) ?_
  refine lr_f (rL (rest := [.float (f 7)]) ⟨hx, hb, hml, hown, hts⟩ (LB_speed l G cA A o (u, v, f, g, L) n K ch 0 ) (cwV 1 hts gL_tick_X8_speed rfl rfl rfl mdX8_speed ⟨Nat.le_of_ble_eq_true rfl, Nat.le_of_ble_eq_true rfl⟩) hA hL rfl hl rfl (Nat.le_of_ble_eq_true rfl) dL_tick_187 ⟨Nat.le_of_ble_eq_true rfl, Nat.le_of_ble_eq_true rfl⟩) hA hL (fun r_187 H locs hr_187 hA hL => ?_)
  replace hr_187 : r_187 = u 0 := hr_187
  subst hr_187
  refine lv_fadd hx hb dL_tick_190 (hGo.2.1) ?_
  refine lv_fstore (lv' := [(16, .float (FP.fadd (f 7) (u 0))), (15, .int 1), (4, .int (preG u v g 0 16)), (14, .int 0), (13, .int (cnF g (nI n) (nI K) ((bestK u g) + 1))), (12, .float ((goF u v f g 0) 7)), (11, .int (bestK u g)), (10, .int (oneF (g 12))), (9, .int (g 11)), (8, .int (g 7)), (7, .int (oneF (g 17))), (6, .int 0), (5, .int 0), (3, .float (f 7)), (2, .int 1), (0, .ref o), (1, .int 0)]) hx hb dL_tick_191 hl (by decide) rfl (fun ls hl => ?_)
  refine lv_fload hx hb dL_tick_193 (lv_at hl 0 rfl) ?_
  refine lv_ldcf hx hb hown (hts (.constantFloat RL 32 (1120403456)) (by decide +kernel)) dL_tick_195 ?_
  refine lv_fcmp hx hb dL_tick_197 ?_
  refine lv_if_lt (tgt := 205) hx hb dL_tick_198 (by decide) (fun c_198 => ?_) (fun c_198 => ?_)
  · skip
    refine lv_iconst (v := 1) hx hb dL_tick_205 (by decide) ?_
    refine lv_istore (lv' := [(15, .int 1), (16, .float (FP.fadd (f 7) (u 0))), (4, .int (preG u v g 0 16)), (14, .int 0), (13, .int (cnF g (nI n) (nI K) ((bestK u g) + 1))), (12, .float ((goF u v f g 0) 7)), (11, .int (bestK u g)), (10, .int (oneF (g 12))), (9, .int (g 11)), (8, .int (g 7)), (7, .int (oneF (g 17))), (6, .int 0), (5, .int 0), (3, .float (f 7)), (2, .int 1), (0, .ref o), (1, .int 0)]) hx hb dL_tick_206 hl (by decide) rfl (fun ls hl => ?_)
    refine lv_fload hx hb dL_tick_208 (lv_at hl 1 rfl) ?_
    refine lv_ldcf hx hb hown (hts (.constantFloat RL 32 (1120403456)) (by decide +kernel)) dL_tick_210 ?_
    refine lv_fcmp hx hb dL_tick_212 ?_
    refine lv_if_lt (tgt := 221) hx hb dL_tick_213 (by decide) (fun c_213 => ?_) (fun c_213 => absurd c_198 c_213)
    refine lv_fload hx hb dL_tick_221 (lv_at hl 1 rfl) ?_
    refine lv_fstore (lv' := [(16, .float (FP.fadd (f 7) (u 0))), (15, .int 1), (4, .int (preG u v g 0 16)), (14, .int 0), (13, .int (cnF g (nI n) (nI K) ((bestK u g) + 1))), (12, .float ((goF u v f g 0) 7)), (11, .int (bestK u g)), (10, .int (oneF (g 12))), (9, .int (g 11)), (8, .int (g 7)), (7, .int (oneF (g 17))), (6, .int 0), (5, .int 0), (3, .float (f 7)), (2, .int 1), (0, .ref o), (1, .int 0)]) hx hb dL_tick_223 hl (by decide) rfl (fun ls hl => ?_)
    refine lv_goto (tgt := 385) hx hb dL_tick_225 (by decide) ?_
    refine lv_iload_n hx hb dL_tick_385 rfl (lv_at hl 14 rfl) ?_
    refine lv_iconst (v := 3) hx hb dL_tick_386 (by decide) ?_
    refine lv_icmp_ne (tgt := 400) hx hb dL_tick_387 (by decide) (fun _ => ?_) (fun h9 => absurd h9 (by decide))
    refine lv_iconst (v := 0) hx hb dL_tick_400 (by decide) ?_
    refine lv_istore (lv' := [(17, .int 0), (16, .float (FP.fadd (f 7) (u 0))), (15, .int 1), (4, .int (preG u v g 0 16)), (14, .int 0), (13, .int (cnF g (nI n) (nI K) ((bestK u g) + 1))), (12, .float ((goF u v f g 0) 7)), (11, .int (bestK u g)), (10, .int (oneF (g 12))), (9, .int (g 11)), (8, .int (g 7)), (7, .int (oneF (g 17))), (6, .int 0), (5, .int 0), (3, .float (f 7)), (2, .int 1), (0, .ref o), (1, .int 0)]) hx hb dL_tick_401 hl (by decide) rfl (fun ls hl => ?_)
    refine lv_iload hx hb dL_tick_403 (lv_at hl 0 rfl) ?_
    refine lv_if_eq (tgt := 428) hx hb dL_tick_405 (by decide) (fun _ => ?_) (fun h9 => absurd (by decide) h9)
    refine lv_iconst (v := 0) hx hb dL_tick_428 (by decide) ?_
    refine lv_istore (lv' := [(18, .int 0), (17, .int 0), (16, .float (FP.fadd (f 7) (u 0))), (15, .int 1), (4, .int (preG u v g 0 16)), (14, .int 0), (13, .int (cnF g (nI n) (nI K) ((bestK u g) + 1))), (12, .float ((goF u v f g 0) 7)), (11, .int (bestK u g)), (10, .int (oneF (g 12))), (9, .int (g 11)), (8, .int (g 7)), (7, .int (oneF (g 17))), (6, .int 0), (5, .int 0), (3, .float (f 7)), (2, .int 1), (0, .ref o), (1, .int 0)]) hx hb dL_tick_429 hl (by decide) rfl (fun ls hl => ?_)
    refine lv_aload_n hx hb dL_tick_431 rfl (lv_at hl 17 rfl) ?_
    refine lv_iload_n hx hb dL_tick_432 rfl (lv_at hl 18 rfl) ?_
    refine lv_iconst (v := 1) hx hb dL_tick_433 (by decide) ?_
    refine lw_i (rL (rest := []) ⟨hx, hb, hml, hown, hts⟩ (LB_pass_ok l G cA A o (u, v, f, g, L) n K ch hn 0 1 (by decide) (by decide) (by decide) (by decide) hT hG1 hBo) (cwV 2 hts gL_tick_X8_pass rfl rfl rfl mdX8_pass ⟨Nat.le_of_ble_eq_true rfl, Nat.le_of_ble_eq_true rfl⟩) hA hL rfl hl rfl (Nat.le_of_ble_eq_true rfl) dL_tick_434 ⟨Nat.le_of_ble_eq_true rfl, Nat.le_of_ble_eq_true rfl⟩) hA (fun r_434 _ H locs hr_434 hA hL => ?_)
    replace hL : LB G cA A o (u, v, (goF u v f g 0), (goG u v f g 0), (goL u v g L 0)) (recN n) K ch H := hL
    replace hr_434 : r_434 = (goG u v f g 0) 13 := hr_434
    subst hr_434
    refine lv_iload hx hb dL_tick_437 (lv_at hl 3 rfl) ?_
    refine lv_icmp_ne (tgt := 489) hx hb dL_tick_439 (by decide) (fun c_439 => absurd (ht.1.trans (if_pos c_198)) c_439) (fun c_439 => ?_)
    refine lv_aload_n hx hb dL_tick_442 rfl (lv_at hl 17 rfl) ?_
    refine lr_f (rL (rest := []) ⟨hx, hb, hml, hown, hts⟩ (LB_place l G cA A o (u, v, (goF u v f g 0), (goG u v f g 0), (goL u v g L 0)) (recN n) K ch  ) (cwV 0 hts gL_tick_X8_place rfl rfl rfl mdX8_place ⟨Nat.le_of_ble_eq_true rfl, Nat.le_of_ble_eq_true rfl⟩) hA hL rfl hl rfl (Nat.le_of_ble_eq_true rfl) dL_tick_443 ⟨Nat.le_of_ble_eq_true rfl, Nat.le_of_ble_eq_true rfl⟩) hA hL (fun r_443 H locs hr_443 hA hL => ?_)
    replace hr_443 : r_443 = (goF u v f g 0) 7 := hr_443
    subst hr_443
    refine lv_fload hx hb dL_tick_446 (lv_at hl 2 rfl) ?_
    refine lv_fcmp hx hb dL_tick_448 ?_
    refine lv_if_ne (tgt := 489) hx hb dL_tick_449 (by decide) (fun c_449 => absurd (by rw [(ht.2.2.2.trans (if_pos c_198))]; exact cmp_self (of_vf hGo.2.1) _) c_449) (fun c_449 => ?_)
    refine lv_fload hx hb dL_tick_452 (lv_at hl 7 rfl) ?_
    refine lv_fload hx hb dL_tick_454 (lv_at hl 2 rfl) ?_
    refine lv_fcmp hx hb dL_tick_456 ?_
    refine lv_if_ne (tgt := 489) hx hb dL_tick_457 (by decide) (fun c_457 => absurd (by rw [(ht.2.2.2.trans (if_pos c_198))]; exact cmp_self (of_vf hGo.2.1) _) c_457) (fun c_457 => ?_)
    refine lv_aload_n hx hb dL_tick_460 rfl (lv_at hl 17 rfl) ?_
    refine lv_iconst (v := 1) hx hb dL_tick_461 (by decide) ?_
    refine lr_i (rL (rest := []) ⟨hx, hb, hml, hown, hts⟩ (LB_door l G cA A o (u, v, (goF u v f g 0), (goG u v f g 0), (goL u v g L 0)) (recN n) K ch 1 ) (cwV 1 hts gL_tick_X8_door rfl rfl rfl mdX8_door ⟨Nat.le_of_ble_eq_true rfl, Nat.le_of_ble_eq_true rfl⟩) hA hL rfl hl rfl (Nat.le_of_ble_eq_true rfl) dL_tick_462 ⟨Nat.le_of_ble_eq_true rfl, Nat.le_of_ble_eq_true rfl⟩) hA hL (fun r_462 H locs hr_462 hA hL => ?_)
    replace hr_462 : r_462 = (goG u v f g 0) 16 := hr_462
    subst hr_462
    refine lv_iload hx hb dL_tick_465 (lv_at hl 4 rfl) ?_
    refine lv_icmp_ne (tgt := 489) hx hb dL_tick_467 (by decide) (fun c_467 => absurd ht.2.1 c_467) (fun c_467 => ?_)
    refine lv_aload_n hx hb dL_tick_470 rfl (lv_at hl 17 rfl) ?_
    refine lv_iconst (v := 2) hx hb dL_tick_471 (by decide) ?_
    refine lr_i (rL (rest := []) ⟨hx, hb, hml, hown, hts⟩ (LB_door l G cA A o (u, v, (goF u v f g 0), (goG u v f g 0), (goL u v g L 0)) (recN n) K ch 2 ) (cwV 1 hts gL_tick_X8_door rfl rfl rfl mdX8_door ⟨Nat.le_of_ble_eq_true rfl, Nat.le_of_ble_eq_true rfl⟩) hA hL rfl hl rfl (Nat.le_of_ble_eq_true rfl) dL_tick_472 ⟨Nat.le_of_ble_eq_true rfl, Nat.le_of_ble_eq_true rfl⟩) hA hL (fun r_472 H locs hr_472 hA hL => ?_)
    replace hr_472 : r_472 = oneF ((goG u v f g 0) 17) := hr_472
    subst hr_472
    refine lv_iload hx hb dL_tick_475 (lv_at hl 0 rfl) ?_
    refine lv_if_eq (tgt := 484) hx hb dL_tick_477 (by decide) (fun _ => ?_) (fun h9 => absurd (by decide) h9)
    refine lv_iload hx hb dL_tick_484 (lv_at hl 12 rfl) ?_
    refine lv_icmp_eq (tgt := 491) hx hb dL_tick_486 (by decide) (fun c_486 => ?_) (fun c_486 => absurd (by rw [ht.2.2.1] <;> rfl) c_486)
    refine lv_iload hx hb dL_tick_491 (lv_at hl 5 rfl) ?_
    refine lv_if_eq (tgt := 554) hx hb dL_tick_493 (by decide) (fun _ => ?_) (fun h9 => absurd (by decide) h9)
    refine lv_iload_n hx hb dL_tick_554 rfl (lv_at hl 18 rfl) ?_
    refine lv_if_eq (tgt := 599) hx hb dL_tick_555 (by decide) (fun _ => ?_) (fun h9 => absurd (by decide) h9)
    refine lv_iconst (v := 1) hx hb dL_tick_599 (by decide) ?_
    refine lv_goto (tgt := 604) hx hb dL_tick_600 (by decide) ?_
    exact en_l (post := fun r (_ : Unit) => r = 1) (B := fun _ H => LB G cA A o (u, v, (goF u v f g 0), (goG u v f g 0), (goL u v g L 0)) (recN n) K ch H) () hx hb hr hlocks hA rfl hL dL_tick_604
  · skip
    refine lv_iconst (v := 2) hx hb dL_tick_201 (by decide) ?_
    refine lv_goto (tgt := 206) hx hb dL_tick_202 (by decide) ?_
    refine lv_istore (lv' := [(15, .int 2), (16, .float (FP.fadd (f 7) (u 0))), (4, .int (preG u v g 0 16)), (14, .int 0), (13, .int (cnF g (nI n) (nI K) ((bestK u g) + 1))), (12, .float ((goF u v f g 0) 7)), (11, .int (bestK u g)), (10, .int (oneF (g 12))), (9, .int (g 11)), (8, .int (g 7)), (7, .int (oneF (g 17))), (6, .int 0), (5, .int 0), (3, .float (f 7)), (2, .int 1), (0, .ref o), (1, .int 0)]) hx hb dL_tick_206 hl (by decide) rfl (fun ls hl => ?_)
    refine lv_fload hx hb dL_tick_208 (lv_at hl 1 rfl) ?_
    refine lv_ldcf hx hb hown (hts (.constantFloat RL 32 (1120403456)) (by decide +kernel)) dL_tick_210 ?_
    refine lv_fcmp hx hb dL_tick_212 ?_
    refine lv_if_lt (tgt := 221) hx hb dL_tick_213 (by decide) (fun c_213_1 => absurd c_213_1 c_198) (fun c_213_1 => ?_)
    refine lv_ldcf hx hb hown (hts (.constantFloat RL 32 (1120403456)) (by decide +kernel)) dL_tick_216 ?_
    refine lv_goto (tgt := 223) hx hb dL_tick_218 (by decide) ?_
    refine lv_fstore (lv' := [(16, .float 1120403456), (15, .int 2), (4, .int (preG u v g 0 16)), (14, .int 0), (13, .int (cnF g (nI n) (nI K) ((bestK u g) + 1))), (12, .float ((goF u v f g 0) 7)), (11, .int (bestK u g)), (10, .int (oneF (g 12))), (9, .int (g 11)), (8, .int (g 7)), (7, .int (oneF (g 17))), (6, .int 0), (5, .int 0), (3, .float (f 7)), (2, .int 1), (0, .ref o), (1, .int 0)]) hx hb dL_tick_223 hl (by decide) rfl (fun ls hl => ?_)
    refine lv_goto (tgt := 385) hx hb dL_tick_225 (by decide) ?_
    refine lv_iload_n hx hb dL_tick_385 rfl (lv_at hl 14 rfl) ?_
    refine lv_iconst (v := 3) hx hb dL_tick_386 (by decide) ?_
    refine lv_icmp_ne (tgt := 400) hx hb dL_tick_387 (by decide) (fun _ => ?_) (fun h9 => absurd h9 (by decide))
    refine lv_iconst (v := 0) hx hb dL_tick_400 (by decide) ?_
    refine lv_istore (lv' := [(17, .int 0), (16, .float 1120403456), (15, .int 2), (4, .int (preG u v g 0 16)), (14, .int 0), (13, .int (cnF g (nI n) (nI K) ((bestK u g) + 1))), (12, .float ((goF u v f g 0) 7)), (11, .int (bestK u g)), (10, .int (oneF (g 12))), (9, .int (g 11)), (8, .int (g 7)), (7, .int (oneF (g 17))), (6, .int 0), (5, .int 0), (3, .float (f 7)), (2, .int 1), (0, .ref o), (1, .int 0)]) hx hb dL_tick_401 hl (by decide) rfl (fun ls hl => ?_)
    refine lv_iload hx hb dL_tick_403 (lv_at hl 0 rfl) ?_
    refine lv_if_eq (tgt := 428) hx hb dL_tick_405 (by decide) (fun _ => ?_) (fun h9 => absurd (by decide) h9)
    refine lv_iconst (v := 0) hx hb dL_tick_428 (by decide) ?_
    refine lv_istore (lv' := [(18, .int 0), (17, .int 0), (16, .float 1120403456), (15, .int 2), (4, .int (preG u v g 0 16)), (14, .int 0), (13, .int (cnF g (nI n) (nI K) ((bestK u g) + 1))), (12, .float ((goF u v f g 0) 7)), (11, .int (bestK u g)), (10, .int (oneF (g 12))), (9, .int (g 11)), (8, .int (g 7)), (7, .int (oneF (g 17))), (6, .int 0), (5, .int 0), (3, .float (f 7)), (2, .int 1), (0, .ref o), (1, .int 0)]) hx hb dL_tick_429 hl (by decide) rfl (fun ls hl => ?_)
    refine lv_aload_n hx hb dL_tick_431 rfl (lv_at hl 17 rfl) ?_
    refine lv_iload_n hx hb dL_tick_432 rfl (lv_at hl 18 rfl) ?_
    refine lv_iconst (v := 1) hx hb dL_tick_433 (by decide) ?_
    refine lw_i (rL (rest := []) ⟨hx, hb, hml, hown, hts⟩ (LB_pass_ok l G cA A o (u, v, f, g, L) n K ch hn 0 1 (by decide) (by decide) (by decide) (by decide) hT hG1 hBo) (cwV 2 hts gL_tick_X8_pass rfl rfl rfl mdX8_pass ⟨Nat.le_of_ble_eq_true rfl, Nat.le_of_ble_eq_true rfl⟩) hA hL rfl hl rfl (Nat.le_of_ble_eq_true rfl) dL_tick_434 ⟨Nat.le_of_ble_eq_true rfl, Nat.le_of_ble_eq_true rfl⟩) hA (fun r_434_1 _ H locs hr_434_1 hA hL => ?_)
    replace hL : LB G cA A o (u, v, (goF u v f g 0), (goG u v f g 0), (goL u v g L 0)) (recN n) K ch H := hL
    replace hr_434_1 : r_434_1 = (goG u v f g 0) 13 := hr_434_1
    subst hr_434_1
    refine lv_iload hx hb dL_tick_437 (lv_at hl 3 rfl) ?_
    refine lv_icmp_ne (tgt := 489) hx hb dL_tick_439 (by decide) (fun c_439_1 => absurd (ht.1.trans (if_neg c_198)) c_439_1) (fun c_439_1 => ?_)
    refine lv_aload_n hx hb dL_tick_442 rfl (lv_at hl 17 rfl) ?_
    refine lr_f (rL (rest := []) ⟨hx, hb, hml, hown, hts⟩ (LB_place l G cA A o (u, v, (goF u v f g 0), (goG u v f g 0), (goL u v g L 0)) (recN n) K ch  ) (cwV 0 hts gL_tick_X8_place rfl rfl rfl mdX8_place ⟨Nat.le_of_ble_eq_true rfl, Nat.le_of_ble_eq_true rfl⟩) hA hL rfl hl rfl (Nat.le_of_ble_eq_true rfl) dL_tick_443 ⟨Nat.le_of_ble_eq_true rfl, Nat.le_of_ble_eq_true rfl⟩) hA hL (fun r_443_1 H locs hr_443_1 hA hL => ?_)
    replace hr_443_1 : r_443_1 = (goF u v f g 0) 7 := hr_443_1
    subst hr_443_1
    refine lv_fload hx hb dL_tick_446 (lv_at hl 2 rfl) ?_
    refine lv_fcmp hx hb dL_tick_448 ?_
    refine lv_if_ne (tgt := 489) hx hb dL_tick_449 (by decide) (fun c_449_1 => absurd (by rw [(ht.2.2.2.trans (if_neg c_198))]; exact cmp_self (of_vf n32_100) _) c_449_1) (fun c_449_1 => ?_)
    refine lv_fload hx hb dL_tick_452 (lv_at hl 7 rfl) ?_
    refine lv_fload hx hb dL_tick_454 (lv_at hl 2 rfl) ?_
    refine lv_fcmp hx hb dL_tick_456 ?_
    refine lv_if_ne (tgt := 489) hx hb dL_tick_457 (by decide) (fun c_457_1 => absurd (by rw [(ht.2.2.2.trans (if_neg c_198))]; exact cmp_self (of_vf n32_100) _) c_457_1) (fun c_457_1 => ?_)
    refine lv_aload_n hx hb dL_tick_460 rfl (lv_at hl 17 rfl) ?_
    refine lv_iconst (v := 1) hx hb dL_tick_461 (by decide) ?_
    refine lr_i (rL (rest := []) ⟨hx, hb, hml, hown, hts⟩ (LB_door l G cA A o (u, v, (goF u v f g 0), (goG u v f g 0), (goL u v g L 0)) (recN n) K ch 1 ) (cwV 1 hts gL_tick_X8_door rfl rfl rfl mdX8_door ⟨Nat.le_of_ble_eq_true rfl, Nat.le_of_ble_eq_true rfl⟩) hA hL rfl hl rfl (Nat.le_of_ble_eq_true rfl) dL_tick_462 ⟨Nat.le_of_ble_eq_true rfl, Nat.le_of_ble_eq_true rfl⟩) hA hL (fun r_462_1 H locs hr_462_1 hA hL => ?_)
    replace hr_462_1 : r_462_1 = (goG u v f g 0) 16 := hr_462_1
    subst hr_462_1
    refine lv_iload hx hb dL_tick_465 (lv_at hl 4 rfl) ?_
    refine lv_icmp_ne (tgt := 489) hx hb dL_tick_467 (by decide) (fun c_467_1 => absurd ht.2.1 c_467_1) (fun c_467_1 => ?_)
    refine lv_aload_n hx hb dL_tick_470 rfl (lv_at hl 17 rfl) ?_
    refine lv_iconst (v := 2) hx hb dL_tick_471 (by decide) ?_
    refine lr_i (rL (rest := []) ⟨hx, hb, hml, hown, hts⟩ (LB_door l G cA A o (u, v, (goF u v f g 0), (goG u v f g 0), (goL u v g L 0)) (recN n) K ch 2 ) (cwV 1 hts gL_tick_X8_door rfl rfl rfl mdX8_door ⟨Nat.le_of_ble_eq_true rfl, Nat.le_of_ble_eq_true rfl⟩) hA hL rfl hl rfl (Nat.le_of_ble_eq_true rfl) dL_tick_472 ⟨Nat.le_of_ble_eq_true rfl, Nat.le_of_ble_eq_true rfl⟩) hA hL (fun r_472_1 H locs hr_472_1 hA hL => ?_)
    replace hr_472_1 : r_472_1 = oneF ((goG u v f g 0) 17) := hr_472_1
    subst hr_472_1
    refine lv_iload hx hb dL_tick_475 (lv_at hl 0 rfl) ?_
    refine lv_if_eq (tgt := 484) hx hb dL_tick_477 (by decide) (fun _ => ?_) (fun h9 => absurd (by decide) h9)
    refine lv_iload hx hb dL_tick_484 (lv_at hl 12 rfl) ?_
    refine lv_icmp_eq (tgt := 491) hx hb dL_tick_486 (by decide) (fun c_486_1 => ?_) (fun c_486_1 => absurd (by rw [ht.2.2.1] <;> rfl) c_486_1)
    refine lv_iload hx hb dL_tick_491 (lv_at hl 5 rfl) ?_
    refine lv_if_eq (tgt := 554) hx hb dL_tick_493 (by decide) (fun _ => ?_) (fun h9 => absurd (by decide) h9)
    refine lv_iload_n hx hb dL_tick_554 rfl (lv_at hl 18 rfl) ?_
    refine lv_if_eq (tgt := 599) hx hb dL_tick_555 (by decide) (fun _ => ?_) (fun h9 => absurd (by decide) h9)
    refine lv_iconst (v := 1) hx hb dL_tick_599 (by decide) ?_
    refine lv_goto (tgt := 604) hx hb dL_tick_600 (by decide) ?_
    exact en_l (post := fun r (_ : Unit) => r = 1) (B := fun _ H => LB G cA A o (u, v, (goF u v f g 0), (goG u v f g 0), (goL u v g L 0)) (recN n) K ch H) () hx hb hr hlocks hA rfl hL dL_tick_604
set_option maxHeartbeats 8000000 in
set_option maxRecDepth 100000 in
/-- tick(o, beams), in the state 2, case t0 -/
theorem cL_tick_2_t0 (l : Launch) (G : va_G) (cA : Nat → ClassId) (A : Nat → Prop) (o : Nat) (u : FF) (v : GG) (f : FF) (g L : GG) (n K : Nat) (ch : GG) (hs : g 13 = 2) (hn : n ≤ 4) (hGo : GoOk u f g) (hPr : PrOk u g) (hP2 : PrOk u (goG u v f g 0)) (hT : ¬ 99999 < g 27 + nI 1) (hBo : Bo g) (hf : vf_n32 (f 7)) (hg : ¬ g 5 = 0) (h7 : ¬ g 7 < 1) (hc : g 11 + 1 < v 4) : Met l yL_tick wsL_tick ({ frames := 7, cells := 0, slots := 0, locals := 160 } : Room) (va_Pc [.ref o, .int 0] (LbP G cA A o (u, v, f, g, L) n K ch)) (va_Qi (fun r (_ : Unit) => r = 1) (fun _ t => LB G cA A o (u, v, (goF u v f g 0), (goG u v f g 0), (goL u v g L 0)) (recN n) K ch t.heap) A) 0 0 A := by
  refine ofW2 (cc := cL_tick) (maxL := 19) (ret := (some .boolean)) (own := RL) (by decide) rfl rfl (Nat.le_of_ble_eq_true rfl) rfl ?_
  intro p e s m below meth c ls hx hb hml hr hts hown hlocks hv hl
  obtain ⟨hE, hN, hL⟩ := hv
  have hA : At G cA A s s.heap [] := ⟨hE, hN, va_S.rf⟩
  obtain ⟨H, hH0⟩ : ∃ H, H = s.heap := ⟨_, rfl⟩
  rw [← hH0] at hL ⊢
  replace hA : At G cA A s H [] := by rw [hH0]; exact hA
  generalize ([] : List Loc) = locs at hA ⊢
  clear hH0
  replace hl : lv_has ls 19 [(0, .ref o), (1, .int 0)] := hl
  have hG1 : ∀ k, k < 1 → GoOk u (itS u v 0 (f, g, L) k).1 (itS u v 0 (f, g, L) k).2.1 := fun k hk => (show k = 0 by omega) ▸ hGo
  have ht := t_2a hs (u := u) (v := v) (f := f)
  have hp16 : preG u v g 0 16 = g 16 := pre_16c (clearR_no hc)
  refine lv_aload_n hx hb dL_tick_0 rfl (lv_at hl 0 rfl) ?_
  refine lv_iconst (v := 0) hx hb dL_tick_1 (by decide) ?_
  refine lr_i (rL (rest := []) ⟨hx, hb, hml, hown, hts⟩ (LB_door l G cA A o (u, v, f, g, L) n K ch 0 ) (cwV 1 hts gL_tick_X8_door rfl rfl rfl mdX8_door ⟨Nat.le_of_ble_eq_true rfl, Nat.le_of_ble_eq_true rfl⟩) hA hL rfl hl rfl (Nat.le_of_ble_eq_true rfl) dL_tick_2 ⟨Nat.le_of_ble_eq_true rfl, Nat.le_of_ble_eq_true rfl⟩) hA hL (fun r_2 H locs hr_2 hA hL => ?_)
  replace hr_2 : r_2 = 2 := hr_2.trans hs
  subst hr_2
  refine lv_istore_n (lv' := [(2, .int 2), (0, .ref o), (1, .int 0)]) hx hb dL_tick_5 rfl hl (by decide) rfl (fun ls hl => ?_)
  refine lv_aload_n hx hb dL_tick_6 rfl (lv_at hl 1 rfl) ?_
  refine lr_f (rL (rest := []) ⟨hx, hb, hml, hown, hts⟩ (LB_place l G cA A o (u, v, f, g, L) n K ch  ) (cwV 0 hts gL_tick_X8_place rfl rfl rfl mdX8_place ⟨Nat.le_of_ble_eq_true rfl, Nat.le_of_ble_eq_true rfl⟩) hA hL rfl hl rfl (Nat.le_of_ble_eq_true rfl) dL_tick_7 ⟨Nat.le_of_ble_eq_true rfl, Nat.le_of_ble_eq_true rfl⟩) hA hL (fun r_7 H locs hr_7 hA hL => ?_)
  replace hr_7 : r_7 = f 7 := hr_7
  subst hr_7
  refine lv_fstore_n (lv' := [(3, .float (f 7)), (2, .int 2), (0, .ref o), (1, .int 0)]) hx hb dL_tick_10 rfl hl (by decide) rfl (fun ls hl => ?_)
  refine lv_aload_n hx hb dL_tick_11 rfl (lv_at hl 2 rfl) ?_
  refine lv_iconst (v := 1) hx hb dL_tick_12 (by decide) ?_
  refine lr_i (rL (rest := []) ⟨hx, hb, hml, hown, hts⟩ (LB_door l G cA A o (u, v, f, g, L) n K ch 1 ) (cwV 1 hts gL_tick_X8_door rfl rfl rfl mdX8_door ⟨Nat.le_of_ble_eq_true rfl, Nat.le_of_ble_eq_true rfl⟩) hA hL rfl hl rfl (Nat.le_of_ble_eq_true rfl) dL_tick_13 ⟨Nat.le_of_ble_eq_true rfl, Nat.le_of_ble_eq_true rfl⟩) hA hL (fun r_13 H locs hr_13 hA hL => ?_)
  replace hr_13 : r_13 = g 16 := hr_13
  subst hr_13
  refine lv_istore (lv' := [(4, .int (g 16)), (3, .float (f 7)), (2, .int 2), (0, .ref o), (1, .int 0)]) hx hb dL_tick_16 hl (by decide) rfl (fun ls hl => ?_)
  refine lv_aload_n hx hb dL_tick_18 rfl (lv_at hl 3 rfl) ?_
  refine lv_iconst (v := 3) hx hb dL_tick_19 (by decide) ?_
  refine lr_i (rL (rest := []) ⟨hx, hb, hml, hown, hts⟩ (LB_door l G cA A o (u, v, f, g, L) n K ch 3 ) (cwV 1 hts gL_tick_X8_door rfl rfl rfl mdX8_door ⟨Nat.le_of_ble_eq_true rfl, Nat.le_of_ble_eq_true rfl⟩) hA hL rfl hl rfl (Nat.le_of_ble_eq_true rfl) dL_tick_20 ⟨Nat.le_of_ble_eq_true rfl, Nat.le_of_ble_eq_true rfl⟩) hA hL (fun r_20 H locs hr_20 hA hL => ?_)
  rw [show doF f g 3 = g 14 from (by show (if g 13 = 2 then g 14 else 0) = g 14; rw [if_pos hs])] at hr_20
  subst hr_20
  refine lv_istore (lv' := [(5, .int (g 14)), (4, .int (g 16)), (3, .float (f 7)), (2, .int 2), (0, .ref o), (1, .int 0)]) hx hb dL_tick_23 hl (by decide) rfl (fun ls hl => ?_)
  refine lv_aload_n hx hb dL_tick_25 rfl (lv_at hl 4 rfl) ?_
  refine lv_iconst (v := 4) hx hb dL_tick_26 (by decide) ?_
  refine lr_i (rL (rest := []) ⟨hx, hb, hml, hown, hts⟩ (LB_door l G cA A o (u, v, f, g, L) n K ch 4 ) (cwV 1 hts gL_tick_X8_door rfl rfl rfl mdX8_door ⟨Nat.le_of_ble_eq_true rfl, Nat.le_of_ble_eq_true rfl⟩) hA hL rfl hl rfl (Nat.le_of_ble_eq_true rfl) dL_tick_27 ⟨Nat.le_of_ble_eq_true rfl, Nat.le_of_ble_eq_true rfl⟩) hA hL (fun r_27 H locs hr_27 hA hL => ?_)
  rw [show doF f g 4 = 0 from (by show (if g 13 = 3 then g 15 else 0) = 0; rw [if_neg (by rw [hs]; decide)])] at hr_27
  subst hr_27
  refine lv_istore (lv' := [(6, .int 0), (5, .int (g 14)), (4, .int (g 16)), (3, .float (f 7)), (2, .int 2), (0, .ref o), (1, .int 0)]) hx hb dL_tick_30 hl (by decide) rfl (fun ls hl => ?_)
  refine lv_aload_n hx hb dL_tick_32 rfl (lv_at hl 5 rfl) ?_
  refine lv_iconst (v := 2) hx hb dL_tick_33 (by decide) ?_
  refine lr_i (rL (rest := []) ⟨hx, hb, hml, hown, hts⟩ (LB_door l G cA A o (u, v, f, g, L) n K ch 2 ) (cwV 1 hts gL_tick_X8_door rfl rfl rfl mdX8_door ⟨Nat.le_of_ble_eq_true rfl, Nat.le_of_ble_eq_true rfl⟩) hA hL rfl hl rfl (Nat.le_of_ble_eq_true rfl) dL_tick_34 ⟨Nat.le_of_ble_eq_true rfl, Nat.le_of_ble_eq_true rfl⟩) hA hL (fun r_34 H locs hr_34 hA hL => ?_)
  replace hr_34 : r_34 = oneF (g 17) := hr_34
  subst hr_34
  refine lv_istore (lv' := [(7, .int (oneF (g 17))), (6, .int 0), (5, .int (g 14)), (4, .int (g 16)), (3, .float (f 7)), (2, .int 2), (0, .ref o), (1, .int 0)]) hx hb dL_tick_37 hl (by decide) rfl (fun ls hl => ?_)
  refine lv_aload_n hx hb dL_tick_39 rfl (lv_at hl 6 rfl) ?_
  refine lv_iconst (v := 0) hx hb dL_tick_40 (by decide) ?_
  refine lr_i (rL (rest := []) ⟨hx, hb, hml, hown, hts⟩ (LB_thing l G cA A o (u, v, f, g, L) n K ch 0 hPr) (cwV 1 hts gL_tick_X8_thing rfl rfl rfl mdX8_thing ⟨Nat.le_of_ble_eq_true rfl, Nat.le_of_ble_eq_true rfl⟩) hA hL rfl hl rfl (Nat.le_of_ble_eq_true rfl) dL_tick_41 ⟨Nat.le_of_ble_eq_true rfl, Nat.le_of_ble_eq_true rfl⟩) hA hL (fun r_41 H locs hr_41 hA hL => ?_)
  replace hr_41 : r_41 = g 7 := hr_41.trans (th_0 hg)
  subst hr_41
  refine lv_istore (lv' := [(8, .int (g 7)), (7, .int (oneF (g 17))), (6, .int 0), (5, .int (g 14)), (4, .int (g 16)), (3, .float (f 7)), (2, .int 2), (0, .ref o), (1, .int 0)]) hx hb dL_tick_44 hl (by decide) rfl (fun ls hl => ?_)
  refine lv_iload hx hb dL_tick_46 (lv_at hl 0 rfl) ?_
  refine lv_if_ge (tgt := 55) hx hb dL_tick_48 (by decide) (fun c_48 => ?_) (fun c_48 => absurd (show g 7 < 1 by have := Int32.not_le.mp c_48; exact Int32.lt_trans this (by decide)) h7)
  refine lv_aload_n hx hb dL_tick_55 rfl (lv_at hl 7 rfl) ?_
  refine lv_iconst (v := 5) hx hb dL_tick_56 (by decide) ?_
  refine lr_i (rL (rest := []) ⟨hx, hb, hml, hown, hts⟩ (LB_thing l G cA A o (u, v, f, g, L) n K ch 5 hPr) (cwV 1 hts gL_tick_X8_thing rfl rfl rfl mdX8_thing ⟨Nat.le_of_ble_eq_true rfl, Nat.le_of_ble_eq_true rfl⟩) hA hL rfl hl rfl (Nat.le_of_ble_eq_true rfl) dL_tick_57 ⟨Nat.le_of_ble_eq_true rfl, Nat.le_of_ble_eq_true rfl⟩) hA hL (fun r_57 H locs hr_57 hA hL => ?_)
  replace hr_57 : r_57 = g 11 := hr_57.trans (th_5 hg)
  subst hr_57
  refine lv_istore (lv' := [(9, .int (g 11)), (8, .int (g 7)), (7, .int (oneF (g 17))), (6, .int 0), (5, .int (g 14)), (4, .int (g 16)), (3, .float (f 7)), (2, .int 2), (0, .ref o), (1, .int 0)]) hx hb dL_tick_60 hl (by decide) rfl (fun ls hl => ?_)
  refine lv_iload hx hb dL_tick_62 (lv_at hl 1 rfl) ?_
  refine lv_if_ge (tgt := 71) hx hb dL_tick_64 (by decide) (fun c_64 => ?_) (fun c_64 => absurd c_48 c_64)
  refine lv_aload_n hx hb dL_tick_71 rfl (lv_at hl 8 rfl) ?_
  refine lv_bipush (v := 6) hx hb dL_tick_72 (by decide) ?_
  refine lr_i (rL (rest := []) ⟨hx, hb, hml, hown, hts⟩ (LB_thing l G cA A o (u, v, f, g, L) n K ch 6 hPr) (cwV 1 hts gL_tick_X8_thing rfl rfl rfl mdX8_thing ⟨Nat.le_of_ble_eq_true rfl, Nat.le_of_ble_eq_true rfl⟩) hA hL rfl hl rfl (Nat.le_of_ble_eq_true rfl) dL_tick_74 ⟨Nat.le_of_ble_eq_true rfl, Nat.le_of_ble_eq_true rfl⟩) hA hL (fun r_74 H locs hr_74 hA hL => ?_)
  replace hr_74 : r_74 = oneF (g 12) := hr_74.trans (th_6 hg)
  subst hr_74
  refine lv_istore (lv' := [(10, .int (oneF (g 12))), (9, .int (g 11)), (8, .int (g 7)), (7, .int (oneF (g 17))), (6, .int 0), (5, .int (g 14)), (4, .int (g 16)), (3, .float (f 7)), (2, .int 2), (0, .ref o), (1, .int 0)]) hx hb dL_tick_77 hl (by decide) rfl (fun ls hl => ?_)
  refine lv_iload hx hb dL_tick_79 (lv_at hl 2 rfl) ?_
  refine lv_if_ge (tgt := 88) hx hb dL_tick_81 (by decide) (fun c_81 => ?_) (fun c_81 => absurd c_48 c_81)
  refine lv_aload_n hx hb dL_tick_88 rfl (lv_at hl 9 rfl) ?_
  refine lv_bipush (v := 7) hx hb dL_tick_89 (by decide) ?_
  refine lr_i (rL (rest := []) ⟨hx, hb, hml, hown, hts⟩ (LB_thing l G cA A o (u, v, f, g, L) n K ch 7 hPr) (cwV 1 hts gL_tick_X8_thing rfl rfl rfl mdX8_thing ⟨Nat.le_of_ble_eq_true rfl, Nat.le_of_ble_eq_true rfl⟩) hA hL rfl hl rfl (Nat.le_of_ble_eq_true rfl) dL_tick_91 ⟨Nat.le_of_ble_eq_true rfl, Nat.le_of_ble_eq_true rfl⟩) hA hL (fun r_91 H locs hr_91 hA hL => ?_)
  replace hr_91 : r_91 = bestK u g := hr_91.trans (th_7 hg)
  subst hr_91
  refine lv_istore (lv' := [(11, .int (bestK u g)), (10, .int (oneF (g 12))), (9, .int (g 11)), (8, .int (g 7)), (7, .int (oneF (g 17))), (6, .int 0), (5, .int (g 14)), (4, .int (g 16)), (3, .float (f 7)), (2, .int 2), (0, .ref o), (1, .int 0)]) hx hb dL_tick_94 hl (by decide) rfl (fun ls hl => ?_)
  refine lv_aload_n hx hb dL_tick_96 rfl (lv_at hl 10 rfl) ?_
  refine lv_iload_n hx hb dL_tick_97 rfl (lv_at hl 11 rfl) ?_
  refine lv_iconst (v := 1) hx hb dL_tick_98 (by decide) ?_
  refine lw_f (rL (rest := []) ⟨hx, hb, hml, hown, hts⟩ (LB_placeIn_ok l G cA A o (u, v, f, g, L) n K ch 0 1 (by decide) (by decide) (by decide) hG1) (cwV 2 hts gL_tick_X8_placeIn rfl rfl rfl mdX8_placeIn ⟨Nat.le_of_ble_eq_true rfl, Nat.le_of_ble_eq_true rfl⟩) hA hL rfl hl rfl (Nat.le_of_ble_eq_true rfl) dL_tick_99 ⟨Nat.le_of_ble_eq_true rfl, Nat.le_of_ble_eq_true rfl⟩) hA (fun r_99 _ H locs hr_99 hA hL => ?_)
  replace hL : LB G cA A o (u, v, f, g, L) n K ch H := hL
  replace hr_99 : r_99 = (goF u v f g 0) 7 := hr_99
  subst hr_99
  refine lv_fstore (lv' := [(12, .float ((goF u v f g 0) 7)), (11, .int (bestK u g)), (10, .int (oneF (g 12))), (9, .int (g 11)), (8, .int (g 7)), (7, .int (oneF (g 17))), (6, .int 0), (5, .int (g 14)), (4, .int (g 16)), (3, .float (f 7)), (2, .int 2), (0, .ref o), (1, .int 0)]) hx hb dL_tick_102 hl (by decide) rfl (fun ls hl => ?_)
  refine lv_aload_n hx hb dL_tick_104 rfl (lv_at hl 11 rfl) ?_
  refine lv_iload hx hb dL_tick_105 (lv_at hl 1 rfl) ?_
  refine lv_iconst (v := 1) hx hb dL_tick_107 (by decide) ?_
  refine lv_iadd hx hb dL_tick_108 ?_
  refine lr_i (rL (rest := []) ⟨hx, hb, hml, hown, hts⟩ (LB_count l G cA A o (u, v, f, g, L) n K ch ((bestK u g) + 1)) (cwV 1 hts gL_tick_X8_count rfl rfl rfl mdX8_count ⟨Nat.le_of_ble_eq_true rfl, Nat.le_of_ble_eq_true rfl⟩) hA hL rfl hl rfl (Nat.le_of_ble_eq_true rfl) dL_tick_109 ⟨Nat.le_of_ble_eq_true rfl, Nat.le_of_ble_eq_true rfl⟩) hA hL (fun r_109 H locs hr_109 hA hL => ?_)
  replace hr_109 : r_109 = cnF g (nI n) (nI K) ((bestK u g) + 1) := hr_109
  subst hr_109
  refine lv_istore (lv' := [(13, .int (cnF g (nI n) (nI K) ((bestK u g) + 1))), (12, .float ((goF u v f g 0) 7)), (11, .int (bestK u g)), (10, .int (oneF (g 12))), (9, .int (g 11)), (8, .int (g 7)), (7, .int (oneF (g 17))), (6, .int 0), (5, .int (g 14)), (4, .int (g 16)), (3, .float (f 7)), (2, .int 2), (0, .ref o), (1, .int 0)]) hx hb dL_tick_112 hl (by decide) rfl (fun ls hl => ?_)
  refine lv_iload hx hb dL_tick_114 (lv_at hl 5 rfl) ?_
  refine lv_if_le (tgt := 139) hx hb dL_tick_116 (by decide) (fun c_116 => absurd (Int32.lt_of_lt_of_le (by decide) (Int32.not_lt.mp h7)) (Int32.not_lt.mpr c_116)) (fun c_116 => ?_)
  refine lv_iload_n hx hb dL_tick_119 rfl (lv_at hl 13 rfl) ?_
  refine lv_if_ne (tgt := 139) hx hb dL_tick_120 (by decide) (fun h9 => absurd (by decide) h9) (fun _ => ?_)
  refine lv_iload hx hb dL_tick_123 (lv_at hl 4 rfl) ?_
  refine lv_iconst (v := 1) hx hb dL_tick_125 (by decide) ?_
  refine lv_iadd hx hb dL_tick_126 ?_
  refine lv_aload_n hx hb dL_tick_127 rfl (lv_at hl 12 rfl) ?_
  refine lv_iconst (v := 4) hx hb dL_tick_128 (by decide) ?_
  refine lr_i (rL (rest := [.int ((g 11) + 1)]) ⟨hx, hb, hml, hown, hts⟩ (LB_number l G cA A o (u, v, f, g, L) n K ch 4 ) (cwV 1 hts gL_tick_X8_number rfl rfl rfl mdX8_number ⟨Nat.le_of_ble_eq_true rfl, Nat.le_of_ble_eq_true rfl⟩) hA hL rfl hl rfl (Nat.le_of_ble_eq_true rfl) dL_tick_129 ⟨Nat.le_of_ble_eq_true rfl, Nat.le_of_ble_eq_true rfl⟩) hA hL (fun r_129 H locs hr_129 hA hL => ?_)
  replace hr_129 : r_129 = v 4 := hr_129
  subst hr_129
  refine lv_icmp_lt (tgt := 139) hx hb dL_tick_132 (by decide) (fun c_132 => ?_) (fun c_132 => absurd hc c_132)
  refine lv_iconst (v := 0) hx hb dL_tick_139 (by decide) ?_
  refine lv_istore (lv' := [(14, .int 0), (13, .int (cnF g (nI n) (nI K) ((bestK u g) + 1))), (12, .float ((goF u v f g 0) 7)), (11, .int (bestK u g)), (10, .int (oneF (g 12))), (9, .int (g 11)), (8, .int (g 7)), (7, .int (oneF (g 17))), (6, .int 0), (5, .int (g 14)), (4, .int (g 16)), (3, .float (f 7)), (2, .int 2), (0, .ref o), (1, .int 0)]) hx hb dL_tick_140 hl (by decide) rfl (fun ls hl => ?_)
  refine lv_iload hx hb dL_tick_142 (lv_at hl 10 rfl) ?_
  refine lv_iload hx hb dL_tick_144 (lv_at hl 0 rfl) ?_
  refine lv_if_eq (tgt := 169) hx hb dL_tick_146 (by decide) (fun _ => ?_) (fun h9 => absurd (by decide) h9)
  refine lv_iconst (v := 0) hx hb dL_tick_169 (by decide) ?_
  refine lv_isub hx hb dL_tick_170 ?_
  refine W.eq (g2 := F0 m 171 ls [.int (preG u v g 0 16)]) (by rw [hp16, Int32.sub_zero]) ?_
  refine lv_istore (lv' := [(4, .int (preG u v g 0 16)), (14, .int 0), (13, .int (cnF g (nI n) (nI K) ((bestK u g) + 1))), (12, .float ((goF u v f g 0) 7)), (11, .int (bestK u g)), (10, .int (oneF (g 12))), (9, .int (g 11)), (8, .int (g 7)), (7, .int (oneF (g 17))), (6, .int 0), (5, .int (g 14)), (3, .float (f 7)), (2, .int 2), (0, .ref o), (1, .int 0)]) hx hb dL_tick_171 hl (by decide) rfl (fun ls hl => ?_)
  refine lv_iload_n hx hb dL_tick_173 rfl (lv_at hl 12 rfl) ?_
  refine lv_istore (lv' := [(15, .int 2), (4, .int (preG u v g 0 16)), (14, .int 0), (13, .int (cnF g (nI n) (nI K) ((bestK u g) + 1))), (12, .float ((goF u v f g 0) 7)), (11, .int (bestK u g)), (10, .int (oneF (g 12))), (9, .int (g 11)), (8, .int (g 7)), (7, .int (oneF (g 17))), (6, .int 0), (5, .int (g 14)), (3, .float (f 7)), (2, .int 2), (0, .ref o), (1, .int 0)]) hx hb dL_tick_174 hl (by decide) rfl (fun ls hl => ?_)
  refine lv_fload_n hx hb dL_tick_176 rfl (lv_at hl 12 rfl) ?_
  refine lv_fstore (lv' := [(16, .float (f 7)), (15, .int 2), (4, .int (preG u v g 0 16)), (14, .int 0), (13, .int (cnF g (nI n) (nI K) ((bestK u g) + 1))), (12, .float ((goF u v f g 0) 7)), (11, .int (bestK u g)), (10, .int (oneF (g 12))), (9, .int (g 11)), (8, .int (g 7)), (7, .int (oneF (g 17))), (6, .int 0), (5, .int (g 14)), (3, .float (f 7)), (2, .int 2), (0, .ref o), (1, .int 0)]) hx hb dL_tick_177 hl (by decide) rfl (fun ls hl => ?_)
  refine lv_iload_n hx hb dL_tick_179 rfl (lv_at hl 14 rfl) ?_
  refine lv_iconst (v := 1) hx hb dL_tick_180 (by decide) ?_
  refine lv_icmp_ne (tgt := 228) hx hb dL_tick_181 (by decide) (fun _ => ?_) (fun h9 => absurd h9 (by decide))
  refine lv_iload_n hx hb dL_tick_228 rfl (lv_at hl 14 rfl) ?_
  refine lv_iconst (v := 2) hx hb dL_tick_229 (by decide) ?_
  refine lv_icmp_ne (tgt := 264) hx hb dL_tick_230 (by decide) (fun h9 => absurd (by decide) h9) (fun _ => ?_)
  refine lv_iload_n hx hb dL_tick_233 rfl (lv_at hl 16 rfl) ?_
  refine lv_if_ne (tgt := 258) hx hb dL_tick_234 (by decide) (fun h9 => absurd (by decide) h9) (fun _ => ?_)
  refine lv_iload hx hb dL_tick_237 (lv_at hl 12 rfl) ?_
  refine lv_iconst (v := 1) hx hb dL_tick_239 (by decide) ?_
  refine lv_iadd hx hb dL_tick_240 ?_
  refine lv_aload_n hx hb dL_tick_241 rfl (lv_at hl 15 rfl) ?_
  refine lv_iconst (v := 0) hx hb dL_tick_242 (by decide) ?_
  refine lr_i (rL (rest := [.int ((g 14) + 1)]) ⟨hx, hb, hml, hown, hts⟩ (LB_number l G cA A o (u, v, f, g, L) n K ch 0 ) (cwV 1 hts gL_tick_X8_number rfl rfl rfl mdX8_number ⟨Nat.le_of_ble_eq_true rfl, Nat.le_of_ble_eq_true rfl⟩) hA hL rfl hl rfl (Nat.le_of_ble_eq_true rfl) dL_tick_243 ⟨Nat.le_of_ble_eq_true rfl, Nat.le_of_ble_eq_true rfl⟩) hA hL (fun r_243 H locs hr_243 hA hL => ?_)
  replace hr_243 : r_243 = v 0 := hr_243
  subst hr_243
  refine lv_icmp_lt (tgt := 258) hx hb dL_tick_246 (by decide) (fun c_246 => ?_) (fun c_246 => ?_)
  · skip
    refine lv_iconst (v := 2) hx hb dL_tick_258 (by decide) ?_
    refine lv_istore (lv' := [(15, .int 2), (16, .float (f 7)), (4, .int (preG u v g 0 16)), (14, .int 0), (13, .int (cnF g (nI n) (nI K) ((bestK u g) + 1))), (12, .float ((goF u v f g 0) 7)), (11, .int (bestK u g)), (10, .int (oneF (g 12))), (9, .int (g 11)), (8, .int (g 7)), (7, .int (oneF (g 17))), (6, .int 0), (5, .int (g 14)), (3, .float (f 7)), (2, .int 2), (0, .ref o), (1, .int 0)]) hx hb dL_tick_259 hl (by decide) rfl (fun ls hl => ?_)
    refine lv_goto (tgt := 385) hx hb dL_tick_261 (by decide) ?_
    refine lv_iload_n hx hb dL_tick_385 rfl (lv_at hl 14 rfl) ?_
    refine lv_iconst (v := 3) hx hb dL_tick_386 (by decide) ?_
    refine lv_icmp_ne (tgt := 400) hx hb dL_tick_387 (by decide) (fun _ => ?_) (fun h9 => absurd h9 (by decide))
    refine lv_iconst (v := 0) hx hb dL_tick_400 (by decide) ?_
    refine lv_istore (lv' := [(17, .int 0), (15, .int 2), (16, .float (f 7)), (4, .int (preG u v g 0 16)), (14, .int 0), (13, .int (cnF g (nI n) (nI K) ((bestK u g) + 1))), (12, .float ((goF u v f g 0) 7)), (11, .int (bestK u g)), (10, .int (oneF (g 12))), (9, .int (g 11)), (8, .int (g 7)), (7, .int (oneF (g 17))), (6, .int 0), (5, .int (g 14)), (3, .float (f 7)), (2, .int 2), (0, .ref o), (1, .int 0)]) hx hb dL_tick_401 hl (by decide) rfl (fun ls hl => ?_)
    refine lv_iload hx hb dL_tick_403 (lv_at hl 0 rfl) ?_
    refine lv_if_eq (tgt := 428) hx hb dL_tick_405 (by decide) (fun _ => ?_) (fun h9 => absurd (by decide) h9)
    refine lv_iconst (v := 0) hx hb dL_tick_428 (by decide) ?_
    refine lv_istore (lv' := [(18, .int 0), (17, .int 0), (15, .int 2), (16, .float (f 7)), (4, .int (preG u v g 0 16)), (14, .int 0), (13, .int (cnF g (nI n) (nI K) ((bestK u g) + 1))), (12, .float ((goF u v f g 0) 7)), (11, .int (bestK u g)), (10, .int (oneF (g 12))), (9, .int (g 11)), (8, .int (g 7)), (7, .int (oneF (g 17))), (6, .int 0), (5, .int (g 14)), (3, .float (f 7)), (2, .int 2), (0, .ref o), (1, .int 0)]) hx hb dL_tick_429 hl (by decide) rfl (fun ls hl => ?_)
    refine lv_aload_n hx hb dL_tick_431 rfl (lv_at hl 17 rfl) ?_
    refine lv_iload_n hx hb dL_tick_432 rfl (lv_at hl 18 rfl) ?_
    refine lv_iconst (v := 1) hx hb dL_tick_433 (by decide) ?_
    refine lw_i (rL (rest := []) ⟨hx, hb, hml, hown, hts⟩ (LB_pass_ok l G cA A o (u, v, f, g, L) n K ch hn 0 1 (by decide) (by decide) (by decide) (by decide) hT hG1 hBo) (cwV 2 hts gL_tick_X8_pass rfl rfl rfl mdX8_pass ⟨Nat.le_of_ble_eq_true rfl, Nat.le_of_ble_eq_true rfl⟩) hA hL rfl hl rfl (Nat.le_of_ble_eq_true rfl) dL_tick_434 ⟨Nat.le_of_ble_eq_true rfl, Nat.le_of_ble_eq_true rfl⟩) hA (fun r_434 _ H locs hr_434 hA hL => ?_)
    replace hL : LB G cA A o (u, v, (goF u v f g 0), (goG u v f g 0), (goL u v g L 0)) (recN n) K ch H := hL
    replace hr_434 : r_434 = (goG u v f g 0) 13 := hr_434
    subst hr_434
    refine lv_iload hx hb dL_tick_437 (lv_at hl 2 rfl) ?_
    refine lv_icmp_ne (tgt := 489) hx hb dL_tick_439 (by decide) (fun c_439 => absurd (ht.1.trans (if_pos c_246)) c_439) (fun c_439 => ?_)
    refine lv_aload_n hx hb dL_tick_442 rfl (lv_at hl 17 rfl) ?_
    refine lr_f (rL (rest := []) ⟨hx, hb, hml, hown, hts⟩ (LB_place l G cA A o (u, v, (goF u v f g 0), (goG u v f g 0), (goL u v g L 0)) (recN n) K ch  ) (cwV 0 hts gL_tick_X8_place rfl rfl rfl mdX8_place ⟨Nat.le_of_ble_eq_true rfl, Nat.le_of_ble_eq_true rfl⟩) hA hL rfl hl rfl (Nat.le_of_ble_eq_true rfl) dL_tick_443 ⟨Nat.le_of_ble_eq_true rfl, Nat.le_of_ble_eq_true rfl⟩) hA hL (fun r_443 H locs hr_443 hA hL => ?_)
    replace hr_443 : r_443 = (goF u v f g 0) 7 := hr_443
    subst hr_443
    refine lv_fload hx hb dL_tick_446 (lv_at hl 3 rfl) ?_
    refine lv_fcmp hx hb dL_tick_448 ?_
    refine lv_if_ne (tgt := 489) hx hb dL_tick_449 (by decide) (fun c_449 => absurd (by rw [ht.2.2.2]; exact cmp_self (of_vf hf) _) c_449) (fun c_449 => ?_)
    refine lv_fload hx hb dL_tick_452 (lv_at hl 7 rfl) ?_
    refine lv_fload hx hb dL_tick_454 (lv_at hl 3 rfl) ?_
    refine lv_fcmp hx hb dL_tick_456 ?_
    refine lv_if_ne (tgt := 489) hx hb dL_tick_457 (by decide) (fun c_457 => absurd (by rw [ht.2.2.2]; exact cmp_self (of_vf hf) _) c_457) (fun c_457 => ?_)
    refine lv_aload_n hx hb dL_tick_460 rfl (lv_at hl 17 rfl) ?_
    refine lv_iconst (v := 1) hx hb dL_tick_461 (by decide) ?_
    refine lr_i (rL (rest := []) ⟨hx, hb, hml, hown, hts⟩ (LB_door l G cA A o (u, v, (goF u v f g 0), (goG u v f g 0), (goL u v g L 0)) (recN n) K ch 1 ) (cwV 1 hts gL_tick_X8_door rfl rfl rfl mdX8_door ⟨Nat.le_of_ble_eq_true rfl, Nat.le_of_ble_eq_true rfl⟩) hA hL rfl hl rfl (Nat.le_of_ble_eq_true rfl) dL_tick_462 ⟨Nat.le_of_ble_eq_true rfl, Nat.le_of_ble_eq_true rfl⟩) hA hL (fun r_462 H locs hr_462 hA hL => ?_)
    replace hr_462 : r_462 = (goG u v f g 0) 16 := hr_462
    subst hr_462
    refine lv_iload hx hb dL_tick_465 (lv_at hl 4 rfl) ?_
    refine lv_icmp_ne (tgt := 489) hx hb dL_tick_467 (by decide) (fun c_467 => absurd ht.2.1 c_467) (fun c_467 => ?_)
    refine lv_aload_n hx hb dL_tick_470 rfl (lv_at hl 17 rfl) ?_
    refine lv_iconst (v := 2) hx hb dL_tick_471 (by decide) ?_
    refine lr_i (rL (rest := []) ⟨hx, hb, hml, hown, hts⟩ (LB_door l G cA A o (u, v, (goF u v f g 0), (goG u v f g 0), (goL u v g L 0)) (recN n) K ch 2 ) (cwV 1 hts gL_tick_X8_door rfl rfl rfl mdX8_door ⟨Nat.le_of_ble_eq_true rfl, Nat.le_of_ble_eq_true rfl⟩) hA hL rfl hl rfl (Nat.le_of_ble_eq_true rfl) dL_tick_472 ⟨Nat.le_of_ble_eq_true rfl, Nat.le_of_ble_eq_true rfl⟩) hA hL (fun r_472 H locs hr_472 hA hL => ?_)
    replace hr_472 : r_472 = oneF ((goG u v f g 0) 17) := hr_472
    subst hr_472
    refine lv_iload hx hb dL_tick_475 (lv_at hl 0 rfl) ?_
    refine lv_if_eq (tgt := 484) hx hb dL_tick_477 (by decide) (fun _ => ?_) (fun h9 => absurd (by decide) h9)
    refine lv_iload hx hb dL_tick_484 (lv_at hl 12 rfl) ?_
    refine lv_icmp_eq (tgt := 491) hx hb dL_tick_486 (by decide) (fun c_486 => ?_) (fun c_486 => absurd (by rw [ht.2.2.1] <;> rfl) c_486)
    refine lv_iload hx hb dL_tick_491 (lv_at hl 5 rfl) ?_
    refine lv_if_eq (tgt := 554) hx hb dL_tick_493 (by decide) (fun _ => ?_) (fun h9 => absurd (by decide) h9)
    refine lv_iload_n hx hb dL_tick_554 rfl (lv_at hl 18 rfl) ?_
    refine lv_if_eq (tgt := 599) hx hb dL_tick_555 (by decide) (fun _ => ?_) (fun h9 => absurd (by decide) h9)
    refine lv_iconst (v := 1) hx hb dL_tick_599 (by decide) ?_
    refine lv_goto (tgt := 604) hx hb dL_tick_600 (by decide) ?_
    exact en_l (post := fun r (_ : Unit) => r = 1) (B := fun _ H => LB G cA A o (u, v, (goF u v f g 0), (goG u v f g 0), (goL u v g L 0)) (recN n) K ch H) () hx hb hr hlocks hA rfl hL dL_tick_604
  · skip
    refine lv_iload hx hb dL_tick_249 (lv_at hl 10 rfl) ?_
    refine lv_if_ne (tgt := 258) hx hb dL_tick_251 (by decide) (fun c_251 => ?_) (fun c_251 => ?_)
    · skip
      refine lv_iconst (v := 2) hx hb dL_tick_258 (by decide) ?_
      refine lv_istore (lv' := [(15, .int 2), (16, .float (f 7)), (4, .int (preG u v g 0 16)), (14, .int 0), (13, .int (cnF g (nI n) (nI K) ((bestK u g) + 1))), (12, .float ((goF u v f g 0) 7)), (11, .int (bestK u g)), (10, .int (oneF (g 12))), (9, .int (g 11)), (8, .int (g 7)), (7, .int (oneF (g 17))), (6, .int 0), (5, .int (g 14)), (3, .float (f 7)), (2, .int 2), (0, .ref o), (1, .int 0)]) hx hb dL_tick_259 hl (by decide) rfl (fun ls hl => ?_)
      refine lv_goto (tgt := 385) hx hb dL_tick_261 (by decide) ?_
      refine lv_iload_n hx hb dL_tick_385 rfl (lv_at hl 14 rfl) ?_
      refine lv_iconst (v := 3) hx hb dL_tick_386 (by decide) ?_
      refine lv_icmp_ne (tgt := 400) hx hb dL_tick_387 (by decide) (fun _ => ?_) (fun h9 => absurd h9 (by decide))
      refine lv_iconst (v := 0) hx hb dL_tick_400 (by decide) ?_
      refine lv_istore (lv' := [(17, .int 0), (15, .int 2), (16, .float (f 7)), (4, .int (preG u v g 0 16)), (14, .int 0), (13, .int (cnF g (nI n) (nI K) ((bestK u g) + 1))), (12, .float ((goF u v f g 0) 7)), (11, .int (bestK u g)), (10, .int (oneF (g 12))), (9, .int (g 11)), (8, .int (g 7)), (7, .int (oneF (g 17))), (6, .int 0), (5, .int (g 14)), (3, .float (f 7)), (2, .int 2), (0, .ref o), (1, .int 0)]) hx hb dL_tick_401 hl (by decide) rfl (fun ls hl => ?_)
      refine lv_iload hx hb dL_tick_403 (lv_at hl 0 rfl) ?_
      refine lv_if_eq (tgt := 428) hx hb dL_tick_405 (by decide) (fun _ => ?_) (fun h9 => absurd (by decide) h9)
      refine lv_iconst (v := 0) hx hb dL_tick_428 (by decide) ?_
      refine lv_istore (lv' := [(18, .int 0), (17, .int 0), (15, .int 2), (16, .float (f 7)), (4, .int (preG u v g 0 16)), (14, .int 0), (13, .int (cnF g (nI n) (nI K) ((bestK u g) + 1))), (12, .float ((goF u v f g 0) 7)), (11, .int (bestK u g)), (10, .int (oneF (g 12))), (9, .int (g 11)), (8, .int (g 7)), (7, .int (oneF (g 17))), (6, .int 0), (5, .int (g 14)), (3, .float (f 7)), (2, .int 2), (0, .ref o), (1, .int 0)]) hx hb dL_tick_429 hl (by decide) rfl (fun ls hl => ?_)
      refine lv_aload_n hx hb dL_tick_431 rfl (lv_at hl 17 rfl) ?_
      refine lv_iload_n hx hb dL_tick_432 rfl (lv_at hl 18 rfl) ?_
      refine lv_iconst (v := 1) hx hb dL_tick_433 (by decide) ?_
      refine lw_i (rL (rest := []) ⟨hx, hb, hml, hown, hts⟩ (LB_pass_ok l G cA A o (u, v, f, g, L) n K ch hn 0 1 (by decide) (by decide) (by decide) (by decide) hT hG1 hBo) (cwV 2 hts gL_tick_X8_pass rfl rfl rfl mdX8_pass ⟨Nat.le_of_ble_eq_true rfl, Nat.le_of_ble_eq_true rfl⟩) hA hL rfl hl rfl (Nat.le_of_ble_eq_true rfl) dL_tick_434 ⟨Nat.le_of_ble_eq_true rfl, Nat.le_of_ble_eq_true rfl⟩) hA (fun r_434_1 _ H locs hr_434_1 hA hL => ?_)
      replace hL : LB G cA A o (u, v, (goF u v f g 0), (goG u v f g 0), (goL u v g L 0)) (recN n) K ch H := hL
      replace hr_434_1 : r_434_1 = (goG u v f g 0) 13 := hr_434_1
      subst hr_434_1
      refine lv_iload hx hb dL_tick_437 (lv_at hl 2 rfl) ?_
      refine lv_icmp_ne (tgt := 489) hx hb dL_tick_439 (by decide) (fun c_439_1 => absurd (ht.1.trans ((if_neg c_246).trans (if_neg (one_nz c_251)))) c_439_1) (fun c_439_1 => ?_)
      refine lv_aload_n hx hb dL_tick_442 rfl (lv_at hl 17 rfl) ?_
      refine lr_f (rL (rest := []) ⟨hx, hb, hml, hown, hts⟩ (LB_place l G cA A o (u, v, (goF u v f g 0), (goG u v f g 0), (goL u v g L 0)) (recN n) K ch  ) (cwV 0 hts gL_tick_X8_place rfl rfl rfl mdX8_place ⟨Nat.le_of_ble_eq_true rfl, Nat.le_of_ble_eq_true rfl⟩) hA hL rfl hl rfl (Nat.le_of_ble_eq_true rfl) dL_tick_443 ⟨Nat.le_of_ble_eq_true rfl, Nat.le_of_ble_eq_true rfl⟩) hA hL (fun r_443_1 H locs hr_443_1 hA hL => ?_)
      replace hr_443_1 : r_443_1 = (goF u v f g 0) 7 := hr_443_1
      subst hr_443_1
      refine lv_fload hx hb dL_tick_446 (lv_at hl 3 rfl) ?_
      refine lv_fcmp hx hb dL_tick_448 ?_
      refine lv_if_ne (tgt := 489) hx hb dL_tick_449 (by decide) (fun c_449_1 => absurd (by rw [ht.2.2.2]; exact cmp_self (of_vf hf) _) c_449_1) (fun c_449_1 => ?_)
      refine lv_fload hx hb dL_tick_452 (lv_at hl 7 rfl) ?_
      refine lv_fload hx hb dL_tick_454 (lv_at hl 3 rfl) ?_
      refine lv_fcmp hx hb dL_tick_456 ?_
      refine lv_if_ne (tgt := 489) hx hb dL_tick_457 (by decide) (fun c_457_1 => absurd (by rw [ht.2.2.2]; exact cmp_self (of_vf hf) _) c_457_1) (fun c_457_1 => ?_)
      refine lv_aload_n hx hb dL_tick_460 rfl (lv_at hl 17 rfl) ?_
      refine lv_iconst (v := 1) hx hb dL_tick_461 (by decide) ?_
      refine lr_i (rL (rest := []) ⟨hx, hb, hml, hown, hts⟩ (LB_door l G cA A o (u, v, (goF u v f g 0), (goG u v f g 0), (goL u v g L 0)) (recN n) K ch 1 ) (cwV 1 hts gL_tick_X8_door rfl rfl rfl mdX8_door ⟨Nat.le_of_ble_eq_true rfl, Nat.le_of_ble_eq_true rfl⟩) hA hL rfl hl rfl (Nat.le_of_ble_eq_true rfl) dL_tick_462 ⟨Nat.le_of_ble_eq_true rfl, Nat.le_of_ble_eq_true rfl⟩) hA hL (fun r_462_1 H locs hr_462_1 hA hL => ?_)
      replace hr_462_1 : r_462_1 = (goG u v f g 0) 16 := hr_462_1
      subst hr_462_1
      refine lv_iload hx hb dL_tick_465 (lv_at hl 4 rfl) ?_
      refine lv_icmp_ne (tgt := 489) hx hb dL_tick_467 (by decide) (fun c_467_1 => absurd ht.2.1 c_467_1) (fun c_467_1 => ?_)
      refine lv_aload_n hx hb dL_tick_470 rfl (lv_at hl 17 rfl) ?_
      refine lv_iconst (v := 2) hx hb dL_tick_471 (by decide) ?_
      refine lr_i (rL (rest := []) ⟨hx, hb, hml, hown, hts⟩ (LB_door l G cA A o (u, v, (goF u v f g 0), (goG u v f g 0), (goL u v g L 0)) (recN n) K ch 2 ) (cwV 1 hts gL_tick_X8_door rfl rfl rfl mdX8_door ⟨Nat.le_of_ble_eq_true rfl, Nat.le_of_ble_eq_true rfl⟩) hA hL rfl hl rfl (Nat.le_of_ble_eq_true rfl) dL_tick_472 ⟨Nat.le_of_ble_eq_true rfl, Nat.le_of_ble_eq_true rfl⟩) hA hL (fun r_472_1 H locs hr_472_1 hA hL => ?_)
      replace hr_472_1 : r_472_1 = oneF ((goG u v f g 0) 17) := hr_472_1
      subst hr_472_1
      refine lv_iload hx hb dL_tick_475 (lv_at hl 0 rfl) ?_
      refine lv_if_eq (tgt := 484) hx hb dL_tick_477 (by decide) (fun _ => ?_) (fun h9 => absurd (by decide) h9)
      refine lv_iload hx hb dL_tick_484 (lv_at hl 12 rfl) ?_
      refine lv_icmp_eq (tgt := 491) hx hb dL_tick_486 (by decide) (fun c_486_1 => ?_) (fun c_486_1 => absurd (by rw [ht.2.2.1] <;> rfl) c_486_1)
      refine lv_iload hx hb dL_tick_491 (lv_at hl 5 rfl) ?_
      refine lv_if_eq (tgt := 554) hx hb dL_tick_493 (by decide) (fun _ => ?_) (fun h9 => absurd (by decide) h9)
      refine lv_iload_n hx hb dL_tick_554 rfl (lv_at hl 18 rfl) ?_
      refine lv_if_eq (tgt := 599) hx hb dL_tick_555 (by decide) (fun _ => ?_) (fun h9 => absurd (by decide) h9)
      refine lv_iconst (v := 1) hx hb dL_tick_599 (by decide) ?_
      refine lv_goto (tgt := 604) hx hb dL_tick_600 (by decide) ?_
      exact en_l (post := fun r (_ : Unit) => r = 1) (B := fun _ H => LB G cA A o (u, v, (goF u v f g 0), (goG u v f g 0), (goL u v g L 0)) (recN n) K ch H) () hx hb hr hlocks hA rfl hL dL_tick_604
    · skip
      refine lv_iconst (v := 3) hx hb dL_tick_254 (by decide) ?_
      refine lv_goto (tgt := 259) hx hb dL_tick_255 (by decide) ?_
      refine lv_istore (lv' := [(15, .int 3), (16, .float (f 7)), (4, .int (preG u v g 0 16)), (14, .int 0), (13, .int (cnF g (nI n) (nI K) ((bestK u g) + 1))), (12, .float ((goF u v f g 0) 7)), (11, .int (bestK u g)), (10, .int (oneF (g 12))), (9, .int (g 11)), (8, .int (g 7)), (7, .int (oneF (g 17))), (6, .int 0), (5, .int (g 14)), (3, .float (f 7)), (2, .int 2), (0, .ref o), (1, .int 0)]) hx hb dL_tick_259 hl (by decide) rfl (fun ls hl => ?_)
      refine lv_goto (tgt := 385) hx hb dL_tick_261 (by decide) ?_
      refine lv_iload_n hx hb dL_tick_385 rfl (lv_at hl 14 rfl) ?_
      refine lv_iconst (v := 3) hx hb dL_tick_386 (by decide) ?_
      refine lv_icmp_ne (tgt := 400) hx hb dL_tick_387 (by decide) (fun _ => ?_) (fun h9 => absurd h9 (by decide))
      refine lv_iconst (v := 0) hx hb dL_tick_400 (by decide) ?_
      refine lv_istore (lv' := [(17, .int 0), (15, .int 3), (16, .float (f 7)), (4, .int (preG u v g 0 16)), (14, .int 0), (13, .int (cnF g (nI n) (nI K) ((bestK u g) + 1))), (12, .float ((goF u v f g 0) 7)), (11, .int (bestK u g)), (10, .int (oneF (g 12))), (9, .int (g 11)), (8, .int (g 7)), (7, .int (oneF (g 17))), (6, .int 0), (5, .int (g 14)), (3, .float (f 7)), (2, .int 2), (0, .ref o), (1, .int 0)]) hx hb dL_tick_401 hl (by decide) rfl (fun ls hl => ?_)
      refine lv_iload hx hb dL_tick_403 (lv_at hl 0 rfl) ?_
      refine lv_if_eq (tgt := 428) hx hb dL_tick_405 (by decide) (fun _ => ?_) (fun h9 => absurd (by decide) h9)
      refine lv_iconst (v := 0) hx hb dL_tick_428 (by decide) ?_
      refine lv_istore (lv' := [(18, .int 0), (17, .int 0), (15, .int 3), (16, .float (f 7)), (4, .int (preG u v g 0 16)), (14, .int 0), (13, .int (cnF g (nI n) (nI K) ((bestK u g) + 1))), (12, .float ((goF u v f g 0) 7)), (11, .int (bestK u g)), (10, .int (oneF (g 12))), (9, .int (g 11)), (8, .int (g 7)), (7, .int (oneF (g 17))), (6, .int 0), (5, .int (g 14)), (3, .float (f 7)), (2, .int 2), (0, .ref o), (1, .int 0)]) hx hb dL_tick_429 hl (by decide) rfl (fun ls hl => ?_)
      refine lv_aload_n hx hb dL_tick_431 rfl (lv_at hl 17 rfl) ?_
      refine lv_iload_n hx hb dL_tick_432 rfl (lv_at hl 18 rfl) ?_
      refine lv_iconst (v := 1) hx hb dL_tick_433 (by decide) ?_
      refine lw_i (rL (rest := []) ⟨hx, hb, hml, hown, hts⟩ (LB_pass_ok l G cA A o (u, v, f, g, L) n K ch hn 0 1 (by decide) (by decide) (by decide) (by decide) hT hG1 hBo) (cwV 2 hts gL_tick_X8_pass rfl rfl rfl mdX8_pass ⟨Nat.le_of_ble_eq_true rfl, Nat.le_of_ble_eq_true rfl⟩) hA hL rfl hl rfl (Nat.le_of_ble_eq_true rfl) dL_tick_434 ⟨Nat.le_of_ble_eq_true rfl, Nat.le_of_ble_eq_true rfl⟩) hA (fun r_434_2 _ H locs hr_434_2 hA hL => ?_)
      replace hL : LB G cA A o (u, v, (goF u v f g 0), (goG u v f g 0), (goL u v g L 0)) (recN n) K ch H := hL
      replace hr_434_2 : r_434_2 = (goG u v f g 0) 13 := hr_434_2
      subst hr_434_2
      refine lv_iload hx hb dL_tick_437 (lv_at hl 2 rfl) ?_
      refine lv_icmp_ne (tgt := 489) hx hb dL_tick_439 (by decide) (fun c_439_2 => absurd (ht.1.trans ((if_neg c_246).trans (if_pos (one_z c_251)))) c_439_2) (fun c_439_2 => ?_)
      refine lv_aload_n hx hb dL_tick_442 rfl (lv_at hl 17 rfl) ?_
      refine lr_f (rL (rest := []) ⟨hx, hb, hml, hown, hts⟩ (LB_place l G cA A o (u, v, (goF u v f g 0), (goG u v f g 0), (goL u v g L 0)) (recN n) K ch  ) (cwV 0 hts gL_tick_X8_place rfl rfl rfl mdX8_place ⟨Nat.le_of_ble_eq_true rfl, Nat.le_of_ble_eq_true rfl⟩) hA hL rfl hl rfl (Nat.le_of_ble_eq_true rfl) dL_tick_443 ⟨Nat.le_of_ble_eq_true rfl, Nat.le_of_ble_eq_true rfl⟩) hA hL (fun r_443_2 H locs hr_443_2 hA hL => ?_)
      replace hr_443_2 : r_443_2 = (goF u v f g 0) 7 := hr_443_2
      subst hr_443_2
      refine lv_fload hx hb dL_tick_446 (lv_at hl 3 rfl) ?_
      refine lv_fcmp hx hb dL_tick_448 ?_
      refine lv_if_ne (tgt := 489) hx hb dL_tick_449 (by decide) (fun c_449_2 => absurd (by rw [ht.2.2.2]; exact cmp_self (of_vf hf) _) c_449_2) (fun c_449_2 => ?_)
      refine lv_fload hx hb dL_tick_452 (lv_at hl 7 rfl) ?_
      refine lv_fload hx hb dL_tick_454 (lv_at hl 3 rfl) ?_
      refine lv_fcmp hx hb dL_tick_456 ?_
      refine lv_if_ne (tgt := 489) hx hb dL_tick_457 (by decide) (fun c_457_2 => absurd (by rw [ht.2.2.2]; exact cmp_self (of_vf hf) _) c_457_2) (fun c_457_2 => ?_)
      refine lv_aload_n hx hb dL_tick_460 rfl (lv_at hl 17 rfl) ?_
      refine lv_iconst (v := 1) hx hb dL_tick_461 (by decide) ?_
      refine lr_i (rL (rest := []) ⟨hx, hb, hml, hown, hts⟩ (LB_door l G cA A o (u, v, (goF u v f g 0), (goG u v f g 0), (goL u v g L 0)) (recN n) K ch 1 ) (cwV 1 hts gL_tick_X8_door rfl rfl rfl mdX8_door ⟨Nat.le_of_ble_eq_true rfl, Nat.le_of_ble_eq_true rfl⟩) hA hL rfl hl rfl (Nat.le_of_ble_eq_true rfl) dL_tick_462 ⟨Nat.le_of_ble_eq_true rfl, Nat.le_of_ble_eq_true rfl⟩) hA hL (fun r_462_2 H locs hr_462_2 hA hL => ?_)
      replace hr_462_2 : r_462_2 = (goG u v f g 0) 16 := hr_462_2
      subst hr_462_2
      refine lv_iload hx hb dL_tick_465 (lv_at hl 4 rfl) ?_
      refine lv_icmp_ne (tgt := 489) hx hb dL_tick_467 (by decide) (fun c_467_2 => absurd ht.2.1 c_467_2) (fun c_467_2 => ?_)
      refine lv_aload_n hx hb dL_tick_470 rfl (lv_at hl 17 rfl) ?_
      refine lv_iconst (v := 2) hx hb dL_tick_471 (by decide) ?_
      refine lr_i (rL (rest := []) ⟨hx, hb, hml, hown, hts⟩ (LB_door l G cA A o (u, v, (goF u v f g 0), (goG u v f g 0), (goL u v g L 0)) (recN n) K ch 2 ) (cwV 1 hts gL_tick_X8_door rfl rfl rfl mdX8_door ⟨Nat.le_of_ble_eq_true rfl, Nat.le_of_ble_eq_true rfl⟩) hA hL rfl hl rfl (Nat.le_of_ble_eq_true rfl) dL_tick_472 ⟨Nat.le_of_ble_eq_true rfl, Nat.le_of_ble_eq_true rfl⟩) hA hL (fun r_472_2 H locs hr_472_2 hA hL => ?_)
      replace hr_472_2 : r_472_2 = oneF ((goG u v f g 0) 17) := hr_472_2
      subst hr_472_2
      refine lv_iload hx hb dL_tick_475 (lv_at hl 0 rfl) ?_
      refine lv_if_eq (tgt := 484) hx hb dL_tick_477 (by decide) (fun _ => ?_) (fun h9 => absurd (by decide) h9)
      refine lv_iload hx hb dL_tick_484 (lv_at hl 12 rfl) ?_
      refine lv_icmp_eq (tgt := 491) hx hb dL_tick_486 (by decide) (fun c_486_2 => ?_) (fun c_486_2 => absurd (by rw [ht.2.2.1] <;> rfl) c_486_2)
      refine lv_iload hx hb dL_tick_491 (lv_at hl 5 rfl) ?_
      refine lv_if_eq (tgt := 554) hx hb dL_tick_493 (by decide) (fun _ => ?_) (fun h9 => absurd (by decide) h9)
      refine lv_iload_n hx hb dL_tick_554 rfl (lv_at hl 18 rfl) ?_
      refine lv_if_eq (tgt := 599) hx hb dL_tick_555 (by decide) (fun _ => ?_) (fun h9 => absurd (by decide) h9)
      refine lv_iconst (v := 1) hx hb dL_tick_599 (by decide) ?_
      refine lv_goto (tgt := 604) hx hb dL_tick_600 (by decide) ?_
      exact en_l (post := fun r (_ : Unit) => r = 1) (B := fun _ H => LB G cA A o (u, v, (goF u v f g 0), (goG u v f g 0), (goL u v g L 0)) (recN n) K ch H) () hx hb hr hlocks hA rfl hL dL_tick_604
set_option maxHeartbeats 8000000 in
set_option maxRecDepth 100000 in
/-- tick(o, beams), in the state 3, case t0 -/
theorem cL_tick_3_t0 (l : Launch) (G : va_G) (cA : Nat → ClassId) (A : Nat → Prop) (o : Nat) (u : FF) (v : GG) (f : FF) (g L : GG) (n K : Nat) (ch : GG) (hs : g 13 = 3) (hn : n ≤ 4) (hGo : GoOk u f g) (hPr : PrOk u g) (hP2 : PrOk u (goG u v f g 0)) (hT : ¬ 99999 < g 27 + nI 1) (hBo : Bo g) (hf : vf_n32 (f 7)) (hg : ¬ g 5 = 0) (h7 : ¬ g 7 < 1) (hc : g 11 + 1 < v 4) : Met l yL_tick wsL_tick ({ frames := 7, cells := 0, slots := 0, locals := 160 } : Room) (va_Pc [.ref o, .int 0] (LbP G cA A o (u, v, f, g, L) n K ch)) (va_Qi (fun r (_ : Unit) => r = 1) (fun _ t => LB G cA A o (u, v, (goF u v f g 0), (goG u v f g 0), (goL u v g L 0)) (recN n) K ch t.heap) A) 0 0 A := by
  refine ofW2 (cc := cL_tick) (maxL := 19) (ret := (some .boolean)) (own := RL) (by decide) rfl rfl (Nat.le_of_ble_eq_true rfl) rfl ?_
  intro p e s m below meth c ls hx hb hml hr hts hown hlocks hv hl
  obtain ⟨hE, hN, hL⟩ := hv
  have hA : At G cA A s s.heap [] := ⟨hE, hN, va_S.rf⟩
  obtain ⟨H, hH0⟩ : ∃ H, H = s.heap := ⟨_, rfl⟩
  rw [← hH0] at hL ⊢
  replace hA : At G cA A s H [] := by rw [hH0]; exact hA
  generalize ([] : List Loc) = locs at hA ⊢
  clear hH0
  replace hl : lv_has ls 19 [(0, .ref o), (1, .int 0)] := hl
  have hG1 : ∀ k, k < 1 → GoOk u (itS u v 0 (f, g, L) k).1 (itS u v 0 (f, g, L) k).2.1 := fun k hk => (show k = 0 by omega) ▸ hGo
  have ht := t_3a hs (u := u) (v := v) (f := f)
  have hp16 : preG u v g 0 16 = g 16 := pre_16c (clearR_no hc)
  have hsn : vf_n32 (FP.fsub (f 7) (spF u (scF v (preG u v g 0)))) := sub_ok hGo.2.2.1 hGo.2.2.2
  refine lv_aload_n hx hb dL_tick_0 rfl (lv_at hl 0 rfl) ?_
  refine lv_iconst (v := 0) hx hb dL_tick_1 (by decide) ?_
  refine lr_i (rL (rest := []) ⟨hx, hb, hml, hown, hts⟩ (LB_door l G cA A o (u, v, f, g, L) n K ch 0 ) (cwV 1 hts gL_tick_X8_door rfl rfl rfl mdX8_door ⟨Nat.le_of_ble_eq_true rfl, Nat.le_of_ble_eq_true rfl⟩) hA hL rfl hl rfl (Nat.le_of_ble_eq_true rfl) dL_tick_2 ⟨Nat.le_of_ble_eq_true rfl, Nat.le_of_ble_eq_true rfl⟩) hA hL (fun r_2 H locs hr_2 hA hL => ?_)
  replace hr_2 : r_2 = 3 := hr_2.trans hs
  subst hr_2
  refine lv_istore_n (lv' := [(2, .int 3), (0, .ref o), (1, .int 0)]) hx hb dL_tick_5 rfl hl (by decide) rfl (fun ls hl => ?_)
  refine lv_aload_n hx hb dL_tick_6 rfl (lv_at hl 1 rfl) ?_
  refine lr_f (rL (rest := []) ⟨hx, hb, hml, hown, hts⟩ (LB_place l G cA A o (u, v, f, g, L) n K ch  ) (cwV 0 hts gL_tick_X8_place rfl rfl rfl mdX8_place ⟨Nat.le_of_ble_eq_true rfl, Nat.le_of_ble_eq_true rfl⟩) hA hL rfl hl rfl (Nat.le_of_ble_eq_true rfl) dL_tick_7 ⟨Nat.le_of_ble_eq_true rfl, Nat.le_of_ble_eq_true rfl⟩) hA hL (fun r_7 H locs hr_7 hA hL => ?_)
  replace hr_7 : r_7 = f 7 := hr_7
  subst hr_7
  refine lv_fstore_n (lv' := [(3, .float (f 7)), (2, .int 3), (0, .ref o), (1, .int 0)]) hx hb dL_tick_10 rfl hl (by decide) rfl (fun ls hl => ?_)
  refine lv_aload_n hx hb dL_tick_11 rfl (lv_at hl 2 rfl) ?_
  refine lv_iconst (v := 1) hx hb dL_tick_12 (by decide) ?_
  refine lr_i (rL (rest := []) ⟨hx, hb, hml, hown, hts⟩ (LB_door l G cA A o (u, v, f, g, L) n K ch 1 ) (cwV 1 hts gL_tick_X8_door rfl rfl rfl mdX8_door ⟨Nat.le_of_ble_eq_true rfl, Nat.le_of_ble_eq_true rfl⟩) hA hL rfl hl rfl (Nat.le_of_ble_eq_true rfl) dL_tick_13 ⟨Nat.le_of_ble_eq_true rfl, Nat.le_of_ble_eq_true rfl⟩) hA hL (fun r_13 H locs hr_13 hA hL => ?_)
  replace hr_13 : r_13 = g 16 := hr_13
  subst hr_13
  refine lv_istore (lv' := [(4, .int (g 16)), (3, .float (f 7)), (2, .int 3), (0, .ref o), (1, .int 0)]) hx hb dL_tick_16 hl (by decide) rfl (fun ls hl => ?_)
  refine lv_aload_n hx hb dL_tick_18 rfl (lv_at hl 3 rfl) ?_
  refine lv_iconst (v := 3) hx hb dL_tick_19 (by decide) ?_
  refine lr_i (rL (rest := []) ⟨hx, hb, hml, hown, hts⟩ (LB_door l G cA A o (u, v, f, g, L) n K ch 3 ) (cwV 1 hts gL_tick_X8_door rfl rfl rfl mdX8_door ⟨Nat.le_of_ble_eq_true rfl, Nat.le_of_ble_eq_true rfl⟩) hA hL rfl hl rfl (Nat.le_of_ble_eq_true rfl) dL_tick_20 ⟨Nat.le_of_ble_eq_true rfl, Nat.le_of_ble_eq_true rfl⟩) hA hL (fun r_20 H locs hr_20 hA hL => ?_)
  rw [show doF f g 3 = 0 from (by show (if g 13 = 2 then g 14 else 0) = 0; rw [if_neg (by rw [hs]; decide)])] at hr_20
  subst hr_20
  refine lv_istore (lv' := [(5, .int 0), (4, .int (g 16)), (3, .float (f 7)), (2, .int 3), (0, .ref o), (1, .int 0)]) hx hb dL_tick_23 hl (by decide) rfl (fun ls hl => ?_)
  refine lv_aload_n hx hb dL_tick_25 rfl (lv_at hl 4 rfl) ?_
  refine lv_iconst (v := 4) hx hb dL_tick_26 (by decide) ?_
  refine lr_i (rL (rest := []) ⟨hx, hb, hml, hown, hts⟩ (LB_door l G cA A o (u, v, f, g, L) n K ch 4 ) (cwV 1 hts gL_tick_X8_door rfl rfl rfl mdX8_door ⟨Nat.le_of_ble_eq_true rfl, Nat.le_of_ble_eq_true rfl⟩) hA hL rfl hl rfl (Nat.le_of_ble_eq_true rfl) dL_tick_27 ⟨Nat.le_of_ble_eq_true rfl, Nat.le_of_ble_eq_true rfl⟩) hA hL (fun r_27 H locs hr_27 hA hL => ?_)
  rw [show doF f g 4 = g 15 from (by show (if g 13 = 3 then g 15 else 0) = g 15; rw [if_pos hs])] at hr_27
  subst hr_27
  refine lv_istore (lv' := [(6, .int (g 15)), (5, .int 0), (4, .int (g 16)), (3, .float (f 7)), (2, .int 3), (0, .ref o), (1, .int 0)]) hx hb dL_tick_30 hl (by decide) rfl (fun ls hl => ?_)
  refine lv_aload_n hx hb dL_tick_32 rfl (lv_at hl 5 rfl) ?_
  refine lv_iconst (v := 2) hx hb dL_tick_33 (by decide) ?_
  refine lr_i (rL (rest := []) ⟨hx, hb, hml, hown, hts⟩ (LB_door l G cA A o (u, v, f, g, L) n K ch 2 ) (cwV 1 hts gL_tick_X8_door rfl rfl rfl mdX8_door ⟨Nat.le_of_ble_eq_true rfl, Nat.le_of_ble_eq_true rfl⟩) hA hL rfl hl rfl (Nat.le_of_ble_eq_true rfl) dL_tick_34 ⟨Nat.le_of_ble_eq_true rfl, Nat.le_of_ble_eq_true rfl⟩) hA hL (fun r_34 H locs hr_34 hA hL => ?_)
  replace hr_34 : r_34 = oneF (g 17) := hr_34
  subst hr_34
  refine lv_istore (lv' := [(7, .int (oneF (g 17))), (6, .int (g 15)), (5, .int 0), (4, .int (g 16)), (3, .float (f 7)), (2, .int 3), (0, .ref o), (1, .int 0)]) hx hb dL_tick_37 hl (by decide) rfl (fun ls hl => ?_)
  refine lv_aload_n hx hb dL_tick_39 rfl (lv_at hl 6 rfl) ?_
  refine lv_iconst (v := 0) hx hb dL_tick_40 (by decide) ?_
  refine lr_i (rL (rest := []) ⟨hx, hb, hml, hown, hts⟩ (LB_thing l G cA A o (u, v, f, g, L) n K ch 0 hPr) (cwV 1 hts gL_tick_X8_thing rfl rfl rfl mdX8_thing ⟨Nat.le_of_ble_eq_true rfl, Nat.le_of_ble_eq_true rfl⟩) hA hL rfl hl rfl (Nat.le_of_ble_eq_true rfl) dL_tick_41 ⟨Nat.le_of_ble_eq_true rfl, Nat.le_of_ble_eq_true rfl⟩) hA hL (fun r_41 H locs hr_41 hA hL => ?_)
  replace hr_41 : r_41 = g 7 := hr_41.trans (th_0 hg)
  subst hr_41
  refine lv_istore (lv' := [(8, .int (g 7)), (7, .int (oneF (g 17))), (6, .int (g 15)), (5, .int 0), (4, .int (g 16)), (3, .float (f 7)), (2, .int 3), (0, .ref o), (1, .int 0)]) hx hb dL_tick_44 hl (by decide) rfl (fun ls hl => ?_)
  refine lv_iload hx hb dL_tick_46 (lv_at hl 0 rfl) ?_
  refine lv_if_ge (tgt := 55) hx hb dL_tick_48 (by decide) (fun c_48 => ?_) (fun c_48 => absurd (show g 7 < 1 by have := Int32.not_le.mp c_48; exact Int32.lt_trans this (by decide)) h7)
  refine lv_aload_n hx hb dL_tick_55 rfl (lv_at hl 7 rfl) ?_
  refine lv_iconst (v := 5) hx hb dL_tick_56 (by decide) ?_
  refine lr_i (rL (rest := []) ⟨hx, hb, hml, hown, hts⟩ (LB_thing l G cA A o (u, v, f, g, L) n K ch 5 hPr) (cwV 1 hts gL_tick_X8_thing rfl rfl rfl mdX8_thing ⟨Nat.le_of_ble_eq_true rfl, Nat.le_of_ble_eq_true rfl⟩) hA hL rfl hl rfl (Nat.le_of_ble_eq_true rfl) dL_tick_57 ⟨Nat.le_of_ble_eq_true rfl, Nat.le_of_ble_eq_true rfl⟩) hA hL (fun r_57 H locs hr_57 hA hL => ?_)
  replace hr_57 : r_57 = g 11 := hr_57.trans (th_5 hg)
  subst hr_57
  refine lv_istore (lv' := [(9, .int (g 11)), (8, .int (g 7)), (7, .int (oneF (g 17))), (6, .int (g 15)), (5, .int 0), (4, .int (g 16)), (3, .float (f 7)), (2, .int 3), (0, .ref o), (1, .int 0)]) hx hb dL_tick_60 hl (by decide) rfl (fun ls hl => ?_)
  refine lv_iload hx hb dL_tick_62 (lv_at hl 1 rfl) ?_
  refine lv_if_ge (tgt := 71) hx hb dL_tick_64 (by decide) (fun c_64 => ?_) (fun c_64 => absurd c_48 c_64)
  refine lv_aload_n hx hb dL_tick_71 rfl (lv_at hl 8 rfl) ?_
  refine lv_bipush (v := 6) hx hb dL_tick_72 (by decide) ?_
  refine lr_i (rL (rest := []) ⟨hx, hb, hml, hown, hts⟩ (LB_thing l G cA A o (u, v, f, g, L) n K ch 6 hPr) (cwV 1 hts gL_tick_X8_thing rfl rfl rfl mdX8_thing ⟨Nat.le_of_ble_eq_true rfl, Nat.le_of_ble_eq_true rfl⟩) hA hL rfl hl rfl (Nat.le_of_ble_eq_true rfl) dL_tick_74 ⟨Nat.le_of_ble_eq_true rfl, Nat.le_of_ble_eq_true rfl⟩) hA hL (fun r_74 H locs hr_74 hA hL => ?_)
  replace hr_74 : r_74 = oneF (g 12) := hr_74.trans (th_6 hg)
  subst hr_74
  refine lv_istore (lv' := [(10, .int (oneF (g 12))), (9, .int (g 11)), (8, .int (g 7)), (7, .int (oneF (g 17))), (6, .int (g 15)), (5, .int 0), (4, .int (g 16)), (3, .float (f 7)), (2, .int 3), (0, .ref o), (1, .int 0)]) hx hb dL_tick_77 hl (by decide) rfl (fun ls hl => ?_)
  refine lv_iload hx hb dL_tick_79 (lv_at hl 2 rfl) ?_
  refine lv_if_ge (tgt := 88) hx hb dL_tick_81 (by decide) (fun c_81 => ?_) (fun c_81 => absurd c_48 c_81)
  refine lv_aload_n hx hb dL_tick_88 rfl (lv_at hl 9 rfl) ?_
  refine lv_bipush (v := 7) hx hb dL_tick_89 (by decide) ?_
  refine lr_i (rL (rest := []) ⟨hx, hb, hml, hown, hts⟩ (LB_thing l G cA A o (u, v, f, g, L) n K ch 7 hPr) (cwV 1 hts gL_tick_X8_thing rfl rfl rfl mdX8_thing ⟨Nat.le_of_ble_eq_true rfl, Nat.le_of_ble_eq_true rfl⟩) hA hL rfl hl rfl (Nat.le_of_ble_eq_true rfl) dL_tick_91 ⟨Nat.le_of_ble_eq_true rfl, Nat.le_of_ble_eq_true rfl⟩) hA hL (fun r_91 H locs hr_91 hA hL => ?_)
  replace hr_91 : r_91 = bestK u g := hr_91.trans (th_7 hg)
  subst hr_91
  refine lv_istore (lv' := [(11, .int (bestK u g)), (10, .int (oneF (g 12))), (9, .int (g 11)), (8, .int (g 7)), (7, .int (oneF (g 17))), (6, .int (g 15)), (5, .int 0), (4, .int (g 16)), (3, .float (f 7)), (2, .int 3), (0, .ref o), (1, .int 0)]) hx hb dL_tick_94 hl (by decide) rfl (fun ls hl => ?_)
  refine lv_aload_n hx hb dL_tick_96 rfl (lv_at hl 10 rfl) ?_
  refine lv_iload_n hx hb dL_tick_97 rfl (lv_at hl 11 rfl) ?_
  refine lv_iconst (v := 1) hx hb dL_tick_98 (by decide) ?_
  refine lw_f (rL (rest := []) ⟨hx, hb, hml, hown, hts⟩ (LB_placeIn_ok l G cA A o (u, v, f, g, L) n K ch 0 1 (by decide) (by decide) (by decide) hG1) (cwV 2 hts gL_tick_X8_placeIn rfl rfl rfl mdX8_placeIn ⟨Nat.le_of_ble_eq_true rfl, Nat.le_of_ble_eq_true rfl⟩) hA hL rfl hl rfl (Nat.le_of_ble_eq_true rfl) dL_tick_99 ⟨Nat.le_of_ble_eq_true rfl, Nat.le_of_ble_eq_true rfl⟩) hA (fun r_99 _ H locs hr_99 hA hL => ?_)
  replace hL : LB G cA A o (u, v, f, g, L) n K ch H := hL
  replace hr_99 : r_99 = (goF u v f g 0) 7 := hr_99
  subst hr_99
  refine lv_fstore (lv' := [(12, .float ((goF u v f g 0) 7)), (11, .int (bestK u g)), (10, .int (oneF (g 12))), (9, .int (g 11)), (8, .int (g 7)), (7, .int (oneF (g 17))), (6, .int (g 15)), (5, .int 0), (4, .int (g 16)), (3, .float (f 7)), (2, .int 3), (0, .ref o), (1, .int 0)]) hx hb dL_tick_102 hl (by decide) rfl (fun ls hl => ?_)
  refine lv_aload_n hx hb dL_tick_104 rfl (lv_at hl 11 rfl) ?_
  refine lv_iload hx hb dL_tick_105 (lv_at hl 1 rfl) ?_
  refine lv_iconst (v := 1) hx hb dL_tick_107 (by decide) ?_
  refine lv_iadd hx hb dL_tick_108 ?_
  refine lr_i (rL (rest := []) ⟨hx, hb, hml, hown, hts⟩ (LB_count l G cA A o (u, v, f, g, L) n K ch ((bestK u g) + 1)) (cwV 1 hts gL_tick_X8_count rfl rfl rfl mdX8_count ⟨Nat.le_of_ble_eq_true rfl, Nat.le_of_ble_eq_true rfl⟩) hA hL rfl hl rfl (Nat.le_of_ble_eq_true rfl) dL_tick_109 ⟨Nat.le_of_ble_eq_true rfl, Nat.le_of_ble_eq_true rfl⟩) hA hL (fun r_109 H locs hr_109 hA hL => ?_)
  replace hr_109 : r_109 = cnF g (nI n) (nI K) ((bestK u g) + 1) := hr_109
  subst hr_109
  refine lv_istore (lv' := [(13, .int (cnF g (nI n) (nI K) ((bestK u g) + 1))), (12, .float ((goF u v f g 0) 7)), (11, .int (bestK u g)), (10, .int (oneF (g 12))), (9, .int (g 11)), (8, .int (g 7)), (7, .int (oneF (g 17))), (6, .int (g 15)), (5, .int 0), (4, .int (g 16)), (3, .float (f 7)), (2, .int 3), (0, .ref o), (1, .int 0)]) hx hb dL_tick_112 hl (by decide) rfl (fun ls hl => ?_)
  refine lv_iload hx hb dL_tick_114 (lv_at hl 5 rfl) ?_
  refine lv_if_le (tgt := 139) hx hb dL_tick_116 (by decide) (fun c_116 => absurd (Int32.lt_of_lt_of_le (by decide) (Int32.not_lt.mp h7)) (Int32.not_lt.mpr c_116)) (fun c_116 => ?_)
  refine lv_iload_n hx hb dL_tick_119 rfl (lv_at hl 13 rfl) ?_
  refine lv_if_ne (tgt := 139) hx hb dL_tick_120 (by decide) (fun h9 => absurd (by decide) h9) (fun _ => ?_)
  refine lv_iload hx hb dL_tick_123 (lv_at hl 4 rfl) ?_
  refine lv_iconst (v := 1) hx hb dL_tick_125 (by decide) ?_
  refine lv_iadd hx hb dL_tick_126 ?_
  refine lv_aload_n hx hb dL_tick_127 rfl (lv_at hl 12 rfl) ?_
  refine lv_iconst (v := 4) hx hb dL_tick_128 (by decide) ?_
  refine lr_i (rL (rest := [.int ((g 11) + 1)]) ⟨hx, hb, hml, hown, hts⟩ (LB_number l G cA A o (u, v, f, g, L) n K ch 4 ) (cwV 1 hts gL_tick_X8_number rfl rfl rfl mdX8_number ⟨Nat.le_of_ble_eq_true rfl, Nat.le_of_ble_eq_true rfl⟩) hA hL rfl hl rfl (Nat.le_of_ble_eq_true rfl) dL_tick_129 ⟨Nat.le_of_ble_eq_true rfl, Nat.le_of_ble_eq_true rfl⟩) hA hL (fun r_129 H locs hr_129 hA hL => ?_)
  replace hr_129 : r_129 = v 4 := hr_129
  subst hr_129
  refine lv_icmp_lt (tgt := 139) hx hb dL_tick_132 (by decide) (fun c_132 => ?_) (fun c_132 => absurd hc c_132)
  refine lv_iconst (v := 0) hx hb dL_tick_139 (by decide) ?_
  refine lv_istore (lv' := [(14, .int 0), (13, .int (cnF g (nI n) (nI K) ((bestK u g) + 1))), (12, .float ((goF u v f g 0) 7)), (11, .int (bestK u g)), (10, .int (oneF (g 12))), (9, .int (g 11)), (8, .int (g 7)), (7, .int (oneF (g 17))), (6, .int (g 15)), (5, .int 0), (4, .int (g 16)), (3, .float (f 7)), (2, .int 3), (0, .ref o), (1, .int 0)]) hx hb dL_tick_140 hl (by decide) rfl (fun ls hl => ?_)
  refine lv_iload hx hb dL_tick_142 (lv_at hl 10 rfl) ?_
  refine lv_iload hx hb dL_tick_144 (lv_at hl 0 rfl) ?_
  refine lv_if_eq (tgt := 169) hx hb dL_tick_146 (by decide) (fun _ => ?_) (fun h9 => absurd (by decide) h9)
  refine lv_iconst (v := 0) hx hb dL_tick_169 (by decide) ?_
  refine lv_isub hx hb dL_tick_170 ?_
  refine W.eq (g2 := F0 m 171 ls [.int (preG u v g 0 16)]) (by rw [hp16, Int32.sub_zero]) ?_
  refine lv_istore (lv' := [(4, .int (preG u v g 0 16)), (14, .int 0), (13, .int (cnF g (nI n) (nI K) ((bestK u g) + 1))), (12, .float ((goF u v f g 0) 7)), (11, .int (bestK u g)), (10, .int (oneF (g 12))), (9, .int (g 11)), (8, .int (g 7)), (7, .int (oneF (g 17))), (6, .int (g 15)), (5, .int 0), (3, .float (f 7)), (2, .int 3), (0, .ref o), (1, .int 0)]) hx hb dL_tick_171 hl (by decide) rfl (fun ls hl => ?_)
  refine lv_iload_n hx hb dL_tick_173 rfl (lv_at hl 12 rfl) ?_
  refine lv_istore (lv' := [(15, .int 3), (4, .int (preG u v g 0 16)), (14, .int 0), (13, .int (cnF g (nI n) (nI K) ((bestK u g) + 1))), (12, .float ((goF u v f g 0) 7)), (11, .int (bestK u g)), (10, .int (oneF (g 12))), (9, .int (g 11)), (8, .int (g 7)), (7, .int (oneF (g 17))), (6, .int (g 15)), (5, .int 0), (3, .float (f 7)), (2, .int 3), (0, .ref o), (1, .int 0)]) hx hb dL_tick_174 hl (by decide) rfl (fun ls hl => ?_)
  refine lv_fload_n hx hb dL_tick_176 rfl (lv_at hl 12 rfl) ?_
  refine lv_fstore (lv' := [(16, .float (f 7)), (15, .int 3), (4, .int (preG u v g 0 16)), (14, .int 0), (13, .int (cnF g (nI n) (nI K) ((bestK u g) + 1))), (12, .float ((goF u v f g 0) 7)), (11, .int (bestK u g)), (10, .int (oneF (g 12))), (9, .int (g 11)), (8, .int (g 7)), (7, .int (oneF (g 17))), (6, .int (g 15)), (5, .int 0), (3, .float (f 7)), (2, .int 3), (0, .ref o), (1, .int 0)]) hx hb dL_tick_177 hl (by decide) rfl (fun ls hl => ?_)
  refine lv_iload_n hx hb dL_tick_179 rfl (lv_at hl 14 rfl) ?_
  refine lv_iconst (v := 1) hx hb dL_tick_180 (by decide) ?_
  refine lv_icmp_ne (tgt := 228) hx hb dL_tick_181 (by decide) (fun _ => ?_) (fun h9 => absurd h9 (by decide))
  refine lv_iload_n hx hb dL_tick_228 rfl (lv_at hl 14 rfl) ?_
  refine lv_iconst (v := 2) hx hb dL_tick_229 (by decide) ?_
  refine lv_icmp_ne (tgt := 264) hx hb dL_tick_230 (by decide) (fun _ => ?_) (fun h9 => absurd h9 (by decide))
  refine lv_iload_n hx hb dL_tick_264 rfl (lv_at hl 14 rfl) ?_
  refine lv_iconst (v := 3) hx hb dL_tick_265 (by decide) ?_
  refine lv_icmp_ne (tgt := 311) hx hb dL_tick_266 (by decide) (fun h9 => absurd (by decide) h9) (fun _ => ?_)
  refine lv_iload_n hx hb dL_tick_269 rfl (lv_at hl 16 rfl) ?_
  refine lv_if_eq (tgt := 311) hx hb dL_tick_270 (by decide) (fun _ => ?_) (fun h9 => absurd (by decide) h9)
  refine lv_iload_n hx hb dL_tick_311 rfl (lv_at hl 14 rfl) ?_
  refine lv_iconst (v := 3) hx hb dL_tick_312 (by decide) ?_
  refine lv_icmp_ne (tgt := 385) hx hb dL_tick_313 (by decide) (fun h9 => absurd (by decide) h9) (fun _ => ?_)
  refine lv_fload_n hx hb dL_tick_316 rfl (lv_at hl 13 rfl) ?_
  refine lv_iload hx hb dL_tick_317 (lv_at hl 2 rfl) ?_
  refine lv_aload_n hx hb dL_tick_319 rfl (lv_at hl 15 rfl) ?_
  refine lv_iconst (v := 2) hx hb dL_tick_320 (by decide) ?_
  refine lr_i (rL (rest := [.int (preG u v g 0 16), .float (f 7)]) ⟨hx, hb, hml, hown, hts⟩ (LB_number l G cA A o (u, v, f, g, L) n K ch 2 ) (cwV 1 hts gL_tick_X8_number rfl rfl rfl mdX8_number ⟨Nat.le_of_ble_eq_true rfl, Nat.le_of_ble_eq_true rfl⟩) hA hL rfl hl rfl (Nat.le_of_ble_eq_true rfl) dL_tick_321 ⟨Nat.le_of_ble_eq_true rfl, Nat.le_of_ble_eq_true rfl⟩) hA hL (fun r_321 H locs hr_321 hA hL => ?_)
  replace hr_321 : r_321 = v 2 := hr_321
  subst hr_321
  refine lv_icmp_le (tgt := 335) hx hb dL_tick_324 (by decide) (fun c_324 => ?_) (fun c_324 => ?_)
  · skip
    refine lv_aload_n hx hb dL_tick_335 rfl (lv_at hl 15 rfl) ?_
    refine lv_iconst (v := 1) hx hb dL_tick_336 (by decide) ?_
    refine lr_f (rL (rest := [.float (f 7)]) ⟨hx, hb, hml, hown, hts⟩ (LB_speed l G cA A o (u, v, f, g, L) n K ch 1 ) (cwV 1 hts gL_tick_X8_speed rfl rfl rfl mdX8_speed ⟨Nat.le_of_ble_eq_true rfl, Nat.le_of_ble_eq_true rfl⟩) hA hL rfl hl rfl (Nat.le_of_ble_eq_true rfl) dL_tick_337 ⟨Nat.le_of_ble_eq_true rfl, Nat.le_of_ble_eq_true rfl⟩) hA hL (fun r_337 H locs hr_337 hA hL => ?_)
    replace hr_337 : r_337 = u 1 := hr_337
    subst hr_337
    refine lv_fsub hx hb dL_tick_340 (hGo.2.2.1) ?_
    refine W.eq (g2 := F0 m 341 ls [.float (FP.fsub (f 7) (spF u (scF v (preG u v g 0))))]) (by rw [show spF u (scF v (preG u v g 0)) = u 1 from by unfold scF; rw [if_pos c_324]; rfl]) ?_
    refine lv_fstore (lv' := [(16, .float (FP.fsub (f 7) (spF u (scF v (preG u v g 0))))), (15, .int 3), (4, .int (preG u v g 0 16)), (14, .int 0), (13, .int (cnF g (nI n) (nI K) ((bestK u g) + 1))), (12, .float ((goF u v f g 0) 7)), (11, .int (bestK u g)), (10, .int (oneF (g 12))), (9, .int (g 11)), (8, .int (g 7)), (7, .int (oneF (g 17))), (6, .int (g 15)), (5, .int 0), (3, .float (f 7)), (2, .int 3), (0, .ref o), (1, .int 0)]) hx hb dL_tick_341 hl (by decide) rfl (fun ls hl => ?_)
    refine lv_fload hx hb dL_tick_343 (lv_at hl 0 rfl) ?_
    refine lv_fconst0 hx hb dL_tick_345 ?_
    refine lv_fcmp hx hb dL_tick_346 ?_
    refine W.eq (g2 := F0 m 347 ls [.int (Op.cmpValue (FP.fcmp (FP.fsub (f 7) (spF u (scF v (preG u v g 0)))) FP.fconst0) CmpOp.l)]) (by rw [cmp_gl hsn n32_0]) ?_
    refine lv_if_gt (tgt := 354) hx hb dL_tick_347 (by decide) (fun c_347 => ?_) (fun c_347 => ?_)
    · skip
      refine lv_iconst (v := 3) hx hb dL_tick_354 (by decide) ?_
      refine lv_istore (lv' := [(15, .int 3), (16, .float (FP.fsub (f 7) (spF u (scF v (preG u v g 0))))), (4, .int (preG u v g 0 16)), (14, .int 0), (13, .int (cnF g (nI n) (nI K) ((bestK u g) + 1))), (12, .float ((goF u v f g 0) 7)), (11, .int (bestK u g)), (10, .int (oneF (g 12))), (9, .int (g 11)), (8, .int (g 7)), (7, .int (oneF (g 17))), (6, .int (g 15)), (5, .int 0), (3, .float (f 7)), (2, .int 3), (0, .ref o), (1, .int 0)]) hx hb dL_tick_355 hl (by decide) rfl (fun ls hl => ?_)
      refine lv_fload hx hb dL_tick_357 (lv_at hl 1 rfl) ?_
      refine lv_fconst0 hx hb dL_tick_359 ?_
      refine lv_fcmp hx hb dL_tick_360 ?_
      refine W.eq (g2 := F0 m 361 ls [.int (Op.cmpValue (FP.fcmp (FP.fsub (f 7) (spF u (scF v (preG u v g 0)))) FP.fconst0) CmpOp.l)]) (by rw [cmp_gl hsn n32_0]) ?_
      refine lv_if_gt (tgt := 368) hx hb dL_tick_361 (by decide) (fun c_361 => ?_) (fun c_361 => absurd c_347 c_361)
      refine lv_fload hx hb dL_tick_368 (lv_at hl 1 rfl) ?_
      refine lv_fstore (lv' := [(16, .float (FP.fsub (f 7) (spF u (scF v (preG u v g 0))))), (15, .int 3), (4, .int (preG u v g 0 16)), (14, .int 0), (13, .int (cnF g (nI n) (nI K) ((bestK u g) + 1))), (12, .float ((goF u v f g 0) 7)), (11, .int (bestK u g)), (10, .int (oneF (g 12))), (9, .int (g 11)), (8, .int (g 7)), (7, .int (oneF (g 17))), (6, .int (g 15)), (5, .int 0), (3, .float (f 7)), (2, .int 3), (0, .ref o), (1, .int 0)]) hx hb dL_tick_370 hl (by decide) rfl (fun ls hl => ?_)
      refine lv_iload hx hb dL_tick_372 (lv_at hl 1 rfl) ?_
      refine lv_if_ne (tgt := 381) hx hb dL_tick_374 (by decide) (fun _ => ?_) (fun h9 => absurd h9 (by decide))
      refine lv_iload hx hb dL_tick_381 (lv_at hl 2 rfl) ?_
      refine lv_istore (lv' := [(4, .int (preG u v g 0 16)), (16, .float (FP.fsub (f 7) (spF u (scF v (preG u v g 0))))), (15, .int 3), (14, .int 0), (13, .int (cnF g (nI n) (nI K) ((bestK u g) + 1))), (12, .float ((goF u v f g 0) 7)), (11, .int (bestK u g)), (10, .int (oneF (g 12))), (9, .int (g 11)), (8, .int (g 7)), (7, .int (oneF (g 17))), (6, .int (g 15)), (5, .int 0), (3, .float (f 7)), (2, .int 3), (0, .ref o), (1, .int 0)]) hx hb dL_tick_383 hl (by decide) rfl (fun ls hl => ?_)
      refine lv_iload_n hx hb dL_tick_385 rfl (lv_at hl 14 rfl) ?_
      refine lv_iconst (v := 3) hx hb dL_tick_386 (by decide) ?_
      refine lv_icmp_ne (tgt := 400) hx hb dL_tick_387 (by decide) (fun h9 => absurd (by decide) h9) (fun _ => ?_)
      refine lv_iload hx hb dL_tick_390 (lv_at hl 2 rfl) ?_
      refine lv_iconst (v := 1) hx hb dL_tick_392 (by decide) ?_
      refine lv_icmp_ne (tgt := 400) hx hb dL_tick_393 (by decide) (fun _ => ?_) (fun h9 => absurd h9 (by decide))
      refine lv_iconst (v := 0) hx hb dL_tick_400 (by decide) ?_
      refine lv_istore (lv' := [(17, .int 0), (4, .int (preG u v g 0 16)), (16, .float (FP.fsub (f 7) (spF u (scF v (preG u v g 0))))), (15, .int 3), (14, .int 0), (13, .int (cnF g (nI n) (nI K) ((bestK u g) + 1))), (12, .float ((goF u v f g 0) 7)), (11, .int (bestK u g)), (10, .int (oneF (g 12))), (9, .int (g 11)), (8, .int (g 7)), (7, .int (oneF (g 17))), (6, .int (g 15)), (5, .int 0), (3, .float (f 7)), (2, .int 3), (0, .ref o), (1, .int 0)]) hx hb dL_tick_401 hl (by decide) rfl (fun ls hl => ?_)
      refine lv_iload hx hb dL_tick_403 (lv_at hl 0 rfl) ?_
      refine lv_if_eq (tgt := 428) hx hb dL_tick_405 (by decide) (fun _ => ?_) (fun h9 => absurd (by decide) h9)
      refine lv_iconst (v := 0) hx hb dL_tick_428 (by decide) ?_
      refine lv_istore (lv' := [(18, .int 0), (17, .int 0), (4, .int (preG u v g 0 16)), (16, .float (FP.fsub (f 7) (spF u (scF v (preG u v g 0))))), (15, .int 3), (14, .int 0), (13, .int (cnF g (nI n) (nI K) ((bestK u g) + 1))), (12, .float ((goF u v f g 0) 7)), (11, .int (bestK u g)), (10, .int (oneF (g 12))), (9, .int (g 11)), (8, .int (g 7)), (7, .int (oneF (g 17))), (6, .int (g 15)), (5, .int 0), (3, .float (f 7)), (2, .int 3), (0, .ref o), (1, .int 0)]) hx hb dL_tick_429 hl (by decide) rfl (fun ls hl => ?_)
      refine lv_aload_n hx hb dL_tick_431 rfl (lv_at hl 17 rfl) ?_
      refine lv_iload_n hx hb dL_tick_432 rfl (lv_at hl 18 rfl) ?_
      refine lv_iconst (v := 1) hx hb dL_tick_433 (by decide) ?_
      refine lw_i (rL (rest := []) ⟨hx, hb, hml, hown, hts⟩ (LB_pass_ok l G cA A o (u, v, f, g, L) n K ch hn 0 1 (by decide) (by decide) (by decide) (by decide) hT hG1 hBo) (cwV 2 hts gL_tick_X8_pass rfl rfl rfl mdX8_pass ⟨Nat.le_of_ble_eq_true rfl, Nat.le_of_ble_eq_true rfl⟩) hA hL rfl hl rfl (Nat.le_of_ble_eq_true rfl) dL_tick_434 ⟨Nat.le_of_ble_eq_true rfl, Nat.le_of_ble_eq_true rfl⟩) hA (fun r_434 _ H locs hr_434 hA hL => ?_)
      replace hL : LB G cA A o (u, v, (goF u v f g 0), (goG u v f g 0), (goL u v g L 0)) (recN n) K ch H := hL
      replace hr_434 : r_434 = (goG u v f g 0) 13 := hr_434
      subst hr_434
      refine lv_iload hx hb dL_tick_437 (lv_at hl 4 rfl) ?_
      refine lv_icmp_ne (tgt := 489) hx hb dL_tick_439 (by decide) (fun c_439 => absurd (ht.1.trans (if_neg (Int32.not_le.mpr c_347))) c_439) (fun c_439 => ?_)
      refine lv_aload_n hx hb dL_tick_442 rfl (lv_at hl 17 rfl) ?_
      refine lr_f (rL (rest := []) ⟨hx, hb, hml, hown, hts⟩ (LB_place l G cA A o (u, v, (goF u v f g 0), (goG u v f g 0), (goL u v g L 0)) (recN n) K ch  ) (cwV 0 hts gL_tick_X8_place rfl rfl rfl mdX8_place ⟨Nat.le_of_ble_eq_true rfl, Nat.le_of_ble_eq_true rfl⟩) hA hL rfl hl rfl (Nat.le_of_ble_eq_true rfl) dL_tick_443 ⟨Nat.le_of_ble_eq_true rfl, Nat.le_of_ble_eq_true rfl⟩) hA hL (fun r_443 H locs hr_443 hA hL => ?_)
      replace hr_443 : r_443 = (goF u v f g 0) 7 := hr_443
      subst hr_443
      refine lv_fload hx hb dL_tick_446 (lv_at hl 3 rfl) ?_
      refine lv_fcmp hx hb dL_tick_448 ?_
      refine lv_if_ne (tgt := 489) hx hb dL_tick_449 (by decide) (fun c_449 => absurd (by rw [(ht.2.2.2.trans (if_neg (Int32.not_le.mpr c_347)))]; exact cmp_self (of_vf hsn) _) c_449) (fun c_449 => ?_)
      refine lv_fload hx hb dL_tick_452 (lv_at hl 7 rfl) ?_
      refine lv_fload hx hb dL_tick_454 (lv_at hl 3 rfl) ?_
      refine lv_fcmp hx hb dL_tick_456 ?_
      refine lv_if_ne (tgt := 489) hx hb dL_tick_457 (by decide) (fun c_457 => absurd (by rw [(ht.2.2.2.trans (if_neg (Int32.not_le.mpr c_347)))]; exact cmp_self (of_vf hsn) _) c_457) (fun c_457 => ?_)
      refine lv_aload_n hx hb dL_tick_460 rfl (lv_at hl 17 rfl) ?_
      refine lv_iconst (v := 1) hx hb dL_tick_461 (by decide) ?_
      refine lr_i (rL (rest := []) ⟨hx, hb, hml, hown, hts⟩ (LB_door l G cA A o (u, v, (goF u v f g 0), (goG u v f g 0), (goL u v g L 0)) (recN n) K ch 1 ) (cwV 1 hts gL_tick_X8_door rfl rfl rfl mdX8_door ⟨Nat.le_of_ble_eq_true rfl, Nat.le_of_ble_eq_true rfl⟩) hA hL rfl hl rfl (Nat.le_of_ble_eq_true rfl) dL_tick_462 ⟨Nat.le_of_ble_eq_true rfl, Nat.le_of_ble_eq_true rfl⟩) hA hL (fun r_462 H locs hr_462 hA hL => ?_)
      replace hr_462 : r_462 = (goG u v f g 0) 16 := hr_462
      subst hr_462
      refine lv_iload hx hb dL_tick_465 (lv_at hl 2 rfl) ?_
      refine lv_icmp_ne (tgt := 489) hx hb dL_tick_467 (by decide) (fun c_467 => absurd (ht.2.1.trans (if_neg (Int32.not_le.mpr c_347))) c_467) (fun c_467 => ?_)
      refine lv_aload_n hx hb dL_tick_470 rfl (lv_at hl 17 rfl) ?_
      refine lv_iconst (v := 2) hx hb dL_tick_471 (by decide) ?_
      refine lr_i (rL (rest := []) ⟨hx, hb, hml, hown, hts⟩ (LB_door l G cA A o (u, v, (goF u v f g 0), (goG u v f g 0), (goL u v g L 0)) (recN n) K ch 2 ) (cwV 1 hts gL_tick_X8_door rfl rfl rfl mdX8_door ⟨Nat.le_of_ble_eq_true rfl, Nat.le_of_ble_eq_true rfl⟩) hA hL rfl hl rfl (Nat.le_of_ble_eq_true rfl) dL_tick_472 ⟨Nat.le_of_ble_eq_true rfl, Nat.le_of_ble_eq_true rfl⟩) hA hL (fun r_472 H locs hr_472 hA hL => ?_)
      replace hr_472 : r_472 = oneF ((goG u v f g 0) 17) := hr_472
      subst hr_472
      refine lv_iload hx hb dL_tick_475 (lv_at hl 0 rfl) ?_
      refine lv_if_eq (tgt := 484) hx hb dL_tick_477 (by decide) (fun _ => ?_) (fun h9 => absurd (by decide) h9)
      refine lv_iload hx hb dL_tick_484 (lv_at hl 12 rfl) ?_
      refine lv_icmp_eq (tgt := 491) hx hb dL_tick_486 (by decide) (fun c_486 => ?_) (fun c_486 => absurd (by rw [ht.2.2.1] <;> rfl) c_486)
      refine lv_iload hx hb dL_tick_491 (lv_at hl 5 rfl) ?_
      refine lv_if_eq (tgt := 554) hx hb dL_tick_493 (by decide) (fun _ => ?_) (fun h9 => absurd (by decide) h9)
      refine lv_iload_n hx hb dL_tick_554 rfl (lv_at hl 18 rfl) ?_
      refine lv_if_eq (tgt := 599) hx hb dL_tick_555 (by decide) (fun _ => ?_) (fun h9 => absurd (by decide) h9)
      refine lv_iconst (v := 1) hx hb dL_tick_599 (by decide) ?_
      refine lv_goto (tgt := 604) hx hb dL_tick_600 (by decide) ?_
      exact en_l (post := fun r (_ : Unit) => r = 1) (B := fun _ H => LB G cA A o (u, v, (goF u v f g 0), (goG u v f g 0), (goL u v g L 0)) (recN n) K ch H) () hx hb hr hlocks hA rfl hL dL_tick_604
    · skip
      refine lv_iconst (v := 0) hx hb dL_tick_350 (by decide) ?_
      refine lv_goto (tgt := 355) hx hb dL_tick_351 (by decide) ?_
      refine lv_istore (lv' := [(15, .int 0), (16, .float (FP.fsub (f 7) (spF u (scF v (preG u v g 0))))), (4, .int (preG u v g 0 16)), (14, .int 0), (13, .int (cnF g (nI n) (nI K) ((bestK u g) + 1))), (12, .float ((goF u v f g 0) 7)), (11, .int (bestK u g)), (10, .int (oneF (g 12))), (9, .int (g 11)), (8, .int (g 7)), (7, .int (oneF (g 17))), (6, .int (g 15)), (5, .int 0), (3, .float (f 7)), (2, .int 3), (0, .ref o), (1, .int 0)]) hx hb dL_tick_355 hl (by decide) rfl (fun ls hl => ?_)
      refine lv_fload hx hb dL_tick_357 (lv_at hl 1 rfl) ?_
      refine lv_fconst0 hx hb dL_tick_359 ?_
      refine lv_fcmp hx hb dL_tick_360 ?_
      refine W.eq (g2 := F0 m 361 ls [.int (Op.cmpValue (FP.fcmp (FP.fsub (f 7) (spF u (scF v (preG u v g 0)))) FP.fconst0) CmpOp.l)]) (by rw [cmp_gl hsn n32_0]) ?_
      refine lv_if_gt (tgt := 368) hx hb dL_tick_361 (by decide) (fun c_361_1 => absurd c_361_1 c_347) (fun c_361_1 => ?_)
      refine lv_fconst0 hx hb dL_tick_364 ?_
      refine lv_goto (tgt := 370) hx hb dL_tick_365 (by decide) ?_
      refine lv_fstore (lv' := [(16, .float FP.fconst0), (15, .int 0), (4, .int (preG u v g 0 16)), (14, .int 0), (13, .int (cnF g (nI n) (nI K) ((bestK u g) + 1))), (12, .float ((goF u v f g 0) 7)), (11, .int (bestK u g)), (10, .int (oneF (g 12))), (9, .int (g 11)), (8, .int (g 7)), (7, .int (oneF (g 17))), (6, .int (g 15)), (5, .int 0), (3, .float (f 7)), (2, .int 3), (0, .ref o), (1, .int 0)]) hx hb dL_tick_370 hl (by decide) rfl (fun ls hl => ?_)
      refine lv_iload hx hb dL_tick_372 (lv_at hl 1 rfl) ?_
      refine lv_if_ne (tgt := 381) hx hb dL_tick_374 (by decide) (fun h9 => absurd (by decide) h9) (fun _ => ?_)
      refine lv_iconst (v := 0) hx hb dL_tick_377 (by decide) ?_
      refine lv_goto (tgt := 383) hx hb dL_tick_378 (by decide) ?_
      refine lv_istore (lv' := [(4, .int 0), (16, .float FP.fconst0), (15, .int 0), (14, .int 0), (13, .int (cnF g (nI n) (nI K) ((bestK u g) + 1))), (12, .float ((goF u v f g 0) 7)), (11, .int (bestK u g)), (10, .int (oneF (g 12))), (9, .int (g 11)), (8, .int (g 7)), (7, .int (oneF (g 17))), (6, .int (g 15)), (5, .int 0), (3, .float (f 7)), (2, .int 3), (0, .ref o), (1, .int 0)]) hx hb dL_tick_383 hl (by decide) rfl (fun ls hl => ?_)
      refine lv_iload_n hx hb dL_tick_385 rfl (lv_at hl 14 rfl) ?_
      refine lv_iconst (v := 3) hx hb dL_tick_386 (by decide) ?_
      refine lv_icmp_ne (tgt := 400) hx hb dL_tick_387 (by decide) (fun h9 => absurd (by decide) h9) (fun _ => ?_)
      refine lv_iload hx hb dL_tick_390 (lv_at hl 2 rfl) ?_
      refine lv_iconst (v := 1) hx hb dL_tick_392 (by decide) ?_
      refine lv_icmp_ne (tgt := 400) hx hb dL_tick_393 (by decide) (fun _ => ?_) (fun h9 => absurd h9 (by decide))
      refine lv_iconst (v := 0) hx hb dL_tick_400 (by decide) ?_
      refine lv_istore (lv' := [(17, .int 0), (4, .int 0), (16, .float FP.fconst0), (15, .int 0), (14, .int 0), (13, .int (cnF g (nI n) (nI K) ((bestK u g) + 1))), (12, .float ((goF u v f g 0) 7)), (11, .int (bestK u g)), (10, .int (oneF (g 12))), (9, .int (g 11)), (8, .int (g 7)), (7, .int (oneF (g 17))), (6, .int (g 15)), (5, .int 0), (3, .float (f 7)), (2, .int 3), (0, .ref o), (1, .int 0)]) hx hb dL_tick_401 hl (by decide) rfl (fun ls hl => ?_)
      refine lv_iload hx hb dL_tick_403 (lv_at hl 0 rfl) ?_
      refine lv_if_eq (tgt := 428) hx hb dL_tick_405 (by decide) (fun _ => ?_) (fun h9 => absurd (by decide) h9)
      refine lv_iconst (v := 0) hx hb dL_tick_428 (by decide) ?_
      refine lv_istore (lv' := [(18, .int 0), (17, .int 0), (4, .int 0), (16, .float FP.fconst0), (15, .int 0), (14, .int 0), (13, .int (cnF g (nI n) (nI K) ((bestK u g) + 1))), (12, .float ((goF u v f g 0) 7)), (11, .int (bestK u g)), (10, .int (oneF (g 12))), (9, .int (g 11)), (8, .int (g 7)), (7, .int (oneF (g 17))), (6, .int (g 15)), (5, .int 0), (3, .float (f 7)), (2, .int 3), (0, .ref o), (1, .int 0)]) hx hb dL_tick_429 hl (by decide) rfl (fun ls hl => ?_)
      refine lv_aload_n hx hb dL_tick_431 rfl (lv_at hl 17 rfl) ?_
      refine lv_iload_n hx hb dL_tick_432 rfl (lv_at hl 18 rfl) ?_
      refine lv_iconst (v := 1) hx hb dL_tick_433 (by decide) ?_
      refine lw_i (rL (rest := []) ⟨hx, hb, hml, hown, hts⟩ (LB_pass_ok l G cA A o (u, v, f, g, L) n K ch hn 0 1 (by decide) (by decide) (by decide) (by decide) hT hG1 hBo) (cwV 2 hts gL_tick_X8_pass rfl rfl rfl mdX8_pass ⟨Nat.le_of_ble_eq_true rfl, Nat.le_of_ble_eq_true rfl⟩) hA hL rfl hl rfl (Nat.le_of_ble_eq_true rfl) dL_tick_434 ⟨Nat.le_of_ble_eq_true rfl, Nat.le_of_ble_eq_true rfl⟩) hA (fun r_434_1 _ H locs hr_434_1 hA hL => ?_)
      replace hL : LB G cA A o (u, v, (goF u v f g 0), (goG u v f g 0), (goL u v g L 0)) (recN n) K ch H := hL
      replace hr_434_1 : r_434_1 = (goG u v f g 0) 13 := hr_434_1
      subst hr_434_1
      refine lv_iload hx hb dL_tick_437 (lv_at hl 4 rfl) ?_
      refine lv_icmp_ne (tgt := 489) hx hb dL_tick_439 (by decide) (fun c_439_1 => absurd (ht.1.trans (if_pos (Int32.not_lt.mp c_347))) c_439_1) (fun c_439_1 => ?_)
      refine lv_aload_n hx hb dL_tick_442 rfl (lv_at hl 17 rfl) ?_
      refine lr_f (rL (rest := []) ⟨hx, hb, hml, hown, hts⟩ (LB_place l G cA A o (u, v, (goF u v f g 0), (goG u v f g 0), (goL u v g L 0)) (recN n) K ch  ) (cwV 0 hts gL_tick_X8_place rfl rfl rfl mdX8_place ⟨Nat.le_of_ble_eq_true rfl, Nat.le_of_ble_eq_true rfl⟩) hA hL rfl hl rfl (Nat.le_of_ble_eq_true rfl) dL_tick_443 ⟨Nat.le_of_ble_eq_true rfl, Nat.le_of_ble_eq_true rfl⟩) hA hL (fun r_443_1 H locs hr_443_1 hA hL => ?_)
      replace hr_443_1 : r_443_1 = (goF u v f g 0) 7 := hr_443_1
      subst hr_443_1
      refine lv_fload hx hb dL_tick_446 (lv_at hl 3 rfl) ?_
      refine lv_fcmp hx hb dL_tick_448 ?_
      refine lv_if_ne (tgt := 489) hx hb dL_tick_449 (by decide) (fun c_449_1 => absurd (by rw [(ht.2.2.2.trans (if_pos (Int32.not_lt.mp c_347)))]; exact cmp_self (of_vf n32_0) _) c_449_1) (fun c_449_1 => ?_)
      refine lv_fload hx hb dL_tick_452 (lv_at hl 7 rfl) ?_
      refine lv_fload hx hb dL_tick_454 (lv_at hl 3 rfl) ?_
      refine lv_fcmp hx hb dL_tick_456 ?_
      refine lv_if_ne (tgt := 489) hx hb dL_tick_457 (by decide) (fun c_457_1 => absurd (by rw [(ht.2.2.2.trans (if_pos (Int32.not_lt.mp c_347)))]; exact cmp_self (of_vf n32_0) _) c_457_1) (fun c_457_1 => ?_)
      refine lv_aload_n hx hb dL_tick_460 rfl (lv_at hl 17 rfl) ?_
      refine lv_iconst (v := 1) hx hb dL_tick_461 (by decide) ?_
      refine lr_i (rL (rest := []) ⟨hx, hb, hml, hown, hts⟩ (LB_door l G cA A o (u, v, (goF u v f g 0), (goG u v f g 0), (goL u v g L 0)) (recN n) K ch 1 ) (cwV 1 hts gL_tick_X8_door rfl rfl rfl mdX8_door ⟨Nat.le_of_ble_eq_true rfl, Nat.le_of_ble_eq_true rfl⟩) hA hL rfl hl rfl (Nat.le_of_ble_eq_true rfl) dL_tick_462 ⟨Nat.le_of_ble_eq_true rfl, Nat.le_of_ble_eq_true rfl⟩) hA hL (fun r_462_1 H locs hr_462_1 hA hL => ?_)
      replace hr_462_1 : r_462_1 = (goG u v f g 0) 16 := hr_462_1
      subst hr_462_1
      refine lv_iload hx hb dL_tick_465 (lv_at hl 2 rfl) ?_
      refine lv_icmp_ne (tgt := 489) hx hb dL_tick_467 (by decide) (fun c_467_1 => absurd (ht.2.1.trans (if_pos (Int32.not_lt.mp c_347))) c_467_1) (fun c_467_1 => ?_)
      refine lv_aload_n hx hb dL_tick_470 rfl (lv_at hl 17 rfl) ?_
      refine lv_iconst (v := 2) hx hb dL_tick_471 (by decide) ?_
      refine lr_i (rL (rest := []) ⟨hx, hb, hml, hown, hts⟩ (LB_door l G cA A o (u, v, (goF u v f g 0), (goG u v f g 0), (goL u v g L 0)) (recN n) K ch 2 ) (cwV 1 hts gL_tick_X8_door rfl rfl rfl mdX8_door ⟨Nat.le_of_ble_eq_true rfl, Nat.le_of_ble_eq_true rfl⟩) hA hL rfl hl rfl (Nat.le_of_ble_eq_true rfl) dL_tick_472 ⟨Nat.le_of_ble_eq_true rfl, Nat.le_of_ble_eq_true rfl⟩) hA hL (fun r_472_1 H locs hr_472_1 hA hL => ?_)
      replace hr_472_1 : r_472_1 = oneF ((goG u v f g 0) 17) := hr_472_1
      subst hr_472_1
      refine lv_iload hx hb dL_tick_475 (lv_at hl 0 rfl) ?_
      refine lv_if_eq (tgt := 484) hx hb dL_tick_477 (by decide) (fun _ => ?_) (fun h9 => absurd (by decide) h9)
      refine lv_iload hx hb dL_tick_484 (lv_at hl 12 rfl) ?_
      refine lv_icmp_eq (tgt := 491) hx hb dL_tick_486 (by decide) (fun c_486_1 => ?_) (fun c_486_1 => absurd (by rw [ht.2.2.1] <;> rfl) c_486_1)
      refine lv_iload hx hb dL_tick_491 (lv_at hl 5 rfl) ?_
      refine lv_if_eq (tgt := 554) hx hb dL_tick_493 (by decide) (fun _ => ?_) (fun h9 => absurd (by decide) h9)
      refine lv_iload_n hx hb dL_tick_554 rfl (lv_at hl 18 rfl) ?_
      refine lv_if_eq (tgt := 599) hx hb dL_tick_555 (by decide) (fun _ => ?_) (fun h9 => absurd (by decide) h9)
      refine lv_iconst (v := 1) hx hb dL_tick_599 (by decide) ?_
      refine lv_goto (tgt := 604) hx hb dL_tick_600 (by decide) ?_
      exact en_l (post := fun r (_ : Unit) => r = 1) (B := fun _ H => LB G cA A o (u, v, (goF u v f g 0), (goG u v f g 0), (goL u v g L 0)) (recN n) K ch H) () hx hb hr hlocks hA rfl hL dL_tick_604
  · skip
    refine lv_aload_n hx hb dL_tick_327 rfl (lv_at hl 15 rfl) ?_
    refine lv_iconst (v := 2) hx hb dL_tick_328 (by decide) ?_
    refine lr_f (rL (rest := [.float (f 7)]) ⟨hx, hb, hml, hown, hts⟩ (LB_speed l G cA A o (u, v, f, g, L) n K ch 2 ) (cwV 1 hts gL_tick_X8_speed rfl rfl rfl mdX8_speed ⟨Nat.le_of_ble_eq_true rfl, Nat.le_of_ble_eq_true rfl⟩) hA hL rfl hl rfl (Nat.le_of_ble_eq_true rfl) dL_tick_329 ⟨Nat.le_of_ble_eq_true rfl, Nat.le_of_ble_eq_true rfl⟩) hA hL (fun r_329 H locs hr_329 hA hL => ?_)
    replace hr_329 : r_329 = u 2 := hr_329
    subst hr_329
    refine lv_goto (tgt := 340) hx hb dL_tick_332 (by decide) ?_
    refine lv_fsub hx hb dL_tick_340 (hGo.2.2.2) ?_
    refine W.eq (g2 := F0 m 341 ls [.float (FP.fsub (f 7) (spF u (scF v (preG u v g 0))))]) (by rw [show spF u (scF v (preG u v g 0)) = u 2 from by unfold scF; rw [if_neg c_324]; rfl]) ?_
    refine lv_fstore (lv' := [(16, .float (FP.fsub (f 7) (spF u (scF v (preG u v g 0))))), (15, .int 3), (4, .int (preG u v g 0 16)), (14, .int 0), (13, .int (cnF g (nI n) (nI K) ((bestK u g) + 1))), (12, .float ((goF u v f g 0) 7)), (11, .int (bestK u g)), (10, .int (oneF (g 12))), (9, .int (g 11)), (8, .int (g 7)), (7, .int (oneF (g 17))), (6, .int (g 15)), (5, .int 0), (3, .float (f 7)), (2, .int 3), (0, .ref o), (1, .int 0)]) hx hb dL_tick_341 hl (by decide) rfl (fun ls hl => ?_)
    refine lv_fload hx hb dL_tick_343 (lv_at hl 0 rfl) ?_
    refine lv_fconst0 hx hb dL_tick_345 ?_
    refine lv_fcmp hx hb dL_tick_346 ?_
    refine W.eq (g2 := F0 m 347 ls [.int (Op.cmpValue (FP.fcmp (FP.fsub (f 7) (spF u (scF v (preG u v g 0)))) FP.fconst0) CmpOp.l)]) (by rw [cmp_gl hsn n32_0]) ?_
    refine lv_if_gt (tgt := 354) hx hb dL_tick_347 (by decide) (fun c_347_1 => ?_) (fun c_347_1 => ?_)
    · skip
      refine lv_iconst (v := 3) hx hb dL_tick_354 (by decide) ?_
      refine lv_istore (lv' := [(15, .int 3), (16, .float (FP.fsub (f 7) (spF u (scF v (preG u v g 0))))), (4, .int (preG u v g 0 16)), (14, .int 0), (13, .int (cnF g (nI n) (nI K) ((bestK u g) + 1))), (12, .float ((goF u v f g 0) 7)), (11, .int (bestK u g)), (10, .int (oneF (g 12))), (9, .int (g 11)), (8, .int (g 7)), (7, .int (oneF (g 17))), (6, .int (g 15)), (5, .int 0), (3, .float (f 7)), (2, .int 3), (0, .ref o), (1, .int 0)]) hx hb dL_tick_355 hl (by decide) rfl (fun ls hl => ?_)
      refine lv_fload hx hb dL_tick_357 (lv_at hl 1 rfl) ?_
      refine lv_fconst0 hx hb dL_tick_359 ?_
      refine lv_fcmp hx hb dL_tick_360 ?_
      refine W.eq (g2 := F0 m 361 ls [.int (Op.cmpValue (FP.fcmp (FP.fsub (f 7) (spF u (scF v (preG u v g 0)))) FP.fconst0) CmpOp.l)]) (by rw [cmp_gl hsn n32_0]) ?_
      refine lv_if_gt (tgt := 368) hx hb dL_tick_361 (by decide) (fun c_361_2 => ?_) (fun c_361_2 => absurd c_347_1 c_361_2)
      refine lv_fload hx hb dL_tick_368 (lv_at hl 1 rfl) ?_
      refine lv_fstore (lv' := [(16, .float (FP.fsub (f 7) (spF u (scF v (preG u v g 0))))), (15, .int 3), (4, .int (preG u v g 0 16)), (14, .int 0), (13, .int (cnF g (nI n) (nI K) ((bestK u g) + 1))), (12, .float ((goF u v f g 0) 7)), (11, .int (bestK u g)), (10, .int (oneF (g 12))), (9, .int (g 11)), (8, .int (g 7)), (7, .int (oneF (g 17))), (6, .int (g 15)), (5, .int 0), (3, .float (f 7)), (2, .int 3), (0, .ref o), (1, .int 0)]) hx hb dL_tick_370 hl (by decide) rfl (fun ls hl => ?_)
      refine lv_iload hx hb dL_tick_372 (lv_at hl 1 rfl) ?_
      refine lv_if_ne (tgt := 381) hx hb dL_tick_374 (by decide) (fun _ => ?_) (fun h9 => absurd h9 (by decide))
      refine lv_iload hx hb dL_tick_381 (lv_at hl 2 rfl) ?_
      refine lv_istore (lv' := [(4, .int (preG u v g 0 16)), (16, .float (FP.fsub (f 7) (spF u (scF v (preG u v g 0))))), (15, .int 3), (14, .int 0), (13, .int (cnF g (nI n) (nI K) ((bestK u g) + 1))), (12, .float ((goF u v f g 0) 7)), (11, .int (bestK u g)), (10, .int (oneF (g 12))), (9, .int (g 11)), (8, .int (g 7)), (7, .int (oneF (g 17))), (6, .int (g 15)), (5, .int 0), (3, .float (f 7)), (2, .int 3), (0, .ref o), (1, .int 0)]) hx hb dL_tick_383 hl (by decide) rfl (fun ls hl => ?_)
      refine lv_iload_n hx hb dL_tick_385 rfl (lv_at hl 14 rfl) ?_
      refine lv_iconst (v := 3) hx hb dL_tick_386 (by decide) ?_
      refine lv_icmp_ne (tgt := 400) hx hb dL_tick_387 (by decide) (fun h9 => absurd (by decide) h9) (fun _ => ?_)
      refine lv_iload hx hb dL_tick_390 (lv_at hl 2 rfl) ?_
      refine lv_iconst (v := 1) hx hb dL_tick_392 (by decide) ?_
      refine lv_icmp_ne (tgt := 400) hx hb dL_tick_393 (by decide) (fun _ => ?_) (fun h9 => absurd h9 (by decide))
      refine lv_iconst (v := 0) hx hb dL_tick_400 (by decide) ?_
      refine lv_istore (lv' := [(17, .int 0), (4, .int (preG u v g 0 16)), (16, .float (FP.fsub (f 7) (spF u (scF v (preG u v g 0))))), (15, .int 3), (14, .int 0), (13, .int (cnF g (nI n) (nI K) ((bestK u g) + 1))), (12, .float ((goF u v f g 0) 7)), (11, .int (bestK u g)), (10, .int (oneF (g 12))), (9, .int (g 11)), (8, .int (g 7)), (7, .int (oneF (g 17))), (6, .int (g 15)), (5, .int 0), (3, .float (f 7)), (2, .int 3), (0, .ref o), (1, .int 0)]) hx hb dL_tick_401 hl (by decide) rfl (fun ls hl => ?_)
      refine lv_iload hx hb dL_tick_403 (lv_at hl 0 rfl) ?_
      refine lv_if_eq (tgt := 428) hx hb dL_tick_405 (by decide) (fun _ => ?_) (fun h9 => absurd (by decide) h9)
      refine lv_iconst (v := 0) hx hb dL_tick_428 (by decide) ?_
      refine lv_istore (lv' := [(18, .int 0), (17, .int 0), (4, .int (preG u v g 0 16)), (16, .float (FP.fsub (f 7) (spF u (scF v (preG u v g 0))))), (15, .int 3), (14, .int 0), (13, .int (cnF g (nI n) (nI K) ((bestK u g) + 1))), (12, .float ((goF u v f g 0) 7)), (11, .int (bestK u g)), (10, .int (oneF (g 12))), (9, .int (g 11)), (8, .int (g 7)), (7, .int (oneF (g 17))), (6, .int (g 15)), (5, .int 0), (3, .float (f 7)), (2, .int 3), (0, .ref o), (1, .int 0)]) hx hb dL_tick_429 hl (by decide) rfl (fun ls hl => ?_)
      refine lv_aload_n hx hb dL_tick_431 rfl (lv_at hl 17 rfl) ?_
      refine lv_iload_n hx hb dL_tick_432 rfl (lv_at hl 18 rfl) ?_
      refine lv_iconst (v := 1) hx hb dL_tick_433 (by decide) ?_
      refine lw_i (rL (rest := []) ⟨hx, hb, hml, hown, hts⟩ (LB_pass_ok l G cA A o (u, v, f, g, L) n K ch hn 0 1 (by decide) (by decide) (by decide) (by decide) hT hG1 hBo) (cwV 2 hts gL_tick_X8_pass rfl rfl rfl mdX8_pass ⟨Nat.le_of_ble_eq_true rfl, Nat.le_of_ble_eq_true rfl⟩) hA hL rfl hl rfl (Nat.le_of_ble_eq_true rfl) dL_tick_434 ⟨Nat.le_of_ble_eq_true rfl, Nat.le_of_ble_eq_true rfl⟩) hA (fun r_434_2 _ H locs hr_434_2 hA hL => ?_)
      replace hL : LB G cA A o (u, v, (goF u v f g 0), (goG u v f g 0), (goL u v g L 0)) (recN n) K ch H := hL
      replace hr_434_2 : r_434_2 = (goG u v f g 0) 13 := hr_434_2
      subst hr_434_2
      refine lv_iload hx hb dL_tick_437 (lv_at hl 4 rfl) ?_
      refine lv_icmp_ne (tgt := 489) hx hb dL_tick_439 (by decide) (fun c_439_2 => absurd (ht.1.trans (if_neg (Int32.not_le.mpr c_347_1))) c_439_2) (fun c_439_2 => ?_)
      refine lv_aload_n hx hb dL_tick_442 rfl (lv_at hl 17 rfl) ?_
      refine lr_f (rL (rest := []) ⟨hx, hb, hml, hown, hts⟩ (LB_place l G cA A o (u, v, (goF u v f g 0), (goG u v f g 0), (goL u v g L 0)) (recN n) K ch  ) (cwV 0 hts gL_tick_X8_place rfl rfl rfl mdX8_place ⟨Nat.le_of_ble_eq_true rfl, Nat.le_of_ble_eq_true rfl⟩) hA hL rfl hl rfl (Nat.le_of_ble_eq_true rfl) dL_tick_443 ⟨Nat.le_of_ble_eq_true rfl, Nat.le_of_ble_eq_true rfl⟩) hA hL (fun r_443_2 H locs hr_443_2 hA hL => ?_)
      replace hr_443_2 : r_443_2 = (goF u v f g 0) 7 := hr_443_2
      subst hr_443_2
      refine lv_fload hx hb dL_tick_446 (lv_at hl 3 rfl) ?_
      refine lv_fcmp hx hb dL_tick_448 ?_
      refine lv_if_ne (tgt := 489) hx hb dL_tick_449 (by decide) (fun c_449_2 => absurd (by rw [(ht.2.2.2.trans (if_neg (Int32.not_le.mpr c_347_1)))]; exact cmp_self (of_vf hsn) _) c_449_2) (fun c_449_2 => ?_)
      refine lv_fload hx hb dL_tick_452 (lv_at hl 7 rfl) ?_
      refine lv_fload hx hb dL_tick_454 (lv_at hl 3 rfl) ?_
      refine lv_fcmp hx hb dL_tick_456 ?_
      refine lv_if_ne (tgt := 489) hx hb dL_tick_457 (by decide) (fun c_457_2 => absurd (by rw [(ht.2.2.2.trans (if_neg (Int32.not_le.mpr c_347_1)))]; exact cmp_self (of_vf hsn) _) c_457_2) (fun c_457_2 => ?_)
      refine lv_aload_n hx hb dL_tick_460 rfl (lv_at hl 17 rfl) ?_
      refine lv_iconst (v := 1) hx hb dL_tick_461 (by decide) ?_
      refine lr_i (rL (rest := []) ⟨hx, hb, hml, hown, hts⟩ (LB_door l G cA A o (u, v, (goF u v f g 0), (goG u v f g 0), (goL u v g L 0)) (recN n) K ch 1 ) (cwV 1 hts gL_tick_X8_door rfl rfl rfl mdX8_door ⟨Nat.le_of_ble_eq_true rfl, Nat.le_of_ble_eq_true rfl⟩) hA hL rfl hl rfl (Nat.le_of_ble_eq_true rfl) dL_tick_462 ⟨Nat.le_of_ble_eq_true rfl, Nat.le_of_ble_eq_true rfl⟩) hA hL (fun r_462_2 H locs hr_462_2 hA hL => ?_)
      replace hr_462_2 : r_462_2 = (goG u v f g 0) 16 := hr_462_2
      subst hr_462_2
      refine lv_iload hx hb dL_tick_465 (lv_at hl 2 rfl) ?_
      refine lv_icmp_ne (tgt := 489) hx hb dL_tick_467 (by decide) (fun c_467_2 => absurd (ht.2.1.trans (if_neg (Int32.not_le.mpr c_347_1))) c_467_2) (fun c_467_2 => ?_)
      refine lv_aload_n hx hb dL_tick_470 rfl (lv_at hl 17 rfl) ?_
      refine lv_iconst (v := 2) hx hb dL_tick_471 (by decide) ?_
      refine lr_i (rL (rest := []) ⟨hx, hb, hml, hown, hts⟩ (LB_door l G cA A o (u, v, (goF u v f g 0), (goG u v f g 0), (goL u v g L 0)) (recN n) K ch 2 ) (cwV 1 hts gL_tick_X8_door rfl rfl rfl mdX8_door ⟨Nat.le_of_ble_eq_true rfl, Nat.le_of_ble_eq_true rfl⟩) hA hL rfl hl rfl (Nat.le_of_ble_eq_true rfl) dL_tick_472 ⟨Nat.le_of_ble_eq_true rfl, Nat.le_of_ble_eq_true rfl⟩) hA hL (fun r_472_2 H locs hr_472_2 hA hL => ?_)
      replace hr_472_2 : r_472_2 = oneF ((goG u v f g 0) 17) := hr_472_2
      subst hr_472_2
      refine lv_iload hx hb dL_tick_475 (lv_at hl 0 rfl) ?_
      refine lv_if_eq (tgt := 484) hx hb dL_tick_477 (by decide) (fun _ => ?_) (fun h9 => absurd (by decide) h9)
      refine lv_iload hx hb dL_tick_484 (lv_at hl 12 rfl) ?_
      refine lv_icmp_eq (tgt := 491) hx hb dL_tick_486 (by decide) (fun c_486_2 => ?_) (fun c_486_2 => absurd (by rw [ht.2.2.1] <;> rfl) c_486_2)
      refine lv_iload hx hb dL_tick_491 (lv_at hl 5 rfl) ?_
      refine lv_if_eq (tgt := 554) hx hb dL_tick_493 (by decide) (fun _ => ?_) (fun h9 => absurd (by decide) h9)
      refine lv_iload_n hx hb dL_tick_554 rfl (lv_at hl 18 rfl) ?_
      refine lv_if_eq (tgt := 599) hx hb dL_tick_555 (by decide) (fun _ => ?_) (fun h9 => absurd (by decide) h9)
      refine lv_iconst (v := 1) hx hb dL_tick_599 (by decide) ?_
      refine lv_goto (tgt := 604) hx hb dL_tick_600 (by decide) ?_
      exact en_l (post := fun r (_ : Unit) => r = 1) (B := fun _ H => LB G cA A o (u, v, (goF u v f g 0), (goG u v f g 0), (goL u v g L 0)) (recN n) K ch H) () hx hb hr hlocks hA rfl hL dL_tick_604
    · skip
      refine lv_iconst (v := 0) hx hb dL_tick_350 (by decide) ?_
      refine lv_goto (tgt := 355) hx hb dL_tick_351 (by decide) ?_
      refine lv_istore (lv' := [(15, .int 0), (16, .float (FP.fsub (f 7) (spF u (scF v (preG u v g 0))))), (4, .int (preG u v g 0 16)), (14, .int 0), (13, .int (cnF g (nI n) (nI K) ((bestK u g) + 1))), (12, .float ((goF u v f g 0) 7)), (11, .int (bestK u g)), (10, .int (oneF (g 12))), (9, .int (g 11)), (8, .int (g 7)), (7, .int (oneF (g 17))), (6, .int (g 15)), (5, .int 0), (3, .float (f 7)), (2, .int 3), (0, .ref o), (1, .int 0)]) hx hb dL_tick_355 hl (by decide) rfl (fun ls hl => ?_)
      refine lv_fload hx hb dL_tick_357 (lv_at hl 1 rfl) ?_
      refine lv_fconst0 hx hb dL_tick_359 ?_
      refine lv_fcmp hx hb dL_tick_360 ?_
      refine W.eq (g2 := F0 m 361 ls [.int (Op.cmpValue (FP.fcmp (FP.fsub (f 7) (spF u (scF v (preG u v g 0)))) FP.fconst0) CmpOp.l)]) (by rw [cmp_gl hsn n32_0]) ?_
      refine lv_if_gt (tgt := 368) hx hb dL_tick_361 (by decide) (fun c_361_3 => absurd c_361_3 c_347_1) (fun c_361_3 => ?_)
      refine lv_fconst0 hx hb dL_tick_364 ?_
      refine lv_goto (tgt := 370) hx hb dL_tick_365 (by decide) ?_
      refine lv_fstore (lv' := [(16, .float FP.fconst0), (15, .int 0), (4, .int (preG u v g 0 16)), (14, .int 0), (13, .int (cnF g (nI n) (nI K) ((bestK u g) + 1))), (12, .float ((goF u v f g 0) 7)), (11, .int (bestK u g)), (10, .int (oneF (g 12))), (9, .int (g 11)), (8, .int (g 7)), (7, .int (oneF (g 17))), (6, .int (g 15)), (5, .int 0), (3, .float (f 7)), (2, .int 3), (0, .ref o), (1, .int 0)]) hx hb dL_tick_370 hl (by decide) rfl (fun ls hl => ?_)
      refine lv_iload hx hb dL_tick_372 (lv_at hl 1 rfl) ?_
      refine lv_if_ne (tgt := 381) hx hb dL_tick_374 (by decide) (fun h9 => absurd (by decide) h9) (fun _ => ?_)
      refine lv_iconst (v := 0) hx hb dL_tick_377 (by decide) ?_
      refine lv_goto (tgt := 383) hx hb dL_tick_378 (by decide) ?_
      refine lv_istore (lv' := [(4, .int 0), (16, .float FP.fconst0), (15, .int 0), (14, .int 0), (13, .int (cnF g (nI n) (nI K) ((bestK u g) + 1))), (12, .float ((goF u v f g 0) 7)), (11, .int (bestK u g)), (10, .int (oneF (g 12))), (9, .int (g 11)), (8, .int (g 7)), (7, .int (oneF (g 17))), (6, .int (g 15)), (5, .int 0), (3, .float (f 7)), (2, .int 3), (0, .ref o), (1, .int 0)]) hx hb dL_tick_383 hl (by decide) rfl (fun ls hl => ?_)
      refine lv_iload_n hx hb dL_tick_385 rfl (lv_at hl 14 rfl) ?_
      refine lv_iconst (v := 3) hx hb dL_tick_386 (by decide) ?_
      refine lv_icmp_ne (tgt := 400) hx hb dL_tick_387 (by decide) (fun h9 => absurd (by decide) h9) (fun _ => ?_)
      refine lv_iload hx hb dL_tick_390 (lv_at hl 2 rfl) ?_
      refine lv_iconst (v := 1) hx hb dL_tick_392 (by decide) ?_
      refine lv_icmp_ne (tgt := 400) hx hb dL_tick_393 (by decide) (fun _ => ?_) (fun h9 => absurd h9 (by decide))
      refine lv_iconst (v := 0) hx hb dL_tick_400 (by decide) ?_
      refine lv_istore (lv' := [(17, .int 0), (4, .int 0), (16, .float FP.fconst0), (15, .int 0), (14, .int 0), (13, .int (cnF g (nI n) (nI K) ((bestK u g) + 1))), (12, .float ((goF u v f g 0) 7)), (11, .int (bestK u g)), (10, .int (oneF (g 12))), (9, .int (g 11)), (8, .int (g 7)), (7, .int (oneF (g 17))), (6, .int (g 15)), (5, .int 0), (3, .float (f 7)), (2, .int 3), (0, .ref o), (1, .int 0)]) hx hb dL_tick_401 hl (by decide) rfl (fun ls hl => ?_)
      refine lv_iload hx hb dL_tick_403 (lv_at hl 0 rfl) ?_
      refine lv_if_eq (tgt := 428) hx hb dL_tick_405 (by decide) (fun _ => ?_) (fun h9 => absurd (by decide) h9)
      refine lv_iconst (v := 0) hx hb dL_tick_428 (by decide) ?_
      refine lv_istore (lv' := [(18, .int 0), (17, .int 0), (4, .int 0), (16, .float FP.fconst0), (15, .int 0), (14, .int 0), (13, .int (cnF g (nI n) (nI K) ((bestK u g) + 1))), (12, .float ((goF u v f g 0) 7)), (11, .int (bestK u g)), (10, .int (oneF (g 12))), (9, .int (g 11)), (8, .int (g 7)), (7, .int (oneF (g 17))), (6, .int (g 15)), (5, .int 0), (3, .float (f 7)), (2, .int 3), (0, .ref o), (1, .int 0)]) hx hb dL_tick_429 hl (by decide) rfl (fun ls hl => ?_)
      refine lv_aload_n hx hb dL_tick_431 rfl (lv_at hl 17 rfl) ?_
      refine lv_iload_n hx hb dL_tick_432 rfl (lv_at hl 18 rfl) ?_
      refine lv_iconst (v := 1) hx hb dL_tick_433 (by decide) ?_
      refine lw_i (rL (rest := []) ⟨hx, hb, hml, hown, hts⟩ (LB_pass_ok l G cA A o (u, v, f, g, L) n K ch hn 0 1 (by decide) (by decide) (by decide) (by decide) hT hG1 hBo) (cwV 2 hts gL_tick_X8_pass rfl rfl rfl mdX8_pass ⟨Nat.le_of_ble_eq_true rfl, Nat.le_of_ble_eq_true rfl⟩) hA hL rfl hl rfl (Nat.le_of_ble_eq_true rfl) dL_tick_434 ⟨Nat.le_of_ble_eq_true rfl, Nat.le_of_ble_eq_true rfl⟩) hA (fun r_434_3 _ H locs hr_434_3 hA hL => ?_)
      replace hL : LB G cA A o (u, v, (goF u v f g 0), (goG u v f g 0), (goL u v g L 0)) (recN n) K ch H := hL
      replace hr_434_3 : r_434_3 = (goG u v f g 0) 13 := hr_434_3
      subst hr_434_3
      refine lv_iload hx hb dL_tick_437 (lv_at hl 4 rfl) ?_
      refine lv_icmp_ne (tgt := 489) hx hb dL_tick_439 (by decide) (fun c_439_3 => absurd (ht.1.trans (if_pos (Int32.not_lt.mp c_347_1))) c_439_3) (fun c_439_3 => ?_)
      refine lv_aload_n hx hb dL_tick_442 rfl (lv_at hl 17 rfl) ?_
      refine lr_f (rL (rest := []) ⟨hx, hb, hml, hown, hts⟩ (LB_place l G cA A o (u, v, (goF u v f g 0), (goG u v f g 0), (goL u v g L 0)) (recN n) K ch  ) (cwV 0 hts gL_tick_X8_place rfl rfl rfl mdX8_place ⟨Nat.le_of_ble_eq_true rfl, Nat.le_of_ble_eq_true rfl⟩) hA hL rfl hl rfl (Nat.le_of_ble_eq_true rfl) dL_tick_443 ⟨Nat.le_of_ble_eq_true rfl, Nat.le_of_ble_eq_true rfl⟩) hA hL (fun r_443_3 H locs hr_443_3 hA hL => ?_)
      replace hr_443_3 : r_443_3 = (goF u v f g 0) 7 := hr_443_3
      subst hr_443_3
      refine lv_fload hx hb dL_tick_446 (lv_at hl 3 rfl) ?_
      refine lv_fcmp hx hb dL_tick_448 ?_
      refine lv_if_ne (tgt := 489) hx hb dL_tick_449 (by decide) (fun c_449_3 => absurd (by rw [(ht.2.2.2.trans (if_pos (Int32.not_lt.mp c_347_1)))]; exact cmp_self (of_vf n32_0) _) c_449_3) (fun c_449_3 => ?_)
      refine lv_fload hx hb dL_tick_452 (lv_at hl 7 rfl) ?_
      refine lv_fload hx hb dL_tick_454 (lv_at hl 3 rfl) ?_
      refine lv_fcmp hx hb dL_tick_456 ?_
      refine lv_if_ne (tgt := 489) hx hb dL_tick_457 (by decide) (fun c_457_3 => absurd (by rw [(ht.2.2.2.trans (if_pos (Int32.not_lt.mp c_347_1)))]; exact cmp_self (of_vf n32_0) _) c_457_3) (fun c_457_3 => ?_)
      refine lv_aload_n hx hb dL_tick_460 rfl (lv_at hl 17 rfl) ?_
      refine lv_iconst (v := 1) hx hb dL_tick_461 (by decide) ?_
      refine lr_i (rL (rest := []) ⟨hx, hb, hml, hown, hts⟩ (LB_door l G cA A o (u, v, (goF u v f g 0), (goG u v f g 0), (goL u v g L 0)) (recN n) K ch 1 ) (cwV 1 hts gL_tick_X8_door rfl rfl rfl mdX8_door ⟨Nat.le_of_ble_eq_true rfl, Nat.le_of_ble_eq_true rfl⟩) hA hL rfl hl rfl (Nat.le_of_ble_eq_true rfl) dL_tick_462 ⟨Nat.le_of_ble_eq_true rfl, Nat.le_of_ble_eq_true rfl⟩) hA hL (fun r_462_3 H locs hr_462_3 hA hL => ?_)
      replace hr_462_3 : r_462_3 = (goG u v f g 0) 16 := hr_462_3
      subst hr_462_3
      refine lv_iload hx hb dL_tick_465 (lv_at hl 2 rfl) ?_
      refine lv_icmp_ne (tgt := 489) hx hb dL_tick_467 (by decide) (fun c_467_3 => absurd (ht.2.1.trans (if_pos (Int32.not_lt.mp c_347_1))) c_467_3) (fun c_467_3 => ?_)
      refine lv_aload_n hx hb dL_tick_470 rfl (lv_at hl 17 rfl) ?_
      refine lv_iconst (v := 2) hx hb dL_tick_471 (by decide) ?_
      refine lr_i (rL (rest := []) ⟨hx, hb, hml, hown, hts⟩ (LB_door l G cA A o (u, v, (goF u v f g 0), (goG u v f g 0), (goL u v g L 0)) (recN n) K ch 2 ) (cwV 1 hts gL_tick_X8_door rfl rfl rfl mdX8_door ⟨Nat.le_of_ble_eq_true rfl, Nat.le_of_ble_eq_true rfl⟩) hA hL rfl hl rfl (Nat.le_of_ble_eq_true rfl) dL_tick_472 ⟨Nat.le_of_ble_eq_true rfl, Nat.le_of_ble_eq_true rfl⟩) hA hL (fun r_472_3 H locs hr_472_3 hA hL => ?_)
      replace hr_472_3 : r_472_3 = oneF ((goG u v f g 0) 17) := hr_472_3
      subst hr_472_3
      refine lv_iload hx hb dL_tick_475 (lv_at hl 0 rfl) ?_
      refine lv_if_eq (tgt := 484) hx hb dL_tick_477 (by decide) (fun _ => ?_) (fun h9 => absurd (by decide) h9)
      refine lv_iload hx hb dL_tick_484 (lv_at hl 12 rfl) ?_
      refine lv_icmp_eq (tgt := 491) hx hb dL_tick_486 (by decide) (fun c_486_3 => ?_) (fun c_486_3 => absurd (by rw [ht.2.2.1] <;> rfl) c_486_3)
      refine lv_iload hx hb dL_tick_491 (lv_at hl 5 rfl) ?_
      refine lv_if_eq (tgt := 554) hx hb dL_tick_493 (by decide) (fun _ => ?_) (fun h9 => absurd (by decide) h9)
      refine lv_iload_n hx hb dL_tick_554 rfl (lv_at hl 18 rfl) ?_
      refine lv_if_eq (tgt := 599) hx hb dL_tick_555 (by decide) (fun _ => ?_) (fun h9 => absurd (by decide) h9)
      refine lv_iconst (v := 1) hx hb dL_tick_599 (by decide) ?_
      refine lv_goto (tgt := 604) hx hb dL_tick_600 (by decide) ?_
      exact en_l (post := fun r (_ : Unit) => r = 1) (B := fun _ H => LB G cA A o (u, v, (goF u v f g 0), (goG u v f g 0), (goL u v g L 0)) (recN n) K ch H) () hx hb hr hlocks hA rfl hL dL_tick_604
