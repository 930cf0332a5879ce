/-! thing(o): its contract over a state of which ThOk holds (by wip/p26/thinglaw.py) -/
/-- what thing() asks of a state -/
def ThOk (u : FF) (g : GG) : Prop := PrOk u g ∧ (¬ g 5 = 0 → ¬ g 7 < 1 ∧ ¬ smF g = 0 ∧ ¬ g 7 < g 8 ∧ ¬ g 7 < g 9 ∧ ¬ g 7 < g 10 ∧ ¬ smF g < g 7 ∧ ¬ g 27 < (g 6 + g 7) + g 11)
theorem W_cut {p : Program} {l : Launch} {e : Env} {R : Room} {s : State} {m : MethodId} {args : Array Value} {below : List Frame} {meth : Method} {c : Code} {H : Heap} {locs : List Loc} {cells slots : Nat} {Q : _} {f : _} (f1 : _) (Pq : Heap → List Loc → Prop) (h1 : (∀ H locs, Pq H locs → W p l e R s m args below meth c H locs cells slots Q f1) → W p l e R s m args below meth c H locs cells slots Q f) (h2 : ∀ H locs, Pq H locs → W p l e R s m args below meth c H locs cells slots Q f1) : W p l e R s m args below meth c H locs cells slots Q f := h1 h2
theorem th_none {u : FF} {g : GG} (w : Int32) (h0 : ¬ w < 0) (h1 : w ≤ 7) (hg : g 5 = 0) : thF u g w = -5 := by unfold thF; rw [if_neg h0, if_pos h1, if_pos hg]
theorem th_out {u : FF} {g : GG} : thF u g 8 = -2 := by unfold thF; rw [if_neg (by decide), if_neg (by decide)]
theorem th_0 {u : FF} {g : GG} (hg : ¬ g 5 = 0) : thF u g 0 = g 7 := by unfold thF; rw [if_neg (by decide), if_pos (by decide), if_neg hg, if_pos rfl]
theorem th_1 {u : FF} {g : GG} (hg : ¬ g 5 = 0) : thF u g 1 = g 8 := by unfold thF; rw [if_neg (by decide), if_pos (by decide), if_neg hg, if_neg (by decide), if_pos rfl]
theorem th_2 {u : FF} {g : GG} (hg : ¬ g 5 = 0) : thF u g 2 = g 9 := by unfold thF; rw [if_neg (by decide), if_pos (by decide), if_neg hg, if_neg (by decide), if_neg (by decide), if_pos rfl]
theorem th_3 {u : FF} {g : GG} (hg : ¬ g 5 = 0) : thF u g 3 = g 10 := by unfold thF; rw [if_neg (by decide), if_pos (by decide), if_neg hg, if_neg (by decide), if_neg (by decide), if_neg (by decide), if_pos rfl]
theorem th_4 {u : FF} {g : GG} (hg : ¬ g 5 = 0) : thF u g 4 = g 6 := by unfold thF; rw [if_neg (by decide), if_pos (by decide), if_neg hg, if_neg (by decide), if_neg (by decide), if_neg (by decide), if_neg (by decide), if_pos rfl]
theorem th_5 {u : FF} {g : GG} (hg : ¬ g 5 = 0) : thF u g 5 = g 11 := by unfold thF; rw [if_neg (by decide), if_pos (by decide), if_neg hg, if_neg (by decide), if_neg (by decide), if_neg (by decide), if_neg (by decide), if_neg (by decide), if_pos rfl]
theorem th_7 {u : FF} {g : GG} (hg : ¬ g 5 = 0) : thF u g 7 = bestK u g := by unfold thF; rw [if_neg (by decide), if_pos (by decide), if_neg hg, if_neg (by decide), if_neg (by decide), if_neg (by decide), if_neg (by decide), if_neg (by decide), if_neg (by decide), if_neg (by decide)]
theorem sco_none {u : FF} {g : GG} (hg : g 5 = 0) : scoF u g 0 = nanF := by unfold scoF; rw [if_neg (by decide), if_neg (by decide), if_pos hg]
theorem sco_at {u : FF} {g : GG} {k : Int32} (h0 : ¬ k < 0) (h4 : ¬ 4 ≤ k) (hg : ¬ g 5 = 0) : scoF u g k = prodF u g k := by unfold scoF; rw [if_neg h0, if_neg h4, if_neg hg]; rfl
def BsOk (u : FF) (g : GG) (x : Int32 × UInt32) : Prop := x.2 = prodF u g x.1 ∧ ¬ x.1 < 0 ∧ ¬ 4 ≤ x.1 ∧ vf_n32 (prodF u g x.1)
theorem bs_ok {u : FF} {g : GG} {k : Int32} {x : Int32 × UInt32} (hk : ¬ k < 0 ∧ ¬ 4 ≤ k ∧ vf_n32 (prodF u g k)) (hx : BsOk u g x) : BsOk u g (bestS u g k x) := by
  unfold bestS
  split
  · exact hx
  · exact ⟨rfl, hk⟩
theorem bs_pos {u : FF} {g : GG} {k : Int32} {x : Int32 × UInt32} (h : Op.cmpValue (FP.fcmp (prodF u g k) x.2) CmpOp.l ≤ 0) : (bestS u g k x).1 = x.1 := by unfold bestS; rw [if_pos h]
theorem bs_neg {u : FF} {g : GG} {k : Int32} {x : Int32 × UInt32} (h : ¬ Op.cmpValue (FP.fcmp (prodF u g k) x.2) CmpOp.l ≤ 0) : (bestS u g k x).1 = k := by unfold bestS; rw [if_neg h]
theorem sco_b {u : FF} {g : GG} {x : Int32 × UInt32} (hg : ¬ g 5 = 0) (hx : BsOk u g x) : scoF u g x.1 = x.2 := by rw [sco_at hx.2.1 hx.2.2.1 hg, hx.1]
theorem pr_0 {u : FF} {g : GG} (h7 : ¬ g 7 = 0) (hs : ¬ smF g = 0) : prodF u g 0 = FP.fmul (FP.fdiv FP.fconst1 (FP.i2f (g 7))) (weF u 0) := by unfold prodF likeF; rw [if_neg h7, if_neg hs, if_pos rfl]
theorem pr_1 {u : FF} {g : GG} (h7 : ¬ g 7 = 0) (hs : ¬ smF g = 0) : prodF u g 1 = FP.fmul (FP.fmul (FP.fsub FP.fconst1 (loF g)) 1061158912) (weF u 1) := by unfold prodF likeF; rw [if_neg h7, if_neg hs, if_neg (by decide), if_pos rfl]
theorem pr_2 {u : FF} {g : GG} (h7 : ¬ g 7 = 0) (hs : ¬ smF g = 0) : prodF u g 2 = FP.fmul (FP.fmul (loF g) (FP.fsub FP.fconst1 (hiF g))) (weF u 2) := by unfold prodF likeF; rw [if_neg h7, if_neg hs, if_neg (by decide), if_neg (by decide), if_pos rfl]
theorem pr_3 {u : FF} {g : GG} (h7 : ¬ g 7 = 0) (hs : ¬ smF g = 0) : prodF u g 3 = FP.fmul (FP.fmul 1077936128 (l2F g)) (weF u 3) := by unfold prodF likeF; rw [if_neg h7, if_neg hs, if_neg (by decide), if_neg (by decide), if_neg (by decide), if_pos rfl]
set_option maxHeartbeats 8000000 in
set_option maxRecDepth 100000 in
/-- thing(o), where nothing is there -/
theorem cL_thing_none (l : Launch) (G : va_G) (cA : Nat → ClassId) (A : Nat → Prop) (o : Nat) (u : FF) (v : GG) (f : FF) (g L : GG) (n K : Nat) (ch : GG) (hPr : PrOk u g) (hg : g 5 = 0) : Met l yL_thing wsL_thing ({ frames := 4, cells := 0, slots := 0, locals := 94 } : Room) (va_Pc [.ref o] (LbP G cA A o (u, v, f, g, L) n K ch)) (va_Qi (fun r (_ : Unit) => r = 1) (fun _ t => LB G cA A o (u, v, f, g, L) n K ch t.heap) A) 0 0 A := by
  refine ofW2 (cc := cL_thing) (maxL := 16) (ret := (some .boolean)) (own := RL) (by decide) rfl rfl (Nat.le_of_ble_eq_true rfl) rfl ?_
  intro p e s m below meth c ls hx hb hml hr hts hown hlocks hv hl
  obtain ⟨hE, hN, hL⟩ := hv
  have hA : At G cA A s s.heap [] := ⟨hE, hN, va_S.rf⟩
  obtain ⟨H, hH0⟩ : ∃ H, H = s.heap := ⟨_, rfl⟩
  rw [← hH0] at hL ⊢
  replace hA : At G cA A s H [] := by rw [hH0]; exact hA
  generalize ([] : List Loc) = locs at hA ⊢
  clear hH0
  replace hl : lv_has ls 16 [(0, .ref o)] := hl
  refine lv_aload_n hx hb dL_thing_0 rfl (lv_at hl 0 rfl) ?_
  refine lv_iconst (v := 0) hx hb dL_thing_1 (by decide) ?_
  refine lr_i (rL (rest := []) ⟨hx, hb, hml, hown, hts⟩ (LB_thing l G cA A o (u, v, f, g, L) n K ch 0 hPr) (cwV 1 hts gL_thing_X8_thing rfl rfl rfl mdX8_thing ⟨Nat.le_of_ble_eq_true rfl, Nat.le_of_ble_eq_true rfl⟩) hA hL rfl hl rfl (Nat.le_of_ble_eq_true rfl) dL_thing_2 ⟨Nat.le_of_ble_eq_true rfl, Nat.le_of_ble_eq_true rfl⟩) hA hL (fun r_2 H locs hr_2 hA hL => ?_)
  replace hr_2 : r_2 = -5 := hr_2.trans (th_none 0 (by decide) (by decide) hg)
  subst hr_2
  refine lv_istore_n (lv' := [(1, .int (-5)), (0, .ref o)]) hx hb dL_thing_5 rfl hl (by decide) rfl (fun ls hl => ?_)
  refine lv_iload_n hx hb dL_thing_6 rfl (lv_at hl 0 rfl) ?_
  refine lv_bipush (v := (-5)) hx hb dL_thing_7 (by decide) ?_
  refine lv_icmp_ne (tgt := 51) hx hb dL_thing_9 (by decide) (fun h9 => absurd (by decide) h9) (fun _ => ?_)
  refine lv_aload_n hx hb dL_thing_12 rfl (lv_at hl 1 rfl) ?_
  refine lv_iconst (v := 0) hx hb dL_thing_13 (by decide) ?_
  refine lr_f (rL (rest := []) ⟨hx, hb, hml, hown, hts⟩ (LB_score l G cA A o (u, v, f, g, L) n K ch 0 hPr.1 (fun _ _ => hPr.2.1)) (cwV 1 hts gL_thing_X8_score rfl rfl rfl mdX8_score ⟨Nat.le_of_ble_eq_true rfl, Nat.le_of_ble_eq_true rfl⟩) hA hL rfl hl rfl (Nat.le_of_ble_eq_true rfl) dL_thing_14 ⟨Nat.le_of_ble_eq_true rfl, Nat.le_of_ble_eq_true rfl⟩) hA hL (fun r_14 H locs hr_14 hA hL => ?_)
  replace hr_14 : r_14 = nanF := hr_14.trans (sco_none hg)
  subst hr_14
  refine lr_i (rS (rest := []) ⟨hx, hb, hml, hown, hts⟩ (cL_isNone_ok l G cA nanF) (va_cwS 1 hts gL_thing_L_isNone rfl rfl rfl mdL_isNone.2 ⟨Nat.le_of_ble_eq_true rfl, Nat.le_of_ble_eq_true rfl⟩) hA.1 empP empD rfl hl rfl (Nat.le_of_ble_eq_true rfl) dL_thing_17 ⟨Nat.le_of_ble_eq_true rfl, Nat.le_of_ble_eq_true rfl⟩) hA hL (fun r_17 H locs hr_17 hA hL => ?_)
  rw [nn_nan] at hr_17
  subst hr_17
  refine lv_if_eq (tgt := 49) hx hb dL_thing_20 (by decide) (fun h9 => absurd h9 (by decide)) (fun _ => ?_)
  refine lv_aload_n hx hb dL_thing_23 rfl (lv_at hl 1 rfl) ?_
  refine lv_bipush (v := 7) hx hb dL_thing_24 (by decide) ?_
  refine lr_i (rL (rest := []) ⟨hx, hb, hml, hown, hts⟩ (LB_thing l G cA A o (u, v, f, g, L) n K ch 7 hPr) (cwV 1 hts gL_thing_X8_thing rfl rfl rfl mdX8_thing ⟨Nat.le_of_ble_eq_true rfl, Nat.le_of_ble_eq_true rfl⟩) hA hL rfl hl rfl (Nat.le_of_ble_eq_true rfl) dL_thing_26 ⟨Nat.le_of_ble_eq_true rfl, Nat.le_of_ble_eq_true rfl⟩) hA hL (fun r_26 H locs hr_26 hA hL => ?_)
  replace hr_26 : r_26 = -5 := hr_26.trans (th_none 7 (by decide) (by decide) hg)
  subst hr_26
  refine lv_bipush (v := (-5)) hx hb dL_thing_29 (by decide) ?_
  refine lv_icmp_ne (tgt := 49) hx hb dL_thing_31 (by decide) (fun h9 => absurd (by decide) h9) (fun _ => ?_)
  refine lv_aload_n hx hb dL_thing_34 rfl (lv_at hl 1 rfl) ?_
  refine lv_bipush (v := 8) hx hb dL_thing_35 (by decide) ?_
  refine lr_i (rL (rest := []) ⟨hx, hb, hml, hown, hts⟩ (LB_thing l G cA A o (u, v, f, g, L) n K ch 8 hPr) (cwV 1 hts gL_thing_X8_thing rfl rfl rfl mdX8_thing ⟨Nat.le_of_ble_eq_true rfl, Nat.le_of_ble_eq_true rfl⟩) hA hL rfl hl rfl (Nat.le_of_ble_eq_true rfl) dL_thing_37 ⟨Nat.le_of_ble_eq_true rfl, Nat.le_of_ble_eq_true rfl⟩) hA hL (fun r_37 H locs hr_37 hA hL => ?_)
  replace hr_37 : r_37 = -2 := hr_37.trans th_out
  subst hr_37
  refine lv_bipush (v := (-2)) hx hb dL_thing_40 (by decide) ?_
  refine lv_icmp_ne (tgt := 49) hx hb dL_thing_42 (by decide) (fun h9 => absurd (by decide) h9) (fun _ => ?_)
  refine lv_iconst (v := 1) hx hb dL_thing_45 (by decide) ?_
  refine lv_goto (tgt := 50) hx hb dL_thing_46 (by decide) ?_
  exact en_l (post := fun r (_ : Unit) => r = 1) (B := fun _ H => LB G cA A o (u, v, f, g, L) n K ch H) () hx hb hr hlocks hA rfl hL dL_thing_50
set_option maxHeartbeats 8000000 in
set_option maxRecDepth 100000 in
/-- thing(o), where a thing is there -/
theorem cL_thing_there (l : Launch) (G : va_G) (cA : Nat → ClassId) (A : Nat → Prop) (o : Nat) (u : FF) (v : GG) (f : FF) (g L : GG) (n K : Nat) (ch : GG) (hPr : PrOk u g) (hg : ¬ g 5 = 0) (hT : ¬ g 7 < 1 ∧ ¬ smF g = 0 ∧ ¬ g 7 < g 8 ∧ ¬ g 7 < g 9 ∧ ¬ g 7 < g 10 ∧ ¬ smF g < g 7 ∧ ¬ g 27 < (g 6 + g 7) + g 11) : Met l yL_thing wsL_thing ({ frames := 4, cells := 0, slots := 0, locals := 94 } : Room) (va_Pc [.ref o] (LbP G cA A o (u, v, f, g, L) n K ch)) (va_Qi (fun r (_ : Unit) => r = 1) (fun _ t => LB G cA A o (u, v, f, g, L) n K ch t.heap) A) 0 0 A := by
  refine ofW2 (cc := cL_thing) (maxL := 16) (ret := (some .boolean)) (own := RL) (by decide) rfl rfl (Nat.le_of_ble_eq_true rfl) rfl ?_
  intro p e s m below meth c ls hx hb hml hr hts hown hlocks hv hl
  obtain ⟨hE, hN, hL⟩ := hv
  have hA : At G cA A s s.heap [] := ⟨hE, hN, va_S.rf⟩
  obtain ⟨H, hH0⟩ : ∃ H, H = s.heap := ⟨_, rfl⟩
  rw [← hH0] at hL ⊢
  replace hA : At G cA A s H [] := by rw [hH0]; exact hA
  generalize ([] : List Loc) = locs at hA ⊢
  clear hH0
  replace hl : lv_has ls 16 [(0, .ref o)] := hl
  have h70 : ¬ g 7 = 0 := fun h9 => hT.1 (by rw [h9]; decide)
  have hsm := hT.2.1
  have hNn := hPr.1 h70 hsm
  refine lv_aload_n hx hb dL_thing_0 rfl (lv_at hl 0 rfl) ?_
  refine lv_iconst (v := 0) hx hb dL_thing_1 (by decide) ?_
  refine lr_i (rL (rest := []) ⟨hx, hb, hml, hown, hts⟩ (LB_thing l G cA A o (u, v, f, g, L) n K ch 0 hPr) (cwV 1 hts gL_thing_X8_thing rfl rfl rfl mdX8_thing ⟨Nat.le_of_ble_eq_true rfl, Nat.le_of_ble_eq_true rfl⟩) hA hL rfl hl rfl (Nat.le_of_ble_eq_true rfl) dL_thing_2 ⟨Nat.le_of_ble_eq_true rfl, Nat.le_of_ble_eq_true rfl⟩) hA hL (fun r_2 H locs hr_2 hA hL => ?_)
  replace hr_2 : r_2 = g 7 := hr_2.trans (th_0 hg)
  subst hr_2
  refine lv_istore_n (lv' := [(1, .int (g 7)), (0, .ref o)]) hx hb dL_thing_5 rfl hl (by decide) rfl (fun ls hl => ?_)
  refine lv_iload_n hx hb dL_thing_6 rfl (lv_at hl 0 rfl) ?_
  refine lv_bipush (v := (-5)) hx hb dL_thing_7 (by decide) ?_
  refine lv_icmp_ne (tgt := 51) hx hb dL_thing_9 (by decide) (fun c_9 => ?_) (fun c_9 => absurd (show g 7 < 1 by rw [c_9]; decide) hT.1)
  refine lv_aload_n hx hb dL_thing_51 rfl (lv_at hl 1 rfl) ?_
  refine lv_iconst (v := 1) hx hb dL_thing_52 (by decide) ?_
  refine lr_i (rL (rest := []) ⟨hx, hb, hml, hown, hts⟩ (LB_thing l G cA A o (u, v, f, g, L) n K ch 1 hPr) (cwV 1 hts gL_thing_X8_thing rfl rfl rfl mdX8_thing ⟨Nat.le_of_ble_eq_true rfl, Nat.le_of_ble_eq_true rfl⟩) hA hL rfl hl rfl (Nat.le_of_ble_eq_true rfl) dL_thing_53 ⟨Nat.le_of_ble_eq_true rfl, Nat.le_of_ble_eq_true rfl⟩) hA hL (fun r_53 H locs hr_53 hA hL => ?_)
  replace hr_53 : r_53 = g 8 := hr_53.trans (th_1 hg)
  subst hr_53
  refine lv_istore_n (lv' := [(2, .int (g 8)), (1, .int (g 7)), (0, .ref o)]) hx hb dL_thing_56 rfl hl (by decide) rfl (fun ls hl => ?_)
  refine lv_aload_n hx hb dL_thing_57 rfl (lv_at hl 2 rfl) ?_
  refine lv_iconst (v := 2) hx hb dL_thing_58 (by decide) ?_
  refine lr_i (rL (rest := []) ⟨hx, hb, hml, hown, hts⟩ (LB_thing l G cA A o (u, v, f, g, L) n K ch 2 hPr) (cwV 1 hts gL_thing_X8_thing rfl rfl rfl mdX8_thing ⟨Nat.le_of_ble_eq_true rfl, Nat.le_of_ble_eq_true rfl⟩) hA hL rfl hl rfl (Nat.le_of_ble_eq_true rfl) dL_thing_59 ⟨Nat.le_of_ble_eq_true rfl, Nat.le_of_ble_eq_true rfl⟩) hA hL (fun r_59 H locs hr_59 hA hL => ?_)
  replace hr_59 : r_59 = g 9 := hr_59.trans (th_2 hg)
  subst hr_59
  refine lv_istore_n (lv' := [(3, .int (g 9)), (2, .int (g 8)), (1, .int (g 7)), (0, .ref o)]) hx hb dL_thing_62 rfl hl (by decide) rfl (fun ls hl => ?_)
  refine lv_aload_n hx hb dL_thing_63 rfl (lv_at hl 3 rfl) ?_
  refine lv_iconst (v := 3) hx hb dL_thing_64 (by decide) ?_
  refine lr_i (rL (rest := []) ⟨hx, hb, hml, hown, hts⟩ (LB_thing l G cA A o (u, v, f, g, L) n K ch 3 hPr) (cwV 1 hts gL_thing_X8_thing rfl rfl rfl mdX8_thing ⟨Nat.le_of_ble_eq_true rfl, Nat.le_of_ble_eq_true rfl⟩) hA hL rfl hl rfl (Nat.le_of_ble_eq_true rfl) dL_thing_65 ⟨Nat.le_of_ble_eq_true rfl, Nat.le_of_ble_eq_true rfl⟩) hA hL (fun r_65 H locs hr_65 hA hL => ?_)
  replace hr_65 : r_65 = g 10 := hr_65.trans (th_3 hg)
  subst hr_65
  refine lv_istore (lv' := [(4, .int (g 10)), (3, .int (g 9)), (2, .int (g 8)), (1, .int (g 7)), (0, .ref o)]) hx hb dL_thing_68 hl (by decide) rfl (fun ls hl => ?_)
  refine lv_iload_n hx hb dL_thing_70 rfl (lv_at hl 2 rfl) ?_
  refine lv_iload_n hx hb dL_thing_71 rfl (lv_at hl 1 rfl) ?_
  refine lv_iadd hx hb dL_thing_72 ?_
  refine lv_iload hx hb dL_thing_73 (lv_at hl 0 rfl) ?_
  refine lv_iadd hx hb dL_thing_75 ?_
  refine W.eq (g2 := F0 m 76 ls [.int (smF g)]) rfl ?_
  refine lv_i2f hx hb dL_thing_76 ?_
  refine lv_fstore (lv' := [(5, .float (FP.i2f (smF g))), (4, .int (g 10)), (3, .int (g 9)), (2, .int (g 8)), (1, .int (g 7)), (0, .ref o)]) hx hb dL_thing_77 hl (by decide) rfl (fun ls hl => ?_)
  refine lv_iload_n hx hb dL_thing_79 rfl (lv_at hl 3 rfl) ?_
  refine lv_i2f hx hb dL_thing_80 ?_
  refine lv_fload hx hb dL_thing_81 (lv_at hl 0 rfl) ?_
  refine lv_fdiv hx hb dL_thing_83 (hNn.1) ?_
  refine W.eq (g2 := F0 m 84 ls [.float (loF g)]) rfl ?_
  refine lv_fstore (lv' := [(6, .float (loF g)), (5, .float (FP.i2f (smF g))), (4, .int (g 10)), (3, .int (g 9)), (2, .int (g 8)), (1, .int (g 7)), (0, .ref o)]) hx hb dL_thing_84 hl (by decide) rfl (fun ls hl => ?_)
  refine lv_iload_n hx hb dL_thing_86 rfl (lv_at hl 3 rfl) ?_
  refine lv_i2f hx hb dL_thing_87 ?_
  refine lv_fload hx hb dL_thing_88 (lv_at hl 1 rfl) ?_
  refine lv_fdiv hx hb dL_thing_90 (hNn.2.1) ?_
  refine W.eq (g2 := F0 m 91 ls [.float (miF g)]) rfl ?_
  refine lv_fstore (lv' := [(7, .float (miF g)), (6, .float (loF g)), (5, .float (FP.i2f (smF g))), (4, .int (g 10)), (3, .int (g 9)), (2, .int (g 8)), (1, .int (g 7)), (0, .ref o)]) hx hb dL_thing_91 hl (by decide) rfl (fun ls hl => ?_)
  refine lv_iload hx hb dL_thing_93 (lv_at hl 3 rfl) ?_
  refine lv_i2f hx hb dL_thing_95 ?_
  refine lv_fload hx hb dL_thing_96 (lv_at hl 2 rfl) ?_
  refine lv_fdiv hx hb dL_thing_98 (hNn.2.2.1) ?_
  refine W.eq (g2 := F0 m 99 ls [.float (hiF g)]) rfl ?_
  refine lv_fstore (lv' := [(8, .float (hiF g)), (7, .float (miF g)), (6, .float (loF g)), (5, .float (FP.i2f (smF g))), (4, .int (g 10)), (3, .int (g 9)), (2, .int (g 8)), (1, .int (g 7)), (0, .ref o)]) hx hb dL_thing_99 hl (by decide) rfl (fun ls hl => ?_)
  refine W_cut (F0 m 116 ls [.float (lsF g)]) (fun H locs => At G cA A s H locs ∧ LB G cA A o (u, v, f, g, L) n K ch H) (fun join => ?_) (fun H locs hAL => ?_)
  · skip
    refine lv_fload hx hb dL_thing_101 (lv_at hl 2 rfl) ?_
    refine lv_fload hx hb dL_thing_103 (lv_at hl 1 rfl) ?_
    refine lv_fcmp hx hb dL_thing_105 ?_
    refine lv_if_ge (tgt := 114) hx hb dL_thing_106 (by decide) (fun c_106 => ?_) (fun c_106 => ?_)
    · skip
      refine lv_fload hx hb dL_thing_114 (lv_at hl 1 rfl) ?_
      refine W.eq (g2 := F0 m 116 ls [.float (lsF g)]) (by unfold lsF; rw [if_pos c_106]) ?_
      exact join H locs ⟨hA, hL⟩
    · skip
      refine lv_fload hx hb dL_thing_109 (lv_at hl 2 rfl) ?_
      refine lv_goto (tgt := 116) hx hb dL_thing_111 (by decide) ?_
      refine W.eq (g2 := F0 m 116 ls [.float (lsF g)]) (by unfold lsF; rw [if_neg c_106]) ?_
      exact join H locs ⟨hA, hL⟩
  obtain ⟨hA, hL⟩ := hAL
  refine lv_fstore (lv' := [(9, .float (lsF g)), (8, .float (hiF g)), (7, .float (miF g)), (6, .float (loF g)), (5, .float (FP.i2f (smF g))), (4, .int (g 10)), (3, .int (g 9)), (2, .int (g 8)), (1, .int (g 7)), (0, .ref o)]) hx hb dL_thing_116 hl (by decide) rfl (fun ls hl => ?_)
  refine W_cut (F0 m 133 ls [.float (l2F g)]) (fun H locs => At G cA A s H locs ∧ LB G cA A o (u, v, f, g, L) n K ch H) (fun join => ?_) (fun H locs hAL => ?_)
  · skip
    refine lv_fload hx hb dL_thing_118 (lv_at hl 1 rfl) ?_
    refine lv_fload hx hb dL_thing_120 (lv_at hl 0 rfl) ?_
    refine lv_fcmp hx hb dL_thing_122 ?_
    refine lv_if_ge (tgt := 131) hx hb dL_thing_123 (by decide) (fun c_123 => ?_) (fun c_123 => ?_)
    · skip
      refine lv_fload hx hb dL_thing_131 (lv_at hl 0 rfl) ?_
      refine W.eq (g2 := F0 m 133 ls [.float (l2F g)]) (by unfold l2F; rw [if_pos c_123]) ?_
      exact join H locs ⟨hA, hL⟩
    · skip
      refine lv_fload hx hb dL_thing_126 (lv_at hl 1 rfl) ?_
      refine lv_goto (tgt := 133) hx hb dL_thing_128 (by decide) ?_
      refine W.eq (g2 := F0 m 133 ls [.float (l2F g)]) (by unfold l2F; rw [if_neg c_123]) ?_
      exact join H locs ⟨hA, hL⟩
  obtain ⟨hA, hL⟩ := hAL
  refine lv_fstore (lv' := [(9, .float (l2F g)), (8, .float (hiF g)), (7, .float (miF g)), (6, .float (loF g)), (5, .float (FP.i2f (smF g))), (4, .int (g 10)), (3, .int (g 9)), (2, .int (g 8)), (1, .int (g 7)), (0, .ref o)]) hx hb dL_thing_133 hl (by decide) rfl (fun ls hl => ?_)
  refine lv_fconst1 hx hb dL_thing_135 ?_
  refine lv_iload_n hx hb dL_thing_136 rfl (lv_at hl 8 rfl) ?_
  refine lv_i2f hx hb dL_thing_137 ?_
  refine lv_fdiv hx hb dL_thing_138 (hNn.2.2.2.1) ?_
  refine lv_aload_n hx hb dL_thing_139 rfl (lv_at hl 9 rfl) ?_
  refine lv_iconst (v := 0) hx hb dL_thing_140 (by decide) ?_
  refine lr_f (rL (rest := [.float (FP.fdiv FP.fconst1 (FP.i2f (g 7)))]) ⟨hx, hb, hml, hown, hts⟩ (LB_weight l G cA A o (u, v, f, g, L) n K ch 0 ) (cwV 1 hts gL_thing_X8_weight rfl rfl rfl mdX8_weight ⟨Nat.le_of_ble_eq_true rfl, Nat.le_of_ble_eq_true rfl⟩) hA hL rfl hl rfl (Nat.le_of_ble_eq_true rfl) dL_thing_141 ⟨Nat.le_of_ble_eq_true rfl, Nat.le_of_ble_eq_true rfl⟩) hA hL (fun r_141 H locs hr_141 hA hL => ?_)
  replace hr_141 : r_141 = weF u 0 := hr_141
  subst hr_141
  refine lv_fmul hx hb dL_thing_144 ((by rw [← pr_0 h70 hsm]; exact hPr.2.1)) ?_
  refine W.eq (g2 := F0 m 145 ls [.float (prodF u g 0)]) (by rw [pr_0 h70 hsm]) ?_
  refine lv_fstore (lv' := [(10, .float (prodF u g 0)), (9, .float (l2F g)), (8, .float (hiF g)), (7, .float (miF g)), (6, .float (loF g)), (5, .float (FP.i2f (smF g))), (4, .int (g 10)), (3, .int (g 9)), (2, .int (g 8)), (1, .int (g 7)), (0, .ref o)]) hx hb dL_thing_145 hl (by decide) rfl (fun ls hl => ?_)
  refine lv_fconst1 hx hb dL_thing_147 ?_
  refine lv_fload hx hb dL_thing_148 (lv_at hl 4 rfl) ?_
  refine lv_fsub hx hb dL_thing_150 (hNn.2.2.2.2.1) ?_
  refine lv_ldcf hx hb hown (hts (.constantFloat RL 65 (1061158912)) (by decide +kernel)) dL_thing_151 ?_
  refine lv_fmul hx hb dL_thing_153 (hNn.2.2.2.2.2.1) ?_
  refine lv_fstore (lv' := [(11, .float (FP.fmul (FP.fsub FP.fconst1 (loF g)) 1061158912)), (10, .float (prodF u g 0)), (9, .float (l2F g)), (8, .float (hiF g)), (7, .float (miF g)), (6, .float (loF g)), (5, .float (FP.i2f (smF g))), (4, .int (g 10)), (3, .int (g 9)), (2, .int (g 8)), (1, .int (g 7)), (0, .ref o)]) hx hb dL_thing_154 hl (by decide) rfl (fun ls hl => ?_)
  refine lv_fload hx hb dL_thing_156 (lv_at hl 0 rfl) ?_
  refine lv_aload_n hx hb dL_thing_158 rfl (lv_at hl 11 rfl) ?_
  refine lv_iconst (v := 1) hx hb dL_thing_159 (by decide) ?_
  refine lr_f (rL (rest := [.float (FP.fmul (FP.fsub FP.fconst1 (loF g)) 1061158912)]) ⟨hx, hb, hml, hown, hts⟩ (LB_weight l G cA A o (u, v, f, g, L) n K ch 1 ) (cwV 1 hts gL_thing_X8_weight rfl rfl rfl mdX8_weight ⟨Nat.le_of_ble_eq_true rfl, Nat.le_of_ble_eq_true rfl⟩) hA hL rfl hl rfl (Nat.le_of_ble_eq_true rfl) dL_thing_160 ⟨Nat.le_of_ble_eq_true rfl, Nat.le_of_ble_eq_true rfl⟩) hA hL (fun r_160 H locs hr_160 hA hL => ?_)
  replace hr_160 : r_160 = weF u 1 := hr_160
  subst hr_160
  refine lv_fmul hx hb dL_thing_163 ((by rw [← pr_1 h70 hsm]; exact hPr.2.2.1)) ?_
  refine W.eq (g2 := F0 m 164 ls [.float (prodF u g 1)]) (by rw [pr_1 h70 hsm]) ?_
  refine lv_fstore (lv' := [(11, .float (prodF u g 1)), (10, .float (prodF u g 0)), (9, .float (l2F g)), (8, .float (hiF g)), (7, .float (miF g)), (6, .float (loF g)), (5, .float (FP.i2f (smF g))), (4, .int (g 10)), (3, .int (g 9)), (2, .int (g 8)), (1, .int (g 7)), (0, .ref o)]) hx hb dL_thing_164 hl (by decide) rfl (fun ls hl => ?_)
  refine lv_fload hx hb dL_thing_166 (lv_at hl 5 rfl) ?_
  refine lv_fconst1 hx hb dL_thing_168 ?_
  refine lv_fload hx hb dL_thing_169 (lv_at hl 3 rfl) ?_
  refine lv_fsub hx hb dL_thing_171 (hNn.2.2.2.2.2.2.1) ?_
  refine lv_fmul hx hb dL_thing_172 (hNn.2.2.2.2.2.2.2.1) ?_
  refine lv_fstore (lv' := [(12, .float (FP.fmul (loF g) (FP.fsub FP.fconst1 (hiF g)))), (11, .float (prodF u g 1)), (10, .float (prodF u g 0)), (9, .float (l2F g)), (8, .float (hiF g)), (7, .float (miF g)), (6, .float (loF g)), (5, .float (FP.i2f (smF g))), (4, .int (g 10)), (3, .int (g 9)), (2, .int (g 8)), (1, .int (g 7)), (0, .ref o)]) hx hb dL_thing_173 hl (by decide) rfl (fun ls hl => ?_)
  refine lv_fload hx hb dL_thing_175 (lv_at hl 0 rfl) ?_
  refine lv_aload_n hx hb dL_thing_177 rfl (lv_at hl 12 rfl) ?_
  refine lv_iconst (v := 2) hx hb dL_thing_178 (by decide) ?_
  refine lr_f (rL (rest := [.float (FP.fmul (loF g) (FP.fsub FP.fconst1 (hiF g)))]) ⟨hx, hb, hml, hown, hts⟩ (LB_weight l G cA A o (u, v, f, g, L) n K ch 2 ) (cwV 1 hts gL_thing_X8_weight rfl rfl rfl mdX8_weight ⟨Nat.le_of_ble_eq_true rfl, Nat.le_of_ble_eq_true rfl⟩) hA hL rfl hl rfl (Nat.le_of_ble_eq_true rfl) dL_thing_179 ⟨Nat.le_of_ble_eq_true rfl, Nat.le_of_ble_eq_true rfl⟩) hA hL (fun r_179 H locs hr_179 hA hL => ?_)
  replace hr_179 : r_179 = weF u 2 := hr_179
  subst hr_179
  refine lv_fmul hx hb dL_thing_182 ((by rw [← pr_2 h70 hsm]; exact hPr.2.2.2.1)) ?_
  refine W.eq (g2 := F0 m 183 ls [.float (prodF u g 2)]) (by rw [pr_2 h70 hsm]) ?_
  refine lv_fstore (lv' := [(12, .float (prodF u g 2)), (11, .float (prodF u g 1)), (10, .float (prodF u g 0)), (9, .float (l2F g)), (8, .float (hiF g)), (7, .float (miF g)), (6, .float (loF g)), (5, .float (FP.i2f (smF g))), (4, .int (g 10)), (3, .int (g 9)), (2, .int (g 8)), (1, .int (g 7)), (0, .ref o)]) hx hb dL_thing_183 hl (by decide) rfl (fun ls hl => ?_)
  refine lv_ldcf hx hb hown (hts (.constantFloat RL 66 (1077936128)) (by decide +kernel)) dL_thing_185 ?_
  refine lv_fload hx hb dL_thing_187 (lv_at hl 3 rfl) ?_
  refine lv_fmul hx hb dL_thing_189 (hNn.2.2.2.2.2.2.2.2) ?_
  refine lv_fstore (lv' := [(13, .float (FP.fmul 1077936128 (l2F g))), (12, .float (prodF u g 2)), (11, .float (prodF u g 1)), (10, .float (prodF u g 0)), (9, .float (l2F g)), (8, .float (hiF g)), (7, .float (miF g)), (6, .float (loF g)), (5, .float (FP.i2f (smF g))), (4, .int (g 10)), (3, .int (g 9)), (2, .int (g 8)), (1, .int (g 7)), (0, .ref o)]) hx hb dL_thing_190 hl (by decide) rfl (fun ls hl => ?_)
  refine lv_fload hx hb dL_thing_192 (lv_at hl 0 rfl) ?_
  refine lv_aload_n hx hb dL_thing_194 rfl (lv_at hl 13 rfl) ?_
  refine lv_iconst (v := 3) hx hb dL_thing_195 (by decide) ?_
  refine lr_f (rL (rest := [.float (FP.fmul 1077936128 (l2F g))]) ⟨hx, hb, hml, hown, hts⟩ (LB_weight l G cA A o (u, v, f, g, L) n K ch 3 ) (cwV 1 hts gL_thing_X8_weight rfl rfl rfl mdX8_weight ⟨Nat.le_of_ble_eq_true rfl, Nat.le_of_ble_eq_true rfl⟩) hA hL rfl hl rfl (Nat.le_of_ble_eq_true rfl) dL_thing_196 ⟨Nat.le_of_ble_eq_true rfl, Nat.le_of_ble_eq_true rfl⟩) hA hL (fun r_196 H locs hr_196 hA hL => ?_)
  replace hr_196 : r_196 = weF u 3 := hr_196
  subst hr_196
  refine lv_fmul hx hb dL_thing_199 ((by rw [← pr_3 h70 hsm]; exact hPr.2.2.2.2)) ?_
  refine W.eq (g2 := F0 m 200 ls [.float (prodF u g 3)]) (by rw [pr_3 h70 hsm]) ?_
  refine lv_fstore (lv' := [(13, .float (prodF u g 3)), (12, .float (prodF u g 2)), (11, .float (prodF u g 1)), (10, .float (prodF u g 0)), (9, .float (l2F g)), (8, .float (hiF g)), (7, .float (miF g)), (6, .float (loF g)), (5, .float (FP.i2f (smF g))), (4, .int (g 10)), (3, .int (g 9)), (2, .int (g 8)), (1, .int (g 7)), (0, .ref o)]) hx hb dL_thing_200 hl (by decide) rfl (fun ls hl => ?_)
  refine lv_aload_n hx hb dL_thing_202 rfl (lv_at hl 13 rfl) ?_
  refine lv_iconst (v := 0) hx hb dL_thing_203 (by decide) ?_
  refine lr_f (rL (rest := []) ⟨hx, hb, hml, hown, hts⟩ (LB_score l G cA A o (u, v, f, g, L) n K ch 0 hPr.1 (fun _ _ => hPr.2.1)) (cwV 1 hts gL_thing_X8_score rfl rfl rfl mdX8_score ⟨Nat.le_of_ble_eq_true rfl, Nat.le_of_ble_eq_true rfl⟩) hA hL rfl hl rfl (Nat.le_of_ble_eq_true rfl) dL_thing_204 ⟨Nat.le_of_ble_eq_true rfl, Nat.le_of_ble_eq_true rfl⟩) hA hL (fun r_204 H locs hr_204 hA hL => ?_)
  replace hr_204 : r_204 = prodF u g 0 := hr_204.trans (sco_at (by decide) (by decide) hg)
  subst hr_204
  refine lv_fload hx hb dL_thing_207 (lv_at hl 3 rfl) ?_
  refine lv_fcmp hx hb dL_thing_209 ?_
  refine lv_if_ne (tgt := 246) hx hb dL_thing_210 (by decide) (fun c_210 => absurd (cmp_self (of_vf hPr.2.1) _) c_210) (fun c_210 => ?_)
  refine lv_aload_n hx hb dL_thing_213 rfl (lv_at hl 13 rfl) ?_
  refine lv_iconst (v := 1) hx hb dL_thing_214 (by decide) ?_
  refine lr_f (rL (rest := []) ⟨hx, hb, hml, hown, hts⟩ (LB_score l G cA A o (u, v, f, g, L) n K ch 1 hPr.1 (fun _ _ => hPr.2.2.1)) (cwV 1 hts gL_thing_X8_score rfl rfl rfl mdX8_score ⟨Nat.le_of_ble_eq_true rfl, Nat.le_of_ble_eq_true rfl⟩) hA hL rfl hl rfl (Nat.le_of_ble_eq_true rfl) dL_thing_215 ⟨Nat.le_of_ble_eq_true rfl, Nat.le_of_ble_eq_true rfl⟩) hA hL (fun r_215 H locs hr_215 hA hL => ?_)
  replace hr_215 : r_215 = prodF u g 1 := hr_215.trans (sco_at (by decide) (by decide) hg)
  subst hr_215
  refine lv_fload hx hb dL_thing_218 (lv_at hl 2 rfl) ?_
  refine lv_fcmp hx hb dL_thing_220 ?_
  refine lv_if_ne (tgt := 246) hx hb dL_thing_221 (by decide) (fun c_221 => absurd (cmp_self (of_vf hPr.2.2.1) _) c_221) (fun c_221 => ?_)
  refine lv_aload_n hx hb dL_thing_224 rfl (lv_at hl 13 rfl) ?_
  refine lv_iconst (v := 2) hx hb dL_thing_225 (by decide) ?_
  refine lr_f (rL (rest := []) ⟨hx, hb, hml, hown, hts⟩ (LB_score l G cA A o (u, v, f, g, L) n K ch 2 hPr.1 (fun _ _ => hPr.2.2.2.1)) (cwV 1 hts gL_thing_X8_score rfl rfl rfl mdX8_score ⟨Nat.le_of_ble_eq_true rfl, Nat.le_of_ble_eq_true rfl⟩) hA hL rfl hl rfl (Nat.le_of_ble_eq_true rfl) dL_thing_226 ⟨Nat.le_of_ble_eq_true rfl, Nat.le_of_ble_eq_true rfl⟩) hA hL (fun r_226 H locs hr_226 hA hL => ?_)
  replace hr_226 : r_226 = prodF u g 2 := hr_226.trans (sco_at (by decide) (by decide) hg)
  subst hr_226
  refine lv_fload hx hb dL_thing_229 (lv_at hl 1 rfl) ?_
  refine lv_fcmp hx hb dL_thing_231 ?_
  refine lv_if_ne (tgt := 246) hx hb dL_thing_232 (by decide) (fun c_232 => absurd (cmp_self (of_vf hPr.2.2.2.1) _) c_232) (fun c_232 => ?_)
  refine lv_aload_n hx hb dL_thing_235 rfl (lv_at hl 13 rfl) ?_
  refine lv_iconst (v := 3) hx hb dL_thing_236 (by decide) ?_
  refine lr_f (rL (rest := []) ⟨hx, hb, hml, hown, hts⟩ (LB_score l G cA A o (u, v, f, g, L) n K ch 3 hPr.1 (fun _ _ => hPr.2.2.2.2)) (cwV 1 hts gL_thing_X8_score rfl rfl rfl mdX8_score ⟨Nat.le_of_ble_eq_true rfl, Nat.le_of_ble_eq_true rfl⟩) hA hL rfl hl rfl (Nat.le_of_ble_eq_true rfl) dL_thing_237 ⟨Nat.le_of_ble_eq_true rfl, Nat.le_of_ble_eq_true rfl⟩) hA hL (fun r_237 H locs hr_237 hA hL => ?_)
  replace hr_237 : r_237 = prodF u g 3 := hr_237.trans (sco_at (by decide) (by decide) hg)
  subst hr_237
  refine lv_fload hx hb dL_thing_240 (lv_at hl 0 rfl) ?_
  refine lv_fcmp hx hb dL_thing_242 ?_
  refine lv_if_eq (tgt := 248) hx hb dL_thing_243 (by decide) (fun c_243 => ?_) (fun c_243 => absurd (cmp_self (of_vf hPr.2.2.2.2) _) c_243)
  refine lv_iconst (v := 0) hx hb dL_thing_248 (by decide) ?_
  refine lv_istore (lv' := [(14, .int 0), (13, .float (prodF u g 3)), (12, .float (prodF u g 2)), (11, .float (prodF u g 1)), (10, .float (prodF u g 0)), (9, .float (l2F g)), (8, .float (hiF g)), (7, .float (miF g)), (6, .float (loF g)), (5, .float (FP.i2f (smF g))), (4, .int (g 10)), (3, .int (g 9)), (2, .int (g 8)), (1, .int (g 7)), (0, .ref o)]) hx hb dL_thing_249 hl (by decide) rfl (fun ls hl => ?_)
  refine lv_iconst (v := 1) hx hb dL_thing_251 (by decide) ?_
  refine lv_istore (lv' := [(15, .int 1), (14, .int 0), (13, .float (prodF u g 3)), (12, .float (prodF u g 2)), (11, .float (prodF u g 1)), (10, .float (prodF u g 0)), (9, .float (l2F g)), (8, .float (hiF g)), (7, .float (miF g)), (6, .float (loF g)), (5, .float (FP.i2f (smF g))), (4, .int (g 10)), (3, .int (g 9)), (2, .int (g 8)), (1, .int (g 7)), (0, .ref o)]) hx hb dL_thing_252 hl (by decide) rfl (fun ls hl => ?_)
  refine lv_iload hx hb dL_thing_254 (lv_at hl 0 rfl) ?_
  refine lv_iconst (v := 4) hx hb dL_thing_256 (by decide) ?_
  refine lv_icmp_ge (tgt := 291) hx hb dL_thing_257 (by decide) (fun h9 => absurd h9 (by decide)) (fun _ => ?_)
  obtain ⟨x1, hx1⟩ : ∃ x, x = bestS u g 1 ((0 : Int32), prodF u g 0) := ⟨_, rfl⟩
  have hb1 : BsOk u g x1 := by rw [hx1]; exact bs_ok ⟨by decide, by decide, hPr.2.2.1⟩ ⟨rfl, show ¬ (0 : Int32) < 0 by decide, show ¬ (4 : Int32) ≤ 0 by decide, hPr.2.1⟩
  refine W_cut (F0 m 283 ls [.int x1.1]) (fun H locs => At G cA A s H locs ∧ LB G cA A o (u, v, f, g, L) n K ch H) (fun join => ?_) (fun H locs hAL => ?_)
  · skip
    refine lv_aload_n hx hb dL_thing_260 rfl (lv_at hl 15 rfl) ?_
    refine lv_iload hx hb dL_thing_261 (lv_at hl 0 rfl) ?_
    refine lr_f (rL (rest := []) ⟨hx, hb, hml, hown, hts⟩ (LB_score l G cA A o (u, v, f, g, L) n K ch 1 hPr.1 (fun _ _ => hPr.2.2.1)) (cwV 1 hts gL_thing_X8_score rfl rfl rfl mdX8_score ⟨Nat.le_of_ble_eq_true rfl, Nat.le_of_ble_eq_true rfl⟩) hA hL rfl hl rfl (Nat.le_of_ble_eq_true rfl) dL_thing_263 ⟨Nat.le_of_ble_eq_true rfl, Nat.le_of_ble_eq_true rfl⟩) hA hL (fun r_263 H locs hr_263 hA hL => ?_)
    replace hr_263 : r_263 = prodF u g 1 := hr_263.trans (sco_at (by decide) (by decide) hg)
    subst hr_263
    refine lv_aload_n hx hb dL_thing_266 rfl (lv_at hl 15 rfl) ?_
    refine lv_iload hx hb dL_thing_267 (lv_at hl 1 rfl) ?_
    refine lr_f (rL (rest := [.float (prodF u g 1)]) ⟨hx, hb, hml, hown, hts⟩ (LB_score l G cA A o (u, v, f, g, L) n K ch 0 hPr.1 (fun _ _ => hPr.2.1)) (cwV 1 hts gL_thing_X8_score rfl rfl rfl mdX8_score ⟨Nat.le_of_ble_eq_true rfl, Nat.le_of_ble_eq_true rfl⟩) hA hL rfl hl rfl (Nat.le_of_ble_eq_true rfl) dL_thing_269 ⟨Nat.le_of_ble_eq_true rfl, Nat.le_of_ble_eq_true rfl⟩) hA hL (fun r_269 H locs hr_269 hA hL => ?_)
    replace hr_269 : r_269 = prodF u g 0 := hr_269.trans (sco_at (by decide) (by decide) hg)
    subst hr_269
    refine lv_fcmp hx hb dL_thing_272 ?_
    refine lv_if_le (tgt := 281) hx hb dL_thing_273 (by decide) (fun c_273 => ?_) (fun c_273 => ?_)
    · skip
      refine lv_iload hx hb dL_thing_281 (lv_at hl 1 rfl) ?_
      refine W.eq (g2 := F0 m 283 ls [.int x1.1]) (by rw [hx1, bs_pos (x := ((0 : Int32), prodF u g 0)) c_273] <;> rfl) ?_
      exact join H locs ⟨hA, hL⟩
    · skip
      refine lv_iload hx hb dL_thing_276 (lv_at hl 0 rfl) ?_
      refine lv_goto (tgt := 283) hx hb dL_thing_278 (by decide) ?_
      refine W.eq (g2 := F0 m 283 ls [.int x1.1]) (by rw [hx1, bs_neg (x := ((0 : Int32), prodF u g 0)) c_273] <;> rfl) ?_
      exact join H locs ⟨hA, hL⟩
  obtain ⟨hA, hL⟩ := hAL
  refine lv_istore (lv' := [(14, .int x1.1), (15, .int 1), (13, .float (prodF u g 3)), (12, .float (prodF u g 2)), (11, .float (prodF u g 1)), (10, .float (prodF u g 0)), (9, .float (l2F g)), (8, .float (hiF g)), (7, .float (miF g)), (6, .float (loF g)), (5, .float (FP.i2f (smF g))), (4, .int (g 10)), (3, .int (g 9)), (2, .int (g 8)), (1, .int (g 7)), (0, .ref o)]) hx hb dL_thing_283 hl (by decide) rfl (fun ls hl => ?_)
  refine lv_iinc (v := 2) (lv' := [(15, .int 2), (14, .int x1.1), (13, .float (prodF u g 3)), (12, .float (prodF u g 2)), (11, .float (prodF u g 1)), (10, .float (prodF u g 0)), (9, .float (l2F g)), (8, .float (hiF g)), (7, .float (miF g)), (6, .float (loF g)), (5, .float (FP.i2f (smF g))), (4, .int (g 10)), (3, .int (g 9)), (2, .int (g 8)), (1, .int (g 7)), (0, .ref o)]) hx hb dL_thing_285 hl (k := 1) rfl (by decide) (by decide) rfl (fun ls hl => ?_)
  refine lv_goto (tgt := 254) hx hb dL_thing_288 (by decide) ?_
  refine lv_iload hx hb dL_thing_254 (lv_at hl 0 rfl) ?_
  refine lv_iconst (v := 4) hx hb dL_thing_256 (by decide) ?_
  refine lv_icmp_ge (tgt := 291) hx hb dL_thing_257 (by decide) (fun h9 => absurd h9 (by decide)) (fun _ => ?_)
  obtain ⟨x2, hx2⟩ : ∃ x, x = bestS u g 2 x1 := ⟨_, rfl⟩
  have hb2 : BsOk u g x2 := by rw [hx2]; exact bs_ok ⟨by decide, by decide, hPr.2.2.2.1⟩ hb1
  refine W_cut (F0 m 283 ls [.int x2.1]) (fun H locs => At G cA A s H locs ∧ LB G cA A o (u, v, f, g, L) n K ch H) (fun join => ?_) (fun H locs hAL => ?_)
  · skip
    refine lv_aload_n hx hb dL_thing_260 rfl (lv_at hl 15 rfl) ?_
    refine lv_iload hx hb dL_thing_261 (lv_at hl 0 rfl) ?_
    refine lr_f (rL (rest := []) ⟨hx, hb, hml, hown, hts⟩ (LB_score l G cA A o (u, v, f, g, L) n K ch 2 hPr.1 (fun _ _ => hPr.2.2.2.1)) (cwV 1 hts gL_thing_X8_score rfl rfl rfl mdX8_score ⟨Nat.le_of_ble_eq_true rfl, Nat.le_of_ble_eq_true rfl⟩) hA hL rfl hl rfl (Nat.le_of_ble_eq_true rfl) dL_thing_263 ⟨Nat.le_of_ble_eq_true rfl, Nat.le_of_ble_eq_true rfl⟩) hA hL (fun r_263_1 H locs hr_263_1 hA hL => ?_)
    replace hr_263_1 : r_263_1 = prodF u g 2 := hr_263_1.trans (sco_at (by decide) (by decide) hg)
    subst hr_263_1
    refine lv_aload_n hx hb dL_thing_266 rfl (lv_at hl 15 rfl) ?_
    refine lv_iload hx hb dL_thing_267 (lv_at hl 1 rfl) ?_
    refine lr_f (rL (rest := [.float (prodF u g 2)]) ⟨hx, hb, hml, hown, hts⟩ (LB_score l G cA A o (u, v, f, g, L) n K ch x1.1 hPr.1 (fun _ _ => hb1.2.2.2)) (cwV 1 hts gL_thing_X8_score rfl rfl rfl mdX8_score ⟨Nat.le_of_ble_eq_true rfl, Nat.le_of_ble_eq_true rfl⟩) hA hL rfl hl rfl (Nat.le_of_ble_eq_true rfl) dL_thing_269 ⟨Nat.le_of_ble_eq_true rfl, Nat.le_of_ble_eq_true rfl⟩) hA hL (fun r_269_1 H locs hr_269_1 hA hL => ?_)
    replace hr_269_1 : r_269_1 = x1.2 := hr_269_1.trans (sco_b hg hb1)
    subst hr_269_1
    refine lv_fcmp hx hb dL_thing_272 ?_
    refine lv_if_le (tgt := 281) hx hb dL_thing_273 (by decide) (fun c_273_1 => ?_) (fun c_273_1 => ?_)
    · skip
      refine lv_iload hx hb dL_thing_281 (lv_at hl 1 rfl) ?_
      refine W.eq (g2 := F0 m 283 ls [.int x2.1]) (by rw [hx2, bs_pos c_273_1] <;> rfl) ?_
      exact join H locs ⟨hA, hL⟩
    · skip
      refine lv_iload hx hb dL_thing_276 (lv_at hl 0 rfl) ?_
      refine lv_goto (tgt := 283) hx hb dL_thing_278 (by decide) ?_
      refine W.eq (g2 := F0 m 283 ls [.int x2.1]) (by rw [hx2, bs_neg c_273_1] <;> rfl) ?_
      exact join H locs ⟨hA, hL⟩
  obtain ⟨hA, hL⟩ := hAL
  refine lv_istore (lv' := [(14, .int x2.1), (15, .int 2), (13, .float (prodF u g 3)), (12, .float (prodF u g 2)), (11, .float (prodF u g 1)), (10, .float (prodF u g 0)), (9, .float (l2F g)), (8, .float (hiF g)), (7, .float (miF g)), (6, .float (loF g)), (5, .float (FP.i2f (smF g))), (4, .int (g 10)), (3, .int (g 9)), (2, .int (g 8)), (1, .int (g 7)), (0, .ref o)]) hx hb dL_thing_283 hl (by decide) rfl (fun ls hl => ?_)
  refine lv_iinc (v := 3) (lv' := [(15, .int 3), (14, .int x2.1), (13, .float (prodF u g 3)), (12, .float (prodF u g 2)), (11, .float (prodF u g 1)), (10, .float (prodF u g 0)), (9, .float (l2F g)), (8, .float (hiF g)), (7, .float (miF g)), (6, .float (loF g)), (5, .float (FP.i2f (smF g))), (4, .int (g 10)), (3, .int (g 9)), (2, .int (g 8)), (1, .int (g 7)), (0, .ref o)]) hx hb dL_thing_285 hl (k := 1) rfl (by decide) (by decide) rfl (fun ls hl => ?_)
  refine lv_goto (tgt := 254) hx hb dL_thing_288 (by decide) ?_
  refine lv_iload hx hb dL_thing_254 (lv_at hl 0 rfl) ?_
  refine lv_iconst (v := 4) hx hb dL_thing_256 (by decide) ?_
  refine lv_icmp_ge (tgt := 291) hx hb dL_thing_257 (by decide) (fun h9 => absurd h9 (by decide)) (fun _ => ?_)
  obtain ⟨x3, hx3⟩ : ∃ x, x = bestS u g 3 x2 := ⟨_, rfl⟩
  have hb3 : BsOk u g x3 := by rw [hx3]; exact bs_ok ⟨by decide, by decide, hPr.2.2.2.2⟩ hb2
  refine W_cut (F0 m 283 ls [.int x3.1]) (fun H locs => At G cA A s H locs ∧ LB G cA A o (u, v, f, g, L) n K ch H) (fun join => ?_) (fun H locs hAL => ?_)
  · skip
    refine lv_aload_n hx hb dL_thing_260 rfl (lv_at hl 15 rfl) ?_
    refine lv_iload hx hb dL_thing_261 (lv_at hl 0 rfl) ?_
    refine lr_f (rL (rest := []) ⟨hx, hb, hml, hown, hts⟩ (LB_score l G cA A o (u, v, f, g, L) n K ch 3 hPr.1 (fun _ _ => hPr.2.2.2.2)) (cwV 1 hts gL_thing_X8_score rfl rfl rfl mdX8_score ⟨Nat.le_of_ble_eq_true rfl, Nat.le_of_ble_eq_true rfl⟩) hA hL rfl hl rfl (Nat.le_of_ble_eq_true rfl) dL_thing_263 ⟨Nat.le_of_ble_eq_true rfl, Nat.le_of_ble_eq_true rfl⟩) hA hL (fun r_263_2 H locs hr_263_2 hA hL => ?_)
    replace hr_263_2 : r_263_2 = prodF u g 3 := hr_263_2.trans (sco_at (by decide) (by decide) hg)
    subst hr_263_2
    refine lv_aload_n hx hb dL_thing_266 rfl (lv_at hl 15 rfl) ?_
    refine lv_iload hx hb dL_thing_267 (lv_at hl 1 rfl) ?_
    refine lr_f (rL (rest := [.float (prodF u g 3)]) ⟨hx, hb, hml, hown, hts⟩ (LB_score l G cA A o (u, v, f, g, L) n K ch x2.1 hPr.1 (fun _ _ => hb2.2.2.2)) (cwV 1 hts gL_thing_X8_score rfl rfl rfl mdX8_score ⟨Nat.le_of_ble_eq_true rfl, Nat.le_of_ble_eq_true rfl⟩) hA hL rfl hl rfl (Nat.le_of_ble_eq_true rfl) dL_thing_269 ⟨Nat.le_of_ble_eq_true rfl, Nat.le_of_ble_eq_true rfl⟩) hA hL (fun r_269_2 H locs hr_269_2 hA hL => ?_)
    replace hr_269_2 : r_269_2 = x2.2 := hr_269_2.trans (sco_b hg hb2)
    subst hr_269_2
    refine lv_fcmp hx hb dL_thing_272 ?_
    refine lv_if_le (tgt := 281) hx hb dL_thing_273 (by decide) (fun c_273_2 => ?_) (fun c_273_2 => ?_)
    · skip
      refine lv_iload hx hb dL_thing_281 (lv_at hl 1 rfl) ?_
      refine W.eq (g2 := F0 m 283 ls [.int x3.1]) (by rw [hx3, bs_pos c_273_2] <;> rfl) ?_
      exact join H locs ⟨hA, hL⟩
    · skip
      refine lv_iload hx hb dL_thing_276 (lv_at hl 0 rfl) ?_
      refine lv_goto (tgt := 283) hx hb dL_thing_278 (by decide) ?_
      refine W.eq (g2 := F0 m 283 ls [.int x3.1]) (by rw [hx3, bs_neg c_273_2] <;> rfl) ?_
      exact join H locs ⟨hA, hL⟩
  obtain ⟨hA, hL⟩ := hAL
  refine lv_istore (lv' := [(14, .int x3.1), (15, .int 3), (13, .float (prodF u g 3)), (12, .float (prodF u g 2)), (11, .float (prodF u g 1)), (10, .float (prodF u g 0)), (9, .float (l2F g)), (8, .float (hiF g)), (7, .float (miF g)), (6, .float (loF g)), (5, .float (FP.i2f (smF g))), (4, .int (g 10)), (3, .int (g 9)), (2, .int (g 8)), (1, .int (g 7)), (0, .ref o)]) hx hb dL_thing_283 hl (by decide) rfl (fun ls hl => ?_)
  refine lv_iinc (v := 4) (lv' := [(15, .int 4), (14, .int x3.1), (13, .float (prodF u g 3)), (12, .float (prodF u g 2)), (11, .float (prodF u g 1)), (10, .float (prodF u g 0)), (9, .float (l2F g)), (8, .float (hiF g)), (7, .float (miF g)), (6, .float (loF g)), (5, .float (FP.i2f (smF g))), (4, .int (g 10)), (3, .int (g 9)), (2, .int (g 8)), (1, .int (g 7)), (0, .ref o)]) hx hb dL_thing_285 hl (k := 1) rfl (by decide) (by decide) rfl (fun ls hl => ?_)
  refine lv_goto (tgt := 254) hx hb dL_thing_288 (by decide) ?_
  refine lv_iload hx hb dL_thing_254 (lv_at hl 0 rfl) ?_
  refine lv_iconst (v := 4) hx hb dL_thing_256 (by decide) ?_
  refine lv_icmp_ge (tgt := 291) hx hb dL_thing_257 (by decide) (fun _ => ?_) (fun h9 => absurd (by decide) h9)
  have hbk : bestK u g = x3.1 := by unfold bestK; rw [hx3, hx2, hx1]
  refine lv_aload_n hx hb dL_thing_291 rfl (lv_at hl 15 rfl) ?_
  refine lv_bipush (v := 7) hx hb dL_thing_292 (by decide) ?_
  refine lr_i (rL (rest := []) ⟨hx, hb, hml, hown, hts⟩ (LB_thing l G cA A o (u, v, f, g, L) n K ch 7 hPr) (cwV 1 hts gL_thing_X8_thing rfl rfl rfl mdX8_thing ⟨Nat.le_of_ble_eq_true rfl, Nat.le_of_ble_eq_true rfl⟩) hA hL rfl hl rfl (Nat.le_of_ble_eq_true rfl) dL_thing_294 ⟨Nat.le_of_ble_eq_true rfl, Nat.le_of_ble_eq_true rfl⟩) hA hL (fun r_294 H locs hr_294 hA hL => ?_)
  replace hr_294 : r_294 = bestK u g := hr_294.trans (th_7 hg)
  subst hr_294
  refine lv_iload hx hb dL_thing_297 (lv_at hl 1 rfl) ?_
  refine lv_icmp_ne (tgt := 358) hx hb dL_thing_299 (by decide) (fun c_299 => absurd hbk c_299) (fun c_299 => ?_)
  refine lv_iload_n hx hb dL_thing_302 rfl (lv_at hl 14 rfl) ?_
  refine lv_iconst (v := 1) hx hb dL_thing_303 (by decide) ?_
  refine lv_icmp_lt (tgt := 358) hx hb dL_thing_304 (by decide) (fun c_304 => absurd c_304 hT.1) (fun c_304 => ?_)
  refine lv_iload_n hx hb dL_thing_307 rfl (lv_at hl 13 rfl) ?_
  refine lv_iload_n hx hb dL_thing_308 rfl (lv_at hl 14 rfl) ?_
  refine lv_icmp_gt (tgt := 358) hx hb dL_thing_309 (by decide) (fun c_309 => absurd c_309 hT.2.2.1) (fun c_309 => ?_)
  refine lv_iload_n hx hb dL_thing_312 rfl (lv_at hl 12 rfl) ?_
  refine lv_iload_n hx hb dL_thing_313 rfl (lv_at hl 14 rfl) ?_
  refine lv_icmp_gt (tgt := 358) hx hb dL_thing_314 (by decide) (fun c_314 => absurd c_314 hT.2.2.2.1) (fun c_314 => ?_)
  refine lv_iload hx hb dL_thing_317 (lv_at hl 11 rfl) ?_
  refine lv_iload_n hx hb dL_thing_319 rfl (lv_at hl 14 rfl) ?_
  refine lv_icmp_gt (tgt := 358) hx hb dL_thing_320 (by decide) (fun c_320 => absurd c_320 hT.2.2.2.2.1) (fun c_320 => ?_)
  refine lv_iload_n hx hb dL_thing_323 rfl (lv_at hl 13 rfl) ?_
  refine lv_iload_n hx hb dL_thing_324 rfl (lv_at hl 12 rfl) ?_
  refine lv_iadd hx hb dL_thing_325 ?_
  refine lv_iload hx hb dL_thing_326 (lv_at hl 11 rfl) ?_
  refine lv_iadd hx hb dL_thing_328 ?_
  refine lv_iload_n hx hb dL_thing_329 rfl (lv_at hl 14 rfl) ?_
  refine lv_icmp_lt (tgt := 358) hx hb dL_thing_330 (by decide) (fun c_330 => absurd c_330 hT.2.2.2.2.2.1) (fun c_330 => ?_)
  refine lv_aload_n hx hb dL_thing_333 rfl (lv_at hl 15 rfl) ?_
  refine lv_iconst (v := 4) hx hb dL_thing_334 (by decide) ?_
  refine lr_i (rL (rest := []) ⟨hx, hb, hml, hown, hts⟩ (LB_thing l G cA A o (u, v, f, g, L) n K ch 4 hPr) (cwV 1 hts gL_thing_X8_thing rfl rfl rfl mdX8_thing ⟨Nat.le_of_ble_eq_true rfl, Nat.le_of_ble_eq_true rfl⟩) hA hL rfl hl rfl (Nat.le_of_ble_eq_true rfl) dL_thing_335 ⟨Nat.le_of_ble_eq_true rfl, Nat.le_of_ble_eq_true rfl⟩) hA hL (fun r_335 H locs hr_335 hA hL => ?_)
  replace hr_335 : r_335 = g 6 := hr_335.trans (th_4 hg)
  subst hr_335
  refine lv_iload_n hx hb dL_thing_338 rfl (lv_at hl 14 rfl) ?_
  refine lv_iadd hx hb dL_thing_339 ?_
  refine lv_aload_n hx hb dL_thing_340 rfl (lv_at hl 15 rfl) ?_
  refine lv_iconst (v := 5) hx hb dL_thing_341 (by decide) ?_
  refine lr_i (rL (rest := [.int ((g 6) + (g 7))]) ⟨hx, hb, hml, hown, hts⟩ (LB_thing l G cA A o (u, v, f, g, L) n K ch 5 hPr) (cwV 1 hts gL_thing_X8_thing rfl rfl rfl mdX8_thing ⟨Nat.le_of_ble_eq_true rfl, Nat.le_of_ble_eq_true rfl⟩) hA hL rfl hl rfl (Nat.le_of_ble_eq_true rfl) dL_thing_342 ⟨Nat.le_of_ble_eq_true rfl, Nat.le_of_ble_eq_true rfl⟩) hA hL (fun r_342 H locs hr_342 hA hL => ?_)
  replace hr_342 : r_342 = g 11 := hr_342.trans (th_5 hg)
  subst hr_342
  refine lv_iadd hx hb dL_thing_345 ?_
  refine lv_aload_n hx hb dL_thing_346 rfl (lv_at hl 15 rfl) ?_
  refine lv_iconst (v := 0) hx hb dL_thing_347 (by decide) ?_
  refine lr_i (rL (rest := [.int (((g 6) + (g 7)) + (g 11))]) ⟨hx, hb, hml, hown, hts⟩ (LB_count l G cA A o (u, v, f, g, L) n K ch 0 ) (cwV 1 hts gL_thing_X8_count rfl rfl rfl mdX8_count ⟨Nat.le_of_ble_eq_true rfl, Nat.le_of_ble_eq_true rfl⟩) hA hL rfl hl rfl (Nat.le_of_ble_eq_true rfl) dL_thing_348 ⟨Nat.le_of_ble_eq_true rfl, Nat.le_of_ble_eq_true rfl⟩) hA hL (fun r_348 H locs hr_348 hA hL => ?_)
  replace hr_348 : r_348 = g 27 := hr_348
  subst hr_348
  refine lv_icmp_gt (tgt := 358) hx hb dL_thing_351 (by decide) (fun c_351 => absurd c_351 hT.2.2.2.2.2.2) (fun c_351 => ?_)
  refine lv_iconst (v := 1) hx hb dL_thing_354 (by decide) ?_
  refine lv_goto (tgt := 359) hx hb dL_thing_355 (by decide) ?_
  exact en_l (post := fun r (_ : Unit) => r = 1) (B := fun _ H => LB G cA A o (u, v, f, g, L) n K ch H) () hx hb hr hlocks hA rfl hL dL_thing_359
theorem cL_thing_ok (l : Launch) (G : va_G) (cA : Nat → ClassId) (A : Nat → Prop) (o : Nat) (u : FF) (v : GG) (f : FF) (g L : GG) (n K : Nat) (ch : GG) (hT : ThOk u g) : Met l yL_thing wsL_thing ({ frames := 4, cells := 0, slots := 0, locals := 94 } : Room) (va_Pc [.ref o] (LbP G cA A o (u, v, f, g, L) n K ch)) (va_Qi (fun r (_ : Unit) => r = 1) (fun _ t => LB G cA A o (u, v, f, g, L) n K ch t.heap) A) 0 0 A := by
  by_cases hg : g 5 = 0
  · exact cL_thing_none l G cA A o u v f g L n K ch hT.1 hg
  · exact cL_thing_there l G cA A o u v f g L n K ch hT.1 hg (hT.2 hg)
