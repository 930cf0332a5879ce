/-! History: its contracts (by wip/p26/history.py) -/
set_option maxHeartbeats 4000000 in
set_option maxRecDepth 100000 in
/-- History.dropOldest() -/
theorem cX2_dropOldest_ok (l : Launch) (G : va_G) (cA : Nat → ClassId) (h0 r1 y0 y1 y2 y3 : Nat) (e0 e1 e2 e3 : List Value) : Wv l yX2_dropOldest wsX2_dropOldest ({ frames := 0, cells := 0, slots := 0, locals := 0 } : Room) G cA [.ref h0] [(h0, HiV r1 4), (r1, Q4V cA y0 y1 y2 y3), (y0, .inr (5, e0)), (y1, .inr (5, e1)), (y2, .inr (5, e2)), (y3, .inr (5, e3))] [(h0, HiV r1 3), (r1, Q4V cA y1 y2 y3 y0), (y0, .inr (5, e0)), (y1, .inr (5, e1)), (y2, .inr (5, e2)), (y3, .inr (5, e3))] := by
  refine ofW2 (cc := cX2_dropOldest) (maxL := 3) (ret := none) (own := RX2) (by decide) rfl rfl (Nat.le_of_ble_eq_true rfl) rfl ?_
  intro p e s m below meth c ls hx hb hml hr hts hown hlocks hv hl
  obtain ⟨hP, hE, hD0⟩ := hv
  have hK := hE.1
  have hD := dself hD0
  generalize hH0 : s.heap = H at hP ⊢
  have hS : va_S (inW [(h0, HiV r1 4), (r1, Q4V cA y0 y1 y2 y3), (y0, .inr (5, e0)), (y1, .inr (5, e1)), (y2, .inr (5, e2)), (y3, .inr (5, e3))]) s.heap H [] := hH0 ▸ va_S.rf
  generalize ([] : List Loc) = locs at hS ⊢
  clear hH0 hD0
  replace hl : lv_has ls 3 [(0, .ref h0)] := hl
  have hin_X2 : ∀ q ∈ u_ws RX2 TX2 2, q ∈ wsX2_dropOldest := by decide +kernel
  have k11 := hts (.fieldLink RX2 11 "LiftBeams$History" "states" "[LLiftBeams$State;") (by decide +kernel)
  have k16 := hts (.fieldLink RX2 16 "LiftBeams$History" "size" "I") (by decide +kernel)
  refine lv_aload_n hx hb dX2_dropOldest_0 rfl (lv_at hl 0 rfl) ?_
  refine va_get (D := G) (ci := 2) (v := .ref r1) (C := RX2) (T := TX2) (N := 2) hx hb hts hin_X2 hown hK hP 0 rfl rfl 0 (by decide) k11 (fun _ h9 => h9) rfl dX2_dropOldest_1 ?_
  refine lv_iconst (v := 0) hx hb dX2_dropOldest_4 (by decide) ?_
  refine va_aldq hx hb hK hP 1 3 rfl rfl (by unfold vp_in; decide) dX2_dropOldest_5 ?_
  refine W.eq (g2 := F0 m 6 ls [.ref y0]) rfl ?_
  refine lv_astore_n (lv' := [(1, .ref y0), (0, .ref h0)]) hx hb dX2_dropOldest_6 rfl hl (by decide) rfl (fun ls hl => ?_)
  refine lv_iconst (v := 1) hx hb dX2_dropOldest_7 (by decide) ?_
  refine lv_istore_n (lv' := [(2, .int 1), (1, .ref y0), (0, .ref h0)]) hx hb dX2_dropOldest_8 rfl hl (by decide) rfl (fun ls hl => ?_)
  refine lv_iload_n hx hb dX2_dropOldest_9 rfl (lv_at hl 0 rfl) ?_
  refine lv_aload_n hx hb dX2_dropOldest_10 rfl (lv_at hl 2 rfl) ?_
  refine va_get (D := G) (ci := 2) (v := .ref r1) (C := RX2) (T := TX2) (N := 2) hx hb hts hin_X2 hown hK hP 0 rfl rfl 0 (by decide) k11 (fun _ h9 => h9) rfl dX2_dropOldest_11 ?_
  refine va_alen (v := 4) hx hb hK hP 1 3 rfl rfl rfl dX2_dropOldest_14 ?_
  refine lv_icmp_ge (tgt := 38) hx hb dX2_dropOldest_15 (by decide) (fun h9 => absurd h9 (by decide)) (fun _ => ?_)
  refine lv_aload_n hx hb dX2_dropOldest_18 rfl (lv_at hl 2 rfl) ?_
  refine va_get (D := G) (ci := 2) (v := .ref r1) (C := RX2) (T := TX2) (N := 2) hx hb hts hin_X2 hown hK hP 0 rfl rfl 0 (by decide) k11 (fun _ h9 => h9) rfl dX2_dropOldest_19 ?_
  refine lv_iload_n hx hb dX2_dropOldest_22 rfl (lv_at hl 0 rfl) ?_
  refine lv_iconst (v := 1) hx hb dX2_dropOldest_23 (by decide) ?_
  refine lv_isub hx hb dX2_dropOldest_24 ?_
  refine W.eq (g2 := F0 m 25 ls [.int 0, .ref r1]) rfl ?_
  refine lv_aload_n hx hb dX2_dropOldest_25 rfl (lv_at hl 2 rfl) ?_
  refine va_get (D := G) (ci := 2) (v := .ref r1) (C := RX2) (T := TX2) (N := 2) hx hb hts hin_X2 hown hK hP 0 rfl rfl 0 (by decide) k11 (fun _ h9 => h9) rfl dX2_dropOldest_26 ?_
  refine lv_iload_n hx hb dX2_dropOldest_29 rfl (lv_at hl 0 rfl) ?_
  refine va_aldq hx hb hK hP 1 3 rfl rfl (by unfold vp_in; decide) dX2_dropOldest_30 ?_
  refine W.eq (g2 := F0 m 31 ls [.ref y1, .int 0, .ref r1]) rfl ?_
  refine va_astq hx hb hK hP hD hS 1 3 3 5 rfl rfl rfl rfl (by unfold vp_in; decide) dX2_dropOldest_31 (fun H locs hP hD hS => ?_)
  replace hP : va_P G vwCl [(h0, HiV r1 4), (r1, Q4V cA y1 y1 y2 y3), (y0, .inr (5, e0)), (y1, .inr (5, e1)), (y2, .inr (5, e2)), (y3, .inr (5, e3))] H := va_P_setA hP 1 rfl (vp_arrQ (q4_0 _ _ _ _ _)) rfl
  replace hD : va_D (inW [(h0, HiV r1 4), (r1, Q4V cA y0 y1 y2 y3), (y0, .inr (5, e0)), (y1, .inr (5, e1)), (y2, .inr (5, e2)), (y3, .inr (5, e3))]) [(h0, HiV r1 4), (r1, Q4V cA y1 y1 y2 y3), (y0, .inr (5, e0)), (y1, .inr (5, e1)), (y2, .inr (5, e2)), (y3, .inr (5, e3))] := va_D_setA hD 1 rfl rfl
  refine lv_iinc (v := 2) (lv' := [(2, .int 2), (1, .ref y0), (0, .ref h0)]) hx hb dX2_dropOldest_32 hl (k := 0) rfl (by decide) (by decide) rfl (fun ls hl => ?_)
  refine lv_goto (tgt := 9) hx hb dX2_dropOldest_35 (by decide) ?_
  refine lv_iload_n hx hb dX2_dropOldest_9 rfl (lv_at hl 0 rfl) ?_
  refine lv_aload_n hx hb dX2_dropOldest_10 rfl (lv_at hl 2 rfl) ?_
  refine va_get (D := G) (ci := 2) (v := .ref r1) (C := RX2) (T := TX2) (N := 2) hx hb hts hin_X2 hown hK hP 0 rfl rfl 0 (by decide) k11 (fun _ h9 => h9) rfl dX2_dropOldest_11 ?_
  refine va_alen (v := 4) hx hb hK hP 1 3 rfl rfl rfl dX2_dropOldest_14 ?_
  refine lv_icmp_ge (tgt := 38) hx hb dX2_dropOldest_15 (by decide) (fun h9 => absurd h9 (by decide)) (fun _ => ?_)
  refine lv_aload_n hx hb dX2_dropOldest_18 rfl (lv_at hl 2 rfl) ?_
  refine va_get (D := G) (ci := 2) (v := .ref r1) (C := RX2) (T := TX2) (N := 2) hx hb hts hin_X2 hown hK hP 0 rfl rfl 0 (by decide) k11 (fun _ h9 => h9) rfl dX2_dropOldest_19 ?_
  refine lv_iload_n hx hb dX2_dropOldest_22 rfl (lv_at hl 0 rfl) ?_
  refine lv_iconst (v := 1) hx hb dX2_dropOldest_23 (by decide) ?_
  refine lv_isub hx hb dX2_dropOldest_24 ?_
  refine W.eq (g2 := F0 m 25 ls [.int 1, .ref r1]) rfl ?_
  refine lv_aload_n hx hb dX2_dropOldest_25 rfl (lv_at hl 2 rfl) ?_
  refine va_get (D := G) (ci := 2) (v := .ref r1) (C := RX2) (T := TX2) (N := 2) hx hb hts hin_X2 hown hK hP 0 rfl rfl 0 (by decide) k11 (fun _ h9 => h9) rfl dX2_dropOldest_26 ?_
  refine lv_iload_n hx hb dX2_dropOldest_29 rfl (lv_at hl 0 rfl) ?_
  refine va_aldq hx hb hK hP 1 3 rfl rfl (by unfold vp_in; decide) dX2_dropOldest_30 ?_
  refine W.eq (g2 := F0 m 31 ls [.ref y2, .int 1, .ref r1]) rfl ?_
  refine va_astq hx hb hK hP hD hS 1 3 4 5 rfl rfl rfl rfl (by unfold vp_in; decide) dX2_dropOldest_31 (fun H locs hP hD hS => ?_)
  replace hP : va_P G vwCl [(h0, HiV r1 4), (r1, Q4V cA y1 y2 y2 y3), (y0, .inr (5, e0)), (y1, .inr (5, e1)), (y2, .inr (5, e2)), (y3, .inr (5, e3))] H := va_P_setA hP 1 rfl (vp_arrQ (q4_1 _ _ _ _ _)) rfl
  replace hD : va_D (inW [(h0, HiV r1 4), (r1, Q4V cA y0 y1 y2 y3), (y0, .inr (5, e0)), (y1, .inr (5, e1)), (y2, .inr (5, e2)), (y3, .inr (5, e3))]) [(h0, HiV r1 4), (r1, Q4V cA y1 y2 y2 y3), (y0, .inr (5, e0)), (y1, .inr (5, e1)), (y2, .inr (5, e2)), (y3, .inr (5, e3))] := va_D_setA hD 1 rfl rfl
  refine lv_iinc (v := 3) (lv' := [(2, .int 3), (1, .ref y0), (0, .ref h0)]) hx hb dX2_dropOldest_32 hl (k := 0) rfl (by decide) (by decide) rfl (fun ls hl => ?_)
  refine lv_goto (tgt := 9) hx hb dX2_dropOldest_35 (by decide) ?_
  refine lv_iload_n hx hb dX2_dropOldest_9 rfl (lv_at hl 0 rfl) ?_
  refine lv_aload_n hx hb dX2_dropOldest_10 rfl (lv_at hl 2 rfl) ?_
  refine va_get (D := G) (ci := 2) (v := .ref r1) (C := RX2) (T := TX2) (N := 2) hx hb hts hin_X2 hown hK hP 0 rfl rfl 0 (by decide) k11 (fun _ h9 => h9) rfl dX2_dropOldest_11 ?_
  refine va_alen (v := 4) hx hb hK hP 1 3 rfl rfl rfl dX2_dropOldest_14 ?_
  refine lv_icmp_ge (tgt := 38) hx hb dX2_dropOldest_15 (by decide) (fun h9 => absurd h9 (by decide)) (fun _ => ?_)
  refine lv_aload_n hx hb dX2_dropOldest_18 rfl (lv_at hl 2 rfl) ?_
  refine va_get (D := G) (ci := 2) (v := .ref r1) (C := RX2) (T := TX2) (N := 2) hx hb hts hin_X2 hown hK hP 0 rfl rfl 0 (by decide) k11 (fun _ h9 => h9) rfl dX2_dropOldest_19 ?_
  refine lv_iload_n hx hb dX2_dropOldest_22 rfl (lv_at hl 0 rfl) ?_
  refine lv_iconst (v := 1) hx hb dX2_dropOldest_23 (by decide) ?_
  refine lv_isub hx hb dX2_dropOldest_24 ?_
  refine W.eq (g2 := F0 m 25 ls [.int 2, .ref r1]) rfl ?_
  refine lv_aload_n hx hb dX2_dropOldest_25 rfl (lv_at hl 2 rfl) ?_
  refine va_get (D := G) (ci := 2) (v := .ref r1) (C := RX2) (T := TX2) (N := 2) hx hb hts hin_X2 hown hK hP 0 rfl rfl 0 (by decide) k11 (fun _ h9 => h9) rfl dX2_dropOldest_26 ?_
  refine lv_iload_n hx hb dX2_dropOldest_29 rfl (lv_at hl 0 rfl) ?_
  refine va_aldq hx hb hK hP 1 3 rfl rfl (by unfold vp_in; decide) dX2_dropOldest_30 ?_
  refine W.eq (g2 := F0 m 31 ls [.ref y3, .int 2, .ref r1]) rfl ?_
  refine va_astq hx hb hK hP hD hS 1 3 5 5 rfl rfl rfl rfl (by unfold vp_in; decide) dX2_dropOldest_31 (fun H locs hP hD hS => ?_)
  replace hP : va_P G vwCl [(h0, HiV r1 4), (r1, Q4V cA y1 y2 y3 y3), (y0, .inr (5, e0)), (y1, .inr (5, e1)), (y2, .inr (5, e2)), (y3, .inr (5, e3))] H := va_P_setA hP 1 rfl (vp_arrQ (q4_2 _ _ _ _ _)) rfl
  replace hD : va_D (inW [(h0, HiV r1 4), (r1, Q4V cA y0 y1 y2 y3), (y0, .inr (5, e0)), (y1, .inr (5, e1)), (y2, .inr (5, e2)), (y3, .inr (5, e3))]) [(h0, HiV r1 4), (r1, Q4V cA y1 y2 y3 y3), (y0, .inr (5, e0)), (y1, .inr (5, e1)), (y2, .inr (5, e2)), (y3, .inr (5, e3))] := va_D_setA hD 1 rfl rfl
  refine lv_iinc (v := 4) (lv' := [(2, .int 4), (1, .ref y0), (0, .ref h0)]) hx hb dX2_dropOldest_32 hl (k := 0) rfl (by decide) (by decide) rfl (fun ls hl => ?_)
  refine lv_goto (tgt := 9) hx hb dX2_dropOldest_35 (by decide) ?_
  refine lv_iload_n hx hb dX2_dropOldest_9 rfl (lv_at hl 0 rfl) ?_
  refine lv_aload_n hx hb dX2_dropOldest_10 rfl (lv_at hl 2 rfl) ?_
  refine va_get (D := G) (ci := 2) (v := .ref r1) (C := RX2) (T := TX2) (N := 2) hx hb hts hin_X2 hown hK hP 0 rfl rfl 0 (by decide) k11 (fun _ h9 => h9) rfl dX2_dropOldest_11 ?_
  refine va_alen (v := 4) hx hb hK hP 1 3 rfl rfl rfl dX2_dropOldest_14 ?_
  refine lv_icmp_ge (tgt := 38) hx hb dX2_dropOldest_15 (by decide) (fun _ => ?_) (fun h9 => absurd (by decide) h9)
  refine lv_aload_n hx hb dX2_dropOldest_38 rfl (lv_at hl 2 rfl) ?_
  refine va_get (D := G) (ci := 2) (v := .ref r1) (C := RX2) (T := TX2) (N := 2) hx hb hts hin_X2 hown hK hP 0 rfl rfl 0 (by decide) k11 (fun _ h9 => h9) rfl dX2_dropOldest_39 ?_
  refine lv_aload_n hx hb dX2_dropOldest_42 rfl (lv_at hl 2 rfl) ?_
  refine va_get (D := G) (ci := 2) (v := .ref r1) (C := RX2) (T := TX2) (N := 2) hx hb hts hin_X2 hown hK hP 0 rfl rfl 0 (by decide) k11 (fun _ h9 => h9) rfl dX2_dropOldest_43 ?_
  refine va_alen (v := 4) hx hb hK hP 1 3 rfl rfl rfl dX2_dropOldest_46 ?_
  refine lv_iconst (v := 1) hx hb dX2_dropOldest_47 (by decide) ?_
  refine lv_isub hx hb dX2_dropOldest_48 ?_
  refine W.eq (g2 := F0 m 49 ls [.int 3, .ref r1]) rfl ?_
  refine lv_aload_n hx hb dX2_dropOldest_49 rfl (lv_at hl 1 rfl) ?_
  refine va_astq hx hb hK hP hD hS 1 3 2 5 rfl rfl rfl rfl (by unfold vp_in; decide) dX2_dropOldest_50 (fun H locs hP hD hS => ?_)
  replace hP : va_P G vwCl [(h0, HiV r1 4), (r1, Q4V cA y1 y2 y3 y0), (y0, .inr (5, e0)), (y1, .inr (5, e1)), (y2, .inr (5, e2)), (y3, .inr (5, e3))] H := va_P_setA hP 1 rfl (vp_arrQ (q4_3 _ _ _ _ _)) rfl
  replace hD : va_D (inW [(h0, HiV r1 4), (r1, Q4V cA y0 y1 y2 y3), (y0, .inr (5, e0)), (y1, .inr (5, e1)), (y2, .inr (5, e2)), (y3, .inr (5, e3))]) [(h0, HiV r1 4), (r1, Q4V cA y1 y2 y3 y0), (y0, .inr (5, e0)), (y1, .inr (5, e1)), (y2, .inr (5, e2)), (y3, .inr (5, e3))] := va_D_setA hD 1 rfl rfl
  refine lv_aload_n hx hb dX2_dropOldest_51 rfl (lv_at hl 2 rfl) ?_
  refine lv_aload_n hx hb dX2_dropOldest_52 rfl (lv_at hl 2 rfl) ?_
  refine va_get (D := G) (ci := 2) (v := .ref r1) (C := RX2) (T := TX2) (N := 2) hx hb hts hin_X2 hown hK hP 0 rfl rfl 0 (by decide) k11 (fun _ h9 => h9) rfl dX2_dropOldest_53 ?_
  refine va_alen (v := 4) hx hb hK hP 1 3 rfl rfl rfl dX2_dropOldest_56 ?_
  refine lv_iconst (v := 1) hx hb dX2_dropOldest_57 (by decide) ?_
  refine lv_isub hx hb dX2_dropOldest_58 ?_
  refine W.eq (g2 := F0 m 59 ls [.int 3, .ref h0]) rfl ?_
  refine va_put (D := G) (ci := 2) (v := .int 3) (ty := .int) (C := RX2) (T := TX2) (N := 2) hx hb hts hin_X2 tyX2 tyX2_ok nmX2 hown hK hP hD hS 0 rfl rfl 1 (by decide) k16 (fun _ h9 => h9) rfl (by decide +kernel) rfl rfl (Nat.le_of_ble_eq_true rfl) dX2_dropOldest_59 (fun H locs hP hD hS => ?_)
  replace hP : va_P G vwCl [(h0, HiV r1 3), (r1, Q4V cA y1 y2 y3 y0), (y0, .inr (5, e0)), (y1, .inr (5, e1)), (y2, .inr (5, e2)), (y3, .inr (5, e3))] H := hP
  replace hD : va_D (inW [(h0, HiV r1 4), (r1, Q4V cA y0 y1 y2 y3), (y0, .inr (5, e0)), (y1, .inr (5, e1)), (y2, .inr (5, e2)), (y3, .inr (5, e3))]) [(h0, HiV r1 3), (r1, Q4V cA y1 y2 y3 y0), (y0, .inr (5, e0)), (y1, .inr (5, e1)), (y2, .inr (5, e2)), (y3, .inr (5, e3))] := hD
  exact en_wv hx hb hr hlocks hS hP dX2_dropOldest_62
set_option maxHeartbeats 4000000 in
set_option maxRecDepth 100000 in
/-- History.record(state), with 0 states there -/
theorem cX2_record_0 (l : Launch) (G : va_G) (cA : Nat → ClassId) (h0 r1 y1 y2 y3 : Nat) (z a : Nat → Nat) (u u2 : FF) (v v2 : GG) (f f2 : FF) (g g2 L L2 : GG) (hB : Bo g2) : Wv l yX2_record wsX2_record ({ frames := 2, cells := 0, slots := 0, locals := 43 } : Room) G cA [.ref h0, .ref (a 0)] [(h0, HiV r1 0), (r1, Q4V cA (z 0) y1 y2 y3), ((z 0), StV (z 1) (z 2) (z 3) (z 4) (z 5) g), ((z 1), SeV (z 6) (z 7) (z 8)), ((z 2), ThV g), ((z 3), DrV f g), ((z 4), LgV (z 9) g), ((z 5), TaV g), ((z 6), SpV cA u), ((z 7), WeV cA u), ((z 8), NuV cA v), ((z 9), LcV cA L), ((a 0), StV (a 1) (a 2) (a 3) (a 4) (a 5) g2), ((a 1), SeV (a 6) (a 7) (a 8)), ((a 2), ThV g2), ((a 3), DrV f2 g2), ((a 4), LgV (a 9) g2), ((a 5), TaV g2), ((a 6), SpV cA u2), ((a 7), WeV cA u2), ((a 8), NuV cA v2), ((a 9), LcV cA L2)] ([(h0, HiV r1 1), (r1, Q4V cA (z 0) y1 y2 y3)] ++ (stC cA z u2 v2 f2 g2 L2 ++ stC cA a u2 v2 f2 g2 L2)) := by
  refine ofW2 (cc := cX2_record) (maxL := 2) (ret := none) (own := RX2) (by decide) rfl rfl (Nat.le_of_ble_eq_true rfl) rfl ?_
  intro p e s m below meth c ls hx hb hml hr hts hown hlocks hv hl
  obtain ⟨hP, hE, hD0⟩ := hv
  have hK := hE.1
  have hD := dself hD0
  generalize hH0 : s.heap = H at hP ⊢
  have hS : va_S (inW [(h0, HiV r1 0), (r1, Q4V cA (z 0) y1 y2 y3), ((z 0), StV (z 1) (z 2) (z 3) (z 4) (z 5) g), ((z 1), SeV (z 6) (z 7) (z 8)), ((z 2), ThV g), ((z 3), DrV f g), ((z 4), LgV (z 9) g), ((z 5), TaV g), ((z 6), SpV cA u), ((z 7), WeV cA u), ((z 8), NuV cA v), ((z 9), LcV cA L), ((a 0), StV (a 1) (a 2) (a 3) (a 4) (a 5) g2), ((a 1), SeV (a 6) (a 7) (a 8)), ((a 2), ThV g2), ((a 3), DrV f2 g2), ((a 4), LgV (a 9) g2), ((a 5), TaV g2), ((a 6), SpV cA u2), ((a 7), WeV cA u2), ((a 8), NuV cA v2), ((a 9), LcV cA L2)]) s.heap H [] := hH0 ▸ va_S.rf
  generalize ([] : List Loc) = locs at hS ⊢
  clear hH0 hD0
  replace hl : lv_has ls 2 [(0, .ref h0), (1, .ref (a 0))] := hl
  have hin_X2 : ∀ q ∈ u_ws RX2 TX2 2, q ∈ wsX2_record := by decide +kernel
  have k16 := hts (.fieldLink RX2 16 "LiftBeams$History" "size" "I") (by decide +kernel)
  have k11 := hts (.fieldLink RX2 11 "LiftBeams$History" "states" "[LLiftBeams$State;") (by decide +kernel)
  refine lv_aload_n hx hb dX2_record_0 rfl (lv_at hl 0 rfl) ?_
  refine va_get (D := G) (ci := 2) (v := .int 0) (C := RX2) (T := TX2) (N := 2) hx hb hts hin_X2 hown hK hP 0 rfl rfl 1 (by decide) k16 (fun _ h9 => h9) rfl dX2_record_1 ?_
  refine lv_aload_n hx hb dX2_record_4 rfl (lv_at hl 0 rfl) ?_
  refine va_get (D := G) (ci := 2) (v := .ref r1) (C := RX2) (T := TX2) (N := 2) hx hb hts hin_X2 hown hK hP 0 rfl rfl 0 (by decide) k11 (fun _ h9 => h9) rfl dX2_record_5 ?_
  refine va_alen (v := 4) hx hb hK hP 1 3 rfl rfl rfl dX2_record_8 ?_
  refine lv_icmp_lt (tgt := 16) hx hb dX2_record_9 (by decide) (fun _ => ?_) (fun h9 => absurd (by decide) h9)
  refine lv_aload_n hx hb dX2_record_16 rfl (lv_at hl 0 rfl) ?_
  refine va_get (D := G) (ci := 2) (v := .int 0) (C := RX2) (T := TX2) (N := 2) hx hb hts hin_X2 hown hK hP 0 rfl rfl 1 (by decide) k16 (fun _ h9 => h9) rfl dX2_record_17 ?_
  refine lv_if_lt (tgt := 58) hx hb dX2_record_20 (by decide) (fun h9 => absurd h9 (by decide)) (fun _ => ?_)
  refine lv_aload_n hx hb dX2_record_23 rfl (lv_at hl 0 rfl) ?_
  refine va_get (D := G) (ci := 2) (v := .int 0) (C := RX2) (T := TX2) (N := 2) hx hb hts hin_X2 hown hK hP 0 rfl rfl 1 (by decide) k16 (fun _ h9 => h9) rfl dX2_record_24 ?_
  refine lv_aload_n hx hb dX2_record_27 rfl (lv_at hl 0 rfl) ?_
  refine va_get (D := G) (ci := 2) (v := .ref r1) (C := RX2) (T := TX2) (N := 2) hx hb hts hin_X2 hown hK hP 0 rfl rfl 0 (by decide) k11 (fun _ h9 => h9) rfl dX2_record_28 ?_
  refine va_alen (v := 4) hx hb hK hP 1 3 rfl rfl rfl dX2_record_31 ?_
  refine lv_icmp_ge (tgt := 58) hx hb dX2_record_32 (by decide) (fun h9 => absurd h9 (by decide)) (fun _ => ?_)
  refine lv_aload_n hx hb dX2_record_35 rfl (lv_at hl 0 rfl) ?_
  refine va_get (D := G) (ci := 2) (v := .ref r1) (C := RX2) (T := TX2) (N := 2) hx hb hts hin_X2 hown hK hP 0 rfl rfl 0 (by decide) k11 (fun _ h9 => h9) rfl dX2_record_36 ?_
  refine lv_aload_n hx hb dX2_record_39 rfl (lv_at hl 0 rfl) ?_
  refine va_get (D := G) (ci := 2) (v := .int 0) (C := RX2) (T := TX2) (N := 2) hx hb hts hin_X2 hown hK hP 0 rfl rfl 1 (by decide) k16 (fun _ h9 => h9) rfl dX2_record_40 ?_
  refine va_aldq hx hb hK hP 1 3 rfl rfl (by unfold vp_in; decide) dX2_record_43 ?_
  refine W.eq (g2 := F0 m 44 ls [.ref (z 0)]) rfl ?_
  refine lv_aload_n hx hb dX2_record_44 rfl (lv_at hl 1 rfl) ?_
  refine wr_v (ws' := [(h0, HiV r1 0), (r1, Q4V cA (z 0) y1 y2 y3), ((z 0), StV (z 1) (z 2) (z 3) (z 4) (z 5) g2), ((z 1), SeV (z 6) (z 7) (z 8)), ((z 2), ThV g2), ((z 3), DrV f2 g2), ((z 4), LgV (z 9) g2), ((z 5), TaV g2), ((z 6), SpV cA u2), ((z 7), WeV cA u2), ((z 8), NuV cA v2), ((z 9), LcV cA L2), ((a 0), StV (a 1) (a 2) (a 3) (a 4) (a 5) g2), ((a 1), SeV (a 6) (a 7) (a 8)), ((a 2), ThV g2), ((a 3), DrV f2 g2), ((a 4), LgV (a 9) g2), ((a 5), TaV g2), ((a 6), SpV cA u2), ((a 7), WeV cA u2), ((a 8), NuV cA v2), ((a 9), LcV cA L2)]) (rV (rest := []) ⟨hx, hb, hml, hown, hts⟩ (cX5_copyFrom_ok l G cA z a u u2 v v2 f f2 g g2 L L2 hB) (cwV 1 hts gX2_record_X5_copyFrom rfl rfl rfl mdX5_copyFrom ⟨Nat.le_of_ble_eq_true rfl, Nat.le_of_ble_eq_true rfl⟩) hE (hP.sub (ws' := [((z 0), StV (z 1) (z 2) (z 3) (z 4) (z 5) g), ((z 1), SeV (z 6) (z 7) (z 8)), ((z 2), ThV g), ((z 3), DrV f g), ((z 4), LgV (z 9) g), ((z 5), TaV g), ((z 6), SpV cA u), ((z 7), WeV cA u), ((z 8), NuV cA v), ((z 9), LcV cA L), ((a 0), StV (a 1) (a 2) (a 3) (a 4) (a 5) g2), ((a 1), SeV (a 6) (a 7) (a 8)), ((a 2), ThV g2), ((a 3), DrV f2 g2), ((a 4), LgV (a 9) g2), ((a 5), TaV g2), ((a 6), SpV cA u2), ((a 7), WeV cA u2), ((a 8), NuV cA v2), ((a 9), LcV cA L2)]) [2, 3, 4, 5, 6, 7, 8, 9, 10, 11, 12, 13, 14, 15, 16, 17, 18, 19, 20, 21] rfl) (hD.sub (ws' := [((z 0), StV (z 1) (z 2) (z 3) (z 4) (z 5) g), ((z 1), SeV (z 6) (z 7) (z 8)), ((z 2), ThV g), ((z 3), DrV f g), ((z 4), LgV (z 9) g), ((z 5), TaV g), ((z 6), SpV cA u), ((z 7), WeV cA u), ((z 8), NuV cA v), ((z 9), LcV cA L), ((a 0), StV (a 1) (a 2) (a 3) (a 4) (a 5) g2), ((a 1), SeV (a 6) (a 7) (a 8)), ((a 2), ThV g2), ((a 3), DrV f2 g2), ((a 4), LgV (a 9) g2), ((a 5), TaV g2), ((a 6), SpV cA u2), ((a 7), WeV cA u2), ((a 8), NuV cA v2), ((a 9), LcV cA L2)]) [2, 3, 4, 5, 6, 7, 8, 9, 10, 11, 12, 13, 14, 15, 16, 17, 18, 19, 20, 21] (by decide) rfl) (q0 := 0) (ci := 5) rfl rfl rfl hl rfl (Nat.le_of_ble_eq_true rfl) dX2_record_45 ⟨Nat.le_of_ble_eq_true rfl, Nat.le_of_ble_eq_true rfl⟩) hS hP hD [2, 3, 4, 5, 6, 7, 8, 9, 10, 11, 12, 13, 14, 15, 16, 17, 18, 19, 20, 21] rfl rfl [0, 1] [(h0, HiV r1 0), (r1, Q4V cA (z 0) y1 y2 y3)] rfl rfl rfl rfl (fun H locs hP hD hS => ?_)
  refine lv_aload_n hx hb dX2_record_48 rfl (lv_at hl 0 rfl) ?_
  refine lv_dup hx hb dX2_record_49 rfl ?_
  refine va_get (D := G) (ci := 2) (v := .int 0) (C := RX2) (T := TX2) (N := 2) hx hb hts hin_X2 hown hK hP 0 rfl rfl 1 (by decide) k16 (fun _ h9 => h9) rfl dX2_record_50 ?_
  refine lv_iconst (v := 1) hx hb dX2_record_53 (by decide) ?_
  refine lv_iadd hx hb dX2_record_54 ?_
  refine W.eq (g2 := F0 m 55 ls [.int 1, .ref h0]) rfl ?_
  refine va_put (D := G) (ci := 2) (v := .int 1) (ty := .int) (C := RX2) (T := TX2) (N := 2) hx hb hts hin_X2 tyX2 tyX2_ok nmX2 hown hK hP hD hS 0 rfl rfl 1 (by decide) k16 (fun _ h9 => h9) rfl (by decide +kernel) rfl rfl (Nat.le_of_ble_eq_true rfl) dX2_record_55 (fun H locs hP hD hS => ?_)
  replace hP : va_P G vwCl [(h0, HiV r1 1), (r1, Q4V cA (z 0) y1 y2 y3), ((z 0), StV (z 1) (z 2) (z 3) (z 4) (z 5) g2), ((z 1), SeV (z 6) (z 7) (z 8)), ((z 2), ThV g2), ((z 3), DrV f2 g2), ((z 4), LgV (z 9) g2), ((z 5), TaV g2), ((z 6), SpV cA u2), ((z 7), WeV cA u2), ((z 8), NuV cA v2), ((z 9), LcV cA L2), ((a 0), StV (a 1) (a 2) (a 3) (a 4) (a 5) g2), ((a 1), SeV (a 6) (a 7) (a 8)), ((a 2), ThV g2), ((a 3), DrV f2 g2), ((a 4), LgV (a 9) g2), ((a 5), TaV g2), ((a 6), SpV cA u2), ((a 7), WeV cA u2), ((a 8), NuV cA v2), ((a 9), LcV cA L2)] H := hP
  replace hD : va_D (inW [(h0, HiV r1 0), (r1, Q4V cA (z 0) y1 y2 y3), ((z 0), StV (z 1) (z 2) (z 3) (z 4) (z 5) g), ((z 1), SeV (z 6) (z 7) (z 8)), ((z 2), ThV g), ((z 3), DrV f g), ((z 4), LgV (z 9) g), ((z 5), TaV g), ((z 6), SpV cA u), ((z 7), WeV cA u), ((z 8), NuV cA v), ((z 9), LcV cA L), ((a 0), StV (a 1) (a 2) (a 3) (a 4) (a 5) g2), ((a 1), SeV (a 6) (a 7) (a 8)), ((a 2), ThV g2), ((a 3), DrV f2 g2), ((a 4), LgV (a 9) g2), ((a 5), TaV g2), ((a 6), SpV cA u2), ((a 7), WeV cA u2), ((a 8), NuV cA v2), ((a 9), LcV cA L2)]) [(h0, HiV r1 1), (r1, Q4V cA (z 0) y1 y2 y3), ((z 0), StV (z 1) (z 2) (z 3) (z 4) (z 5) g2), ((z 1), SeV (z 6) (z 7) (z 8)), ((z 2), ThV g2), ((z 3), DrV f2 g2), ((z 4), LgV (z 9) g2), ((z 5), TaV g2), ((z 6), SpV cA u2), ((z 7), WeV cA u2), ((z 8), NuV cA v2), ((z 9), LcV cA L2), ((a 0), StV (a 1) (a 2) (a 3) (a 4) (a 5) g2), ((a 1), SeV (a 6) (a 7) (a 8)), ((a 2), ThV g2), ((a 3), DrV f2 g2), ((a 4), LgV (a 9) g2), ((a 5), TaV g2), ((a 6), SpV cA u2), ((a 7), WeV cA u2), ((a 8), NuV cA v2), ((a 9), LcV cA L2)] := hD
  exact en_wv hx hb hr hlocks hS hP dX2_record_58
set_option maxHeartbeats 4000000 in
set_option maxRecDepth 100000 in
/-- History.record(state), with 1 states there -/
theorem cX2_record_1 (l : Launch) (G : va_G) (cA : Nat → ClassId) (h0 r1 y0 y2 y3 : Nat) (z a : Nat → Nat) (u u2 : FF) (v v2 : GG) (f f2 : FF) (g g2 L L2 : GG) (hB : Bo g2) : Wv l yX2_record wsX2_record ({ frames := 2, cells := 0, slots := 0, locals := 43 } : Room) G cA [.ref h0, .ref (a 0)] [(h0, HiV r1 1), (r1, Q4V cA y0 (z 0) y2 y3), ((z 0), StV (z 1) (z 2) (z 3) (z 4) (z 5) g), ((z 1), SeV (z 6) (z 7) (z 8)), ((z 2), ThV g), ((z 3), DrV f g), ((z 4), LgV (z 9) g), ((z 5), TaV g), ((z 6), SpV cA u), ((z 7), WeV cA u), ((z 8), NuV cA v), ((z 9), LcV cA L), ((a 0), StV (a 1) (a 2) (a 3) (a 4) (a 5) g2), ((a 1), SeV (a 6) (a 7) (a 8)), ((a 2), ThV g2), ((a 3), DrV f2 g2), ((a 4), LgV (a 9) g2), ((a 5), TaV g2), ((a 6), SpV cA u2), ((a 7), WeV cA u2), ((a 8), NuV cA v2), ((a 9), LcV cA L2)] ([(h0, HiV r1 2), (r1, Q4V cA y0 (z 0) y2 y3)] ++ (stC cA z u2 v2 f2 g2 L2 ++ stC cA a u2 v2 f2 g2 L2)) := by
  refine ofW2 (cc := cX2_record) (maxL := 2) (ret := none) (own := RX2) (by decide) rfl rfl (Nat.le_of_ble_eq_true rfl) rfl ?_
  intro p e s m below meth c ls hx hb hml hr hts hown hlocks hv hl
  obtain ⟨hP, hE, hD0⟩ := hv
  have hK := hE.1
  have hD := dself hD0
  generalize hH0 : s.heap = H at hP ⊢
  have hS : va_S (inW [(h0, HiV r1 1), (r1, Q4V cA y0 (z 0) y2 y3), ((z 0), StV (z 1) (z 2) (z 3) (z 4) (z 5) g), ((z 1), SeV (z 6) (z 7) (z 8)), ((z 2), ThV g), ((z 3), DrV f g), ((z 4), LgV (z 9) g), ((z 5), TaV g), ((z 6), SpV cA u), ((z 7), WeV cA u), ((z 8), NuV cA v), ((z 9), LcV cA L), ((a 0), StV (a 1) (a 2) (a 3) (a 4) (a 5) g2), ((a 1), SeV (a 6) (a 7) (a 8)), ((a 2), ThV g2), ((a 3), DrV f2 g2), ((a 4), LgV (a 9) g2), ((a 5), TaV g2), ((a 6), SpV cA u2), ((a 7), WeV cA u2), ((a 8), NuV cA v2), ((a 9), LcV cA L2)]) s.heap H [] := hH0 ▸ va_S.rf
  generalize ([] : List Loc) = locs at hS ⊢
  clear hH0 hD0
  replace hl : lv_has ls 2 [(0, .ref h0), (1, .ref (a 0))] := hl
  have hin_X2 : ∀ q ∈ u_ws RX2 TX2 2, q ∈ wsX2_record := by decide +kernel
  have k16 := hts (.fieldLink RX2 16 "LiftBeams$History" "size" "I") (by decide +kernel)
  have k11 := hts (.fieldLink RX2 11 "LiftBeams$History" "states" "[LLiftBeams$State;") (by decide +kernel)
  refine lv_aload_n hx hb dX2_record_0 rfl (lv_at hl 0 rfl) ?_
  refine va_get (D := G) (ci := 2) (v := .int 1) (C := RX2) (T := TX2) (N := 2) hx hb hts hin_X2 hown hK hP 0 rfl rfl 1 (by decide) k16 (fun _ h9 => h9) rfl dX2_record_1 ?_
  refine lv_aload_n hx hb dX2_record_4 rfl (lv_at hl 0 rfl) ?_
  refine va_get (D := G) (ci := 2) (v := .ref r1) (C := RX2) (T := TX2) (N := 2) hx hb hts hin_X2 hown hK hP 0 rfl rfl 0 (by decide) k11 (fun _ h9 => h9) rfl dX2_record_5 ?_
  refine va_alen (v := 4) hx hb hK hP 1 3 rfl rfl rfl dX2_record_8 ?_
  refine lv_icmp_lt (tgt := 16) hx hb dX2_record_9 (by decide) (fun _ => ?_) (fun h9 => absurd (by decide) h9)
  refine lv_aload_n hx hb dX2_record_16 rfl (lv_at hl 0 rfl) ?_
  refine va_get (D := G) (ci := 2) (v := .int 1) (C := RX2) (T := TX2) (N := 2) hx hb hts hin_X2 hown hK hP 0 rfl rfl 1 (by decide) k16 (fun _ h9 => h9) rfl dX2_record_17 ?_
  refine lv_if_lt (tgt := 58) hx hb dX2_record_20 (by decide) (fun h9 => absurd h9 (by decide)) (fun _ => ?_)
  refine lv_aload_n hx hb dX2_record_23 rfl (lv_at hl 0 rfl) ?_
  refine va_get (D := G) (ci := 2) (v := .int 1) (C := RX2) (T := TX2) (N := 2) hx hb hts hin_X2 hown hK hP 0 rfl rfl 1 (by decide) k16 (fun _ h9 => h9) rfl dX2_record_24 ?_
  refine lv_aload_n hx hb dX2_record_27 rfl (lv_at hl 0 rfl) ?_
  refine va_get (D := G) (ci := 2) (v := .ref r1) (C := RX2) (T := TX2) (N := 2) hx hb hts hin_X2 hown hK hP 0 rfl rfl 0 (by decide) k11 (fun _ h9 => h9) rfl dX2_record_28 ?_
  refine va_alen (v := 4) hx hb hK hP 1 3 rfl rfl rfl dX2_record_31 ?_
  refine lv_icmp_ge (tgt := 58) hx hb dX2_record_32 (by decide) (fun h9 => absurd h9 (by decide)) (fun _ => ?_)
  refine lv_aload_n hx hb dX2_record_35 rfl (lv_at hl 0 rfl) ?_
  refine va_get (D := G) (ci := 2) (v := .ref r1) (C := RX2) (T := TX2) (N := 2) hx hb hts hin_X2 hown hK hP 0 rfl rfl 0 (by decide) k11 (fun _ h9 => h9) rfl dX2_record_36 ?_
  refine lv_aload_n hx hb dX2_record_39 rfl (lv_at hl 0 rfl) ?_
  refine va_get (D := G) (ci := 2) (v := .int 1) (C := RX2) (T := TX2) (N := 2) hx hb hts hin_X2 hown hK hP 0 rfl rfl 1 (by decide) k16 (fun _ h9 => h9) rfl dX2_record_40 ?_
  refine va_aldq hx hb hK hP 1 3 rfl rfl (by unfold vp_in; decide) dX2_record_43 ?_
  refine W.eq (g2 := F0 m 44 ls [.ref (z 0)]) rfl ?_
  refine lv_aload_n hx hb dX2_record_44 rfl (lv_at hl 1 rfl) ?_
  refine wr_v (ws' := [(h0, HiV r1 1), (r1, Q4V cA y0 (z 0) y2 y3), ((z 0), StV (z 1) (z 2) (z 3) (z 4) (z 5) g2), ((z 1), SeV (z 6) (z 7) (z 8)), ((z 2), ThV g2), ((z 3), DrV f2 g2), ((z 4), LgV (z 9) g2), ((z 5), TaV g2), ((z 6), SpV cA u2), ((z 7), WeV cA u2), ((z 8), NuV cA v2), ((z 9), LcV cA L2), ((a 0), StV (a 1) (a 2) (a 3) (a 4) (a 5) g2), ((a 1), SeV (a 6) (a 7) (a 8)), ((a 2), ThV g2), ((a 3), DrV f2 g2), ((a 4), LgV (a 9) g2), ((a 5), TaV g2), ((a 6), SpV cA u2), ((a 7), WeV cA u2), ((a 8), NuV cA v2), ((a 9), LcV cA L2)]) (rV (rest := []) ⟨hx, hb, hml, hown, hts⟩ (cX5_copyFrom_ok l G cA z a u u2 v v2 f f2 g g2 L L2 hB) (cwV 1 hts gX2_record_X5_copyFrom rfl rfl rfl mdX5_copyFrom ⟨Nat.le_of_ble_eq_true rfl, Nat.le_of_ble_eq_true rfl⟩) hE (hP.sub (ws' := [((z 0), StV (z 1) (z 2) (z 3) (z 4) (z 5) g), ((z 1), SeV (z 6) (z 7) (z 8)), ((z 2), ThV g), ((z 3), DrV f g), ((z 4), LgV (z 9) g), ((z 5), TaV g), ((z 6), SpV cA u), ((z 7), WeV cA u), ((z 8), NuV cA v), ((z 9), LcV cA L), ((a 0), StV (a 1) (a 2) (a 3) (a 4) (a 5) g2), ((a 1), SeV (a 6) (a 7) (a 8)), ((a 2), ThV g2), ((a 3), DrV f2 g2), ((a 4), LgV (a 9) g2), ((a 5), TaV g2), ((a 6), SpV cA u2), ((a 7), WeV cA u2), ((a 8), NuV cA v2), ((a 9), LcV cA L2)]) [2, 3, 4, 5, 6, 7, 8, 9, 10, 11, 12, 13, 14, 15, 16, 17, 18, 19, 20, 21] rfl) (hD.sub (ws' := [((z 0), StV (z 1) (z 2) (z 3) (z 4) (z 5) g), ((z 1), SeV (z 6) (z 7) (z 8)), ((z 2), ThV g), ((z 3), DrV f g), ((z 4), LgV (z 9) g), ((z 5), TaV g), ((z 6), SpV cA u), ((z 7), WeV cA u), ((z 8), NuV cA v), ((z 9), LcV cA L), ((a 0), StV (a 1) (a 2) (a 3) (a 4) (a 5) g2), ((a 1), SeV (a 6) (a 7) (a 8)), ((a 2), ThV g2), ((a 3), DrV f2 g2), ((a 4), LgV (a 9) g2), ((a 5), TaV g2), ((a 6), SpV cA u2), ((a 7), WeV cA u2), ((a 8), NuV cA v2), ((a 9), LcV cA L2)]) [2, 3, 4, 5, 6, 7, 8, 9, 10, 11, 12, 13, 14, 15, 16, 17, 18, 19, 20, 21] (by decide) rfl) (q0 := 0) (ci := 5) rfl rfl rfl hl rfl (Nat.le_of_ble_eq_true rfl) dX2_record_45 ⟨Nat.le_of_ble_eq_true rfl, Nat.le_of_ble_eq_true rfl⟩) hS hP hD [2, 3, 4, 5, 6, 7, 8, 9, 10, 11, 12, 13, 14, 15, 16, 17, 18, 19, 20, 21] rfl rfl [0, 1] [(h0, HiV r1 1), (r1, Q4V cA y0 (z 0) y2 y3)] rfl rfl rfl rfl (fun H locs hP hD hS => ?_)
  refine lv_aload_n hx hb dX2_record_48 rfl (lv_at hl 0 rfl) ?_
  refine lv_dup hx hb dX2_record_49 rfl ?_
  refine va_get (D := G) (ci := 2) (v := .int 1) (C := RX2) (T := TX2) (N := 2) hx hb hts hin_X2 hown hK hP 0 rfl rfl 1 (by decide) k16 (fun _ h9 => h9) rfl dX2_record_50 ?_
  refine lv_iconst (v := 1) hx hb dX2_record_53 (by decide) ?_
  refine lv_iadd hx hb dX2_record_54 ?_
  refine W.eq (g2 := F0 m 55 ls [.int 2, .ref h0]) rfl ?_
  refine va_put (D := G) (ci := 2) (v := .int 2) (ty := .int) (C := RX2) (T := TX2) (N := 2) hx hb hts hin_X2 tyX2 tyX2_ok nmX2 hown hK hP hD hS 0 rfl rfl 1 (by decide) k16 (fun _ h9 => h9) rfl (by decide +kernel) rfl rfl (Nat.le_of_ble_eq_true rfl) dX2_record_55 (fun H locs hP hD hS => ?_)
  replace hP : va_P G vwCl [(h0, HiV r1 2), (r1, Q4V cA y0 (z 0) y2 y3), ((z 0), StV (z 1) (z 2) (z 3) (z 4) (z 5) g2), ((z 1), SeV (z 6) (z 7) (z 8)), ((z 2), ThV g2), ((z 3), DrV f2 g2), ((z 4), LgV (z 9) g2), ((z 5), TaV g2), ((z 6), SpV cA u2), ((z 7), WeV cA u2), ((z 8), NuV cA v2), ((z 9), LcV cA L2), ((a 0), StV (a 1) (a 2) (a 3) (a 4) (a 5) g2), ((a 1), SeV (a 6) (a 7) (a 8)), ((a 2), ThV g2), ((a 3), DrV f2 g2), ((a 4), LgV (a 9) g2), ((a 5), TaV g2), ((a 6), SpV cA u2), ((a 7), WeV cA u2), ((a 8), NuV cA v2), ((a 9), LcV cA L2)] H := hP
  replace hD : va_D (inW [(h0, HiV r1 1), (r1, Q4V cA y0 (z 0) y2 y3), ((z 0), StV (z 1) (z 2) (z 3) (z 4) (z 5) g), ((z 1), SeV (z 6) (z 7) (z 8)), ((z 2), ThV g), ((z 3), DrV f g), ((z 4), LgV (z 9) g), ((z 5), TaV g), ((z 6), SpV cA u), ((z 7), WeV cA u), ((z 8), NuV cA v), ((z 9), LcV cA L), ((a 0), StV (a 1) (a 2) (a 3) (a 4) (a 5) g2), ((a 1), SeV (a 6) (a 7) (a 8)), ((a 2), ThV g2), ((a 3), DrV f2 g2), ((a 4), LgV (a 9) g2), ((a 5), TaV g2), ((a 6), SpV cA u2), ((a 7), WeV cA u2), ((a 8), NuV cA v2), ((a 9), LcV cA L2)]) [(h0, HiV r1 2), (r1, Q4V cA y0 (z 0) y2 y3), ((z 0), StV (z 1) (z 2) (z 3) (z 4) (z 5) g2), ((z 1), SeV (z 6) (z 7) (z 8)), ((z 2), ThV g2), ((z 3), DrV f2 g2), ((z 4), LgV (z 9) g2), ((z 5), TaV g2), ((z 6), SpV cA u2), ((z 7), WeV cA u2), ((z 8), NuV cA v2), ((z 9), LcV cA L2), ((a 0), StV (a 1) (a 2) (a 3) (a 4) (a 5) g2), ((a 1), SeV (a 6) (a 7) (a 8)), ((a 2), ThV g2), ((a 3), DrV f2 g2), ((a 4), LgV (a 9) g2), ((a 5), TaV g2), ((a 6), SpV cA u2), ((a 7), WeV cA u2), ((a 8), NuV cA v2), ((a 9), LcV cA L2)] := hD
  exact en_wv hx hb hr hlocks hS hP dX2_record_58
set_option maxHeartbeats 4000000 in
set_option maxRecDepth 100000 in
/-- History.record(state), with 2 states there -/
theorem cX2_record_2 (l : Launch) (G : va_G) (cA : Nat → ClassId) (h0 r1 y0 y1 y3 : Nat) (z a : Nat → Nat) (u u2 : FF) (v v2 : GG) (f f2 : FF) (g g2 L L2 : GG) (hB : Bo g2) : Wv l yX2_record wsX2_record ({ frames := 2, cells := 0, slots := 0, locals := 43 } : Room) G cA [.ref h0, .ref (a 0)] [(h0, HiV r1 2), (r1, Q4V cA y0 y1 (z 0) y3), ((z 0), StV (z 1) (z 2) (z 3) (z 4) (z 5) g), ((z 1), SeV (z 6) (z 7) (z 8)), ((z 2), ThV g), ((z 3), DrV f g), ((z 4), LgV (z 9) g), ((z 5), TaV g), ((z 6), SpV cA u), ((z 7), WeV cA u), ((z 8), NuV cA v), ((z 9), LcV cA L), ((a 0), StV (a 1) (a 2) (a 3) (a 4) (a 5) g2), ((a 1), SeV (a 6) (a 7) (a 8)), ((a 2), ThV g2), ((a 3), DrV f2 g2), ((a 4), LgV (a 9) g2), ((a 5), TaV g2), ((a 6), SpV cA u2), ((a 7), WeV cA u2), ((a 8), NuV cA v2), ((a 9), LcV cA L2)] ([(h0, HiV r1 3), (r1, Q4V cA y0 y1 (z 0) y3)] ++ (stC cA z u2 v2 f2 g2 L2 ++ stC cA a u2 v2 f2 g2 L2)) := by
  refine ofW2 (cc := cX2_record) (maxL := 2) (ret := none) (own := RX2) (by decide) rfl rfl (Nat.le_of_ble_eq_true rfl) rfl ?_
  intro p e s m below meth c ls hx hb hml hr hts hown hlocks hv hl
  obtain ⟨hP, hE, hD0⟩ := hv
  have hK := hE.1
  have hD := dself hD0
  generalize hH0 : s.heap = H at hP ⊢
  have hS : va_S (inW [(h0, HiV r1 2), (r1, Q4V cA y0 y1 (z 0) y3), ((z 0), StV (z 1) (z 2) (z 3) (z 4) (z 5) g), ((z 1), SeV (z 6) (z 7) (z 8)), ((z 2), ThV g), ((z 3), DrV f g), ((z 4), LgV (z 9) g), ((z 5), TaV g), ((z 6), SpV cA u), ((z 7), WeV cA u), ((z 8), NuV cA v), ((z 9), LcV cA L), ((a 0), StV (a 1) (a 2) (a 3) (a 4) (a 5) g2), ((a 1), SeV (a 6) (a 7) (a 8)), ((a 2), ThV g2), ((a 3), DrV f2 g2), ((a 4), LgV (a 9) g2), ((a 5), TaV g2), ((a 6), SpV cA u2), ((a 7), WeV cA u2), ((a 8), NuV cA v2), ((a 9), LcV cA L2)]) s.heap H [] := hH0 ▸ va_S.rf
  generalize ([] : List Loc) = locs at hS ⊢
  clear hH0 hD0
  replace hl : lv_has ls 2 [(0, .ref h0), (1, .ref (a 0))] := hl
  have hin_X2 : ∀ q ∈ u_ws RX2 TX2 2, q ∈ wsX2_record := by decide +kernel
  have k16 := hts (.fieldLink RX2 16 "LiftBeams$History" "size" "I") (by decide +kernel)
  have k11 := hts (.fieldLink RX2 11 "LiftBeams$History" "states" "[LLiftBeams$State;") (by decide +kernel)
  refine lv_aload_n hx hb dX2_record_0 rfl (lv_at hl 0 rfl) ?_
  refine va_get (D := G) (ci := 2) (v := .int 2) (C := RX2) (T := TX2) (N := 2) hx hb hts hin_X2 hown hK hP 0 rfl rfl 1 (by decide) k16 (fun _ h9 => h9) rfl dX2_record_1 ?_
  refine lv_aload_n hx hb dX2_record_4 rfl (lv_at hl 0 rfl) ?_
  refine va_get (D := G) (ci := 2) (v := .ref r1) (C := RX2) (T := TX2) (N := 2) hx hb hts hin_X2 hown hK hP 0 rfl rfl 0 (by decide) k11 (fun _ h9 => h9) rfl dX2_record_5 ?_
  refine va_alen (v := 4) hx hb hK hP 1 3 rfl rfl rfl dX2_record_8 ?_
  refine lv_icmp_lt (tgt := 16) hx hb dX2_record_9 (by decide) (fun _ => ?_) (fun h9 => absurd (by decide) h9)
  refine lv_aload_n hx hb dX2_record_16 rfl (lv_at hl 0 rfl) ?_
  refine va_get (D := G) (ci := 2) (v := .int 2) (C := RX2) (T := TX2) (N := 2) hx hb hts hin_X2 hown hK hP 0 rfl rfl 1 (by decide) k16 (fun _ h9 => h9) rfl dX2_record_17 ?_
  refine lv_if_lt (tgt := 58) hx hb dX2_record_20 (by decide) (fun h9 => absurd h9 (by decide)) (fun _ => ?_)
  refine lv_aload_n hx hb dX2_record_23 rfl (lv_at hl 0 rfl) ?_
  refine va_get (D := G) (ci := 2) (v := .int 2) (C := RX2) (T := TX2) (N := 2) hx hb hts hin_X2 hown hK hP 0 rfl rfl 1 (by decide) k16 (fun _ h9 => h9) rfl dX2_record_24 ?_
  refine lv_aload_n hx hb dX2_record_27 rfl (lv_at hl 0 rfl) ?_
  refine va_get (D := G) (ci := 2) (v := .ref r1) (C := RX2) (T := TX2) (N := 2) hx hb hts hin_X2 hown hK hP 0 rfl rfl 0 (by decide) k11 (fun _ h9 => h9) rfl dX2_record_28 ?_
  refine va_alen (v := 4) hx hb hK hP 1 3 rfl rfl rfl dX2_record_31 ?_
  refine lv_icmp_ge (tgt := 58) hx hb dX2_record_32 (by decide) (fun h9 => absurd h9 (by decide)) (fun _ => ?_)
  refine lv_aload_n hx hb dX2_record_35 rfl (lv_at hl 0 rfl) ?_
  refine va_get (D := G) (ci := 2) (v := .ref r1) (C := RX2) (T := TX2) (N := 2) hx hb hts hin_X2 hown hK hP 0 rfl rfl 0 (by decide) k11 (fun _ h9 => h9) rfl dX2_record_36 ?_
  refine lv_aload_n hx hb dX2_record_39 rfl (lv_at hl 0 rfl) ?_
  refine va_get (D := G) (ci := 2) (v := .int 2) (C := RX2) (T := TX2) (N := 2) hx hb hts hin_X2 hown hK hP 0 rfl rfl 1 (by decide) k16 (fun _ h9 => h9) rfl dX2_record_40 ?_
  refine va_aldq hx hb hK hP 1 3 rfl rfl (by unfold vp_in; decide) dX2_record_43 ?_
  refine W.eq (g2 := F0 m 44 ls [.ref (z 0)]) rfl ?_
  refine lv_aload_n hx hb dX2_record_44 rfl (lv_at hl 1 rfl) ?_
  refine wr_v (ws' := [(h0, HiV r1 2), (r1, Q4V cA y0 y1 (z 0) y3), ((z 0), StV (z 1) (z 2) (z 3) (z 4) (z 5) g2), ((z 1), SeV (z 6) (z 7) (z 8)), ((z 2), ThV g2), ((z 3), DrV f2 g2), ((z 4), LgV (z 9) g2), ((z 5), TaV g2), ((z 6), SpV cA u2), ((z 7), WeV cA u2), ((z 8), NuV cA v2), ((z 9), LcV cA L2), ((a 0), StV (a 1) (a 2) (a 3) (a 4) (a 5) g2), ((a 1), SeV (a 6) (a 7) (a 8)), ((a 2), ThV g2), ((a 3), DrV f2 g2), ((a 4), LgV (a 9) g2), ((a 5), TaV g2), ((a 6), SpV cA u2), ((a 7), WeV cA u2), ((a 8), NuV cA v2), ((a 9), LcV cA L2)]) (rV (rest := []) ⟨hx, hb, hml, hown, hts⟩ (cX5_copyFrom_ok l G cA z a u u2 v v2 f f2 g g2 L L2 hB) (cwV 1 hts gX2_record_X5_copyFrom rfl rfl rfl mdX5_copyFrom ⟨Nat.le_of_ble_eq_true rfl, Nat.le_of_ble_eq_true rfl⟩) hE (hP.sub (ws' := [((z 0), StV (z 1) (z 2) (z 3) (z 4) (z 5) g), ((z 1), SeV (z 6) (z 7) (z 8)), ((z 2), ThV g), ((z 3), DrV f g), ((z 4), LgV (z 9) g), ((z 5), TaV g), ((z 6), SpV cA u), ((z 7), WeV cA u), ((z 8), NuV cA v), ((z 9), LcV cA L), ((a 0), StV (a 1) (a 2) (a 3) (a 4) (a 5) g2), ((a 1), SeV (a 6) (a 7) (a 8)), ((a 2), ThV g2), ((a 3), DrV f2 g2), ((a 4), LgV (a 9) g2), ((a 5), TaV g2), ((a 6), SpV cA u2), ((a 7), WeV cA u2), ((a 8), NuV cA v2), ((a 9), LcV cA L2)]) [2, 3, 4, 5, 6, 7, 8, 9, 10, 11, 12, 13, 14, 15, 16, 17, 18, 19, 20, 21] rfl) (hD.sub (ws' := [((z 0), StV (z 1) (z 2) (z 3) (z 4) (z 5) g), ((z 1), SeV (z 6) (z 7) (z 8)), ((z 2), ThV g), ((z 3), DrV f g), ((z 4), LgV (z 9) g), ((z 5), TaV g), ((z 6), SpV cA u), ((z 7), WeV cA u), ((z 8), NuV cA v), ((z 9), LcV cA L), ((a 0), StV (a 1) (a 2) (a 3) (a 4) (a 5) g2), ((a 1), SeV (a 6) (a 7) (a 8)), ((a 2), ThV g2), ((a 3), DrV f2 g2), ((a 4), LgV (a 9) g2), ((a 5), TaV g2), ((a 6), SpV cA u2), ((a 7), WeV cA u2), ((a 8), NuV cA v2), ((a 9), LcV cA L2)]) [2, 3, 4, 5, 6, 7, 8, 9, 10, 11, 12, 13, 14, 15, 16, 17, 18, 19, 20, 21] (by decide) rfl) (q0 := 0) (ci := 5) rfl rfl rfl hl rfl (Nat.le_of_ble_eq_true rfl) dX2_record_45 ⟨Nat.le_of_ble_eq_true rfl, Nat.le_of_ble_eq_true rfl⟩) hS hP hD [2, 3, 4, 5, 6, 7, 8, 9, 10, 11, 12, 13, 14, 15, 16, 17, 18, 19, 20, 21] rfl rfl [0, 1] [(h0, HiV r1 2), (r1, Q4V cA y0 y1 (z 0) y3)] rfl rfl rfl rfl (fun H locs hP hD hS => ?_)
  refine lv_aload_n hx hb dX2_record_48 rfl (lv_at hl 0 rfl) ?_
  refine lv_dup hx hb dX2_record_49 rfl ?_
  refine va_get (D := G) (ci := 2) (v := .int 2) (C := RX2) (T := TX2) (N := 2) hx hb hts hin_X2 hown hK hP 0 rfl rfl 1 (by decide) k16 (fun _ h9 => h9) rfl dX2_record_50 ?_
  refine lv_iconst (v := 1) hx hb dX2_record_53 (by decide) ?_
  refine lv_iadd hx hb dX2_record_54 ?_
  refine W.eq (g2 := F0 m 55 ls [.int 3, .ref h0]) rfl ?_
  refine va_put (D := G) (ci := 2) (v := .int 3) (ty := .int) (C := RX2) (T := TX2) (N := 2) hx hb hts hin_X2 tyX2 tyX2_ok nmX2 hown hK hP hD hS 0 rfl rfl 1 (by decide) k16 (fun _ h9 => h9) rfl (by decide +kernel) rfl rfl (Nat.le_of_ble_eq_true rfl) dX2_record_55 (fun H locs hP hD hS => ?_)
  replace hP : va_P G vwCl [(h0, HiV r1 3), (r1, Q4V cA y0 y1 (z 0) y3), ((z 0), StV (z 1) (z 2) (z 3) (z 4) (z 5) g2), ((z 1), SeV (z 6) (z 7) (z 8)), ((z 2), ThV g2), ((z 3), DrV f2 g2), ((z 4), LgV (z 9) g2), ((z 5), TaV g2), ((z 6), SpV cA u2), ((z 7), WeV cA u2), ((z 8), NuV cA v2), ((z 9), LcV cA L2), ((a 0), StV (a 1) (a 2) (a 3) (a 4) (a 5) g2), ((a 1), SeV (a 6) (a 7) (a 8)), ((a 2), ThV g2), ((a 3), DrV f2 g2), ((a 4), LgV (a 9) g2), ((a 5), TaV g2), ((a 6), SpV cA u2), ((a 7), WeV cA u2), ((a 8), NuV cA v2), ((a 9), LcV cA L2)] H := hP
  replace hD : va_D (inW [(h0, HiV r1 2), (r1, Q4V cA y0 y1 (z 0) y3), ((z 0), StV (z 1) (z 2) (z 3) (z 4) (z 5) g), ((z 1), SeV (z 6) (z 7) (z 8)), ((z 2), ThV g), ((z 3), DrV f g), ((z 4), LgV (z 9) g), ((z 5), TaV g), ((z 6), SpV cA u), ((z 7), WeV cA u), ((z 8), NuV cA v), ((z 9), LcV cA L), ((a 0), StV (a 1) (a 2) (a 3) (a 4) (a 5) g2), ((a 1), SeV (a 6) (a 7) (a 8)), ((a 2), ThV g2), ((a 3), DrV f2 g2), ((a 4), LgV (a 9) g2), ((a 5), TaV g2), ((a 6), SpV cA u2), ((a 7), WeV cA u2), ((a 8), NuV cA v2), ((a 9), LcV cA L2)]) [(h0, HiV r1 3), (r1, Q4V cA y0 y1 (z 0) y3), ((z 0), StV (z 1) (z 2) (z 3) (z 4) (z 5) g2), ((z 1), SeV (z 6) (z 7) (z 8)), ((z 2), ThV g2), ((z 3), DrV f2 g2), ((z 4), LgV (z 9) g2), ((z 5), TaV g2), ((z 6), SpV cA u2), ((z 7), WeV cA u2), ((z 8), NuV cA v2), ((z 9), LcV cA L2), ((a 0), StV (a 1) (a 2) (a 3) (a 4) (a 5) g2), ((a 1), SeV (a 6) (a 7) (a 8)), ((a 2), ThV g2), ((a 3), DrV f2 g2), ((a 4), LgV (a 9) g2), ((a 5), TaV g2), ((a 6), SpV cA u2), ((a 7), WeV cA u2), ((a 8), NuV cA v2), ((a 9), LcV cA L2)] := hD
  exact en_wv hx hb hr hlocks hS hP dX2_record_58
set_option maxHeartbeats 4000000 in
set_option maxRecDepth 100000 in
/-- History.record(state), with 3 states there -/
theorem cX2_record_3 (l : Launch) (G : va_G) (cA : Nat → ClassId) (h0 r1 y0 y1 y2 : Nat) (z a : Nat → Nat) (u u2 : FF) (v v2 : GG) (f f2 : FF) (g g2 L L2 : GG) (hB : Bo g2) : Wv l yX2_record wsX2_record ({ frames := 2, cells := 0, slots := 0, locals := 43 } : Room) G cA [.ref h0, .ref (a 0)] [(h0, HiV r1 3), (r1, Q4V cA y0 y1 y2 (z 0)), ((z 0), StV (z 1) (z 2) (z 3) (z 4) (z 5) g), ((z 1), SeV (z 6) (z 7) (z 8)), ((z 2), ThV g), ((z 3), DrV f g), ((z 4), LgV (z 9) g), ((z 5), TaV g), ((z 6), SpV cA u), ((z 7), WeV cA u), ((z 8), NuV cA v), ((z 9), LcV cA L), ((a 0), StV (a 1) (a 2) (a 3) (a 4) (a 5) g2), ((a 1), SeV (a 6) (a 7) (a 8)), ((a 2), ThV g2), ((a 3), DrV f2 g2), ((a 4), LgV (a 9) g2), ((a 5), TaV g2), ((a 6), SpV cA u2), ((a 7), WeV cA u2), ((a 8), NuV cA v2), ((a 9), LcV cA L2)] ([(h0, HiV r1 4), (r1, Q4V cA y0 y1 y2 (z 0))] ++ (stC cA z u2 v2 f2 g2 L2 ++ stC cA a u2 v2 f2 g2 L2)) := by
  refine ofW2 (cc := cX2_record) (maxL := 2) (ret := none) (own := RX2) (by decide) rfl rfl (Nat.le_of_ble_eq_true rfl) rfl ?_
  intro p e s m below meth c ls hx hb hml hr hts hown hlocks hv hl
  obtain ⟨hP, hE, hD0⟩ := hv
  have hK := hE.1
  have hD := dself hD0
  generalize hH0 : s.heap = H at hP ⊢
  have hS : va_S (inW [(h0, HiV r1 3), (r1, Q4V cA y0 y1 y2 (z 0)), ((z 0), StV (z 1) (z 2) (z 3) (z 4) (z 5) g), ((z 1), SeV (z 6) (z 7) (z 8)), ((z 2), ThV g), ((z 3), DrV f g), ((z 4), LgV (z 9) g), ((z 5), TaV g), ((z 6), SpV cA u), ((z 7), WeV cA u), ((z 8), NuV cA v), ((z 9), LcV cA L), ((a 0), StV (a 1) (a 2) (a 3) (a 4) (a 5) g2), ((a 1), SeV (a 6) (a 7) (a 8)), ((a 2), ThV g2), ((a 3), DrV f2 g2), ((a 4), LgV (a 9) g2), ((a 5), TaV g2), ((a 6), SpV cA u2), ((a 7), WeV cA u2), ((a 8), NuV cA v2), ((a 9), LcV cA L2)]) s.heap H [] := hH0 ▸ va_S.rf
  generalize ([] : List Loc) = locs at hS ⊢
  clear hH0 hD0
  replace hl : lv_has ls 2 [(0, .ref h0), (1, .ref (a 0))] := hl
  have hin_X2 : ∀ q ∈ u_ws RX2 TX2 2, q ∈ wsX2_record := by decide +kernel
  have k16 := hts (.fieldLink RX2 16 "LiftBeams$History" "size" "I") (by decide +kernel)
  have k11 := hts (.fieldLink RX2 11 "LiftBeams$History" "states" "[LLiftBeams$State;") (by decide +kernel)
  refine lv_aload_n hx hb dX2_record_0 rfl (lv_at hl 0 rfl) ?_
  refine va_get (D := G) (ci := 2) (v := .int 3) (C := RX2) (T := TX2) (N := 2) hx hb hts hin_X2 hown hK hP 0 rfl rfl 1 (by decide) k16 (fun _ h9 => h9) rfl dX2_record_1 ?_
  refine lv_aload_n hx hb dX2_record_4 rfl (lv_at hl 0 rfl) ?_
  refine va_get (D := G) (ci := 2) (v := .ref r1) (C := RX2) (T := TX2) (N := 2) hx hb hts hin_X2 hown hK hP 0 rfl rfl 0 (by decide) k11 (fun _ h9 => h9) rfl dX2_record_5 ?_
  refine va_alen (v := 4) hx hb hK hP 1 3 rfl rfl rfl dX2_record_8 ?_
  refine lv_icmp_lt (tgt := 16) hx hb dX2_record_9 (by decide) (fun _ => ?_) (fun h9 => absurd (by decide) h9)
  refine lv_aload_n hx hb dX2_record_16 rfl (lv_at hl 0 rfl) ?_
  refine va_get (D := G) (ci := 2) (v := .int 3) (C := RX2) (T := TX2) (N := 2) hx hb hts hin_X2 hown hK hP 0 rfl rfl 1 (by decide) k16 (fun _ h9 => h9) rfl dX2_record_17 ?_
  refine lv_if_lt (tgt := 58) hx hb dX2_record_20 (by decide) (fun h9 => absurd h9 (by decide)) (fun _ => ?_)
  refine lv_aload_n hx hb dX2_record_23 rfl (lv_at hl 0 rfl) ?_
  refine va_get (D := G) (ci := 2) (v := .int 3) (C := RX2) (T := TX2) (N := 2) hx hb hts hin_X2 hown hK hP 0 rfl rfl 1 (by decide) k16 (fun _ h9 => h9) rfl dX2_record_24 ?_
  refine lv_aload_n hx hb dX2_record_27 rfl (lv_at hl 0 rfl) ?_
  refine va_get (D := G) (ci := 2) (v := .ref r1) (C := RX2) (T := TX2) (N := 2) hx hb hts hin_X2 hown hK hP 0 rfl rfl 0 (by decide) k11 (fun _ h9 => h9) rfl dX2_record_28 ?_
  refine va_alen (v := 4) hx hb hK hP 1 3 rfl rfl rfl dX2_record_31 ?_
  refine lv_icmp_ge (tgt := 58) hx hb dX2_record_32 (by decide) (fun h9 => absurd h9 (by decide)) (fun _ => ?_)
  refine lv_aload_n hx hb dX2_record_35 rfl (lv_at hl 0 rfl) ?_
  refine va_get (D := G) (ci := 2) (v := .ref r1) (C := RX2) (T := TX2) (N := 2) hx hb hts hin_X2 hown hK hP 0 rfl rfl 0 (by decide) k11 (fun _ h9 => h9) rfl dX2_record_36 ?_
  refine lv_aload_n hx hb dX2_record_39 rfl (lv_at hl 0 rfl) ?_
  refine va_get (D := G) (ci := 2) (v := .int 3) (C := RX2) (T := TX2) (N := 2) hx hb hts hin_X2 hown hK hP 0 rfl rfl 1 (by decide) k16 (fun _ h9 => h9) rfl dX2_record_40 ?_
  refine va_aldq hx hb hK hP 1 3 rfl rfl (by unfold vp_in; decide) dX2_record_43 ?_
  refine W.eq (g2 := F0 m 44 ls [.ref (z 0)]) rfl ?_
  refine lv_aload_n hx hb dX2_record_44 rfl (lv_at hl 1 rfl) ?_
  refine wr_v (ws' := [(h0, HiV r1 3), (r1, Q4V cA y0 y1 y2 (z 0)), ((z 0), StV (z 1) (z 2) (z 3) (z 4) (z 5) g2), ((z 1), SeV (z 6) (z 7) (z 8)), ((z 2), ThV g2), ((z 3), DrV f2 g2), ((z 4), LgV (z 9) g2), ((z 5), TaV g2), ((z 6), SpV cA u2), ((z 7), WeV cA u2), ((z 8), NuV cA v2), ((z 9), LcV cA L2), ((a 0), StV (a 1) (a 2) (a 3) (a 4) (a 5) g2), ((a 1), SeV (a 6) (a 7) (a 8)), ((a 2), ThV g2), ((a 3), DrV f2 g2), ((a 4), LgV (a 9) g2), ((a 5), TaV g2), ((a 6), SpV cA u2), ((a 7), WeV cA u2), ((a 8), NuV cA v2), ((a 9), LcV cA L2)]) (rV (rest := []) ⟨hx, hb, hml, hown, hts⟩ (cX5_copyFrom_ok l G cA z a u u2 v v2 f f2 g g2 L L2 hB) (cwV 1 hts gX2_record_X5_copyFrom rfl rfl rfl mdX5_copyFrom ⟨Nat.le_of_ble_eq_true rfl, Nat.le_of_ble_eq_true rfl⟩) hE (hP.sub (ws' := [((z 0), StV (z 1) (z 2) (z 3) (z 4) (z 5) g), ((z 1), SeV (z 6) (z 7) (z 8)), ((z 2), ThV g), ((z 3), DrV f g), ((z 4), LgV (z 9) g), ((z 5), TaV g), ((z 6), SpV cA u), ((z 7), WeV cA u), ((z 8), NuV cA v), ((z 9), LcV cA L), ((a 0), StV (a 1) (a 2) (a 3) (a 4) (a 5) g2), ((a 1), SeV (a 6) (a 7) (a 8)), ((a 2), ThV g2), ((a 3), DrV f2 g2), ((a 4), LgV (a 9) g2), ((a 5), TaV g2), ((a 6), SpV cA u2), ((a 7), WeV cA u2), ((a 8), NuV cA v2), ((a 9), LcV cA L2)]) [2, 3, 4, 5, 6, 7, 8, 9, 10, 11, 12, 13, 14, 15, 16, 17, 18, 19, 20, 21] rfl) (hD.sub (ws' := [((z 0), StV (z 1) (z 2) (z 3) (z 4) (z 5) g), ((z 1), SeV (z 6) (z 7) (z 8)), ((z 2), ThV g), ((z 3), DrV f g), ((z 4), LgV (z 9) g), ((z 5), TaV g), ((z 6), SpV cA u), ((z 7), WeV cA u), ((z 8), NuV cA v), ((z 9), LcV cA L), ((a 0), StV (a 1) (a 2) (a 3) (a 4) (a 5) g2), ((a 1), SeV (a 6) (a 7) (a 8)), ((a 2), ThV g2), ((a 3), DrV f2 g2), ((a 4), LgV (a 9) g2), ((a 5), TaV g2), ((a 6), SpV cA u2), ((a 7), WeV cA u2), ((a 8), NuV cA v2), ((a 9), LcV cA L2)]) [2, 3, 4, 5, 6, 7, 8, 9, 10, 11, 12, 13, 14, 15, 16, 17, 18, 19, 20, 21] (by decide) rfl) (q0 := 0) (ci := 5) rfl rfl rfl hl rfl (Nat.le_of_ble_eq_true rfl) dX2_record_45 ⟨Nat.le_of_ble_eq_true rfl, Nat.le_of_ble_eq_true rfl⟩) hS hP hD [2, 3, 4, 5, 6, 7, 8, 9, 10, 11, 12, 13, 14, 15, 16, 17, 18, 19, 20, 21] rfl rfl [0, 1] [(h0, HiV r1 3), (r1, Q4V cA y0 y1 y2 (z 0))] rfl rfl rfl rfl (fun H locs hP hD hS => ?_)
  refine lv_aload_n hx hb dX2_record_48 rfl (lv_at hl 0 rfl) ?_
  refine lv_dup hx hb dX2_record_49 rfl ?_
  refine va_get (D := G) (ci := 2) (v := .int 3) (C := RX2) (T := TX2) (N := 2) hx hb hts hin_X2 hown hK hP 0 rfl rfl 1 (by decide) k16 (fun _ h9 => h9) rfl dX2_record_50 ?_
  refine lv_iconst (v := 1) hx hb dX2_record_53 (by decide) ?_
  refine lv_iadd hx hb dX2_record_54 ?_
  refine W.eq (g2 := F0 m 55 ls [.int 4, .ref h0]) rfl ?_
  refine va_put (D := G) (ci := 2) (v := .int 4) (ty := .int) (C := RX2) (T := TX2) (N := 2) hx hb hts hin_X2 tyX2 tyX2_ok nmX2 hown hK hP hD hS 0 rfl rfl 1 (by decide) k16 (fun _ h9 => h9) rfl (by decide +kernel) rfl rfl (Nat.le_of_ble_eq_true rfl) dX2_record_55 (fun H locs hP hD hS => ?_)
  replace hP : va_P G vwCl [(h0, HiV r1 4), (r1, Q4V cA y0 y1 y2 (z 0)), ((z 0), StV (z 1) (z 2) (z 3) (z 4) (z 5) g2), ((z 1), SeV (z 6) (z 7) (z 8)), ((z 2), ThV g2), ((z 3), DrV f2 g2), ((z 4), LgV (z 9) g2), ((z 5), TaV g2), ((z 6), SpV cA u2), ((z 7), WeV cA u2), ((z 8), NuV cA v2), ((z 9), LcV cA L2), ((a 0), StV (a 1) (a 2) (a 3) (a 4) (a 5) g2), ((a 1), SeV (a 6) (a 7) (a 8)), ((a 2), ThV g2), ((a 3), DrV f2 g2), ((a 4), LgV (a 9) g2), ((a 5), TaV g2), ((a 6), SpV cA u2), ((a 7), WeV cA u2), ((a 8), NuV cA v2), ((a 9), LcV cA L2)] H := hP
  replace hD : va_D (inW [(h0, HiV r1 3), (r1, Q4V cA y0 y1 y2 (z 0)), ((z 0), StV (z 1) (z 2) (z 3) (z 4) (z 5) g), ((z 1), SeV (z 6) (z 7) (z 8)), ((z 2), ThV g), ((z 3), DrV f g), ((z 4), LgV (z 9) g), ((z 5), TaV g), ((z 6), SpV cA u), ((z 7), WeV cA u), ((z 8), NuV cA v), ((z 9), LcV cA L), ((a 0), StV (a 1) (a 2) (a 3) (a 4) (a 5) g2), ((a 1), SeV (a 6) (a 7) (a 8)), ((a 2), ThV g2), ((a 3), DrV f2 g2), ((a 4), LgV (a 9) g2), ((a 5), TaV g2), ((a 6), SpV cA u2), ((a 7), WeV cA u2), ((a 8), NuV cA v2), ((a 9), LcV cA L2)]) [(h0, HiV r1 4), (r1, Q4V cA y0 y1 y2 (z 0)), ((z 0), StV (z 1) (z 2) (z 3) (z 4) (z 5) g2), ((z 1), SeV (z 6) (z 7) (z 8)), ((z 2), ThV g2), ((z 3), DrV f2 g2), ((z 4), LgV (z 9) g2), ((z 5), TaV g2), ((z 6), SpV cA u2), ((z 7), WeV cA u2), ((z 8), NuV cA v2), ((z 9), LcV cA L2), ((a 0), StV (a 1) (a 2) (a 3) (a 4) (a 5) g2), ((a 1), SeV (a 6) (a 7) (a 8)), ((a 2), ThV g2), ((a 3), DrV f2 g2), ((a 4), LgV (a 9) g2), ((a 5), TaV g2), ((a 6), SpV cA u2), ((a 7), WeV cA u2), ((a 8), NuV cA v2), ((a 9), LcV cA L2)] := hD
  exact en_wv hx hb hr hlocks hS hP dX2_record_58
set_option maxHeartbeats 4000000 in
set_option maxRecDepth 100000 in
/-- History.record(state), with all states there: the oldest goes -/
theorem cX2_record_4 (l : Launch) (G : va_G) (cA : Nat → ClassId) (h0 r1 y1 y2 y3 : Nat) (z a : Nat → Nat) (u u2 : FF) (v v2 : GG) (f f2 : FF) (g g2 L L2 : GG) (e1 e2 e3 : List Value) (hB : Bo g2) : Wv l yX2_record wsX2_record ({ frames := 2, cells := 0, slots := 0, locals := 43 } : Room) G cA [.ref h0, .ref (a 0)] [(h0, HiV r1 4), (r1, Q4V cA (z 0) y1 y2 y3), ((z 0), StV (z 1) (z 2) (z 3) (z 4) (z 5) g), ((z 1), SeV (z 6) (z 7) (z 8)), ((z 2), ThV g), ((z 3), DrV f g), ((z 4), LgV (z 9) g), ((z 5), TaV g), ((z 6), SpV cA u), ((z 7), WeV cA u), ((z 8), NuV cA v), ((z 9), LcV cA L), (y1, .inr (5, e1)), (y2, .inr (5, e2)), (y3, .inr (5, e3)), ((a 0), StV (a 1) (a 2) (a 3) (a 4) (a 5) g2), ((a 1), SeV (a 6) (a 7) (a 8)), ((a 2), ThV g2), ((a 3), DrV f2 g2), ((a 4), LgV (a 9) g2), ((a 5), TaV g2), ((a 6), SpV cA u2), ((a 7), WeV cA u2), ((a 8), NuV cA v2), ((a 9), LcV cA L2)] ([(h0, HiV r1 4), (r1, Q4V cA y1 y2 y3 (z 0))] ++ (stC cA z u2 v2 f2 g2 L2 ++ ([(y1, .inr (5, e1)), (y2, .inr (5, e2)), (y3, .inr (5, e3))] ++ stC cA a u2 v2 f2 g2 L2))) := by
  refine ofW2 (cc := cX2_record) (maxL := 2) (ret := none) (own := RX2) (by decide) rfl rfl (Nat.le_of_ble_eq_true rfl) rfl ?_
  intro p e s m below meth c ls hx hb hml hr hts hown hlocks hv hl
  obtain ⟨hP, hE, hD0⟩ := hv
  have hK := hE.1
  have hD := dself hD0
  generalize hH0 : s.heap = H at hP ⊢
  have hS : va_S (inW [(h0, HiV r1 4), (r1, Q4V cA (z 0) y1 y2 y3), ((z 0), StV (z 1) (z 2) (z 3) (z 4) (z 5) g), ((z 1), SeV (z 6) (z 7) (z 8)), ((z 2), ThV g), ((z 3), DrV f g), ((z 4), LgV (z 9) g), ((z 5), TaV g), ((z 6), SpV cA u), ((z 7), WeV cA u), ((z 8), NuV cA v), ((z 9), LcV cA L), (y1, .inr (5, e1)), (y2, .inr (5, e2)), (y3, .inr (5, e3)), ((a 0), StV (a 1) (a 2) (a 3) (a 4) (a 5) g2), ((a 1), SeV (a 6) (a 7) (a 8)), ((a 2), ThV g2), ((a 3), DrV f2 g2), ((a 4), LgV (a 9) g2), ((a 5), TaV g2), ((a 6), SpV cA u2), ((a 7), WeV cA u2), ((a 8), NuV cA v2), ((a 9), LcV cA L2)]) s.heap H [] := hH0 ▸ va_S.rf
  generalize ([] : List Loc) = locs at hS ⊢
  clear hH0 hD0
  replace hl : lv_has ls 2 [(0, .ref h0), (1, .ref (a 0))] := hl
  have hin_X2 : ∀ q ∈ u_ws RX2 TX2 2, q ∈ wsX2_record := by decide +kernel
  have k16 := hts (.fieldLink RX2 16 "LiftBeams$History" "size" "I") (by decide +kernel)
  have k11 := hts (.fieldLink RX2 11 "LiftBeams$History" "states" "[LLiftBeams$State;") (by decide +kernel)
  refine lv_aload_n hx hb dX2_record_0 rfl (lv_at hl 0 rfl) ?_
  refine va_get (D := G) (ci := 2) (v := .int 4) (C := RX2) (T := TX2) (N := 2) hx hb hts hin_X2 hown hK hP 0 rfl rfl 1 (by decide) k16 (fun _ h9 => h9) rfl dX2_record_1 ?_
  refine lv_aload_n hx hb dX2_record_4 rfl (lv_at hl 0 rfl) ?_
  refine va_get (D := G) (ci := 2) (v := .ref r1) (C := RX2) (T := TX2) (N := 2) hx hb hts hin_X2 hown hK hP 0 rfl rfl 0 (by decide) k11 (fun _ h9 => h9) rfl dX2_record_5 ?_
  refine va_alen (v := 4) hx hb hK hP 1 3 rfl rfl rfl dX2_record_8 ?_
  refine lv_icmp_lt (tgt := 16) hx hb dX2_record_9 (by decide) (fun h9 => absurd h9 (by decide)) (fun _ => ?_)
  refine lv_aload_n hx hb dX2_record_12 rfl (lv_at hl 0 rfl) ?_
  refine wr_v (ws' := [(h0, HiV r1 3), (r1, Q4V cA y1 y2 y3 (z 0)), ((z 0), StV (z 1) (z 2) (z 3) (z 4) (z 5) g), ((z 1), SeV (z 6) (z 7) (z 8)), ((z 2), ThV g), ((z 3), DrV f g), ((z 4), LgV (z 9) g), ((z 5), TaV g), ((z 6), SpV cA u), ((z 7), WeV cA u), ((z 8), NuV cA v), ((z 9), LcV cA L), (y1, .inr (5, e1)), (y2, .inr (5, e2)), (y3, .inr (5, e3)), ((a 0), StV (a 1) (a 2) (a 3) (a 4) (a 5) g2), ((a 1), SeV (a 6) (a 7) (a 8)), ((a 2), ThV g2), ((a 3), DrV f2 g2), ((a 4), LgV (a 9) g2), ((a 5), TaV g2), ((a 6), SpV cA u2), ((a 7), WeV cA u2), ((a 8), NuV cA v2), ((a 9), LcV cA L2)]) (rV (rest := []) ⟨hx, hb, hml, hown, hts⟩ (cX2_dropOldest_ok l G cA h0 r1 (z 0) y1 y2 y3 ([.ref (z 1), .ref (z 2), .ref (z 3), .ref (z 4), .ref (z 5), .int (g 27)]) e1 e2 e3) (cwV 0 hts gX2_record_X2_dropOldest rfl rfl rfl mdX2_dropOldest ⟨Nat.le_of_ble_eq_true rfl, Nat.le_of_ble_eq_true rfl⟩) hE (hP.sub (ws' := [(h0, HiV r1 4), (r1, Q4V cA (z 0) y1 y2 y3), ((z 0), StV (z 1) (z 2) (z 3) (z 4) (z 5) g), (y1, .inr (5, e1)), (y2, .inr (5, e2)), (y3, .inr (5, e3))]) [0, 1, 2, 12, 13, 14] rfl) (hD.sub (ws' := [(h0, HiV r1 4), (r1, Q4V cA (z 0) y1 y2 y3), ((z 0), StV (z 1) (z 2) (z 3) (z 4) (z 5) g), (y1, .inr (5, e1)), (y2, .inr (5, e2)), (y3, .inr (5, e3))]) [0, 1, 2, 12, 13, 14] (by decide) rfl) (q0 := 0) (ci := 2) rfl rfl rfl hl rfl (Nat.le_of_ble_eq_true rfl) dX2_record_13 ⟨Nat.le_of_ble_eq_true rfl, Nat.le_of_ble_eq_true rfl⟩) hS hP hD [0, 1, 2, 12, 13, 14] rfl rfl [3, 4, 5, 6, 7, 8, 9, 10, 11, 15, 16, 17, 18, 19, 20, 21, 22, 23, 24] [((z 1), SeV (z 6) (z 7) (z 8)), ((z 2), ThV g), ((z 3), DrV f g), ((z 4), LgV (z 9) g), ((z 5), TaV g), ((z 6), SpV cA u), ((z 7), WeV cA u), ((z 8), NuV cA v), ((z 9), LcV cA L), ((a 0), StV (a 1) (a 2) (a 3) (a 4) (a 5) g2), ((a 1), SeV (a 6) (a 7) (a 8)), ((a 2), ThV g2), ((a 3), DrV f2 g2), ((a 4), LgV (a 9) g2), ((a 5), TaV g2), ((a 6), SpV cA u2), ((a 7), WeV cA u2), ((a 8), NuV cA v2), ((a 9), LcV cA L2)] rfl rfl rfl rfl (fun H locs hP hD hS => ?_)
  refine lv_aload_n hx hb dX2_record_16 rfl (lv_at hl 0 rfl) ?_
  refine va_get (D := G) (ci := 2) (v := .int 3) (C := RX2) (T := TX2) (N := 2) hx hb hts hin_X2 hown hK hP 0 rfl rfl 1 (by decide) k16 (fun _ h9 => h9) rfl dX2_record_17 ?_
  refine lv_if_lt (tgt := 58) hx hb dX2_record_20 (by decide) (fun h9 => absurd h9 (by decide)) (fun _ => ?_)
  refine lv_aload_n hx hb dX2_record_23 rfl (lv_at hl 0 rfl) ?_
  refine va_get (D := G) (ci := 2) (v := .int 3) (C := RX2) (T := TX2) (N := 2) hx hb hts hin_X2 hown hK hP 0 rfl rfl 1 (by decide) k16 (fun _ h9 => h9) rfl dX2_record_24 ?_
  refine lv_aload_n hx hb dX2_record_27 rfl (lv_at hl 0 rfl) ?_
  refine va_get (D := G) (ci := 2) (v := .ref r1) (C := RX2) (T := TX2) (N := 2) hx hb hts hin_X2 hown hK hP 0 rfl rfl 0 (by decide) k11 (fun _ h9 => h9) rfl dX2_record_28 ?_
  refine va_alen (v := 4) hx hb hK hP 1 3 rfl rfl rfl dX2_record_31 ?_
  refine lv_icmp_ge (tgt := 58) hx hb dX2_record_32 (by decide) (fun h9 => absurd h9 (by decide)) (fun _ => ?_)
  refine lv_aload_n hx hb dX2_record_35 rfl (lv_at hl 0 rfl) ?_
  refine va_get (D := G) (ci := 2) (v := .ref r1) (C := RX2) (T := TX2) (N := 2) hx hb hts hin_X2 hown hK hP 0 rfl rfl 0 (by decide) k11 (fun _ h9 => h9) rfl dX2_record_36 ?_
  refine lv_aload_n hx hb dX2_record_39 rfl (lv_at hl 0 rfl) ?_
  refine va_get (D := G) (ci := 2) (v := .int 3) (C := RX2) (T := TX2) (N := 2) hx hb hts hin_X2 hown hK hP 0 rfl rfl 1 (by decide) k16 (fun _ h9 => h9) rfl dX2_record_40 ?_
  refine va_aldq hx hb hK hP 1 3 rfl rfl (by unfold vp_in; decide) dX2_record_43 ?_
  refine W.eq (g2 := F0 m 44 ls [.ref (z 0)]) rfl ?_
  refine lv_aload_n hx hb dX2_record_44 rfl (lv_at hl 1 rfl) ?_
  refine wr_v (ws' := [(h0, HiV r1 3), (r1, Q4V cA y1 y2 y3 (z 0)), ((z 0), StV (z 1) (z 2) (z 3) (z 4) (z 5) g2), ((z 1), SeV (z 6) (z 7) (z 8)), ((z 2), ThV g2), ((z 3), DrV f2 g2), ((z 4), LgV (z 9) g2), ((z 5), TaV g2), ((z 6), SpV cA u2), ((z 7), WeV cA u2), ((z 8), NuV cA v2), ((z 9), LcV cA L2), (y1, .inr (5, e1)), (y2, .inr (5, e2)), (y3, .inr (5, e3)), ((a 0), StV (a 1) (a 2) (a 3) (a 4) (a 5) g2), ((a 1), SeV (a 6) (a 7) (a 8)), ((a 2), ThV g2), ((a 3), DrV f2 g2), ((a 4), LgV (a 9) g2), ((a 5), TaV g2), ((a 6), SpV cA u2), ((a 7), WeV cA u2), ((a 8), NuV cA v2), ((a 9), LcV cA L2)]) (rV (rest := []) ⟨hx, hb, hml, hown, hts⟩ (cX5_copyFrom_ok l G cA z a u u2 v v2 f f2 g g2 L L2 hB) (cwV 1 hts gX2_record_X5_copyFrom rfl rfl rfl mdX5_copyFrom ⟨Nat.le_of_ble_eq_true rfl, Nat.le_of_ble_eq_true rfl⟩) hE (hP.sub (ws' := [((z 0), StV (z 1) (z 2) (z 3) (z 4) (z 5) g), ((z 1), SeV (z 6) (z 7) (z 8)), ((z 2), ThV g), ((z 3), DrV f g), ((z 4), LgV (z 9) g), ((z 5), TaV g), ((z 6), SpV cA u), ((z 7), WeV cA u), ((z 8), NuV cA v), ((z 9), LcV cA L), ((a 0), StV (a 1) (a 2) (a 3) (a 4) (a 5) g2), ((a 1), SeV (a 6) (a 7) (a 8)), ((a 2), ThV g2), ((a 3), DrV f2 g2), ((a 4), LgV (a 9) g2), ((a 5), TaV g2), ((a 6), SpV cA u2), ((a 7), WeV cA u2), ((a 8), NuV cA v2), ((a 9), LcV cA L2)]) [2, 3, 4, 5, 6, 7, 8, 9, 10, 11, 15, 16, 17, 18, 19, 20, 21, 22, 23, 24] rfl) (hD.sub (ws' := [((z 0), StV (z 1) (z 2) (z 3) (z 4) (z 5) g), ((z 1), SeV (z 6) (z 7) (z 8)), ((z 2), ThV g), ((z 3), DrV f g), ((z 4), LgV (z 9) g), ((z 5), TaV g), ((z 6), SpV cA u), ((z 7), WeV cA u), ((z 8), NuV cA v), ((z 9), LcV cA L), ((a 0), StV (a 1) (a 2) (a 3) (a 4) (a 5) g2), ((a 1), SeV (a 6) (a 7) (a 8)), ((a 2), ThV g2), ((a 3), DrV f2 g2), ((a 4), LgV (a 9) g2), ((a 5), TaV g2), ((a 6), SpV cA u2), ((a 7), WeV cA u2), ((a 8), NuV cA v2), ((a 9), LcV cA L2)]) [2, 3, 4, 5, 6, 7, 8, 9, 10, 11, 15, 16, 17, 18, 19, 20, 21, 22, 23, 24] (by decide) rfl) (q0 := 0) (ci := 5) rfl rfl rfl hl rfl (Nat.le_of_ble_eq_true rfl) dX2_record_45 ⟨Nat.le_of_ble_eq_true rfl, Nat.le_of_ble_eq_true rfl⟩) hS hP hD [2, 3, 4, 5, 6, 7, 8, 9, 10, 11, 15, 16, 17, 18, 19, 20, 21, 22, 23, 24] rfl rfl [0, 1, 12, 13, 14] [(h0, HiV r1 3), (r1, Q4V cA y1 y2 y3 (z 0)), (y1, .inr (5, e1)), (y2, .inr (5, e2)), (y3, .inr (5, e3))] rfl rfl rfl rfl (fun H locs hP hD hS => ?_)
  refine lv_aload_n hx hb dX2_record_48 rfl (lv_at hl 0 rfl) ?_
  refine lv_dup hx hb dX2_record_49 rfl ?_
  refine va_get (D := G) (ci := 2) (v := .int 3) (C := RX2) (T := TX2) (N := 2) hx hb hts hin_X2 hown hK hP 0 rfl rfl 1 (by decide) k16 (fun _ h9 => h9) rfl dX2_record_50 ?_
  refine lv_iconst (v := 1) hx hb dX2_record_53 (by decide) ?_
  refine lv_iadd hx hb dX2_record_54 ?_
  refine W.eq (g2 := F0 m 55 ls [.int 4, .ref h0]) rfl ?_
  refine va_put (D := G) (ci := 2) (v := .int 4) (ty := .int) (C := RX2) (T := TX2) (N := 2) hx hb hts hin_X2 tyX2 tyX2_ok nmX2 hown hK hP hD hS 0 rfl rfl 1 (by decide) k16 (fun _ h9 => h9) rfl (by decide +kernel) rfl rfl (Nat.le_of_ble_eq_true rfl) dX2_record_55 (fun H locs hP hD hS => ?_)
  replace hP : va_P G vwCl [(h0, HiV r1 4), (r1, Q4V cA y1 y2 y3 (z 0)), ((z 0), StV (z 1) (z 2) (z 3) (z 4) (z 5) g2), ((z 1), SeV (z 6) (z 7) (z 8)), ((z 2), ThV g2), ((z 3), DrV f2 g2), ((z 4), LgV (z 9) g2), ((z 5), TaV g2), ((z 6), SpV cA u2), ((z 7), WeV cA u2), ((z 8), NuV cA v2), ((z 9), LcV cA L2), (y1, .inr (5, e1)), (y2, .inr (5, e2)), (y3, .inr (5, e3)), ((a 0), StV (a 1) (a 2) (a 3) (a 4) (a 5) g2), ((a 1), SeV (a 6) (a 7) (a 8)), ((a 2), ThV g2), ((a 3), DrV f2 g2), ((a 4), LgV (a 9) g2), ((a 5), TaV g2), ((a 6), SpV cA u2), ((a 7), WeV cA u2), ((a 8), NuV cA v2), ((a 9), LcV cA L2)] H := hP
  replace hD : va_D (inW [(h0, HiV r1 4), (r1, Q4V cA (z 0) y1 y2 y3), ((z 0), StV (z 1) (z 2) (z 3) (z 4) (z 5) g), ((z 1), SeV (z 6) (z 7) (z 8)), ((z 2), ThV g), ((z 3), DrV f g), ((z 4), LgV (z 9) g), ((z 5), TaV g), ((z 6), SpV cA u), ((z 7), WeV cA u), ((z 8), NuV cA v), ((z 9), LcV cA L), (y1, .inr (5, e1)), (y2, .inr (5, e2)), (y3, .inr (5, e3)), ((a 0), StV (a 1) (a 2) (a 3) (a 4) (a 5) g2), ((a 1), SeV (a 6) (a 7) (a 8)), ((a 2), ThV g2), ((a 3), DrV f2 g2), ((a 4), LgV (a 9) g2), ((a 5), TaV g2), ((a 6), SpV cA u2), ((a 7), WeV cA u2), ((a 8), NuV cA v2), ((a 9), LcV cA L2)]) [(h0, HiV r1 4), (r1, Q4V cA y1 y2 y3 (z 0)), ((z 0), StV (z 1) (z 2) (z 3) (z 4) (z 5) g2), ((z 1), SeV (z 6) (z 7) (z 8)), ((z 2), ThV g2), ((z 3), DrV f2 g2), ((z 4), LgV (z 9) g2), ((z 5), TaV g2), ((z 6), SpV cA u2), ((z 7), WeV cA u2), ((z 8), NuV cA v2), ((z 9), LcV cA L2), (y1, .inr (5, e1)), (y2, .inr (5, e2)), (y3, .inr (5, e3)), ((a 0), StV (a 1) (a 2) (a 3) (a 4) (a 5) g2), ((a 1), SeV (a 6) (a 7) (a 8)), ((a 2), ThV g2), ((a 3), DrV f2 g2), ((a 4), LgV (a 9) g2), ((a 5), TaV g2), ((a 6), SpV cA u2), ((a 7), WeV cA u2), ((a 8), NuV cA v2), ((a 9), LcV cA L2)] := hD
  exact en_wv hx hb hr hlocks hS hP dX2_record_58
set_option maxHeartbeats 4000000 in
set_option maxRecDepth 100000 in
/-- History.takeBack(into), with 1 states there -/
theorem cX2_takeBack_1 (l : Launch) (G : va_G) (cA : Nat → ClassId) (h0 r1 y1 y2 y3 : Nat) (z a : Nat → Nat) (u u2 : FF) (v v2 : GG) (f f2 : FF) (g g2 L L2 : GG) (hB : Bo g) : Wi l yX2_takeBack wsX2_takeBack ({ frames := 2, cells := 0, slots := 0, locals := 43 } : Room) G cA [.ref h0, .ref (a 0)] [(h0, HiV r1 1), (r1, Q4V cA (z 0) y1 y2 y3), ((a 0), StV (a 1) (a 2) (a 3) (a 4) (a 5) g2), ((a 1), SeV (a 6) (a 7) (a 8)), ((a 2), ThV g2), ((a 3), DrV f2 g2), ((a 4), LgV (a 9) g2), ((a 5), TaV g2), ((a 6), SpV cA u2), ((a 7), WeV cA u2), ((a 8), NuV cA v2), ((a 9), LcV cA L2), ((z 0), StV (z 1) (z 2) (z 3) (z 4) (z 5) g), ((z 1), SeV (z 6) (z 7) (z 8)), ((z 2), ThV g), ((z 3), DrV f g), ((z 4), LgV (z 9) g), ((z 5), TaV g), ((z 6), SpV cA u), ((z 7), WeV cA u), ((z 8), NuV cA v), ((z 9), LcV cA L)] (fun r => r = 1) ([(h0, HiV r1 0), (r1, Q4V cA (z 0) y1 y2 y3)] ++ (stC cA a u v f g L ++ stC cA z u v f g L)) := by
  refine ofW2 (cc := cX2_takeBack) (maxL := 2) (ret := (some .boolean)) (own := RX2) (by decide) rfl rfl (Nat.le_of_ble_eq_true rfl) rfl ?_
  intro p e s m below meth c ls hx hb hml hr hts hown hlocks hv hl
  obtain ⟨hP, hE, hD0⟩ := hv
  have hK := hE.1
  have hD := dself hD0
  generalize hH0 : s.heap = H at hP ⊢
  have hS : va_S (inW [(h0, HiV r1 1), (r1, Q4V cA (z 0) y1 y2 y3), ((a 0), StV (a 1) (a 2) (a 3) (a 4) (a 5) g2), ((a 1), SeV (a 6) (a 7) (a 8)), ((a 2), ThV g2), ((a 3), DrV f2 g2), ((a 4), LgV (a 9) g2), ((a 5), TaV g2), ((a 6), SpV cA u2), ((a 7), WeV cA u2), ((a 8), NuV cA v2), ((a 9), LcV cA L2), ((z 0), StV (z 1) (z 2) (z 3) (z 4) (z 5) g), ((z 1), SeV (z 6) (z 7) (z 8)), ((z 2), ThV g), ((z 3), DrV f g), ((z 4), LgV (z 9) g), ((z 5), TaV g), ((z 6), SpV cA u), ((z 7), WeV cA u), ((z 8), NuV cA v), ((z 9), LcV cA L)]) s.heap H [] := hH0 ▸ va_S.rf
  generalize ([] : List Loc) = locs at hS ⊢
  clear hH0 hD0
  replace hl : lv_has ls 2 [(0, .ref h0), (1, .ref (a 0))] := hl
  have hin_X2 : ∀ q ∈ u_ws RX2 TX2 2, q ∈ wsX2_takeBack := by decide +kernel
  have k16 := hts (.fieldLink RX2 16 "LiftBeams$History" "size" "I") (by decide +kernel)
  have k11 := hts (.fieldLink RX2 11 "LiftBeams$History" "states" "[LLiftBeams$State;") (by decide +kernel)
  refine lv_aload_n hx hb dX2_takeBack_0 rfl (lv_at hl 0 rfl) ?_
  refine va_get (D := G) (ci := 2) (v := .int 1) (C := RX2) (T := TX2) (N := 2) hx hb hts hin_X2 hown hK hP 0 rfl rfl 1 (by decide) k16 (fun _ h9 => h9) rfl dX2_takeBack_1 ?_
  refine lv_if_le (tgt := 19) hx hb dX2_takeBack_4 (by decide) (fun h9 => absurd h9 (by decide)) (fun _ => ?_)
  refine lv_aload_n hx hb dX2_takeBack_7 rfl (lv_at hl 0 rfl) ?_
  refine va_get (D := G) (ci := 2) (v := .int 1) (C := RX2) (T := TX2) (N := 2) hx hb hts hin_X2 hown hK hP 0 rfl rfl 1 (by decide) k16 (fun _ h9 => h9) rfl dX2_takeBack_8 ?_
  refine lv_aload_n hx hb dX2_takeBack_11 rfl (lv_at hl 0 rfl) ?_
  refine va_get (D := G) (ci := 2) (v := .ref r1) (C := RX2) (T := TX2) (N := 2) hx hb hts hin_X2 hown hK hP 0 rfl rfl 0 (by decide) k11 (fun _ h9 => h9) rfl dX2_takeBack_12 ?_
  refine va_alen (v := 4) hx hb hK hP 1 3 rfl rfl rfl dX2_takeBack_15 ?_
  refine lv_icmp_le (tgt := 21) hx hb dX2_takeBack_16 (by decide) (fun _ => ?_) (fun h9 => absurd (by decide) h9)
  refine lv_aload_n hx hb dX2_takeBack_21 rfl (lv_at hl 0 rfl) ?_
  refine lv_dup hx hb dX2_takeBack_22 rfl ?_
  refine va_get (D := G) (ci := 2) (v := .int 1) (C := RX2) (T := TX2) (N := 2) hx hb hts hin_X2 hown hK hP 0 rfl rfl 1 (by decide) k16 (fun _ h9 => h9) rfl dX2_takeBack_23 ?_
  refine lv_iconst (v := 1) hx hb dX2_takeBack_26 (by decide) ?_
  refine lv_isub hx hb dX2_takeBack_27 ?_
  refine W.eq (g2 := F0 m 28 ls [.int 0, .ref h0]) rfl ?_
  refine va_put (D := G) (ci := 2) (v := .int 0) (ty := .int) (C := RX2) (T := TX2) (N := 2) hx hb hts hin_X2 tyX2 tyX2_ok nmX2 hown hK hP hD hS 0 rfl rfl 1 (by decide) k16 (fun _ h9 => h9) rfl (by decide +kernel) rfl rfl (Nat.le_of_ble_eq_true rfl) dX2_takeBack_28 (fun H locs hP hD hS => ?_)
  replace hP : va_P G vwCl [(h0, HiV r1 0), (r1, Q4V cA (z 0) y1 y2 y3), ((a 0), StV (a 1) (a 2) (a 3) (a 4) (a 5) g2), ((a 1), SeV (a 6) (a 7) (a 8)), ((a 2), ThV g2), ((a 3), DrV f2 g2), ((a 4), LgV (a 9) g2), ((a 5), TaV g2), ((a 6), SpV cA u2), ((a 7), WeV cA u2), ((a 8), NuV cA v2), ((a 9), LcV cA L2), ((z 0), StV (z 1) (z 2) (z 3) (z 4) (z 5) g), ((z 1), SeV (z 6) (z 7) (z 8)), ((z 2), ThV g), ((z 3), DrV f g), ((z 4), LgV (z 9) g), ((z 5), TaV g), ((z 6), SpV cA u), ((z 7), WeV cA u), ((z 8), NuV cA v), ((z 9), LcV cA L)] H := hP
  replace hD : va_D (inW [(h0, HiV r1 1), (r1, Q4V cA (z 0) y1 y2 y3), ((a 0), StV (a 1) (a 2) (a 3) (a 4) (a 5) g2), ((a 1), SeV (a 6) (a 7) (a 8)), ((a 2), ThV g2), ((a 3), DrV f2 g2), ((a 4), LgV (a 9) g2), ((a 5), TaV g2), ((a 6), SpV cA u2), ((a 7), WeV cA u2), ((a 8), NuV cA v2), ((a 9), LcV cA L2), ((z 0), StV (z 1) (z 2) (z 3) (z 4) (z 5) g), ((z 1), SeV (z 6) (z 7) (z 8)), ((z 2), ThV g), ((z 3), DrV f g), ((z 4), LgV (z 9) g), ((z 5), TaV g), ((z 6), SpV cA u), ((z 7), WeV cA u), ((z 8), NuV cA v), ((z 9), LcV cA L)]) [(h0, HiV r1 0), (r1, Q4V cA (z 0) y1 y2 y3), ((a 0), StV (a 1) (a 2) (a 3) (a 4) (a 5) g2), ((a 1), SeV (a 6) (a 7) (a 8)), ((a 2), ThV g2), ((a 3), DrV f2 g2), ((a 4), LgV (a 9) g2), ((a 5), TaV g2), ((a 6), SpV cA u2), ((a 7), WeV cA u2), ((a 8), NuV cA v2), ((a 9), LcV cA L2), ((z 0), StV (z 1) (z 2) (z 3) (z 4) (z 5) g), ((z 1), SeV (z 6) (z 7) (z 8)), ((z 2), ThV g), ((z 3), DrV f g), ((z 4), LgV (z 9) g), ((z 5), TaV g), ((z 6), SpV cA u), ((z 7), WeV cA u), ((z 8), NuV cA v), ((z 9), LcV cA L)] := hD
  refine lv_aload_n hx hb dX2_takeBack_31 rfl (lv_at hl 1 rfl) ?_
  refine lv_aload_n hx hb dX2_takeBack_32 rfl (lv_at hl 0 rfl) ?_
  refine va_get (D := G) (ci := 2) (v := .ref r1) (C := RX2) (T := TX2) (N := 2) hx hb hts hin_X2 hown hK hP 0 rfl rfl 0 (by decide) k11 (fun _ h9 => h9) rfl dX2_takeBack_33 ?_
  refine lv_aload_n hx hb dX2_takeBack_36 rfl (lv_at hl 0 rfl) ?_
  refine va_get (D := G) (ci := 2) (v := .int 0) (C := RX2) (T := TX2) (N := 2) hx hb hts hin_X2 hown hK hP 0 rfl rfl 1 (by decide) k16 (fun _ h9 => h9) rfl dX2_takeBack_37 ?_
  refine va_aldq hx hb hK hP 1 3 rfl rfl (by unfold vp_in; decide) dX2_takeBack_40 ?_
  refine W.eq (g2 := F0 m 41 ls [.ref (z 0), .ref (a 0)]) rfl ?_
  refine wr_v (ws' := [(h0, HiV r1 0), (r1, Q4V cA (z 0) y1 y2 y3), ((a 0), StV (a 1) (a 2) (a 3) (a 4) (a 5) g), ((a 1), SeV (a 6) (a 7) (a 8)), ((a 2), ThV g), ((a 3), DrV f g), ((a 4), LgV (a 9) g), ((a 5), TaV g), ((a 6), SpV cA u), ((a 7), WeV cA u), ((a 8), NuV cA v), ((a 9), LcV cA L), ((z 0), StV (z 1) (z 2) (z 3) (z 4) (z 5) g), ((z 1), SeV (z 6) (z 7) (z 8)), ((z 2), ThV g), ((z 3), DrV f g), ((z 4), LgV (z 9) g), ((z 5), TaV g), ((z 6), SpV cA u), ((z 7), WeV cA u), ((z 8), NuV cA v), ((z 9), LcV cA L)]) (rV (rest := []) ⟨hx, hb, hml, hown, hts⟩ (cX5_copyFrom_ok l G cA a z u2 u v2 v f2 f g2 g L2 L hB) (cwV 1 hts gX2_takeBack_X5_copyFrom rfl rfl rfl mdX5_copyFrom ⟨Nat.le_of_ble_eq_true rfl, Nat.le_of_ble_eq_true rfl⟩) hE (hP.sub (ws' := [((a 0), StV (a 1) (a 2) (a 3) (a 4) (a 5) g2), ((a 1), SeV (a 6) (a 7) (a 8)), ((a 2), ThV g2), ((a 3), DrV f2 g2), ((a 4), LgV (a 9) g2), ((a 5), TaV g2), ((a 6), SpV cA u2), ((a 7), WeV cA u2), ((a 8), NuV cA v2), ((a 9), LcV cA L2), ((z 0), StV (z 1) (z 2) (z 3) (z 4) (z 5) g), ((z 1), SeV (z 6) (z 7) (z 8)), ((z 2), ThV g), ((z 3), DrV f g), ((z 4), LgV (z 9) g), ((z 5), TaV g), ((z 6), SpV cA u), ((z 7), WeV cA u), ((z 8), NuV cA v), ((z 9), LcV cA L)]) [2, 3, 4, 5, 6, 7, 8, 9, 10, 11, 12, 13, 14, 15, 16, 17, 18, 19, 20, 21] rfl) (hD.sub (ws' := [((a 0), StV (a 1) (a 2) (a 3) (a 4) (a 5) g2), ((a 1), SeV (a 6) (a 7) (a 8)), ((a 2), ThV g2), ((a 3), DrV f2 g2), ((a 4), LgV (a 9) g2), ((a 5), TaV g2), ((a 6), SpV cA u2), ((a 7), WeV cA u2), ((a 8), NuV cA v2), ((a 9), LcV cA L2), ((z 0), StV (z 1) (z 2) (z 3) (z 4) (z 5) g), ((z 1), SeV (z 6) (z 7) (z 8)), ((z 2), ThV g), ((z 3), DrV f g), ((z 4), LgV (z 9) g), ((z 5), TaV g), ((z 6), SpV cA u), ((z 7), WeV cA u), ((z 8), NuV cA v), ((z 9), LcV cA L)]) [2, 3, 4, 5, 6, 7, 8, 9, 10, 11, 12, 13, 14, 15, 16, 17, 18, 19, 20, 21] (by decide) rfl) (q0 := 0) (ci := 5) rfl rfl rfl hl rfl (Nat.le_of_ble_eq_true rfl) dX2_takeBack_41 ⟨Nat.le_of_ble_eq_true rfl, Nat.le_of_ble_eq_true rfl⟩) hS hP hD [2, 3, 4, 5, 6, 7, 8, 9, 10, 11, 12, 13, 14, 15, 16, 17, 18, 19, 20, 21] rfl rfl [0, 1] [(h0, HiV r1 0), (r1, Q4V cA (z 0) y1 y2 y3)] rfl rfl rfl rfl (fun H locs hP hD hS => ?_)
  refine lv_iconst (v := 1) hx hb dX2_takeBack_44 (by decide) ?_
  exact en_wi hx hb hr rfl hlocks hS rfl hP dX2_takeBack_45
set_option maxHeartbeats 4000000 in
set_option maxRecDepth 100000 in
/-- History.takeBack(into), with 2 states there -/
theorem cX2_takeBack_2 (l : Launch) (G : va_G) (cA : Nat → ClassId) (h0 r1 y0 y2 y3 : Nat) (z a : Nat → Nat) (u u2 : FF) (v v2 : GG) (f f2 : FF) (g g2 L L2 : GG) (hB : Bo g) : Wi l yX2_takeBack wsX2_takeBack ({ frames := 2, cells := 0, slots := 0, locals := 43 } : Room) G cA [.ref h0, .ref (a 0)] [(h0, HiV r1 2), (r1, Q4V cA y0 (z 0) y2 y3), ((a 0), StV (a 1) (a 2) (a 3) (a 4) (a 5) g2), ((a 1), SeV (a 6) (a 7) (a 8)), ((a 2), ThV g2), ((a 3), DrV f2 g2), ((a 4), LgV (a 9) g2), ((a 5), TaV g2), ((a 6), SpV cA u2), ((a 7), WeV cA u2), ((a 8), NuV cA v2), ((a 9), LcV cA L2), ((z 0), StV (z 1) (z 2) (z 3) (z 4) (z 5) g), ((z 1), SeV (z 6) (z 7) (z 8)), ((z 2), ThV g), ((z 3), DrV f g), ((z 4), LgV (z 9) g), ((z 5), TaV g), ((z 6), SpV cA u), ((z 7), WeV cA u), ((z 8), NuV cA v), ((z 9), LcV cA L)] (fun r => r = 1) ([(h0, HiV r1 1), (r1, Q4V cA y0 (z 0) y2 y3)] ++ (stC cA a u v f g L ++ stC cA z u v f g L)) := by
  refine ofW2 (cc := cX2_takeBack) (maxL := 2) (ret := (some .boolean)) (own := RX2) (by decide) rfl rfl (Nat.le_of_ble_eq_true rfl) rfl ?_
  intro p e s m below meth c ls hx hb hml hr hts hown hlocks hv hl
  obtain ⟨hP, hE, hD0⟩ := hv
  have hK := hE.1
  have hD := dself hD0
  generalize hH0 : s.heap = H at hP ⊢
  have hS : va_S (inW [(h0, HiV r1 2), (r1, Q4V cA y0 (z 0) y2 y3), ((a 0), StV (a 1) (a 2) (a 3) (a 4) (a 5) g2), ((a 1), SeV (a 6) (a 7) (a 8)), ((a 2), ThV g2), ((a 3), DrV f2 g2), ((a 4), LgV (a 9) g2), ((a 5), TaV g2), ((a 6), SpV cA u2), ((a 7), WeV cA u2), ((a 8), NuV cA v2), ((a 9), LcV cA L2), ((z 0), StV (z 1) (z 2) (z 3) (z 4) (z 5) g), ((z 1), SeV (z 6) (z 7) (z 8)), ((z 2), ThV g), ((z 3), DrV f g), ((z 4), LgV (z 9) g), ((z 5), TaV g), ((z 6), SpV cA u), ((z 7), WeV cA u), ((z 8), NuV cA v), ((z 9), LcV cA L)]) s.heap H [] := hH0 ▸ va_S.rf
  generalize ([] : List Loc) = locs at hS ⊢
  clear hH0 hD0
  replace hl : lv_has ls 2 [(0, .ref h0), (1, .ref (a 0))] := hl
  have hin_X2 : ∀ q ∈ u_ws RX2 TX2 2, q ∈ wsX2_takeBack := by decide +kernel
  have k16 := hts (.fieldLink RX2 16 "LiftBeams$History" "size" "I") (by decide +kernel)
  have k11 := hts (.fieldLink RX2 11 "LiftBeams$History" "states" "[LLiftBeams$State;") (by decide +kernel)
  refine lv_aload_n hx hb dX2_takeBack_0 rfl (lv_at hl 0 rfl) ?_
  refine va_get (D := G) (ci := 2) (v := .int 2) (C := RX2) (T := TX2) (N := 2) hx hb hts hin_X2 hown hK hP 0 rfl rfl 1 (by decide) k16 (fun _ h9 => h9) rfl dX2_takeBack_1 ?_
  refine lv_if_le (tgt := 19) hx hb dX2_takeBack_4 (by decide) (fun h9 => absurd h9 (by decide)) (fun _ => ?_)
  refine lv_aload_n hx hb dX2_takeBack_7 rfl (lv_at hl 0 rfl) ?_
  refine va_get (D := G) (ci := 2) (v := .int 2) (C := RX2) (T := TX2) (N := 2) hx hb hts hin_X2 hown hK hP 0 rfl rfl 1 (by decide) k16 (fun _ h9 => h9) rfl dX2_takeBack_8 ?_
  refine lv_aload_n hx hb dX2_takeBack_11 rfl (lv_at hl 0 rfl) ?_
  refine va_get (D := G) (ci := 2) (v := .ref r1) (C := RX2) (T := TX2) (N := 2) hx hb hts hin_X2 hown hK hP 0 rfl rfl 0 (by decide) k11 (fun _ h9 => h9) rfl dX2_takeBack_12 ?_
  refine va_alen (v := 4) hx hb hK hP 1 3 rfl rfl rfl dX2_takeBack_15 ?_
  refine lv_icmp_le (tgt := 21) hx hb dX2_takeBack_16 (by decide) (fun _ => ?_) (fun h9 => absurd (by decide) h9)
  refine lv_aload_n hx hb dX2_takeBack_21 rfl (lv_at hl 0 rfl) ?_
  refine lv_dup hx hb dX2_takeBack_22 rfl ?_
  refine va_get (D := G) (ci := 2) (v := .int 2) (C := RX2) (T := TX2) (N := 2) hx hb hts hin_X2 hown hK hP 0 rfl rfl 1 (by decide) k16 (fun _ h9 => h9) rfl dX2_takeBack_23 ?_
  refine lv_iconst (v := 1) hx hb dX2_takeBack_26 (by decide) ?_
  refine lv_isub hx hb dX2_takeBack_27 ?_
  refine W.eq (g2 := F0 m 28 ls [.int 1, .ref h0]) rfl ?_
  refine va_put (D := G) (ci := 2) (v := .int 1) (ty := .int) (C := RX2) (T := TX2) (N := 2) hx hb hts hin_X2 tyX2 tyX2_ok nmX2 hown hK hP hD hS 0 rfl rfl 1 (by decide) k16 (fun _ h9 => h9) rfl (by decide +kernel) rfl rfl (Nat.le_of_ble_eq_true rfl) dX2_takeBack_28 (fun H locs hP hD hS => ?_)
  replace hP : va_P G vwCl [(h0, HiV r1 1), (r1, Q4V cA y0 (z 0) y2 y3), ((a 0), StV (a 1) (a 2) (a 3) (a 4) (a 5) g2), ((a 1), SeV (a 6) (a 7) (a 8)), ((a 2), ThV g2), ((a 3), DrV f2 g2), ((a 4), LgV (a 9) g2), ((a 5), TaV g2), ((a 6), SpV cA u2), ((a 7), WeV cA u2), ((a 8), NuV cA v2), ((a 9), LcV cA L2), ((z 0), StV (z 1) (z 2) (z 3) (z 4) (z 5) g), ((z 1), SeV (z 6) (z 7) (z 8)), ((z 2), ThV g), ((z 3), DrV f g), ((z 4), LgV (z 9) g), ((z 5), TaV g), ((z 6), SpV cA u), ((z 7), WeV cA u), ((z 8), NuV cA v), ((z 9), LcV cA L)] H := hP
  replace hD : va_D (inW [(h0, HiV r1 2), (r1, Q4V cA y0 (z 0) y2 y3), ((a 0), StV (a 1) (a 2) (a 3) (a 4) (a 5) g2), ((a 1), SeV (a 6) (a 7) (a 8)), ((a 2), ThV g2), ((a 3), DrV f2 g2), ((a 4), LgV (a 9) g2), ((a 5), TaV g2), ((a 6), SpV cA u2), ((a 7), WeV cA u2), ((a 8), NuV cA v2), ((a 9), LcV cA L2), ((z 0), StV (z 1) (z 2) (z 3) (z 4) (z 5) g), ((z 1), SeV (z 6) (z 7) (z 8)), ((z 2), ThV g), ((z 3), DrV f g), ((z 4), LgV (z 9) g), ((z 5), TaV g), ((z 6), SpV cA u), ((z 7), WeV cA u), ((z 8), NuV cA v), ((z 9), LcV cA L)]) [(h0, HiV r1 1), (r1, Q4V cA y0 (z 0) y2 y3), ((a 0), StV (a 1) (a 2) (a 3) (a 4) (a 5) g2), ((a 1), SeV (a 6) (a 7) (a 8)), ((a 2), ThV g2), ((a 3), DrV f2 g2), ((a 4), LgV (a 9) g2), ((a 5), TaV g2), ((a 6), SpV cA u2), ((a 7), WeV cA u2), ((a 8), NuV cA v2), ((a 9), LcV cA L2), ((z 0), StV (z 1) (z 2) (z 3) (z 4) (z 5) g), ((z 1), SeV (z 6) (z 7) (z 8)), ((z 2), ThV g), ((z 3), DrV f g), ((z 4), LgV (z 9) g), ((z 5), TaV g), ((z 6), SpV cA u), ((z 7), WeV cA u), ((z 8), NuV cA v), ((z 9), LcV cA L)] := hD
  refine lv_aload_n hx hb dX2_takeBack_31 rfl (lv_at hl 1 rfl) ?_
  refine lv_aload_n hx hb dX2_takeBack_32 rfl (lv_at hl 0 rfl) ?_
  refine va_get (D := G) (ci := 2) (v := .ref r1) (C := RX2) (T := TX2) (N := 2) hx hb hts hin_X2 hown hK hP 0 rfl rfl 0 (by decide) k11 (fun _ h9 => h9) rfl dX2_takeBack_33 ?_
  refine lv_aload_n hx hb dX2_takeBack_36 rfl (lv_at hl 0 rfl) ?_
  refine va_get (D := G) (ci := 2) (v := .int 1) (C := RX2) (T := TX2) (N := 2) hx hb hts hin_X2 hown hK hP 0 rfl rfl 1 (by decide) k16 (fun _ h9 => h9) rfl dX2_takeBack_37 ?_
  refine va_aldq hx hb hK hP 1 3 rfl rfl (by unfold vp_in; decide) dX2_takeBack_40 ?_
  refine W.eq (g2 := F0 m 41 ls [.ref (z 0), .ref (a 0)]) rfl ?_
  refine wr_v (ws' := [(h0, HiV r1 1), (r1, Q4V cA y0 (z 0) y2 y3), ((a 0), StV (a 1) (a 2) (a 3) (a 4) (a 5) g), ((a 1), SeV (a 6) (a 7) (a 8)), ((a 2), ThV g), ((a 3), DrV f g), ((a 4), LgV (a 9) g), ((a 5), TaV g), ((a 6), SpV cA u), ((a 7), WeV cA u), ((a 8), NuV cA v), ((a 9), LcV cA L), ((z 0), StV (z 1) (z 2) (z 3) (z 4) (z 5) g), ((z 1), SeV (z 6) (z 7) (z 8)), ((z 2), ThV g), ((z 3), DrV f g), ((z 4), LgV (z 9) g), ((z 5), TaV g), ((z 6), SpV cA u), ((z 7), WeV cA u), ((z 8), NuV cA v), ((z 9), LcV cA L)]) (rV (rest := []) ⟨hx, hb, hml, hown, hts⟩ (cX5_copyFrom_ok l G cA a z u2 u v2 v f2 f g2 g L2 L hB) (cwV 1 hts gX2_takeBack_X5_copyFrom rfl rfl rfl mdX5_copyFrom ⟨Nat.le_of_ble_eq_true rfl, Nat.le_of_ble_eq_true rfl⟩) hE (hP.sub (ws' := [((a 0), StV (a 1) (a 2) (a 3) (a 4) (a 5) g2), ((a 1), SeV (a 6) (a 7) (a 8)), ((a 2), ThV g2), ((a 3), DrV f2 g2), ((a 4), LgV (a 9) g2), ((a 5), TaV g2), ((a 6), SpV cA u2), ((a 7), WeV cA u2), ((a 8), NuV cA v2), ((a 9), LcV cA L2), ((z 0), StV (z 1) (z 2) (z 3) (z 4) (z 5) g), ((z 1), SeV (z 6) (z 7) (z 8)), ((z 2), ThV g), ((z 3), DrV f g), ((z 4), LgV (z 9) g), ((z 5), TaV g), ((z 6), SpV cA u), ((z 7), WeV cA u), ((z 8), NuV cA v), ((z 9), LcV cA L)]) [2, 3, 4, 5, 6, 7, 8, 9, 10, 11, 12, 13, 14, 15, 16, 17, 18, 19, 20, 21] rfl) (hD.sub (ws' := [((a 0), StV (a 1) (a 2) (a 3) (a 4) (a 5) g2), ((a 1), SeV (a 6) (a 7) (a 8)), ((a 2), ThV g2), ((a 3), DrV f2 g2), ((a 4), LgV (a 9) g2), ((a 5), TaV g2), ((a 6), SpV cA u2), ((a 7), WeV cA u2), ((a 8), NuV cA v2), ((a 9), LcV cA L2), ((z 0), StV (z 1) (z 2) (z 3) (z 4) (z 5) g), ((z 1), SeV (z 6) (z 7) (z 8)), ((z 2), ThV g), ((z 3), DrV f g), ((z 4), LgV (z 9) g), ((z 5), TaV g), ((z 6), SpV cA u), ((z 7), WeV cA u), ((z 8), NuV cA v), ((z 9), LcV cA L)]) [2, 3, 4, 5, 6, 7, 8, 9, 10, 11, 12, 13, 14, 15, 16, 17, 18, 19, 20, 21] (by decide) rfl) (q0 := 0) (ci := 5) rfl rfl rfl hl rfl (Nat.le_of_ble_eq_true rfl) dX2_takeBack_41 ⟨Nat.le_of_ble_eq_true rfl, Nat.le_of_ble_eq_true rfl⟩) hS hP hD [2, 3, 4, 5, 6, 7, 8, 9, 10, 11, 12, 13, 14, 15, 16, 17, 18, 19, 20, 21] rfl rfl [0, 1] [(h0, HiV r1 1), (r1, Q4V cA y0 (z 0) y2 y3)] rfl rfl rfl rfl (fun H locs hP hD hS => ?_)
  refine lv_iconst (v := 1) hx hb dX2_takeBack_44 (by decide) ?_
  exact en_wi hx hb hr rfl hlocks hS rfl hP dX2_takeBack_45
set_option maxHeartbeats 4000000 in
set_option maxRecDepth 100000 in
/-- History.takeBack(into), with 3 states there -/
theorem cX2_takeBack_3 (l : Launch) (G : va_G) (cA : Nat → ClassId) (h0 r1 y0 y1 y3 : Nat) (z a : Nat → Nat) (u u2 : FF) (v v2 : GG) (f f2 : FF) (g g2 L L2 : GG) (hB : Bo g) : Wi l yX2_takeBack wsX2_takeBack ({ frames := 2, cells := 0, slots := 0, locals := 43 } : Room) G cA [.ref h0, .ref (a 0)] [(h0, HiV r1 3), (r1, Q4V cA y0 y1 (z 0) y3), ((a 0), StV (a 1) (a 2) (a 3) (a 4) (a 5) g2), ((a 1), SeV (a 6) (a 7) (a 8)), ((a 2), ThV g2), ((a 3), DrV f2 g2), ((a 4), LgV (a 9) g2), ((a 5), TaV g2), ((a 6), SpV cA u2), ((a 7), WeV cA u2), ((a 8), NuV cA v2), ((a 9), LcV cA L2), ((z 0), StV (z 1) (z 2) (z 3) (z 4) (z 5) g), ((z 1), SeV (z 6) (z 7) (z 8)), ((z 2), ThV g), ((z 3), DrV f g), ((z 4), LgV (z 9) g), ((z 5), TaV g), ((z 6), SpV cA u), ((z 7), WeV cA u), ((z 8), NuV cA v), ((z 9), LcV cA L)] (fun r => r = 1) ([(h0, HiV r1 2), (r1, Q4V cA y0 y1 (z 0) y3)] ++ (stC cA a u v f g L ++ stC cA z u v f g L)) := by
  refine ofW2 (cc := cX2_takeBack) (maxL := 2) (ret := (some .boolean)) (own := RX2) (by decide) rfl rfl (Nat.le_of_ble_eq_true rfl) rfl ?_
  intro p e s m below meth c ls hx hb hml hr hts hown hlocks hv hl
  obtain ⟨hP, hE, hD0⟩ := hv
  have hK := hE.1
  have hD := dself hD0
  generalize hH0 : s.heap = H at hP ⊢
  have hS : va_S (inW [(h0, HiV r1 3), (r1, Q4V cA y0 y1 (z 0) y3), ((a 0), StV (a 1) (a 2) (a 3) (a 4) (a 5) g2), ((a 1), SeV (a 6) (a 7) (a 8)), ((a 2), ThV g2), ((a 3), DrV f2 g2), ((a 4), LgV (a 9) g2), ((a 5), TaV g2), ((a 6), SpV cA u2), ((a 7), WeV cA u2), ((a 8), NuV cA v2), ((a 9), LcV cA L2), ((z 0), StV (z 1) (z 2) (z 3) (z 4) (z 5) g), ((z 1), SeV (z 6) (z 7) (z 8)), ((z 2), ThV g), ((z 3), DrV f g), ((z 4), LgV (z 9) g), ((z 5), TaV g), ((z 6), SpV cA u), ((z 7), WeV cA u), ((z 8), NuV cA v), ((z 9), LcV cA L)]) s.heap H [] := hH0 ▸ va_S.rf
  generalize ([] : List Loc) = locs at hS ⊢
  clear hH0 hD0
  replace hl : lv_has ls 2 [(0, .ref h0), (1, .ref (a 0))] := hl
  have hin_X2 : ∀ q ∈ u_ws RX2 TX2 2, q ∈ wsX2_takeBack := by decide +kernel
  have k16 := hts (.fieldLink RX2 16 "LiftBeams$History" "size" "I") (by decide +kernel)
  have k11 := hts (.fieldLink RX2 11 "LiftBeams$History" "states" "[LLiftBeams$State;") (by decide +kernel)
  refine lv_aload_n hx hb dX2_takeBack_0 rfl (lv_at hl 0 rfl) ?_
  refine va_get (D := G) (ci := 2) (v := .int 3) (C := RX2) (T := TX2) (N := 2) hx hb hts hin_X2 hown hK hP 0 rfl rfl 1 (by decide) k16 (fun _ h9 => h9) rfl dX2_takeBack_1 ?_
  refine lv_if_le (tgt := 19) hx hb dX2_takeBack_4 (by decide) (fun h9 => absurd h9 (by decide)) (fun _ => ?_)
  refine lv_aload_n hx hb dX2_takeBack_7 rfl (lv_at hl 0 rfl) ?_
  refine va_get (D := G) (ci := 2) (v := .int 3) (C := RX2) (T := TX2) (N := 2) hx hb hts hin_X2 hown hK hP 0 rfl rfl 1 (by decide) k16 (fun _ h9 => h9) rfl dX2_takeBack_8 ?_
  refine lv_aload_n hx hb dX2_takeBack_11 rfl (lv_at hl 0 rfl) ?_
  refine va_get (D := G) (ci := 2) (v := .ref r1) (C := RX2) (T := TX2) (N := 2) hx hb hts hin_X2 hown hK hP 0 rfl rfl 0 (by decide) k11 (fun _ h9 => h9) rfl dX2_takeBack_12 ?_
  refine va_alen (v := 4) hx hb hK hP 1 3 rfl rfl rfl dX2_takeBack_15 ?_
  refine lv_icmp_le (tgt := 21) hx hb dX2_takeBack_16 (by decide) (fun _ => ?_) (fun h9 => absurd (by decide) h9)
  refine lv_aload_n hx hb dX2_takeBack_21 rfl (lv_at hl 0 rfl) ?_
  refine lv_dup hx hb dX2_takeBack_22 rfl ?_
  refine va_get (D := G) (ci := 2) (v := .int 3) (C := RX2) (T := TX2) (N := 2) hx hb hts hin_X2 hown hK hP 0 rfl rfl 1 (by decide) k16 (fun _ h9 => h9) rfl dX2_takeBack_23 ?_
  refine lv_iconst (v := 1) hx hb dX2_takeBack_26 (by decide) ?_
  refine lv_isub hx hb dX2_takeBack_27 ?_
  refine W.eq (g2 := F0 m 28 ls [.int 2, .ref h0]) rfl ?_
  refine va_put (D := G) (ci := 2) (v := .int 2) (ty := .int) (C := RX2) (T := TX2) (N := 2) hx hb hts hin_X2 tyX2 tyX2_ok nmX2 hown hK hP hD hS 0 rfl rfl 1 (by decide) k16 (fun _ h9 => h9) rfl (by decide +kernel) rfl rfl (Nat.le_of_ble_eq_true rfl) dX2_takeBack_28 (fun H locs hP hD hS => ?_)
  replace hP : va_P G vwCl [(h0, HiV r1 2), (r1, Q4V cA y0 y1 (z 0) y3), ((a 0), StV (a 1) (a 2) (a 3) (a 4) (a 5) g2), ((a 1), SeV (a 6) (a 7) (a 8)), ((a 2), ThV g2), ((a 3), DrV f2 g2), ((a 4), LgV (a 9) g2), ((a 5), TaV g2), ((a 6), SpV cA u2), ((a 7), WeV cA u2), ((a 8), NuV cA v2), ((a 9), LcV cA L2), ((z 0), StV (z 1) (z 2) (z 3) (z 4) (z 5) g), ((z 1), SeV (z 6) (z 7) (z 8)), ((z 2), ThV g), ((z 3), DrV f g), ((z 4), LgV (z 9) g), ((z 5), TaV g), ((z 6), SpV cA u), ((z 7), WeV cA u), ((z 8), NuV cA v), ((z 9), LcV cA L)] H := hP
  replace hD : va_D (inW [(h0, HiV r1 3), (r1, Q4V cA y0 y1 (z 0) y3), ((a 0), StV (a 1) (a 2) (a 3) (a 4) (a 5) g2), ((a 1), SeV (a 6) (a 7) (a 8)), ((a 2), ThV g2), ((a 3), DrV f2 g2), ((a 4), LgV (a 9) g2), ((a 5), TaV g2), ((a 6), SpV cA u2), ((a 7), WeV cA u2), ((a 8), NuV cA v2), ((a 9), LcV cA L2), ((z 0), StV (z 1) (z 2) (z 3) (z 4) (z 5) g), ((z 1), SeV (z 6) (z 7) (z 8)), ((z 2), ThV g), ((z 3), DrV f g), ((z 4), LgV (z 9) g), ((z 5), TaV g), ((z 6), SpV cA u), ((z 7), WeV cA u), ((z 8), NuV cA v), ((z 9), LcV cA L)]) [(h0, HiV r1 2), (r1, Q4V cA y0 y1 (z 0) y3), ((a 0), StV (a 1) (a 2) (a 3) (a 4) (a 5) g2), ((a 1), SeV (a 6) (a 7) (a 8)), ((a 2), ThV g2), ((a 3), DrV f2 g2), ((a 4), LgV (a 9) g2), ((a 5), TaV g2), ((a 6), SpV cA u2), ((a 7), WeV cA u2), ((a 8), NuV cA v2), ((a 9), LcV cA L2), ((z 0), StV (z 1) (z 2) (z 3) (z 4) (z 5) g), ((z 1), SeV (z 6) (z 7) (z 8)), ((z 2), ThV g), ((z 3), DrV f g), ((z 4), LgV (z 9) g), ((z 5), TaV g), ((z 6), SpV cA u), ((z 7), WeV cA u), ((z 8), NuV cA v), ((z 9), LcV cA L)] := hD
  refine lv_aload_n hx hb dX2_takeBack_31 rfl (lv_at hl 1 rfl) ?_
  refine lv_aload_n hx hb dX2_takeBack_32 rfl (lv_at hl 0 rfl) ?_
  refine va_get (D := G) (ci := 2) (v := .ref r1) (C := RX2) (T := TX2) (N := 2) hx hb hts hin_X2 hown hK hP 0 rfl rfl 0 (by decide) k11 (fun _ h9 => h9) rfl dX2_takeBack_33 ?_
  refine lv_aload_n hx hb dX2_takeBack_36 rfl (lv_at hl 0 rfl) ?_
  refine va_get (D := G) (ci := 2) (v := .int 2) (C := RX2) (T := TX2) (N := 2) hx hb hts hin_X2 hown hK hP 0 rfl rfl 1 (by decide) k16 (fun _ h9 => h9) rfl dX2_takeBack_37 ?_
  refine va_aldq hx hb hK hP 1 3 rfl rfl (by unfold vp_in; decide) dX2_takeBack_40 ?_
  refine W.eq (g2 := F0 m 41 ls [.ref (z 0), .ref (a 0)]) rfl ?_
  refine wr_v (ws' := [(h0, HiV r1 2), (r1, Q4V cA y0 y1 (z 0) y3), ((a 0), StV (a 1) (a 2) (a 3) (a 4) (a 5) g), ((a 1), SeV (a 6) (a 7) (a 8)), ((a 2), ThV g), ((a 3), DrV f g), ((a 4), LgV (a 9) g), ((a 5), TaV g), ((a 6), SpV cA u), ((a 7), WeV cA u), ((a 8), NuV cA v), ((a 9), LcV cA L), ((z 0), StV (z 1) (z 2) (z 3) (z 4) (z 5) g), ((z 1), SeV (z 6) (z 7) (z 8)), ((z 2), ThV g), ((z 3), DrV f g), ((z 4), LgV (z 9) g), ((z 5), TaV g), ((z 6), SpV cA u), ((z 7), WeV cA u), ((z 8), NuV cA v), ((z 9), LcV cA L)]) (rV (rest := []) ⟨hx, hb, hml, hown, hts⟩ (cX5_copyFrom_ok l G cA a z u2 u v2 v f2 f g2 g L2 L hB) (cwV 1 hts gX2_takeBack_X5_copyFrom rfl rfl rfl mdX5_copyFrom ⟨Nat.le_of_ble_eq_true rfl, Nat.le_of_ble_eq_true rfl⟩) hE (hP.sub (ws' := [((a 0), StV (a 1) (a 2) (a 3) (a 4) (a 5) g2), ((a 1), SeV (a 6) (a 7) (a 8)), ((a 2), ThV g2), ((a 3), DrV f2 g2), ((a 4), LgV (a 9) g2), ((a 5), TaV g2), ((a 6), SpV cA u2), ((a 7), WeV cA u2), ((a 8), NuV cA v2), ((a 9), LcV cA L2), ((z 0), StV (z 1) (z 2) (z 3) (z 4) (z 5) g), ((z 1), SeV (z 6) (z 7) (z 8)), ((z 2), ThV g), ((z 3), DrV f g), ((z 4), LgV (z 9) g), ((z 5), TaV g), ((z 6), SpV cA u), ((z 7), WeV cA u), ((z 8), NuV cA v), ((z 9), LcV cA L)]) [2, 3, 4, 5, 6, 7, 8, 9, 10, 11, 12, 13, 14, 15, 16, 17, 18, 19, 20, 21] rfl) (hD.sub (ws' := [((a 0), StV (a 1) (a 2) (a 3) (a 4) (a 5) g2), ((a 1), SeV (a 6) (a 7) (a 8)), ((a 2), ThV g2), ((a 3), DrV f2 g2), ((a 4), LgV (a 9) g2), ((a 5), TaV g2), ((a 6), SpV cA u2), ((a 7), WeV cA u2), ((a 8), NuV cA v2), ((a 9), LcV cA L2), ((z 0), StV (z 1) (z 2) (z 3) (z 4) (z 5) g), ((z 1), SeV (z 6) (z 7) (z 8)), ((z 2), ThV g), ((z 3), DrV f g), ((z 4), LgV (z 9) g), ((z 5), TaV g), ((z 6), SpV cA u), ((z 7), WeV cA u), ((z 8), NuV cA v), ((z 9), LcV cA L)]) [2, 3, 4, 5, 6, 7, 8, 9, 10, 11, 12, 13, 14, 15, 16, 17, 18, 19, 20, 21] (by decide) rfl) (q0 := 0) (ci := 5) rfl rfl rfl hl rfl (Nat.le_of_ble_eq_true rfl) dX2_takeBack_41 ⟨Nat.le_of_ble_eq_true rfl, Nat.le_of_ble_eq_true rfl⟩) hS hP hD [2, 3, 4, 5, 6, 7, 8, 9, 10, 11, 12, 13, 14, 15, 16, 17, 18, 19, 20, 21] rfl rfl [0, 1] [(h0, HiV r1 2), (r1, Q4V cA y0 y1 (z 0) y3)] rfl rfl rfl rfl (fun H locs hP hD hS => ?_)
  refine lv_iconst (v := 1) hx hb dX2_takeBack_44 (by decide) ?_
  exact en_wi hx hb hr rfl hlocks hS rfl hP dX2_takeBack_45
set_option maxHeartbeats 4000000 in
set_option maxRecDepth 100000 in
/-- History.takeBack(into), with 4 states there -/
theorem cX2_takeBack_4 (l : Launch) (G : va_G) (cA : Nat → ClassId) (h0 r1 y0 y1 y2 : Nat) (z a : Nat → Nat) (u u2 : FF) (v v2 : GG) (f f2 : FF) (g g2 L L2 : GG) (hB : Bo g) : Wi l yX2_takeBack wsX2_takeBack ({ frames := 2, cells := 0, slots := 0, locals := 43 } : Room) G cA [.ref h0, .ref (a 0)] [(h0, HiV r1 4), (r1, Q4V cA y0 y1 y2 (z 0)), ((a 0), StV (a 1) (a 2) (a 3) (a 4) (a 5) g2), ((a 1), SeV (a 6) (a 7) (a 8)), ((a 2), ThV g2), ((a 3), DrV f2 g2), ((a 4), LgV (a 9) g2), ((a 5), TaV g2), ((a 6), SpV cA u2), ((a 7), WeV cA u2), ((a 8), NuV cA v2), ((a 9), LcV cA L2), ((z 0), StV (z 1) (z 2) (z 3) (z 4) (z 5) g), ((z 1), SeV (z 6) (z 7) (z 8)), ((z 2), ThV g), ((z 3), DrV f g), ((z 4), LgV (z 9) g), ((z 5), TaV g), ((z 6), SpV cA u), ((z 7), WeV cA u), ((z 8), NuV cA v), ((z 9), LcV cA L)] (fun r => r = 1) ([(h0, HiV r1 3), (r1, Q4V cA y0 y1 y2 (z 0))] ++ (stC cA a u v f g L ++ stC cA z u v f g L)) := by
  refine ofW2 (cc := cX2_takeBack) (maxL := 2) (ret := (some .boolean)) (own := RX2) (by decide) rfl rfl (Nat.le_of_ble_eq_true rfl) rfl ?_
  intro p e s m below meth c ls hx hb hml hr hts hown hlocks hv hl
  obtain ⟨hP, hE, hD0⟩ := hv
  have hK := hE.1
  have hD := dself hD0
  generalize hH0 : s.heap = H at hP ⊢
  have hS : va_S (inW [(h0, HiV r1 4), (r1, Q4V cA y0 y1 y2 (z 0)), ((a 0), StV (a 1) (a 2) (a 3) (a 4) (a 5) g2), ((a 1), SeV (a 6) (a 7) (a 8)), ((a 2), ThV g2), ((a 3), DrV f2 g2), ((a 4), LgV (a 9) g2), ((a 5), TaV g2), ((a 6), SpV cA u2), ((a 7), WeV cA u2), ((a 8), NuV cA v2), ((a 9), LcV cA L2), ((z 0), StV (z 1) (z 2) (z 3) (z 4) (z 5) g), ((z 1), SeV (z 6) (z 7) (z 8)), ((z 2), ThV g), ((z 3), DrV f g), ((z 4), LgV (z 9) g), ((z 5), TaV g), ((z 6), SpV cA u), ((z 7), WeV cA u), ((z 8), NuV cA v), ((z 9), LcV cA L)]) s.heap H [] := hH0 ▸ va_S.rf
  generalize ([] : List Loc) = locs at hS ⊢
  clear hH0 hD0
  replace hl : lv_has ls 2 [(0, .ref h0), (1, .ref (a 0))] := hl
  have hin_X2 : ∀ q ∈ u_ws RX2 TX2 2, q ∈ wsX2_takeBack := by decide +kernel
  have k16 := hts (.fieldLink RX2 16 "LiftBeams$History" "size" "I") (by decide +kernel)
  have k11 := hts (.fieldLink RX2 11 "LiftBeams$History" "states" "[LLiftBeams$State;") (by decide +kernel)
  refine lv_aload_n hx hb dX2_takeBack_0 rfl (lv_at hl 0 rfl) ?_
  refine va_get (D := G) (ci := 2) (v := .int 4) (C := RX2) (T := TX2) (N := 2) hx hb hts hin_X2 hown hK hP 0 rfl rfl 1 (by decide) k16 (fun _ h9 => h9) rfl dX2_takeBack_1 ?_
  refine lv_if_le (tgt := 19) hx hb dX2_takeBack_4 (by decide) (fun h9 => absurd h9 (by decide)) (fun _ => ?_)
  refine lv_aload_n hx hb dX2_takeBack_7 rfl (lv_at hl 0 rfl) ?_
  refine va_get (D := G) (ci := 2) (v := .int 4) (C := RX2) (T := TX2) (N := 2) hx hb hts hin_X2 hown hK hP 0 rfl rfl 1 (by decide) k16 (fun _ h9 => h9) rfl dX2_takeBack_8 ?_
  refine lv_aload_n hx hb dX2_takeBack_11 rfl (lv_at hl 0 rfl) ?_
  refine va_get (D := G) (ci := 2) (v := .ref r1) (C := RX2) (T := TX2) (N := 2) hx hb hts hin_X2 hown hK hP 0 rfl rfl 0 (by decide) k11 (fun _ h9 => h9) rfl dX2_takeBack_12 ?_
  refine va_alen (v := 4) hx hb hK hP 1 3 rfl rfl rfl dX2_takeBack_15 ?_
  refine lv_icmp_le (tgt := 21) hx hb dX2_takeBack_16 (by decide) (fun _ => ?_) (fun h9 => absurd (by decide) h9)
  refine lv_aload_n hx hb dX2_takeBack_21 rfl (lv_at hl 0 rfl) ?_
  refine lv_dup hx hb dX2_takeBack_22 rfl ?_
  refine va_get (D := G) (ci := 2) (v := .int 4) (C := RX2) (T := TX2) (N := 2) hx hb hts hin_X2 hown hK hP 0 rfl rfl 1 (by decide) k16 (fun _ h9 => h9) rfl dX2_takeBack_23 ?_
  refine lv_iconst (v := 1) hx hb dX2_takeBack_26 (by decide) ?_
  refine lv_isub hx hb dX2_takeBack_27 ?_
  refine W.eq (g2 := F0 m 28 ls [.int 3, .ref h0]) rfl ?_
  refine va_put (D := G) (ci := 2) (v := .int 3) (ty := .int) (C := RX2) (T := TX2) (N := 2) hx hb hts hin_X2 tyX2 tyX2_ok nmX2 hown hK hP hD hS 0 rfl rfl 1 (by decide) k16 (fun _ h9 => h9) rfl (by decide +kernel) rfl rfl (Nat.le_of_ble_eq_true rfl) dX2_takeBack_28 (fun H locs hP hD hS => ?_)
  replace hP : va_P G vwCl [(h0, HiV r1 3), (r1, Q4V cA y0 y1 y2 (z 0)), ((a 0), StV (a 1) (a 2) (a 3) (a 4) (a 5) g2), ((a 1), SeV (a 6) (a 7) (a 8)), ((a 2), ThV g2), ((a 3), DrV f2 g2), ((a 4), LgV (a 9) g2), ((a 5), TaV g2), ((a 6), SpV cA u2), ((a 7), WeV cA u2), ((a 8), NuV cA v2), ((a 9), LcV cA L2), ((z 0), StV (z 1) (z 2) (z 3) (z 4) (z 5) g), ((z 1), SeV (z 6) (z 7) (z 8)), ((z 2), ThV g), ((z 3), DrV f g), ((z 4), LgV (z 9) g), ((z 5), TaV g), ((z 6), SpV cA u), ((z 7), WeV cA u), ((z 8), NuV cA v), ((z 9), LcV cA L)] H := hP
  replace hD : va_D (inW [(h0, HiV r1 4), (r1, Q4V cA y0 y1 y2 (z 0)), ((a 0), StV (a 1) (a 2) (a 3) (a 4) (a 5) g2), ((a 1), SeV (a 6) (a 7) (a 8)), ((a 2), ThV g2), ((a 3), DrV f2 g2), ((a 4), LgV (a 9) g2), ((a 5), TaV g2), ((a 6), SpV cA u2), ((a 7), WeV cA u2), ((a 8), NuV cA v2), ((a 9), LcV cA L2), ((z 0), StV (z 1) (z 2) (z 3) (z 4) (z 5) g), ((z 1), SeV (z 6) (z 7) (z 8)), ((z 2), ThV g), ((z 3), DrV f g), ((z 4), LgV (z 9) g), ((z 5), TaV g), ((z 6), SpV cA u), ((z 7), WeV cA u), ((z 8), NuV cA v), ((z 9), LcV cA L)]) [(h0, HiV r1 3), (r1, Q4V cA y0 y1 y2 (z 0)), ((a 0), StV (a 1) (a 2) (a 3) (a 4) (a 5) g2), ((a 1), SeV (a 6) (a 7) (a 8)), ((a 2), ThV g2), ((a 3), DrV f2 g2), ((a 4), LgV (a 9) g2), ((a 5), TaV g2), ((a 6), SpV cA u2), ((a 7), WeV cA u2), ((a 8), NuV cA v2), ((a 9), LcV cA L2), ((z 0), StV (z 1) (z 2) (z 3) (z 4) (z 5) g), ((z 1), SeV (z 6) (z 7) (z 8)), ((z 2), ThV g), ((z 3), DrV f g), ((z 4), LgV (z 9) g), ((z 5), TaV g), ((z 6), SpV cA u), ((z 7), WeV cA u), ((z 8), NuV cA v), ((z 9), LcV cA L)] := hD
  refine lv_aload_n hx hb dX2_takeBack_31 rfl (lv_at hl 1 rfl) ?_
  refine lv_aload_n hx hb dX2_takeBack_32 rfl (lv_at hl 0 rfl) ?_
  refine va_get (D := G) (ci := 2) (v := .ref r1) (C := RX2) (T := TX2) (N := 2) hx hb hts hin_X2 hown hK hP 0 rfl rfl 0 (by decide) k11 (fun _ h9 => h9) rfl dX2_takeBack_33 ?_
  refine lv_aload_n hx hb dX2_takeBack_36 rfl (lv_at hl 0 rfl) ?_
  refine va_get (D := G) (ci := 2) (v := .int 3) (C := RX2) (T := TX2) (N := 2) hx hb hts hin_X2 hown hK hP 0 rfl rfl 1 (by decide) k16 (fun _ h9 => h9) rfl dX2_takeBack_37 ?_
  refine va_aldq hx hb hK hP 1 3 rfl rfl (by unfold vp_in; decide) dX2_takeBack_40 ?_
  refine W.eq (g2 := F0 m 41 ls [.ref (z 0), .ref (a 0)]) rfl ?_
  refine wr_v (ws' := [(h0, HiV r1 3), (r1, Q4V cA y0 y1 y2 (z 0)), ((a 0), StV (a 1) (a 2) (a 3) (a 4) (a 5) g), ((a 1), SeV (a 6) (a 7) (a 8)), ((a 2), ThV g), ((a 3), DrV f g), ((a 4), LgV (a 9) g), ((a 5), TaV g), ((a 6), SpV cA u), ((a 7), WeV cA u), ((a 8), NuV cA v), ((a 9), LcV cA L), ((z 0), StV (z 1) (z 2) (z 3) (z 4) (z 5) g), ((z 1), SeV (z 6) (z 7) (z 8)), ((z 2), ThV g), ((z 3), DrV f g), ((z 4), LgV (z 9) g), ((z 5), TaV g), ((z 6), SpV cA u), ((z 7), WeV cA u), ((z 8), NuV cA v), ((z 9), LcV cA L)]) (rV (rest := []) ⟨hx, hb, hml, hown, hts⟩ (cX5_copyFrom_ok l G cA a z u2 u v2 v f2 f g2 g L2 L hB) (cwV 1 hts gX2_takeBack_X5_copyFrom rfl rfl rfl mdX5_copyFrom ⟨Nat.le_of_ble_eq_true rfl, Nat.le_of_ble_eq_true rfl⟩) hE (hP.sub (ws' := [((a 0), StV (a 1) (a 2) (a 3) (a 4) (a 5) g2), ((a 1), SeV (a 6) (a 7) (a 8)), ((a 2), ThV g2), ((a 3), DrV f2 g2), ((a 4), LgV (a 9) g2), ((a 5), TaV g2), ((a 6), SpV cA u2), ((a 7), WeV cA u2), ((a 8), NuV cA v2), ((a 9), LcV cA L2), ((z 0), StV (z 1) (z 2) (z 3) (z 4) (z 5) g), ((z 1), SeV (z 6) (z 7) (z 8)), ((z 2), ThV g), ((z 3), DrV f g), ((z 4), LgV (z 9) g), ((z 5), TaV g), ((z 6), SpV cA u), ((z 7), WeV cA u), ((z 8), NuV cA v), ((z 9), LcV cA L)]) [2, 3, 4, 5, 6, 7, 8, 9, 10, 11, 12, 13, 14, 15, 16, 17, 18, 19, 20, 21] rfl) (hD.sub (ws' := [((a 0), StV (a 1) (a 2) (a 3) (a 4) (a 5) g2), ((a 1), SeV (a 6) (a 7) (a 8)), ((a 2), ThV g2), ((a 3), DrV f2 g2), ((a 4), LgV (a 9) g2), ((a 5), TaV g2), ((a 6), SpV cA u2), ((a 7), WeV cA u2), ((a 8), NuV cA v2), ((a 9), LcV cA L2), ((z 0), StV (z 1) (z 2) (z 3) (z 4) (z 5) g), ((z 1), SeV (z 6) (z 7) (z 8)), ((z 2), ThV g), ((z 3), DrV f g), ((z 4), LgV (z 9) g), ((z 5), TaV g), ((z 6), SpV cA u), ((z 7), WeV cA u), ((z 8), NuV cA v), ((z 9), LcV cA L)]) [2, 3, 4, 5, 6, 7, 8, 9, 10, 11, 12, 13, 14, 15, 16, 17, 18, 19, 20, 21] (by decide) rfl) (q0 := 0) (ci := 5) rfl rfl rfl hl rfl (Nat.le_of_ble_eq_true rfl) dX2_takeBack_41 ⟨Nat.le_of_ble_eq_true rfl, Nat.le_of_ble_eq_true rfl⟩) hS hP hD [2, 3, 4, 5, 6, 7, 8, 9, 10, 11, 12, 13, 14, 15, 16, 17, 18, 19, 20, 21] rfl rfl [0, 1] [(h0, HiV r1 3), (r1, Q4V cA y0 y1 y2 (z 0))] rfl rfl rfl rfl (fun H locs hP hD hS => ?_)
  refine lv_iconst (v := 1) hx hb dX2_takeBack_44 (by decide) ?_
  exact en_wi hx hb hr rfl hlocks hS rfl hP dX2_takeBack_45
set_option maxHeartbeats 4000000 in
set_option maxRecDepth 100000 in
/-- History.takeBack(into), with no state there -/
theorem cX2_takeBack_0 (l : Launch) (G : va_G) (cA : Nat → ClassId) (h0 h1 r1 y0 y1 y2 y3 : Nat) : Ri l yX2_takeBack wsX2_takeBack ({ frames := 0, cells := 0, slots := 0, locals := 0 } : Room) G cA [.ref h0, .ref h1] [(h0, HiV r1 0), (r1, Q4V cA y0 y1 y2 y3)] (fun r => r = 0) := by
  refine ofW2 (cc := cX2_takeBack) (maxL := 2) (ret := (some .boolean)) (own := RX2) (by decide) rfl rfl (Nat.le_of_ble_eq_true rfl) rfl ?_
  intro p e s m below meth c ls hx hb hml hr hts hown hlocks hv hl
  obtain ⟨hP, hE, hD0⟩ := hv
  have hK := hE.1
  have hD := hD0
  generalize hH0 : s.heap = H at hP ⊢
  have hS : va_S (fun _ => False) s.heap H [] := hH0 ▸ va_S.rf
  generalize ([] : List Loc) = locs at hS ⊢
  clear hH0 hD0
  replace hl : lv_has ls 2 [(0, .ref h0), (1, .ref h1)] := hl
  have hin_X2 : ∀ q ∈ u_ws RX2 TX2 2, q ∈ wsX2_takeBack := by decide +kernel
  have k16 := hts (.fieldLink RX2 16 "LiftBeams$History" "size" "I") (by decide +kernel)
  have k11 := hts (.fieldLink RX2 11 "LiftBeams$History" "states" "[LLiftBeams$State;") (by decide +kernel)
  refine lv_aload_n hx hb dX2_takeBack_0 rfl (lv_at hl 0 rfl) ?_
  refine va_get (D := G) (ci := 2) (v := .int 0) (C := RX2) (T := TX2) (N := 2) hx hb hts hin_X2 hown hK hP 0 rfl rfl 1 (by decide) k16 (fun _ h9 => h9) rfl dX2_takeBack_1 ?_
  refine lv_if_le (tgt := 19) hx hb dX2_takeBack_4 (by decide) (fun _ => ?_) (fun h9 => absurd (by decide) h9)
  refine lv_iconst (v := 0) hx hb dX2_takeBack_19 (by decide) ?_
  exact en_ri hx hb hr rfl hlocks hS rfl dX2_takeBack_20
