/-! LiftBeams: what changes it, 2: contracts over small worlds (by wip/p26/lb3.py) -/
set_option maxHeartbeats 4000000 in
set_option maxRecDepth 100000 in
/-- type(character) -/
theorem cX8_type_ok (l : Launch) (G : va_G) (cA : Nat → ClassId) (o : Nat) (ad : Nat → Nat → Nat) (tk0 : Int32) (K : Nat) (p0 : Int32) (ch : GG) (hK6 : K < 60) (c0 : Int32) (hc : vp_nar .char c0 = c0) : Wi l yX8_type wsX8_type ({ frames := 1, cells := 0, slots := 0, locals := 21 } : Room) G cA [.ref o, .int c0] [(o, LbV (ad 0 0) (ad 1 0) (ad 2 0) (ad 7 0) (ad 7 2) tk0), ((ad 7 2), TxV (ad 7 3) (ad 7 4) (ad 7 5) (nI K) p0), ((ad 7 3), .inl (cA 2, 60, .inl ch))] (fun r => r = nI K + 1) [(o, LbV (ad 0 0) (ad 1 0) (ad 2 0) (ad 7 0) (ad 7 2) tk0), (ad 7 2, TxV (ad 7 3) (ad 7 4) (ad 7 5) (nI K + 1) p0), (ad 7 3, .inl (cA 2, 60, .inl (upd ch K c0)))] := by
  refine ofW2 (cc := cX8_type) (maxL := 2) (ret := (some .int)) (own := RX8) (by decide) rfl rfl (Nat.le_of_ble_eq_true rfl) rfl ?_
  intro p e s m below meth c ls hx hb hml hr hts hown hlocks hv hl
  obtain ⟨hP, hE, hD0⟩ := hv
  have hK := hE.1
  have hD := dself hD0
  generalize hH0 : s.heap = H at hP ⊢
  have hS : va_S (inW [(o, LbV (ad 0 0) (ad 1 0) (ad 2 0) (ad 7 0) (ad 7 2) tk0), ((ad 7 2), TxV (ad 7 3) (ad 7 4) (ad 7 5) (nI K) p0), ((ad 7 3), .inl (cA 2, 60, .inl ch))]) s.heap H [] := hH0 ▸ va_S.rf
  generalize ([] : List Loc) = locs at hS ⊢
  clear hH0 hD0
  replace hl : lv_has ls 2 [(0, .ref o), (1, .int c0)] := hl
  have hin_X8 : ∀ q ∈ u_ws RX8 TX8 6, q ∈ wsX8_type := by decide +kernel
  have hin_X0 : ∀ q ∈ u_ws RX0 TX0 5, q ∈ wsX8_type := by decide +kernel
  have k32 := hts (.fieldLink RX8 32 "LiftBeams" "text" "LLiftBeams$BeamText;") (by decide +kernel)
  have k128 := hts (.fieldLink RX8 128 "LiftBeams$BeamText" "length" "I") (by decide +kernel)
  refine lv_aload_n hx hb dX8_type_0 rfl (lv_at hl 0 rfl) ?_
  refine va_get (D := G) (ci := 8) (v := .ref (ad 7 2)) (C := RX8) (T := TX8) (N := 6) hx hb hts hin_X8 hown hK hP 0 rfl rfl 4 (by decide) k32 (fun _ h9 => h9) rfl dX8_type_1 ?_
  refine lv_iload_n hx hb dX8_type_4 rfl (lv_at hl 1 rfl) ?_
  refine wr_i (ws' := [(o, LbV (ad 0 0) (ad 1 0) (ad 2 0) (ad 7 0) (ad 7 2) tk0), ((ad 7 2), TxV (ad 7 3) (ad 7 4) (ad 7 5) (nI K + 1) p0), ((ad 7 3), .inl (cA 2, 60, .inl (upd ch K c0)))]) (rV (rest := []) ⟨hx, hb, hml, hown, hts⟩ (cX0_append_ok l G cA (ad 7 2) (ad 7 3) (ad 7 4) (ad 7 5) K hK6 p0 ch c0 hc) (cwV 1 hts gX8_type_X0_append rfl rfl rfl mdX0_append ⟨Nat.le_of_ble_eq_true rfl, Nat.le_of_ble_eq_true rfl⟩) hE (hP.sub (ws' := [((ad 7 2), TxV (ad 7 3) (ad 7 4) (ad 7 5) (nI K) p0), ((ad 7 3), .inl (cA 2, 60, .inl ch))]) [1, 2] rfl) (hD.sub (ws' := [((ad 7 2), TxV (ad 7 3) (ad 7 4) (ad 7 5) (nI K) p0), ((ad 7 3), .inl (cA 2, 60, .inl ch))]) [1, 2] (by decide) rfl) (q0 := 0) (ci := 0) rfl rfl rfl hl rfl (Nat.le_of_ble_eq_true rfl) dX8_type_5 ⟨Nat.le_of_ble_eq_true rfl, Nat.le_of_ble_eq_true rfl⟩) hS hP hD [1, 2] rfl rfl [0] [(o, LbV (ad 0 0) (ad 1 0) (ad 2 0) (ad 7 0) (ad 7 2) tk0)] rfl rfl rfl rfl (fun r_5 H locs hr_5 hP hD hS => ?_)
  subst hr_5
  refine lv_if_eq (tgt := 21) hx hb dX8_type_8 (by decide) (fun h9 => absurd h9 (by decide)) (fun _ => ?_)
  refine lv_aload_n hx hb dX8_type_11 rfl (lv_at hl 0 rfl) ?_
  refine va_get (D := G) (ci := 8) (v := .ref (ad 7 2)) (C := RX8) (T := TX8) (N := 6) hx hb hts hin_X8 hown hK hP 0 rfl rfl 4 (by decide) k32 (fun _ h9 => h9) rfl dX8_type_12 ?_
  refine va_get (D := G) (ci := 0) (v := .int (nI K + 1)) (C := RX0) (T := TX0) (N := 5) hx hb hts hin_X0 hown hK hP 1 rfl rfl 1 (by decide) k128 (fun _ h9 => h9) rfl dX8_type_15 ?_
  refine lv_goto (tgt := 23) hx hb dX8_type_18 (by decide) ?_
  exact en_wi hx hb hr rfl hlocks hS rfl hP dX8_type_23
set_option maxHeartbeats 4000000 in
set_option maxRecDepth 100000 in
/-- clearText() -/
theorem cX8_clearText_ok (l : Launch) (G : va_G) (cA : Nat → ClassId) (o : Nat) (ad : Nat → Nat → Nat) (tk0 : Int32) (K : Nat) (p0 : Int32) (ch : GG) : Wi l yX8_clearText wsX8_clearText ({ frames := 0, cells := 0, slots := 0, locals := 0 } : Room) G cA [.ref o] [(o, LbV (ad 0 0) (ad 1 0) (ad 2 0) (ad 7 0) (ad 7 2) tk0), ((ad 7 2), TxV (ad 7 3) (ad 7 4) (ad 7 5) (nI K) p0), ((ad 7 3), .inl (cA 2, 60, .inl ch))] (fun r => r = nI K) [(o, LbV (ad 0 0) (ad 1 0) (ad 2 0) (ad 7 0) (ad 7 2) tk0), (ad 7 2, TxV (ad 7 3) (ad 7 4) (ad 7 5) 0 p0), (ad 7 3, .inl (cA 2, 60, .inl ch))] := by
  refine ofW2 (cc := cX8_clearText) (maxL := 2) (ret := (some .int)) (own := RX8) (by decide) rfl rfl (Nat.le_of_ble_eq_true rfl) rfl ?_
  intro p e s m below meth c ls hx hb hml hr hts hown hlocks hv hl
  obtain ⟨hP, hE, hD0⟩ := hv
  have hK := hE.1
  have hD := dself hD0
  generalize hH0 : s.heap = H at hP ⊢
  have hS : va_S (inW [(o, LbV (ad 0 0) (ad 1 0) (ad 2 0) (ad 7 0) (ad 7 2) tk0), ((ad 7 2), TxV (ad 7 3) (ad 7 4) (ad 7 5) (nI K) p0), ((ad 7 3), .inl (cA 2, 60, .inl ch))]) s.heap H [] := hH0 ▸ va_S.rf
  generalize ([] : List Loc) = locs at hS ⊢
  clear hH0 hD0
  replace hl : lv_has ls 2 [(0, .ref o)] := hl
  have hin_X8 : ∀ q ∈ u_ws RX8 TX8 6, q ∈ wsX8_clearText := by decide +kernel
  have hin_X0 : ∀ q ∈ u_ws RX0 TX0 5, q ∈ wsX8_clearText := by decide +kernel
  have k32 := hts (.fieldLink RX8 32 "LiftBeams" "text" "LLiftBeams$BeamText;") (by decide +kernel)
  have k128 := hts (.fieldLink RX8 128 "LiftBeams$BeamText" "length" "I") (by decide +kernel)
  refine lv_aload_n hx hb dX8_clearText_0 rfl (lv_at hl 0 rfl) ?_
  refine va_get (D := G) (ci := 8) (v := .ref (ad 7 2)) (C := RX8) (T := TX8) (N := 6) hx hb hts hin_X8 hown hK hP 0 rfl rfl 4 (by decide) k32 (fun _ h9 => h9) rfl dX8_clearText_1 ?_
  refine va_get (D := G) (ci := 0) (v := .int (nI K)) (C := RX0) (T := TX0) (N := 5) hx hb hts hin_X0 hown hK hP 1 rfl rfl 1 (by decide) k128 (fun _ h9 => h9) rfl dX8_clearText_4 ?_
  refine lv_istore_n (lv' := [(1, .int (nI K)), (0, .ref o)]) hx hb dX8_clearText_7 rfl hl (by decide) rfl (fun ls hl => ?_)
  refine lv_aload_n hx hb dX8_clearText_8 rfl (lv_at hl 1 rfl) ?_
  refine va_get (D := G) (ci := 8) (v := .ref (ad 7 2)) (C := RX8) (T := TX8) (N := 6) hx hb hts hin_X8 hown hK hP 0 rfl rfl 4 (by decide) k32 (fun _ h9 => h9) rfl dX8_clearText_9 ?_
  refine lv_iconst (v := 0) hx hb dX8_clearText_12 (by decide) ?_
  refine va_put (D := G) (ci := 0) (v := .int 0) (ty := .int) (C := RX0) (T := TX0) (N := 5) hx hb hts hin_X0 tyX0 tyX0_ok nmX0 hown hK hP hD hS 1 rfl rfl 1 (by decide) k128 (fun _ h9 => h9) rfl (by decide +kernel) rfl rfl (Nat.le_of_ble_eq_true rfl) dX8_clearText_13 (fun H locs hP hD hS => ?_)
  replace hP : va_P G vwCl [(o, LbV (ad 0 0) (ad 1 0) (ad 2 0) (ad 7 0) (ad 7 2) tk0), ((ad 7 2), TxV (ad 7 3) (ad 7 4) (ad 7 5) 0 p0), ((ad 7 3), .inl (cA 2, 60, .inl ch))] H := hP
  replace hD : va_D (inW [(o, LbV (ad 0 0) (ad 1 0) (ad 2 0) (ad 7 0) (ad 7 2) tk0), ((ad 7 2), TxV (ad 7 3) (ad 7 4) (ad 7 5) (nI K) p0), ((ad 7 3), .inl (cA 2, 60, .inl ch))]) [(o, LbV (ad 0 0) (ad 1 0) (ad 2 0) (ad 7 0) (ad 7 2) tk0), ((ad 7 2), TxV (ad 7 3) (ad 7 4) (ad 7 5) 0 p0), ((ad 7 3), .inl (cA 2, 60, .inl ch))] := hD
  refine lv_iload_n hx hb dX8_clearText_16 rfl (lv_at hl 0 rfl) ?_
  exact en_wi hx hb hr rfl hlocks hS rfl hP dX8_clearText_17
set_option maxHeartbeats 4000000 in
set_option maxRecDepth 100000 in
/-- undo(), with no state there -/
theorem cX8_undo_0 (l : Launch) (G : va_G) (cA : Nat → ClassId) (o : Nat) (ad : Nat → Nat → Nat) (tk0 : Int32) (S : Nat → CT5) : Ri l yX8_undo wsX8_undo ({ frames := 3, cells := 0, slots := 0, locals := 64 } : Room) G cA [.ref o] [(o, LbV (ad 0 0) (ad 1 0) (ad 2 0) (ad 7 0) (ad 7 2) tk0), ((ad 0 0), StV (ad 0 1) (ad 0 2) (ad 0 3) (ad 0 4) (ad 0 5) ((S 0).2.2.2.1)), ((ad 7 0), HiV (ad 7 1) 0), ((ad 7 1), Q4V cA (heads ad 0) (heads ad 1) (heads ad 2) (heads ad 3))] (fun r => r = -5) := by
  refine ofW2 (cc := cX8_undo) (maxL := 1) (ret := (some .int)) (own := RX8) (by decide) rfl rfl (Nat.le_of_ble_eq_true rfl) rfl ?_
  intro p e s m below meth c ls hx hb hml hr hts hown hlocks hv hl
  obtain ⟨hP, hE, hD0⟩ := hv
  have hK := hE.1
  have hD := hD0
  generalize hH0 : s.heap = H at hP ⊢
  have hS : va_S (fun _ => False) s.heap H [] := hH0 ▸ va_S.rf
  generalize ([] : List Loc) = locs at hS ⊢
  clear hH0 hD0
  replace hl : lv_has ls 1 [(0, .ref o)] := hl
  have hin_X8 : ∀ q ∈ u_ws RX8 TX8 6, q ∈ wsX8_undo := by decide +kernel
  have hin_X2 : ∀ q ∈ u_ws RX2 TX2 2, q ∈ wsX8_undo := by decide +kernel
  have k25 := hts (.fieldLink RX8 25 "LiftBeams" "history" "LLiftBeams$History;") (by decide +kernel)
  have k10 := hts (.fieldLink RX8 10 "LiftBeams" "now" "LLiftBeams$State;") (by decide +kernel)
  have k135 := hts (.fieldLink RX8 135 "LiftBeams$History" "size" "I") (by decide +kernel)
  refine lv_aload_n hx hb dX8_undo_0 rfl (lv_at hl 0 rfl) ?_
  refine va_get (D := G) (ci := 8) (v := .ref (ad 7 0)) (C := RX8) (T := TX8) (N := 6) hx hb hts hin_X8 hown hK hP 0 rfl rfl 3 (by decide) k25 (fun _ h9 => h9) rfl dX8_undo_1 ?_
  refine lv_aload_n hx hb dX8_undo_4 rfl (lv_at hl 0 rfl) ?_
  refine va_get (D := G) (ci := 8) (v := .ref (ad 0 0)) (C := RX8) (T := TX8) (N := 6) hx hb hts hin_X8 hown hK hP 0 rfl rfl 0 (by decide) k10 (fun _ h9 => h9) rfl dX8_undo_5 ?_
  refine rd_i (rV (rest := []) ⟨hx, hb, hml, hown, hts⟩ (cX2_takeBack_0 l G cA (ad 7 0) (ad 0 0) (ad 7 1) (heads ad 0) (heads ad 1) (heads ad 2) (heads ad 3)) (cwV 1 hts gX8_undo_X2_takeBack rfl rfl rfl mdX2_takeBack ⟨Nat.le_of_ble_eq_true rfl, Nat.le_of_ble_eq_true rfl⟩) hE (hP.sub (ws' := [((ad 7 0), HiV (ad 7 1) 0), ((ad 7 1), Q4V cA (heads ad 0) (heads ad 1) (heads ad 2) (heads ad 3))]) [2, 3] rfl) (hD.sub (ws' := [((ad 7 0), HiV (ad 7 1) 0), ((ad 7 1), Q4V cA (heads ad 0) (heads ad 1) (heads ad 2) (heads ad 3))]) [2, 3] (by decide) rfl) (q0 := 0) (ci := 2) rfl rfl rfl hl rfl (Nat.le_of_ble_eq_true rfl) dX8_undo_8 ⟨Nat.le_of_ble_eq_true rfl, Nat.le_of_ble_eq_true rfl⟩) hS hP (fun r_8 H locs hr_8 hP hS => ?_)
  subst hr_8
  refine lv_if_eq (tgt := 24) hx hb dX8_undo_11 (by decide) (fun _ => ?_) (fun h9 => absurd (by decide) h9)
  refine lv_bipush (v := (-5)) hx hb dX8_undo_24 (by decide) ?_
  exact en_ri hx hb hr rfl hlocks hS rfl dX8_undo_26
set_option maxHeartbeats 4000000 in
set_option maxRecDepth 100000 in
/-- undo(), with 1 states there -/
theorem cX8_undo_1 (l : Launch) (G : va_G) (cA : Nat → ClassId) (o : Nat) (ad : Nat → Nat → Nat) (tk0 : Int32) (S : Nat → CT5) (hB : AllB S) : Wi l yX8_undo wsX8_undo ({ frames := 3, cells := 0, slots := 0, locals := 64 } : Room) G cA [.ref o] [(o, LbV (ad 0 0) (ad 1 0) (ad 2 0) (ad 7 0) (ad 7 2) tk0), ((ad 0 0), StV (ad 0 1) (ad 0 2) (ad 0 3) (ad 0 4) (ad 0 5) ((S 0).2.2.2.1)), ((ad 0 1), SeV (ad 0 6) (ad 0 7) (ad 0 8)), ((ad 0 2), ThV ((S 0).2.2.2.1)), ((ad 0 3), DrV ((S 0).2.2.1) ((S 0).2.2.2.1)), ((ad 0 4), LgV (ad 0 9) ((S 0).2.2.2.1)), ((ad 0 5), TaV ((S 0).2.2.2.1)), ((ad 0 6), SpV cA ((S 0).1)), ((ad 0 7), WeV cA ((S 0).1)), ((ad 0 8), NuV cA ((S 0).2.1)), ((ad 0 9), LcV cA ((S 0).2.2.2.2)), ((ad 7 0), HiV (ad 7 1) 1), ((ad 7 1), Q4V cA (heads ad 0) (heads ad 1) (heads ad 2) (heads ad 3)), ((ad 3 0), StV (ad 3 1) (ad 3 2) (ad 3 3) (ad 3 4) (ad 3 5) ((S 3).2.2.2.1)), ((ad 3 1), SeV (ad 3 6) (ad 3 7) (ad 3 8)), ((ad 3 2), ThV ((S 3).2.2.2.1)), ((ad 3 3), DrV ((S 3).2.2.1) ((S 3).2.2.2.1)), ((ad 3 4), LgV (ad 3 9) ((S 3).2.2.2.1)), ((ad 3 5), TaV ((S 3).2.2.2.1)), ((ad 3 6), SpV cA ((S 3).1)), ((ad 3 7), WeV cA ((S 3).1)), ((ad 3 8), NuV cA ((S 3).2.1)), ((ad 3 9), LcV cA ((S 3).2.2.2.2))] (fun r => r = 0) ([(o, LbV (ad 0 0) (ad 1 0) (ad 2 0) (ad 7 0) (ad 7 2) tk0)] ++ (blk cA ad 0 (S 3) ++ ([(ad 7 0, HiV (ad 7 1) 0), (ad 7 1, Q4V cA (heads ad 0) (heads ad 1) (heads ad 2) (heads ad 3))] ++ blk cA ad 3 (S 3)))) := by
  refine ofW2 (cc := cX8_undo) (maxL := 1) (ret := (some .int)) (own := RX8) (by decide) rfl rfl (Nat.le_of_ble_eq_true rfl) rfl ?_
  intro p e s m below meth c ls hx hb hml hr hts hown hlocks hv hl
  obtain ⟨hP, hE, hD0⟩ := hv
  have hK := hE.1
  have hD := dself hD0
  generalize hH0 : s.heap = H at hP ⊢
  have hS : va_S (inW [(o, LbV (ad 0 0) (ad 1 0) (ad 2 0) (ad 7 0) (ad 7 2) tk0), ((ad 0 0), StV (ad 0 1) (ad 0 2) (ad 0 3) (ad 0 4) (ad 0 5) ((S 0).2.2.2.1)), ((ad 0 1), SeV (ad 0 6) (ad 0 7) (ad 0 8)), ((ad 0 2), ThV ((S 0).2.2.2.1)), ((ad 0 3), DrV ((S 0).2.2.1) ((S 0).2.2.2.1)), ((ad 0 4), LgV (ad 0 9) ((S 0).2.2.2.1)), ((ad 0 5), TaV ((S 0).2.2.2.1)), ((ad 0 6), SpV cA ((S 0).1)), ((ad 0 7), WeV cA ((S 0).1)), ((ad 0 8), NuV cA ((S 0).2.1)), ((ad 0 9), LcV cA ((S 0).2.2.2.2)), ((ad 7 0), HiV (ad 7 1) 1), ((ad 7 1), Q4V cA (heads ad 0) (heads ad 1) (heads ad 2) (heads ad 3)), ((ad 3 0), StV (ad 3 1) (ad 3 2) (ad 3 3) (ad 3 4) (ad 3 5) ((S 3).2.2.2.1)), ((ad 3 1), SeV (ad 3 6) (ad 3 7) (ad 3 8)), ((ad 3 2), ThV ((S 3).2.2.2.1)), ((ad 3 3), DrV ((S 3).2.2.1) ((S 3).2.2.2.1)), ((ad 3 4), LgV (ad 3 9) ((S 3).2.2.2.1)), ((ad 3 5), TaV ((S 3).2.2.2.1)), ((ad 3 6), SpV cA ((S 3).1)), ((ad 3 7), WeV cA ((S 3).1)), ((ad 3 8), NuV cA ((S 3).2.1)), ((ad 3 9), LcV cA ((S 3).2.2.2.2))]) s.heap H [] := hH0 ▸ va_S.rf
  generalize ([] : List Loc) = locs at hS ⊢
  clear hH0 hD0
  replace hl : lv_has ls 1 [(0, .ref o)] := hl
  have hin_X8 : ∀ q ∈ u_ws RX8 TX8 6, q ∈ wsX8_undo := by decide +kernel
  have hin_X2 : ∀ q ∈ u_ws RX2 TX2 2, q ∈ wsX8_undo := by decide +kernel
  have k25 := hts (.fieldLink RX8 25 "LiftBeams" "history" "LLiftBeams$History;") (by decide +kernel)
  have k10 := hts (.fieldLink RX8 10 "LiftBeams" "now" "LLiftBeams$State;") (by decide +kernel)
  have k135 := hts (.fieldLink RX8 135 "LiftBeams$History" "size" "I") (by decide +kernel)
  refine lv_aload_n hx hb dX8_undo_0 rfl (lv_at hl 0 rfl) ?_
  refine va_get (D := G) (ci := 8) (v := .ref (ad 7 0)) (C := RX8) (T := TX8) (N := 6) hx hb hts hin_X8 hown hK hP 0 rfl rfl 3 (by decide) k25 (fun _ h9 => h9) rfl dX8_undo_1 ?_
  refine lv_aload_n hx hb dX8_undo_4 rfl (lv_at hl 0 rfl) ?_
  refine va_get (D := G) (ci := 8) (v := .ref (ad 0 0)) (C := RX8) (T := TX8) (N := 6) hx hb hts hin_X8 hown hK hP 0 rfl rfl 0 (by decide) k10 (fun _ h9 => h9) rfl dX8_undo_5 ?_
  refine wr_i (ws' := [(o, LbV (ad 0 0) (ad 1 0) (ad 2 0) (ad 7 0) (ad 7 2) tk0), ((ad 0 0), StV (ad 0 1) (ad 0 2) (ad 0 3) (ad 0 4) (ad 0 5) ((S 3).2.2.2.1)), ((ad 0 1), SeV (ad 0 6) (ad 0 7) (ad 0 8)), ((ad 0 2), ThV ((S 3).2.2.2.1)), ((ad 0 3), DrV ((S 3).2.2.1) ((S 3).2.2.2.1)), ((ad 0 4), LgV (ad 0 9) ((S 3).2.2.2.1)), ((ad 0 5), TaV ((S 3).2.2.2.1)), ((ad 0 6), SpV cA ((S 3).1)), ((ad 0 7), WeV cA ((S 3).1)), ((ad 0 8), NuV cA ((S 3).2.1)), ((ad 0 9), LcV cA ((S 3).2.2.2.2)), ((ad 7 0), HiV (ad 7 1) 0), ((ad 7 1), Q4V cA (heads ad 0) (heads ad 1) (heads ad 2) (heads ad 3)), ((ad 3 0), StV (ad 3 1) (ad 3 2) (ad 3 3) (ad 3 4) (ad 3 5) ((S 3).2.2.2.1)), ((ad 3 1), SeV (ad 3 6) (ad 3 7) (ad 3 8)), ((ad 3 2), ThV ((S 3).2.2.2.1)), ((ad 3 3), DrV ((S 3).2.2.1) ((S 3).2.2.2.1)), ((ad 3 4), LgV (ad 3 9) ((S 3).2.2.2.1)), ((ad 3 5), TaV ((S 3).2.2.2.1)), ((ad 3 6), SpV cA ((S 3).1)), ((ad 3 7), WeV cA ((S 3).1)), ((ad 3 8), NuV cA ((S 3).2.1)), ((ad 3 9), LcV cA ((S 3).2.2.2.2))]) (rV (rest := []) ⟨hx, hb, hml, hown, hts⟩ (cX2_takeBack_1 l G cA (ad 7 0) (ad 7 1) (heads ad 1) (heads ad 2) (heads ad 3) (ad 3) (ad 0) ((S 3).1) ((S 0).1) ((S 3).2.1) ((S 0).2.1) ((S 3).2.2.1) ((S 0).2.2.1) ((S 3).2.2.2.1) ((S 0).2.2.2.1) ((S 3).2.2.2.2) ((S 0).2.2.2.2) (hB 3)) (cwV 1 hts gX8_undo_X2_takeBack rfl rfl rfl mdX2_takeBack ⟨Nat.le_of_ble_eq_true rfl, Nat.le_of_ble_eq_true rfl⟩) hE (hP.sub (ws' := [((ad 7 0), HiV (ad 7 1) 1), ((ad 7 1), Q4V cA (heads ad 0) (heads ad 1) (heads ad 2) (heads ad 3)), ((ad 0 0), StV (ad 0 1) (ad 0 2) (ad 0 3) (ad 0 4) (ad 0 5) ((S 0).2.2.2.1)), ((ad 0 1), SeV (ad 0 6) (ad 0 7) (ad 0 8)), ((ad 0 2), ThV ((S 0).2.2.2.1)), ((ad 0 3), DrV ((S 0).2.2.1) ((S 0).2.2.2.1)), ((ad 0 4), LgV (ad 0 9) ((S 0).2.2.2.1)), ((ad 0 5), TaV ((S 0).2.2.2.1)), ((ad 0 6), SpV cA ((S 0).1)), ((ad 0 7), WeV cA ((S 0).1)), ((ad 0 8), NuV cA ((S 0).2.1)), ((ad 0 9), LcV cA ((S 0).2.2.2.2)), ((ad 3 0), StV (ad 3 1) (ad 3 2) (ad 3 3) (ad 3 4) (ad 3 5) ((S 3).2.2.2.1)), ((ad 3 1), SeV (ad 3 6) (ad 3 7) (ad 3 8)), ((ad 3 2), ThV ((S 3).2.2.2.1)), ((ad 3 3), DrV ((S 3).2.2.1) ((S 3).2.2.2.1)), ((ad 3 4), LgV (ad 3 9) ((S 3).2.2.2.1)), ((ad 3 5), TaV ((S 3).2.2.2.1)), ((ad 3 6), SpV cA ((S 3).1)), ((ad 3 7), WeV cA ((S 3).1)), ((ad 3 8), NuV cA ((S 3).2.1)), ((ad 3 9), LcV cA ((S 3).2.2.2.2))]) [11, 12, 1, 2, 3, 4, 5, 6, 7, 8, 9, 10, 13, 14, 15, 16, 17, 18, 19, 20, 21, 22] rfl) (hD.sub (ws' := [((ad 7 0), HiV (ad 7 1) 1), ((ad 7 1), Q4V cA (heads ad 0) (heads ad 1) (heads ad 2) (heads ad 3)), ((ad 0 0), StV (ad 0 1) (ad 0 2) (ad 0 3) (ad 0 4) (ad 0 5) ((S 0).2.2.2.1)), ((ad 0 1), SeV (ad 0 6) (ad 0 7) (ad 0 8)), ((ad 0 2), ThV ((S 0).2.2.2.1)), ((ad 0 3), DrV ((S 0).2.2.1) ((S 0).2.2.2.1)), ((ad 0 4), LgV (ad 0 9) ((S 0).2.2.2.1)), ((ad 0 5), TaV ((S 0).2.2.2.1)), ((ad 0 6), SpV cA ((S 0).1)), ((ad 0 7), WeV cA ((S 0).1)), ((ad 0 8), NuV cA ((S 0).2.1)), ((ad 0 9), LcV cA ((S 0).2.2.2.2)), ((ad 3 0), StV (ad 3 1) (ad 3 2) (ad 3 3) (ad 3 4) (ad 3 5) ((S 3).2.2.2.1)), ((ad 3 1), SeV (ad 3 6) (ad 3 7) (ad 3 8)), ((ad 3 2), ThV ((S 3).2.2.2.1)), ((ad 3 3), DrV ((S 3).2.2.1) ((S 3).2.2.2.1)), ((ad 3 4), LgV (ad 3 9) ((S 3).2.2.2.1)), ((ad 3 5), TaV ((S 3).2.2.2.1)), ((ad 3 6), SpV cA ((S 3).1)), ((ad 3 7), WeV cA ((S 3).1)), ((ad 3 8), NuV cA ((S 3).2.1)), ((ad 3 9), LcV cA ((S 3).2.2.2.2))]) [11, 12, 1, 2, 3, 4, 5, 6, 7, 8, 9, 10, 13, 14, 15, 16, 17, 18, 19, 20, 21, 22] (by decide) rfl) (q0 := 0) (ci := 2) rfl rfl rfl hl rfl (Nat.le_of_ble_eq_true rfl) dX8_undo_8 ⟨Nat.le_of_ble_eq_true rfl, Nat.le_of_ble_eq_true rfl⟩) hS hP hD [11, 12, 1, 2, 3, 4, 5, 6, 7, 8, 9, 10, 13, 14, 15, 16, 17, 18, 19, 20, 21, 22] rfl rfl [0] [(o, LbV (ad 0 0) (ad 1 0) (ad 2 0) (ad 7 0) (ad 7 2) tk0)] rfl rfl rfl rfl (fun r_8 H locs hr_8 hP hD hS => ?_)
  subst hr_8
  refine lv_if_eq (tgt := 24) hx hb dX8_undo_11 (by decide) (fun h9 => absurd h9 (by decide)) (fun _ => ?_)
  refine lv_aload_n hx hb dX8_undo_14 rfl (lv_at hl 0 rfl) ?_
  refine va_get (D := G) (ci := 8) (v := .ref (ad 7 0)) (C := RX8) (T := TX8) (N := 6) hx hb hts hin_X8 hown hK hP 0 rfl rfl 3 (by decide) k25 (fun _ h9 => h9) rfl dX8_undo_15 ?_
  refine va_get (D := G) (ci := 2) (v := .int 0) (C := RX2) (T := TX2) (N := 2) hx hb hts hin_X2 hown hK hP 11 rfl rfl 1 (by decide) k135 (fun _ h9 => h9) rfl dX8_undo_18 ?_
  refine lv_goto (tgt := 26) hx hb dX8_undo_21 (by decide) ?_
  exact en_wi hx hb hr rfl hlocks hS rfl hP dX8_undo_26
set_option maxHeartbeats 4000000 in
set_option maxRecDepth 100000 in
/-- undo(), with 2 states there -/
theorem cX8_undo_2 (l : Launch) (G : va_G) (cA : Nat → ClassId) (o : Nat) (ad : Nat → Nat → Nat) (tk0 : Int32) (S : Nat → CT5) (hB : AllB S) : Wi l yX8_undo wsX8_undo ({ frames := 3, cells := 0, slots := 0, locals := 64 } : Room) G cA [.ref o] [(o, LbV (ad 0 0) (ad 1 0) (ad 2 0) (ad 7 0) (ad 7 2) tk0), ((ad 0 0), StV (ad 0 1) (ad 0 2) (ad 0 3) (ad 0 4) (ad 0 5) ((S 0).2.2.2.1)), ((ad 0 1), SeV (ad 0 6) (ad 0 7) (ad 0 8)), ((ad 0 2), ThV ((S 0).2.2.2.1)), ((ad 0 3), DrV ((S 0).2.2.1) ((S 0).2.2.2.1)), ((ad 0 4), LgV (ad 0 9) ((S 0).2.2.2.1)), ((ad 0 5), TaV ((S 0).2.2.2.1)), ((ad 0 6), SpV cA ((S 0).1)), ((ad 0 7), WeV cA ((S 0).1)), ((ad 0 8), NuV cA ((S 0).2.1)), ((ad 0 9), LcV cA ((S 0).2.2.2.2)), ((ad 7 0), HiV (ad 7 1) 2), ((ad 7 1), Q4V cA (heads ad 0) (heads ad 1) (heads ad 2) (heads ad 3)), ((ad 4 0), StV (ad 4 1) (ad 4 2) (ad 4 3) (ad 4 4) (ad 4 5) ((S 4).2.2.2.1)), ((ad 4 1), SeV (ad 4 6) (ad 4 7) (ad 4 8)), ((ad 4 2), ThV ((S 4).2.2.2.1)), ((ad 4 3), DrV ((S 4).2.2.1) ((S 4).2.2.2.1)), ((ad 4 4), LgV (ad 4 9) ((S 4).2.2.2.1)), ((ad 4 5), TaV ((S 4).2.2.2.1)), ((ad 4 6), SpV cA ((S 4).1)), ((ad 4 7), WeV cA ((S 4).1)), ((ad 4 8), NuV cA ((S 4).2.1)), ((ad 4 9), LcV cA ((S 4).2.2.2.2))] (fun r => r = 1) ([(o, LbV (ad 0 0) (ad 1 0) (ad 2 0) (ad 7 0) (ad 7 2) tk0)] ++ (blk cA ad 0 (S 4) ++ ([(ad 7 0, HiV (ad 7 1) 1), (ad 7 1, Q4V cA (heads ad 0) (heads ad 1) (heads ad 2) (heads ad 3))] ++ blk cA ad 4 (S 4)))) := by
  refine ofW2 (cc := cX8_undo) (maxL := 1) (ret := (some .int)) (own := RX8) (by decide) rfl rfl (Nat.le_of_ble_eq_true rfl) rfl ?_
  intro p e s m below meth c ls hx hb hml hr hts hown hlocks hv hl
  obtain ⟨hP, hE, hD0⟩ := hv
  have hK := hE.1
  have hD := dself hD0
  generalize hH0 : s.heap = H at hP ⊢
  have hS : va_S (inW [(o, LbV (ad 0 0) (ad 1 0) (ad 2 0) (ad 7 0) (ad 7 2) tk0), ((ad 0 0), StV (ad 0 1) (ad 0 2) (ad 0 3) (ad 0 4) (ad 0 5) ((S 0).2.2.2.1)), ((ad 0 1), SeV (ad 0 6) (ad 0 7) (ad 0 8)), ((ad 0 2), ThV ((S 0).2.2.2.1)), ((ad 0 3), DrV ((S 0).2.2.1) ((S 0).2.2.2.1)), ((ad 0 4), LgV (ad 0 9) ((S 0).2.2.2.1)), ((ad 0 5), TaV ((S 0).2.2.2.1)), ((ad 0 6), SpV cA ((S 0).1)), ((ad 0 7), WeV cA ((S 0).1)), ((ad 0 8), NuV cA ((S 0).2.1)), ((ad 0 9), LcV cA ((S 0).2.2.2.2)), ((ad 7 0), HiV (ad 7 1) 2), ((ad 7 1), Q4V cA (heads ad 0) (heads ad 1) (heads ad 2) (heads ad 3)), ((ad 4 0), StV (ad 4 1) (ad 4 2) (ad 4 3) (ad 4 4) (ad 4 5) ((S 4).2.2.2.1)), ((ad 4 1), SeV (ad 4 6) (ad 4 7) (ad 4 8)), ((ad 4 2), ThV ((S 4).2.2.2.1)), ((ad 4 3), DrV ((S 4).2.2.1) ((S 4).2.2.2.1)), ((ad 4 4), LgV (ad 4 9) ((S 4).2.2.2.1)), ((ad 4 5), TaV ((S 4).2.2.2.1)), ((ad 4 6), SpV cA ((S 4).1)), ((ad 4 7), WeV cA ((S 4).1)), ((ad 4 8), NuV cA ((S 4).2.1)), ((ad 4 9), LcV cA ((S 4).2.2.2.2))]) s.heap H [] := hH0 ▸ va_S.rf
  generalize ([] : List Loc) = locs at hS ⊢
  clear hH0 hD0
  replace hl : lv_has ls 1 [(0, .ref o)] := hl
  have hin_X8 : ∀ q ∈ u_ws RX8 TX8 6, q ∈ wsX8_undo := by decide +kernel
  have hin_X2 : ∀ q ∈ u_ws RX2 TX2 2, q ∈ wsX8_undo := by decide +kernel
  have k25 := hts (.fieldLink RX8 25 "LiftBeams" "history" "LLiftBeams$History;") (by decide +kernel)
  have k10 := hts (.fieldLink RX8 10 "LiftBeams" "now" "LLiftBeams$State;") (by decide +kernel)
  have k135 := hts (.fieldLink RX8 135 "LiftBeams$History" "size" "I") (by decide +kernel)
  refine lv_aload_n hx hb dX8_undo_0 rfl (lv_at hl 0 rfl) ?_
  refine va_get (D := G) (ci := 8) (v := .ref (ad 7 0)) (C := RX8) (T := TX8) (N := 6) hx hb hts hin_X8 hown hK hP 0 rfl rfl 3 (by decide) k25 (fun _ h9 => h9) rfl dX8_undo_1 ?_
  refine lv_aload_n hx hb dX8_undo_4 rfl (lv_at hl 0 rfl) ?_
  refine va_get (D := G) (ci := 8) (v := .ref (ad 0 0)) (C := RX8) (T := TX8) (N := 6) hx hb hts hin_X8 hown hK hP 0 rfl rfl 0 (by decide) k10 (fun _ h9 => h9) rfl dX8_undo_5 ?_
  refine wr_i (ws' := [(o, LbV (ad 0 0) (ad 1 0) (ad 2 0) (ad 7 0) (ad 7 2) tk0), ((ad 0 0), StV (ad 0 1) (ad 0 2) (ad 0 3) (ad 0 4) (ad 0 5) ((S 4).2.2.2.1)), ((ad 0 1), SeV (ad 0 6) (ad 0 7) (ad 0 8)), ((ad 0 2), ThV ((S 4).2.2.2.1)), ((ad 0 3), DrV ((S 4).2.2.1) ((S 4).2.2.2.1)), ((ad 0 4), LgV (ad 0 9) ((S 4).2.2.2.1)), ((ad 0 5), TaV ((S 4).2.2.2.1)), ((ad 0 6), SpV cA ((S 4).1)), ((ad 0 7), WeV cA ((S 4).1)), ((ad 0 8), NuV cA ((S 4).2.1)), ((ad 0 9), LcV cA ((S 4).2.2.2.2)), ((ad 7 0), HiV (ad 7 1) 1), ((ad 7 1), Q4V cA (heads ad 0) (heads ad 1) (heads ad 2) (heads ad 3)), ((ad 4 0), StV (ad 4 1) (ad 4 2) (ad 4 3) (ad 4 4) (ad 4 5) ((S 4).2.2.2.1)), ((ad 4 1), SeV (ad 4 6) (ad 4 7) (ad 4 8)), ((ad 4 2), ThV ((S 4).2.2.2.1)), ((ad 4 3), DrV ((S 4).2.2.1) ((S 4).2.2.2.1)), ((ad 4 4), LgV (ad 4 9) ((S 4).2.2.2.1)), ((ad 4 5), TaV ((S 4).2.2.2.1)), ((ad 4 6), SpV cA ((S 4).1)), ((ad 4 7), WeV cA ((S 4).1)), ((ad 4 8), NuV cA ((S 4).2.1)), ((ad 4 9), LcV cA ((S 4).2.2.2.2))]) (rV (rest := []) ⟨hx, hb, hml, hown, hts⟩ (cX2_takeBack_2 l G cA (ad 7 0) (ad 7 1) (heads ad 0) (heads ad 2) (heads ad 3) (ad 4) (ad 0) ((S 4).1) ((S 0).1) ((S 4).2.1) ((S 0).2.1) ((S 4).2.2.1) ((S 0).2.2.1) ((S 4).2.2.2.1) ((S 0).2.2.2.1) ((S 4).2.2.2.2) ((S 0).2.2.2.2) (hB 4)) (cwV 1 hts gX8_undo_X2_takeBack rfl rfl rfl mdX2_takeBack ⟨Nat.le_of_ble_eq_true rfl, Nat.le_of_ble_eq_true rfl⟩) hE (hP.sub (ws' := [((ad 7 0), HiV (ad 7 1) 2), ((ad 7 1), Q4V cA (heads ad 0) (heads ad 1) (heads ad 2) (heads ad 3)), ((ad 0 0), StV (ad 0 1) (ad 0 2) (ad 0 3) (ad 0 4) (ad 0 5) ((S 0).2.2.2.1)), ((ad 0 1), SeV (ad 0 6) (ad 0 7) (ad 0 8)), ((ad 0 2), ThV ((S 0).2.2.2.1)), ((ad 0 3), DrV ((S 0).2.2.1) ((S 0).2.2.2.1)), ((ad 0 4), LgV (ad 0 9) ((S 0).2.2.2.1)), ((ad 0 5), TaV ((S 0).2.2.2.1)), ((ad 0 6), SpV cA ((S 0).1)), ((ad 0 7), WeV cA ((S 0).1)), ((ad 0 8), NuV cA ((S 0).2.1)), ((ad 0 9), LcV cA ((S 0).2.2.2.2)), ((ad 4 0), StV (ad 4 1) (ad 4 2) (ad 4 3) (ad 4 4) (ad 4 5) ((S 4).2.2.2.1)), ((ad 4 1), SeV (ad 4 6) (ad 4 7) (ad 4 8)), ((ad 4 2), ThV ((S 4).2.2.2.1)), ((ad 4 3), DrV ((S 4).2.2.1) ((S 4).2.2.2.1)), ((ad 4 4), LgV (ad 4 9) ((S 4).2.2.2.1)), ((ad 4 5), TaV ((S 4).2.2.2.1)), ((ad 4 6), SpV cA ((S 4).1)), ((ad 4 7), WeV cA ((S 4).1)), ((ad 4 8), NuV cA ((S 4).2.1)), ((ad 4 9), LcV cA ((S 4).2.2.2.2))]) [11, 12, 1, 2, 3, 4, 5, 6, 7, 8, 9, 10, 13, 14, 15, 16, 17, 18, 19, 20, 21, 22] rfl) (hD.sub (ws' := [((ad 7 0), HiV (ad 7 1) 2), ((ad 7 1), Q4V cA (heads ad 0) (heads ad 1) (heads ad 2) (heads ad 3)), ((ad 0 0), StV (ad 0 1) (ad 0 2) (ad 0 3) (ad 0 4) (ad 0 5) ((S 0).2.2.2.1)), ((ad 0 1), SeV (ad 0 6) (ad 0 7) (ad 0 8)), ((ad 0 2), ThV ((S 0).2.2.2.1)), ((ad 0 3), DrV ((S 0).2.2.1) ((S 0).2.2.2.1)), ((ad 0 4), LgV (ad 0 9) ((S 0).2.2.2.1)), ((ad 0 5), TaV ((S 0).2.2.2.1)), ((ad 0 6), SpV cA ((S 0).1)), ((ad 0 7), WeV cA ((S 0).1)), ((ad 0 8), NuV cA ((S 0).2.1)), ((ad 0 9), LcV cA ((S 0).2.2.2.2)), ((ad 4 0), StV (ad 4 1) (ad 4 2) (ad 4 3) (ad 4 4) (ad 4 5) ((S 4).2.2.2.1)), ((ad 4 1), SeV (ad 4 6) (ad 4 7) (ad 4 8)), ((ad 4 2), ThV ((S 4).2.2.2.1)), ((ad 4 3), DrV ((S 4).2.2.1) ((S 4).2.2.2.1)), ((ad 4 4), LgV (ad 4 9) ((S 4).2.2.2.1)), ((ad 4 5), TaV ((S 4).2.2.2.1)), ((ad 4 6), SpV cA ((S 4).1)), ((ad 4 7), WeV cA ((S 4).1)), ((ad 4 8), NuV cA ((S 4).2.1)), ((ad 4 9), LcV cA ((S 4).2.2.2.2))]) [11, 12, 1, 2, 3, 4, 5, 6, 7, 8, 9, 10, 13, 14, 15, 16, 17, 18, 19, 20, 21, 22] (by decide) rfl) (q0 := 0) (ci := 2) rfl rfl rfl hl rfl (Nat.le_of_ble_eq_true rfl) dX8_undo_8 ⟨Nat.le_of_ble_eq_true rfl, Nat.le_of_ble_eq_true rfl⟩) hS hP hD [11, 12, 1, 2, 3, 4, 5, 6, 7, 8, 9, 10, 13, 14, 15, 16, 17, 18, 19, 20, 21, 22] rfl rfl [0] [(o, LbV (ad 0 0) (ad 1 0) (ad 2 0) (ad 7 0) (ad 7 2) tk0)] rfl rfl rfl rfl (fun r_8 H locs hr_8 hP hD hS => ?_)
  subst hr_8
  refine lv_if_eq (tgt := 24) hx hb dX8_undo_11 (by decide) (fun h9 => absurd h9 (by decide)) (fun _ => ?_)
  refine lv_aload_n hx hb dX8_undo_14 rfl (lv_at hl 0 rfl) ?_
  refine va_get (D := G) (ci := 8) (v := .ref (ad 7 0)) (C := RX8) (T := TX8) (N := 6) hx hb hts hin_X8 hown hK hP 0 rfl rfl 3 (by decide) k25 (fun _ h9 => h9) rfl dX8_undo_15 ?_
  refine va_get (D := G) (ci := 2) (v := .int 1) (C := RX2) (T := TX2) (N := 2) hx hb hts hin_X2 hown hK hP 11 rfl rfl 1 (by decide) k135 (fun _ h9 => h9) rfl dX8_undo_18 ?_
  refine lv_goto (tgt := 26) hx hb dX8_undo_21 (by decide) ?_
  exact en_wi hx hb hr rfl hlocks hS rfl hP dX8_undo_26
set_option maxHeartbeats 4000000 in
set_option maxRecDepth 100000 in
/-- undo(), with 3 states there -/
theorem cX8_undo_3 (l : Launch) (G : va_G) (cA : Nat → ClassId) (o : Nat) (ad : Nat → Nat → Nat) (tk0 : Int32) (S : Nat → CT5) (hB : AllB S) : Wi l yX8_undo wsX8_undo ({ frames := 3, cells := 0, slots := 0, locals := 64 } : Room) G cA [.ref o] [(o, LbV (ad 0 0) (ad 1 0) (ad 2 0) (ad 7 0) (ad 7 2) tk0), ((ad 0 0), StV (ad 0 1) (ad 0 2) (ad 0 3) (ad 0 4) (ad 0 5) ((S 0).2.2.2.1)), ((ad 0 1), SeV (ad 0 6) (ad 0 7) (ad 0 8)), ((ad 0 2), ThV ((S 0).2.2.2.1)), ((ad 0 3), DrV ((S 0).2.2.1) ((S 0).2.2.2.1)), ((ad 0 4), LgV (ad 0 9) ((S 0).2.2.2.1)), ((ad 0 5), TaV ((S 0).2.2.2.1)), ((ad 0 6), SpV cA ((S 0).1)), ((ad 0 7), WeV cA ((S 0).1)), ((ad 0 8), NuV cA ((S 0).2.1)), ((ad 0 9), LcV cA ((S 0).2.2.2.2)), ((ad 7 0), HiV (ad 7 1) 3), ((ad 7 1), Q4V cA (heads ad 0) (heads ad 1) (heads ad 2) (heads ad 3)), ((ad 5 0), StV (ad 5 1) (ad 5 2) (ad 5 3) (ad 5 4) (ad 5 5) ((S 5).2.2.2.1)), ((ad 5 1), SeV (ad 5 6) (ad 5 7) (ad 5 8)), ((ad 5 2), ThV ((S 5).2.2.2.1)), ((ad 5 3), DrV ((S 5).2.2.1) ((S 5).2.2.2.1)), ((ad 5 4), LgV (ad 5 9) ((S 5).2.2.2.1)), ((ad 5 5), TaV ((S 5).2.2.2.1)), ((ad 5 6), SpV cA ((S 5).1)), ((ad 5 7), WeV cA ((S 5).1)), ((ad 5 8), NuV cA ((S 5).2.1)), ((ad 5 9), LcV cA ((S 5).2.2.2.2))] (fun r => r = 2) ([(o, LbV (ad 0 0) (ad 1 0) (ad 2 0) (ad 7 0) (ad 7 2) tk0)] ++ (blk cA ad 0 (S 5) ++ ([(ad 7 0, HiV (ad 7 1) 2), (ad 7 1, Q4V cA (heads ad 0) (heads ad 1) (heads ad 2) (heads ad 3))] ++ blk cA ad 5 (S 5)))) := by
  refine ofW2 (cc := cX8_undo) (maxL := 1) (ret := (some .int)) (own := RX8) (by decide) rfl rfl (Nat.le_of_ble_eq_true rfl) rfl ?_
  intro p e s m below meth c ls hx hb hml hr hts hown hlocks hv hl
  obtain ⟨hP, hE, hD0⟩ := hv
  have hK := hE.1
  have hD := dself hD0
  generalize hH0 : s.heap = H at hP ⊢
  have hS : va_S (inW [(o, LbV (ad 0 0) (ad 1 0) (ad 2 0) (ad 7 0) (ad 7 2) tk0), ((ad 0 0), StV (ad 0 1) (ad 0 2) (ad 0 3) (ad 0 4) (ad 0 5) ((S 0).2.2.2.1)), ((ad 0 1), SeV (ad 0 6) (ad 0 7) (ad 0 8)), ((ad 0 2), ThV ((S 0).2.2.2.1)), ((ad 0 3), DrV ((S 0).2.2.1) ((S 0).2.2.2.1)), ((ad 0 4), LgV (ad 0 9) ((S 0).2.2.2.1)), ((ad 0 5), TaV ((S 0).2.2.2.1)), ((ad 0 6), SpV cA ((S 0).1)), ((ad 0 7), WeV cA ((S 0).1)), ((ad 0 8), NuV cA ((S 0).2.1)), ((ad 0 9), LcV cA ((S 0).2.2.2.2)), ((ad 7 0), HiV (ad 7 1) 3), ((ad 7 1), Q4V cA (heads ad 0) (heads ad 1) (heads ad 2) (heads ad 3)), ((ad 5 0), StV (ad 5 1) (ad 5 2) (ad 5 3) (ad 5 4) (ad 5 5) ((S 5).2.2.2.1)), ((ad 5 1), SeV (ad 5 6) (ad 5 7) (ad 5 8)), ((ad 5 2), ThV ((S 5).2.2.2.1)), ((ad 5 3), DrV ((S 5).2.2.1) ((S 5).2.2.2.1)), ((ad 5 4), LgV (ad 5 9) ((S 5).2.2.2.1)), ((ad 5 5), TaV ((S 5).2.2.2.1)), ((ad 5 6), SpV cA ((S 5).1)), ((ad 5 7), WeV cA ((S 5).1)), ((ad 5 8), NuV cA ((S 5).2.1)), ((ad 5 9), LcV cA ((S 5).2.2.2.2))]) s.heap H [] := hH0 ▸ va_S.rf
  generalize ([] : List Loc) = locs at hS ⊢
  clear hH0 hD0
  replace hl : lv_has ls 1 [(0, .ref o)] := hl
  have hin_X8 : ∀ q ∈ u_ws RX8 TX8 6, q ∈ wsX8_undo := by decide +kernel
  have hin_X2 : ∀ q ∈ u_ws RX2 TX2 2, q ∈ wsX8_undo := by decide +kernel
  have k25 := hts (.fieldLink RX8 25 "LiftBeams" "history" "LLiftBeams$History;") (by decide +kernel)
  have k10 := hts (.fieldLink RX8 10 "LiftBeams" "now" "LLiftBeams$State;") (by decide +kernel)
  have k135 := hts (.fieldLink RX8 135 "LiftBeams$History" "size" "I") (by decide +kernel)
  refine lv_aload_n hx hb dX8_undo_0 rfl (lv_at hl 0 rfl) ?_
  refine va_get (D := G) (ci := 8) (v := .ref (ad 7 0)) (C := RX8) (T := TX8) (N := 6) hx hb hts hin_X8 hown hK hP 0 rfl rfl 3 (by decide) k25 (fun _ h9 => h9) rfl dX8_undo_1 ?_
  refine lv_aload_n hx hb dX8_undo_4 rfl (lv_at hl 0 rfl) ?_
  refine va_get (D := G) (ci := 8) (v := .ref (ad 0 0)) (C := RX8) (T := TX8) (N := 6) hx hb hts hin_X8 hown hK hP 0 rfl rfl 0 (by decide) k10 (fun _ h9 => h9) rfl dX8_undo_5 ?_
  refine wr_i (ws' := [(o, LbV (ad 0 0) (ad 1 0) (ad 2 0) (ad 7 0) (ad 7 2) tk0), ((ad 0 0), StV (ad 0 1) (ad 0 2) (ad 0 3) (ad 0 4) (ad 0 5) ((S 5).2.2.2.1)), ((ad 0 1), SeV (ad 0 6) (ad 0 7) (ad 0 8)), ((ad 0 2), ThV ((S 5).2.2.2.1)), ((ad 0 3), DrV ((S 5).2.2.1) ((S 5).2.2.2.1)), ((ad 0 4), LgV (ad 0 9) ((S 5).2.2.2.1)), ((ad 0 5), TaV ((S 5).2.2.2.1)), ((ad 0 6), SpV cA ((S 5).1)), ((ad 0 7), WeV cA ((S 5).1)), ((ad 0 8), NuV cA ((S 5).2.1)), ((ad 0 9), LcV cA ((S 5).2.2.2.2)), ((ad 7 0), HiV (ad 7 1) 2), ((ad 7 1), Q4V cA (heads ad 0) (heads ad 1) (heads ad 2) (heads ad 3)), ((ad 5 0), StV (ad 5 1) (ad 5 2) (ad 5 3) (ad 5 4) (ad 5 5) ((S 5).2.2.2.1)), ((ad 5 1), SeV (ad 5 6) (ad 5 7) (ad 5 8)), ((ad 5 2), ThV ((S 5).2.2.2.1)), ((ad 5 3), DrV ((S 5).2.2.1) ((S 5).2.2.2.1)), ((ad 5 4), LgV (ad 5 9) ((S 5).2.2.2.1)), ((ad 5 5), TaV ((S 5).2.2.2.1)), ((ad 5 6), SpV cA ((S 5).1)), ((ad 5 7), WeV cA ((S 5).1)), ((ad 5 8), NuV cA ((S 5).2.1)), ((ad 5 9), LcV cA ((S 5).2.2.2.2))]) (rV (rest := []) ⟨hx, hb, hml, hown, hts⟩ (cX2_takeBack_3 l G cA (ad 7 0) (ad 7 1) (heads ad 0) (heads ad 1) (heads ad 3) (ad 5) (ad 0) ((S 5).1) ((S 0).1) ((S 5).2.1) ((S 0).2.1) ((S 5).2.2.1) ((S 0).2.2.1) ((S 5).2.2.2.1) ((S 0).2.2.2.1) ((S 5).2.2.2.2) ((S 0).2.2.2.2) (hB 5)) (cwV 1 hts gX8_undo_X2_takeBack rfl rfl rfl mdX2_takeBack ⟨Nat.le_of_ble_eq_true rfl, Nat.le_of_ble_eq_true rfl⟩) hE (hP.sub (ws' := [((ad 7 0), HiV (ad 7 1) 3), ((ad 7 1), Q4V cA (heads ad 0) (heads ad 1) (heads ad 2) (heads ad 3)), ((ad 0 0), StV (ad 0 1) (ad 0 2) (ad 0 3) (ad 0 4) (ad 0 5) ((S 0).2.2.2.1)), ((ad 0 1), SeV (ad 0 6) (ad 0 7) (ad 0 8)), ((ad 0 2), ThV ((S 0).2.2.2.1)), ((ad 0 3), DrV ((S 0).2.2.1) ((S 0).2.2.2.1)), ((ad 0 4), LgV (ad 0 9) ((S 0).2.2.2.1)), ((ad 0 5), TaV ((S 0).2.2.2.1)), ((ad 0 6), SpV cA ((S 0).1)), ((ad 0 7), WeV cA ((S 0).1)), ((ad 0 8), NuV cA ((S 0).2.1)), ((ad 0 9), LcV cA ((S 0).2.2.2.2)), ((ad 5 0), StV (ad 5 1) (ad 5 2) (ad 5 3) (ad 5 4) (ad 5 5) ((S 5).2.2.2.1)), ((ad 5 1), SeV (ad 5 6) (ad 5 7) (ad 5 8)), ((ad 5 2), ThV ((S 5).2.2.2.1)), ((ad 5 3), DrV ((S 5).2.2.1) ((S 5).2.2.2.1)), ((ad 5 4), LgV (ad 5 9) ((S 5).2.2.2.1)), ((ad 5 5), TaV ((S 5).2.2.2.1)), ((ad 5 6), SpV cA ((S 5).1)), ((ad 5 7), WeV cA ((S 5).1)), ((ad 5 8), NuV cA ((S 5).2.1)), ((ad 5 9), LcV cA ((S 5).2.2.2.2))]) [11, 12, 1, 2, 3, 4, 5, 6, 7, 8, 9, 10, 13, 14, 15, 16, 17, 18, 19, 20, 21, 22] rfl) (hD.sub (ws' := [((ad 7 0), HiV (ad 7 1) 3), ((ad 7 1), Q4V cA (heads ad 0) (heads ad 1) (heads ad 2) (heads ad 3)), ((ad 0 0), StV (ad 0 1) (ad 0 2) (ad 0 3) (ad 0 4) (ad 0 5) ((S 0).2.2.2.1)), ((ad 0 1), SeV (ad 0 6) (ad 0 7) (ad 0 8)), ((ad 0 2), ThV ((S 0).2.2.2.1)), ((ad 0 3), DrV ((S 0).2.2.1) ((S 0).2.2.2.1)), ((ad 0 4), LgV (ad 0 9) ((S 0).2.2.2.1)), ((ad 0 5), TaV ((S 0).2.2.2.1)), ((ad 0 6), SpV cA ((S 0).1)), ((ad 0 7), WeV cA ((S 0).1)), ((ad 0 8), NuV cA ((S 0).2.1)), ((ad 0 9), LcV cA ((S 0).2.2.2.2)), ((ad 5 0), StV (ad 5 1) (ad 5 2) (ad 5 3) (ad 5 4) (ad 5 5) ((S 5).2.2.2.1)), ((ad 5 1), SeV (ad 5 6) (ad 5 7) (ad 5 8)), ((ad 5 2), ThV ((S 5).2.2.2.1)), ((ad 5 3), DrV ((S 5).2.2.1) ((S 5).2.2.2.1)), ((ad 5 4), LgV (ad 5 9) ((S 5).2.2.2.1)), ((ad 5 5), TaV ((S 5).2.2.2.1)), ((ad 5 6), SpV cA ((S 5).1)), ((ad 5 7), WeV cA ((S 5).1)), ((ad 5 8), NuV cA ((S 5).2.1)), ((ad 5 9), LcV cA ((S 5).2.2.2.2))]) [11, 12, 1, 2, 3, 4, 5, 6, 7, 8, 9, 10, 13, 14, 15, 16, 17, 18, 19, 20, 21, 22] (by decide) rfl) (q0 := 0) (ci := 2) rfl rfl rfl hl rfl (Nat.le_of_ble_eq_true rfl) dX8_undo_8 ⟨Nat.le_of_ble_eq_true rfl, Nat.le_of_ble_eq_true rfl⟩) hS hP hD [11, 12, 1, 2, 3, 4, 5, 6, 7, 8, 9, 10, 13, 14, 15, 16, 17, 18, 19, 20, 21, 22] rfl rfl [0] [(o, LbV (ad 0 0) (ad 1 0) (ad 2 0) (ad 7 0) (ad 7 2) tk0)] rfl rfl rfl rfl (fun r_8 H locs hr_8 hP hD hS => ?_)
  subst hr_8
  refine lv_if_eq (tgt := 24) hx hb dX8_undo_11 (by decide) (fun h9 => absurd h9 (by decide)) (fun _ => ?_)
  refine lv_aload_n hx hb dX8_undo_14 rfl (lv_at hl 0 rfl) ?_
  refine va_get (D := G) (ci := 8) (v := .ref (ad 7 0)) (C := RX8) (T := TX8) (N := 6) hx hb hts hin_X8 hown hK hP 0 rfl rfl 3 (by decide) k25 (fun _ h9 => h9) rfl dX8_undo_15 ?_
  refine va_get (D := G) (ci := 2) (v := .int 2) (C := RX2) (T := TX2) (N := 2) hx hb hts hin_X2 hown hK hP 11 rfl rfl 1 (by decide) k135 (fun _ h9 => h9) rfl dX8_undo_18 ?_
  refine lv_goto (tgt := 26) hx hb dX8_undo_21 (by decide) ?_
  exact en_wi hx hb hr rfl hlocks hS rfl hP dX8_undo_26
set_option maxHeartbeats 4000000 in
set_option maxRecDepth 100000 in
/-- undo(), with 4 states there -/
theorem cX8_undo_4 (l : Launch) (G : va_G) (cA : Nat → ClassId) (o : Nat) (ad : Nat → Nat → Nat) (tk0 : Int32) (S : Nat → CT5) (hB : AllB S) : Wi l yX8_undo wsX8_undo ({ frames := 3, cells := 0, slots := 0, locals := 64 } : Room) G cA [.ref o] [(o, LbV (ad 0 0) (ad 1 0) (ad 2 0) (ad 7 0) (ad 7 2) tk0), ((ad 0 0), StV (ad 0 1) (ad 0 2) (ad 0 3) (ad 0 4) (ad 0 5) ((S 0).2.2.2.1)), ((ad 0 1), SeV (ad 0 6) (ad 0 7) (ad 0 8)), ((ad 0 2), ThV ((S 0).2.2.2.1)), ((ad 0 3), DrV ((S 0).2.2.1) ((S 0).2.2.2.1)), ((ad 0 4), LgV (ad 0 9) ((S 0).2.2.2.1)), ((ad 0 5), TaV ((S 0).2.2.2.1)), ((ad 0 6), SpV cA ((S 0).1)), ((ad 0 7), WeV cA ((S 0).1)), ((ad 0 8), NuV cA ((S 0).2.1)), ((ad 0 9), LcV cA ((S 0).2.2.2.2)), ((ad 7 0), HiV (ad 7 1) 4), ((ad 7 1), Q4V cA (heads ad 0) (heads ad 1) (heads ad 2) (heads ad 3)), ((ad 6 0), StV (ad 6 1) (ad 6 2) (ad 6 3) (ad 6 4) (ad 6 5) ((S 6).2.2.2.1)), ((ad 6 1), SeV (ad 6 6) (ad 6 7) (ad 6 8)), ((ad 6 2), ThV ((S 6).2.2.2.1)), ((ad 6 3), DrV ((S 6).2.2.1) ((S 6).2.2.2.1)), ((ad 6 4), LgV (ad 6 9) ((S 6).2.2.2.1)), ((ad 6 5), TaV ((S 6).2.2.2.1)), ((ad 6 6), SpV cA ((S 6).1)), ((ad 6 7), WeV cA ((S 6).1)), ((ad 6 8), NuV cA ((S 6).2.1)), ((ad 6 9), LcV cA ((S 6).2.2.2.2))] (fun r => r = 3) ([(o, LbV (ad 0 0) (ad 1 0) (ad 2 0) (ad 7 0) (ad 7 2) tk0)] ++ (blk cA ad 0 (S 6) ++ ([(ad 7 0, HiV (ad 7 1) 3), (ad 7 1, Q4V cA (heads ad 0) (heads ad 1) (heads ad 2) (heads ad 3))] ++ blk cA ad 6 (S 6)))) := by
  refine ofW2 (cc := cX8_undo) (maxL := 1) (ret := (some .int)) (own := RX8) (by decide) rfl rfl (Nat.le_of_ble_eq_true rfl) rfl ?_
  intro p e s m below meth c ls hx hb hml hr hts hown hlocks hv hl
  obtain ⟨hP, hE, hD0⟩ := hv
  have hK := hE.1
  have hD := dself hD0
  generalize hH0 : s.heap = H at hP ⊢
  have hS : va_S (inW [(o, LbV (ad 0 0) (ad 1 0) (ad 2 0) (ad 7 0) (ad 7 2) tk0), ((ad 0 0), StV (ad 0 1) (ad 0 2) (ad 0 3) (ad 0 4) (ad 0 5) ((S 0).2.2.2.1)), ((ad 0 1), SeV (ad 0 6) (ad 0 7) (ad 0 8)), ((ad 0 2), ThV ((S 0).2.2.2.1)), ((ad 0 3), DrV ((S 0).2.2.1) ((S 0).2.2.2.1)), ((ad 0 4), LgV (ad 0 9) ((S 0).2.2.2.1)), ((ad 0 5), TaV ((S 0).2.2.2.1)), ((ad 0 6), SpV cA ((S 0).1)), ((ad 0 7), WeV cA ((S 0).1)), ((ad 0 8), NuV cA ((S 0).2.1)), ((ad 0 9), LcV cA ((S 0).2.2.2.2)), ((ad 7 0), HiV (ad 7 1) 4), ((ad 7 1), Q4V cA (heads ad 0) (heads ad 1) (heads ad 2) (heads ad 3)), ((ad 6 0), StV (ad 6 1) (ad 6 2) (ad 6 3) (ad 6 4) (ad 6 5) ((S 6).2.2.2.1)), ((ad 6 1), SeV (ad 6 6) (ad 6 7) (ad 6 8)), ((ad 6 2), ThV ((S 6).2.2.2.1)), ((ad 6 3), DrV ((S 6).2.2.1) ((S 6).2.2.2.1)), ((ad 6 4), LgV (ad 6 9) ((S 6).2.2.2.1)), ((ad 6 5), TaV ((S 6).2.2.2.1)), ((ad 6 6), SpV cA ((S 6).1)), ((ad 6 7), WeV cA ((S 6).1)), ((ad 6 8), NuV cA ((S 6).2.1)), ((ad 6 9), LcV cA ((S 6).2.2.2.2))]) s.heap H [] := hH0 ▸ va_S.rf
  generalize ([] : List Loc) = locs at hS ⊢
  clear hH0 hD0
  replace hl : lv_has ls 1 [(0, .ref o)] := hl
  have hin_X8 : ∀ q ∈ u_ws RX8 TX8 6, q ∈ wsX8_undo := by decide +kernel
  have hin_X2 : ∀ q ∈ u_ws RX2 TX2 2, q ∈ wsX8_undo := by decide +kernel
  have k25 := hts (.fieldLink RX8 25 "LiftBeams" "history" "LLiftBeams$History;") (by decide +kernel)
  have k10 := hts (.fieldLink RX8 10 "LiftBeams" "now" "LLiftBeams$State;") (by decide +kernel)
  have k135 := hts (.fieldLink RX8 135 "LiftBeams$History" "size" "I") (by decide +kernel)
  refine lv_aload_n hx hb dX8_undo_0 rfl (lv_at hl 0 rfl) ?_
  refine va_get (D := G) (ci := 8) (v := .ref (ad 7 0)) (C := RX8) (T := TX8) (N := 6) hx hb hts hin_X8 hown hK hP 0 rfl rfl 3 (by decide) k25 (fun _ h9 => h9) rfl dX8_undo_1 ?_
  refine lv_aload_n hx hb dX8_undo_4 rfl (lv_at hl 0 rfl) ?_
  refine va_get (D := G) (ci := 8) (v := .ref (ad 0 0)) (C := RX8) (T := TX8) (N := 6) hx hb hts hin_X8 hown hK hP 0 rfl rfl 0 (by decide) k10 (fun _ h9 => h9) rfl dX8_undo_5 ?_
  refine wr_i (ws' := [(o, LbV (ad 0 0) (ad 1 0) (ad 2 0) (ad 7 0) (ad 7 2) tk0), ((ad 0 0), StV (ad 0 1) (ad 0 2) (ad 0 3) (ad 0 4) (ad 0 5) ((S 6).2.2.2.1)), ((ad 0 1), SeV (ad 0 6) (ad 0 7) (ad 0 8)), ((ad 0 2), ThV ((S 6).2.2.2.1)), ((ad 0 3), DrV ((S 6).2.2.1) ((S 6).2.2.2.1)), ((ad 0 4), LgV (ad 0 9) ((S 6).2.2.2.1)), ((ad 0 5), TaV ((S 6).2.2.2.1)), ((ad 0 6), SpV cA ((S 6).1)), ((ad 0 7), WeV cA ((S 6).1)), ((ad 0 8), NuV cA ((S 6).2.1)), ((ad 0 9), LcV cA ((S 6).2.2.2.2)), ((ad 7 0), HiV (ad 7 1) 3), ((ad 7 1), Q4V cA (heads ad 0) (heads ad 1) (heads ad 2) (heads ad 3)), ((ad 6 0), StV (ad 6 1) (ad 6 2) (ad 6 3) (ad 6 4) (ad 6 5) ((S 6).2.2.2.1)), ((ad 6 1), SeV (ad 6 6) (ad 6 7) (ad 6 8)), ((ad 6 2), ThV ((S 6).2.2.2.1)), ((ad 6 3), DrV ((S 6).2.2.1) ((S 6).2.2.2.1)), ((ad 6 4), LgV (ad 6 9) ((S 6).2.2.2.1)), ((ad 6 5), TaV ((S 6).2.2.2.1)), ((ad 6 6), SpV cA ((S 6).1)), ((ad 6 7), WeV cA ((S 6).1)), ((ad 6 8), NuV cA ((S 6).2.1)), ((ad 6 9), LcV cA ((S 6).2.2.2.2))]) (rV (rest := []) ⟨hx, hb, hml, hown, hts⟩ (cX2_takeBack_4 l G cA (ad 7 0) (ad 7 1) (heads ad 0) (heads ad 1) (heads ad 2) (ad 6) (ad 0) ((S 6).1) ((S 0).1) ((S 6).2.1) ((S 0).2.1) ((S 6).2.2.1) ((S 0).2.2.1) ((S 6).2.2.2.1) ((S 0).2.2.2.1) ((S 6).2.2.2.2) ((S 0).2.2.2.2) (hB 6)) (cwV 1 hts gX8_undo_X2_takeBack rfl rfl rfl mdX2_takeBack ⟨Nat.le_of_ble_eq_true rfl, Nat.le_of_ble_eq_true rfl⟩) hE (hP.sub (ws' := [((ad 7 0), HiV (ad 7 1) 4), ((ad 7 1), Q4V cA (heads ad 0) (heads ad 1) (heads ad 2) (heads ad 3)), ((ad 0 0), StV (ad 0 1) (ad 0 2) (ad 0 3) (ad 0 4) (ad 0 5) ((S 0).2.2.2.1)), ((ad 0 1), SeV (ad 0 6) (ad 0 7) (ad 0 8)), ((ad 0 2), ThV ((S 0).2.2.2.1)), ((ad 0 3), DrV ((S 0).2.2.1) ((S 0).2.2.2.1)), ((ad 0 4), LgV (ad 0 9) ((S 0).2.2.2.1)), ((ad 0 5), TaV ((S 0).2.2.2.1)), ((ad 0 6), SpV cA ((S 0).1)), ((ad 0 7), WeV cA ((S 0).1)), ((ad 0 8), NuV cA ((S 0).2.1)), ((ad 0 9), LcV cA ((S 0).2.2.2.2)), ((ad 6 0), StV (ad 6 1) (ad 6 2) (ad 6 3) (ad 6 4) (ad 6 5) ((S 6).2.2.2.1)), ((ad 6 1), SeV (ad 6 6) (ad 6 7) (ad 6 8)), ((ad 6 2), ThV ((S 6).2.2.2.1)), ((ad 6 3), DrV ((S 6).2.2.1) ((S 6).2.2.2.1)), ((ad 6 4), LgV (ad 6 9) ((S 6).2.2.2.1)), ((ad 6 5), TaV ((S 6).2.2.2.1)), ((ad 6 6), SpV cA ((S 6).1)), ((ad 6 7), WeV cA ((S 6).1)), ((ad 6 8), NuV cA ((S 6).2.1)), ((ad 6 9), LcV cA ((S 6).2.2.2.2))]) [11, 12, 1, 2, 3, 4, 5, 6, 7, 8, 9, 10, 13, 14, 15, 16, 17, 18, 19, 20, 21, 22] rfl) (hD.sub (ws' := [((ad 7 0), HiV (ad 7 1) 4), ((ad 7 1), Q4V cA (heads ad 0) (heads ad 1) (heads ad 2) (heads ad 3)), ((ad 0 0), StV (ad 0 1) (ad 0 2) (ad 0 3) (ad 0 4) (ad 0 5) ((S 0).2.2.2.1)), ((ad 0 1), SeV (ad 0 6) (ad 0 7) (ad 0 8)), ((ad 0 2), ThV ((S 0).2.2.2.1)), ((ad 0 3), DrV ((S 0).2.2.1) ((S 0).2.2.2.1)), ((ad 0 4), LgV (ad 0 9) ((S 0).2.2.2.1)), ((ad 0 5), TaV ((S 0).2.2.2.1)), ((ad 0 6), SpV cA ((S 0).1)), ((ad 0 7), WeV cA ((S 0).1)), ((ad 0 8), NuV cA ((S 0).2.1)), ((ad 0 9), LcV cA ((S 0).2.2.2.2)), ((ad 6 0), StV (ad 6 1) (ad 6 2) (ad 6 3) (ad 6 4) (ad 6 5) ((S 6).2.2.2.1)), ((ad 6 1), SeV (ad 6 6) (ad 6 7) (ad 6 8)), ((ad 6 2), ThV ((S 6).2.2.2.1)), ((ad 6 3), DrV ((S 6).2.2.1) ((S 6).2.2.2.1)), ((ad 6 4), LgV (ad 6 9) ((S 6).2.2.2.1)), ((ad 6 5), TaV ((S 6).2.2.2.1)), ((ad 6 6), SpV cA ((S 6).1)), ((ad 6 7), WeV cA ((S 6).1)), ((ad 6 8), NuV cA ((S 6).2.1)), ((ad 6 9), LcV cA ((S 6).2.2.2.2))]) [11, 12, 1, 2, 3, 4, 5, 6, 7, 8, 9, 10, 13, 14, 15, 16, 17, 18, 19, 20, 21, 22] (by decide) rfl) (q0 := 0) (ci := 2) rfl rfl rfl hl rfl (Nat.le_of_ble_eq_true rfl) dX8_undo_8 ⟨Nat.le_of_ble_eq_true rfl, Nat.le_of_ble_eq_true rfl⟩) hS hP hD [11, 12, 1, 2, 3, 4, 5, 6, 7, 8, 9, 10, 13, 14, 15, 16, 17, 18, 19, 20, 21, 22] rfl rfl [0] [(o, LbV (ad 0 0) (ad 1 0) (ad 2 0) (ad 7 0) (ad 7 2) tk0)] rfl rfl rfl rfl (fun r_8 H locs hr_8 hP hD hS => ?_)
  subst hr_8
  refine lv_if_eq (tgt := 24) hx hb dX8_undo_11 (by decide) (fun h9 => absurd h9 (by decide)) (fun _ => ?_)
  refine lv_aload_n hx hb dX8_undo_14 rfl (lv_at hl 0 rfl) ?_
  refine va_get (D := G) (ci := 8) (v := .ref (ad 7 0)) (C := RX8) (T := TX8) (N := 6) hx hb hts hin_X8 hown hK hP 0 rfl rfl 3 (by decide) k25 (fun _ h9 => h9) rfl dX8_undo_15 ?_
  refine va_get (D := G) (ci := 2) (v := .int 3) (C := RX2) (T := TX2) (N := 2) hx hb hts hin_X2 hown hK hP 11 rfl rfl 1 (by decide) k135 (fun _ h9 => h9) rfl dX8_undo_18 ?_
  refine lv_goto (tgt := 26) hx hb dX8_undo_21 (by decide) ?_
  exact en_wi hx hb hr rfl hlocks hS rfl hP dX8_undo_26
set_option maxHeartbeats 4000000 in
set_option maxRecDepth 100000 in
/-- readBeams() of a text with a fault -/
theorem cX8_readBeams_0 (l : Launch) (G : va_G) (cA : Nat → ClassId) (o : Nat) (ad : Nat → Nat → Nat) (tk0 p0 : Int32) (ch bm tk : GG)  : Wi l yX8_readBeams wsX8_readBeams ({ frames := 3, cells := 0, slots := 0, locals := 65 } : Room) G cA [.ref o] [(o, LbV (ad 0 0) (ad 1 0) (ad 2 0) (ad 7 0) (ad 7 2) tk0), ((ad 7 2), TxV (ad 7 3) (ad 7 4) (ad 7 5) 0 p0), ((ad 7 3), .inl (cA 2, 60, .inl ch)), ((ad 7 4), .inl (cA 1, 60, .inl bm)), ((ad 7 5), .inl (cA 1, 60, .inl tk))] (fun r => r = -100) [(o, LbV (ad 0 0) (ad 1 0) (ad 2 0) (ad 7 0) (ad 7 2) tk0), (ad 7 2, TxV (ad 7 3) (ad 7 4) (ad 7 5) 0 0), (ad 7 3, .inl (cA 2, 60, .inl ch)), (ad 7 4, .inl (cA 1, 60, .inl bm)), (ad 7 5, .inl (cA 1, 60, .inl tk))] := by
  refine ofW2 (cc := cX8_readBeams) (maxL := 4) (ret := (some .int)) (own := RX8) (by decide) rfl rfl (Nat.le_of_ble_eq_true rfl) rfl ?_
  intro p e s m below meth c ls hx hb hml hr hts hown hlocks hv hl
  obtain ⟨hP, hE, hD0⟩ := hv
  have hK := hE.1
  have hD := dself hD0
  generalize hH0 : s.heap = H at hP ⊢
  have hS : va_S (inW [(o, LbV (ad 0 0) (ad 1 0) (ad 2 0) (ad 7 0) (ad 7 2) tk0), ((ad 7 2), TxV (ad 7 3) (ad 7 4) (ad 7 5) 0 p0), ((ad 7 3), .inl (cA 2, 60, .inl ch)), ((ad 7 4), .inl (cA 1, 60, .inl bm)), ((ad 7 5), .inl (cA 1, 60, .inl tk))]) s.heap H [] := hH0 ▸ va_S.rf
  generalize ([] : List Loc) = locs at hS ⊢
  clear hH0 hD0
  replace hl : lv_has ls 4 [(0, .ref o)] := hl
  have hin_X8 : ∀ q ∈ u_ws RX8 TX8 6, q ∈ wsX8_readBeams := by decide +kernel
  have hin_X5 : ∀ q ∈ u_ws RX5 TX5 6, q ∈ wsX8_readBeams := by decide +kernel
  have hin_X0 : ∀ q ∈ u_ws RX0 TX0 5, q ∈ wsX8_readBeams := by decide +kernel
  have k32 := hts (.fieldLink RX8 32 "LiftBeams" "text" "LLiftBeams$BeamText;") (by decide +kernel)
  have k10 := hts (.fieldLink RX8 10 "LiftBeams" "now" "LLiftBeams$State;") (by decide +kernel)
  have k101 := hts (.fieldLink RX8 101 "LiftBeams$State" "tick" "I") (by decide +kernel)
  have k25 := hts (.fieldLink RX8 25 "LiftBeams" "history" "LLiftBeams$History;") (by decide +kernel)
  have k115 := hts (.fieldLink RX8 115 "LiftBeams$BeamText" "parts" "I") (by decide +kernel)
  refine lv_aload_n hx hb dX8_readBeams_0 rfl (lv_at hl 0 rfl) ?_
  refine va_get (D := G) (ci := 8) (v := .ref (ad 7 2)) (C := RX8) (T := TX8) (N := 6) hx hb hts hin_X8 hown hK hP 0 rfl rfl 4 (by decide) k32 (fun _ h9 => h9) rfl dX8_readBeams_1 ?_
  refine wr_i (ws' := [(o, LbV (ad 0 0) (ad 1 0) (ad 2 0) (ad 7 0) (ad 7 2) tk0), ((ad 7 2), TxV (ad 7 3) (ad 7 4) (ad 7 5) 0 0), ((ad 7 3), .inl (cA 2, 60, .inl ch)), ((ad 7 4), .inl (cA 1, 60, .inl bm)), ((ad 7 5), .inl (cA 1, 60, .inl tk))]) (rV (rest := []) ⟨hx, hb, hml, hown, hts⟩ (cX0_parse_0 l G cA (ad 7 2) (ad 7 3) (ad 7 4) (ad 7 5) p0 ch bm tk ) (cwV 0 hts gX8_readBeams_X0_parse rfl rfl rfl mdX0_parse ⟨Nat.le_of_ble_eq_true rfl, Nat.le_of_ble_eq_true rfl⟩) hE (hP.sub (ws' := [((ad 7 2), TxV (ad 7 3) (ad 7 4) (ad 7 5) 0 p0), ((ad 7 3), .inl (cA 2, 60, .inl ch)), ((ad 7 4), .inl (cA 1, 60, .inl bm)), ((ad 7 5), .inl (cA 1, 60, .inl tk))]) [1, 2, 3, 4] rfl) (hD.sub (ws' := [((ad 7 2), TxV (ad 7 3) (ad 7 4) (ad 7 5) 0 p0), ((ad 7 3), .inl (cA 2, 60, .inl ch)), ((ad 7 4), .inl (cA 1, 60, .inl bm)), ((ad 7 5), .inl (cA 1, 60, .inl tk))]) [1, 2, 3, 4] (by decide) rfl) (q0 := 0) (ci := 0) rfl rfl rfl hl rfl (Nat.le_of_ble_eq_true rfl) dX8_readBeams_4 ⟨Nat.le_of_ble_eq_true rfl, Nat.le_of_ble_eq_true rfl⟩) hS hP hD [1, 2, 3, 4] rfl rfl [0] [(o, LbV (ad 0 0) (ad 1 0) (ad 2 0) (ad 7 0) (ad 7 2) tk0)] rfl rfl rfl rfl (fun r_4 H locs hr_4 hP hD hS => ?_)
  subst hr_4
  refine lv_istore_n (lv' := [(1, .int 0), (0, .ref o)]) hx hb dX8_readBeams_7 rfl hl (by decide) rfl (fun ls hl => ?_)
  refine lv_iload_n hx hb dX8_readBeams_8 rfl (lv_at hl 0 rfl) ?_
  refine lv_iconst (v := (-1)) hx hb dX8_readBeams_9 (by decide) ?_
  refine lv_icmp_eq (tgt := 18) hx hb dX8_readBeams_10 (by decide) (fun h9 => absurd h9 (by decide)) (fun _ => ?_)
  refine lv_bipush (v := (-100)) hx hb dX8_readBeams_13 (by decide) ?_
  refine lv_iload_n hx hb dX8_readBeams_15 rfl (lv_at hl 0 rfl) ?_
  refine lv_isub hx hb dX8_readBeams_16 ?_
  refine W.eq (g2 := F0 m 17 ls [.int (-100)]) rfl ?_
  exact en_wi hx hb hr rfl hlocks hS rfl hP dX8_readBeams_17
set_option maxHeartbeats 4000000 in
set_option maxRecDepth 100000 in
/-- readBeams() of a text with a fault -/
theorem cX8_readBeams_3 (l : Launch) (G : va_G) (cA : Nat → ClassId) (o : Nat) (ad : Nat → Nat → Nat) (tk0 p0 : Int32) (ch bm tk : GG) (e0 : ch 0 = 55) (e1 : ch 1 = 42) (e2 : ch 2 = 48) : Wi l yX8_readBeams wsX8_readBeams ({ frames := 3, cells := 0, slots := 0, locals := 65 } : Room) G cA [.ref o] [(o, LbV (ad 0 0) (ad 1 0) (ad 2 0) (ad 7 0) (ad 7 2) tk0), ((ad 7 2), TxV (ad 7 3) (ad 7 4) (ad 7 5) 3 p0), ((ad 7 3), .inl (cA 2, 60, .inl ch)), ((ad 7 4), .inl (cA 1, 60, .inl bm)), ((ad 7 5), .inl (cA 1, 60, .inl tk))] (fun r => r = -102) [(o, LbV (ad 0 0) (ad 1 0) (ad 2 0) (ad 7 0) (ad 7 2) tk0), (ad 7 2, TxV (ad 7 3) (ad 7 4) (ad 7 5) 3 1), (ad 7 3, .inl (cA 2, 60, .inl ch)), (ad 7 4, .inl (cA 1, 60, .inl (upd bm 0 (ch 0 - 48)))), (ad 7 5, .inl (cA 1, 60, .inl (upd tk 0 1)))] := by
  refine ofW2 (cc := cX8_readBeams) (maxL := 4) (ret := (some .int)) (own := RX8) (by decide) rfl rfl (Nat.le_of_ble_eq_true rfl) rfl ?_
  intro p e s m below meth c ls hx hb hml hr hts hown hlocks hv hl
  obtain ⟨hP, hE, hD0⟩ := hv
  have hK := hE.1
  have hD := dself hD0
  generalize hH0 : s.heap = H at hP ⊢
  have hS : va_S (inW [(o, LbV (ad 0 0) (ad 1 0) (ad 2 0) (ad 7 0) (ad 7 2) tk0), ((ad 7 2), TxV (ad 7 3) (ad 7 4) (ad 7 5) 3 p0), ((ad 7 3), .inl (cA 2, 60, .inl ch)), ((ad 7 4), .inl (cA 1, 60, .inl bm)), ((ad 7 5), .inl (cA 1, 60, .inl tk))]) s.heap H [] := hH0 ▸ va_S.rf
  generalize ([] : List Loc) = locs at hS ⊢
  clear hH0 hD0
  replace hl : lv_has ls 4 [(0, .ref o)] := hl
  have hin_X8 : ∀ q ∈ u_ws RX8 TX8 6, q ∈ wsX8_readBeams := by decide +kernel
  have hin_X5 : ∀ q ∈ u_ws RX5 TX5 6, q ∈ wsX8_readBeams := by decide +kernel
  have hin_X0 : ∀ q ∈ u_ws RX0 TX0 5, q ∈ wsX8_readBeams := by decide +kernel
  have k32 := hts (.fieldLink RX8 32 "LiftBeams" "text" "LLiftBeams$BeamText;") (by decide +kernel)
  have k10 := hts (.fieldLink RX8 10 "LiftBeams" "now" "LLiftBeams$State;") (by decide +kernel)
  have k101 := hts (.fieldLink RX8 101 "LiftBeams$State" "tick" "I") (by decide +kernel)
  have k25 := hts (.fieldLink RX8 25 "LiftBeams" "history" "LLiftBeams$History;") (by decide +kernel)
  have k115 := hts (.fieldLink RX8 115 "LiftBeams$BeamText" "parts" "I") (by decide +kernel)
  refine lv_aload_n hx hb dX8_readBeams_0 rfl (lv_at hl 0 rfl) ?_
  refine va_get (D := G) (ci := 8) (v := .ref (ad 7 2)) (C := RX8) (T := TX8) (N := 6) hx hb hts hin_X8 hown hK hP 0 rfl rfl 4 (by decide) k32 (fun _ h9 => h9) rfl dX8_readBeams_1 ?_
  refine wr_i (ws' := [(o, LbV (ad 0 0) (ad 1 0) (ad 2 0) (ad 7 0) (ad 7 2) tk0), ((ad 7 2), TxV (ad 7 3) (ad 7 4) (ad 7 5) 3 1), ((ad 7 3), .inl (cA 2, 60, .inl ch)), ((ad 7 4), .inl (cA 1, 60, .inl (upd bm 0 (ch 0 - 48)))), ((ad 7 5), .inl (cA 1, 60, .inl (upd tk 0 1)))]) (rV (rest := []) ⟨hx, hb, hml, hown, hts⟩ (cX0_parse_3 l G cA (ad 7 2) (ad 7 3) (ad 7 4) (ad 7 5) p0 ch bm tk e0 e1 e2) (cwV 0 hts gX8_readBeams_X0_parse rfl rfl rfl mdX0_parse ⟨Nat.le_of_ble_eq_true rfl, Nat.le_of_ble_eq_true rfl⟩) hE (hP.sub (ws' := [((ad 7 2), TxV (ad 7 3) (ad 7 4) (ad 7 5) 3 p0), ((ad 7 3), .inl (cA 2, 60, .inl ch)), ((ad 7 4), .inl (cA 1, 60, .inl bm)), ((ad 7 5), .inl (cA 1, 60, .inl tk))]) [1, 2, 3, 4] rfl) (hD.sub (ws' := [((ad 7 2), TxV (ad 7 3) (ad 7 4) (ad 7 5) 3 p0), ((ad 7 3), .inl (cA 2, 60, .inl ch)), ((ad 7 4), .inl (cA 1, 60, .inl bm)), ((ad 7 5), .inl (cA 1, 60, .inl tk))]) [1, 2, 3, 4] (by decide) rfl) (q0 := 0) (ci := 0) rfl rfl rfl hl rfl (Nat.le_of_ble_eq_true rfl) dX8_readBeams_4 ⟨Nat.le_of_ble_eq_true rfl, Nat.le_of_ble_eq_true rfl⟩) hS hP hD [1, 2, 3, 4] rfl rfl [0] [(o, LbV (ad 0 0) (ad 1 0) (ad 2 0) (ad 7 0) (ad 7 2) tk0)] rfl rfl rfl rfl (fun r_4 H locs hr_4 hP hD hS => ?_)
  subst hr_4
  refine lv_istore_n (lv' := [(1, .int 2), (0, .ref o)]) hx hb dX8_readBeams_7 rfl hl (by decide) rfl (fun ls hl => ?_)
  refine lv_iload_n hx hb dX8_readBeams_8 rfl (lv_at hl 0 rfl) ?_
  refine lv_iconst (v := (-1)) hx hb dX8_readBeams_9 (by decide) ?_
  refine lv_icmp_eq (tgt := 18) hx hb dX8_readBeams_10 (by decide) (fun h9 => absurd h9 (by decide)) (fun _ => ?_)
  refine lv_bipush (v := (-100)) hx hb dX8_readBeams_13 (by decide) ?_
  refine lv_iload_n hx hb dX8_readBeams_15 rfl (lv_at hl 0 rfl) ?_
  refine lv_isub hx hb dX8_readBeams_16 ?_
  refine W.eq (g2 := F0 m 17 ls [.int (-102)]) rfl ?_
  exact en_wi hx hb hr rfl hlocks hS rfl hP dX8_readBeams_17
set_option maxHeartbeats 4000000 in
set_option maxRecDepth 100000 in
/-- readBeams() of a text with a fault -/
theorem cX8_readBeams_2 (l : Launch) (G : va_G) (cA : Nat → ClassId) (o : Nat) (ad : Nat → Nat → Nat) (tk0 p0 : Int32) (ch bm tk : GG) (e0 : ch 0 = 55) (e1 : ch 1 = 56) : Wi l yX8_readBeams wsX8_readBeams ({ frames := 3, cells := 0, slots := 0, locals := 65 } : Room) G cA [.ref o] [(o, LbV (ad 0 0) (ad 1 0) (ad 2 0) (ad 7 0) (ad 7 2) tk0), ((ad 7 2), TxV (ad 7 3) (ad 7 4) (ad 7 5) 2 p0), ((ad 7 3), .inl (cA 2, 60, .inl ch)), ((ad 7 4), .inl (cA 1, 60, .inl bm)), ((ad 7 5), .inl (cA 1, 60, .inl tk))] (fun r => r = -101) [(o, LbV (ad 0 0) (ad 1 0) (ad 2 0) (ad 7 0) (ad 7 2) tk0), (ad 7 2, TxV (ad 7 3) (ad 7 4) (ad 7 5) 2 1), (ad 7 3, .inl (cA 2, 60, .inl ch)), (ad 7 4, .inl (cA 1, 60, .inl (upd bm 0 (ch 0 - 48)))), (ad 7 5, .inl (cA 1, 60, .inl (upd tk 0 1)))] := by
  refine ofW2 (cc := cX8_readBeams) (maxL := 4) (ret := (some .int)) (own := RX8) (by decide) rfl rfl (Nat.le_of_ble_eq_true rfl) rfl ?_
  intro p e s m below meth c ls hx hb hml hr hts hown hlocks hv hl
  obtain ⟨hP, hE, hD0⟩ := hv
  have hK := hE.1
  have hD := dself hD0
  generalize hH0 : s.heap = H at hP ⊢
  have hS : va_S (inW [(o, LbV (ad 0 0) (ad 1 0) (ad 2 0) (ad 7 0) (ad 7 2) tk0), ((ad 7 2), TxV (ad 7 3) (ad 7 4) (ad 7 5) 2 p0), ((ad 7 3), .inl (cA 2, 60, .inl ch)), ((ad 7 4), .inl (cA 1, 60, .inl bm)), ((ad 7 5), .inl (cA 1, 60, .inl tk))]) s.heap H [] := hH0 ▸ va_S.rf
  generalize ([] : List Loc) = locs at hS ⊢
  clear hH0 hD0
  replace hl : lv_has ls 4 [(0, .ref o)] := hl
  have hin_X8 : ∀ q ∈ u_ws RX8 TX8 6, q ∈ wsX8_readBeams := by decide +kernel
  have hin_X5 : ∀ q ∈ u_ws RX5 TX5 6, q ∈ wsX8_readBeams := by decide +kernel
  have hin_X0 : ∀ q ∈ u_ws RX0 TX0 5, q ∈ wsX8_readBeams := by decide +kernel
  have k32 := hts (.fieldLink RX8 32 "LiftBeams" "text" "LLiftBeams$BeamText;") (by decide +kernel)
  have k10 := hts (.fieldLink RX8 10 "LiftBeams" "now" "LLiftBeams$State;") (by decide +kernel)
  have k101 := hts (.fieldLink RX8 101 "LiftBeams$State" "tick" "I") (by decide +kernel)
  have k25 := hts (.fieldLink RX8 25 "LiftBeams" "history" "LLiftBeams$History;") (by decide +kernel)
  have k115 := hts (.fieldLink RX8 115 "LiftBeams$BeamText" "parts" "I") (by decide +kernel)
  refine lv_aload_n hx hb dX8_readBeams_0 rfl (lv_at hl 0 rfl) ?_
  refine va_get (D := G) (ci := 8) (v := .ref (ad 7 2)) (C := RX8) (T := TX8) (N := 6) hx hb hts hin_X8 hown hK hP 0 rfl rfl 4 (by decide) k32 (fun _ h9 => h9) rfl dX8_readBeams_1 ?_
  refine wr_i (ws' := [(o, LbV (ad 0 0) (ad 1 0) (ad 2 0) (ad 7 0) (ad 7 2) tk0), ((ad 7 2), TxV (ad 7 3) (ad 7 4) (ad 7 5) 2 1), ((ad 7 3), .inl (cA 2, 60, .inl ch)), ((ad 7 4), .inl (cA 1, 60, .inl (upd bm 0 (ch 0 - 48)))), ((ad 7 5), .inl (cA 1, 60, .inl (upd tk 0 1)))]) (rV (rest := []) ⟨hx, hb, hml, hown, hts⟩ (cX0_parse_2 l G cA (ad 7 2) (ad 7 3) (ad 7 4) (ad 7 5) p0 ch bm tk e0 e1) (cwV 0 hts gX8_readBeams_X0_parse rfl rfl rfl mdX0_parse ⟨Nat.le_of_ble_eq_true rfl, Nat.le_of_ble_eq_true rfl⟩) hE (hP.sub (ws' := [((ad 7 2), TxV (ad 7 3) (ad 7 4) (ad 7 5) 2 p0), ((ad 7 3), .inl (cA 2, 60, .inl ch)), ((ad 7 4), .inl (cA 1, 60, .inl bm)), ((ad 7 5), .inl (cA 1, 60, .inl tk))]) [1, 2, 3, 4] rfl) (hD.sub (ws' := [((ad 7 2), TxV (ad 7 3) (ad 7 4) (ad 7 5) 2 p0), ((ad 7 3), .inl (cA 2, 60, .inl ch)), ((ad 7 4), .inl (cA 1, 60, .inl bm)), ((ad 7 5), .inl (cA 1, 60, .inl tk))]) [1, 2, 3, 4] (by decide) rfl) (q0 := 0) (ci := 0) rfl rfl rfl hl rfl (Nat.le_of_ble_eq_true rfl) dX8_readBeams_4 ⟨Nat.le_of_ble_eq_true rfl, Nat.le_of_ble_eq_true rfl⟩) hS hP hD [1, 2, 3, 4] rfl rfl [0] [(o, LbV (ad 0 0) (ad 1 0) (ad 2 0) (ad 7 0) (ad 7 2) tk0)] rfl rfl rfl rfl (fun r_4 H locs hr_4 hP hD hS => ?_)
  subst hr_4
  refine lv_istore_n (lv' := [(1, .int 1), (0, .ref o)]) hx hb dX8_readBeams_7 rfl hl (by decide) rfl (fun ls hl => ?_)
  refine lv_iload_n hx hb dX8_readBeams_8 rfl (lv_at hl 0 rfl) ?_
  refine lv_iconst (v := (-1)) hx hb dX8_readBeams_9 (by decide) ?_
  refine lv_icmp_eq (tgt := 18) hx hb dX8_readBeams_10 (by decide) (fun h9 => absurd h9 (by decide)) (fun _ => ?_)
  refine lv_bipush (v := (-100)) hx hb dX8_readBeams_13 (by decide) ?_
  refine lv_iload_n hx hb dX8_readBeams_15 rfl (lv_at hl 0 rfl) ?_
  refine lv_isub hx hb dX8_readBeams_16 ?_
  refine W.eq (g2 := F0 m 17 ls [.int (-101)]) rfl ?_
  exact en_wi hx hb hr rfl hlocks hS rfl hP dX8_readBeams_17
