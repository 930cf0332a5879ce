/-! Tally, Thing: their contracts (by wip/p26/thing.py) -/
set_option maxHeartbeats 4000000 in
set_option maxRecDepth 100000 in
/-- Tally.copyFrom(other) -/
theorem cX6_copyFrom_ok (l : Launch) (G : va_G) (cA : Nat → ClassId) (h0 h1 : Nat) (g g2 : GG) : Wv l yX6_copyFrom wsX6_copyFrom ({ frames := 0, cells := 0, slots := 0, locals := 0 } : Room) G cA [.ref h0, .ref h1] [(h0, TaV g), (h1, TaV g2)] [(h0, TaV g2), (h1, TaV g2)] := by
  refine ofW2 (cc := cX6_copyFrom) (maxL := 2) (ret := none) (own := RX6) (by decide) rfl rfl (Nat.le_of_ble_eq_true rfl) rfl ?_
  intro p e s m below meth c ls hx hb hml hr hts hown hlocks hv hl
  obtain ⟨hP, hE, hD0⟩ := hv
  have hK := hE.1
  have hD := dself hD0
  generalize hH0 : s.heap = H at hP ⊢
  have hS : va_S (inW [(h0, TaV g), (h1, TaV g2)]) s.heap H [] := hH0 ▸ va_S.rf
  generalize ([] : List Loc) = locs at hS ⊢
  clear hH0 hD0
  replace hl : lv_has ls 2 [(0, .ref h0), (1, .ref h1)] := hl
  have hin_X6 : ∀ q ∈ u_ws RX6 TX6 8, q ∈ wsX6_copyFrom := by decide +kernel
  have k9 := hts (.fieldLink RX6 9 "LiftBeams$Tally" "leaves" "I") (by decide +kernel)
  have k15 := hts (.fieldLink RX6 15 "LiftBeams$Tally" "hands" "I") (by decide +kernel)
  have k18 := hts (.fieldLink RX6 18 "LiftBeams$Tally" "dogs" "I") (by decide +kernel)
  have k21 := hts (.fieldLink RX6 21 "LiftBeams$Tally" "persons" "I") (by decide +kernel)
  have k24 := hts (.fieldLink RX6 24 "LiftBeams$Tally" "shuts" "I") (by decide +kernel)
  have k27 := hts (.fieldLink RX6 27 "LiftBeams$Tally" "reopenings" "I") (by decide +kernel)
  have k30 := hts (.fieldLink RX6 30 "LiftBeams$Tally" "servicesCalled" "I") (by decide +kernel)
  have k33 := hts (.fieldLink RX6 33 "LiftBeams$Tally" "ticksBroken" "I") (by decide +kernel)
  refine lv_aload_n hx hb dX6_copyFrom_0 rfl (lv_at hl 0 rfl) ?_
  refine lv_aload_n hx hb dX6_copyFrom_1 rfl (lv_at hl 1 rfl) ?_
  refine va_get (D := G) (ci := 6) (v := .int (g2 19)) (C := RX6) (T := TX6) (N := 8) hx hb hts hin_X6 hown hK hP 1 rfl rfl 0 (by decide) k9 (fun _ h9 => h9) rfl dX6_copyFrom_2 ?_
  refine va_put (D := G) (ci := 6) (v := .int (g2 19)) (ty := .int) (C := RX6) (T := TX6) (N := 8) hx hb hts hin_X6 tyX6 tyX6_ok nmX6 hown hK hP hD hS 0 rfl rfl 0 (by decide) k9 (fun _ h9 => h9) rfl (by decide +kernel) rfl rfl (Nat.le_of_ble_eq_true rfl) dX6_copyFrom_5 (fun H locs hP hD hS => ?_)
  replace hP : va_P G vwCl [(h0, TaV (upd g 19 (g2 19))), (h1, TaV g2)] H := hP
  replace hD : va_D (inW [(h0, TaV g), (h1, TaV g2)]) [(h0, TaV (upd g 19 (g2 19))), (h1, TaV g2)] := hD
  refine lv_aload_n hx hb dX6_copyFrom_8 rfl (lv_at hl 0 rfl) ?_
  refine lv_aload_n hx hb dX6_copyFrom_9 rfl (lv_at hl 1 rfl) ?_
  refine va_get (D := G) (ci := 6) (v := .int (g2 20)) (C := RX6) (T := TX6) (N := 8) hx hb hts hin_X6 hown hK hP 1 rfl rfl 1 (by decide) k15 (fun _ h9 => h9) rfl dX6_copyFrom_10 ?_
  refine va_put (D := G) (ci := 6) (v := .int (g2 20)) (ty := .int) (C := RX6) (T := TX6) (N := 8) hx hb hts hin_X6 tyX6 tyX6_ok nmX6 hown hK hP hD hS 0 rfl rfl 1 (by decide) k15 (fun _ h9 => h9) rfl (by decide +kernel) rfl rfl (Nat.le_of_ble_eq_true rfl) dX6_copyFrom_13 (fun H locs hP hD hS => ?_)
  replace hP : va_P G vwCl [(h0, TaV (upd (upd g 19 (g2 19)) 20 (g2 20))), (h1, TaV g2)] H := hP
  replace hD : va_D (inW [(h0, TaV g), (h1, TaV g2)]) [(h0, TaV (upd (upd g 19 (g2 19)) 20 (g2 20))), (h1, TaV g2)] := hD
  refine lv_aload_n hx hb dX6_copyFrom_16 rfl (lv_at hl 0 rfl) ?_
  refine lv_aload_n hx hb dX6_copyFrom_17 rfl (lv_at hl 1 rfl) ?_
  refine va_get (D := G) (ci := 6) (v := .int (g2 21)) (C := RX6) (T := TX6) (N := 8) hx hb hts hin_X6 hown hK hP 1 rfl rfl 2 (by decide) k18 (fun _ h9 => h9) rfl dX6_copyFrom_18 ?_
  refine va_put (D := G) (ci := 6) (v := .int (g2 21)) (ty := .int) (C := RX6) (T := TX6) (N := 8) hx hb hts hin_X6 tyX6 tyX6_ok nmX6 hown hK hP hD hS 0 rfl rfl 2 (by decide) k18 (fun _ h9 => h9) rfl (by decide +kernel) rfl rfl (Nat.le_of_ble_eq_true rfl) dX6_copyFrom_21 (fun H locs hP hD hS => ?_)
  replace hP : va_P G vwCl [(h0, TaV (upd (upd (upd g 19 (g2 19)) 20 (g2 20)) 21 (g2 21))), (h1, TaV g2)] H := hP
  replace hD : va_D (inW [(h0, TaV g), (h1, TaV g2)]) [(h0, TaV (upd (upd (upd g 19 (g2 19)) 20 (g2 20)) 21 (g2 21))), (h1, TaV g2)] := hD
  refine lv_aload_n hx hb dX6_copyFrom_24 rfl (lv_at hl 0 rfl) ?_
  refine lv_aload_n hx hb dX6_copyFrom_25 rfl (lv_at hl 1 rfl) ?_
  refine va_get (D := G) (ci := 6) (v := .int (g2 22)) (C := RX6) (T := TX6) (N := 8) hx hb hts hin_X6 hown hK hP 1 rfl rfl 3 (by decide) k21 (fun _ h9 => h9) rfl dX6_copyFrom_26 ?_
  refine va_put (D := G) (ci := 6) (v := .int (g2 22)) (ty := .int) (C := RX6) (T := TX6) (N := 8) hx hb hts hin_X6 tyX6 tyX6_ok nmX6 hown hK hP hD hS 0 rfl rfl 3 (by decide) k21 (fun _ h9 => h9) rfl (by decide +kernel) rfl rfl (Nat.le_of_ble_eq_true rfl) dX6_copyFrom_29 (fun H locs hP hD hS => ?_)
  replace hP : va_P G vwCl [(h0, TaV (upd (upd (upd (upd g 19 (g2 19)) 20 (g2 20)) 21 (g2 21)) 22 (g2 22))), (h1, TaV g2)] H := hP
  replace hD : va_D (inW [(h0, TaV g), (h1, TaV g2)]) [(h0, TaV (upd (upd (upd (upd g 19 (g2 19)) 20 (g2 20)) 21 (g2 21)) 22 (g2 22))), (h1, TaV g2)] := hD
  refine lv_aload_n hx hb dX6_copyFrom_32 rfl (lv_at hl 0 rfl) ?_
  refine lv_aload_n hx hb dX6_copyFrom_33 rfl (lv_at hl 1 rfl) ?_
  refine va_get (D := G) (ci := 6) (v := .int (g2 23)) (C := RX6) (T := TX6) (N := 8) hx hb hts hin_X6 hown hK hP 1 rfl rfl 4 (by decide) k24 (fun _ h9 => h9) rfl dX6_copyFrom_34 ?_
  refine va_put (D := G) (ci := 6) (v := .int (g2 23)) (ty := .int) (C := RX6) (T := TX6) (N := 8) hx hb hts hin_X6 tyX6 tyX6_ok nmX6 hown hK hP hD hS 0 rfl rfl 4 (by decide) k24 (fun _ h9 => h9) rfl (by decide +kernel) rfl rfl (Nat.le_of_ble_eq_true rfl) dX6_copyFrom_37 (fun H locs hP hD hS => ?_)
  replace hP : va_P G vwCl [(h0, TaV (upd (upd (upd (upd (upd g 19 (g2 19)) 20 (g2 20)) 21 (g2 21)) 22 (g2 22)) 23 (g2 23))), (h1, TaV g2)] H := hP
  replace hD : va_D (inW [(h0, TaV g), (h1, TaV g2)]) [(h0, TaV (upd (upd (upd (upd (upd g 19 (g2 19)) 20 (g2 20)) 21 (g2 21)) 22 (g2 22)) 23 (g2 23))), (h1, TaV g2)] := hD
  refine lv_aload_n hx hb dX6_copyFrom_40 rfl (lv_at hl 0 rfl) ?_
  refine lv_aload_n hx hb dX6_copyFrom_41 rfl (lv_at hl 1 rfl) ?_
  refine va_get (D := G) (ci := 6) (v := .int (g2 24)) (C := RX6) (T := TX6) (N := 8) hx hb hts hin_X6 hown hK hP 1 rfl rfl 5 (by decide) k27 (fun _ h9 => h9) rfl dX6_copyFrom_42 ?_
  refine va_put (D := G) (ci := 6) (v := .int (g2 24)) (ty := .int) (C := RX6) (T := TX6) (N := 8) hx hb hts hin_X6 tyX6 tyX6_ok nmX6 hown hK hP hD hS 0 rfl rfl 5 (by decide) k27 (fun _ h9 => h9) rfl (by decide +kernel) rfl rfl (Nat.le_of_ble_eq_true rfl) dX6_copyFrom_45 (fun H locs hP hD hS => ?_)
  replace hP : va_P G vwCl [(h0, TaV (upd (upd (upd (upd (upd (upd g 19 (g2 19)) 20 (g2 20)) 21 (g2 21)) 22 (g2 22)) 23 (g2 23)) 24 (g2 24))), (h1, TaV g2)] H := hP
  replace hD : va_D (inW [(h0, TaV g), (h1, TaV g2)]) [(h0, TaV (upd (upd (upd (upd (upd (upd g 19 (g2 19)) 20 (g2 20)) 21 (g2 21)) 22 (g2 22)) 23 (g2 23)) 24 (g2 24))), (h1, TaV g2)] := hD
  refine lv_aload_n hx hb dX6_copyFrom_48 rfl (lv_at hl 0 rfl) ?_
  refine lv_aload_n hx hb dX6_copyFrom_49 rfl (lv_at hl 1 rfl) ?_
  refine va_get (D := G) (ci := 6) (v := .int (g2 25)) (C := RX6) (T := TX6) (N := 8) hx hb hts hin_X6 hown hK hP 1 rfl rfl 6 (by decide) k30 (fun _ h9 => h9) rfl dX6_copyFrom_50 ?_
  refine va_put (D := G) (ci := 6) (v := .int (g2 25)) (ty := .int) (C := RX6) (T := TX6) (N := 8) hx hb hts hin_X6 tyX6 tyX6_ok nmX6 hown hK hP hD hS 0 rfl rfl 6 (by decide) k30 (fun _ h9 => h9) rfl (by decide +kernel) rfl rfl (Nat.le_of_ble_eq_true rfl) dX6_copyFrom_53 (fun H locs hP hD hS => ?_)
  replace hP : va_P G vwCl [(h0, TaV (upd (upd (upd (upd (upd (upd (upd g 19 (g2 19)) 20 (g2 20)) 21 (g2 21)) 22 (g2 22)) 23 (g2 23)) 24 (g2 24)) 25 (g2 25))), (h1, TaV g2)] H := hP
  replace hD : va_D (inW [(h0, TaV g), (h1, TaV g2)]) [(h0, TaV (upd (upd (upd (upd (upd (upd (upd g 19 (g2 19)) 20 (g2 20)) 21 (g2 21)) 22 (g2 22)) 23 (g2 23)) 24 (g2 24)) 25 (g2 25))), (h1, TaV g2)] := hD
  refine lv_aload_n hx hb dX6_copyFrom_56 rfl (lv_at hl 0 rfl) ?_
  refine lv_aload_n hx hb dX6_copyFrom_57 rfl (lv_at hl 1 rfl) ?_
  refine va_get (D := G) (ci := 6) (v := .int (g2 26)) (C := RX6) (T := TX6) (N := 8) hx hb hts hin_X6 hown hK hP 1 rfl rfl 7 (by decide) k33 (fun _ h9 => h9) rfl dX6_copyFrom_58 ?_
  refine va_put (D := G) (ci := 6) (v := .int (g2 26)) (ty := .int) (C := RX6) (T := TX6) (N := 8) hx hb hts hin_X6 tyX6 tyX6_ok nmX6 hown hK hP hD hS 0 rfl rfl 7 (by decide) k33 (fun _ h9 => h9) rfl (by decide +kernel) rfl rfl (Nat.le_of_ble_eq_true rfl) dX6_copyFrom_61 (fun H locs hP hD hS => ?_)
  replace hP : va_P G vwCl [(h0, TaV (upd (upd (upd (upd (upd (upd (upd (upd g 19 (g2 19)) 20 (g2 20)) 21 (g2 21)) 22 (g2 22)) 23 (g2 23)) 24 (g2 24)) 25 (g2 25)) 26 (g2 26))), (h1, TaV g2)] H := hP
  replace hD : va_D (inW [(h0, TaV g), (h1, TaV g2)]) [(h0, TaV (upd (upd (upd (upd (upd (upd (upd (upd g 19 (g2 19)) 20 (g2 20)) 21 (g2 21)) 22 (g2 22)) 23 (g2 23)) 24 (g2 24)) 25 (g2 25)) 26 (g2 26))), (h1, TaV g2)] := hD
  exact en_wv hx hb hr hlocks hS hP dX6_copyFrom_64
set_option maxHeartbeats 4000000 in
set_option maxRecDepth 100000 in
/-- Tally.addJudged(kind) -/
theorem cX6_addJudged_ok (l : Launch) (G : va_G) (cA : Nat → ClassId) (h0 : Nat) (g : GG) (k0 : Int32) : Wv l yX6_addJudged wsX6_addJudged ({ frames := 0, cells := 0, slots := 0, locals := 0 } : Room) G cA [.ref h0, .int k0] [(h0, TaV g)] [(h0, TaV (addG g k0))] := by
  refine ofW2 (cc := cX6_addJudged) (maxL := 2) (ret := none) (own := RX6) (by decide) rfl rfl (Nat.le_of_ble_eq_true rfl) rfl ?_
  intro p e s m below meth c ls hx hb hml hr hts hown hlocks hv hl
  obtain ⟨hP, hE, hD0⟩ := hv
  have hK := hE.1
  have hD := dself hD0
  generalize hH0 : s.heap = H at hP ⊢
  have hS : va_S (inW [(h0, TaV g)]) s.heap H [] := hH0 ▸ va_S.rf
  generalize ([] : List Loc) = locs at hS ⊢
  clear hH0 hD0
  replace hl : lv_has ls 2 [(0, .ref h0), (1, .int k0)] := hl
  have hin_X6 : ∀ q ∈ u_ws RX6 TX6 8, q ∈ wsX6_addJudged := by decide +kernel
  have k9 := hts (.fieldLink RX6 9 "LiftBeams$Tally" "leaves" "I") (by decide +kernel)
  have k15 := hts (.fieldLink RX6 15 "LiftBeams$Tally" "hands" "I") (by decide +kernel)
  have k18 := hts (.fieldLink RX6 18 "LiftBeams$Tally" "dogs" "I") (by decide +kernel)
  have k21 := hts (.fieldLink RX6 21 "LiftBeams$Tally" "persons" "I") (by decide +kernel)
  refine lv_iload_n hx hb dX6_addJudged_0 rfl (lv_at hl 1 rfl) ?_
  refine lv_topi (fun x_1 ex_1 => ?_)
  by_cases s_1 : x_1 = 0
  · rw [s_1] at ex_1 ⊢
    have s_1e := ex_1.symm
    refine lv_tableIn (off := 31) (tgt := 32) hx hb dX6_addJudged_1 (by decide) (by decide) (by decide) (by decide) ?_
    have s_1n1 : ¬ k0 = 1 := by rw [s_1e]; decide
    have s_1n2 : ¬ k0 = 2 := by rw [s_1e]; decide
    have s_1n3 : ¬ k0 = 3 := by rw [s_1e]; decide
    refine lv_aload_n hx hb dX6_addJudged_32 rfl (lv_at hl 0 rfl) ?_
    refine lv_dup hx hb dX6_addJudged_33 rfl ?_
    refine va_get (D := G) (ci := 6) (v := .int (g 19)) (C := RX6) (T := TX6) (N := 8) hx hb hts hin_X6 hown hK hP 0 rfl rfl 0 (by decide) k9 (fun _ h9 => h9) rfl dX6_addJudged_34 ?_
    refine lv_iconst (v := 1) hx hb dX6_addJudged_37 (by decide) ?_
    refine lv_iadd hx hb dX6_addJudged_38 ?_
    refine va_put (D := G) (ci := 6) (v := .int ((g 19) + 1)) (ty := .int) (C := RX6) (T := TX6) (N := 8) hx hb hts hin_X6 tyX6 tyX6_ok nmX6 hown hK hP hD hS 0 rfl rfl 0 (by decide) k9 (fun _ h9 => h9) rfl (by decide +kernel) rfl rfl (Nat.le_of_ble_eq_true rfl) dX6_addJudged_39 (fun H locs hP hD hS => ?_)
    replace hP : va_P G vwCl [(h0, TaV (upd g 19 ((g 19) + 1)))] H := hP
    replace hD : va_D (inW [(h0, TaV g)]) [(h0, TaV (upd g 19 ((g 19) + 1)))] := hD
    refine lv_goto (tgt := 84) hx hb dX6_addJudged_42 (by decide) ?_
    exact en_wv hx hb hr hlocks hS (by first | exact hP | (simp only [addG, if_pos s_1e, if_neg s_1n1, if_neg s_1n2, if_neg s_1n3]; exact hP)) dX6_addJudged_84
  have s_1q : ¬ k0 = 0 := fun h9 => s_1 (ex_1.trans h9)
  by_cases s_1_1 : x_1 = 1
  · rw [s_1_1] at ex_1 ⊢
    have s_1_1e := ex_1.symm
    refine lv_tableIn (off := 44) (tgt := 45) hx hb dX6_addJudged_1 (by decide) (by decide) (by decide) (by decide) ?_
    have s_1_1n2 : ¬ k0 = 2 := by rw [s_1_1e]; decide
    have s_1_1n3 : ¬ k0 = 3 := by rw [s_1_1e]; decide
    refine lv_aload_n hx hb dX6_addJudged_45 rfl (lv_at hl 0 rfl) ?_
    refine lv_dup hx hb dX6_addJudged_46 rfl ?_
    refine va_get (D := G) (ci := 6) (v := .int (g 20)) (C := RX6) (T := TX6) (N := 8) hx hb hts hin_X6 hown hK hP 0 rfl rfl 1 (by decide) k15 (fun _ h9 => h9) rfl dX6_addJudged_47 ?_
    refine lv_iconst (v := 1) hx hb dX6_addJudged_50 (by decide) ?_
    refine lv_iadd hx hb dX6_addJudged_51 ?_
    refine va_put (D := G) (ci := 6) (v := .int ((g 20) + 1)) (ty := .int) (C := RX6) (T := TX6) (N := 8) hx hb hts hin_X6 tyX6 tyX6_ok nmX6 hown hK hP hD hS 0 rfl rfl 1 (by decide) k15 (fun _ h9 => h9) rfl (by decide +kernel) rfl rfl (Nat.le_of_ble_eq_true rfl) dX6_addJudged_52 (fun H locs hP hD hS => ?_)
    replace hP : va_P G vwCl [(h0, TaV (upd g 20 ((g 20) + 1)))] H := hP
    replace hD : va_D (inW [(h0, TaV g)]) [(h0, TaV (upd g 20 ((g 20) + 1)))] := hD
    refine lv_goto (tgt := 84) hx hb dX6_addJudged_55 (by decide) ?_
    exact en_wv hx hb hr hlocks hS (by first | exact hP | (simp only [addG, if_neg s_1q, if_pos s_1_1e, if_neg s_1_1n2, if_neg s_1_1n3]; exact hP)) dX6_addJudged_84
  have s_1_1q : ¬ k0 = 1 := fun h9 => s_1_1 (ex_1.trans h9)
  by_cases s_1_2 : x_1 = 2
  · rw [s_1_2] at ex_1 ⊢
    have s_1_2e := ex_1.symm
    refine lv_tableIn (off := 57) (tgt := 58) hx hb dX6_addJudged_1 (by decide) (by decide) (by decide) (by decide) ?_
    have s_1_2n3 : ¬ k0 = 3 := by rw [s_1_2e]; decide
    refine lv_aload_n hx hb dX6_addJudged_58 rfl (lv_at hl 0 rfl) ?_
    refine lv_dup hx hb dX6_addJudged_59 rfl ?_
    refine va_get (D := G) (ci := 6) (v := .int (g 21)) (C := RX6) (T := TX6) (N := 8) hx hb hts hin_X6 hown hK hP 0 rfl rfl 2 (by decide) k18 (fun _ h9 => h9) rfl dX6_addJudged_60 ?_
    refine lv_iconst (v := 1) hx hb dX6_addJudged_63 (by decide) ?_
    refine lv_iadd hx hb dX6_addJudged_64 ?_
    refine va_put (D := G) (ci := 6) (v := .int ((g 21) + 1)) (ty := .int) (C := RX6) (T := TX6) (N := 8) hx hb hts hin_X6 tyX6 tyX6_ok nmX6 hown hK hP hD hS 0 rfl rfl 2 (by decide) k18 (fun _ h9 => h9) rfl (by decide +kernel) rfl rfl (Nat.le_of_ble_eq_true rfl) dX6_addJudged_65 (fun H locs hP hD hS => ?_)
    replace hP : va_P G vwCl [(h0, TaV (upd g 21 ((g 21) + 1)))] H := hP
    replace hD : va_D (inW [(h0, TaV g)]) [(h0, TaV (upd g 21 ((g 21) + 1)))] := hD
    refine lv_goto (tgt := 84) hx hb dX6_addJudged_68 (by decide) ?_
    exact en_wv hx hb hr hlocks hS (by first | exact hP | (simp only [addG, if_neg s_1q, if_neg s_1_1q, if_pos s_1_2e, if_neg s_1_2n3]; exact hP)) dX6_addJudged_84
  have s_1_2q : ¬ k0 = 2 := fun h9 => s_1_2 (ex_1.trans h9)
  by_cases s_1_3 : x_1 = 3
  · rw [s_1_3] at ex_1 ⊢
    have s_1_3e := ex_1.symm
    refine lv_tableIn (off := 70) (tgt := 71) hx hb dX6_addJudged_1 (by decide) (by decide) (by decide) (by decide) ?_
    refine lv_aload_n hx hb dX6_addJudged_71 rfl (lv_at hl 0 rfl) ?_
    refine lv_dup hx hb dX6_addJudged_72 rfl ?_
    refine va_get (D := G) (ci := 6) (v := .int (g 22)) (C := RX6) (T := TX6) (N := 8) hx hb hts hin_X6 hown hK hP 0 rfl rfl 3 (by decide) k21 (fun _ h9 => h9) rfl dX6_addJudged_73 ?_
    refine lv_iconst (v := 1) hx hb dX6_addJudged_76 (by decide) ?_
    refine lv_iadd hx hb dX6_addJudged_77 ?_
    refine va_put (D := G) (ci := 6) (v := .int ((g 22) + 1)) (ty := .int) (C := RX6) (T := TX6) (N := 8) hx hb hts hin_X6 tyX6 tyX6_ok nmX6 hown hK hP hD hS 0 rfl rfl 3 (by decide) k21 (fun _ h9 => h9) rfl (by decide +kernel) rfl rfl (Nat.le_of_ble_eq_true rfl) dX6_addJudged_78 (fun H locs hP hD hS => ?_)
    replace hP : va_P G vwCl [(h0, TaV (upd g 22 ((g 22) + 1)))] H := hP
    replace hD : va_D (inW [(h0, TaV g)]) [(h0, TaV (upd g 22 ((g 22) + 1)))] := hD
    refine lv_goto (tgt := 84) hx hb dX6_addJudged_81 (by decide) ?_
    exact en_wv hx hb hr hlocks hS (by first | exact hP | (simp only [addG, if_neg s_1q, if_neg s_1_1q, if_neg s_1_2q, if_pos s_1_3e]; exact hP)) dX6_addJudged_84
  have s_1_3q : ¬ k0 = 3 := fun h9 => s_1_3 (ex_1.trans h9)
  refine lv_tableOut (tgt := 84) hx hb dX6_addJudged_1 (tab_0_3 s_1 s_1_1 s_1_2 s_1_3) (by decide) ?_
  exact en_wv hx hb hr hlocks hS (by first | exact hP | (simp only [addG, if_neg s_1q, if_neg s_1_1q, if_neg s_1_2q, if_neg s_1_3q]; exact hP)) dX6_addJudged_84
set_option maxHeartbeats 4000000 in
set_option maxRecDepth 100000 in
/-- Thing.copyFrom(other) -/
theorem cX7_copyFrom_ok (l : Launch) (G : va_G) (cA : Nat → ClassId) (h0 h1 : Nat) (g g2 : GG) (hB : Bo g2) : Wv l yX7_copyFrom wsX7_copyFrom ({ frames := 0, cells := 0, slots := 0, locals := 0 } : Room) G cA [.ref h0, .ref h1] [(h0, ThV g), (h1, ThV g2)] [(h0, ThV g2), (h1, ThV g2)] := by
  refine ofW2 (cc := cX7_copyFrom) (maxL := 2) (ret := none) (own := RX7) (by decide) rfl rfl (Nat.le_of_ble_eq_true rfl) rfl ?_
  intro p e s m below meth c ls hx hb hml hr hts hown hlocks hv hl
  obtain ⟨hP, hE, hD0⟩ := hv
  have hK := hE.1
  have hD := dself hD0
  generalize hH0 : s.heap = H at hP ⊢
  have hS : va_S (inW [(h0, ThV g), (h1, ThV g2)]) s.heap H [] := hH0 ▸ va_S.rf
  generalize ([] : List Loc) = locs at hS ⊢
  clear hH0 hD0
  replace hl : lv_has ls 2 [(0, .ref h0), (1, .ref h1)] := hl
  have hin_X7 : ∀ q ∈ u_ws RX7 TX7 8, q ∈ wsX7_copyFrom := by decide +kernel
  have k9 := hts (.fieldLink RX7 9 "LiftBeams$Thing" "there" "Z") (by decide +kernel)
  have k15 := hts (.fieldLink RX7 15 "LiftBeams$Thing" "begun" "I") (by decide +kernel)
  have k19 := hts (.fieldLink RX7 19 "LiftBeams$Thing" "length" "I") (by decide +kernel)
  have k22 := hts (.fieldLink RX7 22 "LiftBeams$Thing" "low" "I") (by decide +kernel)
  have k25 := hts (.fieldLink RX7 25 "LiftBeams$Thing" "middle" "I") (by decide +kernel)
  have k28 := hts (.fieldLink RX7 28 "LiftBeams$Thing" "high" "I") (by decide +kernel)
  have k31 := hts (.fieldLink RX7 31 "LiftBeams$Thing" "clear" "I") (by decide +kernel)
  have k34 := hts (.fieldLink RX7 34 "LiftBeams$Thing" "cause" "Z") (by decide +kernel)
  refine lv_aload_n hx hb dX7_copyFrom_0 rfl (lv_at hl 0 rfl) ?_
  refine lv_aload_n hx hb dX7_copyFrom_1 rfl (lv_at hl 1 rfl) ?_
  refine va_get (D := G) (ci := 7) (v := .int (g2 5)) (C := RX7) (T := TX7) (N := 8) hx hb hts hin_X7 hown hK hP 1 rfl rfl 0 (by decide) k9 (fun _ h9 => h9) rfl dX7_copyFrom_2 ?_
  refine va_put (D := G) (ci := 7) (v := .int (g2 5)) (ty := .boolean) (C := RX7) (T := TX7) (N := 8) hx hb hts hin_X7 tyX7 tyX7_ok nmX7 hown hK hP hD hS 0 rfl rfl 0 (by decide) k9 (fun _ h9 => h9) rfl (by decide +kernel) (nb_ hB.1) (fb_ hB.1) (Nat.le_of_ble_eq_true rfl) dX7_copyFrom_5 (fun H locs hP hD hS => ?_)
  replace hP : va_P G vwCl [(h0, ThV (upd g 5 (g2 5))), (h1, ThV g2)] H := hP
  replace hD : va_D (inW [(h0, ThV g), (h1, ThV g2)]) [(h0, ThV (upd g 5 (g2 5))), (h1, ThV g2)] := hD
  refine lv_aload_n hx hb dX7_copyFrom_8 rfl (lv_at hl 0 rfl) ?_
  refine lv_aload_n hx hb dX7_copyFrom_9 rfl (lv_at hl 1 rfl) ?_
  refine va_get (D := G) (ci := 7) (v := .int (g2 6)) (C := RX7) (T := TX7) (N := 8) hx hb hts hin_X7 hown hK hP 1 rfl rfl 1 (by decide) k15 (fun _ h9 => h9) rfl dX7_copyFrom_10 ?_
  refine va_put (D := G) (ci := 7) (v := .int (g2 6)) (ty := .int) (C := RX7) (T := TX7) (N := 8) hx hb hts hin_X7 tyX7 tyX7_ok nmX7 hown hK hP hD hS 0 rfl rfl 1 (by decide) k15 (fun _ h9 => h9) rfl (by decide +kernel) rfl rfl (Nat.le_of_ble_eq_true rfl) dX7_copyFrom_13 (fun H locs hP hD hS => ?_)
  replace hP : va_P G vwCl [(h0, ThV (upd (upd g 5 (g2 5)) 6 (g2 6))), (h1, ThV g2)] H := hP
  replace hD : va_D (inW [(h0, ThV g), (h1, ThV g2)]) [(h0, ThV (upd (upd g 5 (g2 5)) 6 (g2 6))), (h1, ThV g2)] := hD
  refine lv_aload_n hx hb dX7_copyFrom_16 rfl (lv_at hl 0 rfl) ?_
  refine lv_aload_n hx hb dX7_copyFrom_17 rfl (lv_at hl 1 rfl) ?_
  refine va_get (D := G) (ci := 7) (v := .int (g2 7)) (C := RX7) (T := TX7) (N := 8) hx hb hts hin_X7 hown hK hP 1 rfl rfl 2 (by decide) k19 (fun _ h9 => h9) rfl dX7_copyFrom_18 ?_
  refine va_put (D := G) (ci := 7) (v := .int (g2 7)) (ty := .int) (C := RX7) (T := TX7) (N := 8) hx hb hts hin_X7 tyX7 tyX7_ok nmX7 hown hK hP hD hS 0 rfl rfl 2 (by decide) k19 (fun _ h9 => h9) rfl (by decide +kernel) rfl rfl (Nat.le_of_ble_eq_true rfl) dX7_copyFrom_21 (fun H locs hP hD hS => ?_)
  replace hP : va_P G vwCl [(h0, ThV (upd (upd (upd g 5 (g2 5)) 6 (g2 6)) 7 (g2 7))), (h1, ThV g2)] H := hP
  replace hD : va_D (inW [(h0, ThV g), (h1, ThV g2)]) [(h0, ThV (upd (upd (upd g 5 (g2 5)) 6 (g2 6)) 7 (g2 7))), (h1, ThV g2)] := hD
  refine lv_aload_n hx hb dX7_copyFrom_24 rfl (lv_at hl 0 rfl) ?_
  refine lv_aload_n hx hb dX7_copyFrom_25 rfl (lv_at hl 1 rfl) ?_
  refine va_get (D := G) (ci := 7) (v := .int (g2 8)) (C := RX7) (T := TX7) (N := 8) hx hb hts hin_X7 hown hK hP 1 rfl rfl 3 (by decide) k22 (fun _ h9 => h9) rfl dX7_copyFrom_26 ?_
  refine va_put (D := G) (ci := 7) (v := .int (g2 8)) (ty := .int) (C := RX7) (T := TX7) (N := 8) hx hb hts hin_X7 tyX7 tyX7_ok nmX7 hown hK hP hD hS 0 rfl rfl 3 (by decide) k22 (fun _ h9 => h9) rfl (by decide +kernel) rfl rfl (Nat.le_of_ble_eq_true rfl) dX7_copyFrom_29 (fun H locs hP hD hS => ?_)
  replace hP : va_P G vwCl [(h0, ThV (upd (upd (upd (upd g 5 (g2 5)) 6 (g2 6)) 7 (g2 7)) 8 (g2 8))), (h1, ThV g2)] H := hP
  replace hD : va_D (inW [(h0, ThV g), (h1, ThV g2)]) [(h0, ThV (upd (upd (upd (upd g 5 (g2 5)) 6 (g2 6)) 7 (g2 7)) 8 (g2 8))), (h1, ThV g2)] := hD
  refine lv_aload_n hx hb dX7_copyFrom_32 rfl (lv_at hl 0 rfl) ?_
  refine lv_aload_n hx hb dX7_copyFrom_33 rfl (lv_at hl 1 rfl) ?_
  refine va_get (D := G) (ci := 7) (v := .int (g2 9)) (C := RX7) (T := TX7) (N := 8) hx hb hts hin_X7 hown hK hP 1 rfl rfl 4 (by decide) k25 (fun _ h9 => h9) rfl dX7_copyFrom_34 ?_
  refine va_put (D := G) (ci := 7) (v := .int (g2 9)) (ty := .int) (C := RX7) (T := TX7) (N := 8) hx hb hts hin_X7 tyX7 tyX7_ok nmX7 hown hK hP hD hS 0 rfl rfl 4 (by decide) k25 (fun _ h9 => h9) rfl (by decide +kernel) rfl rfl (Nat.le_of_ble_eq_true rfl) dX7_copyFrom_37 (fun H locs hP hD hS => ?_)
  replace hP : va_P G vwCl [(h0, ThV (upd (upd (upd (upd (upd g 5 (g2 5)) 6 (g2 6)) 7 (g2 7)) 8 (g2 8)) 9 (g2 9))), (h1, ThV g2)] H := hP
  replace hD : va_D (inW [(h0, ThV g), (h1, ThV g2)]) [(h0, ThV (upd (upd (upd (upd (upd g 5 (g2 5)) 6 (g2 6)) 7 (g2 7)) 8 (g2 8)) 9 (g2 9))), (h1, ThV g2)] := hD
  refine lv_aload_n hx hb dX7_copyFrom_40 rfl (lv_at hl 0 rfl) ?_
  refine lv_aload_n hx hb dX7_copyFrom_41 rfl (lv_at hl 1 rfl) ?_
  refine va_get (D := G) (ci := 7) (v := .int (g2 10)) (C := RX7) (T := TX7) (N := 8) hx hb hts hin_X7 hown hK hP 1 rfl rfl 5 (by decide) k28 (fun _ h9 => h9) rfl dX7_copyFrom_42 ?_
  refine va_put (D := G) (ci := 7) (v := .int (g2 10)) (ty := .int) (C := RX7) (T := TX7) (N := 8) hx hb hts hin_X7 tyX7 tyX7_ok nmX7 hown hK hP hD hS 0 rfl rfl 5 (by decide) k28 (fun _ h9 => h9) rfl (by decide +kernel) rfl rfl (Nat.le_of_ble_eq_true rfl) dX7_copyFrom_45 (fun H locs hP hD hS => ?_)
  replace hP : va_P G vwCl [(h0, ThV (upd (upd (upd (upd (upd (upd g 5 (g2 5)) 6 (g2 6)) 7 (g2 7)) 8 (g2 8)) 9 (g2 9)) 10 (g2 10))), (h1, ThV g2)] H := hP
  replace hD : va_D (inW [(h0, ThV g), (h1, ThV g2)]) [(h0, ThV (upd (upd (upd (upd (upd (upd g 5 (g2 5)) 6 (g2 6)) 7 (g2 7)) 8 (g2 8)) 9 (g2 9)) 10 (g2 10))), (h1, ThV g2)] := hD
  refine lv_aload_n hx hb dX7_copyFrom_48 rfl (lv_at hl 0 rfl) ?_
  refine lv_aload_n hx hb dX7_copyFrom_49 rfl (lv_at hl 1 rfl) ?_
  refine va_get (D := G) (ci := 7) (v := .int (g2 11)) (C := RX7) (T := TX7) (N := 8) hx hb hts hin_X7 hown hK hP 1 rfl rfl 6 (by decide) k31 (fun _ h9 => h9) rfl dX7_copyFrom_50 ?_
  refine va_put (D := G) (ci := 7) (v := .int (g2 11)) (ty := .int) (C := RX7) (T := TX7) (N := 8) hx hb hts hin_X7 tyX7 tyX7_ok nmX7 hown hK hP hD hS 0 rfl rfl 6 (by decide) k31 (fun _ h9 => h9) rfl (by decide +kernel) rfl rfl (Nat.le_of_ble_eq_true rfl) dX7_copyFrom_53 (fun H locs hP hD hS => ?_)
  replace hP : va_P G vwCl [(h0, ThV (upd (upd (upd (upd (upd (upd (upd g 5 (g2 5)) 6 (g2 6)) 7 (g2 7)) 8 (g2 8)) 9 (g2 9)) 10 (g2 10)) 11 (g2 11))), (h1, ThV g2)] H := hP
  replace hD : va_D (inW [(h0, ThV g), (h1, ThV g2)]) [(h0, ThV (upd (upd (upd (upd (upd (upd (upd g 5 (g2 5)) 6 (g2 6)) 7 (g2 7)) 8 (g2 8)) 9 (g2 9)) 10 (g2 10)) 11 (g2 11))), (h1, ThV g2)] := hD
  refine lv_aload_n hx hb dX7_copyFrom_56 rfl (lv_at hl 0 rfl) ?_
  refine lv_aload_n hx hb dX7_copyFrom_57 rfl (lv_at hl 1 rfl) ?_
  refine va_get (D := G) (ci := 7) (v := .int (g2 12)) (C := RX7) (T := TX7) (N := 8) hx hb hts hin_X7 hown hK hP 1 rfl rfl 7 (by decide) k34 (fun _ h9 => h9) rfl dX7_copyFrom_58 ?_
  refine va_put (D := G) (ci := 7) (v := .int (g2 12)) (ty := .boolean) (C := RX7) (T := TX7) (N := 8) hx hb hts hin_X7 tyX7 tyX7_ok nmX7 hown hK hP hD hS 0 rfl rfl 7 (by decide) k34 (fun _ h9 => h9) rfl (by decide +kernel) (nb_ hB.2.1) (fb_ hB.2.1) (Nat.le_of_ble_eq_true rfl) dX7_copyFrom_61 (fun H locs hP hD hS => ?_)
  replace hP : va_P G vwCl [(h0, ThV (upd (upd (upd (upd (upd (upd (upd (upd g 5 (g2 5)) 6 (g2 6)) 7 (g2 7)) 8 (g2 8)) 9 (g2 9)) 10 (g2 10)) 11 (g2 11)) 12 (g2 12))), (h1, ThV g2)] H := hP
  replace hD : va_D (inW [(h0, ThV g), (h1, ThV g2)]) [(h0, ThV (upd (upd (upd (upd (upd (upd (upd (upd g 5 (g2 5)) 6 (g2 6)) 7 (g2 7)) 8 (g2 8)) 9 (g2 9)) 10 (g2 10)) 11 (g2 11)) 12 (g2 12))), (h1, ThV g2)] := hD
  exact en_wv hx hb hr hlocks hS hP dX7_copyFrom_64
set_option maxHeartbeats 4000000 in
set_option maxRecDepth 100000 in
/-- Thing.begin(tick) -/
theorem cX7_begin_ok (l : Launch) (G : va_G) (cA : Nat → ClassId) (h0 : Nat) (g : GG) (t0 : Int32) : Wv l yX7_begin wsX7_begin ({ frames := 0, cells := 0, slots := 0, locals := 0 } : Room) G cA [.ref h0, .int t0] [(h0, ThV g)] [(h0, ThV (beginG g t0))] := by
  refine ofW2 (cc := cX7_begin) (maxL := 2) (ret := none) (own := RX7) (by decide) rfl rfl (Nat.le_of_ble_eq_true rfl) rfl ?_
  intro p e s m below meth c ls hx hb hml hr hts hown hlocks hv hl
  obtain ⟨hP, hE, hD0⟩ := hv
  have hK := hE.1
  have hD := dself hD0
  generalize hH0 : s.heap = H at hP ⊢
  have hS : va_S (inW [(h0, ThV g)]) s.heap H [] := hH0 ▸ va_S.rf
  generalize ([] : List Loc) = locs at hS ⊢
  clear hH0 hD0
  replace hl : lv_has ls 2 [(0, .ref h0), (1, .int t0)] := hl
  have hin_X7 : ∀ q ∈ u_ws RX7 TX7 8, q ∈ wsX7_begin := by decide +kernel
  have k9 := hts (.fieldLink RX7 9 "LiftBeams$Thing" "there" "Z") (by decide +kernel)
  have k15 := hts (.fieldLink RX7 15 "LiftBeams$Thing" "begun" "I") (by decide +kernel)
  have k19 := hts (.fieldLink RX7 19 "LiftBeams$Thing" "length" "I") (by decide +kernel)
  have k22 := hts (.fieldLink RX7 22 "LiftBeams$Thing" "low" "I") (by decide +kernel)
  have k25 := hts (.fieldLink RX7 25 "LiftBeams$Thing" "middle" "I") (by decide +kernel)
  have k28 := hts (.fieldLink RX7 28 "LiftBeams$Thing" "high" "I") (by decide +kernel)
  have k34 := hts (.fieldLink RX7 34 "LiftBeams$Thing" "cause" "Z") (by decide +kernel)
  refine lv_aload_n hx hb dX7_begin_0 rfl (lv_at hl 0 rfl) ?_
  refine lv_iconst (v := 1) hx hb dX7_begin_1 (by decide) ?_
  refine va_put (D := G) (ci := 7) (v := .int 1) (ty := .boolean) (C := RX7) (T := TX7) (N := 8) hx hb hts hin_X7 tyX7 tyX7_ok nmX7 hown hK hP hD hS 0 rfl rfl 0 (by decide) k9 (fun _ h9 => h9) rfl (by decide +kernel) rfl rfl (Nat.le_of_ble_eq_true rfl) dX7_begin_2 (fun H locs hP hD hS => ?_)
  replace hP : va_P G vwCl [(h0, ThV (upd g 5 1))] H := hP
  replace hD : va_D (inW [(h0, ThV g)]) [(h0, ThV (upd g 5 1))] := hD
  refine lv_aload_n hx hb dX7_begin_5 rfl (lv_at hl 0 rfl) ?_
  refine lv_iload_n hx hb dX7_begin_6 rfl (lv_at hl 1 rfl) ?_
  refine va_put (D := G) (ci := 7) (v := .int t0) (ty := .int) (C := RX7) (T := TX7) (N := 8) hx hb hts hin_X7 tyX7 tyX7_ok nmX7 hown hK hP hD hS 0 rfl rfl 1 (by decide) k15 (fun _ h9 => h9) rfl (by decide +kernel) rfl rfl (Nat.le_of_ble_eq_true rfl) dX7_begin_7 (fun H locs hP hD hS => ?_)
  replace hP : va_P G vwCl [(h0, ThV (upd (upd g 5 1) 6 t0))] H := hP
  replace hD : va_D (inW [(h0, ThV g)]) [(h0, ThV (upd (upd g 5 1) 6 t0))] := hD
  refine lv_aload_n hx hb dX7_begin_10 rfl (lv_at hl 0 rfl) ?_
  refine lv_iconst (v := 0) hx hb dX7_begin_11 (by decide) ?_
  refine va_put (D := G) (ci := 7) (v := .int 0) (ty := .int) (C := RX7) (T := TX7) (N := 8) hx hb hts hin_X7 tyX7 tyX7_ok nmX7 hown hK hP hD hS 0 rfl rfl 2 (by decide) k19 (fun _ h9 => h9) rfl (by decide +kernel) rfl rfl (Nat.le_of_ble_eq_true rfl) dX7_begin_12 (fun H locs hP hD hS => ?_)
  replace hP : va_P G vwCl [(h0, ThV (upd (upd (upd g 5 1) 6 t0) 7 0))] H := hP
  replace hD : va_D (inW [(h0, ThV g)]) [(h0, ThV (upd (upd (upd g 5 1) 6 t0) 7 0))] := hD
  refine lv_aload_n hx hb dX7_begin_15 rfl (lv_at hl 0 rfl) ?_
  refine lv_iconst (v := 0) hx hb dX7_begin_16 (by decide) ?_
  refine va_put (D := G) (ci := 7) (v := .int 0) (ty := .int) (C := RX7) (T := TX7) (N := 8) hx hb hts hin_X7 tyX7 tyX7_ok nmX7 hown hK hP hD hS 0 rfl rfl 3 (by decide) k22 (fun _ h9 => h9) rfl (by decide +kernel) rfl rfl (Nat.le_of_ble_eq_true rfl) dX7_begin_17 (fun H locs hP hD hS => ?_)
  replace hP : va_P G vwCl [(h0, ThV (upd (upd (upd (upd g 5 1) 6 t0) 7 0) 8 0))] H := hP
  replace hD : va_D (inW [(h0, ThV g)]) [(h0, ThV (upd (upd (upd (upd g 5 1) 6 t0) 7 0) 8 0))] := hD
  refine lv_aload_n hx hb dX7_begin_20 rfl (lv_at hl 0 rfl) ?_
  refine lv_iconst (v := 0) hx hb dX7_begin_21 (by decide) ?_
  refine va_put (D := G) (ci := 7) (v := .int 0) (ty := .int) (C := RX7) (T := TX7) (N := 8) hx hb hts hin_X7 tyX7 tyX7_ok nmX7 hown hK hP hD hS 0 rfl rfl 4 (by decide) k25 (fun _ h9 => h9) rfl (by decide +kernel) rfl rfl (Nat.le_of_ble_eq_true rfl) dX7_begin_22 (fun H locs hP hD hS => ?_)
  replace hP : va_P G vwCl [(h0, ThV (upd (upd (upd (upd (upd g 5 1) 6 t0) 7 0) 8 0) 9 0))] H := hP
  replace hD : va_D (inW [(h0, ThV g)]) [(h0, ThV (upd (upd (upd (upd (upd g 5 1) 6 t0) 7 0) 8 0) 9 0))] := hD
  refine lv_aload_n hx hb dX7_begin_25 rfl (lv_at hl 0 rfl) ?_
  refine lv_iconst (v := 0) hx hb dX7_begin_26 (by decide) ?_
  refine va_put (D := G) (ci := 7) (v := .int 0) (ty := .int) (C := RX7) (T := TX7) (N := 8) hx hb hts hin_X7 tyX7 tyX7_ok nmX7 hown hK hP hD hS 0 rfl rfl 5 (by decide) k28 (fun _ h9 => h9) rfl (by decide +kernel) rfl rfl (Nat.le_of_ble_eq_true rfl) dX7_begin_27 (fun H locs hP hD hS => ?_)
  replace hP : va_P G vwCl [(h0, ThV (upd (upd (upd (upd (upd (upd g 5 1) 6 t0) 7 0) 8 0) 9 0) 10 0))] H := hP
  replace hD : va_D (inW [(h0, ThV g)]) [(h0, ThV (upd (upd (upd (upd (upd (upd g 5 1) 6 t0) 7 0) 8 0) 9 0) 10 0))] := hD
  refine lv_aload_n hx hb dX7_begin_30 rfl (lv_at hl 0 rfl) ?_
  refine lv_iconst (v := 0) hx hb dX7_begin_31 (by decide) ?_
  refine va_put (D := G) (ci := 7) (v := .int 0) (ty := .boolean) (C := RX7) (T := TX7) (N := 8) hx hb hts hin_X7 tyX7 tyX7_ok nmX7 hown hK hP hD hS 0 rfl rfl 7 (by decide) k34 (fun _ h9 => h9) rfl (by decide +kernel) rfl rfl (Nat.le_of_ble_eq_true rfl) dX7_begin_32 (fun H locs hP hD hS => ?_)
  replace hP : va_P G vwCl [(h0, ThV (upd (upd (upd (upd (upd (upd (upd g 5 1) 6 t0) 7 0) 8 0) 9 0) 10 0) 12 0))] H := hP
  replace hD : va_D (inW [(h0, ThV g)]) [(h0, ThV (upd (upd (upd (upd (upd (upd (upd g 5 1) 6 t0) 7 0) 8 0) 9 0) 10 0) 12 0))] := hD
  exact en_wv hx hb hr hlocks hS hP dX7_begin_35
set_option maxHeartbeats 4000000 in
set_option maxRecDepth 100000 in
/-- Thing.breakBeams(beams, tick) -/
theorem cX7_breakBeams_ok (l : Launch) (G : va_G) (cA : Nat → ClassId) (h0 : Nat) (g : GG) (b0 t0 : Int32) : Wv l yX7_breakBeams wsX7_breakBeams ({ frames := 1, cells := 0, slots := 0, locals := 21 } : Room) G cA [.ref h0, .int b0, .int t0] [(h0, ThV g)] [(h0, ThV (breakG g b0 t0))] := by
  refine ofW2 (cc := cX7_breakBeams) (maxL := 3) (ret := none) (own := RX7) (by decide) rfl rfl (Nat.le_of_ble_eq_true rfl) rfl ?_
  intro p e s m below meth c ls hx hb hml hr hts hown hlocks hv hl
  obtain ⟨hP, hE, hD0⟩ := hv
  have hK := hE.1
  have hD := dself hD0
  generalize hH0 : s.heap = H at hP ⊢
  have hS : va_S (inW [(h0, ThV g)]) s.heap H [] := hH0 ▸ va_S.rf
  generalize ([] : List Loc) = locs at hS ⊢
  clear hH0 hD0
  replace hl : lv_has ls 3 [(0, .ref h0), (1, .int b0), (2, .int t0)] := hl
  have hin_X7 : ∀ q ∈ u_ws RX7 TX7 8, q ∈ wsX7_breakBeams := by decide +kernel
  have k9 := hts (.fieldLink RX7 9 "LiftBeams$Thing" "there" "Z") (by decide +kernel)
  have k19 := hts (.fieldLink RX7 19 "LiftBeams$Thing" "length" "I") (by decide +kernel)
  have k22 := hts (.fieldLink RX7 22 "LiftBeams$Thing" "low" "I") (by decide +kernel)
  have k25 := hts (.fieldLink RX7 25 "LiftBeams$Thing" "middle" "I") (by decide +kernel)
  have k28 := hts (.fieldLink RX7 28 "LiftBeams$Thing" "high" "I") (by decide +kernel)
  have k31 := hts (.fieldLink RX7 31 "LiftBeams$Thing" "clear" "I") (by decide +kernel)
  refine lv_aload_n hx hb dX7_breakBeams_0 rfl (lv_at hl 0 rfl) ?_
  refine va_get (D := G) (ci := 7) (v := .int (g 5)) (C := RX7) (T := TX7) (N := 8) hx hb hts hin_X7 hown hK hP 0 rfl rfl 0 (by decide) k9 (fun _ h9 => h9) rfl dX7_breakBeams_1 ?_
  refine lv_if_ne (tgt := 12) hx hb dX7_breakBeams_4 (by decide) (fun c_4 => ?_) (fun c_4 => ?_)
  · skip
    refine lv_aload_n hx hb dX7_breakBeams_12 rfl (lv_at hl 0 rfl) ?_
    refine lv_dup hx hb dX7_breakBeams_13 rfl ?_
    refine va_get (D := G) (ci := 7) (v := .int (g 7)) (C := RX7) (T := TX7) (N := 8) hx hb hts hin_X7 hown hK hP 0 rfl rfl 2 (by decide) k19 (fun _ h9 => h9) rfl dX7_breakBeams_14 ?_
    refine lv_iconst (v := 1) hx hb dX7_breakBeams_17 (by decide) ?_
    refine lv_iadd hx hb dX7_breakBeams_18 ?_
    refine va_put (D := G) (ci := 7) (v := .int ((g 7) + 1)) (ty := .int) (C := RX7) (T := TX7) (N := 8) hx hb hts hin_X7 tyX7 tyX7_ok nmX7 hown hK hP hD hS 0 rfl rfl 2 (by decide) k19 (fun _ h9 => h9) rfl (by decide +kernel) rfl rfl (Nat.le_of_ble_eq_true rfl) dX7_breakBeams_19 (fun H locs hP hD hS => ?_)
    replace hP : va_P G vwCl [(h0, ThV (upd g 7 ((g 7) + 1)))] H := hP
    replace hD : va_D (inW [(h0, ThV g)]) [(h0, ThV (upd g 7 ((g 7) + 1)))] := hD
    refine lv_aload_n hx hb dX7_breakBeams_22 rfl (lv_at hl 0 rfl) ?_
    refine lv_dup hx hb dX7_breakBeams_23 rfl ?_
    refine va_get (D := G) (ci := 7) (v := .int (g 8)) (C := RX7) (T := TX7) (N := 8) hx hb hts hin_X7 hown hK hP 0 rfl rfl 3 (by decide) k22 (fun _ h9 => h9) rfl dX7_breakBeams_24 ?_
    refine lv_iload_n hx hb dX7_breakBeams_27 rfl (lv_at hl 1 rfl) ?_
    refine lv_iconst (v := 1) hx hb dX7_breakBeams_28 (by decide) ?_
    refine lv_iand hx hb dX7_breakBeams_29 ?_
    refine lv_iadd hx hb dX7_breakBeams_30 ?_
    refine va_put (D := G) (ci := 7) (v := .int ((g 8) + (b0 &&& 1))) (ty := .int) (C := RX7) (T := TX7) (N := 8) hx hb hts hin_X7 tyX7 tyX7_ok nmX7 hown hK hP hD hS 0 rfl rfl 3 (by decide) k22 (fun _ h9 => h9) rfl (by decide +kernel) rfl rfl (Nat.le_of_ble_eq_true rfl) dX7_breakBeams_31 (fun H locs hP hD hS => ?_)
    replace hP : va_P G vwCl [(h0, ThV (upd (upd g 7 ((g 7) + 1)) 8 ((g 8) + (b0 &&& 1))))] H := hP
    replace hD : va_D (inW [(h0, ThV g)]) [(h0, ThV (upd (upd g 7 ((g 7) + 1)) 8 ((g 8) + (b0 &&& 1))))] := hD
    refine lv_aload_n hx hb dX7_breakBeams_34 rfl (lv_at hl 0 rfl) ?_
    refine lv_dup hx hb dX7_breakBeams_35 rfl ?_
    refine va_get (D := G) (ci := 7) (v := .int (g 9)) (C := RX7) (T := TX7) (N := 8) hx hb hts hin_X7 hown hK hP 0 rfl rfl 4 (by decide) k25 (fun _ h9 => h9) rfl dX7_breakBeams_36 ?_
    refine lv_iload_n hx hb dX7_breakBeams_39 rfl (lv_at hl 1 rfl) ?_
    refine lv_iconst (v := 1) hx hb dX7_breakBeams_40 (by decide) ?_
    refine lv_ishr hx hb dX7_breakBeams_41 ?_
    refine lv_iconst (v := 1) hx hb dX7_breakBeams_42 (by decide) ?_
    refine lv_iand hx hb dX7_breakBeams_43 ?_
    refine lv_iadd hx hb dX7_breakBeams_44 ?_
    refine va_put (D := G) (ci := 7) (v := .int ((g 9) + ((b0 >>> (1 &&& 31)) &&& 1))) (ty := .int) (C := RX7) (T := TX7) (N := 8) hx hb hts hin_X7 tyX7 tyX7_ok nmX7 hown hK hP hD hS 0 rfl rfl 4 (by decide) k25 (fun _ h9 => h9) rfl (by decide +kernel) rfl rfl (Nat.le_of_ble_eq_true rfl) dX7_breakBeams_45 (fun H locs hP hD hS => ?_)
    replace hP : va_P G vwCl [(h0, ThV (upd (upd (upd g 7 ((g 7) + 1)) 8 ((g 8) + (b0 &&& 1))) 9 ((g 9) + ((b0 >>> (1 &&& 31)) &&& 1))))] H := hP
    replace hD : va_D (inW [(h0, ThV g)]) [(h0, ThV (upd (upd (upd g 7 ((g 7) + 1)) 8 ((g 8) + (b0 &&& 1))) 9 ((g 9) + ((b0 >>> (1 &&& 31)) &&& 1))))] := hD
    refine lv_aload_n hx hb dX7_breakBeams_48 rfl (lv_at hl 0 rfl) ?_
    refine lv_dup hx hb dX7_breakBeams_49 rfl ?_
    refine va_get (D := G) (ci := 7) (v := .int (g 10)) (C := RX7) (T := TX7) (N := 8) hx hb hts hin_X7 hown hK hP 0 rfl rfl 5 (by decide) k28 (fun _ h9 => h9) rfl dX7_breakBeams_50 ?_
    refine lv_iload_n hx hb dX7_breakBeams_53 rfl (lv_at hl 1 rfl) ?_
    refine lv_iconst (v := 2) hx hb dX7_breakBeams_54 (by decide) ?_
    refine lv_ishr hx hb dX7_breakBeams_55 ?_
    refine lv_iconst (v := 1) hx hb dX7_breakBeams_56 (by decide) ?_
    refine lv_iand hx hb dX7_breakBeams_57 ?_
    refine lv_iadd hx hb dX7_breakBeams_58 ?_
    refine va_put (D := G) (ci := 7) (v := .int ((g 10) + ((b0 >>> (2 &&& 31)) &&& 1))) (ty := .int) (C := RX7) (T := TX7) (N := 8) hx hb hts hin_X7 tyX7 tyX7_ok nmX7 hown hK hP hD hS 0 rfl rfl 5 (by decide) k28 (fun _ h9 => h9) rfl (by decide +kernel) rfl rfl (Nat.le_of_ble_eq_true rfl) dX7_breakBeams_59 (fun H locs hP hD hS => ?_)
    replace hP : va_P G vwCl [(h0, ThV (upd (upd (upd (upd g 7 ((g 7) + 1)) 8 ((g 8) + (b0 &&& 1))) 9 ((g 9) + ((b0 >>> (1 &&& 31)) &&& 1))) 10 ((g 10) + ((b0 >>> (2 &&& 31)) &&& 1))))] H := hP
    replace hD : va_D (inW [(h0, ThV g)]) [(h0, ThV (upd (upd (upd (upd g 7 ((g 7) + 1)) 8 ((g 8) + (b0 &&& 1))) 9 ((g 9) + ((b0 >>> (1 &&& 31)) &&& 1))) 10 ((g 10) + ((b0 >>> (2 &&& 31)) &&& 1))))] := hD
    refine lv_aload_n hx hb dX7_breakBeams_62 rfl (lv_at hl 0 rfl) ?_
    refine lv_iconst (v := 0) hx hb dX7_breakBeams_63 (by decide) ?_
    refine va_put (D := G) (ci := 7) (v := .int 0) (ty := .int) (C := RX7) (T := TX7) (N := 8) hx hb hts hin_X7 tyX7 tyX7_ok nmX7 hown hK hP hD hS 0 rfl rfl 6 (by decide) k31 (fun _ h9 => h9) rfl (by decide +kernel) rfl rfl (Nat.le_of_ble_eq_true rfl) dX7_breakBeams_64 (fun H locs hP hD hS => ?_)
    replace hP : va_P G vwCl [(h0, ThV (upd (upd (upd (upd (upd g 7 ((g 7) + 1)) 8 ((g 8) + (b0 &&& 1))) 9 ((g 9) + ((b0 >>> (1 &&& 31)) &&& 1))) 10 ((g 10) + ((b0 >>> (2 &&& 31)) &&& 1))) 11 0))] H := hP
    replace hD : va_D (inW [(h0, ThV g)]) [(h0, ThV (upd (upd (upd (upd (upd g 7 ((g 7) + 1)) 8 ((g 8) + (b0 &&& 1))) 9 ((g 9) + ((b0 >>> (1 &&& 31)) &&& 1))) 10 ((g 10) + ((b0 >>> (2 &&& 31)) &&& 1))) 11 0))] := hD
    exact en_wv hx hb hr hlocks hS (by first | exact hP | (simp only [breakG, if_neg c_4]; exact hP)) dX7_breakBeams_67
  · skip
    refine lv_aload_n hx hb dX7_breakBeams_7 rfl (lv_at hl 0 rfl) ?_
    refine lv_iload_n hx hb dX7_breakBeams_8 rfl (lv_at hl 2 rfl) ?_
    refine wr_v (ws' := [(h0, ThV (beginG g t0))]) (rV (rest := []) ⟨hx, hb, hml, hown, hts⟩ (cX7_begin_ok l G cA h0 g t0) (cwV 1 hts gX7_breakBeams_X7_begin rfl rfl rfl mdX7_begin ⟨Nat.le_of_ble_eq_true rfl, Nat.le_of_ble_eq_true rfl⟩) hE (hP.sub (ws' := [(h0, ThV g)]) [0] rfl) (hD.sub (ws' := [(h0, ThV g)]) [0] (by decide) rfl) (q0 := 0) (ci := 7) rfl rfl rfl hl rfl (Nat.le_of_ble_eq_true rfl) dX7_breakBeams_9 ⟨Nat.le_of_ble_eq_true rfl, Nat.le_of_ble_eq_true rfl⟩) hS hP hD [0] rfl rfl [] [] rfl rfl rfl rfl (fun H locs hP hD hS => ?_)
    refine lv_aload_n hx hb dX7_breakBeams_12 rfl (lv_at hl 0 rfl) ?_
    refine lv_dup hx hb dX7_breakBeams_13 rfl ?_
    refine va_get (D := G) (ci := 7) (v := .int ((beginG g t0) 7)) (C := RX7) (T := TX7) (N := 8) hx hb hts hin_X7 hown hK hP 0 rfl rfl 2 (by decide) k19 (fun _ h9 => h9) rfl dX7_breakBeams_14 ?_
    refine lv_iconst (v := 1) hx hb dX7_breakBeams_17 (by decide) ?_
    refine lv_iadd hx hb dX7_breakBeams_18 ?_
    refine va_put (D := G) (ci := 7) (v := .int (((beginG g t0) 7) + 1)) (ty := .int) (C := RX7) (T := TX7) (N := 8) hx hb hts hin_X7 tyX7 tyX7_ok nmX7 hown hK hP hD hS 0 rfl rfl 2 (by decide) k19 (fun _ h9 => h9) rfl (by decide +kernel) rfl rfl (Nat.le_of_ble_eq_true rfl) dX7_breakBeams_19 (fun H locs hP hD hS => ?_)
    replace hP : va_P G vwCl [(h0, ThV (upd (beginG g t0) 7 (((beginG g t0) 7) + 1)))] H := hP
    replace hD : va_D (inW [(h0, ThV g)]) [(h0, ThV (upd (beginG g t0) 7 (((beginG g t0) 7) + 1)))] := hD
    refine lv_aload_n hx hb dX7_breakBeams_22 rfl (lv_at hl 0 rfl) ?_
    refine lv_dup hx hb dX7_breakBeams_23 rfl ?_
    refine va_get (D := G) (ci := 7) (v := .int ((beginG g t0) 8)) (C := RX7) (T := TX7) (N := 8) hx hb hts hin_X7 hown hK hP 0 rfl rfl 3 (by decide) k22 (fun _ h9 => h9) rfl dX7_breakBeams_24 ?_
    refine lv_iload_n hx hb dX7_breakBeams_27 rfl (lv_at hl 1 rfl) ?_
    refine lv_iconst (v := 1) hx hb dX7_breakBeams_28 (by decide) ?_
    refine lv_iand hx hb dX7_breakBeams_29 ?_
    refine lv_iadd hx hb dX7_breakBeams_30 ?_
    refine va_put (D := G) (ci := 7) (v := .int (((beginG g t0) 8) + (b0 &&& 1))) (ty := .int) (C := RX7) (T := TX7) (N := 8) hx hb hts hin_X7 tyX7 tyX7_ok nmX7 hown hK hP hD hS 0 rfl rfl 3 (by decide) k22 (fun _ h9 => h9) rfl (by decide +kernel) rfl rfl (Nat.le_of_ble_eq_true rfl) dX7_breakBeams_31 (fun H locs hP hD hS => ?_)
    replace hP : va_P G vwCl [(h0, ThV (upd (upd (beginG g t0) 7 (((beginG g t0) 7) + 1)) 8 (((beginG g t0) 8) + (b0 &&& 1))))] H := hP
    replace hD : va_D (inW [(h0, ThV g)]) [(h0, ThV (upd (upd (beginG g t0) 7 (((beginG g t0) 7) + 1)) 8 (((beginG g t0) 8) + (b0 &&& 1))))] := hD
    refine lv_aload_n hx hb dX7_breakBeams_34 rfl (lv_at hl 0 rfl) ?_
    refine lv_dup hx hb dX7_breakBeams_35 rfl ?_
    refine va_get (D := G) (ci := 7) (v := .int ((beginG g t0) 9)) (C := RX7) (T := TX7) (N := 8) hx hb hts hin_X7 hown hK hP 0 rfl rfl 4 (by decide) k25 (fun _ h9 => h9) rfl dX7_breakBeams_36 ?_
    refine lv_iload_n hx hb dX7_breakBeams_39 rfl (lv_at hl 1 rfl) ?_
    refine lv_iconst (v := 1) hx hb dX7_breakBeams_40 (by decide) ?_
    refine lv_ishr hx hb dX7_breakBeams_41 ?_
    refine lv_iconst (v := 1) hx hb dX7_breakBeams_42 (by decide) ?_
    refine lv_iand hx hb dX7_breakBeams_43 ?_
    refine lv_iadd hx hb dX7_breakBeams_44 ?_
    refine va_put (D := G) (ci := 7) (v := .int (((beginG g t0) 9) + ((b0 >>> (1 &&& 31)) &&& 1))) (ty := .int) (C := RX7) (T := TX7) (N := 8) hx hb hts hin_X7 tyX7 tyX7_ok nmX7 hown hK hP hD hS 0 rfl rfl 4 (by decide) k25 (fun _ h9 => h9) rfl (by decide +kernel) rfl rfl (Nat.le_of_ble_eq_true rfl) dX7_breakBeams_45 (fun H locs hP hD hS => ?_)
    replace hP : va_P G vwCl [(h0, ThV (upd (upd (upd (beginG g t0) 7 (((beginG g t0) 7) + 1)) 8 (((beginG g t0) 8) + (b0 &&& 1))) 9 (((beginG g t0) 9) + ((b0 >>> (1 &&& 31)) &&& 1))))] H := hP
    replace hD : va_D (inW [(h0, ThV g)]) [(h0, ThV (upd (upd (upd (beginG g t0) 7 (((beginG g t0) 7) + 1)) 8 (((beginG g t0) 8) + (b0 &&& 1))) 9 (((beginG g t0) 9) + ((b0 >>> (1 &&& 31)) &&& 1))))] := hD
    refine lv_aload_n hx hb dX7_breakBeams_48 rfl (lv_at hl 0 rfl) ?_
    refine lv_dup hx hb dX7_breakBeams_49 rfl ?_
    refine va_get (D := G) (ci := 7) (v := .int ((beginG g t0) 10)) (C := RX7) (T := TX7) (N := 8) hx hb hts hin_X7 hown hK hP 0 rfl rfl 5 (by decide) k28 (fun _ h9 => h9) rfl dX7_breakBeams_50 ?_
    refine lv_iload_n hx hb dX7_breakBeams_53 rfl (lv_at hl 1 rfl) ?_
    refine lv_iconst (v := 2) hx hb dX7_breakBeams_54 (by decide) ?_
    refine lv_ishr hx hb dX7_breakBeams_55 ?_
    refine lv_iconst (v := 1) hx hb dX7_breakBeams_56 (by decide) ?_
    refine lv_iand hx hb dX7_breakBeams_57 ?_
    refine lv_iadd hx hb dX7_breakBeams_58 ?_
    refine va_put (D := G) (ci := 7) (v := .int (((beginG g t0) 10) + ((b0 >>> (2 &&& 31)) &&& 1))) (ty := .int) (C := RX7) (T := TX7) (N := 8) hx hb hts hin_X7 tyX7 tyX7_ok nmX7 hown hK hP hD hS 0 rfl rfl 5 (by decide) k28 (fun _ h9 => h9) rfl (by decide +kernel) rfl rfl (Nat.le_of_ble_eq_true rfl) dX7_breakBeams_59 (fun H locs hP hD hS => ?_)
    replace hP : va_P G vwCl [(h0, ThV (upd (upd (upd (upd (beginG g t0) 7 (((beginG g t0) 7) + 1)) 8 (((beginG g t0) 8) + (b0 &&& 1))) 9 (((beginG g t0) 9) + ((b0 >>> (1 &&& 31)) &&& 1))) 10 (((beginG g t0) 10) + ((b0 >>> (2 &&& 31)) &&& 1))))] H := hP
    replace hD : va_D (inW [(h0, ThV g)]) [(h0, ThV (upd (upd (upd (upd (beginG g t0) 7 (((beginG g t0) 7) + 1)) 8 (((beginG g t0) 8) + (b0 &&& 1))) 9 (((beginG g t0) 9) + ((b0 >>> (1 &&& 31)) &&& 1))) 10 (((beginG g t0) 10) + ((b0 >>> (2 &&& 31)) &&& 1))))] := hD
    refine lv_aload_n hx hb dX7_breakBeams_62 rfl (lv_at hl 0 rfl) ?_
    refine lv_iconst (v := 0) hx hb dX7_breakBeams_63 (by decide) ?_
    refine va_put (D := G) (ci := 7) (v := .int 0) (ty := .int) (C := RX7) (T := TX7) (N := 8) hx hb hts hin_X7 tyX7 tyX7_ok nmX7 hown hK hP hD hS 0 rfl rfl 6 (by decide) k31 (fun _ h9 => h9) rfl (by decide +kernel) rfl rfl (Nat.le_of_ble_eq_true rfl) dX7_breakBeams_64 (fun H locs hP hD hS => ?_)
    replace hP : va_P G vwCl [(h0, ThV (upd (upd (upd (upd (upd (beginG g t0) 7 (((beginG g t0) 7) + 1)) 8 (((beginG g t0) 8) + (b0 &&& 1))) 9 (((beginG g t0) 9) + ((b0 >>> (1 &&& 31)) &&& 1))) 10 (((beginG g t0) 10) + ((b0 >>> (2 &&& 31)) &&& 1))) 11 0))] H := hP
    replace hD : va_D (inW [(h0, ThV g)]) [(h0, ThV (upd (upd (upd (upd (upd (beginG g t0) 7 (((beginG g t0) 7) + 1)) 8 (((beginG g t0) 8) + (b0 &&& 1))) 9 (((beginG g t0) 9) + ((b0 >>> (1 &&& 31)) &&& 1))) 10 (((beginG g t0) 10) + ((b0 >>> (2 &&& 31)) &&& 1))) 11 0))] := hD
    exact en_wv hx hb hr hlocks hS (by first | exact hP | (simp only [breakG, if_pos c_4]; exact hP)) dX7_breakBeams_67
set_option maxHeartbeats 4000000 in
set_option maxRecDepth 100000 in
/-- Thing.endsInClearTick(gap) -/
theorem cX7_endsInClearTick_ok (l : Launch) (G : va_G) (cA : Nat → ClassId) (h0 : Nat) (g : GG) (p0 : Int32) : Wi l yX7_endsInClearTick wsX7_endsInClearTick ({ frames := 0, cells := 0, slots := 0, locals := 0 } : Room) G cA [.ref h0, .int p0] [(h0, ThV g)] (fun r => r = clearR g p0) [(h0, ThV (clearG g))] := by
  refine ofW2 (cc := cX7_endsInClearTick) (maxL := 2) (ret := (some .boolean)) (own := RX7) (by decide) rfl rfl (Nat.le_of_ble_eq_true rfl) rfl ?_
  intro p e s m below meth c ls hx hb hml hr hts hown hlocks hv hl
  obtain ⟨hP, hE, hD0⟩ := hv
  have hK := hE.1
  have hD := dself hD0
  generalize hH0 : s.heap = H at hP ⊢
  have hS : va_S (inW [(h0, ThV g)]) s.heap H [] := hH0 ▸ va_S.rf
  generalize ([] : List Loc) = locs at hS ⊢
  clear hH0 hD0
  replace hl : lv_has ls 2 [(0, .ref h0), (1, .int p0)] := hl
  have hin_X7 : ∀ q ∈ u_ws RX7 TX7 8, q ∈ wsX7_endsInClearTick := by decide +kernel
  have k9 := hts (.fieldLink RX7 9 "LiftBeams$Thing" "there" "Z") (by decide +kernel)
  have k31 := hts (.fieldLink RX7 31 "LiftBeams$Thing" "clear" "I") (by decide +kernel)
  refine lv_aload_n hx hb dX7_endsInClearTick_0 rfl (lv_at hl 0 rfl) ?_
  refine va_get (D := G) (ci := 7) (v := .int (g 5)) (C := RX7) (T := TX7) (N := 8) hx hb hts hin_X7 hown hK hP 0 rfl rfl 0 (by decide) k9 (fun _ h9 => h9) rfl dX7_endsInClearTick_1 ?_
  refine lv_if_ne (tgt := 9) hx hb dX7_endsInClearTick_4 (by decide) (fun c_4 => ?_) (fun c_4 => ?_)
  · skip
    refine lv_aload_n hx hb dX7_endsInClearTick_9 rfl (lv_at hl 0 rfl) ?_
    refine lv_dup hx hb dX7_endsInClearTick_10 rfl ?_
    refine va_get (D := G) (ci := 7) (v := .int (g 11)) (C := RX7) (T := TX7) (N := 8) hx hb hts hin_X7 hown hK hP 0 rfl rfl 6 (by decide) k31 (fun _ h9 => h9) rfl dX7_endsInClearTick_11 ?_
    refine lv_iconst (v := 1) hx hb dX7_endsInClearTick_14 (by decide) ?_
    refine lv_iadd hx hb dX7_endsInClearTick_15 ?_
    refine va_put (D := G) (ci := 7) (v := .int ((g 11) + 1)) (ty := .int) (C := RX7) (T := TX7) (N := 8) hx hb hts hin_X7 tyX7 tyX7_ok nmX7 hown hK hP hD hS 0 rfl rfl 6 (by decide) k31 (fun _ h9 => h9) rfl (by decide +kernel) rfl rfl (Nat.le_of_ble_eq_true rfl) dX7_endsInClearTick_16 (fun H locs hP hD hS => ?_)
    replace hP : va_P G vwCl [(h0, ThV (upd g 11 ((g 11) + 1)))] H := hP
    replace hD : va_D (inW [(h0, ThV g)]) [(h0, ThV (upd g 11 ((g 11) + 1)))] := hD
    refine lv_aload_n hx hb dX7_endsInClearTick_19 rfl (lv_at hl 0 rfl) ?_
    refine va_get (D := G) (ci := 7) (v := .int ((g 11) + 1)) (C := RX7) (T := TX7) (N := 8) hx hb hts hin_X7 hown hK hP 0 rfl rfl 6 (by decide) k31 (fun _ h9 => h9) rfl dX7_endsInClearTick_20 ?_
    refine lv_iload_n hx hb dX7_endsInClearTick_23 rfl (lv_at hl 1 rfl) ?_
    refine lv_icmp_lt (tgt := 31) hx hb dX7_endsInClearTick_24 (by decide) (fun c_24 => ?_) (fun c_24 => ?_)
    · skip
      refine lv_iconst (v := 0) hx hb dX7_endsInClearTick_31 (by decide) ?_
      exact en_wi hx hb hr rfl hlocks hS (by first | rfl | (simp only [clearR, clearG, if_neg c_4, if_pos c_24]; done) | (simp only [clearR, clearG, if_neg c_4, if_pos c_24]; rfl) | (simp only [clearR, clearG, if_neg c_4, if_pos c_24]; decide)) (by first | exact hP | (simp only [clearR, clearG, if_neg c_4, if_pos c_24]; exact hP)) dX7_endsInClearTick_32
    · skip
      refine lv_iconst (v := 1) hx hb dX7_endsInClearTick_27 (by decide) ?_
      refine lv_goto (tgt := 32) hx hb dX7_endsInClearTick_28 (by decide) ?_
      exact en_wi hx hb hr rfl hlocks hS (by first | rfl | (simp only [clearR, clearG, if_neg c_4, if_neg c_24]; done) | (simp only [clearR, clearG, if_neg c_4, if_neg c_24]; rfl) | (simp only [clearR, clearG, if_neg c_4, if_neg c_24]; decide)) (by first | exact hP | (simp only [clearR, clearG, if_neg c_4, if_neg c_24]; exact hP)) dX7_endsInClearTick_32
  · skip
    refine lv_iconst (v := 0) hx hb dX7_endsInClearTick_7 (by decide) ?_
    exact en_wi hx hb hr rfl hlocks hS (by first | rfl | (simp only [clearR, clearG, if_pos c_4]; done) | (simp only [clearR, clearG, if_pos c_4]; rfl) | (simp only [clearR, clearG, if_pos c_4]; decide)) (by first | exact hP | (simp only [clearR, clearG, if_pos c_4]; exact hP)) dX7_endsInClearTick_8
set_option maxHeartbeats 4000000 in
set_option maxRecDepth 100000 in
/-- Thing.beamsBroken() -/
theorem cX7_beamsBroken_ok (l : Launch) (G : va_G) (cA : Nat → ClassId) (h0 : Nat) (g : GG) : Ri l yX7_beamsBroken wsX7_beamsBroken ({ frames := 1, cells := 0, slots := 0, locals := 20 } : Room) G cA [.ref h0] [(h0, ThV g)] (fun r => r = bbF g) := by
  refine ofW2 (cc := cX7_beamsBroken) (maxL := 1) (ret := (some .int)) (own := RX7) (by decide) rfl rfl (Nat.le_of_ble_eq_true rfl) rfl ?_
  intro p e s m below meth c ls hx hb hml hr hts hown hlocks hv hl
  obtain ⟨hP, hE, hD0⟩ := hv
  have hK := hE.1
  have hD := hD0
  generalize hH0 : s.heap = H at hP ⊢
  have hS : va_S (fun _ => False) s.heap H [] := hH0 ▸ va_S.rf
  generalize ([] : List Loc) = locs at hS ⊢
  clear hH0 hD0
  replace hl : lv_has ls 1 [(0, .ref h0)] := hl
  have hin_X7 : ∀ q ∈ u_ws RX7 TX7 8, q ∈ wsX7_beamsBroken := by decide +kernel
  have k22 := hts (.fieldLink RX7 22 "LiftBeams$Thing" "low" "I") (by decide +kernel)
  have k25 := hts (.fieldLink RX7 25 "LiftBeams$Thing" "middle" "I") (by decide +kernel)
  have k28 := hts (.fieldLink RX7 28 "LiftBeams$Thing" "high" "I") (by decide +kernel)
  refine lv_aload_n hx hb dX7_beamsBroken_0 rfl (lv_at hl 0 rfl) ?_
  refine va_get (D := G) (ci := 7) (v := .int (g 8)) (C := RX7) (T := TX7) (N := 8) hx hb hts hin_X7 hown hK hP 0 rfl rfl 3 (by decide) k22 (fun _ h9 => h9) rfl dX7_beamsBroken_1 ?_
  refine lv_if_le (tgt := 11) hx hb dX7_beamsBroken_4 (by decide) (fun c_4 => ?_) (fun c_4 => ?_)
  · skip
    refine lv_iconst (v := 0) hx hb dX7_beamsBroken_11 (by decide) ?_
    refine rd_i (rSN (rest := []) ⟨hx, hb, hml, hown, hts⟩ (cX8_oneIf_ok l G cA 0) ⟨va_cnB 1 hts gX7_beamsBroken_X8_oneIf_n54 rfl rfl rfl hE.2.2 (hts (.initialized RX8) (by decide +kernel)) mdX8_oneIf.2 ⟨Nat.le_of_ble_eq_true rfl, Nat.le_of_ble_eq_true rfl⟩, hts (.static yX8_oneIf) (by decide +kernel), trivial⟩ hE (hP.sub (ws' := []) [] rfl) (hD.sub (ws' := []) [] (by decide) rfl) rfl hl rfl (Nat.le_of_ble_eq_true rfl) dX7_beamsBroken_12 ⟨Nat.le_of_ble_eq_true rfl, Nat.le_of_ble_eq_true rfl⟩) hS hP (fun r_12 H locs hr_12 hP hS => ?_)
    subst hr_12
    refine lv_iconst (v := 2) hx hb dX7_beamsBroken_15 (by decide) ?_
    refine lv_aload_n hx hb dX7_beamsBroken_16 rfl (lv_at hl 0 rfl) ?_
    refine va_get (D := G) (ci := 7) (v := .int (g 9)) (C := RX7) (T := TX7) (N := 8) hx hb hts hin_X7 hown hK hP 0 rfl rfl 4 (by decide) k25 (fun _ h9 => h9) rfl dX7_beamsBroken_17 ?_
    refine lv_if_le (tgt := 27) hx hb dX7_beamsBroken_20 (by decide) (fun c_20 => ?_) (fun c_20 => ?_)
    · skip
      refine lv_iconst (v := 0) hx hb dX7_beamsBroken_27 (by decide) ?_
      refine rd_i (rSN (rest := [.int 2, .int (oneF 0)]) ⟨hx, hb, hml, hown, hts⟩ (cX8_oneIf_ok l G cA 0) ⟨va_cnB 1 hts gX7_beamsBroken_X8_oneIf_n54 rfl rfl rfl hE.2.2 (hts (.initialized RX8) (by decide +kernel)) mdX8_oneIf.2 ⟨Nat.le_of_ble_eq_true rfl, Nat.le_of_ble_eq_true rfl⟩, hts (.static yX8_oneIf) (by decide +kernel), trivial⟩ hE (hP.sub (ws' := []) [] rfl) (hD.sub (ws' := []) [] (by decide) rfl) rfl hl rfl (Nat.le_of_ble_eq_true rfl) dX7_beamsBroken_28 ⟨Nat.le_of_ble_eq_true rfl, Nat.le_of_ble_eq_true rfl⟩) hS hP (fun r_28 H locs hr_28 hP hS => ?_)
      subst hr_28
      refine lv_imul hx hb dX7_beamsBroken_31 ?_
      refine lv_iadd hx hb dX7_beamsBroken_32 ?_
      refine lv_iconst (v := 4) hx hb dX7_beamsBroken_33 (by decide) ?_
      refine lv_aload_n hx hb dX7_beamsBroken_34 rfl (lv_at hl 0 rfl) ?_
      refine va_get (D := G) (ci := 7) (v := .int (g 10)) (C := RX7) (T := TX7) (N := 8) hx hb hts hin_X7 hown hK hP 0 rfl rfl 5 (by decide) k28 (fun _ h9 => h9) rfl dX7_beamsBroken_35 ?_
      refine lv_if_le (tgt := 45) hx hb dX7_beamsBroken_38 (by decide) (fun c_38 => ?_) (fun c_38 => ?_)
      · skip
        refine lv_iconst (v := 0) hx hb dX7_beamsBroken_45 (by decide) ?_
        refine rd_i (rSN (rest := [.int 4, .int ((oneF 0) + (2 * (oneF 0)))]) ⟨hx, hb, hml, hown, hts⟩ (cX8_oneIf_ok l G cA 0) ⟨va_cnB 1 hts gX7_beamsBroken_X8_oneIf_n54 rfl rfl rfl hE.2.2 (hts (.initialized RX8) (by decide +kernel)) mdX8_oneIf.2 ⟨Nat.le_of_ble_eq_true rfl, Nat.le_of_ble_eq_true rfl⟩, hts (.static yX8_oneIf) (by decide +kernel), trivial⟩ hE (hP.sub (ws' := []) [] rfl) (hD.sub (ws' := []) [] (by decide) rfl) rfl hl rfl (Nat.le_of_ble_eq_true rfl) dX7_beamsBroken_46 ⟨Nat.le_of_ble_eq_true rfl, Nat.le_of_ble_eq_true rfl⟩) hS hP (fun r_46 H locs hr_46 hP hS => ?_)
        subst hr_46
        refine lv_imul hx hb dX7_beamsBroken_49 ?_
        refine lv_iadd hx hb dX7_beamsBroken_50 ?_
        exact en_ri hx hb hr rfl hlocks hS (by first | rfl | (simp only [bbF, oneF, if_pos c_4, if_pos c_20, if_pos c_38]; done) | (simp only [bbF, oneF, if_pos c_4, if_pos c_20, if_pos c_38]; rfl) | (simp only [bbF, oneF, if_pos c_4, if_pos c_20, if_pos c_38]; decide)) dX7_beamsBroken_51
      · skip
        refine lv_iconst (v := 1) hx hb dX7_beamsBroken_41 (by decide) ?_
        refine lv_goto (tgt := 46) hx hb dX7_beamsBroken_42 (by decide) ?_
        refine rd_i (rSN (rest := [.int 4, .int ((oneF 0) + (2 * (oneF 0)))]) ⟨hx, hb, hml, hown, hts⟩ (cX8_oneIf_ok l G cA 1) ⟨va_cnB 1 hts gX7_beamsBroken_X8_oneIf_n54 rfl rfl rfl hE.2.2 (hts (.initialized RX8) (by decide +kernel)) mdX8_oneIf.2 ⟨Nat.le_of_ble_eq_true rfl, Nat.le_of_ble_eq_true rfl⟩, hts (.static yX8_oneIf) (by decide +kernel), trivial⟩ hE (hP.sub (ws' := []) [] rfl) (hD.sub (ws' := []) [] (by decide) rfl) rfl hl rfl (Nat.le_of_ble_eq_true rfl) dX7_beamsBroken_46 ⟨Nat.le_of_ble_eq_true rfl, Nat.le_of_ble_eq_true rfl⟩) hS hP (fun r_46_1 H locs hr_46_1 hP hS => ?_)
        subst hr_46_1
        refine lv_imul hx hb dX7_beamsBroken_49 ?_
        refine lv_iadd hx hb dX7_beamsBroken_50 ?_
        exact en_ri hx hb hr rfl hlocks hS (by first | rfl | (simp only [bbF, oneF, if_pos c_4, if_pos c_20, if_neg c_38]; done) | (simp only [bbF, oneF, if_pos c_4, if_pos c_20, if_neg c_38]; rfl) | (simp only [bbF, oneF, if_pos c_4, if_pos c_20, if_neg c_38]; decide)) dX7_beamsBroken_51
    · skip
      refine lv_iconst (v := 1) hx hb dX7_beamsBroken_23 (by decide) ?_
      refine lv_goto (tgt := 28) hx hb dX7_beamsBroken_24 (by decide) ?_
      refine rd_i (rSN (rest := [.int 2, .int (oneF 0)]) ⟨hx, hb, hml, hown, hts⟩ (cX8_oneIf_ok l G cA 1) ⟨va_cnB 1 hts gX7_beamsBroken_X8_oneIf_n54 rfl rfl rfl hE.2.2 (hts (.initialized RX8) (by decide +kernel)) mdX8_oneIf.2 ⟨Nat.le_of_ble_eq_true rfl, Nat.le_of_ble_eq_true rfl⟩, hts (.static yX8_oneIf) (by decide +kernel), trivial⟩ hE (hP.sub (ws' := []) [] rfl) (hD.sub (ws' := []) [] (by decide) rfl) rfl hl rfl (Nat.le_of_ble_eq_true rfl) dX7_beamsBroken_28 ⟨Nat.le_of_ble_eq_true rfl, Nat.le_of_ble_eq_true rfl⟩) hS hP (fun r_28_1 H locs hr_28_1 hP hS => ?_)
      subst hr_28_1
      refine lv_imul hx hb dX7_beamsBroken_31 ?_
      refine lv_iadd hx hb dX7_beamsBroken_32 ?_
      refine lv_iconst (v := 4) hx hb dX7_beamsBroken_33 (by decide) ?_
      refine lv_aload_n hx hb dX7_beamsBroken_34 rfl (lv_at hl 0 rfl) ?_
      refine va_get (D := G) (ci := 7) (v := .int (g 10)) (C := RX7) (T := TX7) (N := 8) hx hb hts hin_X7 hown hK hP 0 rfl rfl 5 (by decide) k28 (fun _ h9 => h9) rfl dX7_beamsBroken_35 ?_
      refine lv_if_le (tgt := 45) hx hb dX7_beamsBroken_38 (by decide) (fun c_38_1 => ?_) (fun c_38_1 => ?_)
      · skip
        refine lv_iconst (v := 0) hx hb dX7_beamsBroken_45 (by decide) ?_
        refine rd_i (rSN (rest := [.int 4, .int ((oneF 0) + (2 * (oneF 1)))]) ⟨hx, hb, hml, hown, hts⟩ (cX8_oneIf_ok l G cA 0) ⟨va_cnB 1 hts gX7_beamsBroken_X8_oneIf_n54 rfl rfl rfl hE.2.2 (hts (.initialized RX8) (by decide +kernel)) mdX8_oneIf.2 ⟨Nat.le_of_ble_eq_true rfl, Nat.le_of_ble_eq_true rfl⟩, hts (.static yX8_oneIf) (by decide +kernel), trivial⟩ hE (hP.sub (ws' := []) [] rfl) (hD.sub (ws' := []) [] (by decide) rfl) rfl hl rfl (Nat.le_of_ble_eq_true rfl) dX7_beamsBroken_46 ⟨Nat.le_of_ble_eq_true rfl, Nat.le_of_ble_eq_true rfl⟩) hS hP (fun r_46_2 H locs hr_46_2 hP hS => ?_)
        subst hr_46_2
        refine lv_imul hx hb dX7_beamsBroken_49 ?_
        refine lv_iadd hx hb dX7_beamsBroken_50 ?_
        exact en_ri hx hb hr rfl hlocks hS (by first | rfl | (simp only [bbF, oneF, if_pos c_4, if_neg c_20, if_pos c_38_1]; done) | (simp only [bbF, oneF, if_pos c_4, if_neg c_20, if_pos c_38_1]; rfl) | (simp only [bbF, oneF, if_pos c_4, if_neg c_20, if_pos c_38_1]; decide)) dX7_beamsBroken_51
      · skip
        refine lv_iconst (v := 1) hx hb dX7_beamsBroken_41 (by decide) ?_
        refine lv_goto (tgt := 46) hx hb dX7_beamsBroken_42 (by decide) ?_
        refine rd_i (rSN (rest := [.int 4, .int ((oneF 0) + (2 * (oneF 1)))]) ⟨hx, hb, hml, hown, hts⟩ (cX8_oneIf_ok l G cA 1) ⟨va_cnB 1 hts gX7_beamsBroken_X8_oneIf_n54 rfl rfl rfl hE.2.2 (hts (.initialized RX8) (by decide +kernel)) mdX8_oneIf.2 ⟨Nat.le_of_ble_eq_true rfl, Nat.le_of_ble_eq_true rfl⟩, hts (.static yX8_oneIf) (by decide +kernel), trivial⟩ hE (hP.sub (ws' := []) [] rfl) (hD.sub (ws' := []) [] (by decide) rfl) rfl hl rfl (Nat.le_of_ble_eq_true rfl) dX7_beamsBroken_46 ⟨Nat.le_of_ble_eq_true rfl, Nat.le_of_ble_eq_true rfl⟩) hS hP (fun r_46_3 H locs hr_46_3 hP hS => ?_)
        subst hr_46_3
        refine lv_imul hx hb dX7_beamsBroken_49 ?_
        refine lv_iadd hx hb dX7_beamsBroken_50 ?_
        exact en_ri hx hb hr rfl hlocks hS (by first | rfl | (simp only [bbF, oneF, if_pos c_4, if_neg c_20, if_neg c_38_1]; done) | (simp only [bbF, oneF, if_pos c_4, if_neg c_20, if_neg c_38_1]; rfl) | (simp only [bbF, oneF, if_pos c_4, if_neg c_20, if_neg c_38_1]; decide)) dX7_beamsBroken_51
  · skip
    refine lv_iconst (v := 1) hx hb dX7_beamsBroken_7 (by decide) ?_
    refine lv_goto (tgt := 12) hx hb dX7_beamsBroken_8 (by decide) ?_
    refine rd_i (rSN (rest := []) ⟨hx, hb, hml, hown, hts⟩ (cX8_oneIf_ok l G cA 1) ⟨va_cnB 1 hts gX7_beamsBroken_X8_oneIf_n54 rfl rfl rfl hE.2.2 (hts (.initialized RX8) (by decide +kernel)) mdX8_oneIf.2 ⟨Nat.le_of_ble_eq_true rfl, Nat.le_of_ble_eq_true rfl⟩, hts (.static yX8_oneIf) (by decide +kernel), trivial⟩ hE (hP.sub (ws' := []) [] rfl) (hD.sub (ws' := []) [] (by decide) rfl) rfl hl rfl (Nat.le_of_ble_eq_true rfl) dX7_beamsBroken_12 ⟨Nat.le_of_ble_eq_true rfl, Nat.le_of_ble_eq_true rfl⟩) hS hP (fun r_12_1 H locs hr_12_1 hP hS => ?_)
    subst hr_12_1
    refine lv_iconst (v := 2) hx hb dX7_beamsBroken_15 (by decide) ?_
    refine lv_aload_n hx hb dX7_beamsBroken_16 rfl (lv_at hl 0 rfl) ?_
    refine va_get (D := G) (ci := 7) (v := .int (g 9)) (C := RX7) (T := TX7) (N := 8) hx hb hts hin_X7 hown hK hP 0 rfl rfl 4 (by decide) k25 (fun _ h9 => h9) rfl dX7_beamsBroken_17 ?_
    refine lv_if_le (tgt := 27) hx hb dX7_beamsBroken_20 (by decide) (fun c_20_1 => ?_) (fun c_20_1 => ?_)
    · skip
      refine lv_iconst (v := 0) hx hb dX7_beamsBroken_27 (by decide) ?_
      refine rd_i (rSN (rest := [.int 2, .int (oneF 1)]) ⟨hx, hb, hml, hown, hts⟩ (cX8_oneIf_ok l G cA 0) ⟨va_cnB 1 hts gX7_beamsBroken_X8_oneIf_n54 rfl rfl rfl hE.2.2 (hts (.initialized RX8) (by decide +kernel)) mdX8_oneIf.2 ⟨Nat.le_of_ble_eq_true rfl, Nat.le_of_ble_eq_true rfl⟩, hts (.static yX8_oneIf) (by decide +kernel), trivial⟩ hE (hP.sub (ws' := []) [] rfl) (hD.sub (ws' := []) [] (by decide) rfl) rfl hl rfl (Nat.le_of_ble_eq_true rfl) dX7_beamsBroken_28 ⟨Nat.le_of_ble_eq_true rfl, Nat.le_of_ble_eq_true rfl⟩) hS hP (fun r_28_2 H locs hr_28_2 hP hS => ?_)
      subst hr_28_2
      refine lv_imul hx hb dX7_beamsBroken_31 ?_
      refine lv_iadd hx hb dX7_beamsBroken_32 ?_
      refine lv_iconst (v := 4) hx hb dX7_beamsBroken_33 (by decide) ?_
      refine lv_aload_n hx hb dX7_beamsBroken_34 rfl (lv_at hl 0 rfl) ?_
      refine va_get (D := G) (ci := 7) (v := .int (g 10)) (C := RX7) (T := TX7) (N := 8) hx hb hts hin_X7 hown hK hP 0 rfl rfl 5 (by decide) k28 (fun _ h9 => h9) rfl dX7_beamsBroken_35 ?_
      refine lv_if_le (tgt := 45) hx hb dX7_beamsBroken_38 (by decide) (fun c_38_2 => ?_) (fun c_38_2 => ?_)
      · skip
        refine lv_iconst (v := 0) hx hb dX7_beamsBroken_45 (by decide) ?_
        refine rd_i (rSN (rest := [.int 4, .int ((oneF 1) + (2 * (oneF 0)))]) ⟨hx, hb, hml, hown, hts⟩ (cX8_oneIf_ok l G cA 0) ⟨va_cnB 1 hts gX7_beamsBroken_X8_oneIf_n54 rfl rfl rfl hE.2.2 (hts (.initialized RX8) (by decide +kernel)) mdX8_oneIf.2 ⟨Nat.le_of_ble_eq_true rfl, Nat.le_of_ble_eq_true rfl⟩, hts (.static yX8_oneIf) (by decide +kernel), trivial⟩ hE (hP.sub (ws' := []) [] rfl) (hD.sub (ws' := []) [] (by decide) rfl) rfl hl rfl (Nat.le_of_ble_eq_true rfl) dX7_beamsBroken_46 ⟨Nat.le_of_ble_eq_true rfl, Nat.le_of_ble_eq_true rfl⟩) hS hP (fun r_46_4 H locs hr_46_4 hP hS => ?_)
        subst hr_46_4
        refine lv_imul hx hb dX7_beamsBroken_49 ?_
        refine lv_iadd hx hb dX7_beamsBroken_50 ?_
        exact en_ri hx hb hr rfl hlocks hS (by first | rfl | (simp only [bbF, oneF, if_neg c_4, if_pos c_20_1, if_pos c_38_2]; done) | (simp only [bbF, oneF, if_neg c_4, if_pos c_20_1, if_pos c_38_2]; rfl) | (simp only [bbF, oneF, if_neg c_4, if_pos c_20_1, if_pos c_38_2]; decide)) dX7_beamsBroken_51
      · skip
        refine lv_iconst (v := 1) hx hb dX7_beamsBroken_41 (by decide) ?_
        refine lv_goto (tgt := 46) hx hb dX7_beamsBroken_42 (by decide) ?_
        refine rd_i (rSN (rest := [.int 4, .int ((oneF 1) + (2 * (oneF 0)))]) ⟨hx, hb, hml, hown, hts⟩ (cX8_oneIf_ok l G cA 1) ⟨va_cnB 1 hts gX7_beamsBroken_X8_oneIf_n54 rfl rfl rfl hE.2.2 (hts (.initialized RX8) (by decide +kernel)) mdX8_oneIf.2 ⟨Nat.le_of_ble_eq_true rfl, Nat.le_of_ble_eq_true rfl⟩, hts (.static yX8_oneIf) (by decide +kernel), trivial⟩ hE (hP.sub (ws' := []) [] rfl) (hD.sub (ws' := []) [] (by decide) rfl) rfl hl rfl (Nat.le_of_ble_eq_true rfl) dX7_beamsBroken_46 ⟨Nat.le_of_ble_eq_true rfl, Nat.le_of_ble_eq_true rfl⟩) hS hP (fun r_46_5 H locs hr_46_5 hP hS => ?_)
        subst hr_46_5
        refine lv_imul hx hb dX7_beamsBroken_49 ?_
        refine lv_iadd hx hb dX7_beamsBroken_50 ?_
        exact en_ri hx hb hr rfl hlocks hS (by first | rfl | (simp only [bbF, oneF, if_neg c_4, if_pos c_20_1, if_neg c_38_2]; done) | (simp only [bbF, oneF, if_neg c_4, if_pos c_20_1, if_neg c_38_2]; rfl) | (simp only [bbF, oneF, if_neg c_4, if_pos c_20_1, if_neg c_38_2]; decide)) dX7_beamsBroken_51
    · skip
      refine lv_iconst (v := 1) hx hb dX7_beamsBroken_23 (by decide) ?_
      refine lv_goto (tgt := 28) hx hb dX7_beamsBroken_24 (by decide) ?_
      refine rd_i (rSN (rest := [.int 2, .int (oneF 1)]) ⟨hx, hb, hml, hown, hts⟩ (cX8_oneIf_ok l G cA 1) ⟨va_cnB 1 hts gX7_beamsBroken_X8_oneIf_n54 rfl rfl rfl hE.2.2 (hts (.initialized RX8) (by decide +kernel)) mdX8_oneIf.2 ⟨Nat.le_of_ble_eq_true rfl, Nat.le_of_ble_eq_true rfl⟩, hts (.static yX8_oneIf) (by decide +kernel), trivial⟩ hE (hP.sub (ws' := []) [] rfl) (hD.sub (ws' := []) [] (by decide) rfl) rfl hl rfl (Nat.le_of_ble_eq_true rfl) dX7_beamsBroken_28 ⟨Nat.le_of_ble_eq_true rfl, Nat.le_of_ble_eq_true rfl⟩) hS hP (fun r_28_3 H locs hr_28_3 hP hS => ?_)
      subst hr_28_3
      refine lv_imul hx hb dX7_beamsBroken_31 ?_
      refine lv_iadd hx hb dX7_beamsBroken_32 ?_
      refine lv_iconst (v := 4) hx hb dX7_beamsBroken_33 (by decide) ?_
      refine lv_aload_n hx hb dX7_beamsBroken_34 rfl (lv_at hl 0 rfl) ?_
      refine va_get (D := G) (ci := 7) (v := .int (g 10)) (C := RX7) (T := TX7) (N := 8) hx hb hts hin_X7 hown hK hP 0 rfl rfl 5 (by decide) k28 (fun _ h9 => h9) rfl dX7_beamsBroken_35 ?_
      refine lv_if_le (tgt := 45) hx hb dX7_beamsBroken_38 (by decide) (fun c_38_3 => ?_) (fun c_38_3 => ?_)
      · skip
        refine lv_iconst (v := 0) hx hb dX7_beamsBroken_45 (by decide) ?_
        refine rd_i (rSN (rest := [.int 4, .int ((oneF 1) + (2 * (oneF 1)))]) ⟨hx, hb, hml, hown, hts⟩ (cX8_oneIf_ok l G cA 0) ⟨va_cnB 1 hts gX7_beamsBroken_X8_oneIf_n54 rfl rfl rfl hE.2.2 (hts (.initialized RX8) (by decide +kernel)) mdX8_oneIf.2 ⟨Nat.le_of_ble_eq_true rfl, Nat.le_of_ble_eq_true rfl⟩, hts (.static yX8_oneIf) (by decide +kernel), trivial⟩ hE (hP.sub (ws' := []) [] rfl) (hD.sub (ws' := []) [] (by decide) rfl) rfl hl rfl (Nat.le_of_ble_eq_true rfl) dX7_beamsBroken_46 ⟨Nat.le_of_ble_eq_true rfl, Nat.le_of_ble_eq_true rfl⟩) hS hP (fun r_46_6 H locs hr_46_6 hP hS => ?_)
        subst hr_46_6
        refine lv_imul hx hb dX7_beamsBroken_49 ?_
        refine lv_iadd hx hb dX7_beamsBroken_50 ?_
        exact en_ri hx hb hr rfl hlocks hS (by first | rfl | (simp only [bbF, oneF, if_neg c_4, if_neg c_20_1, if_pos c_38_3]; done) | (simp only [bbF, oneF, if_neg c_4, if_neg c_20_1, if_pos c_38_3]; rfl) | (simp only [bbF, oneF, if_neg c_4, if_neg c_20_1, if_pos c_38_3]; decide)) dX7_beamsBroken_51
      · skip
        refine lv_iconst (v := 1) hx hb dX7_beamsBroken_41 (by decide) ?_
        refine lv_goto (tgt := 46) hx hb dX7_beamsBroken_42 (by decide) ?_
        refine rd_i (rSN (rest := [.int 4, .int ((oneF 1) + (2 * (oneF 1)))]) ⟨hx, hb, hml, hown, hts⟩ (cX8_oneIf_ok l G cA 1) ⟨va_cnB 1 hts gX7_beamsBroken_X8_oneIf_n54 rfl rfl rfl hE.2.2 (hts (.initialized RX8) (by decide +kernel)) mdX8_oneIf.2 ⟨Nat.le_of_ble_eq_true rfl, Nat.le_of_ble_eq_true rfl⟩, hts (.static yX8_oneIf) (by decide +kernel), trivial⟩ hE (hP.sub (ws' := []) [] rfl) (hD.sub (ws' := []) [] (by decide) rfl) rfl hl rfl (Nat.le_of_ble_eq_true rfl) dX7_beamsBroken_46 ⟨Nat.le_of_ble_eq_true rfl, Nat.le_of_ble_eq_true rfl⟩) hS hP (fun r_46_7 H locs hr_46_7 hP hS => ?_)
        subst hr_46_7
        refine lv_imul hx hb dX7_beamsBroken_49 ?_
        refine lv_iadd hx hb dX7_beamsBroken_50 ?_
        exact en_ri hx hb hr rfl hlocks hS (by first | rfl | (simp only [bbF, oneF, if_neg c_4, if_neg c_20_1, if_neg c_38_3]; done) | (simp only [bbF, oneF, if_neg c_4, if_neg c_20_1, if_neg c_38_3]; rfl) | (simp only [bbF, oneF, if_neg c_4, if_neg c_20_1, if_neg c_38_3]; decide)) dX7_beamsBroken_51
set_option maxHeartbeats 4000000 in
set_option maxRecDepth 100000 in
/-- Thing.likeness(kind) -/
theorem cX7_likeness_ok (l : Launch) (G : va_G) (cA : Nat → ClassId) (h0 : Nat) (g : GG) (k0 : Int32) (hL : LkOk g) : Rf l yX7_likeness wsX7_likeness ({ frames := 0, cells := 0, slots := 0, locals := 0 } : Room) G cA [.ref h0, .int k0] [(h0, ThV g)] (fun r => r = likeF g k0) := by
  refine ofW2 (cc := cX7_likeness) (maxL := 7) (ret := (some .float)) (own := RX7) (by decide) rfl rfl (Nat.le_of_ble_eq_true rfl) rfl ?_
  intro p e s m below meth c ls hx hb hml hr hts hown hlocks hv hl
  obtain ⟨hP, hE, hD0⟩ := hv
  have hK := hE.1
  have hD := hD0
  generalize hH0 : s.heap = H at hP ⊢
  have hS : va_S (fun _ => False) s.heap H [] := hH0 ▸ va_S.rf
  generalize ([] : List Loc) = locs at hS ⊢
  clear hH0 hD0
  replace hl : lv_has ls 7 [(0, .ref h0), (1, .int k0)] := hl
  have hin_X7 : ∀ q ∈ u_ws RX7 TX7 8, q ∈ wsX7_likeness := by decide +kernel
  have k22 := hts (.fieldLink RX7 22 "LiftBeams$Thing" "low" "I") (by decide +kernel)
  have k25 := hts (.fieldLink RX7 25 "LiftBeams$Thing" "middle" "I") (by decide +kernel)
  have k28 := hts (.fieldLink RX7 28 "LiftBeams$Thing" "high" "I") (by decide +kernel)
  have k19 := hts (.fieldLink RX7 19 "LiftBeams$Thing" "length" "I") (by decide +kernel)
  refine lv_aload_n hx hb dX7_likeness_0 rfl (lv_at hl 0 rfl) ?_
  refine va_get (D := G) (ci := 7) (v := .int (g 8)) (C := RX7) (T := TX7) (N := 8) hx hb hts hin_X7 hown hK hP 0 rfl rfl 3 (by decide) k22 (fun _ h9 => h9) rfl dX7_likeness_1 ?_
  refine lv_aload_n hx hb dX7_likeness_4 rfl (lv_at hl 0 rfl) ?_
  refine va_get (D := G) (ci := 7) (v := .int (g 9)) (C := RX7) (T := TX7) (N := 8) hx hb hts hin_X7 hown hK hP 0 rfl rfl 4 (by decide) k25 (fun _ h9 => h9) rfl dX7_likeness_5 ?_
  refine lv_iadd hx hb dX7_likeness_8 ?_
  refine lv_aload_n hx hb dX7_likeness_9 rfl (lv_at hl 0 rfl) ?_
  refine va_get (D := G) (ci := 7) (v := .int (g 10)) (C := RX7) (T := TX7) (N := 8) hx hb hts hin_X7 hown hK hP 0 rfl rfl 5 (by decide) k28 (fun _ h9 => h9) rfl dX7_likeness_10 ?_
  refine lv_iadd hx hb dX7_likeness_13 ?_
  refine W.eq (g2 := F0 m 14 ls [.int (smF g)]) rfl ?_
  refine lv_istore_n (lv' := [(2, .int (smF g)), (0, .ref h0), (1, .int k0)]) hx hb dX7_likeness_14 rfl hl (by decide) rfl (fun ls hl => ?_)
  refine lv_aload_n hx hb dX7_likeness_15 rfl (lv_at hl 1 rfl) ?_
  refine va_get (D := G) (ci := 7) (v := .int (g 7)) (C := RX7) (T := TX7) (N := 8) hx hb hts hin_X7 hown hK hP 0 rfl rfl 2 (by decide) k19 (fun _ h9 => h9) rfl dX7_likeness_16 ?_
  refine lv_if_eq (tgt := 26) hx hb dX7_likeness_19 (by decide) (fun c_19 => ?_) (fun c_19 => ?_)
  · skip
    refine lv_fconst0 hx hb dX7_likeness_26 ?_
    exact en_rf hx hb hr hlocks hS (by first | rfl | (simp only [likeF, l2F, lsF, if_pos c_19]; done) | (simp only [likeF, l2F, lsF, if_pos c_19]; rfl) | (simp only [likeF, l2F, lsF, if_pos c_19]; decide)) dX7_likeness_27
  · skip
    refine lv_iload_n hx hb dX7_likeness_22 rfl (lv_at hl 0 rfl) ?_
    refine lv_if_ne (tgt := 28) hx hb dX7_likeness_23 (by decide) (fun c_23 => ?_) (fun c_23 => ?_)
    · skip
      refine lv_aload_n hx hb dX7_likeness_28 rfl (lv_at hl 1 rfl) ?_
      refine va_get (D := G) (ci := 7) (v := .int (g 8)) (C := RX7) (T := TX7) (N := 8) hx hb hts hin_X7 hown hK hP 0 rfl rfl 3 (by decide) k22 (fun _ h9 => h9) rfl dX7_likeness_29 ?_
      refine lv_i2f hx hb dX7_likeness_32 ?_
      refine lv_iload_n hx hb dX7_likeness_33 rfl (lv_at hl 0 rfl) ?_
      refine lv_i2f hx hb dX7_likeness_34 ?_
      refine lv_fdiv hx hb dX7_likeness_35 ((hL c_19 c_23).1) ?_
      refine W.eq (g2 := F0 m 36 ls [.float (loF g)]) rfl ?_
      refine lv_fstore_n (lv' := [(3, .float (loF g)), (2, .int (smF g)), (0, .ref h0), (1, .int k0)]) hx hb dX7_likeness_36 rfl hl (by decide) rfl (fun ls hl => ?_)
      refine lv_aload_n hx hb dX7_likeness_37 rfl (lv_at hl 2 rfl) ?_
      refine va_get (D := G) (ci := 7) (v := .int (g 9)) (C := RX7) (T := TX7) (N := 8) hx hb hts hin_X7 hown hK hP 0 rfl rfl 4 (by decide) k25 (fun _ h9 => h9) rfl dX7_likeness_38 ?_
      refine lv_i2f hx hb dX7_likeness_41 ?_
      refine lv_iload_n hx hb dX7_likeness_42 rfl (lv_at hl 1 rfl) ?_
      refine lv_i2f hx hb dX7_likeness_43 ?_
      refine lv_fdiv hx hb dX7_likeness_44 ((hL c_19 c_23).2.1) ?_
      refine W.eq (g2 := F0 m 45 ls [.float (miF g)]) rfl ?_
      refine lv_fstore (lv' := [(4, .float (miF g)), (3, .float (loF g)), (2, .int (smF g)), (0, .ref h0), (1, .int k0)]) hx hb dX7_likeness_45 hl (by decide) rfl (fun ls hl => ?_)
      refine lv_aload_n hx hb dX7_likeness_47 rfl (lv_at hl 3 rfl) ?_
      refine va_get (D := G) (ci := 7) (v := .int (g 10)) (C := RX7) (T := TX7) (N := 8) hx hb hts hin_X7 hown hK hP 0 rfl rfl 5 (by decide) k28 (fun _ h9 => h9) rfl dX7_likeness_48 ?_
      refine lv_i2f hx hb dX7_likeness_51 ?_
      refine lv_iload_n hx hb dX7_likeness_52 rfl (lv_at hl 2 rfl) ?_
      refine lv_i2f hx hb dX7_likeness_53 ?_
      refine lv_fdiv hx hb dX7_likeness_54 ((hL c_19 c_23).2.2.1) ?_
      refine W.eq (g2 := F0 m 55 ls [.float (hiF g)]) rfl ?_
      refine lv_fstore (lv' := [(5, .float (hiF g)), (4, .float (miF g)), (3, .float (loF g)), (2, .int (smF g)), (0, .ref h0), (1, .int k0)]) hx hb dX7_likeness_55 hl (by decide) rfl (fun ls hl => ?_)
      refine lv_fload_n hx hb dX7_likeness_57 rfl (lv_at hl 2 rfl) ?_
      refine lv_fload hx hb dX7_likeness_58 (lv_at hl 1 rfl) ?_
      refine lv_fcmp hx hb dX7_likeness_60 ?_
      refine lv_if_ge (tgt := 68) hx hb dX7_likeness_61 (by decide) (fun c_61 => ?_) (fun c_61 => ?_)
      · skip
        refine lv_fload hx hb dX7_likeness_68 (lv_at hl 1 rfl) ?_
        refine lv_fstore (lv' := [(6, .float (miF g)), (5, .float (hiF g)), (4, .float (miF g)), (3, .float (loF g)), (2, .int (smF g)), (0, .ref h0), (1, .int k0)]) hx hb dX7_likeness_70 hl (by decide) rfl (fun ls hl => ?_)
        refine lv_iload_n hx hb dX7_likeness_72 rfl (lv_at hl 6 rfl) ?_
        refine lv_topi (fun x_73 ex_73 => ?_)
        by_cases s_73 : x_73 = 0
        · rw [s_73] at ex_73 ⊢
          have s_73e := ex_73.symm
          refine lv_tableIn (off := 31) (tgt := 104) hx hb dX7_likeness_73 (by decide) (by decide) (by decide) (by decide) ?_
          have s_73n1 : ¬ k0 = 1 := by rw [s_73e]; decide
          have s_73n2 : ¬ k0 = 2 := by rw [s_73e]; decide
          have s_73n3 : ¬ k0 = 3 := by rw [s_73e]; decide
          refine lv_fconst1 hx hb dX7_likeness_104 ?_
          refine lv_aload_n hx hb dX7_likeness_105 rfl (lv_at hl 5 rfl) ?_
          refine va_get (D := G) (ci := 7) (v := .int (g 7)) (C := RX7) (T := TX7) (N := 8) hx hb hts hin_X7 hown hK hP 0 rfl rfl 2 (by decide) k19 (fun _ h9 => h9) rfl dX7_likeness_106 ?_
          refine lv_i2f hx hb dX7_likeness_109 ?_
          refine lv_fdiv hx hb dX7_likeness_110 ((hL c_19 c_23).2.2.2.1) ?_
          exact en_rf hx hb hr hlocks hS (by first | rfl | (simp only [likeF, l2F, lsF, if_neg c_19, if_neg c_23, if_pos c_61, if_pos s_73e, if_neg s_73n1, if_neg s_73n2, if_neg s_73n3]; done) | (simp only [likeF, l2F, lsF, if_neg c_19, if_neg c_23, if_pos c_61, if_pos s_73e, if_neg s_73n1, if_neg s_73n2, if_neg s_73n3]; rfl) | (simp only [likeF, l2F, lsF, if_neg c_19, if_neg c_23, if_pos c_61, if_pos s_73e, if_neg s_73n1, if_neg s_73n2, if_neg s_73n3]; decide)) dX7_likeness_111
        have s_73q : ¬ k0 = 0 := fun h9 => s_73 (ex_73.trans h9)
        by_cases s_73_1 : x_73 = 1
        · rw [s_73_1] at ex_73 ⊢
          have s_73_1e := ex_73.symm
          refine lv_tableIn (off := 39) (tgt := 112) hx hb dX7_likeness_73 (by decide) (by decide) (by decide) (by decide) ?_
          have s_73_1n2 : ¬ k0 = 2 := by rw [s_73_1e]; decide
          have s_73_1n3 : ¬ k0 = 3 := by rw [s_73_1e]; decide
          refine lv_fconst1 hx hb dX7_likeness_112 ?_
          refine lv_fload_n hx hb dX7_likeness_113 rfl (lv_at hl 3 rfl) ?_
          refine lv_fsub hx hb dX7_likeness_114 ((hL c_19 c_23).2.2.2.2.1) ?_
          refine lv_ldcf hx hb hown (hts (.constantFloat RX7 58 (1061158912)) (by decide +kernel)) dX7_likeness_115 ?_
          refine lv_fmul hx hb dX7_likeness_117 ((hL c_19 c_23).2.2.2.2.2.1) ?_
          exact en_rf hx hb hr hlocks hS (by first | rfl | (simp only [likeF, l2F, lsF, if_neg c_19, if_neg c_23, if_pos c_61, if_neg s_73q, if_pos s_73_1e, if_neg s_73_1n2, if_neg s_73_1n3]; done) | (simp only [likeF, l2F, lsF, if_neg c_19, if_neg c_23, if_pos c_61, if_neg s_73q, if_pos s_73_1e, if_neg s_73_1n2, if_neg s_73_1n3]; rfl) | (simp only [likeF, l2F, lsF, if_neg c_19, if_neg c_23, if_pos c_61, if_neg s_73q, if_pos s_73_1e, if_neg s_73_1n2, if_neg s_73_1n3]; decide)) dX7_likeness_118
        have s_73_1q : ¬ k0 = 1 := fun h9 => s_73_1 (ex_73.trans h9)
        by_cases s_73_2 : x_73 = 2
        · rw [s_73_2] at ex_73 ⊢
          have s_73_2e := ex_73.symm
          refine lv_tableIn (off := 46) (tgt := 119) hx hb dX7_likeness_73 (by decide) (by decide) (by decide) (by decide) ?_
          have s_73_2n3 : ¬ k0 = 3 := by rw [s_73_2e]; decide
          refine lv_fload_n hx hb dX7_likeness_119 rfl (lv_at hl 3 rfl) ?_
          refine lv_fconst1 hx hb dX7_likeness_120 ?_
          refine lv_fload hx hb dX7_likeness_121 (lv_at hl 1 rfl) ?_
          refine lv_fsub hx hb dX7_likeness_123 ((hL c_19 c_23).2.2.2.2.2.2.1) ?_
          refine lv_fmul hx hb dX7_likeness_124 ((hL c_19 c_23).2.2.2.2.2.2.2.1) ?_
          exact en_rf hx hb hr hlocks hS (by first | rfl | (simp only [likeF, l2F, lsF, if_neg c_19, if_neg c_23, if_pos c_61, if_neg s_73q, if_neg s_73_1q, if_pos s_73_2e, if_neg s_73_2n3]; done) | (simp only [likeF, l2F, lsF, if_neg c_19, if_neg c_23, if_pos c_61, if_neg s_73q, if_neg s_73_1q, if_pos s_73_2e, if_neg s_73_2n3]; rfl) | (simp only [likeF, l2F, lsF, if_neg c_19, if_neg c_23, if_pos c_61, if_neg s_73q, if_neg s_73_1q, if_pos s_73_2e, if_neg s_73_2n3]; decide)) dX7_likeness_125
        have s_73_2q : ¬ k0 = 2 := fun h9 => s_73_2 (ex_73.trans h9)
        by_cases s_73_3 : x_73 = 3
        · rw [s_73_3] at ex_73 ⊢
          have s_73_3e := ex_73.symm
          refine lv_tableIn (off := 53) (tgt := 126) hx hb dX7_likeness_73 (by decide) (by decide) (by decide) (by decide) ?_
          refine lv_ldcf hx hb hown (hts (.constantFloat RX7 59 (1077936128)) (by decide +kernel)) dX7_likeness_126 ?_
          refine lv_fload hx hb dX7_likeness_128 (lv_at hl 1 rfl) ?_
          refine lv_fload hx hb dX7_likeness_130 (lv_at hl 0 rfl) ?_
          refine lv_fcmp hx hb dX7_likeness_132 ?_
          refine lv_if_ge (tgt := 141) hx hb dX7_likeness_133 (by decide) (fun c_133 => ?_) (fun c_133 => ?_)
          · skip
            refine lv_fload hx hb dX7_likeness_141 (lv_at hl 0 rfl) ?_
            refine lv_fmul hx hb dX7_likeness_143 ((by have h9 := (hL c_19 c_23).2.2.2.2.2.2.2.2; simp only [l2F, lsF, if_pos c_61, if_pos c_133] at h9; exact h9)) ?_
            exact en_rf hx hb hr hlocks hS (by first | rfl | (simp only [likeF, l2F, lsF, if_neg c_19, if_neg c_23, if_pos c_61, if_neg s_73q, if_neg s_73_1q, if_neg s_73_2q, if_pos s_73_3e, if_pos c_133]; done) | (simp only [likeF, l2F, lsF, if_neg c_19, if_neg c_23, if_pos c_61, if_neg s_73q, if_neg s_73_1q, if_neg s_73_2q, if_pos s_73_3e, if_pos c_133]; rfl) | (simp only [likeF, l2F, lsF, if_neg c_19, if_neg c_23, if_pos c_61, if_neg s_73q, if_neg s_73_1q, if_neg s_73_2q, if_pos s_73_3e, if_pos c_133]; decide)) dX7_likeness_144
          · skip
            refine lv_fload hx hb dX7_likeness_136 (lv_at hl 1 rfl) ?_
            refine lv_goto (tgt := 143) hx hb dX7_likeness_138 (by decide) ?_
            refine lv_fmul hx hb dX7_likeness_143 ((by have h9 := (hL c_19 c_23).2.2.2.2.2.2.2.2; simp only [l2F, lsF, if_pos c_61, if_neg c_133] at h9; exact h9)) ?_
            exact en_rf hx hb hr hlocks hS (by first | rfl | (simp only [likeF, l2F, lsF, if_neg c_19, if_neg c_23, if_pos c_61, if_neg s_73q, if_neg s_73_1q, if_neg s_73_2q, if_pos s_73_3e, if_neg c_133]; done) | (simp only [likeF, l2F, lsF, if_neg c_19, if_neg c_23, if_pos c_61, if_neg s_73q, if_neg s_73_1q, if_neg s_73_2q, if_pos s_73_3e, if_neg c_133]; rfl) | (simp only [likeF, l2F, lsF, if_neg c_19, if_neg c_23, if_pos c_61, if_neg s_73q, if_neg s_73_1q, if_neg s_73_2q, if_pos s_73_3e, if_neg c_133]; decide)) dX7_likeness_144
        have s_73_3q : ¬ k0 = 3 := fun h9 => s_73_3 (ex_73.trans h9)
        refine lv_tableOut (tgt := 145) hx hb dX7_likeness_73 (tab_0_3 s_73 s_73_1 s_73_2 s_73_3) (by decide) ?_
        refine lv_fconst0 hx hb dX7_likeness_145 ?_
        exact en_rf hx hb hr hlocks hS (by first | rfl | (simp only [likeF, l2F, lsF, if_neg c_19, if_neg c_23, if_pos c_61, if_neg s_73q, if_neg s_73_1q, if_neg s_73_2q, if_neg s_73_3q]; done) | (simp only [likeF, l2F, lsF, if_neg c_19, if_neg c_23, if_pos c_61, if_neg s_73q, if_neg s_73_1q, if_neg s_73_2q, if_neg s_73_3q]; rfl) | (simp only [likeF, l2F, lsF, if_neg c_19, if_neg c_23, if_pos c_61, if_neg s_73q, if_neg s_73_1q, if_neg s_73_2q, if_neg s_73_3q]; decide)) dX7_likeness_146
      · skip
        refine lv_fload_n hx hb dX7_likeness_64 rfl (lv_at hl 2 rfl) ?_
        refine lv_goto (tgt := 70) hx hb dX7_likeness_65 (by decide) ?_
        refine lv_fstore (lv' := [(6, .float (loF g)), (5, .float (hiF g)), (4, .float (miF g)), (3, .float (loF g)), (2, .int (smF g)), (0, .ref h0), (1, .int k0)]) hx hb dX7_likeness_70 hl (by decide) rfl (fun ls hl => ?_)
        refine lv_iload_n hx hb dX7_likeness_72 rfl (lv_at hl 6 rfl) ?_
        refine lv_topi (fun x_73_1 ex_73_1 => ?_)
        by_cases s_73_4 : x_73_1 = 0
        · rw [s_73_4] at ex_73_1 ⊢
          have s_73_4e := ex_73_1.symm
          refine lv_tableIn (off := 31) (tgt := 104) hx hb dX7_likeness_73 (by decide) (by decide) (by decide) (by decide) ?_
          have s_73_4n1 : ¬ k0 = 1 := by rw [s_73_4e]; decide
          have s_73_4n2 : ¬ k0 = 2 := by rw [s_73_4e]; decide
          have s_73_4n3 : ¬ k0 = 3 := by rw [s_73_4e]; decide
          refine lv_fconst1 hx hb dX7_likeness_104 ?_
          refine lv_aload_n hx hb dX7_likeness_105 rfl (lv_at hl 5 rfl) ?_
          refine va_get (D := G) (ci := 7) (v := .int (g 7)) (C := RX7) (T := TX7) (N := 8) hx hb hts hin_X7 hown hK hP 0 rfl rfl 2 (by decide) k19 (fun _ h9 => h9) rfl dX7_likeness_106 ?_
          refine lv_i2f hx hb dX7_likeness_109 ?_
          refine lv_fdiv hx hb dX7_likeness_110 ((hL c_19 c_23).2.2.2.1) ?_
          exact en_rf hx hb hr hlocks hS (by first | rfl | (simp only [likeF, l2F, lsF, if_neg c_19, if_neg c_23, if_neg c_61, if_pos s_73_4e, if_neg s_73_4n1, if_neg s_73_4n2, if_neg s_73_4n3]; done) | (simp only [likeF, l2F, lsF, if_neg c_19, if_neg c_23, if_neg c_61, if_pos s_73_4e, if_neg s_73_4n1, if_neg s_73_4n2, if_neg s_73_4n3]; rfl) | (simp only [likeF, l2F, lsF, if_neg c_19, if_neg c_23, if_neg c_61, if_pos s_73_4e, if_neg s_73_4n1, if_neg s_73_4n2, if_neg s_73_4n3]; decide)) dX7_likeness_111
        have s_73_4q : ¬ k0 = 0 := fun h9 => s_73_4 (ex_73_1.trans h9)
        by_cases s_73_5 : x_73_1 = 1
        · rw [s_73_5] at ex_73_1 ⊢
          have s_73_5e := ex_73_1.symm
          refine lv_tableIn (off := 39) (tgt := 112) hx hb dX7_likeness_73 (by decide) (by decide) (by decide) (by decide) ?_
          have s_73_5n2 : ¬ k0 = 2 := by rw [s_73_5e]; decide
          have s_73_5n3 : ¬ k0 = 3 := by rw [s_73_5e]; decide
          refine lv_fconst1 hx hb dX7_likeness_112 ?_
          refine lv_fload_n hx hb dX7_likeness_113 rfl (lv_at hl 3 rfl) ?_
          refine lv_fsub hx hb dX7_likeness_114 ((hL c_19 c_23).2.2.2.2.1) ?_
          refine lv_ldcf hx hb hown (hts (.constantFloat RX7 58 (1061158912)) (by decide +kernel)) dX7_likeness_115 ?_
          refine lv_fmul hx hb dX7_likeness_117 ((hL c_19 c_23).2.2.2.2.2.1) ?_
          exact en_rf hx hb hr hlocks hS (by first | rfl | (simp only [likeF, l2F, lsF, if_neg c_19, if_neg c_23, if_neg c_61, if_neg s_73_4q, if_pos s_73_5e, if_neg s_73_5n2, if_neg s_73_5n3]; done) | (simp only [likeF, l2F, lsF, if_neg c_19, if_neg c_23, if_neg c_61, if_neg s_73_4q, if_pos s_73_5e, if_neg s_73_5n2, if_neg s_73_5n3]; rfl) | (simp only [likeF, l2F, lsF, if_neg c_19, if_neg c_23, if_neg c_61, if_neg s_73_4q, if_pos s_73_5e, if_neg s_73_5n2, if_neg s_73_5n3]; decide)) dX7_likeness_118
        have s_73_5q : ¬ k0 = 1 := fun h9 => s_73_5 (ex_73_1.trans h9)
        by_cases s_73_6 : x_73_1 = 2
        · rw [s_73_6] at ex_73_1 ⊢
          have s_73_6e := ex_73_1.symm
          refine lv_tableIn (off := 46) (tgt := 119) hx hb dX7_likeness_73 (by decide) (by decide) (by decide) (by decide) ?_
          have s_73_6n3 : ¬ k0 = 3 := by rw [s_73_6e]; decide
          refine lv_fload_n hx hb dX7_likeness_119 rfl (lv_at hl 3 rfl) ?_
          refine lv_fconst1 hx hb dX7_likeness_120 ?_
          refine lv_fload hx hb dX7_likeness_121 (lv_at hl 1 rfl) ?_
          refine lv_fsub hx hb dX7_likeness_123 ((hL c_19 c_23).2.2.2.2.2.2.1) ?_
          refine lv_fmul hx hb dX7_likeness_124 ((hL c_19 c_23).2.2.2.2.2.2.2.1) ?_
          exact en_rf hx hb hr hlocks hS (by first | rfl | (simp only [likeF, l2F, lsF, if_neg c_19, if_neg c_23, if_neg c_61, if_neg s_73_4q, if_neg s_73_5q, if_pos s_73_6e, if_neg s_73_6n3]; done) | (simp only [likeF, l2F, lsF, if_neg c_19, if_neg c_23, if_neg c_61, if_neg s_73_4q, if_neg s_73_5q, if_pos s_73_6e, if_neg s_73_6n3]; rfl) | (simp only [likeF, l2F, lsF, if_neg c_19, if_neg c_23, if_neg c_61, if_neg s_73_4q, if_neg s_73_5q, if_pos s_73_6e, if_neg s_73_6n3]; decide)) dX7_likeness_125
        have s_73_6q : ¬ k0 = 2 := fun h9 => s_73_6 (ex_73_1.trans h9)
        by_cases s_73_7 : x_73_1 = 3
        · rw [s_73_7] at ex_73_1 ⊢
          have s_73_7e := ex_73_1.symm
          refine lv_tableIn (off := 53) (tgt := 126) hx hb dX7_likeness_73 (by decide) (by decide) (by decide) (by decide) ?_
          refine lv_ldcf hx hb hown (hts (.constantFloat RX7 59 (1077936128)) (by decide +kernel)) dX7_likeness_126 ?_
          refine lv_fload hx hb dX7_likeness_128 (lv_at hl 1 rfl) ?_
          refine lv_fload hx hb dX7_likeness_130 (lv_at hl 0 rfl) ?_
          refine lv_fcmp hx hb dX7_likeness_132 ?_
          refine lv_if_ge (tgt := 141) hx hb dX7_likeness_133 (by decide) (fun c_133_1 => ?_) (fun c_133_1 => ?_)
          · skip
            refine lv_fload hx hb dX7_likeness_141 (lv_at hl 0 rfl) ?_
            refine lv_fmul hx hb dX7_likeness_143 ((by have h9 := (hL c_19 c_23).2.2.2.2.2.2.2.2; simp only [l2F, lsF, if_neg c_61, if_pos c_133_1] at h9; exact h9)) ?_
            exact en_rf hx hb hr hlocks hS (by first | rfl | (simp only [likeF, l2F, lsF, if_neg c_19, if_neg c_23, if_neg c_61, if_neg s_73_4q, if_neg s_73_5q, if_neg s_73_6q, if_pos s_73_7e, if_pos c_133_1]; done) | (simp only [likeF, l2F, lsF, if_neg c_19, if_neg c_23, if_neg c_61, if_neg s_73_4q, if_neg s_73_5q, if_neg s_73_6q, if_pos s_73_7e, if_pos c_133_1]; rfl) | (simp only [likeF, l2F, lsF, if_neg c_19, if_neg c_23, if_neg c_61, if_neg s_73_4q, if_neg s_73_5q, if_neg s_73_6q, if_pos s_73_7e, if_pos c_133_1]; decide)) dX7_likeness_144
          · skip
            refine lv_fload hx hb dX7_likeness_136 (lv_at hl 1 rfl) ?_
            refine lv_goto (tgt := 143) hx hb dX7_likeness_138 (by decide) ?_
            refine lv_fmul hx hb dX7_likeness_143 ((by have h9 := (hL c_19 c_23).2.2.2.2.2.2.2.2; simp only [l2F, lsF, if_neg c_61, if_neg c_133_1] at h9; exact h9)) ?_
            exact en_rf hx hb hr hlocks hS (by first | rfl | (simp only [likeF, l2F, lsF, if_neg c_19, if_neg c_23, if_neg c_61, if_neg s_73_4q, if_neg s_73_5q, if_neg s_73_6q, if_pos s_73_7e, if_neg c_133_1]; done) | (simp only [likeF, l2F, lsF, if_neg c_19, if_neg c_23, if_neg c_61, if_neg s_73_4q, if_neg s_73_5q, if_neg s_73_6q, if_pos s_73_7e, if_neg c_133_1]; rfl) | (simp only [likeF, l2F, lsF, if_neg c_19, if_neg c_23, if_neg c_61, if_neg s_73_4q, if_neg s_73_5q, if_neg s_73_6q, if_pos s_73_7e, if_neg c_133_1]; decide)) dX7_likeness_144
        have s_73_7q : ¬ k0 = 3 := fun h9 => s_73_7 (ex_73_1.trans h9)
        refine lv_tableOut (tgt := 145) hx hb dX7_likeness_73 (tab_0_3 s_73_4 s_73_5 s_73_6 s_73_7) (by decide) ?_
        refine lv_fconst0 hx hb dX7_likeness_145 ?_
        exact en_rf hx hb hr hlocks hS (by first | rfl | (simp only [likeF, l2F, lsF, if_neg c_19, if_neg c_23, if_neg c_61, if_neg s_73_4q, if_neg s_73_5q, if_neg s_73_6q, if_neg s_73_7q]; done) | (simp only [likeF, l2F, lsF, if_neg c_19, if_neg c_23, if_neg c_61, if_neg s_73_4q, if_neg s_73_5q, if_neg s_73_6q, if_neg s_73_7q]; rfl) | (simp only [likeF, l2F, lsF, if_neg c_19, if_neg c_23, if_neg c_61, if_neg s_73_4q, if_neg s_73_5q, if_neg s_73_6q, if_neg s_73_7q]; decide)) dX7_likeness_146
    · skip
      refine lv_fconst0 hx hb dX7_likeness_26 ?_
      exact en_rf hx hb hr hlocks hS (by first | rfl | (simp only [likeF, l2F, lsF, if_neg c_19, if_pos c_23]; done) | (simp only [likeF, l2F, lsF, if_neg c_19, if_pos c_23]; rfl) | (simp only [likeF, l2F, lsF, if_neg c_19, if_pos c_23]; decide)) dX7_likeness_27
set_option maxHeartbeats 4000000 in
set_option maxRecDepth 100000 in
/-- Thing.product(kind, weight) -/
theorem cX7_product_ok (l : Launch) (G : va_G) (cA : Nat → ClassId) (h0 : Nat) (g : GG) (k0 : Int32) (w0 : UInt32) (hL : LkOk g) (hn : vf_n32 (FP.fmul (likeF g k0) w0)) : Rf l yX7_product wsX7_product ({ frames := 1, cells := 0, slots := 0, locals := 26 } : Room) G cA [.ref h0, .int k0, .float w0] [(h0, ThV g)] (fun r => r = FP.fmul (likeF g k0) w0) := by
  refine ofW2 (cc := cX7_product) (maxL := 3) (ret := (some .float)) (own := RX7) (by decide) rfl rfl (Nat.le_of_ble_eq_true rfl) rfl ?_
  intro p e s m below meth c ls hx hb hml hr hts hown hlocks hv hl
  obtain ⟨hP, hE, hD0⟩ := hv
  have hK := hE.1
  have hD := hD0
  generalize hH0 : s.heap = H at hP ⊢
  have hS : va_S (fun _ => False) s.heap H [] := hH0 ▸ va_S.rf
  generalize ([] : List Loc) = locs at hS ⊢
  clear hH0 hD0
  replace hl : lv_has ls 3 [(0, .ref h0), (1, .int k0), (2, .float w0)] := hl
  refine lv_aload_n hx hb dX7_product_0 rfl (lv_at hl 0 rfl) ?_
  refine lv_iload_n hx hb dX7_product_1 rfl (lv_at hl 1 rfl) ?_
  refine rd_f (rV (rest := []) ⟨hx, hb, hml, hown, hts⟩ (cX7_likeness_ok l G cA h0 g k0 hL) (cwV 1 hts gX7_product_X7_likeness rfl rfl rfl mdX7_likeness ⟨Nat.le_of_ble_eq_true rfl, Nat.le_of_ble_eq_true rfl⟩) hE (hP.sub (ws' := [(h0, ThV g)]) [0] rfl) (hD.sub (ws' := [(h0, ThV g)]) [0] (by decide) rfl) (q0 := 0) (ci := 7) rfl rfl rfl hl rfl (Nat.le_of_ble_eq_true rfl) dX7_product_2 ⟨Nat.le_of_ble_eq_true rfl, Nat.le_of_ble_eq_true rfl⟩) hS hP (fun r_2 H locs hr_2 hP hS => ?_)
  subst hr_2
  refine lv_fload_n hx hb dX7_product_5 rfl (lv_at hl 2 rfl) ?_
  refine lv_fmul hx hb dX7_product_6 (hn) ?_
  exact en_rf hx hb hr hlocks hS rfl dX7_product_7
