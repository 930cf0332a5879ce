/-! Door: its contracts (by wip/p26/door.py) -/
set_option maxHeartbeats 4000000 in
set_option maxRecDepth 100000 in
/-- Door.copyFrom(other) -/
theorem cX1_copyFrom_ok (l : Launch) (G : va_G) (cA : Nat → ClassId) (h0 h1 : Nat) (f f2 : FF) (g g2 : GG) (hB : Bo g2) : Wv l yX1_copyFrom wsX1_copyFrom ({ frames := 0, cells := 0, slots := 0, locals := 0 } : Room) G cA [.ref h0, .ref h1] [(h0, DrV f g), (h1, DrV f2 g2)] [(h0, DrV f2 g2), (h1, DrV f2 g2)] := by
  refine ofW2 (cc := cX1_copyFrom) (maxL := 2) (ret := none) (own := RX1) (by decide) rfl rfl (Nat.le_of_ble_eq_true rfl) rfl ?_
  intro p e s m below meth c ls hx hb hml hr hts hown hlocks hv hl
  obtain ⟨hP, hE, hD0⟩ := hv
  have hK := hE.1
  have hD := dself hD0
  generalize hH0 : s.heap = H at hP ⊢
  have hS : va_S (inW [(h0, DrV f g), (h1, DrV f2 g2)]) s.heap H [] := hH0 ▸ va_S.rf
  generalize ([] : List Loc) = locs at hS ⊢
  clear hH0 hD0
  replace hl : lv_has ls 2 [(0, .ref h0), (1, .ref h1)] := hl
  have hin_X1 : ∀ q ∈ u_ws RX1 TX1 6, q ∈ wsX1_copyFrom := by decide +kernel
  have k15 := hts (.fieldLink RX1 15 "LiftBeams$Door" "place" "F") (by decide +kernel)
  have k9 := hts (.fieldLink RX1 9 "LiftBeams$Door" "state" "I") (by decide +kernel)
  have k19 := hts (.fieldLink RX1 19 "LiftBeams$Door" "waited" "I") (by decide +kernel)
  have k22 := hts (.fieldLink RX1 22 "LiftBeams$Door" "stood" "I") (by decide +kernel)
  have k25 := hts (.fieldLink RX1 25 "LiftBeams$Door" "reopened" "I") (by decide +kernel)
  have k28 := hts (.fieldLink RX1 28 "LiftBeams$Door" "service" "Z") (by decide +kernel)
  refine lv_aload_n hx hb dX1_copyFrom_0 rfl (lv_at hl 0 rfl) ?_
  refine lv_aload_n hx hb dX1_copyFrom_1 rfl (lv_at hl 1 rfl) ?_
  refine va_get (D := G) (ci := 1) (v := .float (f2 7)) (C := RX1) (T := TX1) (N := 6) hx hb hts hin_X1 hown hK hP 1 rfl rfl 0 (by decide) k15 (fun _ h9 => h9) rfl dX1_copyFrom_2 ?_
  refine va_put (D := G) (ci := 1) (v := .float (f2 7)) (ty := .float) (C := RX1) (T := TX1) (N := 6) hx hb hts hin_X1 tyX1 tyX1_ok nmX1 hown hK hP hD hS 0 rfl rfl 0 (by decide) k15 (fun _ h9 => h9) rfl (by decide +kernel) rfl rfl (Nat.le_of_ble_eq_true rfl) dX1_copyFrom_5 (fun H locs hP hD hS => ?_)
  replace hP : va_P G vwCl [(h0, DrV (vf_upd f 7 (f2 7)) g), (h1, DrV f2 g2)] H := hP
  replace hD : va_D (inW [(h0, DrV f g), (h1, DrV f2 g2)]) [(h0, DrV (vf_upd f 7 (f2 7)) g), (h1, DrV f2 g2)] := hD
  refine lv_aload_n hx hb dX1_copyFrom_8 rfl (lv_at hl 0 rfl) ?_
  refine lv_aload_n hx hb dX1_copyFrom_9 rfl (lv_at hl 1 rfl) ?_
  refine va_get (D := G) (ci := 1) (v := .int (g2 13)) (C := RX1) (T := TX1) (N := 6) hx hb hts hin_X1 hown hK hP 1 rfl rfl 1 (by decide) k9 (fun _ h9 => h9) rfl dX1_copyFrom_10 ?_
  refine va_put (D := G) (ci := 1) (v := .int (g2 13)) (ty := .int) (C := RX1) (T := TX1) (N := 6) hx hb hts hin_X1 tyX1 tyX1_ok nmX1 hown hK hP hD hS 0 rfl rfl 1 (by decide) k9 (fun _ h9 => h9) rfl (by decide +kernel) rfl rfl (Nat.le_of_ble_eq_true rfl) dX1_copyFrom_13 (fun H locs hP hD hS => ?_)
  replace hP : va_P G vwCl [(h0, DrV (vf_upd f 7 (f2 7)) (upd g 13 (g2 13))), (h1, DrV f2 g2)] H := hP
  replace hD : va_D (inW [(h0, DrV f g), (h1, DrV f2 g2)]) [(h0, DrV (vf_upd f 7 (f2 7)) (upd g 13 (g2 13))), (h1, DrV f2 g2)] := hD
  refine lv_aload_n hx hb dX1_copyFrom_16 rfl (lv_at hl 0 rfl) ?_
  refine lv_aload_n hx hb dX1_copyFrom_17 rfl (lv_at hl 1 rfl) ?_
  refine va_get (D := G) (ci := 1) (v := .int (g2 14)) (C := RX1) (T := TX1) (N := 6) hx hb hts hin_X1 hown hK hP 1 rfl rfl 2 (by decide) k19 (fun _ h9 => h9) rfl dX1_copyFrom_18 ?_
  refine va_put (D := G) (ci := 1) (v := .int (g2 14)) (ty := .int) (C := RX1) (T := TX1) (N := 6) hx hb hts hin_X1 tyX1 tyX1_ok nmX1 hown hK hP hD hS 0 rfl rfl 2 (by decide) k19 (fun _ h9 => h9) rfl (by decide +kernel) rfl rfl (Nat.le_of_ble_eq_true rfl) dX1_copyFrom_21 (fun H locs hP hD hS => ?_)
  replace hP : va_P G vwCl [(h0, DrV (vf_upd f 7 (f2 7)) (upd (upd g 13 (g2 13)) 14 (g2 14))), (h1, DrV f2 g2)] H := hP
  replace hD : va_D (inW [(h0, DrV f g), (h1, DrV f2 g2)]) [(h0, DrV (vf_upd f 7 (f2 7)) (upd (upd g 13 (g2 13)) 14 (g2 14))), (h1, DrV f2 g2)] := hD
  refine lv_aload_n hx hb dX1_copyFrom_24 rfl (lv_at hl 0 rfl) ?_
  refine lv_aload_n hx hb dX1_copyFrom_25 rfl (lv_at hl 1 rfl) ?_
  refine va_get (D := G) (ci := 1) (v := .int (g2 15)) (C := RX1) (T := TX1) (N := 6) hx hb hts hin_X1 hown hK hP 1 rfl rfl 3 (by decide) k22 (fun _ h9 => h9) rfl dX1_copyFrom_26 ?_
  refine va_put (D := G) (ci := 1) (v := .int (g2 15)) (ty := .int) (C := RX1) (T := TX1) (N := 6) hx hb hts hin_X1 tyX1 tyX1_ok nmX1 hown hK hP hD hS 0 rfl rfl 3 (by decide) k22 (fun _ h9 => h9) rfl (by decide +kernel) rfl rfl (Nat.le_of_ble_eq_true rfl) dX1_copyFrom_29 (fun H locs hP hD hS => ?_)
  replace hP : va_P G vwCl [(h0, DrV (vf_upd f 7 (f2 7)) (upd (upd (upd g 13 (g2 13)) 14 (g2 14)) 15 (g2 15))), (h1, DrV f2 g2)] H := hP
  replace hD : va_D (inW [(h0, DrV f g), (h1, DrV f2 g2)]) [(h0, DrV (vf_upd f 7 (f2 7)) (upd (upd (upd g 13 (g2 13)) 14 (g2 14)) 15 (g2 15))), (h1, DrV f2 g2)] := hD
  refine lv_aload_n hx hb dX1_copyFrom_32 rfl (lv_at hl 0 rfl) ?_
  refine lv_aload_n hx hb dX1_copyFrom_33 rfl (lv_at hl 1 rfl) ?_
  refine va_get (D := G) (ci := 1) (v := .int (g2 16)) (C := RX1) (T := TX1) (N := 6) hx hb hts hin_X1 hown hK hP 1 rfl rfl 4 (by decide) k25 (fun _ h9 => h9) rfl dX1_copyFrom_34 ?_
  refine va_put (D := G) (ci := 1) (v := .int (g2 16)) (ty := .int) (C := RX1) (T := TX1) (N := 6) hx hb hts hin_X1 tyX1 tyX1_ok nmX1 hown hK hP hD hS 0 rfl rfl 4 (by decide) k25 (fun _ h9 => h9) rfl (by decide +kernel) rfl rfl (Nat.le_of_ble_eq_true rfl) dX1_copyFrom_37 (fun H locs hP hD hS => ?_)
  replace hP : va_P G vwCl [(h0, DrV (vf_upd f 7 (f2 7)) (upd (upd (upd (upd g 13 (g2 13)) 14 (g2 14)) 15 (g2 15)) 16 (g2 16))), (h1, DrV f2 g2)] H := hP
  replace hD : va_D (inW [(h0, DrV f g), (h1, DrV f2 g2)]) [(h0, DrV (vf_upd f 7 (f2 7)) (upd (upd (upd (upd g 13 (g2 13)) 14 (g2 14)) 15 (g2 15)) 16 (g2 16))), (h1, DrV f2 g2)] := hD
  refine lv_aload_n hx hb dX1_copyFrom_40 rfl (lv_at hl 0 rfl) ?_
  refine lv_aload_n hx hb dX1_copyFrom_41 rfl (lv_at hl 1 rfl) ?_
  refine va_get (D := G) (ci := 1) (v := .int (g2 17)) (C := RX1) (T := TX1) (N := 6) hx hb hts hin_X1 hown hK hP 1 rfl rfl 5 (by decide) k28 (fun _ h9 => h9) rfl dX1_copyFrom_42 ?_
  refine va_put (D := G) (ci := 1) (v := .int (g2 17)) (ty := .boolean) (C := RX1) (T := TX1) (N := 6) hx hb hts hin_X1 tyX1 tyX1_ok nmX1 hown hK hP hD hS 0 rfl rfl 5 (by decide) k28 (fun _ h9 => h9) rfl (by decide +kernel) (nb_ hB.2.2) (fb_ hB.2.2) (Nat.le_of_ble_eq_true rfl) dX1_copyFrom_45 (fun H locs hP hD hS => ?_)
  replace hP : va_P G vwCl [(h0, DrV (vf_upd f 7 (f2 7)) (upd (upd (upd (upd (upd g 13 (g2 13)) 14 (g2 14)) 15 (g2 15)) 16 (g2 16)) 17 (g2 17))), (h1, DrV f2 g2)] H := hP
  replace hD : va_D (inW [(h0, DrV f g), (h1, DrV f2 g2)]) [(h0, DrV (vf_upd f 7 (f2 7)) (upd (upd (upd (upd (upd g 13 (g2 13)) 14 (g2 14)) 15 (g2 15)) 16 (g2 16)) 17 (g2 17))), (h1, DrV f2 g2)] := hD
  exact en_wv hx hb hr hlocks hS hP dX1_copyFrom_48
set_option maxHeartbeats 4000000 in
set_option maxRecDepth 100000 in
/-- Door.obeyCall() -/
theorem cX1_obeyCall_ok (l : Launch) (G : va_G) (cA : Nat → ClassId) (h0 : Nat) (f : FF) (g : GG) : Wv l yX1_obeyCall wsX1_obeyCall ({ frames := 0, cells := 0, slots := 0, locals := 0 } : Room) G cA [.ref h0] [(h0, DrV f g)] [(h0, DrV f (obeyG g))] := by
  refine ofW2 (cc := cX1_obeyCall) (maxL := 1) (ret := none) (own := RX1) (by decide) rfl rfl (Nat.le_of_ble_eq_true rfl) rfl ?_
  intro p e s m below meth c ls hx hb hml hr hts hown hlocks hv hl
  obtain ⟨hP, hE, hD0⟩ := hv
  have hK := hE.1
  have hD := dself hD0
  generalize hH0 : s.heap = H at hP ⊢
  have hS : va_S (inW [(h0, DrV f g)]) s.heap H [] := hH0 ▸ va_S.rf
  generalize ([] : List Loc) = locs at hS ⊢
  clear hH0 hD0
  replace hl : lv_has ls 1 [(0, .ref h0)] := hl
  have hin_X1 : ∀ q ∈ u_ws RX1 TX1 6, q ∈ wsX1_obeyCall := by decide +kernel
  have k9 := hts (.fieldLink RX1 9 "LiftBeams$Door" "state" "I") (by decide +kernel)
  have k19 := hts (.fieldLink RX1 19 "LiftBeams$Door" "waited" "I") (by decide +kernel)
  refine lv_aload_n hx hb dX1_obeyCall_0 rfl (lv_at hl 0 rfl) ?_
  refine va_get (D := G) (ci := 1) (v := .int (g 13)) (C := RX1) (T := TX1) (N := 6) hx hb hts hin_X1 hown hK hP 0 rfl rfl 1 (by decide) k9 (fun _ h9 => h9) rfl dX1_obeyCall_1 ?_
  refine lv_iconst (v := 2) hx hb dX1_obeyCall_4 (by decide) ?_
  refine lv_icmp_ne (tgt := 16) hx hb dX1_obeyCall_5 (by decide) (fun c_5 => ?_) (fun c_5 => ?_)
  · skip
    refine lv_aload_n hx hb dX1_obeyCall_16 rfl (lv_at hl 0 rfl) ?_
    refine lv_iconst (v := 1) hx hb dX1_obeyCall_17 (by decide) ?_
    refine va_put (D := G) (ci := 1) (v := .int 1) (ty := .int) (C := RX1) (T := TX1) (N := 6) hx hb hts hin_X1 tyX1 tyX1_ok nmX1 hown hK hP hD hS 0 rfl rfl 1 (by decide) k9 (fun _ h9 => h9) rfl (by decide +kernel) rfl rfl (Nat.le_of_ble_eq_true rfl) dX1_obeyCall_18 (fun H locs hP hD hS => ?_)
    replace hP : va_P G vwCl [(h0, DrV f (upd g 13 1))] H := hP
    replace hD : va_D (inW [(h0, DrV f g)]) [(h0, DrV f (upd g 13 1))] := hD
    exact en_wv hx hb hr hlocks hS (by first | exact hP | (simp only [obeyG, if_neg c_5]; exact hP)) dX1_obeyCall_21
  · skip
    refine lv_aload_n hx hb dX1_obeyCall_8 rfl (lv_at hl 0 rfl) ?_
    refine lv_iconst (v := 0) hx hb dX1_obeyCall_9 (by decide) ?_
    refine va_put (D := G) (ci := 1) (v := .int 0) (ty := .int) (C := RX1) (T := TX1) (N := 6) hx hb hts hin_X1 tyX1 tyX1_ok nmX1 hown hK hP hD hS 0 rfl rfl 2 (by decide) k19 (fun _ h9 => h9) rfl (by decide +kernel) rfl rfl (Nat.le_of_ble_eq_true rfl) dX1_obeyCall_10 (fun H locs hP hD hS => ?_)
    replace hP : va_P G vwCl [(h0, DrV f (upd g 14 0))] H := hP
    replace hD : va_D (inW [(h0, DrV f g)]) [(h0, DrV f (upd g 14 0))] := hD
    refine lv_goto (tgt := 21) hx hb dX1_obeyCall_13 (by decide) ?_
    exact en_wv hx hb hr hlocks hS (by first | exact hP | (simp only [obeyG, if_pos c_5]; exact hP)) dX1_obeyCall_21
set_option maxHeartbeats 4000000 in
set_option maxRecDepth 100000 in
/-- Door.openFurther(speed) -/
theorem cX1_openFurther_ok (l : Launch) (G : va_G) (cA : Nat → ClassId) (h0 : Nat) (f : FF) (g : GG) (sp : UInt32) (hn : vf_n32 (FP.fadd (f 7) sp)) : Wv l yX1_openFurther wsX1_openFurther ({ frames := 0, cells := 0, slots := 0, locals := 0 } : Room) G cA [.ref h0, .float sp] [(h0, DrV f g)] [(h0, DrV (openF f sp) (openG f g sp))] := by
  refine ofW2 (cc := cX1_openFurther) (maxL := 2) (ret := none) (own := RX1) (by decide) rfl rfl (Nat.le_of_ble_eq_true rfl) rfl ?_
  intro p e s m below meth c ls hx hb hml hr hts hown hlocks hv hl
  obtain ⟨hP, hE, hD0⟩ := hv
  have hK := hE.1
  have hD := dself hD0
  generalize hH0 : s.heap = H at hP ⊢
  have hS : va_S (inW [(h0, DrV f g)]) s.heap H [] := hH0 ▸ va_S.rf
  generalize ([] : List Loc) = locs at hS ⊢
  clear hH0 hD0
  replace hl : lv_has ls 2 [(0, .ref h0), (1, .float sp)] := hl
  have hin_X1 : ∀ q ∈ u_ws RX1 TX1 6, q ∈ wsX1_openFurther := by decide +kernel
  have k15 := hts (.fieldLink RX1 15 "LiftBeams$Door" "place" "F") (by decide +kernel)
  have k9 := hts (.fieldLink RX1 9 "LiftBeams$Door" "state" "I") (by decide +kernel)
  have k19 := hts (.fieldLink RX1 19 "LiftBeams$Door" "waited" "I") (by decide +kernel)
  refine lv_aload_n hx hb dX1_openFurther_0 rfl (lv_at hl 0 rfl) ?_
  refine lv_aload_n hx hb dX1_openFurther_1 rfl (lv_at hl 0 rfl) ?_
  refine va_get (D := G) (ci := 1) (v := .float (f 7)) (C := RX1) (T := TX1) (N := 6) hx hb hts hin_X1 hown hK hP 0 rfl rfl 0 (by decide) k15 (fun _ h9 => h9) rfl dX1_openFurther_2 ?_
  refine lv_fload_n hx hb dX1_openFurther_5 rfl (lv_at hl 1 rfl) ?_
  refine lv_fadd hx hb dX1_openFurther_6 (hn) ?_
  refine va_put (D := G) (ci := 1) (v := .float (FP.fadd (f 7) sp)) (ty := .float) (C := RX1) (T := TX1) (N := 6) hx hb hts hin_X1 tyX1 tyX1_ok nmX1 hown hK hP hD hS 0 rfl rfl 0 (by decide) k15 (fun _ h9 => h9) rfl (by decide +kernel) rfl rfl (Nat.le_of_ble_eq_true rfl) dX1_openFurther_7 (fun H locs hP hD hS => ?_)
  replace hP : va_P G vwCl [(h0, DrV (vf_upd f 7 (FP.fadd (f 7) sp)) g)] H := hP
  replace hD : va_D (inW [(h0, DrV f g)]) [(h0, DrV (vf_upd f 7 (FP.fadd (f 7) sp)) g)] := hD
  refine lv_aload_n hx hb dX1_openFurther_10 rfl (lv_at hl 0 rfl) ?_
  refine va_get (D := G) (ci := 1) (v := .float (FP.fadd (f 7) sp)) (C := RX1) (T := TX1) (N := 6) hx hb hts hin_X1 hown hK hP 0 rfl rfl 0 (by decide) k15 (fun _ h9 => h9) rfl dX1_openFurther_11 ?_
  refine lv_ldcf hx hb hown (hts (.constantFloat RX1 32 (1120403456)) (by decide +kernel)) dX1_openFurther_14 ?_
  refine lv_fcmp hx hb dX1_openFurther_16 ?_
  refine lv_if_lt (tgt := 36) hx hb dX1_openFurther_17 (by decide) (fun c_17 => ?_) (fun c_17 => ?_)
  · skip
    exact en_wv hx hb hr hlocks hS (by first | exact hP | (simp only [openF, openG, if_pos c_17]; exact hP)) dX1_openFurther_36
  · skip
    refine lv_aload_n hx hb dX1_openFurther_20 rfl (lv_at hl 0 rfl) ?_
    refine lv_ldcf hx hb hown (hts (.constantFloat RX1 32 (1120403456)) (by decide +kernel)) dX1_openFurther_21 ?_
    refine va_put (D := G) (ci := 1) (v := .float 1120403456) (ty := .float) (C := RX1) (T := TX1) (N := 6) hx hb hts hin_X1 tyX1 tyX1_ok nmX1 hown hK hP hD hS 0 rfl rfl 0 (by decide) k15 (fun _ h9 => h9) rfl (by decide +kernel) rfl rfl (Nat.le_of_ble_eq_true rfl) dX1_openFurther_23 (fun H locs hP hD hS => ?_)
    replace hP : va_P G vwCl [(h0, DrV (vf_upd f 7 1120403456) g)] H := hP
    replace hD : va_D (inW [(h0, DrV f g)]) [(h0, DrV (vf_upd f 7 1120403456) g)] := hD
    refine lv_aload_n hx hb dX1_openFurther_26 rfl (lv_at hl 0 rfl) ?_
    refine lv_iconst (v := 2) hx hb dX1_openFurther_27 (by decide) ?_
    refine va_put (D := G) (ci := 1) (v := .int 2) (ty := .int) (C := RX1) (T := TX1) (N := 6) hx hb hts hin_X1 tyX1 tyX1_ok nmX1 hown hK hP hD hS 0 rfl rfl 1 (by decide) k9 (fun _ h9 => h9) rfl (by decide +kernel) rfl rfl (Nat.le_of_ble_eq_true rfl) dX1_openFurther_28 (fun H locs hP hD hS => ?_)
    replace hP : va_P G vwCl [(h0, DrV (vf_upd f 7 1120403456) (upd g 13 2))] H := hP
    replace hD : va_D (inW [(h0, DrV f g)]) [(h0, DrV (vf_upd f 7 1120403456) (upd g 13 2))] := hD
    refine lv_aload_n hx hb dX1_openFurther_31 rfl (lv_at hl 0 rfl) ?_
    refine lv_iconst (v := 0) hx hb dX1_openFurther_32 (by decide) ?_
    refine va_put (D := G) (ci := 1) (v := .int 0) (ty := .int) (C := RX1) (T := TX1) (N := 6) hx hb hts hin_X1 tyX1 tyX1_ok nmX1 hown hK hP hD hS 0 rfl rfl 2 (by decide) k19 (fun _ h9 => h9) rfl (by decide +kernel) rfl rfl (Nat.le_of_ble_eq_true rfl) dX1_openFurther_33 (fun H locs hP hD hS => ?_)
    replace hP : va_P G vwCl [(h0, DrV (vf_upd f 7 1120403456) (upd (upd g 13 2) 14 0))] H := hP
    replace hD : va_D (inW [(h0, DrV f g)]) [(h0, DrV (vf_upd f 7 1120403456) (upd (upd g 13 2) 14 0))] := hD
    exact en_wv hx hb hr hlocks hS (by first | exact hP | (simp only [openF, openG, if_neg c_17]; exact hP)) dX1_openFurther_36
set_option maxHeartbeats 4000000 in
set_option maxRecDepth 100000 in
/-- Door.waitOpen(broken, dwell) -/
theorem cX1_waitOpen_ok (l : Launch) (G : va_G) (cA : Nat → ClassId) (h0 : Nat) (f : FF) (g : GG) (b d : Int32) : Wv l yX1_waitOpen wsX1_waitOpen ({ frames := 0, cells := 0, slots := 0, locals := 0 } : Room) G cA [.ref h0, .int b, .int d] [(h0, DrV f g)] [(h0, DrV f (waitG g b d))] := by
  refine ofW2 (cc := cX1_waitOpen) (maxL := 3) (ret := none) (own := RX1) (by decide) rfl rfl (Nat.le_of_ble_eq_true rfl) rfl ?_
  intro p e s m below meth c ls hx hb hml hr hts hown hlocks hv hl
  obtain ⟨hP, hE, hD0⟩ := hv
  have hK := hE.1
  have hD := dself hD0
  generalize hH0 : s.heap = H at hP ⊢
  have hS : va_S (inW [(h0, DrV f g)]) s.heap H [] := hH0 ▸ va_S.rf
  generalize ([] : List Loc) = locs at hS ⊢
  clear hH0 hD0
  replace hl : lv_has ls 3 [(0, .ref h0), (1, .int b), (2, .int d)] := hl
  have hin_X1 : ∀ q ∈ u_ws RX1 TX1 6, q ∈ wsX1_waitOpen := by decide +kernel
  have k19 := hts (.fieldLink RX1 19 "LiftBeams$Door" "waited" "I") (by decide +kernel)
  have k28 := hts (.fieldLink RX1 28 "LiftBeams$Door" "service" "Z") (by decide +kernel)
  have k9 := hts (.fieldLink RX1 9 "LiftBeams$Door" "state" "I") (by decide +kernel)
  have k22 := hts (.fieldLink RX1 22 "LiftBeams$Door" "stood" "I") (by decide +kernel)
  refine lv_iload_n hx hb dX1_waitOpen_0 rfl (lv_at hl 1 rfl) ?_
  refine lv_if_eq (tgt := 10) hx hb dX1_waitOpen_1 (by decide) (fun c_1 => ?_) (fun c_1 => ?_)
  · skip
    refine lv_aload_n hx hb dX1_waitOpen_10 rfl (lv_at hl 0 rfl) ?_
    refine lv_dup hx hb dX1_waitOpen_11 rfl ?_
    refine va_get (D := G) (ci := 1) (v := .int (g 14)) (C := RX1) (T := TX1) (N := 6) hx hb hts hin_X1 hown hK hP 0 rfl rfl 2 (by decide) k19 (fun _ h9 => h9) rfl dX1_waitOpen_12 ?_
    refine lv_iconst (v := 1) hx hb dX1_waitOpen_15 (by decide) ?_
    refine lv_iadd hx hb dX1_waitOpen_16 ?_
    refine va_put (D := G) (ci := 1) (v := .int ((g 14) + 1)) (ty := .int) (C := RX1) (T := TX1) (N := 6) hx hb hts hin_X1 tyX1 tyX1_ok nmX1 hown hK hP hD hS 0 rfl rfl 2 (by decide) k19 (fun _ h9 => h9) rfl (by decide +kernel) rfl rfl (Nat.le_of_ble_eq_true rfl) dX1_waitOpen_17 (fun H locs hP hD hS => ?_)
    replace hP : va_P G vwCl [(h0, DrV f (upd g 14 ((g 14) + 1)))] H := hP
    replace hD : va_D (inW [(h0, DrV f g)]) [(h0, DrV f (upd g 14 ((g 14) + 1)))] := hD
    refine lv_aload_n hx hb dX1_waitOpen_20 rfl (lv_at hl 0 rfl) ?_
    refine va_get (D := G) (ci := 1) (v := .int ((g 14) + 1)) (C := RX1) (T := TX1) (N := 6) hx hb hts hin_X1 hown hK hP 0 rfl rfl 2 (by decide) k19 (fun _ h9 => h9) rfl dX1_waitOpen_21 ?_
    refine lv_iload_n hx hb dX1_waitOpen_24 rfl (lv_at hl 2 rfl) ?_
    refine lv_icmp_lt (tgt := 45) hx hb dX1_waitOpen_25 (by decide) (fun c_25 => ?_) (fun c_25 => ?_)
    · skip
      exact en_wv hx hb hr hlocks hS (by first | exact hP | (simp only [waitG, if_pos c_1, if_pos c_25]; exact hP)) dX1_waitOpen_45
    · skip
      refine lv_aload_n hx hb dX1_waitOpen_28 rfl (lv_at hl 0 rfl) ?_
      refine va_get (D := G) (ci := 1) (v := .int (g 17)) (C := RX1) (T := TX1) (N := 6) hx hb hts hin_X1 hown hK hP 0 rfl rfl 5 (by decide) k28 (fun _ h9 => h9) rfl dX1_waitOpen_29 ?_
      refine lv_if_ne (tgt := 45) hx hb dX1_waitOpen_32 (by decide) (fun c_32 => ?_) (fun c_32 => ?_)
      · skip
        exact en_wv hx hb hr hlocks hS (by first | exact hP | (simp only [waitG, if_pos c_1, if_neg c_25, if_neg c_32]; exact hP)) dX1_waitOpen_45
      · skip
        refine lv_aload_n hx hb dX1_waitOpen_35 rfl (lv_at hl 0 rfl) ?_
        refine lv_iconst (v := 3) hx hb dX1_waitOpen_36 (by decide) ?_
        refine va_put (D := G) (ci := 1) (v := .int 3) (ty := .int) (C := RX1) (T := TX1) (N := 6) hx hb hts hin_X1 tyX1 tyX1_ok nmX1 hown hK hP hD hS 0 rfl rfl 1 (by decide) k9 (fun _ h9 => h9) rfl (by decide +kernel) rfl rfl (Nat.le_of_ble_eq_true rfl) dX1_waitOpen_37 (fun H locs hP hD hS => ?_)
        replace hP : va_P G vwCl [(h0, DrV f (upd (upd g 14 ((g 14) + 1)) 13 3))] H := hP
        replace hD : va_D (inW [(h0, DrV f g)]) [(h0, DrV f (upd (upd g 14 ((g 14) + 1)) 13 3))] := hD
        refine lv_aload_n hx hb dX1_waitOpen_40 rfl (lv_at hl 0 rfl) ?_
        refine lv_iconst (v := 0) hx hb dX1_waitOpen_41 (by decide) ?_
        refine va_put (D := G) (ci := 1) (v := .int 0) (ty := .int) (C := RX1) (T := TX1) (N := 6) hx hb hts hin_X1 tyX1 tyX1_ok nmX1 hown hK hP hD hS 0 rfl rfl 3 (by decide) k22 (fun _ h9 => h9) rfl (by decide +kernel) rfl rfl (Nat.le_of_ble_eq_true rfl) dX1_waitOpen_42 (fun H locs hP hD hS => ?_)
        replace hP : va_P G vwCl [(h0, DrV f (upd (upd (upd g 14 ((g 14) + 1)) 13 3) 15 0))] H := hP
        replace hD : va_D (inW [(h0, DrV f g)]) [(h0, DrV f (upd (upd (upd g 14 ((g 14) + 1)) 13 3) 15 0))] := hD
        exact en_wv hx hb hr hlocks hS (by first | exact hP | (simp only [waitG, if_pos c_1, if_neg c_25, if_pos c_32]; exact hP)) dX1_waitOpen_45
  · skip
    refine lv_aload_n hx hb dX1_waitOpen_4 rfl (lv_at hl 0 rfl) ?_
    refine lv_iconst (v := 0) hx hb dX1_waitOpen_5 (by decide) ?_
    refine va_put (D := G) (ci := 1) (v := .int 0) (ty := .int) (C := RX1) (T := TX1) (N := 6) hx hb hts hin_X1 tyX1 tyX1_ok nmX1 hown hK hP hD hS 0 rfl rfl 2 (by decide) k19 (fun _ h9 => h9) rfl (by decide +kernel) rfl rfl (Nat.le_of_ble_eq_true rfl) dX1_waitOpen_6 (fun H locs hP hD hS => ?_)
    replace hP : va_P G vwCl [(h0, DrV f (upd g 14 0))] H := hP
    replace hD : va_D (inW [(h0, DrV f g)]) [(h0, DrV f (upd g 14 0))] := hD
    exact en_wv hx hb hr hlocks hS (by first | exact hP | (simp only [waitG, if_neg c_1]; exact hP)) dX1_waitOpen_9
set_option maxHeartbeats 4000000 in
set_option maxRecDepth 100000 in
/-- Door.standsTooLong(patience) -/
theorem cX1_standsTooLong_ok (l : Launch) (G : va_G) (cA : Nat → ClassId) (h0 : Nat) (f : FF) (g : GG) (p0 : Int32) : Wi l yX1_standsTooLong wsX1_standsTooLong ({ frames := 0, cells := 0, slots := 0, locals := 0 } : Room) G cA [.ref h0, .int p0] [(h0, DrV f g)] (fun r => r = standR g p0) [(h0, DrV f (standG g))] := by
  refine ofW2 (cc := cX1_standsTooLong) (maxL := 2) (ret := (some .boolean)) (own := RX1) (by decide) rfl rfl (Nat.le_of_ble_eq_true rfl) rfl ?_
  intro p e s m below meth c ls hx hb hml hr hts hown hlocks hv hl
  obtain ⟨hP, hE, hD0⟩ := hv
  have hK := hE.1
  have hD := dself hD0
  generalize hH0 : s.heap = H at hP ⊢
  have hS : va_S (inW [(h0, DrV f g)]) s.heap H [] := hH0 ▸ va_S.rf
  generalize ([] : List Loc) = locs at hS ⊢
  clear hH0 hD0
  replace hl : lv_has ls 2 [(0, .ref h0), (1, .int p0)] := hl
  have hin_X1 : ∀ q ∈ u_ws RX1 TX1 6, q ∈ wsX1_standsTooLong := by decide +kernel
  have k22 := hts (.fieldLink RX1 22 "LiftBeams$Door" "stood" "I") (by decide +kernel)
  refine lv_aload_n hx hb dX1_standsTooLong_0 rfl (lv_at hl 0 rfl) ?_
  refine lv_dup hx hb dX1_standsTooLong_1 rfl ?_
  refine va_get (D := G) (ci := 1) (v := .int (g 15)) (C := RX1) (T := TX1) (N := 6) hx hb hts hin_X1 hown hK hP 0 rfl rfl 3 (by decide) k22 (fun _ h9 => h9) rfl dX1_standsTooLong_2 ?_
  refine lv_iconst (v := 1) hx hb dX1_standsTooLong_5 (by decide) ?_
  refine lv_iadd hx hb dX1_standsTooLong_6 ?_
  refine va_put (D := G) (ci := 1) (v := .int ((g 15) + 1)) (ty := .int) (C := RX1) (T := TX1) (N := 6) hx hb hts hin_X1 tyX1 tyX1_ok nmX1 hown hK hP hD hS 0 rfl rfl 3 (by decide) k22 (fun _ h9 => h9) rfl (by decide +kernel) rfl rfl (Nat.le_of_ble_eq_true rfl) dX1_standsTooLong_7 (fun H locs hP hD hS => ?_)
  replace hP : va_P G vwCl [(h0, DrV f (upd g 15 ((g 15) + 1)))] H := hP
  replace hD : va_D (inW [(h0, DrV f g)]) [(h0, DrV f (upd g 15 ((g 15) + 1)))] := hD
  refine lv_aload_n hx hb dX1_standsTooLong_10 rfl (lv_at hl 0 rfl) ?_
  refine va_get (D := G) (ci := 1) (v := .int ((g 15) + 1)) (C := RX1) (T := TX1) (N := 6) hx hb hts hin_X1 hown hK hP 0 rfl rfl 3 (by decide) k22 (fun _ h9 => h9) rfl dX1_standsTooLong_11 ?_
  refine lv_iload_n hx hb dX1_standsTooLong_14 rfl (lv_at hl 1 rfl) ?_
  refine lv_icmp_le (tgt := 22) hx hb dX1_standsTooLong_15 (by decide) (fun c_15 => ?_) (fun c_15 => ?_)
  · skip
    refine lv_iconst (v := 0) hx hb dX1_standsTooLong_22 (by decide) ?_
    exact en_wi hx hb hr rfl hlocks hS (by first | rfl | (simp only [standR, standG, if_pos c_15]; done) | (simp only [standR, standG, if_pos c_15]; rfl) | (simp only [standR, standG, if_pos c_15]; decide)) (by first | exact hP | (simp only [standR, standG, if_pos c_15]; exact hP)) dX1_standsTooLong_23
  · skip
    refine lv_iconst (v := 1) hx hb dX1_standsTooLong_18 (by decide) ?_
    refine lv_goto (tgt := 23) hx hb dX1_standsTooLong_19 (by decide) ?_
    exact en_wi hx hb hr rfl hlocks hS (by first | rfl | (simp only [standR, standG, if_neg c_15]; done) | (simp only [standR, standG, if_neg c_15]; rfl) | (simp only [standR, standG, if_neg c_15]; decide)) (by first | exact hP | (simp only [standR, standG, if_neg c_15]; exact hP)) dX1_standsTooLong_23
set_option maxHeartbeats 4000000 in
set_option maxRecDepth 100000 in
/-- Door.closeFurther(speed) -/
theorem cX1_closeFurther_ok (l : Launch) (G : va_G) (cA : Nat → ClassId) (h0 : Nat) (f : FF) (g : GG) (sp : UInt32) (hn : vf_n32 (FP.fsub (f 7) sp)) : Wi l yX1_closeFurther wsX1_closeFurther ({ frames := 0, cells := 0, slots := 0, locals := 0 } : Room) G cA [.ref h0, .float sp] [(h0, DrV f g)] (fun r => r = closeR f sp) [(h0, DrV (closeF f sp) (closeG f g sp))] := by
  refine ofW2 (cc := cX1_closeFurther) (maxL := 2) (ret := (some .boolean)) (own := RX1) (by decide) rfl rfl (Nat.le_of_ble_eq_true rfl) rfl ?_
  intro p e s m below meth c ls hx hb hml hr hts hown hlocks hv hl
  obtain ⟨hP, hE, hD0⟩ := hv
  have hK := hE.1
  have hD := dself hD0
  generalize hH0 : s.heap = H at hP ⊢
  have hS : va_S (inW [(h0, DrV f g)]) s.heap H [] := hH0 ▸ va_S.rf
  generalize ([] : List Loc) = locs at hS ⊢
  clear hH0 hD0
  replace hl : lv_has ls 2 [(0, .ref h0), (1, .float sp)] := hl
  have hin_X1 : ∀ q ∈ u_ws RX1 TX1 6, q ∈ wsX1_closeFurther := by decide +kernel
  have k22 := hts (.fieldLink RX1 22 "LiftBeams$Door" "stood" "I") (by decide +kernel)
  have k15 := hts (.fieldLink RX1 15 "LiftBeams$Door" "place" "F") (by decide +kernel)
  have k9 := hts (.fieldLink RX1 9 "LiftBeams$Door" "state" "I") (by decide +kernel)
  have k25 := hts (.fieldLink RX1 25 "LiftBeams$Door" "reopened" "I") (by decide +kernel)
  refine lv_aload_n hx hb dX1_closeFurther_0 rfl (lv_at hl 0 rfl) ?_
  refine lv_iconst (v := 0) hx hb dX1_closeFurther_1 (by decide) ?_
  refine va_put (D := G) (ci := 1) (v := .int 0) (ty := .int) (C := RX1) (T := TX1) (N := 6) hx hb hts hin_X1 tyX1 tyX1_ok nmX1 hown hK hP hD hS 0 rfl rfl 3 (by decide) k22 (fun _ h9 => h9) rfl (by decide +kernel) rfl rfl (Nat.le_of_ble_eq_true rfl) dX1_closeFurther_2 (fun H locs hP hD hS => ?_)
  replace hP : va_P G vwCl [(h0, DrV f (upd g 15 0))] H := hP
  replace hD : va_D (inW [(h0, DrV f g)]) [(h0, DrV f (upd g 15 0))] := hD
  refine lv_aload_n hx hb dX1_closeFurther_5 rfl (lv_at hl 0 rfl) ?_
  refine lv_aload_n hx hb dX1_closeFurther_6 rfl (lv_at hl 0 rfl) ?_
  refine va_get (D := G) (ci := 1) (v := .float (f 7)) (C := RX1) (T := TX1) (N := 6) hx hb hts hin_X1 hown hK hP 0 rfl rfl 0 (by decide) k15 (fun _ h9 => h9) rfl dX1_closeFurther_7 ?_
  refine lv_fload_n hx hb dX1_closeFurther_10 rfl (lv_at hl 1 rfl) ?_
  refine lv_fsub hx hb dX1_closeFurther_11 (hn) ?_
  refine va_put (D := G) (ci := 1) (v := .float (FP.fsub (f 7) sp)) (ty := .float) (C := RX1) (T := TX1) (N := 6) hx hb hts hin_X1 tyX1 tyX1_ok nmX1 hown hK hP hD hS 0 rfl rfl 0 (by decide) k15 (fun _ h9 => h9) rfl (by decide +kernel) rfl rfl (Nat.le_of_ble_eq_true rfl) dX1_closeFurther_12 (fun H locs hP hD hS => ?_)
  replace hP : va_P G vwCl [(h0, DrV (vf_upd f 7 (FP.fsub (f 7) sp)) (upd g 15 0))] H := hP
  replace hD : va_D (inW [(h0, DrV f g)]) [(h0, DrV (vf_upd f 7 (FP.fsub (f 7) sp)) (upd g 15 0))] := hD
  refine lv_aload_n hx hb dX1_closeFurther_15 rfl (lv_at hl 0 rfl) ?_
  refine va_get (D := G) (ci := 1) (v := .float (FP.fsub (f 7) sp)) (C := RX1) (T := TX1) (N := 6) hx hb hts hin_X1 hown hK hP 0 rfl rfl 0 (by decide) k15 (fun _ h9 => h9) rfl dX1_closeFurther_16 ?_
  refine lv_fconst0 hx hb dX1_closeFurther_19 ?_
  refine lv_fcmp hx hb dX1_closeFurther_20 ?_
  refine lv_if_le (tgt := 26) hx hb dX1_closeFurther_21 (by decide) (fun c_21 => ?_) (fun c_21 => ?_)
  · skip
    refine lv_aload_n hx hb dX1_closeFurther_26 rfl (lv_at hl 0 rfl) ?_
    refine lv_fconst0 hx hb dX1_closeFurther_27 ?_
    refine va_put (D := G) (ci := 1) (v := .float FP.fconst0) (ty := .float) (C := RX1) (T := TX1) (N := 6) hx hb hts hin_X1 tyX1 tyX1_ok nmX1 hown hK hP hD hS 0 rfl rfl 0 (by decide) k15 (fun _ h9 => h9) rfl (by decide +kernel) rfl rfl (Nat.le_of_ble_eq_true rfl) dX1_closeFurther_28 (fun H locs hP hD hS => ?_)
    replace hP : va_P G vwCl [(h0, DrV (vf_upd f 7 FP.fconst0) (upd g 15 0))] H := hP
    replace hD : va_D (inW [(h0, DrV f g)]) [(h0, DrV (vf_upd f 7 FP.fconst0) (upd g 15 0))] := hD
    refine lv_aload_n hx hb dX1_closeFurther_31 rfl (lv_at hl 0 rfl) ?_
    refine lv_iconst (v := 0) hx hb dX1_closeFurther_32 (by decide) ?_
    refine va_put (D := G) (ci := 1) (v := .int 0) (ty := .int) (C := RX1) (T := TX1) (N := 6) hx hb hts hin_X1 tyX1 tyX1_ok nmX1 hown hK hP hD hS 0 rfl rfl 1 (by decide) k9 (fun _ h9 => h9) rfl (by decide +kernel) rfl rfl (Nat.le_of_ble_eq_true rfl) dX1_closeFurther_33 (fun H locs hP hD hS => ?_)
    replace hP : va_P G vwCl [(h0, DrV (vf_upd f 7 FP.fconst0) (upd (upd g 15 0) 13 0))] H := hP
    replace hD : va_D (inW [(h0, DrV f g)]) [(h0, DrV (vf_upd f 7 FP.fconst0) (upd (upd g 15 0) 13 0))] := hD
    refine lv_aload_n hx hb dX1_closeFurther_36 rfl (lv_at hl 0 rfl) ?_
    refine lv_iconst (v := 0) hx hb dX1_closeFurther_37 (by decide) ?_
    refine va_put (D := G) (ci := 1) (v := .int 0) (ty := .int) (C := RX1) (T := TX1) (N := 6) hx hb hts hin_X1 tyX1 tyX1_ok nmX1 hown hK hP hD hS 0 rfl rfl 4 (by decide) k25 (fun _ h9 => h9) rfl (by decide +kernel) rfl rfl (Nat.le_of_ble_eq_true rfl) dX1_closeFurther_38 (fun H locs hP hD hS => ?_)
    replace hP : va_P G vwCl [(h0, DrV (vf_upd f 7 FP.fconst0) (upd (upd (upd g 15 0) 13 0) 16 0))] H := hP
    replace hD : va_D (inW [(h0, DrV f g)]) [(h0, DrV (vf_upd f 7 FP.fconst0) (upd (upd (upd g 15 0) 13 0) 16 0))] := hD
    refine lv_iconst (v := 1) hx hb dX1_closeFurther_41 (by decide) ?_
    exact en_wi hx hb hr rfl hlocks hS (by first | rfl | (simp only [closeR, closeF, closeG, if_pos c_21]; done) | (simp only [closeR, closeF, closeG, if_pos c_21]; rfl) | (simp only [closeR, closeF, closeG, if_pos c_21]; decide)) (by first | exact hP | (simp only [closeR, closeF, closeG, if_pos c_21]; exact hP)) dX1_closeFurther_42
  · skip
    refine lv_iconst (v := 0) hx hb dX1_closeFurther_24 (by decide) ?_
    exact en_wi hx hb hr rfl hlocks hS (by first | rfl | (simp only [closeR, closeF, closeG, if_neg c_21]; done) | (simp only [closeR, closeF, closeG, if_neg c_21]; rfl) | (simp only [closeR, closeF, closeG, if_neg c_21]; decide)) (by first | exact hP | (simp only [closeR, closeF, closeG, if_neg c_21]; exact hP)) dX1_closeFurther_25
