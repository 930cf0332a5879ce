/-! LiftBeams: what is told: contracts over small worlds (by wip/p26/lb2.py) -/
set_option maxHeartbeats 4000000 in
set_option maxRecDepth 100000 in
/-- place() -/
theorem cX8_place_ok (l : Launch) (G : va_G) (cA : Nat → ClassId) (o : Nat) (ad : Nat → Nat → Nat) (tk0 : Int32) (u : FF) (v : GG) (f : FF) (g L : GG) : Rf l yX8_place wsX8_place ({ frames := 0, cells := 0, slots := 0, locals := 0 } : Room) G cA [.ref o] [(o, LbV (ad 0 0) (ad 1 0) (ad 2 0) (ad 7 0) (ad 7 2) tk0), ((ad 0 0), StV (ad 0 1) (ad 0 2) (ad 0 3) (ad 0 4) (ad 0 5) g), ((ad 0 3), DrV f g)] (fun r => r = f 7) := by
  refine ofW2 (cc := cX8_place) (maxL := 1) (ret := (some .float)) (own := RX8) (by decide) rfl rfl (Nat.le_of_ble_eq_true rfl) rfl ?_
  intro p e s m below meth c ls hx hb hml hr hts hown hlocks hv hl
  obtain ⟨hP, hE, hD0⟩ := hv
  have hK := hE.1
  have hD := hD0
  generalize hH0 : s.heap = H at hP ⊢
  have hS : va_S (fun _ => False) s.heap H [] := hH0 ▸ va_S.rf
  generalize ([] : List Loc) = locs at hS ⊢
  clear hH0 hD0
  replace hl : lv_has ls 1 [(0, .ref o)] := hl
  have hin_X8 : ∀ q ∈ u_ws RX8 TX8 6, q ∈ wsX8_place := by decide +kernel
  have hin_X5 : ∀ q ∈ u_ws RX5 TX5 6, q ∈ wsX8_place := by decide +kernel
  have hin_X1 : ∀ q ∈ u_ws RX1 TX1 6, q ∈ wsX8_place := by decide +kernel
  have k10 := hts (.fieldLink RX8 10 "LiftBeams" "now" "LLiftBeams$State;") (by decide +kernel)
  have k81 := hts (.fieldLink RX8 81 "LiftBeams$State" "door" "LLiftBeams$Door;") (by decide +kernel)
  have k144 := hts (.fieldLink RX8 144 "LiftBeams$Door" "place" "F") (by decide +kernel)
  refine lv_aload_n hx hb dX8_place_0 rfl (lv_at hl 0 rfl) ?_
  refine va_get (D := G) (ci := 8) (v := .ref (ad 0 0)) (C := RX8) (T := TX8) (N := 6) hx hb hts hin_X8 hown hK hP 0 rfl rfl 0 (by decide) k10 (fun _ h9 => h9) rfl dX8_place_1 ?_
  refine va_get (D := G) (ci := 5) (v := .ref (ad 0 3)) (C := RX5) (T := TX5) (N := 6) hx hb hts hin_X5 hown hK hP 1 rfl rfl 2 (by decide) k81 (fun _ h9 => h9) rfl dX8_place_4 ?_
  refine va_get (D := G) (ci := 1) (v := .float (f 7)) (C := RX1) (T := TX1) (N := 6) hx hb hts hin_X1 hown hK hP 2 rfl rfl 0 (by decide) k144 (fun _ h9 => h9) rfl dX8_place_7 ?_
  exact en_rf hx hb hr hlocks hS rfl dX8_place_10
set_option maxHeartbeats 4000000 in
set_option maxRecDepth 100000 in
/-- speed(which) -/
theorem cX8_speed_ok (l : Launch) (G : va_G) (cA : Nat → ClassId) (o : Nat) (ad : Nat → Nat → Nat) (tk0 : Int32) (u : FF) (v : GG) (f : FF) (g L : GG) (w0 : Int32) : Rf l yX8_speed wsX8_speed ({ frames := 2, cells := 0, slots := 0, locals := 41 } : Room) G cA [.ref o, .int w0] [(o, LbV (ad 0 0) (ad 1 0) (ad 2 0) (ad 7 0) (ad 7 2) tk0), ((ad 0 0), StV (ad 0 1) (ad 0 2) (ad 0 3) (ad 0 4) (ad 0 5) g), ((ad 0 1), SeV (ad 0 6) (ad 0 7) (ad 0 8)), ((ad 0 2), ThV g), ((ad 0 3), DrV f g), ((ad 0 4), LgV (ad 0 9) g), ((ad 0 5), TaV g), ((ad 0 6), SpV cA u), ((ad 0 7), WeV cA u), ((ad 0 8), NuV cA v), ((ad 0 9), LcV cA L)] (fun r => r = spdF u v g w0) := by
  refine ofW2 (cc := cX8_speed) (maxL := 2) (ret := (some .float)) (own := RX8) (by decide) rfl rfl (Nat.le_of_ble_eq_true rfl) rfl ?_
  intro p e s m below meth c ls hx hb hml hr hts hown hlocks hv hl
  obtain ⟨hP, hE, hD0⟩ := hv
  have hK := hE.1
  have hD := hD0
  generalize hH0 : s.heap = H at hP ⊢
  have hS : va_S (fun _ => False) s.heap H [] := hH0 ▸ va_S.rf
  generalize ([] : List Loc) = locs at hS ⊢
  clear hH0 hD0
  replace hl : lv_has ls 2 [(0, .ref o), (1, .int w0)] := hl
  have hin_X8 : ∀ q ∈ u_ws RX8 TX8 6, q ∈ wsX8_speed := by decide +kernel
  have hin_X5 : ∀ q ∈ u_ws RX5 TX5 6, q ∈ wsX8_speed := by decide +kernel
  have k10 := hts (.fieldLink RX8 10 "LiftBeams" "now" "LLiftBeams$State;") (by decide +kernel)
  have k42 := hts (.fieldLink RX8 42 "LiftBeams$State" "settings" "LLiftBeams$Settings;") (by decide +kernel)
  refine lv_aload_n hx hb dX8_speed_0 rfl (lv_at hl 0 rfl) ?_
  refine va_get (D := G) (ci := 8) (v := .ref (ad 0 0)) (C := RX8) (T := TX8) (N := 6) hx hb hts hin_X8 hown hK hP 0 rfl rfl 0 (by decide) k10 (fun _ h9 => h9) rfl dX8_speed_1 ?_
  refine va_get (D := G) (ci := 5) (v := .ref (ad 0 1)) (C := RX5) (T := TX5) (N := 6) hx hb hts hin_X5 hown hK hP 1 rfl rfl 0 (by decide) k42 (fun _ h9 => h9) rfl dX8_speed_4 ?_
  refine lv_iload_n hx hb dX8_speed_7 rfl (lv_at hl 1 rfl) ?_
  refine lv_iconst (v := 3) hx hb dX8_speed_8 (by decide) ?_
  refine lv_icmp_ne (tgt := 22) hx hb dX8_speed_9 (by decide) (fun c_9 => ?_) (fun c_9 => ?_)
  · skip
    refine lv_iload_n hx hb dX8_speed_22 rfl (lv_at hl 1 rfl) ?_
    refine rd_f (rV (rest := []) ⟨hx, hb, hml, hown, hts⟩ (cX4_speedFor_ok l G cA (ad 0 1) (ad 0 6) (ad 0 7) (ad 0 8) u w0) (cwV 1 hts gX8_speed_X4_speedFor rfl rfl rfl mdX4_speedFor ⟨Nat.le_of_ble_eq_true rfl, Nat.le_of_ble_eq_true rfl⟩) hE (hP.sub (ws' := [((ad 0 1), SeV (ad 0 6) (ad 0 7) (ad 0 8)), ((ad 0 6), SpV cA u)]) [2, 7] rfl) (hD.sub (ws' := [((ad 0 1), SeV (ad 0 6) (ad 0 7) (ad 0 8)), ((ad 0 6), SpV cA u)]) [2, 7] (by decide) rfl) (q0 := 0) (ci := 4) rfl rfl rfl hl rfl (Nat.le_of_ble_eq_true rfl) dX8_speed_23 ⟨Nat.le_of_ble_eq_true rfl, Nat.le_of_ble_eq_true rfl⟩) hS hP (fun r_23 H locs hr_23 hP hS => ?_)
    subst hr_23
    exact en_rf hx hb hr hlocks hS (by first | rfl | (simp only [spdF, if_neg c_9]; done) | (simp only [spdF, if_neg c_9]; rfl) | (simp only [spdF, if_neg c_9]; decide)) dX8_speed_26
  · skip
    refine lv_aload_n hx hb dX8_speed_12 rfl (lv_at hl 0 rfl) ?_
    refine va_get (D := G) (ci := 8) (v := .ref (ad 0 0)) (C := RX8) (T := TX8) (N := 6) hx hb hts hin_X8 hown hK hP 0 rfl rfl 0 (by decide) k10 (fun _ h9 => h9) rfl dX8_speed_13 ?_
    refine rd_i (rV (rest := [.ref (ad 0 1)]) ⟨hx, hb, hml, hown, hts⟩ (cX5_speedOfClosing_ok l G cA (ad 0) u v f g L  ) (cwV 0 hts gX8_speed_X5_speedOfClosing rfl rfl rfl mdX5_speedOfClosing ⟨Nat.le_of_ble_eq_true rfl, Nat.le_of_ble_eq_true rfl⟩) hE (hP.sub (ws' := [((ad 0 0), StV (ad 0 1) (ad 0 2) (ad 0 3) (ad 0 4) (ad 0 5) g), ((ad 0 1), SeV (ad 0 6) (ad 0 7) (ad 0 8)), ((ad 0 2), ThV g), ((ad 0 3), DrV f g), ((ad 0 4), LgV (ad 0 9) g), ((ad 0 5), TaV g), ((ad 0 6), SpV cA u), ((ad 0 7), WeV cA u), ((ad 0 8), NuV cA v), ((ad 0 9), LcV cA L)]) [1, 2, 3, 4, 5, 6, 7, 8, 9, 10] rfl) (hD.sub (ws' := [((ad 0 0), StV (ad 0 1) (ad 0 2) (ad 0 3) (ad 0 4) (ad 0 5) g), ((ad 0 1), SeV (ad 0 6) (ad 0 7) (ad 0 8)), ((ad 0 2), ThV g), ((ad 0 3), DrV f g), ((ad 0 4), LgV (ad 0 9) g), ((ad 0 5), TaV g), ((ad 0 6), SpV cA u), ((ad 0 7), WeV cA u), ((ad 0 8), NuV cA v), ((ad 0 9), LcV cA L)]) [1, 2, 3, 4, 5, 6, 7, 8, 9, 10] (by decide) rfl) (q0 := 0) (ci := 5) rfl rfl rfl hl rfl (Nat.le_of_ble_eq_true rfl) dX8_speed_16 ⟨Nat.le_of_ble_eq_true rfl, Nat.le_of_ble_eq_true rfl⟩) hS hP (fun r_16 H locs hr_16 hP hS => ?_)
    subst hr_16
    refine lv_goto (tgt := 23) hx hb dX8_speed_19 (by decide) ?_
    refine rd_f (rV (rest := []) ⟨hx, hb, hml, hown, hts⟩ (cX4_speedFor_ok l G cA (ad 0 1) (ad 0 6) (ad 0 7) (ad 0 8) u (scF v g)) (cwV 1 hts gX8_speed_X4_speedFor rfl rfl rfl mdX4_speedFor ⟨Nat.le_of_ble_eq_true rfl, Nat.le_of_ble_eq_true rfl⟩) hE (hP.sub (ws' := [((ad 0 1), SeV (ad 0 6) (ad 0 7) (ad 0 8)), ((ad 0 6), SpV cA u)]) [2, 7] rfl) (hD.sub (ws' := [((ad 0 1), SeV (ad 0 6) (ad 0 7) (ad 0 8)), ((ad 0 6), SpV cA u)]) [2, 7] (by decide) rfl) (q0 := 0) (ci := 4) rfl rfl rfl hl rfl (Nat.le_of_ble_eq_true rfl) dX8_speed_23 ⟨Nat.le_of_ble_eq_true rfl, Nat.le_of_ble_eq_true rfl⟩) hS hP (fun r_23_1 H locs hr_23_1 hP hS => ?_)
    subst hr_23_1
    exact en_rf hx hb hr hlocks hS (by first | rfl | (simp only [spdF, if_pos c_9]; done) | (simp only [spdF, if_pos c_9]; rfl) | (simp only [spdF, if_pos c_9]; decide)) dX8_speed_26
set_option maxHeartbeats 4000000 in
set_option maxRecDepth 100000 in
/-- weight(kind) -/
theorem cX8_weight_ok (l : Launch) (G : va_G) (cA : Nat → ClassId) (o : Nat) (ad : Nat → Nat → Nat) (tk0 : Int32) (u : FF) (v : GG) (f : FF) (g L : GG) (w0 : Int32) : Rf l yX8_weight wsX8_weight ({ frames := 2, cells := 0, slots := 0, locals := 40 } : Room) G cA [.ref o, .int w0] [(o, LbV (ad 0 0) (ad 1 0) (ad 2 0) (ad 7 0) (ad 7 2) tk0), ((ad 0 0), StV (ad 0 1) (ad 0 2) (ad 0 3) (ad 0 4) (ad 0 5) g), ((ad 0 1), SeV (ad 0 6) (ad 0 7) (ad 0 8)), ((ad 0 7), WeV cA u)] (fun r => r = weF u w0) := by
  refine ofW2 (cc := cX8_weight) (maxL := 2) (ret := (some .float)) (own := RX8) (by decide) rfl rfl (Nat.le_of_ble_eq_true rfl) rfl ?_
  intro p e s m below meth c ls hx hb hml hr hts hown hlocks hv hl
  obtain ⟨hP, hE, hD0⟩ := hv
  have hK := hE.1
  have hD := hD0
  generalize hH0 : s.heap = H at hP ⊢
  have hS : va_S (fun _ => False) s.heap H [] := hH0 ▸ va_S.rf
  generalize ([] : List Loc) = locs at hS ⊢
  clear hH0 hD0
  replace hl : lv_has ls 2 [(0, .ref o), (1, .int w0)] := hl
  have hin_X8 : ∀ q ∈ u_ws RX8 TX8 6, q ∈ wsX8_weight := by decide +kernel
  have hin_X5 : ∀ q ∈ u_ws RX5 TX5 6, q ∈ wsX8_weight := by decide +kernel
  have k10 := hts (.fieldLink RX8 10 "LiftBeams" "now" "LLiftBeams$State;") (by decide +kernel)
  have k42 := hts (.fieldLink RX8 42 "LiftBeams$State" "settings" "LLiftBeams$Settings;") (by decide +kernel)
  refine lv_aload_n hx hb dX8_weight_0 rfl (lv_at hl 0 rfl) ?_
  refine va_get (D := G) (ci := 8) (v := .ref (ad 0 0)) (C := RX8) (T := TX8) (N := 6) hx hb hts hin_X8 hown hK hP 0 rfl rfl 0 (by decide) k10 (fun _ h9 => h9) rfl dX8_weight_1 ?_
  refine va_get (D := G) (ci := 5) (v := .ref (ad 0 1)) (C := RX5) (T := TX5) (N := 6) hx hb hts hin_X5 hown hK hP 1 rfl rfl 0 (by decide) k42 (fun _ h9 => h9) rfl dX8_weight_4 ?_
  refine lv_iload_n hx hb dX8_weight_7 rfl (lv_at hl 1 rfl) ?_
  refine rd_f (rV (rest := []) ⟨hx, hb, hml, hown, hts⟩ (cX4_weightOf_ok l G cA (ad 0 1) (ad 0 6) (ad 0 7) (ad 0 8) u w0) (cwV 1 hts gX8_weight_X4_weightOf rfl rfl rfl mdX4_weightOf ⟨Nat.le_of_ble_eq_true rfl, Nat.le_of_ble_eq_true rfl⟩) hE (hP.sub (ws' := [((ad 0 1), SeV (ad 0 6) (ad 0 7) (ad 0 8)), ((ad 0 7), WeV cA u)]) [2, 3] rfl) (hD.sub (ws' := [((ad 0 1), SeV (ad 0 6) (ad 0 7) (ad 0 8)), ((ad 0 7), WeV cA u)]) [2, 3] (by decide) rfl) (q0 := 0) (ci := 4) rfl rfl rfl hl rfl (Nat.le_of_ble_eq_true rfl) dX8_weight_8 ⟨Nat.le_of_ble_eq_true rfl, Nat.le_of_ble_eq_true rfl⟩) hS hP (fun r_8 H locs hr_8 hP hS => ?_)
  subst hr_8
  exact en_rf hx hb hr hlocks hS rfl dX8_weight_11
set_option maxHeartbeats 4000000 in
set_option maxRecDepth 100000 in
/-- score(kind) -/
theorem cX8_score_ok (l : Launch) (G : va_G) (cA : Nat → ClassId) (o : Nat) (ad : Nat → Nat → Nat) (tk0 : Int32) (u : FF) (v : GG) (f : FF) (g L : GG) (w0 : Int32) (hL : LkOk g) (hn : ¬ w0 < 0 → ¬ 4 ≤ w0 → vf_n32 (prodF u g w0)) : Rf l yX8_score wsX8_score ({ frames := 2, cells := 0, slots := 0, locals := 48 } : Room) G cA [.ref o, .int w0] [(o, LbV (ad 0 0) (ad 1 0) (ad 2 0) (ad 7 0) (ad 7 2) tk0), ((ad 0 0), StV (ad 0 1) (ad 0 2) (ad 0 3) (ad 0 4) (ad 0 5) g), ((ad 0 1), SeV (ad 0 6) (ad 0 7) (ad 0 8)), ((ad 0 2), ThV g), ((ad 0 7), WeV cA u)] (fun r => r = scoF u g w0) := by
  refine ofW2 (cc := cX8_score) (maxL := 2) (ret := (some .float)) (own := RX8) (by decide) rfl rfl (Nat.le_of_ble_eq_true rfl) rfl ?_
  intro p e s m below meth c ls hx hb hml hr hts hown hlocks hv hl
  obtain ⟨hP, hE, hD0⟩ := hv
  have hK := hE.1
  have hD := hD0
  generalize hH0 : s.heap = H at hP ⊢
  have hS : va_S (fun _ => False) s.heap H [] := hH0 ▸ va_S.rf
  generalize ([] : List Loc) = locs at hS ⊢
  clear hH0 hD0
  replace hl : lv_has ls 2 [(0, .ref o), (1, .int w0)] := hl
  have hin_X8 : ∀ q ∈ u_ws RX8 TX8 6, q ∈ wsX8_score := by decide +kernel
  have hin_X5 : ∀ q ∈ u_ws RX5 TX5 6, q ∈ wsX8_score := by decide +kernel
  have hin_X7 : ∀ q ∈ u_ws RX7 TX7 8, q ∈ wsX8_score := by decide +kernel
  have k10 := hts (.fieldLink RX8 10 "LiftBeams" "now" "LLiftBeams$State;") (by decide +kernel)
  have k151 := hts (.fieldLink RX8 151 "LiftBeams$State" "thing" "LLiftBeams$Thing;") (by decide +kernel)
  have k155 := hts (.fieldLink RX8 155 "LiftBeams$Thing" "there" "Z") (by decide +kernel)
  have k42 := hts (.fieldLink RX8 42 "LiftBeams$State" "settings" "LLiftBeams$Settings;") (by decide +kernel)
  refine lv_iload_n hx hb dX8_score_0 rfl (lv_at hl 1 rfl) ?_
  refine lv_if_lt (tgt := 22) hx hb dX8_score_1 (by decide) (fun c_1 => ?_) (fun c_1 => ?_)
  · skip
    refine rd_f (rS (rest := []) ⟨hx, hb, hml, hown, hts⟩ (cX8_notANumber_ok l G cA) (va_cwS 0 hts gX8_score_X8_notANumber rfl rfl rfl mdX8_notANumber.2 ⟨Nat.le_of_ble_eq_true rfl, Nat.le_of_ble_eq_true rfl⟩) hE (hP.sub (ws' := []) [] rfl) (hD.sub (ws' := []) [] (by decide) rfl) rfl hl rfl (Nat.le_of_ble_eq_true rfl) dX8_score_22 ⟨Nat.le_of_ble_eq_true rfl, Nat.le_of_ble_eq_true rfl⟩) hS hP (fun r_22 H locs hr_22 hP hS => ?_)
    subst hr_22
    exact en_rf hx hb hr hlocks hS (by first | rfl | (simp only [scoF, if_pos c_1]; done) | (simp only [scoF, if_pos c_1]; rfl) | (simp only [scoF, if_pos c_1]; decide)) dX8_score_25
  · skip
    refine lv_iload_n hx hb dX8_score_4 rfl (lv_at hl 1 rfl) ?_
    refine lv_iconst (v := 4) hx hb dX8_score_5 (by decide) ?_
    refine lv_icmp_ge (tgt := 22) hx hb dX8_score_6 (by decide) (fun c_6 => ?_) (fun c_6 => ?_)
    · skip
      refine rd_f (rS (rest := []) ⟨hx, hb, hml, hown, hts⟩ (cX8_notANumber_ok l G cA) (va_cwS 0 hts gX8_score_X8_notANumber rfl rfl rfl mdX8_notANumber.2 ⟨Nat.le_of_ble_eq_true rfl, Nat.le_of_ble_eq_true rfl⟩) hE (hP.sub (ws' := []) [] rfl) (hD.sub (ws' := []) [] (by decide) rfl) rfl hl rfl (Nat.le_of_ble_eq_true rfl) dX8_score_22 ⟨Nat.le_of_ble_eq_true rfl, Nat.le_of_ble_eq_true rfl⟩) hS hP (fun r_22_1 H locs hr_22_1 hP hS => ?_)
      subst hr_22_1
      exact en_rf hx hb hr hlocks hS (by first | rfl | (simp only [scoF, if_neg c_1, if_pos c_6]; done) | (simp only [scoF, if_neg c_1, if_pos c_6]; rfl) | (simp only [scoF, if_neg c_1, if_pos c_6]; decide)) dX8_score_25
    · skip
      refine lv_aload_n hx hb dX8_score_9 rfl (lv_at hl 0 rfl) ?_
      refine va_get (D := G) (ci := 8) (v := .ref (ad 0 0)) (C := RX8) (T := TX8) (N := 6) hx hb hts hin_X8 hown hK hP 0 rfl rfl 0 (by decide) k10 (fun _ h9 => h9) rfl dX8_score_10 ?_
      refine va_get (D := G) (ci := 5) (v := .ref (ad 0 2)) (C := RX5) (T := TX5) (N := 6) hx hb hts hin_X5 hown hK hP 1 rfl rfl 1 (by decide) k151 (fun _ h9 => h9) rfl dX8_score_13 ?_
      refine va_get (D := G) (ci := 7) (v := .int (g 5)) (C := RX7) (T := TX7) (N := 8) hx hb hts hin_X7 hown hK hP 3 rfl rfl 0 (by decide) k155 (fun _ h9 => h9) rfl dX8_score_16 ?_
      refine lv_if_ne (tgt := 26) hx hb dX8_score_19 (by decide) (fun c_19 => ?_) (fun c_19 => ?_)
      · skip
        refine lv_aload_n hx hb dX8_score_26 rfl (lv_at hl 0 rfl) ?_
        refine va_get (D := G) (ci := 8) (v := .ref (ad 0 0)) (C := RX8) (T := TX8) (N := 6) hx hb hts hin_X8 hown hK hP 0 rfl rfl 0 (by decide) k10 (fun _ h9 => h9) rfl dX8_score_27 ?_
        refine va_get (D := G) (ci := 5) (v := .ref (ad 0 2)) (C := RX5) (T := TX5) (N := 6) hx hb hts hin_X5 hown hK hP 1 rfl rfl 1 (by decide) k151 (fun _ h9 => h9) rfl dX8_score_30 ?_
        refine lv_iload_n hx hb dX8_score_33 rfl (lv_at hl 1 rfl) ?_
        refine lv_aload_n hx hb dX8_score_34 rfl (lv_at hl 0 rfl) ?_
        refine va_get (D := G) (ci := 8) (v := .ref (ad 0 0)) (C := RX8) (T := TX8) (N := 6) hx hb hts hin_X8 hown hK hP 0 rfl rfl 0 (by decide) k10 (fun _ h9 => h9) rfl dX8_score_35 ?_
        refine va_get (D := G) (ci := 5) (v := .ref (ad 0 1)) (C := RX5) (T := TX5) (N := 6) hx hb hts hin_X5 hown hK hP 1 rfl rfl 0 (by decide) k42 (fun _ h9 => h9) rfl dX8_score_38 ?_
        refine lv_iload_n hx hb dX8_score_41 rfl (lv_at hl 1 rfl) ?_
        refine rd_f (rV (rest := [.int w0, .ref (ad 0 2)]) ⟨hx, hb, hml, hown, hts⟩ (cX4_weightOf_ok l G cA (ad 0 1) (ad 0 6) (ad 0 7) (ad 0 8) u w0) (cwV 1 hts gX8_score_X4_weightOf rfl rfl rfl mdX4_weightOf ⟨Nat.le_of_ble_eq_true rfl, Nat.le_of_ble_eq_true rfl⟩) hE (hP.sub (ws' := [((ad 0 1), SeV (ad 0 6) (ad 0 7) (ad 0 8)), ((ad 0 7), WeV cA u)]) [2, 4] rfl) (hD.sub (ws' := [((ad 0 1), SeV (ad 0 6) (ad 0 7) (ad 0 8)), ((ad 0 7), WeV cA u)]) [2, 4] (by decide) rfl) (q0 := 0) (ci := 4) rfl rfl rfl hl rfl (Nat.le_of_ble_eq_true rfl) dX8_score_42 ⟨Nat.le_of_ble_eq_true rfl, Nat.le_of_ble_eq_true rfl⟩) hS hP (fun r_42 H locs hr_42 hP hS => ?_)
        subst hr_42
        refine rd_f (rV (rest := []) ⟨hx, hb, hml, hown, hts⟩ (cX7_product_ok l G cA (ad 0 2) g w0 (weF u w0) hL (hn c_1 c_6)) (cwV 2 hts gX8_score_X7_product rfl rfl rfl mdX7_product ⟨Nat.le_of_ble_eq_true rfl, Nat.le_of_ble_eq_true rfl⟩) hE (hP.sub (ws' := [((ad 0 2), ThV g)]) [3] rfl) (hD.sub (ws' := [((ad 0 2), ThV g)]) [3] (by decide) rfl) (q0 := 0) (ci := 7) rfl rfl rfl hl rfl (Nat.le_of_ble_eq_true rfl) dX8_score_45 ⟨Nat.le_of_ble_eq_true rfl, Nat.le_of_ble_eq_true rfl⟩) hS hP (fun r_45 H locs hr_45 hP hS => ?_)
        subst hr_45
        exact en_rf hx hb hr hlocks hS (by first | rfl | (simp only [scoF, if_neg c_1, if_neg c_6, if_neg c_19]; done) | (simp only [scoF, if_neg c_1, if_neg c_6, if_neg c_19]; rfl) | (simp only [scoF, if_neg c_1, if_neg c_6, if_neg c_19]; decide)) dX8_score_48
      · skip
        refine rd_f (rS (rest := []) ⟨hx, hb, hml, hown, hts⟩ (cX8_notANumber_ok l G cA) (va_cwS 0 hts gX8_score_X8_notANumber rfl rfl rfl mdX8_notANumber.2 ⟨Nat.le_of_ble_eq_true rfl, Nat.le_of_ble_eq_true rfl⟩) hE (hP.sub (ws' := []) [] rfl) (hD.sub (ws' := []) [] (by decide) rfl) rfl hl rfl (Nat.le_of_ble_eq_true rfl) dX8_score_22 ⟨Nat.le_of_ble_eq_true rfl, Nat.le_of_ble_eq_true rfl⟩) hS hP (fun r_22_2 H locs hr_22_2 hP hS => ?_)
        subst hr_22_2
        exact en_rf hx hb hr hlocks hS (by first | rfl | (simp only [scoF, if_neg c_1, if_neg c_6, if_pos c_19]; done) | (simp only [scoF, if_neg c_1, if_neg c_6, if_pos c_19]; rfl) | (simp only [scoF, if_neg c_1, if_neg c_6, if_pos c_19]; decide)) dX8_score_25
set_option maxHeartbeats 4000000 in
set_option maxRecDepth 100000 in
/-- number(which) -/
theorem cX8_number_ok (l : Launch) (G : va_G) (cA : Nat → ClassId) (o : Nat) (ad : Nat → Nat → Nat) (tk0 : Int32) (u : FF) (v : GG) (f : FF) (g L : GG) (w0 : Int32) : Ri l yX8_number wsX8_number ({ frames := 1, cells := 0, slots := 0, locals := 21 } : Room) G cA [.ref o, .int w0] [(o, LbV (ad 0 0) (ad 1 0) (ad 2 0) (ad 7 0) (ad 7 2) tk0), ((ad 0 0), StV (ad 0 1) (ad 0 2) (ad 0 3) (ad 0 4) (ad 0 5) g), ((ad 0 1), SeV (ad 0 6) (ad 0 7) (ad 0 8)), ((ad 0 8), NuV cA v)] (fun r => r = nuF v w0) := by
  refine ofW2 (cc := cX8_number) (maxL := 2) (ret := (some .int)) (own := RX8) (by decide) rfl rfl (Nat.le_of_ble_eq_true rfl) rfl ?_
  intro p e s m below meth c ls hx hb hml hr hts hown hlocks hv hl
  obtain ⟨hP, hE, hD0⟩ := hv
  have hK := hE.1
  have hD := hD0
  generalize hH0 : s.heap = H at hP ⊢
  have hS : va_S (fun _ => False) s.heap H [] := hH0 ▸ va_S.rf
  generalize ([] : List Loc) = locs at hS ⊢
  clear hH0 hD0
  replace hl : lv_has ls 2 [(0, .ref o), (1, .int w0)] := hl
  have hin_X8 : ∀ q ∈ u_ws RX8 TX8 6, q ∈ wsX8_number := by decide +kernel
  have hin_X5 : ∀ q ∈ u_ws RX5 TX5 6, q ∈ wsX8_number := by decide +kernel
  have k10 := hts (.fieldLink RX8 10 "LiftBeams" "now" "LLiftBeams$State;") (by decide +kernel)
  have k42 := hts (.fieldLink RX8 42 "LiftBeams$State" "settings" "LLiftBeams$Settings;") (by decide +kernel)
  refine lv_aload_n hx hb dX8_number_0 rfl (lv_at hl 0 rfl) ?_
  refine va_get (D := G) (ci := 8) (v := .ref (ad 0 0)) (C := RX8) (T := TX8) (N := 6) hx hb hts hin_X8 hown hK hP 0 rfl rfl 0 (by decide) k10 (fun _ h9 => h9) rfl dX8_number_1 ?_
  refine va_get (D := G) (ci := 5) (v := .ref (ad 0 1)) (C := RX5) (T := TX5) (N := 6) hx hb hts hin_X5 hown hK hP 1 rfl rfl 0 (by decide) k42 (fun _ h9 => h9) rfl dX8_number_4 ?_
  refine lv_iload_n hx hb dX8_number_7 rfl (lv_at hl 1 rfl) ?_
  refine rd_i (rV (rest := []) ⟨hx, hb, hml, hown, hts⟩ (cX4_numberOf_ok l G cA (ad 0 1) (ad 0 6) (ad 0 7) (ad 0 8) v w0) (cwV 1 hts gX8_number_X4_numberOf rfl rfl rfl mdX4_numberOf ⟨Nat.le_of_ble_eq_true rfl, Nat.le_of_ble_eq_true rfl⟩) hE (hP.sub (ws' := [((ad 0 1), SeV (ad 0 6) (ad 0 7) (ad 0 8)), ((ad 0 8), NuV cA v)]) [2, 3] rfl) (hD.sub (ws' := [((ad 0 1), SeV (ad 0 6) (ad 0 7) (ad 0 8)), ((ad 0 8), NuV cA v)]) [2, 3] (by decide) rfl) (q0 := 0) (ci := 4) rfl rfl rfl hl rfl (Nat.le_of_ble_eq_true rfl) dX8_number_8 ⟨Nat.le_of_ble_eq_true rfl, Nat.le_of_ble_eq_true rfl⟩) hS hP (fun r_8 H locs hr_8 hP hS => ?_)
  subst hr_8
  exact en_ri hx hb hr rfl hlocks hS rfl dX8_number_11
set_option maxHeartbeats 4000000 in
set_option maxRecDepth 100000 in
/-- door(what) -/
theorem cX8_door_ok (l : Launch) (G : va_G) (cA : Nat → ClassId) (o : Nat) (ad : Nat → Nat → Nat) (tk0 : Int32) (u : FF) (v : GG) (f : FF) (g L : GG) (w0 : Int32) : Ri l yX8_door wsX8_door ({ frames := 1, cells := 0, slots := 0, locals := 20 } : Room) G cA [.ref o, .int w0] [(o, LbV (ad 0 0) (ad 1 0) (ad 2 0) (ad 7 0) (ad 7 2) tk0), ((ad 0 0), StV (ad 0 1) (ad 0 2) (ad 0 3) (ad 0 4) (ad 0 5) g), ((ad 0 3), DrV f g)] (fun r => r = doF f g w0) := by
  refine ofW2 (cc := cX8_door) (maxL := 2) (ret := (some .int)) (own := RX8) (by decide) rfl rfl (Nat.le_of_ble_eq_true rfl) rfl ?_
  intro p e s m below meth c ls hx hb hml hr hts hown hlocks hv hl
  obtain ⟨hP, hE, hD0⟩ := hv
  have hK := hE.1
  have hD := hD0
  generalize hH0 : s.heap = H at hP ⊢
  have hS : va_S (fun _ => False) s.heap H [] := hH0 ▸ va_S.rf
  generalize ([] : List Loc) = locs at hS ⊢
  clear hH0 hD0
  replace hl : lv_has ls 2 [(0, .ref o), (1, .int w0)] := hl
  have hin_X8 : ∀ q ∈ u_ws RX8 TX8 6, q ∈ wsX8_door := by decide +kernel
  have hin_X5 : ∀ q ∈ u_ws RX5 TX5 6, q ∈ wsX8_door := by decide +kernel
  have hin_X1 : ∀ q ∈ u_ws RX1 TX1 6, q ∈ wsX8_door := by decide +kernel
  have k10 := hts (.fieldLink RX8 10 "LiftBeams" "now" "LLiftBeams$State;") (by decide +kernel)
  have k81 := hts (.fieldLink RX8 81 "LiftBeams$State" "door" "LLiftBeams$Door;") (by decide +kernel)
  have k85 := hts (.fieldLink RX8 85 "LiftBeams$Door" "state" "I") (by decide +kernel)
  have k98 := hts (.fieldLink RX8 98 "LiftBeams$Door" "reopened" "I") (by decide +kernel)
  have k94 := hts (.fieldLink RX8 94 "LiftBeams$Door" "service" "Z") (by decide +kernel)
  have k172 := hts (.fieldLink RX8 172 "LiftBeams$Door" "waited" "I") (by decide +kernel)
  have k175 := hts (.fieldLink RX8 175 "LiftBeams$Door" "stood" "I") (by decide +kernel)
  have k144 := hts (.fieldLink RX8 144 "LiftBeams$Door" "place" "F") (by decide +kernel)
  refine lv_iload_n hx hb dX8_door_0 rfl (lv_at hl 1 rfl) ?_
  refine lv_topi (fun x_1 ex_1 => ?_)
  by_cases s_1 : x_1 = 0
  · rw [s_1] at ex_1 ⊢
    have s_1e := ex_1.symm
    refine lv_tableIn (off := 39) (tgt := 40) hx hb dX8_door_1 (by decide) (by decide) (by decide) (by decide) ?_
    have s_1n1 : ¬ w0 = 1 := by rw [s_1e]; decide
    have s_1n2 : ¬ w0 = 2 := by rw [s_1e]; decide
    have s_1n3 : ¬ w0 = 3 := by rw [s_1e]; decide
    have s_1n4 : ¬ w0 = 4 := by rw [s_1e]; decide
    have s_1n5 : ¬ w0 = 5 := by rw [s_1e]; decide
    refine lv_aload_n hx hb dX8_door_40 rfl (lv_at hl 0 rfl) ?_
    refine va_get (D := G) (ci := 8) (v := .ref (ad 0 0)) (C := RX8) (T := TX8) (N := 6) hx hb hts hin_X8 hown hK hP 0 rfl rfl 0 (by decide) k10 (fun _ h9 => h9) rfl dX8_door_41 ?_
    refine va_get (D := G) (ci := 5) (v := .ref (ad 0 3)) (C := RX5) (T := TX5) (N := 6) hx hb hts hin_X5 hown hK hP 1 rfl rfl 2 (by decide) k81 (fun _ h9 => h9) rfl dX8_door_44 ?_
    refine va_get (D := G) (ci := 1) (v := .int (g 13)) (C := RX1) (T := TX1) (N := 6) hx hb hts hin_X1 hown hK hP 2 rfl rfl 1 (by decide) k85 (fun _ h9 => h9) rfl dX8_door_47 ?_
    exact en_ri hx hb hr rfl hlocks hS (by first | rfl | (simp only [doF, if_pos s_1e, if_neg s_1n1, if_neg s_1n2, if_neg s_1n3, if_neg s_1n4, if_neg s_1n5]; done) | (simp only [doF, if_pos s_1e, if_neg s_1n1, if_neg s_1n2, if_neg s_1n3, if_neg s_1n4, if_neg s_1n5]; rfl) | (simp only [doF, if_pos s_1e, if_neg s_1n1, if_neg s_1n2, if_neg s_1n3, if_neg s_1n4, if_neg s_1n5]; decide)) dX8_door_50
  have s_1q : ¬ w0 = 0 := fun h9 => s_1 (ex_1.trans h9)
  by_cases s_1_1 : x_1 = 1
  · rw [s_1_1] at ex_1 ⊢
    have s_1_1e := ex_1.symm
    refine lv_tableIn (off := 50) (tgt := 51) hx hb dX8_door_1 (by decide) (by decide) (by decide) (by decide) ?_
    have s_1_1n2 : ¬ w0 = 2 := by rw [s_1_1e]; decide
    have s_1_1n3 : ¬ w0 = 3 := by rw [s_1_1e]; decide
    have s_1_1n4 : ¬ w0 = 4 := by rw [s_1_1e]; decide
    have s_1_1n5 : ¬ w0 = 5 := by rw [s_1_1e]; decide
    refine lv_aload_n hx hb dX8_door_51 rfl (lv_at hl 0 rfl) ?_
    refine va_get (D := G) (ci := 8) (v := .ref (ad 0 0)) (C := RX8) (T := TX8) (N := 6) hx hb hts hin_X8 hown hK hP 0 rfl rfl 0 (by decide) k10 (fun _ h9 => h9) rfl dX8_door_52 ?_
    refine va_get (D := G) (ci := 5) (v := .ref (ad 0 3)) (C := RX5) (T := TX5) (N := 6) hx hb hts hin_X5 hown hK hP 1 rfl rfl 2 (by decide) k81 (fun _ h9 => h9) rfl dX8_door_55 ?_
    refine va_get (D := G) (ci := 1) (v := .int (g 16)) (C := RX1) (T := TX1) (N := 6) hx hb hts hin_X1 hown hK hP 2 rfl rfl 4 (by decide) k98 (fun _ h9 => h9) rfl dX8_door_58 ?_
    exact en_ri hx hb hr rfl hlocks hS (by first | rfl | (simp only [doF, if_neg s_1q, if_pos s_1_1e, if_neg s_1_1n2, if_neg s_1_1n3, if_neg s_1_1n4, if_neg s_1_1n5]; done) | (simp only [doF, if_neg s_1q, if_pos s_1_1e, if_neg s_1_1n2, if_neg s_1_1n3, if_neg s_1_1n4, if_neg s_1_1n5]; rfl) | (simp only [doF, if_neg s_1q, if_pos s_1_1e, if_neg s_1_1n2, if_neg s_1_1n3, if_neg s_1_1n4, if_neg s_1_1n5]; decide)) dX8_door_61
  have s_1_1q : ¬ w0 = 1 := fun h9 => s_1_1 (ex_1.trans h9)
  by_cases s_1_2 : x_1 = 2
  · rw [s_1_2] at ex_1 ⊢
    have s_1_2e := ex_1.symm
    refine lv_tableIn (off := 61) (tgt := 62) hx hb dX8_door_1 (by decide) (by decide) (by decide) (by decide) ?_
    have s_1_2n3 : ¬ w0 = 3 := by rw [s_1_2e]; decide
    have s_1_2n4 : ¬ w0 = 4 := by rw [s_1_2e]; decide
    have s_1_2n5 : ¬ w0 = 5 := by rw [s_1_2e]; decide
    refine lv_aload_n hx hb dX8_door_62 rfl (lv_at hl 0 rfl) ?_
    refine va_get (D := G) (ci := 8) (v := .ref (ad 0 0)) (C := RX8) (T := TX8) (N := 6) hx hb hts hin_X8 hown hK hP 0 rfl rfl 0 (by decide) k10 (fun _ h9 => h9) rfl dX8_door_63 ?_
    refine va_get (D := G) (ci := 5) (v := .ref (ad 0 3)) (C := RX5) (T := TX5) (N := 6) hx hb hts hin_X5 hown hK hP 1 rfl rfl 2 (by decide) k81 (fun _ h9 => h9) rfl dX8_door_66 ?_
    refine va_get (D := G) (ci := 1) (v := .int (g 17)) (C := RX1) (T := TX1) (N := 6) hx hb hts hin_X1 hown hK hP 2 rfl rfl 5 (by decide) k94 (fun _ h9 => h9) rfl dX8_door_69 ?_
    refine rd_i (rS (rest := []) ⟨hx, hb, hml, hown, hts⟩ (cX8_oneIf_ok l G cA (g 17)) (va_cwS 1 hts gX8_door_X8_oneIf rfl rfl rfl mdX8_oneIf.2 ⟨Nat.le_of_ble_eq_true rfl, Nat.le_of_ble_eq_true rfl⟩) hE (hP.sub (ws' := []) [] rfl) (hD.sub (ws' := []) [] (by decide) rfl) rfl hl rfl (Nat.le_of_ble_eq_true rfl) dX8_door_72 ⟨Nat.le_of_ble_eq_true rfl, Nat.le_of_ble_eq_true rfl⟩) hS hP (fun r_72 H locs hr_72 hP hS => ?_)
    subst hr_72
    exact en_ri hx hb hr rfl hlocks hS (by first | rfl | (simp only [doF, if_neg s_1q, if_neg s_1_1q, if_pos s_1_2e, if_neg s_1_2n3, if_neg s_1_2n4, if_neg s_1_2n5]; done) | (simp only [doF, if_neg s_1q, if_neg s_1_1q, if_pos s_1_2e, if_neg s_1_2n3, if_neg s_1_2n4, if_neg s_1_2n5]; rfl) | (simp only [doF, if_neg s_1q, if_neg s_1_1q, if_pos s_1_2e, if_neg s_1_2n3, if_neg s_1_2n4, if_neg s_1_2n5]; decide)) dX8_door_75
  have s_1_2q : ¬ w0 = 2 := fun h9 => s_1_2 (ex_1.trans h9)
  by_cases s_1_3 : x_1 = 3
  · rw [s_1_3] at ex_1 ⊢
    have s_1_3e := ex_1.symm
    refine lv_tableIn (off := 75) (tgt := 76) hx hb dX8_door_1 (by decide) (by decide) (by decide) (by decide) ?_
    have s_1_3n4 : ¬ w0 = 4 := by rw [s_1_3e]; decide
    have s_1_3n5 : ¬ w0 = 5 := by rw [s_1_3e]; decide
    refine lv_aload_n hx hb dX8_door_76 rfl (lv_at hl 0 rfl) ?_
    refine va_get (D := G) (ci := 8) (v := .ref (ad 0 0)) (C := RX8) (T := TX8) (N := 6) hx hb hts hin_X8 hown hK hP 0 rfl rfl 0 (by decide) k10 (fun _ h9 => h9) rfl dX8_door_77 ?_
    refine va_get (D := G) (ci := 5) (v := .ref (ad 0 3)) (C := RX5) (T := TX5) (N := 6) hx hb hts hin_X5 hown hK hP 1 rfl rfl 2 (by decide) k81 (fun _ h9 => h9) rfl dX8_door_80 ?_
    refine va_get (D := G) (ci := 1) (v := .int (g 13)) (C := RX1) (T := TX1) (N := 6) hx hb hts hin_X1 hown hK hP 2 rfl rfl 1 (by decide) k85 (fun _ h9 => h9) rfl dX8_door_83 ?_
    refine lv_iconst (v := 2) hx hb dX8_door_86 (by decide) ?_
    refine lv_icmp_ne (tgt := 103) hx hb dX8_door_87 (by decide) (fun c_87 => ?_) (fun c_87 => ?_)
    · skip
      refine lv_iconst (v := 0) hx hb dX8_door_103 (by decide) ?_
      exact en_ri hx hb hr rfl hlocks hS (by first | rfl | (simp only [doF, if_neg s_1q, if_neg s_1_1q, if_neg s_1_2q, if_pos s_1_3e, if_neg s_1_3n4, if_neg s_1_3n5, if_neg c_87]; done) | (simp only [doF, if_neg s_1q, if_neg s_1_1q, if_neg s_1_2q, if_pos s_1_3e, if_neg s_1_3n4, if_neg s_1_3n5, if_neg c_87]; rfl) | (simp only [doF, if_neg s_1q, if_neg s_1_1q, if_neg s_1_2q, if_pos s_1_3e, if_neg s_1_3n4, if_neg s_1_3n5, if_neg c_87]; decide)) dX8_door_104
    · skip
      refine lv_aload_n hx hb dX8_door_90 rfl (lv_at hl 0 rfl) ?_
      refine va_get (D := G) (ci := 8) (v := .ref (ad 0 0)) (C := RX8) (T := TX8) (N := 6) hx hb hts hin_X8 hown hK hP 0 rfl rfl 0 (by decide) k10 (fun _ h9 => h9) rfl dX8_door_91 ?_
      refine va_get (D := G) (ci := 5) (v := .ref (ad 0 3)) (C := RX5) (T := TX5) (N := 6) hx hb hts hin_X5 hown hK hP 1 rfl rfl 2 (by decide) k81 (fun _ h9 => h9) rfl dX8_door_94 ?_
      refine va_get (D := G) (ci := 1) (v := .int (g 14)) (C := RX1) (T := TX1) (N := 6) hx hb hts hin_X1 hown hK hP 2 rfl rfl 2 (by decide) k172 (fun _ h9 => h9) rfl dX8_door_97 ?_
      refine lv_goto (tgt := 104) hx hb dX8_door_100 (by decide) ?_
      exact en_ri hx hb hr rfl hlocks hS (by first | rfl | (simp only [doF, if_neg s_1q, if_neg s_1_1q, if_neg s_1_2q, if_pos s_1_3e, if_neg s_1_3n4, if_neg s_1_3n5, if_pos c_87]; done) | (simp only [doF, if_neg s_1q, if_neg s_1_1q, if_neg s_1_2q, if_pos s_1_3e, if_neg s_1_3n4, if_neg s_1_3n5, if_pos c_87]; rfl) | (simp only [doF, if_neg s_1q, if_neg s_1_1q, if_neg s_1_2q, if_pos s_1_3e, if_neg s_1_3n4, if_neg s_1_3n5, if_pos c_87]; decide)) dX8_door_104
  have s_1_3q : ¬ w0 = 3 := fun h9 => s_1_3 (ex_1.trans h9)
  by_cases s_1_4 : x_1 = 4
  · rw [s_1_4] at ex_1 ⊢
    have s_1_4e := ex_1.symm
    refine lv_tableIn (off := 104) (tgt := 105) hx hb dX8_door_1 (by decide) (by decide) (by decide) (by decide) ?_
    have s_1_4n5 : ¬ w0 = 5 := by rw [s_1_4e]; decide
    refine lv_aload_n hx hb dX8_door_105 rfl (lv_at hl 0 rfl) ?_
    refine va_get (D := G) (ci := 8) (v := .ref (ad 0 0)) (C := RX8) (T := TX8) (N := 6) hx hb hts hin_X8 hown hK hP 0 rfl rfl 0 (by decide) k10 (fun _ h9 => h9) rfl dX8_door_106 ?_
    refine va_get (D := G) (ci := 5) (v := .ref (ad 0 3)) (C := RX5) (T := TX5) (N := 6) hx hb hts hin_X5 hown hK hP 1 rfl rfl 2 (by decide) k81 (fun _ h9 => h9) rfl dX8_door_109 ?_
    refine va_get (D := G) (ci := 1) (v := .int (g 13)) (C := RX1) (T := TX1) (N := 6) hx hb hts hin_X1 hown hK hP 2 rfl rfl 1 (by decide) k85 (fun _ h9 => h9) rfl dX8_door_112 ?_
    refine lv_iconst (v := 3) hx hb dX8_door_115 (by decide) ?_
    refine lv_icmp_ne (tgt := 132) hx hb dX8_door_116 (by decide) (fun c_116 => ?_) (fun c_116 => ?_)
    · skip
      refine lv_iconst (v := 0) hx hb dX8_door_132 (by decide) ?_
      exact en_ri hx hb hr rfl hlocks hS (by first | rfl | (simp only [doF, if_neg s_1q, if_neg s_1_1q, if_neg s_1_2q, if_neg s_1_3q, if_pos s_1_4e, if_neg s_1_4n5, if_neg c_116]; done) | (simp only [doF, if_neg s_1q, if_neg s_1_1q, if_neg s_1_2q, if_neg s_1_3q, if_pos s_1_4e, if_neg s_1_4n5, if_neg c_116]; rfl) | (simp only [doF, if_neg s_1q, if_neg s_1_1q, if_neg s_1_2q, if_neg s_1_3q, if_pos s_1_4e, if_neg s_1_4n5, if_neg c_116]; decide)) dX8_door_133
    · skip
      refine lv_aload_n hx hb dX8_door_119 rfl (lv_at hl 0 rfl) ?_
      refine va_get (D := G) (ci := 8) (v := .ref (ad 0 0)) (C := RX8) (T := TX8) (N := 6) hx hb hts hin_X8 hown hK hP 0 rfl rfl 0 (by decide) k10 (fun _ h9 => h9) rfl dX8_door_120 ?_
      refine va_get (D := G) (ci := 5) (v := .ref (ad 0 3)) (C := RX5) (T := TX5) (N := 6) hx hb hts hin_X5 hown hK hP 1 rfl rfl 2 (by decide) k81 (fun _ h9 => h9) rfl dX8_door_123 ?_
      refine va_get (D := G) (ci := 1) (v := .int (g 15)) (C := RX1) (T := TX1) (N := 6) hx hb hts hin_X1 hown hK hP 2 rfl rfl 3 (by decide) k175 (fun _ h9 => h9) rfl dX8_door_126 ?_
      refine lv_goto (tgt := 133) hx hb dX8_door_129 (by decide) ?_
      exact en_ri hx hb hr rfl hlocks hS (by first | rfl | (simp only [doF, if_neg s_1q, if_neg s_1_1q, if_neg s_1_2q, if_neg s_1_3q, if_pos s_1_4e, if_neg s_1_4n5, if_pos c_116]; done) | (simp only [doF, if_neg s_1q, if_neg s_1_1q, if_neg s_1_2q, if_neg s_1_3q, if_pos s_1_4e, if_neg s_1_4n5, if_pos c_116]; rfl) | (simp only [doF, if_neg s_1q, if_neg s_1_1q, if_neg s_1_2q, if_neg s_1_3q, if_pos s_1_4e, if_neg s_1_4n5, if_pos c_116]; decide)) dX8_door_133
  have s_1_4q : ¬ w0 = 4 := fun h9 => s_1_4 (ex_1.trans h9)
  by_cases s_1_5 : x_1 = 5
  · rw [s_1_5] at ex_1 ⊢
    have s_1_5e := ex_1.symm
    refine lv_tableIn (off := 133) (tgt := 134) hx hb dX8_door_1 (by decide) (by decide) (by decide) (by decide) ?_
    refine lv_aload_n hx hb dX8_door_134 rfl (lv_at hl 0 rfl) ?_
    refine va_get (D := G) (ci := 8) (v := .ref (ad 0 0)) (C := RX8) (T := TX8) (N := 6) hx hb hts hin_X8 hown hK hP 0 rfl rfl 0 (by decide) k10 (fun _ h9 => h9) rfl dX8_door_135 ?_
    refine va_get (D := G) (ci := 5) (v := .ref (ad 0 3)) (C := RX5) (T := TX5) (N := 6) hx hb hts hin_X5 hown hK hP 1 rfl rfl 2 (by decide) k81 (fun _ h9 => h9) rfl dX8_door_138 ?_
    refine va_get (D := G) (ci := 1) (v := .float (f 7)) (C := RX1) (T := TX1) (N := 6) hx hb hts hin_X1 hown hK hP 2 rfl rfl 0 (by decide) k144 (fun _ h9 => h9) rfl dX8_door_141 ?_
    refine lv_f2i hx hb dX8_door_144 ?_
    exact en_ri hx hb hr rfl hlocks hS (by first | rfl | (simp only [doF, if_neg s_1q, if_neg s_1_1q, if_neg s_1_2q, if_neg s_1_3q, if_neg s_1_4q, if_pos s_1_5e]; done) | (simp only [doF, if_neg s_1q, if_neg s_1_1q, if_neg s_1_2q, if_neg s_1_3q, if_neg s_1_4q, if_pos s_1_5e]; rfl) | (simp only [doF, if_neg s_1q, if_neg s_1_1q, if_neg s_1_2q, if_neg s_1_3q, if_neg s_1_4q, if_pos s_1_5e]; decide)) dX8_door_145
  have s_1_5q : ¬ w0 = 5 := fun h9 => s_1_5 (ex_1.trans h9)
  refine lv_tableOut (tgt := 146) hx hb dX8_door_1 (tab_0_5 s_1 s_1_1 s_1_2 s_1_3 s_1_4 s_1_5) (by decide) ?_
  refine lv_bipush (v := (-2)) hx hb dX8_door_146 (by decide) ?_
  exact en_ri hx hb hr rfl hlocks hS (by first | rfl | (simp only [doF, if_neg s_1q, if_neg s_1_1q, if_neg s_1_2q, if_neg s_1_3q, if_neg s_1_4q, if_neg s_1_5q]; done) | (simp only [doF, if_neg s_1q, if_neg s_1_1q, if_neg s_1_2q, if_neg s_1_3q, if_neg s_1_4q, if_neg s_1_5q]; rfl) | (simp only [doF, if_neg s_1q, if_neg s_1_1q, if_neg s_1_2q, if_neg s_1_3q, if_neg s_1_4q, if_neg s_1_5q]; decide)) dX8_door_148
set_option maxHeartbeats 4000000 in
set_option maxRecDepth 100000 in
/-- thing(what) -/
theorem cX8_thing_ok (l : Launch) (G : va_G) (cA : Nat → ClassId) (o : Nat) (ad : Nat → Nat → Nat) (tk0 : Int32) (u : FF) (v : GG) (f : FF) (g L : GG) (w0 : Int32) (hQ : PrOk u g) : Ri l yX8_thing wsX8_thing ({ frames := 3, cells := 0, slots := 0, locals := 73 } : Room) G cA [.ref o, .int w0] [(o, LbV (ad 0 0) (ad 1 0) (ad 2 0) (ad 7 0) (ad 7 2) tk0), ((ad 0 0), StV (ad 0 1) (ad 0 2) (ad 0 3) (ad 0 4) (ad 0 5) g), ((ad 0 1), SeV (ad 0 6) (ad 0 7) (ad 0 8)), ((ad 0 2), ThV g), ((ad 0 7), WeV cA u)] (fun r => r = thF u g w0) := by
  refine ofW2 (cc := cX8_thing) (maxL := 2) (ret := (some .int)) (own := RX8) (by decide) rfl rfl (Nat.le_of_ble_eq_true rfl) rfl ?_
  intro p e s m below meth c ls hx hb hml hr hts hown hlocks hv hl
  obtain ⟨hP, hE, hD0⟩ := hv
  have hK := hE.1
  have hD := hD0
  generalize hH0 : s.heap = H at hP ⊢
  have hS : va_S (fun _ => False) s.heap H [] := hH0 ▸ va_S.rf
  generalize ([] : List Loc) = locs at hS ⊢
  clear hH0 hD0
  replace hl : lv_has ls 2 [(0, .ref o), (1, .int w0)] := hl
  have hin_X8 : ∀ q ∈ u_ws RX8 TX8 6, q ∈ wsX8_thing := by decide +kernel
  have hin_X5 : ∀ q ∈ u_ws RX5 TX5 6, q ∈ wsX8_thing := by decide +kernel
  have hin_X7 : ∀ q ∈ u_ws RX7 TX7 8, q ∈ wsX8_thing := by decide +kernel
  have k10 := hts (.fieldLink RX8 10 "LiftBeams" "now" "LLiftBeams$State;") (by decide +kernel)
  have k151 := hts (.fieldLink RX8 151 "LiftBeams$State" "thing" "LLiftBeams$Thing;") (by decide +kernel)
  have k155 := hts (.fieldLink RX8 155 "LiftBeams$Thing" "there" "Z") (by decide +kernel)
  have k178 := hts (.fieldLink RX8 178 "LiftBeams$Thing" "length" "I") (by decide +kernel)
  have k179 := hts (.fieldLink RX8 179 "LiftBeams$Thing" "low" "I") (by decide +kernel)
  have k182 := hts (.fieldLink RX8 182 "LiftBeams$Thing" "middle" "I") (by decide +kernel)
  have k185 := hts (.fieldLink RX8 185 "LiftBeams$Thing" "high" "I") (by decide +kernel)
  have k188 := hts (.fieldLink RX8 188 "LiftBeams$Thing" "begun" "I") (by decide +kernel)
  have k191 := hts (.fieldLink RX8 191 "LiftBeams$Thing" "clear" "I") (by decide +kernel)
  have k194 := hts (.fieldLink RX8 194 "LiftBeams$Thing" "cause" "Z") (by decide +kernel)
  have k42 := hts (.fieldLink RX8 42 "LiftBeams$State" "settings" "LLiftBeams$Settings;") (by decide +kernel)
  refine lv_iload_n hx hb dX8_thing_0 rfl (lv_at hl 1 rfl) ?_
  refine lv_if_lt (tgt := 10) hx hb dX8_thing_1 (by decide) (fun c_1 => ?_) (fun c_1 => ?_)
  · skip
    refine lv_bipush (v := (-2)) hx hb dX8_thing_10 (by decide) ?_
    exact en_ri hx hb hr rfl hlocks hS (by first | rfl | (simp only [thF, if_pos c_1]; done) | (simp only [thF, if_pos c_1]; rfl) | (simp only [thF, if_pos c_1]; decide)) dX8_thing_12
  · skip
    refine lv_iload_n hx hb dX8_thing_4 rfl (lv_at hl 1 rfl) ?_
    refine lv_bipush (v := 7) hx hb dX8_thing_5 (by decide) ?_
    refine lv_icmp_le (tgt := 13) hx hb dX8_thing_7 (by decide) (fun c_7 => ?_) (fun c_7 => ?_)
    · skip
      refine lv_aload_n hx hb dX8_thing_13 rfl (lv_at hl 0 rfl) ?_
      refine va_get (D := G) (ci := 8) (v := .ref (ad 0 0)) (C := RX8) (T := TX8) (N := 6) hx hb hts hin_X8 hown hK hP 0 rfl rfl 0 (by decide) k10 (fun _ h9 => h9) rfl dX8_thing_14 ?_
      refine va_get (D := G) (ci := 5) (v := .ref (ad 0 2)) (C := RX5) (T := TX5) (N := 6) hx hb hts hin_X5 hown hK hP 1 rfl rfl 1 (by decide) k151 (fun _ h9 => h9) rfl dX8_thing_17 ?_
      refine va_get (D := G) (ci := 7) (v := .int (g 5)) (C := RX7) (T := TX7) (N := 8) hx hb hts hin_X7 hown hK hP 3 rfl rfl 0 (by decide) k155 (fun _ h9 => h9) rfl dX8_thing_20 ?_
      refine lv_if_ne (tgt := 29) hx hb dX8_thing_23 (by decide) (fun c_23 => ?_) (fun c_23 => ?_)
      · skip
        refine lv_iload_n hx hb dX8_thing_29 rfl (lv_at hl 1 rfl) ?_
        refine lv_topi (fun x_30 ex_30 => ?_)
        by_cases s_30 : x_30 = 0
        · rw [s_30] at ex_30 ⊢
          have s_30e := ex_30.symm
          refine lv_tableIn (off := 42) (tgt := 72) hx hb dX8_thing_30 (by decide) (by decide) (by decide) (by decide) ?_
          have s_30n1 : ¬ w0 = 1 := by rw [s_30e]; decide
          have s_30n2 : ¬ w0 = 2 := by rw [s_30e]; decide
          have s_30n3 : ¬ w0 = 3 := by rw [s_30e]; decide
          have s_30n4 : ¬ w0 = 4 := by rw [s_30e]; decide
          have s_30n5 : ¬ w0 = 5 := by rw [s_30e]; decide
          have s_30n6 : ¬ w0 = 6 := by rw [s_30e]; decide
          refine lv_aload_n hx hb dX8_thing_72 rfl (lv_at hl 0 rfl) ?_
          refine va_get (D := G) (ci := 8) (v := .ref (ad 0 0)) (C := RX8) (T := TX8) (N := 6) hx hb hts hin_X8 hown hK hP 0 rfl rfl 0 (by decide) k10 (fun _ h9 => h9) rfl dX8_thing_73 ?_
          refine va_get (D := G) (ci := 5) (v := .ref (ad 0 2)) (C := RX5) (T := TX5) (N := 6) hx hb hts hin_X5 hown hK hP 1 rfl rfl 1 (by decide) k151 (fun _ h9 => h9) rfl dX8_thing_76 ?_
          refine va_get (D := G) (ci := 7) (v := .int (g 7)) (C := RX7) (T := TX7) (N := 8) hx hb hts hin_X7 hown hK hP 3 rfl rfl 2 (by decide) k178 (fun _ h9 => h9) rfl dX8_thing_79 ?_
          exact en_ri hx hb hr rfl hlocks hS (by first | rfl | (simp only [thF, if_neg c_1, if_pos c_7, if_neg c_23, if_pos s_30e, if_neg s_30n1, if_neg s_30n2, if_neg s_30n3, if_neg s_30n4, if_neg s_30n5, if_neg s_30n6]; done) | (simp only [thF, if_neg c_1, if_pos c_7, if_neg c_23, if_pos s_30e, if_neg s_30n1, if_neg s_30n2, if_neg s_30n3, if_neg s_30n4, if_neg s_30n5, if_neg s_30n6]; rfl) | (simp only [thF, if_neg c_1, if_pos c_7, if_neg c_23, if_pos s_30e, if_neg s_30n1, if_neg s_30n2, if_neg s_30n3, if_neg s_30n4, if_neg s_30n5, if_neg s_30n6]; decide)) dX8_thing_82
        have s_30q : ¬ w0 = 0 := fun h9 => s_30 (ex_30.trans h9)
        by_cases s_30_1 : x_30 = 1
        · rw [s_30_1] at ex_30 ⊢
          have s_30_1e := ex_30.symm
          refine lv_tableIn (off := 53) (tgt := 83) hx hb dX8_thing_30 (by decide) (by decide) (by decide) (by decide) ?_
          have s_30_1n2 : ¬ w0 = 2 := by rw [s_30_1e]; decide
          have s_30_1n3 : ¬ w0 = 3 := by rw [s_30_1e]; decide
          have s_30_1n4 : ¬ w0 = 4 := by rw [s_30_1e]; decide
          have s_30_1n5 : ¬ w0 = 5 := by rw [s_30_1e]; decide
          have s_30_1n6 : ¬ w0 = 6 := by rw [s_30_1e]; decide
          refine lv_aload_n hx hb dX8_thing_83 rfl (lv_at hl 0 rfl) ?_
          refine va_get (D := G) (ci := 8) (v := .ref (ad 0 0)) (C := RX8) (T := TX8) (N := 6) hx hb hts hin_X8 hown hK hP 0 rfl rfl 0 (by decide) k10 (fun _ h9 => h9) rfl dX8_thing_84 ?_
          refine va_get (D := G) (ci := 5) (v := .ref (ad 0 2)) (C := RX5) (T := TX5) (N := 6) hx hb hts hin_X5 hown hK hP 1 rfl rfl 1 (by decide) k151 (fun _ h9 => h9) rfl dX8_thing_87 ?_
          refine va_get (D := G) (ci := 7) (v := .int (g 8)) (C := RX7) (T := TX7) (N := 8) hx hb hts hin_X7 hown hK hP 3 rfl rfl 3 (by decide) k179 (fun _ h9 => h9) rfl dX8_thing_90 ?_
          exact en_ri hx hb hr rfl hlocks hS (by first | rfl | (simp only [thF, if_neg c_1, if_pos c_7, if_neg c_23, if_neg s_30q, if_pos s_30_1e, if_neg s_30_1n2, if_neg s_30_1n3, if_neg s_30_1n4, if_neg s_30_1n5, if_neg s_30_1n6]; done) | (simp only [thF, if_neg c_1, if_pos c_7, if_neg c_23, if_neg s_30q, if_pos s_30_1e, if_neg s_30_1n2, if_neg s_30_1n3, if_neg s_30_1n4, if_neg s_30_1n5, if_neg s_30_1n6]; rfl) | (simp only [thF, if_neg c_1, if_pos c_7, if_neg c_23, if_neg s_30q, if_pos s_30_1e, if_neg s_30_1n2, if_neg s_30_1n3, if_neg s_30_1n4, if_neg s_30_1n5, if_neg s_30_1n6]; decide)) dX8_thing_93
        have s_30_1q : ¬ w0 = 1 := fun h9 => s_30_1 (ex_30.trans h9)
        by_cases s_30_2 : x_30 = 2
        · rw [s_30_2] at ex_30 ⊢
          have s_30_2e := ex_30.symm
          refine lv_tableIn (off := 64) (tgt := 94) hx hb dX8_thing_30 (by decide) (by decide) (by decide) (by decide) ?_
          have s_30_2n3 : ¬ w0 = 3 := by rw [s_30_2e]; decide
          have s_30_2n4 : ¬ w0 = 4 := by rw [s_30_2e]; decide
          have s_30_2n5 : ¬ w0 = 5 := by rw [s_30_2e]; decide
          have s_30_2n6 : ¬ w0 = 6 := by rw [s_30_2e]; decide
          refine lv_aload_n hx hb dX8_thing_94 rfl (lv_at hl 0 rfl) ?_
          refine va_get (D := G) (ci := 8) (v := .ref (ad 0 0)) (C := RX8) (T := TX8) (N := 6) hx hb hts hin_X8 hown hK hP 0 rfl rfl 0 (by decide) k10 (fun _ h9 => h9) rfl dX8_thing_95 ?_
          refine va_get (D := G) (ci := 5) (v := .ref (ad 0 2)) (C := RX5) (T := TX5) (N := 6) hx hb hts hin_X5 hown hK hP 1 rfl rfl 1 (by decide) k151 (fun _ h9 => h9) rfl dX8_thing_98 ?_
          refine va_get (D := G) (ci := 7) (v := .int (g 9)) (C := RX7) (T := TX7) (N := 8) hx hb hts hin_X7 hown hK hP 3 rfl rfl 4 (by decide) k182 (fun _ h9 => h9) rfl dX8_thing_101 ?_
          exact en_ri hx hb hr rfl hlocks hS (by first | rfl | (simp only [thF, if_neg c_1, if_pos c_7, if_neg c_23, if_neg s_30q, if_neg s_30_1q, if_pos s_30_2e, if_neg s_30_2n3, if_neg s_30_2n4, if_neg s_30_2n5, if_neg s_30_2n6]; done) | (simp only [thF, if_neg c_1, if_pos c_7, if_neg c_23, if_neg s_30q, if_neg s_30_1q, if_pos s_30_2e, if_neg s_30_2n3, if_neg s_30_2n4, if_neg s_30_2n5, if_neg s_30_2n6]; rfl) | (simp only [thF, if_neg c_1, if_pos c_7, if_neg c_23, if_neg s_30q, if_neg s_30_1q, if_pos s_30_2e, if_neg s_30_2n3, if_neg s_30_2n4, if_neg s_30_2n5, if_neg s_30_2n6]; decide)) dX8_thing_104
        have s_30_2q : ¬ w0 = 2 := fun h9 => s_30_2 (ex_30.trans h9)
        by_cases s_30_3 : x_30 = 3
        · rw [s_30_3] at ex_30 ⊢
          have s_30_3e := ex_30.symm
          refine lv_tableIn (off := 75) (tgt := 105) hx hb dX8_thing_30 (by decide) (by decide) (by decide) (by decide) ?_
          have s_30_3n4 : ¬ w0 = 4 := by rw [s_30_3e]; decide
          have s_30_3n5 : ¬ w0 = 5 := by rw [s_30_3e]; decide
          have s_30_3n6 : ¬ w0 = 6 := by rw [s_30_3e]; decide
          refine lv_aload_n hx hb dX8_thing_105 rfl (lv_at hl 0 rfl) ?_
          refine va_get (D := G) (ci := 8) (v := .ref (ad 0 0)) (C := RX8) (T := TX8) (N := 6) hx hb hts hin_X8 hown hK hP 0 rfl rfl 0 (by decide) k10 (fun _ h9 => h9) rfl dX8_thing_106 ?_
          refine va_get (D := G) (ci := 5) (v := .ref (ad 0 2)) (C := RX5) (T := TX5) (N := 6) hx hb hts hin_X5 hown hK hP 1 rfl rfl 1 (by decide) k151 (fun _ h9 => h9) rfl dX8_thing_109 ?_
          refine va_get (D := G) (ci := 7) (v := .int (g 10)) (C := RX7) (T := TX7) (N := 8) hx hb hts hin_X7 hown hK hP 3 rfl rfl 5 (by decide) k185 (fun _ h9 => h9) rfl dX8_thing_112 ?_
          exact en_ri hx hb hr rfl hlocks hS (by first | rfl | (simp only [thF, if_neg c_1, if_pos c_7, if_neg c_23, if_neg s_30q, if_neg s_30_1q, if_neg s_30_2q, if_pos s_30_3e, if_neg s_30_3n4, if_neg s_30_3n5, if_neg s_30_3n6]; done) | (simp only [thF, if_neg c_1, if_pos c_7, if_neg c_23, if_neg s_30q, if_neg s_30_1q, if_neg s_30_2q, if_pos s_30_3e, if_neg s_30_3n4, if_neg s_30_3n5, if_neg s_30_3n6]; rfl) | (simp only [thF, if_neg c_1, if_pos c_7, if_neg c_23, if_neg s_30q, if_neg s_30_1q, if_neg s_30_2q, if_pos s_30_3e, if_neg s_30_3n4, if_neg s_30_3n5, if_neg s_30_3n6]; decide)) dX8_thing_115
        have s_30_3q : ¬ w0 = 3 := fun h9 => s_30_3 (ex_30.trans h9)
        by_cases s_30_4 : x_30 = 4
        · rw [s_30_4] at ex_30 ⊢
          have s_30_4e := ex_30.symm
          refine lv_tableIn (off := 86) (tgt := 116) hx hb dX8_thing_30 (by decide) (by decide) (by decide) (by decide) ?_
          have s_30_4n5 : ¬ w0 = 5 := by rw [s_30_4e]; decide
          have s_30_4n6 : ¬ w0 = 6 := by rw [s_30_4e]; decide
          refine lv_aload_n hx hb dX8_thing_116 rfl (lv_at hl 0 rfl) ?_
          refine va_get (D := G) (ci := 8) (v := .ref (ad 0 0)) (C := RX8) (T := TX8) (N := 6) hx hb hts hin_X8 hown hK hP 0 rfl rfl 0 (by decide) k10 (fun _ h9 => h9) rfl dX8_thing_117 ?_
          refine va_get (D := G) (ci := 5) (v := .ref (ad 0 2)) (C := RX5) (T := TX5) (N := 6) hx hb hts hin_X5 hown hK hP 1 rfl rfl 1 (by decide) k151 (fun _ h9 => h9) rfl dX8_thing_120 ?_
          refine va_get (D := G) (ci := 7) (v := .int (g 6)) (C := RX7) (T := TX7) (N := 8) hx hb hts hin_X7 hown hK hP 3 rfl rfl 1 (by decide) k188 (fun _ h9 => h9) rfl dX8_thing_123 ?_
          exact en_ri hx hb hr rfl hlocks hS (by first | rfl | (simp only [thF, if_neg c_1, if_pos c_7, if_neg c_23, if_neg s_30q, if_neg s_30_1q, if_neg s_30_2q, if_neg s_30_3q, if_pos s_30_4e, if_neg s_30_4n5, if_neg s_30_4n6]; done) | (simp only [thF, if_neg c_1, if_pos c_7, if_neg c_23, if_neg s_30q, if_neg s_30_1q, if_neg s_30_2q, if_neg s_30_3q, if_pos s_30_4e, if_neg s_30_4n5, if_neg s_30_4n6]; rfl) | (simp only [thF, if_neg c_1, if_pos c_7, if_neg c_23, if_neg s_30q, if_neg s_30_1q, if_neg s_30_2q, if_neg s_30_3q, if_pos s_30_4e, if_neg s_30_4n5, if_neg s_30_4n6]; decide)) dX8_thing_126
        have s_30_4q : ¬ w0 = 4 := fun h9 => s_30_4 (ex_30.trans h9)
        by_cases s_30_5 : x_30 = 5
        · rw [s_30_5] at ex_30 ⊢
          have s_30_5e := ex_30.symm
          refine lv_tableIn (off := 97) (tgt := 127) hx hb dX8_thing_30 (by decide) (by decide) (by decide) (by decide) ?_
          have s_30_5n6 : ¬ w0 = 6 := by rw [s_30_5e]; decide
          refine lv_aload_n hx hb dX8_thing_127 rfl (lv_at hl 0 rfl) ?_
          refine va_get (D := G) (ci := 8) (v := .ref (ad 0 0)) (C := RX8) (T := TX8) (N := 6) hx hb hts hin_X8 hown hK hP 0 rfl rfl 0 (by decide) k10 (fun _ h9 => h9) rfl dX8_thing_128 ?_
          refine va_get (D := G) (ci := 5) (v := .ref (ad 0 2)) (C := RX5) (T := TX5) (N := 6) hx hb hts hin_X5 hown hK hP 1 rfl rfl 1 (by decide) k151 (fun _ h9 => h9) rfl dX8_thing_131 ?_
          refine va_get (D := G) (ci := 7) (v := .int (g 11)) (C := RX7) (T := TX7) (N := 8) hx hb hts hin_X7 hown hK hP 3 rfl rfl 6 (by decide) k191 (fun _ h9 => h9) rfl dX8_thing_134 ?_
          exact en_ri hx hb hr rfl hlocks hS (by first | rfl | (simp only [thF, if_neg c_1, if_pos c_7, if_neg c_23, if_neg s_30q, if_neg s_30_1q, if_neg s_30_2q, if_neg s_30_3q, if_neg s_30_4q, if_pos s_30_5e, if_neg s_30_5n6]; done) | (simp only [thF, if_neg c_1, if_pos c_7, if_neg c_23, if_neg s_30q, if_neg s_30_1q, if_neg s_30_2q, if_neg s_30_3q, if_neg s_30_4q, if_pos s_30_5e, if_neg s_30_5n6]; rfl) | (simp only [thF, if_neg c_1, if_pos c_7, if_neg c_23, if_neg s_30q, if_neg s_30_1q, if_neg s_30_2q, if_neg s_30_3q, if_neg s_30_4q, if_pos s_30_5e, if_neg s_30_5n6]; decide)) dX8_thing_137
        have s_30_5q : ¬ w0 = 5 := fun h9 => s_30_5 (ex_30.trans h9)
        by_cases s_30_6 : x_30 = 6
        · rw [s_30_6] at ex_30 ⊢
          have s_30_6e := ex_30.symm
          refine lv_tableIn (off := 108) (tgt := 138) hx hb dX8_thing_30 (by decide) (by decide) (by decide) (by decide) ?_
          refine lv_aload_n hx hb dX8_thing_138 rfl (lv_at hl 0 rfl) ?_
          refine va_get (D := G) (ci := 8) (v := .ref (ad 0 0)) (C := RX8) (T := TX8) (N := 6) hx hb hts hin_X8 hown hK hP 0 rfl rfl 0 (by decide) k10 (fun _ h9 => h9) rfl dX8_thing_139 ?_
          refine va_get (D := G) (ci := 5) (v := .ref (ad 0 2)) (C := RX5) (T := TX5) (N := 6) hx hb hts hin_X5 hown hK hP 1 rfl rfl 1 (by decide) k151 (fun _ h9 => h9) rfl dX8_thing_142 ?_
          refine va_get (D := G) (ci := 7) (v := .int (g 12)) (C := RX7) (T := TX7) (N := 8) hx hb hts hin_X7 hown hK hP 3 rfl rfl 7 (by decide) k194 (fun _ h9 => h9) rfl dX8_thing_145 ?_
          refine rd_i (rS (rest := []) ⟨hx, hb, hml, hown, hts⟩ (cX8_oneIf_ok l G cA (g 12)) (va_cwS 1 hts gX8_thing_X8_oneIf rfl rfl rfl mdX8_oneIf.2 ⟨Nat.le_of_ble_eq_true rfl, Nat.le_of_ble_eq_true rfl⟩) hE (hP.sub (ws' := []) [] rfl) (hD.sub (ws' := []) [] (by decide) rfl) rfl hl rfl (Nat.le_of_ble_eq_true rfl) dX8_thing_148 ⟨Nat.le_of_ble_eq_true rfl, Nat.le_of_ble_eq_true rfl⟩) hS hP (fun r_148 H locs hr_148 hP hS => ?_)
          subst hr_148
          exact en_ri hx hb hr rfl hlocks hS (by first | rfl | (simp only [thF, if_neg c_1, if_pos c_7, if_neg c_23, if_neg s_30q, if_neg s_30_1q, if_neg s_30_2q, if_neg s_30_3q, if_neg s_30_4q, if_neg s_30_5q, if_pos s_30_6e]; done) | (simp only [thF, if_neg c_1, if_pos c_7, if_neg c_23, if_neg s_30q, if_neg s_30_1q, if_neg s_30_2q, if_neg s_30_3q, if_neg s_30_4q, if_neg s_30_5q, if_pos s_30_6e]; rfl) | (simp only [thF, if_neg c_1, if_pos c_7, if_neg c_23, if_neg s_30q, if_neg s_30_1q, if_neg s_30_2q, if_neg s_30_3q, if_neg s_30_4q, if_neg s_30_5q, if_pos s_30_6e]; decide)) dX8_thing_151
        have s_30_6q : ¬ w0 = 6 := fun h9 => s_30_6 (ex_30.trans h9)
        refine lv_tableOut (tgt := 152) hx hb dX8_thing_30 (tab_0_6 s_30 s_30_1 s_30_2 s_30_3 s_30_4 s_30_5 s_30_6) (by decide) ?_
        refine lv_aload_n hx hb dX8_thing_152 rfl (lv_at hl 0 rfl) ?_
        refine va_get (D := G) (ci := 8) (v := .ref (ad 0 0)) (C := RX8) (T := TX8) (N := 6) hx hb hts hin_X8 hown hK hP 0 rfl rfl 0 (by decide) k10 (fun _ h9 => h9) rfl dX8_thing_153 ?_
        refine va_get (D := G) (ci := 5) (v := .ref (ad 0 2)) (C := RX5) (T := TX5) (N := 6) hx hb hts hin_X5 hown hK hP 1 rfl rfl 1 (by decide) k151 (fun _ h9 => h9) rfl dX8_thing_156 ?_
        refine lv_aload_n hx hb dX8_thing_159 rfl (lv_at hl 0 rfl) ?_
        refine va_get (D := G) (ci := 8) (v := .ref (ad 0 0)) (C := RX8) (T := TX8) (N := 6) hx hb hts hin_X8 hown hK hP 0 rfl rfl 0 (by decide) k10 (fun _ h9 => h9) rfl dX8_thing_160 ?_
        refine va_get (D := G) (ci := 5) (v := .ref (ad 0 1)) (C := RX5) (T := TX5) (N := 6) hx hb hts hin_X5 hown hK hP 1 rfl rfl 0 (by decide) k42 (fun _ h9 => h9) rfl dX8_thing_163 ?_
        refine rd_i (rV (rest := []) ⟨hx, hb, hml, hown, hts⟩ (cX7_likeliestKind_ok l G cA (ad 0 2) (ad 0 1) (ad 0 6) (ad 0 7) (ad 0 8) u g hQ) (cwV 1 hts gX8_thing_X7_likeliestKind rfl rfl rfl mdX7_likeliestKind ⟨Nat.le_of_ble_eq_true rfl, Nat.le_of_ble_eq_true rfl⟩) hE (hP.sub (ws' := [((ad 0 2), ThV g), ((ad 0 1), SeV (ad 0 6) (ad 0 7) (ad 0 8)), ((ad 0 7), WeV cA u)]) [3, 2, 4] rfl) (hD.sub (ws' := [((ad 0 2), ThV g), ((ad 0 1), SeV (ad 0 6) (ad 0 7) (ad 0 8)), ((ad 0 7), WeV cA u)]) [3, 2, 4] (by decide) rfl) (q0 := 0) (ci := 7) rfl rfl rfl hl rfl (Nat.le_of_ble_eq_true rfl) dX8_thing_166 ⟨Nat.le_of_ble_eq_true rfl, Nat.le_of_ble_eq_true rfl⟩) hS hP (fun r_166 H locs hr_166 hP hS => ?_)
        subst hr_166
        exact en_ri hx hb hr rfl hlocks hS (by first | rfl | (simp only [thF, if_neg c_1, if_pos c_7, if_neg c_23, if_neg s_30q, if_neg s_30_1q, if_neg s_30_2q, if_neg s_30_3q, if_neg s_30_4q, if_neg s_30_5q, if_neg s_30_6q]; done) | (simp only [thF, if_neg c_1, if_pos c_7, if_neg c_23, if_neg s_30q, if_neg s_30_1q, if_neg s_30_2q, if_neg s_30_3q, if_neg s_30_4q, if_neg s_30_5q, if_neg s_30_6q]; rfl) | (simp only [thF, if_neg c_1, if_pos c_7, if_neg c_23, if_neg s_30q, if_neg s_30_1q, if_neg s_30_2q, if_neg s_30_3q, if_neg s_30_4q, if_neg s_30_5q, if_neg s_30_6q]; decide)) dX8_thing_169
      · skip
        refine lv_bipush (v := (-5)) hx hb dX8_thing_26 (by decide) ?_
        exact en_ri hx hb hr rfl hlocks hS (by first | rfl | (simp only [thF, if_neg c_1, if_pos c_7, if_pos c_23]; done) | (simp only [thF, if_neg c_1, if_pos c_7, if_pos c_23]; rfl) | (simp only [thF, if_neg c_1, if_pos c_7, if_pos c_23]; decide)) dX8_thing_28
    · skip
      refine lv_bipush (v := (-2)) hx hb dX8_thing_10 (by decide) ?_
      exact en_ri hx hb hr rfl hlocks hS (by first | rfl | (simp only [thF, if_neg c_1, if_neg c_7]; done) | (simp only [thF, if_neg c_1, if_neg c_7]; rfl) | (simp only [thF, if_neg c_1, if_neg c_7]; decide)) dX8_thing_12
set_option maxHeartbeats 4000000 in
set_option maxRecDepth 100000 in
/-- judged(back, what) -/
theorem cX8_judged_ok (l : Launch) (G : va_G) (cA : Nat → ClassId) (o : Nat) (ad : Nat → Nat → Nat) (tk0 : Int32) (u : FF) (v : GG) (f : FF) (g L : GG) (b0 w0 : Int32) : Ri l yX8_judged wsX8_judged ({ frames := 1, cells := 0, slots := 0, locals := 23 } : Room) G cA [.ref o, .int b0, .int w0] [(o, LbV (ad 0 0) (ad 1 0) (ad 2 0) (ad 7 0) (ad 7 2) tk0), ((ad 0 0), StV (ad 0 1) (ad 0 2) (ad 0 3) (ad 0 4) (ad 0 5) g), ((ad 0 4), LgV (ad 0 9) g), ((ad 0 9), LcV cA L)] (fun r => r = juF g L b0 w0) := by
  refine ofW2 (cc := cX8_judged) (maxL := 3) (ret := (some .int)) (own := RX8) (by decide) rfl rfl (Nat.le_of_ble_eq_true rfl) rfl ?_
  intro p e s m below meth c ls hx hb hml hr hts hown hlocks hv hl
  obtain ⟨hP, hE, hD0⟩ := hv
  have hK := hE.1
  have hD := hD0
  generalize hH0 : s.heap = H at hP ⊢
  have hS : va_S (fun _ => False) s.heap H [] := hH0 ▸ va_S.rf
  generalize ([] : List Loc) = locs at hS ⊢
  clear hH0 hD0
  replace hl : lv_has ls 3 [(0, .ref o), (1, .int b0), (2, .int w0)] := hl
  have hin_X8 : ∀ q ∈ u_ws RX8 TX8 6, q ∈ wsX8_judged := by decide +kernel
  have hin_X5 : ∀ q ∈ u_ws RX5 TX5 6, q ∈ wsX8_judged := by decide +kernel
  have k10 := hts (.fieldLink RX8 10 "LiftBeams" "now" "LLiftBeams$State;") (by decide +kernel)
  have k203 := hts (.fieldLink RX8 203 "LiftBeams$State" "log" "LLiftBeams$Log;") (by decide +kernel)
  refine lv_iload_n hx hb dX8_judged_0 rfl (lv_at hl 1 rfl) ?_
  refine lv_if_lt (tgt := 13) hx hb dX8_judged_1 (by decide) (fun c_1 => ?_) (fun c_1 => ?_)
  · skip
    refine lv_bipush (v := (-2)) hx hb dX8_judged_13 (by decide) ?_
    exact en_ri hx hb hr rfl hlocks hS (by first | rfl | (simp only [juF, if_pos c_1]; done) | (simp only [juF, if_pos c_1]; rfl) | (simp only [juF, if_pos c_1]; decide)) dX8_judged_15
  · skip
    refine lv_iload_n hx hb dX8_judged_4 rfl (lv_at hl 2 rfl) ?_
    refine lv_if_lt (tgt := 13) hx hb dX8_judged_5 (by decide) (fun c_5 => ?_) (fun c_5 => ?_)
    · skip
      refine lv_bipush (v := (-2)) hx hb dX8_judged_13 (by decide) ?_
      exact en_ri hx hb hr rfl hlocks hS (by first | rfl | (simp only [juF, if_neg c_1, if_pos c_5]; done) | (simp only [juF, if_neg c_1, if_pos c_5]; rfl) | (simp only [juF, if_neg c_1, if_pos c_5]; decide)) dX8_judged_15
    · skip
      refine lv_iload_n hx hb dX8_judged_8 rfl (lv_at hl 2 rfl) ?_
      refine lv_iconst (v := 5) hx hb dX8_judged_9 (by decide) ?_
      refine lv_icmp_lt (tgt := 16) hx hb dX8_judged_10 (by decide) (fun c_10 => ?_) (fun c_10 => ?_)
      · skip
        refine lv_aload_n hx hb dX8_judged_16 rfl (lv_at hl 0 rfl) ?_
        refine va_get (D := G) (ci := 8) (v := .ref (ad 0 0)) (C := RX8) (T := TX8) (N := 6) hx hb hts hin_X8 hown hK hP 0 rfl rfl 0 (by decide) k10 (fun _ h9 => h9) rfl dX8_judged_17 ?_
        refine va_get (D := G) (ci := 5) (v := .ref (ad 0 4)) (C := RX5) (T := TX5) (N := 6) hx hb hts hin_X5 hown hK hP 1 rfl rfl 3 (by decide) k203 (fun _ h9 => h9) rfl dX8_judged_20 ?_
        refine lv_iload_n hx hb dX8_judged_23 rfl (lv_at hl 1 rfl) ?_
        refine lv_iload_n hx hb dX8_judged_24 rfl (lv_at hl 2 rfl) ?_
        refine rd_i (rV (rest := []) ⟨hx, hb, hml, hown, hts⟩ (cX3_entry_ok l G cA (ad 0 4) (ad 0 9) g L b0 w0) (cwV 2 hts gX8_judged_X3_entry rfl rfl rfl mdX3_entry ⟨Nat.le_of_ble_eq_true rfl, Nat.le_of_ble_eq_true rfl⟩) hE (hP.sub (ws' := [((ad 0 4), LgV (ad 0 9) g), ((ad 0 9), LcV cA L)]) [2, 3] rfl) (hD.sub (ws' := [((ad 0 4), LgV (ad 0 9) g), ((ad 0 9), LcV cA L)]) [2, 3] (by decide) rfl) (q0 := 0) (ci := 3) rfl rfl rfl hl rfl (Nat.le_of_ble_eq_true rfl) dX8_judged_25 ⟨Nat.le_of_ble_eq_true rfl, Nat.le_of_ble_eq_true rfl⟩) hS hP (fun r_25 H locs hr_25 hP hS => ?_)
        subst hr_25
        exact en_ri hx hb hr rfl hlocks hS (by first | rfl | (simp only [juF, if_neg c_1, if_neg c_5, if_pos c_10]; done) | (simp only [juF, if_neg c_1, if_neg c_5, if_pos c_10]; rfl) | (simp only [juF, if_neg c_1, if_neg c_5, if_pos c_10]; decide)) dX8_judged_28
      · skip
        refine lv_bipush (v := (-2)) hx hb dX8_judged_13 (by decide) ?_
        exact en_ri hx hb hr rfl hlocks hS (by first | rfl | (simp only [juF, if_neg c_1, if_neg c_5, if_neg c_10]; done) | (simp only [juF, if_neg c_1, if_neg c_5, if_neg c_10]; rfl) | (simp only [juF, if_neg c_1, if_neg c_5, if_neg c_10]; decide)) dX8_judged_15
set_option maxHeartbeats 4000000 in
set_option maxRecDepth 100000 in
/-- count(what) -/
theorem cX8_count_ok (l : Launch) (G : va_G) (cA : Nat → ClassId) (o : Nat) (ad : Nat → Nat → Nat) (tk0 : Int32) (u : FF) (v : GG) (f : FF) (g L : GG) (n0 k0 p0 w0 : Int32) : Ri l yX8_count wsX8_count ({ frames := 0, cells := 0, slots := 0, locals := 0 } : Room) G cA [.ref o, .int w0] [(o, LbV (ad 0 0) (ad 1 0) (ad 2 0) (ad 7 0) (ad 7 2) tk0), ((ad 0 0), StV (ad 0 1) (ad 0 2) (ad 0 3) (ad 0 4) (ad 0 5) g), ((ad 0 5), TaV g), ((ad 7 0), HiV (ad 7 1) n0), ((ad 7 2), TxV (ad 7 3) (ad 7 4) (ad 7 5) k0 p0)] (fun r => r = cnF g n0 k0 w0) := by
  refine ofW2 (cc := cX8_count) (maxL := 2) (ret := (some .int)) (own := RX8) (by decide) rfl rfl (Nat.le_of_ble_eq_true rfl) rfl ?_
  intro p e s m below meth c ls hx hb hml hr hts hown hlocks hv hl
  obtain ⟨hP, hE, hD0⟩ := hv
  have hK := hE.1
  have hD := hD0
  generalize hH0 : s.heap = H at hP ⊢
  have hS : va_S (fun _ => False) s.heap H [] := hH0 ▸ va_S.rf
  generalize ([] : List Loc) = locs at hS ⊢
  clear hH0 hD0
  replace hl : lv_has ls 2 [(0, .ref o), (1, .int w0)] := hl
  have hin_X8 : ∀ q ∈ u_ws RX8 TX8 6, q ∈ wsX8_count := by decide +kernel
  have hin_X5 : ∀ q ∈ u_ws RX5 TX5 6, q ∈ wsX8_count := by decide +kernel
  have hin_X6 : ∀ q ∈ u_ws RX6 TX6 8, q ∈ wsX8_count := by decide +kernel
  have hin_X2 : ∀ q ∈ u_ws RX2 TX2 2, q ∈ wsX8_count := by decide +kernel
  have hin_X0 : ∀ q ∈ u_ws RX0 TX0 5, q ∈ wsX8_count := by decide +kernel
  have k10 := hts (.fieldLink RX8 10 "LiftBeams" "now" "LLiftBeams$State;") (by decide +kernel)
  have k101 := hts (.fieldLink RX8 101 "LiftBeams$State" "tick" "I") (by decide +kernel)
  have k215 := hts (.fieldLink RX8 215 "LiftBeams$State" "tally" "LLiftBeams$Tally;") (by decide +kernel)
  have k219 := hts (.fieldLink RX8 219 "LiftBeams$Tally" "leaves" "I") (by decide +kernel)
  have k224 := hts (.fieldLink RX8 224 "LiftBeams$Tally" "hands" "I") (by decide +kernel)
  have k227 := hts (.fieldLink RX8 227 "LiftBeams$Tally" "dogs" "I") (by decide +kernel)
  have k230 := hts (.fieldLink RX8 230 "LiftBeams$Tally" "persons" "I") (by decide +kernel)
  have k233 := hts (.fieldLink RX8 233 "LiftBeams$Tally" "shuts" "I") (by decide +kernel)
  have k236 := hts (.fieldLink RX8 236 "LiftBeams$Tally" "reopenings" "I") (by decide +kernel)
  have k239 := hts (.fieldLink RX8 239 "LiftBeams$Tally" "servicesCalled" "I") (by decide +kernel)
  have k242 := hts (.fieldLink RX8 242 "LiftBeams$Tally" "ticksBroken" "I") (by decide +kernel)
  have k25 := hts (.fieldLink RX8 25 "LiftBeams" "history" "LLiftBeams$History;") (by decide +kernel)
  have k135 := hts (.fieldLink RX8 135 "LiftBeams$History" "size" "I") (by decide +kernel)
  have k32 := hts (.fieldLink RX8 32 "LiftBeams" "text" "LLiftBeams$BeamText;") (by decide +kernel)
  have k128 := hts (.fieldLink RX8 128 "LiftBeams$BeamText" "length" "I") (by decide +kernel)
  refine lv_iload_n hx hb dX8_count_0 rfl (lv_at hl 1 rfl) ?_
  refine lv_topi (fun x_1 ex_1 => ?_)
  by_cases s_1 : x_1 = 0
  · rw [s_1] at ex_1 ⊢
    have s_1e := ex_1.symm
    refine lv_tableIn (off := 59) (tgt := 60) hx hb dX8_count_1 (by decide) (by decide) (by decide) (by decide) ?_
    have s_1n1 : ¬ w0 = 1 := by rw [s_1e]; decide
    have s_1n2 : ¬ w0 = 2 := by rw [s_1e]; decide
    have s_1n3 : ¬ w0 = 3 := by rw [s_1e]; decide
    have s_1n4 : ¬ w0 = 4 := by rw [s_1e]; decide
    have s_1n5 : ¬ w0 = 5 := by rw [s_1e]; decide
    have s_1n6 : ¬ w0 = 6 := by rw [s_1e]; decide
    have s_1n7 : ¬ w0 = 7 := by rw [s_1e]; decide
    have s_1n8 : ¬ w0 = 8 := by rw [s_1e]; decide
    have s_1n9 : ¬ w0 = 9 := by rw [s_1e]; decide
    have s_1n10 : ¬ w0 = 10 := by rw [s_1e]; decide
    refine lv_aload_n hx hb dX8_count_60 rfl (lv_at hl 0 rfl) ?_
    refine va_get (D := G) (ci := 8) (v := .ref (ad 0 0)) (C := RX8) (T := TX8) (N := 6) hx hb hts hin_X8 hown hK hP 0 rfl rfl 0 (by decide) k10 (fun _ h9 => h9) rfl dX8_count_61 ?_
    refine va_get (D := G) (ci := 5) (v := .int (g 27)) (C := RX5) (T := TX5) (N := 6) hx hb hts hin_X5 hown hK hP 1 rfl rfl 5 (by decide) k101 (fun _ h9 => h9) rfl dX8_count_64 ?_
    exact en_ri hx hb hr rfl hlocks hS (by first | rfl | (simp only [cnF, if_pos s_1e, if_neg s_1n1, if_neg s_1n2, if_neg s_1n3, if_neg s_1n4, if_neg s_1n5, if_neg s_1n6, if_neg s_1n7, if_neg s_1n8, if_neg s_1n9, if_neg s_1n10]; done) | (simp only [cnF, if_pos s_1e, if_neg s_1n1, if_neg s_1n2, if_neg s_1n3, if_neg s_1n4, if_neg s_1n5, if_neg s_1n6, if_neg s_1n7, if_neg s_1n8, if_neg s_1n9, if_neg s_1n10]; rfl) | (simp only [cnF, if_pos s_1e, if_neg s_1n1, if_neg s_1n2, if_neg s_1n3, if_neg s_1n4, if_neg s_1n5, if_neg s_1n6, if_neg s_1n7, if_neg s_1n8, if_neg s_1n9, if_neg s_1n10]; decide)) dX8_count_67
  have s_1q : ¬ w0 = 0 := fun h9 => s_1 (ex_1.trans h9)
  by_cases s_1_1 : x_1 = 1
  · rw [s_1_1] at ex_1 ⊢
    have s_1_1e := ex_1.symm
    refine lv_tableIn (off := 67) (tgt := 68) hx hb dX8_count_1 (by decide) (by decide) (by decide) (by decide) ?_
    have s_1_1n2 : ¬ w0 = 2 := by rw [s_1_1e]; decide
    have s_1_1n3 : ¬ w0 = 3 := by rw [s_1_1e]; decide
    have s_1_1n4 : ¬ w0 = 4 := by rw [s_1_1e]; decide
    have s_1_1n5 : ¬ w0 = 5 := by rw [s_1_1e]; decide
    have s_1_1n6 : ¬ w0 = 6 := by rw [s_1_1e]; decide
    have s_1_1n7 : ¬ w0 = 7 := by rw [s_1_1e]; decide
    have s_1_1n8 : ¬ w0 = 8 := by rw [s_1_1e]; decide
    have s_1_1n9 : ¬ w0 = 9 := by rw [s_1_1e]; decide
    have s_1_1n10 : ¬ w0 = 10 := by rw [s_1_1e]; decide
    refine lv_aload_n hx hb dX8_count_68 rfl (lv_at hl 0 rfl) ?_
    refine va_get (D := G) (ci := 8) (v := .ref (ad 0 0)) (C := RX8) (T := TX8) (N := 6) hx hb hts hin_X8 hown hK hP 0 rfl rfl 0 (by decide) k10 (fun _ h9 => h9) rfl dX8_count_69 ?_
    refine va_get (D := G) (ci := 5) (v := .ref (ad 0 5)) (C := RX5) (T := TX5) (N := 6) hx hb hts hin_X5 hown hK hP 1 rfl rfl 4 (by decide) k215 (fun _ h9 => h9) rfl dX8_count_72 ?_
    refine va_get (D := G) (ci := 6) (v := .int (g 19)) (C := RX6) (T := TX6) (N := 8) hx hb hts hin_X6 hown hK hP 2 rfl rfl 0 (by decide) k219 (fun _ h9 => h9) rfl dX8_count_75 ?_
    exact en_ri hx hb hr rfl hlocks hS (by first | rfl | (simp only [cnF, if_neg s_1q, if_pos s_1_1e, if_neg s_1_1n2, if_neg s_1_1n3, if_neg s_1_1n4, if_neg s_1_1n5, if_neg s_1_1n6, if_neg s_1_1n7, if_neg s_1_1n8, if_neg s_1_1n9, if_neg s_1_1n10]; done) | (simp only [cnF, if_neg s_1q, if_pos s_1_1e, if_neg s_1_1n2, if_neg s_1_1n3, if_neg s_1_1n4, if_neg s_1_1n5, if_neg s_1_1n6, if_neg s_1_1n7, if_neg s_1_1n8, if_neg s_1_1n9, if_neg s_1_1n10]; rfl) | (simp only [cnF, if_neg s_1q, if_pos s_1_1e, if_neg s_1_1n2, if_neg s_1_1n3, if_neg s_1_1n4, if_neg s_1_1n5, if_neg s_1_1n6, if_neg s_1_1n7, if_neg s_1_1n8, if_neg s_1_1n9, if_neg s_1_1n10]; decide)) dX8_count_78
  have s_1_1q : ¬ w0 = 1 := fun h9 => s_1_1 (ex_1.trans h9)
  by_cases s_1_2 : x_1 = 2
  · rw [s_1_2] at ex_1 ⊢
    have s_1_2e := ex_1.symm
    refine lv_tableIn (off := 78) (tgt := 79) hx hb dX8_count_1 (by decide) (by decide) (by decide) (by decide) ?_
    have s_1_2n3 : ¬ w0 = 3 := by rw [s_1_2e]; decide
    have s_1_2n4 : ¬ w0 = 4 := by rw [s_1_2e]; decide
    have s_1_2n5 : ¬ w0 = 5 := by rw [s_1_2e]; decide
    have s_1_2n6 : ¬ w0 = 6 := by rw [s_1_2e]; decide
    have s_1_2n7 : ¬ w0 = 7 := by rw [s_1_2e]; decide
    have s_1_2n8 : ¬ w0 = 8 := by rw [s_1_2e]; decide
    have s_1_2n9 : ¬ w0 = 9 := by rw [s_1_2e]; decide
    have s_1_2n10 : ¬ w0 = 10 := by rw [s_1_2e]; decide
    refine lv_aload_n hx hb dX8_count_79 rfl (lv_at hl 0 rfl) ?_
    refine va_get (D := G) (ci := 8) (v := .ref (ad 0 0)) (C := RX8) (T := TX8) (N := 6) hx hb hts hin_X8 hown hK hP 0 rfl rfl 0 (by decide) k10 (fun _ h9 => h9) rfl dX8_count_80 ?_
    refine va_get (D := G) (ci := 5) (v := .ref (ad 0 5)) (C := RX5) (T := TX5) (N := 6) hx hb hts hin_X5 hown hK hP 1 rfl rfl 4 (by decide) k215 (fun _ h9 => h9) rfl dX8_count_83 ?_
    refine va_get (D := G) (ci := 6) (v := .int (g 20)) (C := RX6) (T := TX6) (N := 8) hx hb hts hin_X6 hown hK hP 2 rfl rfl 1 (by decide) k224 (fun _ h9 => h9) rfl dX8_count_86 ?_
    exact en_ri hx hb hr rfl hlocks hS (by first | rfl | (simp only [cnF, if_neg s_1q, if_neg s_1_1q, if_pos s_1_2e, if_neg s_1_2n3, if_neg s_1_2n4, if_neg s_1_2n5, if_neg s_1_2n6, if_neg s_1_2n7, if_neg s_1_2n8, if_neg s_1_2n9, if_neg s_1_2n10]; done) | (simp only [cnF, if_neg s_1q, if_neg s_1_1q, if_pos s_1_2e, if_neg s_1_2n3, if_neg s_1_2n4, if_neg s_1_2n5, if_neg s_1_2n6, if_neg s_1_2n7, if_neg s_1_2n8, if_neg s_1_2n9, if_neg s_1_2n10]; rfl) | (simp only [cnF, if_neg s_1q, if_neg s_1_1q, if_pos s_1_2e, if_neg s_1_2n3, if_neg s_1_2n4, if_neg s_1_2n5, if_neg s_1_2n6, if_neg s_1_2n7, if_neg s_1_2n8, if_neg s_1_2n9, if_neg s_1_2n10]; decide)) dX8_count_89
  have s_1_2q : ¬ w0 = 2 := fun h9 => s_1_2 (ex_1.trans h9)
  by_cases s_1_3 : x_1 = 3
  · rw [s_1_3] at ex_1 ⊢
    have s_1_3e := ex_1.symm
    refine lv_tableIn (off := 89) (tgt := 90) hx hb dX8_count_1 (by decide) (by decide) (by decide) (by decide) ?_
    have s_1_3n4 : ¬ w0 = 4 := by rw [s_1_3e]; decide
    have s_1_3n5 : ¬ w0 = 5 := by rw [s_1_3e]; decide
    have s_1_3n6 : ¬ w0 = 6 := by rw [s_1_3e]; decide
    have s_1_3n7 : ¬ w0 = 7 := by rw [s_1_3e]; decide
    have s_1_3n8 : ¬ w0 = 8 := by rw [s_1_3e]; decide
    have s_1_3n9 : ¬ w0 = 9 := by rw [s_1_3e]; decide
    have s_1_3n10 : ¬ w0 = 10 := by rw [s_1_3e]; decide
    refine lv_aload_n hx hb dX8_count_90 rfl (lv_at hl 0 rfl) ?_
    refine va_get (D := G) (ci := 8) (v := .ref (ad 0 0)) (C := RX8) (T := TX8) (N := 6) hx hb hts hin_X8 hown hK hP 0 rfl rfl 0 (by decide) k10 (fun _ h9 => h9) rfl dX8_count_91 ?_
    refine va_get (D := G) (ci := 5) (v := .ref (ad 0 5)) (C := RX5) (T := TX5) (N := 6) hx hb hts hin_X5 hown hK hP 1 rfl rfl 4 (by decide) k215 (fun _ h9 => h9) rfl dX8_count_94 ?_
    refine va_get (D := G) (ci := 6) (v := .int (g 21)) (C := RX6) (T := TX6) (N := 8) hx hb hts hin_X6 hown hK hP 2 rfl rfl 2 (by decide) k227 (fun _ h9 => h9) rfl dX8_count_97 ?_
    exact en_ri hx hb hr rfl hlocks hS (by first | rfl | (simp only [cnF, if_neg s_1q, if_neg s_1_1q, if_neg s_1_2q, if_pos s_1_3e, if_neg s_1_3n4, if_neg s_1_3n5, if_neg s_1_3n6, if_neg s_1_3n7, if_neg s_1_3n8, if_neg s_1_3n9, if_neg s_1_3n10]; done) | (simp only [cnF, if_neg s_1q, if_neg s_1_1q, if_neg s_1_2q, if_pos s_1_3e, if_neg s_1_3n4, if_neg s_1_3n5, if_neg s_1_3n6, if_neg s_1_3n7, if_neg s_1_3n8, if_neg s_1_3n9, if_neg s_1_3n10]; rfl) | (simp only [cnF, if_neg s_1q, if_neg s_1_1q, if_neg s_1_2q, if_pos s_1_3e, if_neg s_1_3n4, if_neg s_1_3n5, if_neg s_1_3n6, if_neg s_1_3n7, if_neg s_1_3n8, if_neg s_1_3n9, if_neg s_1_3n10]; decide)) dX8_count_100
  have s_1_3q : ¬ w0 = 3 := fun h9 => s_1_3 (ex_1.trans h9)
  by_cases s_1_4 : x_1 = 4
  · rw [s_1_4] at ex_1 ⊢
    have s_1_4e := ex_1.symm
    refine lv_tableIn (off := 100) (tgt := 101) hx hb dX8_count_1 (by decide) (by decide) (by decide) (by decide) ?_
    have s_1_4n5 : ¬ w0 = 5 := by rw [s_1_4e]; decide
    have s_1_4n6 : ¬ w0 = 6 := by rw [s_1_4e]; decide
    have s_1_4n7 : ¬ w0 = 7 := by rw [s_1_4e]; decide
    have s_1_4n8 : ¬ w0 = 8 := by rw [s_1_4e]; decide
    have s_1_4n9 : ¬ w0 = 9 := by rw [s_1_4e]; decide
    have s_1_4n10 : ¬ w0 = 10 := by rw [s_1_4e]; decide
    refine lv_aload_n hx hb dX8_count_101 rfl (lv_at hl 0 rfl) ?_
    refine va_get (D := G) (ci := 8) (v := .ref (ad 0 0)) (C := RX8) (T := TX8) (N := 6) hx hb hts hin_X8 hown hK hP 0 rfl rfl 0 (by decide) k10 (fun _ h9 => h9) rfl dX8_count_102 ?_
    refine va_get (D := G) (ci := 5) (v := .ref (ad 0 5)) (C := RX5) (T := TX5) (N := 6) hx hb hts hin_X5 hown hK hP 1 rfl rfl 4 (by decide) k215 (fun _ h9 => h9) rfl dX8_count_105 ?_
    refine va_get (D := G) (ci := 6) (v := .int (g 22)) (C := RX6) (T := TX6) (N := 8) hx hb hts hin_X6 hown hK hP 2 rfl rfl 3 (by decide) k230 (fun _ h9 => h9) rfl dX8_count_108 ?_
    exact en_ri hx hb hr rfl hlocks hS (by first | rfl | (simp only [cnF, if_neg s_1q, if_neg s_1_1q, if_neg s_1_2q, if_neg s_1_3q, if_pos s_1_4e, if_neg s_1_4n5, if_neg s_1_4n6, if_neg s_1_4n7, if_neg s_1_4n8, if_neg s_1_4n9, if_neg s_1_4n10]; done) | (simp only [cnF, if_neg s_1q, if_neg s_1_1q, if_neg s_1_2q, if_neg s_1_3q, if_pos s_1_4e, if_neg s_1_4n5, if_neg s_1_4n6, if_neg s_1_4n7, if_neg s_1_4n8, if_neg s_1_4n9, if_neg s_1_4n10]; rfl) | (simp only [cnF, if_neg s_1q, if_neg s_1_1q, if_neg s_1_2q, if_neg s_1_3q, if_pos s_1_4e, if_neg s_1_4n5, if_neg s_1_4n6, if_neg s_1_4n7, if_neg s_1_4n8, if_neg s_1_4n9, if_neg s_1_4n10]; decide)) dX8_count_111
  have s_1_4q : ¬ w0 = 4 := fun h9 => s_1_4 (ex_1.trans h9)
  by_cases s_1_5 : x_1 = 5
  · rw [s_1_5] at ex_1 ⊢
    have s_1_5e := ex_1.symm
    refine lv_tableIn (off := 111) (tgt := 112) hx hb dX8_count_1 (by decide) (by decide) (by decide) (by decide) ?_
    have s_1_5n6 : ¬ w0 = 6 := by rw [s_1_5e]; decide
    have s_1_5n7 : ¬ w0 = 7 := by rw [s_1_5e]; decide
    have s_1_5n8 : ¬ w0 = 8 := by rw [s_1_5e]; decide
    have s_1_5n9 : ¬ w0 = 9 := by rw [s_1_5e]; decide
    have s_1_5n10 : ¬ w0 = 10 := by rw [s_1_5e]; decide
    refine lv_aload_n hx hb dX8_count_112 rfl (lv_at hl 0 rfl) ?_
    refine va_get (D := G) (ci := 8) (v := .ref (ad 0 0)) (C := RX8) (T := TX8) (N := 6) hx hb hts hin_X8 hown hK hP 0 rfl rfl 0 (by decide) k10 (fun _ h9 => h9) rfl dX8_count_113 ?_
    refine va_get (D := G) (ci := 5) (v := .ref (ad 0 5)) (C := RX5) (T := TX5) (N := 6) hx hb hts hin_X5 hown hK hP 1 rfl rfl 4 (by decide) k215 (fun _ h9 => h9) rfl dX8_count_116 ?_
    refine va_get (D := G) (ci := 6) (v := .int (g 23)) (C := RX6) (T := TX6) (N := 8) hx hb hts hin_X6 hown hK hP 2 rfl rfl 4 (by decide) k233 (fun _ h9 => h9) rfl dX8_count_119 ?_
    exact en_ri hx hb hr rfl hlocks hS (by first | rfl | (simp only [cnF, if_neg s_1q, if_neg s_1_1q, if_neg s_1_2q, if_neg s_1_3q, if_neg s_1_4q, if_pos s_1_5e, if_neg s_1_5n6, if_neg s_1_5n7, if_neg s_1_5n8, if_neg s_1_5n9, if_neg s_1_5n10]; done) | (simp only [cnF, if_neg s_1q, if_neg s_1_1q, if_neg s_1_2q, if_neg s_1_3q, if_neg s_1_4q, if_pos s_1_5e, if_neg s_1_5n6, if_neg s_1_5n7, if_neg s_1_5n8, if_neg s_1_5n9, if_neg s_1_5n10]; rfl) | (simp only [cnF, if_neg s_1q, if_neg s_1_1q, if_neg s_1_2q, if_neg s_1_3q, if_neg s_1_4q, if_pos s_1_5e, if_neg s_1_5n6, if_neg s_1_5n7, if_neg s_1_5n8, if_neg s_1_5n9, if_neg s_1_5n10]; decide)) dX8_count_122
  have s_1_5q : ¬ w0 = 5 := fun h9 => s_1_5 (ex_1.trans h9)
  by_cases s_1_6 : x_1 = 6
  · rw [s_1_6] at ex_1 ⊢
    have s_1_6e := ex_1.symm
    refine lv_tableIn (off := 122) (tgt := 123) hx hb dX8_count_1 (by decide) (by decide) (by decide) (by decide) ?_
    have s_1_6n7 : ¬ w0 = 7 := by rw [s_1_6e]; decide
    have s_1_6n8 : ¬ w0 = 8 := by rw [s_1_6e]; decide
    have s_1_6n9 : ¬ w0 = 9 := by rw [s_1_6e]; decide
    have s_1_6n10 : ¬ w0 = 10 := by rw [s_1_6e]; decide
    refine lv_aload_n hx hb dX8_count_123 rfl (lv_at hl 0 rfl) ?_
    refine va_get (D := G) (ci := 8) (v := .ref (ad 0 0)) (C := RX8) (T := TX8) (N := 6) hx hb hts hin_X8 hown hK hP 0 rfl rfl 0 (by decide) k10 (fun _ h9 => h9) rfl dX8_count_124 ?_
    refine va_get (D := G) (ci := 5) (v := .ref (ad 0 5)) (C := RX5) (T := TX5) (N := 6) hx hb hts hin_X5 hown hK hP 1 rfl rfl 4 (by decide) k215 (fun _ h9 => h9) rfl dX8_count_127 ?_
    refine va_get (D := G) (ci := 6) (v := .int (g 24)) (C := RX6) (T := TX6) (N := 8) hx hb hts hin_X6 hown hK hP 2 rfl rfl 5 (by decide) k236 (fun _ h9 => h9) rfl dX8_count_130 ?_
    exact en_ri hx hb hr rfl hlocks hS (by first | rfl | (simp only [cnF, if_neg s_1q, if_neg s_1_1q, if_neg s_1_2q, if_neg s_1_3q, if_neg s_1_4q, if_neg s_1_5q, if_pos s_1_6e, if_neg s_1_6n7, if_neg s_1_6n8, if_neg s_1_6n9, if_neg s_1_6n10]; done) | (simp only [cnF, if_neg s_1q, if_neg s_1_1q, if_neg s_1_2q, if_neg s_1_3q, if_neg s_1_4q, if_neg s_1_5q, if_pos s_1_6e, if_neg s_1_6n7, if_neg s_1_6n8, if_neg s_1_6n9, if_neg s_1_6n10]; rfl) | (simp only [cnF, if_neg s_1q, if_neg s_1_1q, if_neg s_1_2q, if_neg s_1_3q, if_neg s_1_4q, if_neg s_1_5q, if_pos s_1_6e, if_neg s_1_6n7, if_neg s_1_6n8, if_neg s_1_6n9, if_neg s_1_6n10]; decide)) dX8_count_133
  have s_1_6q : ¬ w0 = 6 := fun h9 => s_1_6 (ex_1.trans h9)
  by_cases s_1_7 : x_1 = 7
  · rw [s_1_7] at ex_1 ⊢
    have s_1_7e := ex_1.symm
    refine lv_tableIn (off := 133) (tgt := 134) hx hb dX8_count_1 (by decide) (by decide) (by decide) (by decide) ?_
    have s_1_7n8 : ¬ w0 = 8 := by rw [s_1_7e]; decide
    have s_1_7n9 : ¬ w0 = 9 := by rw [s_1_7e]; decide
    have s_1_7n10 : ¬ w0 = 10 := by rw [s_1_7e]; decide
    refine lv_aload_n hx hb dX8_count_134 rfl (lv_at hl 0 rfl) ?_
    refine va_get (D := G) (ci := 8) (v := .ref (ad 0 0)) (C := RX8) (T := TX8) (N := 6) hx hb hts hin_X8 hown hK hP 0 rfl rfl 0 (by decide) k10 (fun _ h9 => h9) rfl dX8_count_135 ?_
    refine va_get (D := G) (ci := 5) (v := .ref (ad 0 5)) (C := RX5) (T := TX5) (N := 6) hx hb hts hin_X5 hown hK hP 1 rfl rfl 4 (by decide) k215 (fun _ h9 => h9) rfl dX8_count_138 ?_
    refine va_get (D := G) (ci := 6) (v := .int (g 25)) (C := RX6) (T := TX6) (N := 8) hx hb hts hin_X6 hown hK hP 2 rfl rfl 6 (by decide) k239 (fun _ h9 => h9) rfl dX8_count_141 ?_
    exact en_ri hx hb hr rfl hlocks hS (by first | rfl | (simp only [cnF, if_neg s_1q, if_neg s_1_1q, if_neg s_1_2q, if_neg s_1_3q, if_neg s_1_4q, if_neg s_1_5q, if_neg s_1_6q, if_pos s_1_7e, if_neg s_1_7n8, if_neg s_1_7n9, if_neg s_1_7n10]; done) | (simp only [cnF, if_neg s_1q, if_neg s_1_1q, if_neg s_1_2q, if_neg s_1_3q, if_neg s_1_4q, if_neg s_1_5q, if_neg s_1_6q, if_pos s_1_7e, if_neg s_1_7n8, if_neg s_1_7n9, if_neg s_1_7n10]; rfl) | (simp only [cnF, if_neg s_1q, if_neg s_1_1q, if_neg s_1_2q, if_neg s_1_3q, if_neg s_1_4q, if_neg s_1_5q, if_neg s_1_6q, if_pos s_1_7e, if_neg s_1_7n8, if_neg s_1_7n9, if_neg s_1_7n10]; decide)) dX8_count_144
  have s_1_7q : ¬ w0 = 7 := fun h9 => s_1_7 (ex_1.trans h9)
  by_cases s_1_8 : x_1 = 8
  · rw [s_1_8] at ex_1 ⊢
    have s_1_8e := ex_1.symm
    refine lv_tableIn (off := 144) (tgt := 145) hx hb dX8_count_1 (by decide) (by decide) (by decide) (by decide) ?_
    have s_1_8n9 : ¬ w0 = 9 := by rw [s_1_8e]; decide
    have s_1_8n10 : ¬ w0 = 10 := by rw [s_1_8e]; decide
    refine lv_aload_n hx hb dX8_count_145 rfl (lv_at hl 0 rfl) ?_
    refine va_get (D := G) (ci := 8) (v := .ref (ad 0 0)) (C := RX8) (T := TX8) (N := 6) hx hb hts hin_X8 hown hK hP 0 rfl rfl 0 (by decide) k10 (fun _ h9 => h9) rfl dX8_count_146 ?_
    refine va_get (D := G) (ci := 5) (v := .ref (ad 0 5)) (C := RX5) (T := TX5) (N := 6) hx hb hts hin_X5 hown hK hP 1 rfl rfl 4 (by decide) k215 (fun _ h9 => h9) rfl dX8_count_149 ?_
    refine va_get (D := G) (ci := 6) (v := .int (g 26)) (C := RX6) (T := TX6) (N := 8) hx hb hts hin_X6 hown hK hP 2 rfl rfl 7 (by decide) k242 (fun _ h9 => h9) rfl dX8_count_152 ?_
    exact en_ri hx hb hr rfl hlocks hS (by first | rfl | (simp only [cnF, if_neg s_1q, if_neg s_1_1q, if_neg s_1_2q, if_neg s_1_3q, if_neg s_1_4q, if_neg s_1_5q, if_neg s_1_6q, if_neg s_1_7q, if_pos s_1_8e, if_neg s_1_8n9, if_neg s_1_8n10]; done) | (simp only [cnF, if_neg s_1q, if_neg s_1_1q, if_neg s_1_2q, if_neg s_1_3q, if_neg s_1_4q, if_neg s_1_5q, if_neg s_1_6q, if_neg s_1_7q, if_pos s_1_8e, if_neg s_1_8n9, if_neg s_1_8n10]; rfl) | (simp only [cnF, if_neg s_1q, if_neg s_1_1q, if_neg s_1_2q, if_neg s_1_3q, if_neg s_1_4q, if_neg s_1_5q, if_neg s_1_6q, if_neg s_1_7q, if_pos s_1_8e, if_neg s_1_8n9, if_neg s_1_8n10]; decide)) dX8_count_155
  have s_1_8q : ¬ w0 = 8 := fun h9 => s_1_8 (ex_1.trans h9)
  by_cases s_1_9 : x_1 = 9
  · rw [s_1_9] at ex_1 ⊢
    have s_1_9e := ex_1.symm
    refine lv_tableIn (off := 155) (tgt := 156) hx hb dX8_count_1 (by decide) (by decide) (by decide) (by decide) ?_
    have s_1_9n10 : ¬ w0 = 10 := by rw [s_1_9e]; decide
    refine lv_aload_n hx hb dX8_count_156 rfl (lv_at hl 0 rfl) ?_
    refine va_get (D := G) (ci := 8) (v := .ref (ad 7 0)) (C := RX8) (T := TX8) (N := 6) hx hb hts hin_X8 hown hK hP 0 rfl rfl 3 (by decide) k25 (fun _ h9 => h9) rfl dX8_count_157 ?_
    refine va_get (D := G) (ci := 2) (v := .int n0) (C := RX2) (T := TX2) (N := 2) hx hb hts hin_X2 hown hK hP 3 rfl rfl 1 (by decide) k135 (fun _ h9 => h9) rfl dX8_count_160 ?_
    exact en_ri hx hb hr rfl hlocks hS (by first | rfl | (simp only [cnF, if_neg s_1q, if_neg s_1_1q, if_neg s_1_2q, if_neg s_1_3q, if_neg s_1_4q, if_neg s_1_5q, if_neg s_1_6q, if_neg s_1_7q, if_neg s_1_8q, if_pos s_1_9e, if_neg s_1_9n10]; done) | (simp only [cnF, if_neg s_1q, if_neg s_1_1q, if_neg s_1_2q, if_neg s_1_3q, if_neg s_1_4q, if_neg s_1_5q, if_neg s_1_6q, if_neg s_1_7q, if_neg s_1_8q, if_pos s_1_9e, if_neg s_1_9n10]; rfl) | (simp only [cnF, if_neg s_1q, if_neg s_1_1q, if_neg s_1_2q, if_neg s_1_3q, if_neg s_1_4q, if_neg s_1_5q, if_neg s_1_6q, if_neg s_1_7q, if_neg s_1_8q, if_pos s_1_9e, if_neg s_1_9n10]; decide)) dX8_count_163
  have s_1_9q : ¬ w0 = 9 := fun h9 => s_1_9 (ex_1.trans h9)
  by_cases s_1_10 : x_1 = 10
  · rw [s_1_10] at ex_1 ⊢
    have s_1_10e := ex_1.symm
    refine lv_tableIn (off := 163) (tgt := 164) hx hb dX8_count_1 (by decide) (by decide) (by decide) (by decide) ?_
    refine lv_aload_n hx hb dX8_count_164 rfl (lv_at hl 0 rfl) ?_
    refine va_get (D := G) (ci := 8) (v := .ref (ad 7 2)) (C := RX8) (T := TX8) (N := 6) hx hb hts hin_X8 hown hK hP 0 rfl rfl 4 (by decide) k32 (fun _ h9 => h9) rfl dX8_count_165 ?_
    refine va_get (D := G) (ci := 0) (v := .int k0) (C := RX0) (T := TX0) (N := 5) hx hb hts hin_X0 hown hK hP 4 rfl rfl 1 (by decide) k128 (fun _ h9 => h9) rfl dX8_count_168 ?_
    exact en_ri hx hb hr rfl hlocks hS (by first | rfl | (simp only [cnF, if_neg s_1q, if_neg s_1_1q, if_neg s_1_2q, if_neg s_1_3q, if_neg s_1_4q, if_neg s_1_5q, if_neg s_1_6q, if_neg s_1_7q, if_neg s_1_8q, if_neg s_1_9q, if_pos s_1_10e]; done) | (simp only [cnF, if_neg s_1q, if_neg s_1_1q, if_neg s_1_2q, if_neg s_1_3q, if_neg s_1_4q, if_neg s_1_5q, if_neg s_1_6q, if_neg s_1_7q, if_neg s_1_8q, if_neg s_1_9q, if_pos s_1_10e]; rfl) | (simp only [cnF, if_neg s_1q, if_neg s_1_1q, if_neg s_1_2q, if_neg s_1_3q, if_neg s_1_4q, if_neg s_1_5q, if_neg s_1_6q, if_neg s_1_7q, if_neg s_1_8q, if_neg s_1_9q, if_pos s_1_10e]; decide)) dX8_count_171
  have s_1_10q : ¬ w0 = 10 := fun h9 => s_1_10 (ex_1.trans h9)
  refine lv_tableOut (tgt := 172) hx hb dX8_count_1 (tab_0_10 s_1 s_1_1 s_1_2 s_1_3 s_1_4 s_1_5 s_1_6 s_1_7 s_1_8 s_1_9 s_1_10) (by decide) ?_
  refine lv_bipush (v := (-2)) hx hb dX8_count_172 (by decide) ?_
  exact en_ri hx hb hr rfl hlocks hS (by first | rfl | (simp only [cnF, if_neg s_1q, if_neg s_1_1q, if_neg s_1_2q, if_neg s_1_3q, if_neg s_1_4q, if_neg s_1_5q, if_neg s_1_6q, if_neg s_1_7q, if_neg s_1_8q, if_neg s_1_9q, if_neg s_1_10q]; done) | (simp only [cnF, if_neg s_1q, if_neg s_1_1q, if_neg s_1_2q, if_neg s_1_3q, if_neg s_1_4q, if_neg s_1_5q, if_neg s_1_6q, if_neg s_1_7q, if_neg s_1_8q, if_neg s_1_9q, if_neg s_1_10q]; rfl) | (simp only [cnF, if_neg s_1q, if_neg s_1_1q, if_neg s_1_2q, if_neg s_1_3q, if_neg s_1_4q, if_neg s_1_5q, if_neg s_1_6q, if_neg s_1_7q, if_neg s_1_8q, if_neg s_1_9q, if_neg s_1_10q]; decide)) dX8_count_174
