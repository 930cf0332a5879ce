/-! LiftBeams: forecasts: contracts over small worlds (by wip/p26/lb2.py) -/
theorem le500 {i : Nat} (hi : i < 2 ^ 31) (h : ¬ 500 < nI i) : i ≤ 500 := by
  rcases Nat.lt_or_ge 500 i with h1 | h1
  · exact absurd (nI_lt (a := 500) (b := i) h1 hi) h
  · exact h1
theorem gt500 {i : Nat} (hi : i ≤ 501) (h : 500 < nI i) : i = 501 := by
  rcases Nat.lt_or_ge 500 i with h1 | h1
  · omega
  · exact absurd h (nI_nlt (a := 500) (b := i) h1 (by decide))
theorem sh_step {P : Nat → Prop} {i : Nat} (h : ∀ k, k < i → P k) (hi : P i) : ∀ k, k < i + 1 → P k := by
  intro k hk
  rcases (show k < i ∨ k = i by omega) with h1 | rfl
  · exact h k h1
  · exact hi
set_option maxHeartbeats 4000000 in
set_option maxRecDepth 100000 in
/-- placeIn(beams, ticks), where there is none -/
theorem cX8_placeIn_bad (l : Launch) (G : va_G) (cA : Nat → ClassId) (o : Nat) (b0 t0 : Int32) (hbad : b0 < 0 ∨ 7 < b0 ∨ t0 < 0 ∨ 99 < t0) : Rf l yX8_placeIn wsX8_placeIn ({ frames := 1, cells := 0, slots := 0, locals := 19 } : Room) G cA [.ref o, .int b0, .int t0] [] (fun r => r = nanF) := by
  refine ofW2 (cc := cX8_placeIn) (maxL := 3) (ret := (some .float)) (own := RX8) (by decide) rfl rfl (Nat.le_of_ble_eq_true rfl) rfl ?_
  intro p e s m below meth c ls hx hb hml hr hts hown hlocks hv hl
  obtain ⟨hP, hE, hD0⟩ := hv
  have hK := hE.1
  have hD := hD0
  generalize hH0 : s.heap = H at hP ⊢
  have hS : va_S (fun _ => False) s.heap H [] := hH0 ▸ va_S.rf
  generalize ([] : List Loc) = locs at hS ⊢
  clear hH0 hD0
  replace hl : lv_has ls 3 [(0, .ref o), (1, .int b0), (2, .int t0)] := hl
  have hin_X8 : ∀ q ∈ u_ws RX8 TX8 6, q ∈ wsX8_placeIn := by decide +kernel
  have hin_X5 : ∀ q ∈ u_ws RX5 TX5 6, q ∈ wsX8_placeIn := by decide +kernel
  have hin_X1 : ∀ q ∈ u_ws RX1 TX1 6, q ∈ wsX8_placeIn := by decide +kernel
  have k16 := hts (.fieldLink RX8 16 "LiftBeams" "forecast" "LLiftBeams$State;") (by decide +kernel)
  have k10 := hts (.fieldLink RX8 10 "LiftBeams" "now" "LLiftBeams$State;") (by decide +kernel)
  have k81 := hts (.fieldLink RX8 81 "LiftBeams$State" "door" "LLiftBeams$Door;") (by decide +kernel)
  have k144 := hts (.fieldLink RX8 144 "LiftBeams$Door" "place" "F") (by decide +kernel)
  refine lv_iload_n hx hb dX8_placeIn_0 rfl (lv_at hl 1 rfl) ?_
  refine lv_if_lt (tgt := 20) hx hb dX8_placeIn_1 (by decide) (fun c_1 => ?_) (fun c_1 => ?_)
  · skip
    refine rd_f (rS (rest := []) ⟨hx, hb, hml, hown, hts⟩ (cX8_notANumber_ok l G cA) (va_cwS 0 hts gX8_placeIn_X8_notANumber rfl rfl rfl mdX8_notANumber.2 ⟨Nat.le_of_ble_eq_true rfl, Nat.le_of_ble_eq_true rfl⟩) hE (hP.sub (ws' := []) [] rfl) (hD.sub (ws' := []) [] (by decide) rfl) rfl hl rfl (Nat.le_of_ble_eq_true rfl) dX8_placeIn_20 ⟨Nat.le_of_ble_eq_true rfl, Nat.le_of_ble_eq_true rfl⟩) hS hP (fun r_20 H locs hr_20 hP hS => ?_)
    subst hr_20
    exact en_rf hx hb hr hlocks hS (by first | rfl | (simp only [if_pos c_1]; done) | (simp only [if_pos c_1]; rfl) | (simp only [if_pos c_1]; decide)) dX8_placeIn_23
  · skip
    refine lv_iload_n hx hb dX8_placeIn_4 rfl (lv_at hl 1 rfl) ?_
    refine lv_bipush (v := 7) hx hb dX8_placeIn_5 (by decide) ?_
    refine lv_icmp_gt (tgt := 20) hx hb dX8_placeIn_7 (by decide) (fun c_7 => ?_) (fun c_7 => ?_)
    · skip
      refine rd_f (rS (rest := []) ⟨hx, hb, hml, hown, hts⟩ (cX8_notANumber_ok l G cA) (va_cwS 0 hts gX8_placeIn_X8_notANumber rfl rfl rfl mdX8_notANumber.2 ⟨Nat.le_of_ble_eq_true rfl, Nat.le_of_ble_eq_true rfl⟩) hE (hP.sub (ws' := []) [] rfl) (hD.sub (ws' := []) [] (by decide) rfl) rfl hl rfl (Nat.le_of_ble_eq_true rfl) dX8_placeIn_20 ⟨Nat.le_of_ble_eq_true rfl, Nat.le_of_ble_eq_true rfl⟩) hS hP (fun r_20_1 H locs hr_20_1 hP hS => ?_)
      subst hr_20_1
      exact en_rf hx hb hr hlocks hS (by first | rfl | (simp only [if_neg c_1, if_pos c_7]; done) | (simp only [if_neg c_1, if_pos c_7]; rfl) | (simp only [if_neg c_1, if_pos c_7]; decide)) dX8_placeIn_23
    · skip
      refine lv_iload_n hx hb dX8_placeIn_10 rfl (lv_at hl 2 rfl) ?_
      refine lv_if_lt (tgt := 20) hx hb dX8_placeIn_11 (by decide) (fun c_11 => ?_) (fun c_11 => ?_)
      · skip
        refine rd_f (rS (rest := []) ⟨hx, hb, hml, hown, hts⟩ (cX8_notANumber_ok l G cA) (va_cwS 0 hts gX8_placeIn_X8_notANumber rfl rfl rfl mdX8_notANumber.2 ⟨Nat.le_of_ble_eq_true rfl, Nat.le_of_ble_eq_true rfl⟩) hE (hP.sub (ws' := []) [] rfl) (hD.sub (ws' := []) [] (by decide) rfl) rfl hl rfl (Nat.le_of_ble_eq_true rfl) dX8_placeIn_20 ⟨Nat.le_of_ble_eq_true rfl, Nat.le_of_ble_eq_true rfl⟩) hS hP (fun r_20_2 H locs hr_20_2 hP hS => ?_)
        subst hr_20_2
        exact en_rf hx hb hr hlocks hS (by first | rfl | (simp only [if_neg c_1, if_neg c_7, if_pos c_11]; done) | (simp only [if_neg c_1, if_neg c_7, if_pos c_11]; rfl) | (simp only [if_neg c_1, if_neg c_7, if_pos c_11]; decide)) dX8_placeIn_23
      · skip
        refine lv_iload_n hx hb dX8_placeIn_14 rfl (lv_at hl 2 rfl) ?_
        refine lv_bipush (v := 99) hx hb dX8_placeIn_15 (by decide) ?_
        refine lv_icmp_le (tgt := 24) hx hb dX8_placeIn_17 (by decide) (fun c_17 => ?_) (fun c_17 => ?_)
        · skip
          exact absurd hbad (by rintro (h | h | h | h); exact c_1 h; exact c_7 h; exact c_11 h; exact Int32.not_lt.mpr c_17 h)
        · skip
          refine rd_f (rS (rest := []) ⟨hx, hb, hml, hown, hts⟩ (cX8_notANumber_ok l G cA) (va_cwS 0 hts gX8_placeIn_X8_notANumber rfl rfl rfl mdX8_notANumber.2 ⟨Nat.le_of_ble_eq_true rfl, Nat.le_of_ble_eq_true rfl⟩) hE (hP.sub (ws' := []) [] rfl) (hD.sub (ws' := []) [] (by decide) rfl) rfl hl rfl (Nat.le_of_ble_eq_true rfl) dX8_placeIn_20 ⟨Nat.le_of_ble_eq_true rfl, Nat.le_of_ble_eq_true rfl⟩) hS hP (fun r_20_3 H locs hr_20_3 hP hS => ?_)
          subst hr_20_3
          exact en_rf hx hb hr hlocks hS (by first | rfl | (simp only [if_neg c_1, if_neg c_7, if_neg c_11, if_neg c_17]; done) | (simp only [if_neg c_1, if_neg c_7, if_neg c_11, if_neg c_17]; rfl) | (simp only [if_neg c_1, if_neg c_7, if_neg c_11, if_neg c_17]; decide)) dX8_placeIn_23
set_option maxHeartbeats 4000000 in
set_option maxRecDepth 100000 in
/-- placeIn(beams, ticks) -/
theorem cX8_placeIn_ok (l : Launch) (G : va_G) (cA : Nat → ClassId) (o : Nat) (ad : Nat → Nat → Nat) (tk0 : Int32) (u : FF) (v : GG) (f : FF) (g L : GG) (u2 : FF) (v2 : GG) (f2 : FF) (g2 L2 : GG) (hB : Bo g) (b0 : Int32) (N : Nat) (hb0 : ¬ b0 < 0) (hb7 : ¬ 7 < b0) (hN : N ≤ 99) (hG : ∀ k, k < N → GoOk u (itS u v b0 (f, g, L) k).1 (itS u v b0 (f, g, L) k).2.1) : Wf l yX8_placeIn wsX8_placeIn ({ frames := 6, cells := 0, slots := 0, locals := 138 } : Room) G cA [.ref o, .int b0, .int (nI N)] [(o, LbV (ad 0 0) (ad 1 0) (ad 2 0) (ad 7 0) (ad 7 2) tk0), ((ad 0 0), StV (ad 0 1) (ad 0 2) (ad 0 3) (ad 0 4) (ad 0 5) g), ((ad 0 1), SeV (ad 0 6) (ad 0 7) (ad 0 8)), ((ad 0 2), ThV g), ((ad 0 3), DrV f g), ((ad 0 4), LgV (ad 0 9) g), ((ad 0 5), TaV g), ((ad 0 6), SpV cA u), ((ad 0 7), WeV cA u), ((ad 0 8), NuV cA v), ((ad 0 9), LcV cA L), ((ad 1 0), StV (ad 1 1) (ad 1 2) (ad 1 3) (ad 1 4) (ad 1 5) g2), ((ad 1 1), SeV (ad 1 6) (ad 1 7) (ad 1 8)), ((ad 1 2), ThV g2), ((ad 1 3), DrV f2 g2), ((ad 1 4), LgV (ad 1 9) g2), ((ad 1 5), TaV g2), ((ad 1 6), SpV cA u2), ((ad 1 7), WeV cA u2), ((ad 1 8), NuV cA v2), ((ad 1 9), LcV cA L2)] (fun r => r = (itS u v b0 (f, g, L) N).1 7) ([(o, LbV (ad 0 0) (ad 1 0) (ad 2 0) (ad 7 0) (ad 7 2) tk0)] ++ (stC cA (ad 0) u v f g L ++ stC cA (ad 1) u v (itS u v b0 (f, g, L) N).1 (itS u v b0 (f, g, L) N).2.1 (itS u v b0 (f, g, L) N).2.2)) := by
  refine ofW2 (cc := cX8_placeIn) (maxL := 3) (ret := (some .float)) (own := RX8) (by decide) rfl rfl (Nat.le_of_ble_eq_true rfl) rfl ?_
  intro p e s m below meth c ls hx hb hml hr hts hown hlocks hv hl
  obtain ⟨hP, hE, hD0⟩ := hv
  have hK := hE.1
  have hD := dself hD0
  generalize hH0 : s.heap = H at hP ⊢
  have hS : va_S (inW [(o, LbV (ad 0 0) (ad 1 0) (ad 2 0) (ad 7 0) (ad 7 2) tk0), ((ad 0 0), StV (ad 0 1) (ad 0 2) (ad 0 3) (ad 0 4) (ad 0 5) g), ((ad 0 1), SeV (ad 0 6) (ad 0 7) (ad 0 8)), ((ad 0 2), ThV g), ((ad 0 3), DrV f g), ((ad 0 4), LgV (ad 0 9) g), ((ad 0 5), TaV g), ((ad 0 6), SpV cA u), ((ad 0 7), WeV cA u), ((ad 0 8), NuV cA v), ((ad 0 9), LcV cA L), ((ad 1 0), StV (ad 1 1) (ad 1 2) (ad 1 3) (ad 1 4) (ad 1 5) g2), ((ad 1 1), SeV (ad 1 6) (ad 1 7) (ad 1 8)), ((ad 1 2), ThV g2), ((ad 1 3), DrV f2 g2), ((ad 1 4), LgV (ad 1 9) g2), ((ad 1 5), TaV g2), ((ad 1 6), SpV cA u2), ((ad 1 7), WeV cA u2), ((ad 1 8), NuV cA v2), ((ad 1 9), LcV cA L2)]) s.heap H [] := hH0 ▸ va_S.rf
  generalize ([] : List Loc) = locs at hS ⊢
  clear hH0 hD0
  replace hl : lv_has ls 3 [(0, .ref o), (1, .int b0), (2, .int (nI N))] := hl
  have hin_X8 : ∀ q ∈ u_ws RX8 TX8 6, q ∈ wsX8_placeIn := by decide +kernel
  have hin_X5 : ∀ q ∈ u_ws RX5 TX5 6, q ∈ wsX8_placeIn := by decide +kernel
  have hin_X1 : ∀ q ∈ u_ws RX1 TX1 6, q ∈ wsX8_placeIn := by decide +kernel
  have k16 := hts (.fieldLink RX8 16 "LiftBeams" "forecast" "LLiftBeams$State;") (by decide +kernel)
  have k10 := hts (.fieldLink RX8 10 "LiftBeams" "now" "LLiftBeams$State;") (by decide +kernel)
  have k81 := hts (.fieldLink RX8 81 "LiftBeams$State" "door" "LLiftBeams$Door;") (by decide +kernel)
  have k144 := hts (.fieldLink RX8 144 "LiftBeams$Door" "place" "F") (by decide +kernel)
  refine lv_iload_n hx hb dX8_placeIn_0 rfl (lv_at hl 1 rfl) ?_
  refine lv_if_lt (tgt := 20) hx hb dX8_placeIn_1 (by decide) (fun c_1 => absurd c_1 hb0) (fun c_1 => ?_)
  refine lv_iload_n hx hb dX8_placeIn_4 rfl (lv_at hl 1 rfl) ?_
  refine lv_bipush (v := 7) hx hb dX8_placeIn_5 (by decide) ?_
  refine lv_icmp_gt (tgt := 20) hx hb dX8_placeIn_7 (by decide) (fun c_7 => absurd c_7 hb7) (fun c_7 => ?_)
  refine lv_iload_n hx hb dX8_placeIn_10 rfl (lv_at hl 2 rfl) ?_
  refine lv_if_lt (tgt := 20) hx hb dX8_placeIn_11 (by decide) (fun c_11 => absurd c_11 (nI_pos (by omega))) (fun c_11 => ?_)
  refine lv_iload_n hx hb dX8_placeIn_14 rfl (lv_at hl 2 rfl) ?_
  refine lv_bipush (v := 99) hx hb dX8_placeIn_15 (by decide) ?_
  refine lv_icmp_le (tgt := 24) hx hb dX8_placeIn_17 (by decide) (fun c_17 => ?_) (fun c_17 => absurd (nI_le (a := N) (b := 99) hN (by decide)) c_17)
  refine lv_aload_n hx hb dX8_placeIn_24 rfl (lv_at hl 0 rfl) ?_
  refine va_get (D := G) (ci := 8) (v := .ref (ad 1 0)) (C := RX8) (T := TX8) (N := 6) hx hb hts hin_X8 hown hK hP 0 rfl rfl 1 (by decide) k16 (fun _ h9 => h9) rfl dX8_placeIn_25 ?_
  refine lv_aload_n hx hb dX8_placeIn_28 rfl (lv_at hl 0 rfl) ?_
  refine va_get (D := G) (ci := 8) (v := .ref (ad 0 0)) (C := RX8) (T := TX8) (N := 6) hx hb hts hin_X8 hown hK hP 0 rfl rfl 0 (by decide) k10 (fun _ h9 => h9) rfl dX8_placeIn_29 ?_
  refine wr_v (ws' := [(o, LbV (ad 0 0) (ad 1 0) (ad 2 0) (ad 7 0) (ad 7 2) tk0), ((ad 0 0), StV (ad 0 1) (ad 0 2) (ad 0 3) (ad 0 4) (ad 0 5) g), ((ad 0 1), SeV (ad 0 6) (ad 0 7) (ad 0 8)), ((ad 0 2), ThV g), ((ad 0 3), DrV f g), ((ad 0 4), LgV (ad 0 9) g), ((ad 0 5), TaV g), ((ad 0 6), SpV cA u), ((ad 0 7), WeV cA u), ((ad 0 8), NuV cA v), ((ad 0 9), LcV cA L), ((ad 1 0), StV (ad 1 1) (ad 1 2) (ad 1 3) (ad 1 4) (ad 1 5) g), ((ad 1 1), SeV (ad 1 6) (ad 1 7) (ad 1 8)), ((ad 1 2), ThV g), ((ad 1 3), DrV f g), ((ad 1 4), LgV (ad 1 9) g), ((ad 1 5), TaV g), ((ad 1 6), SpV cA u), ((ad 1 7), WeV cA u), ((ad 1 8), NuV cA v), ((ad 1 9), LcV cA L)]) (rV (rest := []) ⟨hx, hb, hml, hown, hts⟩ (cX5_copyFrom_ok l G cA (ad 1) (ad 0) u2 u v2 v f2 f g2 g L2 L hB) (cwV 1 hts gX8_placeIn_X5_copyFrom rfl rfl rfl mdX5_copyFrom ⟨Nat.le_of_ble_eq_true rfl, Nat.le_of_ble_eq_true rfl⟩) hE (hP.sub (ws' := [((ad 1 0), StV (ad 1 1) (ad 1 2) (ad 1 3) (ad 1 4) (ad 1 5) g2), ((ad 1 1), SeV (ad 1 6) (ad 1 7) (ad 1 8)), ((ad 1 2), ThV g2), ((ad 1 3), DrV f2 g2), ((ad 1 4), LgV (ad 1 9) g2), ((ad 1 5), TaV g2), ((ad 1 6), SpV cA u2), ((ad 1 7), WeV cA u2), ((ad 1 8), NuV cA v2), ((ad 1 9), LcV cA L2), ((ad 0 0), StV (ad 0 1) (ad 0 2) (ad 0 3) (ad 0 4) (ad 0 5) g), ((ad 0 1), SeV (ad 0 6) (ad 0 7) (ad 0 8)), ((ad 0 2), ThV g), ((ad 0 3), DrV f g), ((ad 0 4), LgV (ad 0 9) g), ((ad 0 5), TaV g), ((ad 0 6), SpV cA u), ((ad 0 7), WeV cA u), ((ad 0 8), NuV cA v), ((ad 0 9), LcV cA L)]) [11, 12, 13, 14, 15, 16, 17, 18, 19, 20, 1, 2, 3, 4, 5, 6, 7, 8, 9, 10] rfl) (hD.sub (ws' := [((ad 1 0), StV (ad 1 1) (ad 1 2) (ad 1 3) (ad 1 4) (ad 1 5) g2), ((ad 1 1), SeV (ad 1 6) (ad 1 7) (ad 1 8)), ((ad 1 2), ThV g2), ((ad 1 3), DrV f2 g2), ((ad 1 4), LgV (ad 1 9) g2), ((ad 1 5), TaV g2), ((ad 1 6), SpV cA u2), ((ad 1 7), WeV cA u2), ((ad 1 8), NuV cA v2), ((ad 1 9), LcV cA L2), ((ad 0 0), StV (ad 0 1) (ad 0 2) (ad 0 3) (ad 0 4) (ad 0 5) g), ((ad 0 1), SeV (ad 0 6) (ad 0 7) (ad 0 8)), ((ad 0 2), ThV g), ((ad 0 3), DrV f g), ((ad 0 4), LgV (ad 0 9) g), ((ad 0 5), TaV g), ((ad 0 6), SpV cA u), ((ad 0 7), WeV cA u), ((ad 0 8), NuV cA v), ((ad 0 9), LcV cA L)]) [11, 12, 13, 14, 15, 16, 17, 18, 19, 20, 1, 2, 3, 4, 5, 6, 7, 8, 9, 10] (by decide) rfl) (q0 := 0) (ci := 5) rfl rfl rfl hl rfl (Nat.le_of_ble_eq_true rfl) dX8_placeIn_32 ⟨Nat.le_of_ble_eq_true rfl, Nat.le_of_ble_eq_true rfl⟩) hS hP hD [11, 12, 13, 14, 15, 16, 17, 18, 19, 20, 1, 2, 3, 4, 5, 6, 7, 8, 9, 10] rfl rfl [0] [(o, LbV (ad 0 0) (ad 1 0) (ad 2 0) (ad 7 0) (ad 7 2) tk0)] rfl rfl rfl rfl (fun H locs hP hD hS => ?_)
  refine lv_aload_n hx hb dX8_placeIn_35 rfl (lv_at hl 0 rfl) ?_
  refine va_get (D := G) (ci := 8) (v := .ref (ad 1 0)) (C := RX8) (T := TX8) (N := 6) hx hb hts hin_X8 hown hK hP 0 rfl rfl 1 (by decide) k16 (fun _ h9 => h9) rfl dX8_placeIn_36 ?_
  refine lv_iload_n hx hb dX8_placeIn_39 rfl (lv_at hl 1 rfl) ?_
  refine lv_iload_n hx hb dX8_placeIn_40 rfl (lv_at hl 2 rfl) ?_
  refine wr_v (ws' := [(o, LbV (ad 0 0) (ad 1 0) (ad 2 0) (ad 7 0) (ad 7 2) tk0), ((ad 0 0), StV (ad 0 1) (ad 0 2) (ad 0 3) (ad 0 4) (ad 0 5) g), ((ad 0 1), SeV (ad 0 6) (ad 0 7) (ad 0 8)), ((ad 0 2), ThV g), ((ad 0 3), DrV f g), ((ad 0 4), LgV (ad 0 9) g), ((ad 0 5), TaV g), ((ad 0 6), SpV cA u), ((ad 0 7), WeV cA u), ((ad 0 8), NuV cA v), ((ad 0 9), LcV cA L), ((ad 1 0), StV (ad 1 1) (ad 1 2) (ad 1 3) (ad 1 4) (ad 1 5) ((itS u v b0 (f, g, L) N).2.1)), ((ad 1 1), SeV (ad 1 6) (ad 1 7) (ad 1 8)), ((ad 1 2), ThV ((itS u v b0 (f, g, L) N).2.1)), ((ad 1 3), DrV ((itS u v b0 (f, g, L) N).1) ((itS u v b0 (f, g, L) N).2.1)), ((ad 1 4), LgV (ad 1 9) ((itS u v b0 (f, g, L) N).2.1)), ((ad 1 5), TaV ((itS u v b0 (f, g, L) N).2.1)), ((ad 1 6), SpV cA u), ((ad 1 7), WeV cA u), ((ad 1 8), NuV cA v), ((ad 1 9), LcV cA ((itS u v b0 (f, g, L) N).2.2))]) (rV (rest := []) ⟨hx, hb, hml, hown, hts⟩ (cX5_goThrough_ok l G cA (ad 1) u v f g L b0 N (by omega) hG) (cwV 2 hts gX8_placeIn_X5_goThrough rfl rfl rfl mdX5_goThrough ⟨Nat.le_of_ble_eq_true rfl, Nat.le_of_ble_eq_true rfl⟩) hE (hP.sub (ws' := [((ad 1 0), StV (ad 1 1) (ad 1 2) (ad 1 3) (ad 1 4) (ad 1 5) g), ((ad 1 1), SeV (ad 1 6) (ad 1 7) (ad 1 8)), ((ad 1 2), ThV g), ((ad 1 3), DrV f g), ((ad 1 4), LgV (ad 1 9) g), ((ad 1 5), TaV g), ((ad 1 6), SpV cA u), ((ad 1 7), WeV cA u), ((ad 1 8), NuV cA v), ((ad 1 9), LcV cA L)]) [11, 12, 13, 14, 15, 16, 17, 18, 19, 20] rfl) (hD.sub (ws' := [((ad 1 0), StV (ad 1 1) (ad 1 2) (ad 1 3) (ad 1 4) (ad 1 5) g), ((ad 1 1), SeV (ad 1 6) (ad 1 7) (ad 1 8)), ((ad 1 2), ThV g), ((ad 1 3), DrV f g), ((ad 1 4), LgV (ad 1 9) g), ((ad 1 5), TaV g), ((ad 1 6), SpV cA u), ((ad 1 7), WeV cA u), ((ad 1 8), NuV cA v), ((ad 1 9), LcV cA L)]) [11, 12, 13, 14, 15, 16, 17, 18, 19, 20] (by decide) rfl) (q0 := 0) (ci := 5) rfl rfl rfl hl rfl (Nat.le_of_ble_eq_true rfl) dX8_placeIn_41 ⟨Nat.le_of_ble_eq_true rfl, Nat.le_of_ble_eq_true rfl⟩) hS hP hD [11, 12, 13, 14, 15, 16, 17, 18, 19, 20] rfl rfl [0, 1, 2, 3, 4, 5, 6, 7, 8, 9, 10] [(o, LbV (ad 0 0) (ad 1 0) (ad 2 0) (ad 7 0) (ad 7 2) tk0), ((ad 0 0), StV (ad 0 1) (ad 0 2) (ad 0 3) (ad 0 4) (ad 0 5) g), ((ad 0 1), SeV (ad 0 6) (ad 0 7) (ad 0 8)), ((ad 0 2), ThV g), ((ad 0 3), DrV f g), ((ad 0 4), LgV (ad 0 9) g), ((ad 0 5), TaV g), ((ad 0 6), SpV cA u), ((ad 0 7), WeV cA u), ((ad 0 8), NuV cA v), ((ad 0 9), LcV cA L)] rfl rfl rfl rfl (fun H locs hP hD hS => ?_)
  refine lv_aload_n hx hb dX8_placeIn_44 rfl (lv_at hl 0 rfl) ?_
  refine va_get (D := G) (ci := 8) (v := .ref (ad 1 0)) (C := RX8) (T := TX8) (N := 6) hx hb hts hin_X8 hown hK hP 0 rfl rfl 1 (by decide) k16 (fun _ h9 => h9) rfl dX8_placeIn_45 ?_
  refine va_get (D := G) (ci := 5) (v := .ref (ad 1 3)) (C := RX5) (T := TX5) (N := 6) hx hb hts hin_X5 hown hK hP 11 rfl rfl 2 (by decide) k81 (fun _ h9 => h9) rfl dX8_placeIn_48 ?_
  refine va_get (D := G) (ci := 1) (v := .float (((itS u v b0 (f, g, L) N).1) 7)) (C := RX1) (T := TX1) (N := 6) hx hb hts hin_X1 hown hK hP 14 rfl rfl 0 (by decide) k144 (fun _ h9 => h9) rfl dX8_placeIn_51 ?_
  exact en_wf hx hb hr hlocks hS (by first | rfl | (simp only [if_neg c_1, if_neg c_7, if_neg c_11, if_pos c_17]; done) | (simp only [if_neg c_1, if_neg c_7, if_neg c_11, if_pos c_17]; rfl) | (simp only [if_neg c_1, if_neg c_7, if_neg c_11, if_pos c_17]; decide)) (by first | exact hP | (simp only [if_neg c_1, if_neg c_7, if_neg c_11, if_pos c_17]; exact hP)) dX8_placeIn_54
set_option maxHeartbeats 4000000 in
set_option maxRecDepth 100000 in
/-- shutsIn() -/
theorem cX8_shutsIn_ok (l : Launch) (G : va_G) (cA : Nat → ClassId) (o : Nat) (ad : Nat → Nat → Nat) (tk0 : Int32) (u : FF) (v : GG) (f : FF) (g L : GG) (u2 : FF) (v2 : GG) (f2 : FF) (g2 L2 : GG) (hB : Bo g) (hG : ∀ k, k < 501 → GoOk u (itS u v 0 (f, g, L) k).1 (itS u v 0 (f, g, L) k).2.1) : Xi l yX8_shutsIn wsX8_shutsIn ({ frames := 5, cells := 0, slots := 0, locals := 115 } : Room) G cA [.ref o] [(o, LbV (ad 0 0) (ad 1 0) (ad 2 0) (ad 7 0) (ad 7 2) tk0), ((ad 0 0), StV (ad 0 1) (ad 0 2) (ad 0 3) (ad 0 4) (ad 0 5) g), ((ad 0 1), SeV (ad 0 6) (ad 0 7) (ad 0 8)), ((ad 0 2), ThV g), ((ad 0 3), DrV f g), ((ad 0 4), LgV (ad 0 9) g), ((ad 0 5), TaV g), ((ad 0 6), SpV cA u), ((ad 0 7), WeV cA u), ((ad 0 8), NuV cA v), ((ad 0 9), LcV cA L), ((ad 1 0), StV (ad 1 1) (ad 1 2) (ad 1 3) (ad 1 4) (ad 1 5) g2), ((ad 1 1), SeV (ad 1 6) (ad 1 7) (ad 1 8)), ((ad 1 2), ThV g2), ((ad 1 3), DrV f2 g2), ((ad 1 4), LgV (ad 1 9) g2), ((ad 1 5), TaV g2), ((ad 1 6), SpV cA u2), ((ad 1 7), WeV cA u2), ((ad 1 8), NuV cA v2), ((ad 1 9), LcV cA L2)] (fun r (x : Nat) => (x ≤ 500 ∧ r = nI x ∧ (itS u v 0 (f, g, L) x).2.1 13 = 0 ∧ ∀ k, k < x → ¬ (itS u v 0 (f, g, L) k).2.1 13 = 0) ∨ (x = 501 ∧ r = -5 ∧ ∀ k, k < 501 → ¬ (itS u v 0 (f, g, L) k).2.1 13 = 0)) (fun x : Nat => [(o, LbV (ad 0 0) (ad 1 0) (ad 2 0) (ad 7 0) (ad 7 2) tk0)] ++ (stC cA (ad 0) u v f g L ++ stC cA (ad 1) u v (itS u v 0 (f, g, L) x).1 (itS u v 0 (f, g, L) x).2.1 (itS u v 0 (f, g, L) x).2.2)) := by
  refine ofW2 (cc := cX8_shutsIn) (maxL := 2) (ret := (some .int)) (own := RX8) (by decide) rfl rfl (Nat.le_of_ble_eq_true rfl) rfl ?_
  intro p e s m below meth c ls hx hb hml hr hts hown hlocks hv hl
  obtain ⟨hP, hE, hD0⟩ := hv
  have hK := hE.1
  have hD := dself hD0
  generalize hH0 : s.heap = H at hP ⊢
  have hS : va_S (inW [(o, LbV (ad 0 0) (ad 1 0) (ad 2 0) (ad 7 0) (ad 7 2) tk0), ((ad 0 0), StV (ad 0 1) (ad 0 2) (ad 0 3) (ad 0 4) (ad 0 5) g), ((ad 0 1), SeV (ad 0 6) (ad 0 7) (ad 0 8)), ((ad 0 2), ThV g), ((ad 0 3), DrV f g), ((ad 0 4), LgV (ad 0 9) g), ((ad 0 5), TaV g), ((ad 0 6), SpV cA u), ((ad 0 7), WeV cA u), ((ad 0 8), NuV cA v), ((ad 0 9), LcV cA L), ((ad 1 0), StV (ad 1 1) (ad 1 2) (ad 1 3) (ad 1 4) (ad 1 5) g2), ((ad 1 1), SeV (ad 1 6) (ad 1 7) (ad 1 8)), ((ad 1 2), ThV g2), ((ad 1 3), DrV f2 g2), ((ad 1 4), LgV (ad 1 9) g2), ((ad 1 5), TaV g2), ((ad 1 6), SpV cA u2), ((ad 1 7), WeV cA u2), ((ad 1 8), NuV cA v2), ((ad 1 9), LcV cA L2)]) s.heap H [] := hH0 ▸ va_S.rf
  generalize ([] : List Loc) = locs at hS ⊢
  clear hH0 hD0
  replace hl : lv_has ls 2 [(0, .ref o)] := hl
  have hin_X8 : ∀ q ∈ u_ws RX8 TX8 6, q ∈ wsX8_shutsIn := by decide +kernel
  have hin_X5 : ∀ q ∈ u_ws RX5 TX5 6, q ∈ wsX8_shutsIn := by decide +kernel
  have hin_X1 : ∀ q ∈ u_ws RX1 TX1 6, q ∈ wsX8_shutsIn := by decide +kernel
  have k16 := hts (.fieldLink RX8 16 "LiftBeams" "forecast" "LLiftBeams$State;") (by decide +kernel)
  have k10 := hts (.fieldLink RX8 10 "LiftBeams" "now" "LLiftBeams$State;") (by decide +kernel)
  have k81 := hts (.fieldLink RX8 81 "LiftBeams$State" "door" "LLiftBeams$Door;") (by decide +kernel)
  have k85 := hts (.fieldLink RX8 85 "LiftBeams$Door" "state" "I") (by decide +kernel)
  refine lv_aload_n hx hb dX8_shutsIn_0 rfl (lv_at hl 0 rfl) ?_
  refine va_get (D := G) (ci := 8) (v := .ref (ad 1 0)) (C := RX8) (T := TX8) (N := 6) hx hb hts hin_X8 hown hK hP 0 rfl rfl 1 (by decide) k16 (fun _ h9 => h9) rfl dX8_shutsIn_1 ?_
  refine lv_aload_n hx hb dX8_shutsIn_4 rfl (lv_at hl 0 rfl) ?_
  refine va_get (D := G) (ci := 8) (v := .ref (ad 0 0)) (C := RX8) (T := TX8) (N := 6) hx hb hts hin_X8 hown hK hP 0 rfl rfl 0 (by decide) k10 (fun _ h9 => h9) rfl dX8_shutsIn_5 ?_
  refine wr_v (ws' := [(o, LbV (ad 0 0) (ad 1 0) (ad 2 0) (ad 7 0) (ad 7 2) tk0), ((ad 0 0), StV (ad 0 1) (ad 0 2) (ad 0 3) (ad 0 4) (ad 0 5) g), ((ad 0 1), SeV (ad 0 6) (ad 0 7) (ad 0 8)), ((ad 0 2), ThV g), ((ad 0 3), DrV f g), ((ad 0 4), LgV (ad 0 9) g), ((ad 0 5), TaV g), ((ad 0 6), SpV cA u), ((ad 0 7), WeV cA u), ((ad 0 8), NuV cA v), ((ad 0 9), LcV cA L), ((ad 1 0), StV (ad 1 1) (ad 1 2) (ad 1 3) (ad 1 4) (ad 1 5) g), ((ad 1 1), SeV (ad 1 6) (ad 1 7) (ad 1 8)), ((ad 1 2), ThV g), ((ad 1 3), DrV f g), ((ad 1 4), LgV (ad 1 9) g), ((ad 1 5), TaV g), ((ad 1 6), SpV cA u), ((ad 1 7), WeV cA u), ((ad 1 8), NuV cA v), ((ad 1 9), LcV cA L)]) (rV (rest := []) ⟨hx, hb, hml, hown, hts⟩ (cX5_copyFrom_ok l G cA (ad 1) (ad 0) u2 u v2 v f2 f g2 g L2 L hB) (cwV 1 hts gX8_shutsIn_X5_copyFrom rfl rfl rfl mdX5_copyFrom ⟨Nat.le_of_ble_eq_true rfl, Nat.le_of_ble_eq_true rfl⟩) hE (hP.sub (ws' := [((ad 1 0), StV (ad 1 1) (ad 1 2) (ad 1 3) (ad 1 4) (ad 1 5) g2), ((ad 1 1), SeV (ad 1 6) (ad 1 7) (ad 1 8)), ((ad 1 2), ThV g2), ((ad 1 3), DrV f2 g2), ((ad 1 4), LgV (ad 1 9) g2), ((ad 1 5), TaV g2), ((ad 1 6), SpV cA u2), ((ad 1 7), WeV cA u2), ((ad 1 8), NuV cA v2), ((ad 1 9), LcV cA L2), ((ad 0 0), StV (ad 0 1) (ad 0 2) (ad 0 3) (ad 0 4) (ad 0 5) g), ((ad 0 1), SeV (ad 0 6) (ad 0 7) (ad 0 8)), ((ad 0 2), ThV g), ((ad 0 3), DrV f g), ((ad 0 4), LgV (ad 0 9) g), ((ad 0 5), TaV g), ((ad 0 6), SpV cA u), ((ad 0 7), WeV cA u), ((ad 0 8), NuV cA v), ((ad 0 9), LcV cA L)]) [11, 12, 13, 14, 15, 16, 17, 18, 19, 20, 1, 2, 3, 4, 5, 6, 7, 8, 9, 10] rfl) (hD.sub (ws' := [((ad 1 0), StV (ad 1 1) (ad 1 2) (ad 1 3) (ad 1 4) (ad 1 5) g2), ((ad 1 1), SeV (ad 1 6) (ad 1 7) (ad 1 8)), ((ad 1 2), ThV g2), ((ad 1 3), DrV f2 g2), ((ad 1 4), LgV (ad 1 9) g2), ((ad 1 5), TaV g2), ((ad 1 6), SpV cA u2), ((ad 1 7), WeV cA u2), ((ad 1 8), NuV cA v2), ((ad 1 9), LcV cA L2), ((ad 0 0), StV (ad 0 1) (ad 0 2) (ad 0 3) (ad 0 4) (ad 0 5) g), ((ad 0 1), SeV (ad 0 6) (ad 0 7) (ad 0 8)), ((ad 0 2), ThV g), ((ad 0 3), DrV f g), ((ad 0 4), LgV (ad 0 9) g), ((ad 0 5), TaV g), ((ad 0 6), SpV cA u), ((ad 0 7), WeV cA u), ((ad 0 8), NuV cA v), ((ad 0 9), LcV cA L)]) [11, 12, 13, 14, 15, 16, 17, 18, 19, 20, 1, 2, 3, 4, 5, 6, 7, 8, 9, 10] (by decide) rfl) (q0 := 0) (ci := 5) rfl rfl rfl hl rfl (Nat.le_of_ble_eq_true rfl) dX8_shutsIn_8 ⟨Nat.le_of_ble_eq_true rfl, Nat.le_of_ble_eq_true rfl⟩) hS hP hD [11, 12, 13, 14, 15, 16, 17, 18, 19, 20, 1, 2, 3, 4, 5, 6, 7, 8, 9, 10] rfl rfl [0] [(o, LbV (ad 0 0) (ad 1 0) (ad 2 0) (ad 7 0) (ad 7 2) tk0)] rfl rfl rfl rfl (fun H locs hP hD hS => ?_)
  refine lv_iconst (v := 0) hx hb dX8_shutsIn_11 (by decide) ?_
  refine lv_istore_n (lv' := [(1, .int 0), (0, .ref o)]) hx hb dX8_shutsIn_12 rfl hl (by decide) rfl (fun ls hl => ?_)
  obtain ⟨i, hi0⟩ : ∃ i : Nat, i = 0 := ⟨_, rfl⟩
  replace hl : lv_has ls 2 [(1, .int (nI i)), (0, .ref o)] := by rw [hi0]; exact hl
  replace hP : va_P G vwCl [(o, LbV (ad 0 0) (ad 1 0) (ad 2 0) (ad 7 0) (ad 7 2) tk0), ((ad 0 0), StV (ad 0 1) (ad 0 2) (ad 0 3) (ad 0 4) (ad 0 5) g), ((ad 0 1), SeV (ad 0 6) (ad 0 7) (ad 0 8)), ((ad 0 2), ThV g), ((ad 0 3), DrV f g), ((ad 0 4), LgV (ad 0 9) g), ((ad 0 5), TaV g), ((ad 0 6), SpV cA u), ((ad 0 7), WeV cA u), ((ad 0 8), NuV cA v), ((ad 0 9), LcV cA L), ((ad 1 0), StV (ad 1 1) (ad 1 2) (ad 1 3) (ad 1 4) (ad 1 5) ((itS u v 0 (f, g, L) i).2.1)), ((ad 1 1), SeV (ad 1 6) (ad 1 7) (ad 1 8)), ((ad 1 2), ThV ((itS u v 0 (f, g, L) i).2.1)), ((ad 1 3), DrV ((itS u v 0 (f, g, L) i).1) ((itS u v 0 (f, g, L) i).2.1)), ((ad 1 4), LgV (ad 1 9) ((itS u v 0 (f, g, L) i).2.1)), ((ad 1 5), TaV ((itS u v 0 (f, g, L) i).2.1)), ((ad 1 6), SpV cA u), ((ad 1 7), WeV cA u), ((ad 1 8), NuV cA v), ((ad 1 9), LcV cA ((itS u v 0 (f, g, L) i).2.2))] H := by rw [hi0]; exact hP
  replace hD : va_D (inW [(o, LbV (ad 0 0) (ad 1 0) (ad 2 0) (ad 7 0) (ad 7 2) tk0), ((ad 0 0), StV (ad 0 1) (ad 0 2) (ad 0 3) (ad 0 4) (ad 0 5) g), ((ad 0 1), SeV (ad 0 6) (ad 0 7) (ad 0 8)), ((ad 0 2), ThV g), ((ad 0 3), DrV f g), ((ad 0 4), LgV (ad 0 9) g), ((ad 0 5), TaV g), ((ad 0 6), SpV cA u), ((ad 0 7), WeV cA u), ((ad 0 8), NuV cA v), ((ad 0 9), LcV cA L), ((ad 1 0), StV (ad 1 1) (ad 1 2) (ad 1 3) (ad 1 4) (ad 1 5) g2), ((ad 1 1), SeV (ad 1 6) (ad 1 7) (ad 1 8)), ((ad 1 2), ThV g2), ((ad 1 3), DrV f2 g2), ((ad 1 4), LgV (ad 1 9) g2), ((ad 1 5), TaV g2), ((ad 1 6), SpV cA u2), ((ad 1 7), WeV cA u2), ((ad 1 8), NuV cA v2), ((ad 1 9), LcV cA L2)]) [(o, LbV (ad 0 0) (ad 1 0) (ad 2 0) (ad 7 0) (ad 7 2) tk0), ((ad 0 0), StV (ad 0 1) (ad 0 2) (ad 0 3) (ad 0 4) (ad 0 5) g), ((ad 0 1), SeV (ad 0 6) (ad 0 7) (ad 0 8)), ((ad 0 2), ThV g), ((ad 0 3), DrV f g), ((ad 0 4), LgV (ad 0 9) g), ((ad 0 5), TaV g), ((ad 0 6), SpV cA u), ((ad 0 7), WeV cA u), ((ad 0 8), NuV cA v), ((ad 0 9), LcV cA L), ((ad 1 0), StV (ad 1 1) (ad 1 2) (ad 1 3) (ad 1 4) (ad 1 5) ((itS u v 0 (f, g, L) i).2.1)), ((ad 1 1), SeV (ad 1 6) (ad 1 7) (ad 1 8)), ((ad 1 2), ThV ((itS u v 0 (f, g, L) i).2.1)), ((ad 1 3), DrV ((itS u v 0 (f, g, L) i).1) ((itS u v 0 (f, g, L) i).2.1)), ((ad 1 4), LgV (ad 1 9) ((itS u v 0 (f, g, L) i).2.1)), ((ad 1 5), TaV ((itS u v 0 (f, g, L) i).2.1)), ((ad 1 6), SpV cA u), ((ad 1 7), WeV cA u), ((ad 1 8), NuV cA v), ((ad 1 9), LcV cA ((itS u v 0 (f, g, L) i).2.2))] := by rw [hi0]; exact hD
  have hne : ∀ k, k < i → ¬ (itS u v 0 (f, g, L) k).2.1 13 = 0 := fun k h9 => absurd h9 (by omega)
  obtain ⟨n, hn⟩ : ∃ n : Nat, 501 < i + n := ⟨502, by omega⟩
  have hi : i ≤ 501 := by omega
  clear hi0
  revert hl
  revert hS
  revert hD
  revert hP
  revert hne
  revert hi
  revert hn
  revert ls
  revert locs
  revert H
  revert i
  induction n with
  | zero => intro i H locs ls hn hi; exact absurd hn (by omega)
  | succ n ih =>
    intro i H locs ls hn hi hne hP hD hS hl
    refine lv_iload_n hx hb dX8_shutsIn_13 rfl (lv_at hl 0 rfl) ?_
    refine lv_sipush (v := 500) hx hb dX8_shutsIn_14 (by decide) ?_
    refine lv_icmp_gt (tgt := 49) hx hb dX8_shutsIn_17 (by decide) (fun c_17 => ?_) (fun c_17 => ?_)
    · skip
      obtain rfl : i = 501 := gt500 hi c_17
      refine lv_bipush (v := (-5)) hx hb dX8_shutsIn_49 (by decide) ?_
      exact en_xi 501 hx hb hr rfl hlocks hS (Or.inr ⟨rfl, rfl, hne⟩) hP dX8_shutsIn_51
    · skip
      have hi5 : i ≤ 500 := le500 (by omega) c_17
      refine lv_aload_n hx hb dX8_shutsIn_20 rfl (lv_at hl 1 rfl) ?_
      refine va_get (D := G) (ci := 8) (v := .ref (ad 1 0)) (C := RX8) (T := TX8) (N := 6) hx hb hts hin_X8 hown hK hP 0 rfl rfl 1 (by decide) k16 (fun _ h9 => h9) rfl dX8_shutsIn_21 ?_
      refine va_get (D := G) (ci := 5) (v := .ref (ad 1 3)) (C := RX5) (T := TX5) (N := 6) hx hb hts hin_X5 hown hK hP 11 rfl rfl 2 (by decide) k81 (fun _ h9 => h9) rfl dX8_shutsIn_24 ?_
      refine va_get (D := G) (ci := 1) (v := .int (((itS u v 0 (f, g, L) i).2.1) 13)) (C := RX1) (T := TX1) (N := 6) hx hb hts hin_X1 hown hK hP 14 rfl rfl 1 (by decide) k85 (fun _ h9 => h9) rfl dX8_shutsIn_27 ?_
      refine lv_if_ne (tgt := 35) hx hb dX8_shutsIn_30 (by decide) (fun c_30 => ?_) (fun c_30 => ?_)
      · skip
        refine lv_aload_n hx hb dX8_shutsIn_35 rfl (lv_at hl 1 rfl) ?_
        refine va_get (D := G) (ci := 8) (v := .ref (ad 1 0)) (C := RX8) (T := TX8) (N := 6) hx hb hts hin_X8 hown hK hP 0 rfl rfl 1 (by decide) k16 (fun _ h9 => h9) rfl dX8_shutsIn_36 ?_
        refine lv_iconst (v := 0) hx hb dX8_shutsIn_39 (by decide) ?_
        refine wr_v (ws' := [(o, LbV (ad 0 0) (ad 1 0) (ad 2 0) (ad 7 0) (ad 7 2) tk0), ((ad 0 0), StV (ad 0 1) (ad 0 2) (ad 0 3) (ad 0 4) (ad 0 5) g), ((ad 0 1), SeV (ad 0 6) (ad 0 7) (ad 0 8)), ((ad 0 2), ThV g), ((ad 0 3), DrV f g), ((ad 0 4), LgV (ad 0 9) g), ((ad 0 5), TaV g), ((ad 0 6), SpV cA u), ((ad 0 7), WeV cA u), ((ad 0 8), NuV cA v), ((ad 0 9), LcV cA L), ((ad 1 0), StV (ad 1 1) (ad 1 2) (ad 1 3) (ad 1 4) (ad 1 5) (goG u v ((itS u v 0 (f, g, L) i).1) ((itS u v 0 (f, g, L) i).2.1) 0)), ((ad 1 1), SeV (ad 1 6) (ad 1 7) (ad 1 8)), ((ad 1 2), ThV (goG u v ((itS u v 0 (f, g, L) i).1) ((itS u v 0 (f, g, L) i).2.1) 0)), ((ad 1 3), DrV (goF u v ((itS u v 0 (f, g, L) i).1) ((itS u v 0 (f, g, L) i).2.1) 0) (goG u v ((itS u v 0 (f, g, L) i).1) ((itS u v 0 (f, g, L) i).2.1) 0)), ((ad 1 4), LgV (ad 1 9) (goG u v ((itS u v 0 (f, g, L) i).1) ((itS u v 0 (f, g, L) i).2.1) 0)), ((ad 1 5), TaV (goG u v ((itS u v 0 (f, g, L) i).1) ((itS u v 0 (f, g, L) i).2.1) 0)), ((ad 1 6), SpV cA u), ((ad 1 7), WeV cA u), ((ad 1 8), NuV cA v), ((ad 1 9), LcV cA (goL u v ((itS u v 0 (f, g, L) i).2.1) ((itS u v 0 (f, g, L) i).2.2) 0))]) (rV (rest := []) ⟨hx, hb, hml, hown, hts⟩ (cX5_goOn_ok l G cA (ad 1) u v ((itS u v 0 (f, g, L) i).1) ((itS u v 0 (f, g, L) i).2.1) ((itS u v 0 (f, g, L) i).2.2) 0 (hG i (by omega))) (cwV 1 hts gX8_shutsIn_X5_goOn rfl rfl rfl mdX5_goOn ⟨Nat.le_of_ble_eq_true rfl, Nat.le_of_ble_eq_true rfl⟩) hE (hP.sub (ws' := [((ad 1 0), StV (ad 1 1) (ad 1 2) (ad 1 3) (ad 1 4) (ad 1 5) ((itS u v 0 (f, g, L) i).2.1)), ((ad 1 1), SeV (ad 1 6) (ad 1 7) (ad 1 8)), ((ad 1 2), ThV ((itS u v 0 (f, g, L) i).2.1)), ((ad 1 3), DrV ((itS u v 0 (f, g, L) i).1) ((itS u v 0 (f, g, L) i).2.1)), ((ad 1 4), LgV (ad 1 9) ((itS u v 0 (f, g, L) i).2.1)), ((ad 1 5), TaV ((itS u v 0 (f, g, L) i).2.1)), ((ad 1 6), SpV cA u), ((ad 1 7), WeV cA u), ((ad 1 8), NuV cA v), ((ad 1 9), LcV cA ((itS u v 0 (f, g, L) i).2.2))]) [11, 12, 13, 14, 15, 16, 17, 18, 19, 20] rfl) (hD.sub (ws' := [((ad 1 0), StV (ad 1 1) (ad 1 2) (ad 1 3) (ad 1 4) (ad 1 5) ((itS u v 0 (f, g, L) i).2.1)), ((ad 1 1), SeV (ad 1 6) (ad 1 7) (ad 1 8)), ((ad 1 2), ThV ((itS u v 0 (f, g, L) i).2.1)), ((ad 1 3), DrV ((itS u v 0 (f, g, L) i).1) ((itS u v 0 (f, g, L) i).2.1)), ((ad 1 4), LgV (ad 1 9) ((itS u v 0 (f, g, L) i).2.1)), ((ad 1 5), TaV ((itS u v 0 (f, g, L) i).2.1)), ((ad 1 6), SpV cA u), ((ad 1 7), WeV cA u), ((ad 1 8), NuV cA v), ((ad 1 9), LcV cA ((itS u v 0 (f, g, L) i).2.2))]) [11, 12, 13, 14, 15, 16, 17, 18, 19, 20] (by decide) rfl) (q0 := 0) (ci := 5) rfl rfl rfl hl rfl (Nat.le_of_ble_eq_true rfl) dX8_shutsIn_40 ⟨Nat.le_of_ble_eq_true rfl, Nat.le_of_ble_eq_true rfl⟩) hS hP hD [11, 12, 13, 14, 15, 16, 17, 18, 19, 20] rfl rfl [0, 1, 2, 3, 4, 5, 6, 7, 8, 9, 10] [(o, LbV (ad 0 0) (ad 1 0) (ad 2 0) (ad 7 0) (ad 7 2) tk0), ((ad 0 0), StV (ad 0 1) (ad 0 2) (ad 0 3) (ad 0 4) (ad 0 5) g), ((ad 0 1), SeV (ad 0 6) (ad 0 7) (ad 0 8)), ((ad 0 2), ThV g), ((ad 0 3), DrV f g), ((ad 0 4), LgV (ad 0 9) g), ((ad 0 5), TaV g), ((ad 0 6), SpV cA u), ((ad 0 7), WeV cA u), ((ad 0 8), NuV cA v), ((ad 0 9), LcV cA L)] rfl rfl rfl rfl (fun H locs hP hD hS => ?_)
        refine lv_iinc (v := ((nI i) + 1)) (lv' := [(1, .int ((nI i) + 1)), (0, .ref o)]) hx hb dX8_shutsIn_43 hl (k := 0) rfl rfl (by decide) rfl (fun ls hl => ?_)
        refine lv_goto (tgt := 13) hx hb dX8_shutsIn_46 (by decide) ?_
        replace hl : lv_has ls 2 [(1, .int (nI (i + 1))), (0, .ref o)] := by rw [← nI_1]; exact hl
        exact ih (i + 1) _ _ _ (by omega) (by omega) (sh_step hne c_30) hP hD hS (lv_sub hl [0, 1] rfl)
      · skip
        refine lv_iload_n hx hb dX8_shutsIn_33 rfl (lv_at hl 0 rfl) ?_
        exact en_xi i hx hb hr rfl hlocks hS (Or.inl ⟨hi5, rfl, c_30, hne⟩) hP dX8_shutsIn_34
