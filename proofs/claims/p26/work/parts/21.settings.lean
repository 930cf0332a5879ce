/-! Settings, the two statics: their contracts (by wip/p26/settings.py) -/
set_option maxHeartbeats 4000000 in
set_option maxRecDepth 100000 in
/-- notANumber() -/
theorem cX8_notANumber_ok (l : Launch) (G : va_G) (cA : Nat → ClassId)  : Rf l yX8_notANumber wsX8_notANumber ({ frames := 0, cells := 0, slots := 0, locals := 0 } : Room) G cA [] [] (fun r => r = nanF) := by
  refine ofW2 (cc := cX8_notANumber) (maxL := 0) (ret := (some .float)) (own := RX8) (by decide) rfl rfl (Nat.le_of_ble_eq_true rfl) rfl ?_
  intro p e s m below meth c ls hx hb hml hr hts hown hlocks hv hl
  obtain ⟨hP, hE, hD0⟩ := hv
  have hK := hE.1
  have hD := hD0
  generalize hH0 : s.heap = H at hP ⊢
  have hS : va_S (fun _ => False) s.heap H [] := hH0 ▸ va_S.rf
  generalize ([] : List Loc) = locs at hS ⊢
  clear hH0 hD0
  replace hl : lv_has ls 0 [] := hl
  refine lv_ldcf hx hb hown (hts (.constantFloat RX8 245 (2143289344)) (by decide +kernel)) dX8_notANumber_0 ?_
  exact en_rf hx hb hr hlocks hS rfl dX8_notANumber_2
set_option maxHeartbeats 4000000 in
set_option maxRecDepth 100000 in
/-- oneIf(condition) -/
theorem cX8_oneIf_ok (l : Launch) (G : va_G) (cA : Nat → ClassId) (x0 : Int32) : Ri l yX8_oneIf wsX8_oneIf ({ frames := 0, cells := 0, slots := 0, locals := 0 } : Room) G cA [.int x0] [] (fun r => r = oneF x0) := by
  refine ofW2 (cc := cX8_oneIf) (maxL := 1) (ret := (some .int)) (own := RX8) (by decide) rfl rfl (Nat.le_of_ble_eq_true rfl) rfl ?_
  intro p e s m below meth c ls hx hb hml hr hts hown hlocks hv hl
  obtain ⟨hP, hE, hD0⟩ := hv
  have hK := hE.1
  have hD := hD0
  generalize hH0 : s.heap = H at hP ⊢
  have hS : va_S (fun _ => False) s.heap H [] := hH0 ▸ va_S.rf
  generalize ([] : List Loc) = locs at hS ⊢
  clear hH0 hD0
  replace hl : lv_has ls 1 [(0, .int x0)] := hl
  refine lv_iload_n hx hb dX8_oneIf_0 rfl (lv_at hl 0 rfl) ?_
  refine lv_if_eq (tgt := 8) hx hb dX8_oneIf_1 (by decide) (fun c_1 => ?_) (fun c_1 => ?_)
  · skip
    refine lv_iconst (v := 0) hx hb dX8_oneIf_8 (by decide) ?_
    exact en_ri hx hb hr rfl hlocks hS (by first | rfl | (simp only [oneF, if_pos c_1]; done) | (simp only [oneF, if_pos c_1]; rfl) | (simp only [oneF, if_pos c_1]; decide)) dX8_oneIf_9
  · skip
    refine lv_iconst (v := 1) hx hb dX8_oneIf_4 (by decide) ?_
    refine lv_goto (tgt := 9) hx hb dX8_oneIf_5 (by decide) ?_
    exact en_ri hx hb hr rfl hlocks hS (by first | rfl | (simp only [oneF, if_neg c_1]; done) | (simp only [oneF, if_neg c_1]; rfl) | (simp only [oneF, if_neg c_1]; decide)) dX8_oneIf_9
set_option maxHeartbeats 4000000 in
set_option maxRecDepth 100000 in
/-- Settings.speedFor(which) -/
theorem cX4_speedFor_ok (l : Launch) (G : va_G) (cA : Nat → ClassId) (h0 r1 r2 r3 : Nat) (u : FF)  (w0 : Int32) : Rf l yX4_speedFor wsX4_speedFor ({ frames := 1, cells := 0, slots := 0, locals := 19 } : Room) G cA [.ref h0, .int w0] [(h0, SeV r1 r2 r3), (r1, SpV cA u)] (fun r => r = spF u w0) := by
  refine ofW2 (cc := cX4_speedFor) (maxL := 2) (ret := (some .float)) (own := RX4) (by decide) rfl rfl (Nat.le_of_ble_eq_true rfl) rfl ?_
  intro p e s m below meth c ls hx hb hml hr hts hown hlocks hv hl
  obtain ⟨hP, hE, hD0⟩ := hv
  have hK := hE.1
  have hD := hD0
  generalize hH0 : s.heap = H at hP ⊢
  have hS : va_S (fun _ => False) s.heap H [] := hH0 ▸ va_S.rf
  generalize ([] : List Loc) = locs at hS ⊢
  clear hH0 hD0
  replace hl : lv_has ls 2 [(0, .ref h0), (1, .int w0)] := hl
  have hin_X4 : ∀ q ∈ u_ws RX4 TX4 3, q ∈ wsX4_speedFor := by decide +kernel
  have k11 := hts (.fieldLink RX4 11 "LiftBeams$Settings" "speeds" "[F") (by decide +kernel)
  refine lv_iload_n hx hb dX4_speedFor_0 rfl (lv_at hl 1 rfl) ?_
  refine lv_if_lt (tgt := 13) hx hb dX4_speedFor_1 (by decide) (fun c_1 => ?_) (fun c_1 => ?_)
  · skip
    refine rd_f (rSN (rest := []) ⟨hx, hb, hml, hown, hts⟩ (cX8_notANumber_ok l G cA) ⟨va_cnB 0 hts gX4_speedFor_X8_notANumber_n24 rfl rfl rfl hE.2.1 (hts (.initialized RX8) (by decide +kernel)) mdX8_notANumber.2 ⟨Nat.le_of_ble_eq_true rfl, Nat.le_of_ble_eq_true rfl⟩, hts (.static yX8_notANumber) (by decide +kernel), trivial⟩ hE (hP.sub (ws' := []) [] rfl) (hD.sub (ws' := []) [] (by decide) rfl) rfl hl rfl (Nat.le_of_ble_eq_true rfl) dX4_speedFor_13 ⟨Nat.le_of_ble_eq_true rfl, Nat.le_of_ble_eq_true rfl⟩) hS hP (fun r_13 H locs hr_13 hP hS => ?_)
    subst hr_13
    refine lv_goto (tgt := 25) hx hb dX4_speedFor_16 (by decide) ?_
    exact en_rf hx hb hr hlocks hS (by first | rfl | (simp only [spF, if_pos c_1]; done) | (simp only [spF, if_pos c_1]; rfl) | (simp only [spF, if_pos c_1]; decide)) dX4_speedFor_25
  · skip
    refine lv_iload_n hx hb dX4_speedFor_4 rfl (lv_at hl 1 rfl) ?_
    refine lv_aload_n hx hb dX4_speedFor_5 rfl (lv_at hl 0 rfl) ?_
    refine va_get (D := G) (ci := 4) (v := .ref r1) (C := RX4) (T := TX4) (N := 3) hx hb hts hin_X4 hown hK hP 0 rfl rfl 0 (by decide) k11 (fun _ h9 => h9) rfl dX4_speedFor_6 ?_
    refine va_alen (v := 3) hx hb hK hP 1 0 rfl rfl rfl dX4_speedFor_9 ?_
    refine lv_icmp_lt (tgt := 19) hx hb dX4_speedFor_10 (by decide) (fun c_10 => ?_) (fun c_10 => ?_)
    · skip
      refine lv_aload_n hx hb dX4_speedFor_19 rfl (lv_at hl 0 rfl) ?_
      refine va_get (D := G) (ci := 4) (v := .ref r1) (C := RX4) (T := TX4) (N := 3) hx hb hts hin_X4 hown hK hP 0 rfl rfl 0 (by decide) k11 (fun _ h9 => h9) rfl dX4_speedFor_20 ?_
      refine lv_iload_n hx hb dX4_speedFor_23 rfl (lv_at hl 1 rfl) ?_
      refine va_fald hx hb hK hP 1 0 rfl rfl (in_lt (by decide) c_1 c_10) dX4_speedFor_24 ?_
      refine W.eq (g2 := F0 m 25 ls [.float (u (w0.toNatClampNeg))]) rfl ?_
      exact en_rf hx hb hr hlocks hS (by first | rfl | (simp only [spF, if_neg c_1, if_pos c_10]; done) | (simp only [spF, if_neg c_1, if_pos c_10]; rfl) | (simp only [spF, if_neg c_1, if_pos c_10]; decide)) dX4_speedFor_25
    · skip
      refine rd_f (rSN (rest := []) ⟨hx, hb, hml, hown, hts⟩ (cX8_notANumber_ok l G cA) ⟨va_cnB 0 hts gX4_speedFor_X8_notANumber_n24 rfl rfl rfl hE.2.1 (hts (.initialized RX8) (by decide +kernel)) mdX8_notANumber.2 ⟨Nat.le_of_ble_eq_true rfl, Nat.le_of_ble_eq_true rfl⟩, hts (.static yX8_notANumber) (by decide +kernel), trivial⟩ hE (hP.sub (ws' := []) [] rfl) (hD.sub (ws' := []) [] (by decide) rfl) rfl hl rfl (Nat.le_of_ble_eq_true rfl) dX4_speedFor_13 ⟨Nat.le_of_ble_eq_true rfl, Nat.le_of_ble_eq_true rfl⟩) hS hP (fun r_13_1 H locs hr_13_1 hP hS => ?_)
      subst hr_13_1
      refine lv_goto (tgt := 25) hx hb dX4_speedFor_16 (by decide) ?_
      exact en_rf hx hb hr hlocks hS (by first | rfl | (simp only [spF, if_neg c_1, if_neg c_10]; done) | (simp only [spF, if_neg c_1, if_neg c_10]; rfl) | (simp only [spF, if_neg c_1, if_neg c_10]; decide)) dX4_speedFor_25
set_option maxHeartbeats 4000000 in
set_option maxRecDepth 100000 in
/-- Settings.weightOf(kind) -/
theorem cX4_weightOf_ok (l : Launch) (G : va_G) (cA : Nat → ClassId) (h0 r1 r2 r3 : Nat) (u : FF)  (w0 : Int32) : Rf l yX4_weightOf wsX4_weightOf ({ frames := 1, cells := 0, slots := 0, locals := 19 } : Room) G cA [.ref h0, .int w0] [(h0, SeV r1 r2 r3), (r2, WeV cA u)] (fun r => r = weF u w0) := by
  refine ofW2 (cc := cX4_weightOf) (maxL := 2) (ret := (some .float)) (own := RX4) (by decide) rfl rfl (Nat.le_of_ble_eq_true rfl) rfl ?_
  intro p e s m below meth c ls hx hb hml hr hts hown hlocks hv hl
  obtain ⟨hP, hE, hD0⟩ := hv
  have hK := hE.1
  have hD := hD0
  generalize hH0 : s.heap = H at hP ⊢
  have hS : va_S (fun _ => False) s.heap H [] := hH0 ▸ va_S.rf
  generalize ([] : List Loc) = locs at hS ⊢
  clear hH0 hD0
  replace hl : lv_has ls 2 [(0, .ref h0), (1, .int w0)] := hl
  have hin_X4 : ∀ q ∈ u_ws RX4 TX4 3, q ∈ wsX4_weightOf := by decide +kernel
  have k17 := hts (.fieldLink RX4 17 "LiftBeams$Settings" "weights" "[F") (by decide +kernel)
  refine lv_iload_n hx hb dX4_weightOf_0 rfl (lv_at hl 1 rfl) ?_
  refine lv_if_lt (tgt := 13) hx hb dX4_weightOf_1 (by decide) (fun c_1 => ?_) (fun c_1 => ?_)
  · skip
    refine rd_f (rSN (rest := []) ⟨hx, hb, hml, hown, hts⟩ (cX8_notANumber_ok l G cA) ⟨va_cnB 0 hts gX4_weightOf_X8_notANumber_n24 rfl rfl rfl hE.2.1 (hts (.initialized RX8) (by decide +kernel)) mdX8_notANumber.2 ⟨Nat.le_of_ble_eq_true rfl, Nat.le_of_ble_eq_true rfl⟩, hts (.static yX8_notANumber) (by decide +kernel), trivial⟩ hE (hP.sub (ws' := []) [] rfl) (hD.sub (ws' := []) [] (by decide) rfl) rfl hl rfl (Nat.le_of_ble_eq_true rfl) dX4_weightOf_13 ⟨Nat.le_of_ble_eq_true rfl, Nat.le_of_ble_eq_true rfl⟩) hS hP (fun r_13 H locs hr_13 hP hS => ?_)
    subst hr_13
    refine lv_goto (tgt := 25) hx hb dX4_weightOf_16 (by decide) ?_
    exact en_rf hx hb hr hlocks hS (by first | rfl | (simp only [weF, if_pos c_1]; done) | (simp only [weF, if_pos c_1]; rfl) | (simp only [weF, if_pos c_1]; decide)) dX4_weightOf_25
  · skip
    refine lv_iload_n hx hb dX4_weightOf_4 rfl (lv_at hl 1 rfl) ?_
    refine lv_aload_n hx hb dX4_weightOf_5 rfl (lv_at hl 0 rfl) ?_
    refine va_get (D := G) (ci := 4) (v := .ref r2) (C := RX4) (T := TX4) (N := 3) hx hb hts hin_X4 hown hK hP 0 rfl rfl 1 (by decide) k17 (fun _ h9 => h9) rfl dX4_weightOf_6 ?_
    refine va_alen (v := 4) hx hb hK hP 1 0 rfl rfl rfl dX4_weightOf_9 ?_
    refine lv_icmp_lt (tgt := 19) hx hb dX4_weightOf_10 (by decide) (fun c_10 => ?_) (fun c_10 => ?_)
    · skip
      refine lv_aload_n hx hb dX4_weightOf_19 rfl (lv_at hl 0 rfl) ?_
      refine va_get (D := G) (ci := 4) (v := .ref r2) (C := RX4) (T := TX4) (N := 3) hx hb hts hin_X4 hown hK hP 0 rfl rfl 1 (by decide) k17 (fun _ h9 => h9) rfl dX4_weightOf_20 ?_
      refine lv_iload_n hx hb dX4_weightOf_23 rfl (lv_at hl 1 rfl) ?_
      refine va_fald hx hb hK hP 1 0 rfl rfl (in_lt (by decide) c_1 c_10) dX4_weightOf_24 ?_
      refine W.eq (g2 := F0 m 25 ls [.float (u (3 + w0.toNatClampNeg))]) rfl ?_
      exact en_rf hx hb hr hlocks hS (by first | rfl | (simp only [weF, if_neg c_1, if_pos c_10]; done) | (simp only [weF, if_neg c_1, if_pos c_10]; rfl) | (simp only [weF, if_neg c_1, if_pos c_10]; decide)) dX4_weightOf_25
    · skip
      refine rd_f (rSN (rest := []) ⟨hx, hb, hml, hown, hts⟩ (cX8_notANumber_ok l G cA) ⟨va_cnB 0 hts gX4_weightOf_X8_notANumber_n24 rfl rfl rfl hE.2.1 (hts (.initialized RX8) (by decide +kernel)) mdX8_notANumber.2 ⟨Nat.le_of_ble_eq_true rfl, Nat.le_of_ble_eq_true rfl⟩, hts (.static yX8_notANumber) (by decide +kernel), trivial⟩ hE (hP.sub (ws' := []) [] rfl) (hD.sub (ws' := []) [] (by decide) rfl) rfl hl rfl (Nat.le_of_ble_eq_true rfl) dX4_weightOf_13 ⟨Nat.le_of_ble_eq_true rfl, Nat.le_of_ble_eq_true rfl⟩) hS hP (fun r_13_1 H locs hr_13_1 hP hS => ?_)
      subst hr_13_1
      refine lv_goto (tgt := 25) hx hb dX4_weightOf_16 (by decide) ?_
      exact en_rf hx hb hr hlocks hS (by first | rfl | (simp only [weF, if_neg c_1, if_neg c_10]; done) | (simp only [weF, if_neg c_1, if_neg c_10]; rfl) | (simp only [weF, if_neg c_1, if_neg c_10]; decide)) dX4_weightOf_25
set_option maxHeartbeats 4000000 in
set_option maxRecDepth 100000 in
/-- Settings.numberOf(which) -/
theorem cX4_numberOf_ok (l : Launch) (G : va_G) (cA : Nat → ClassId) (h0 r1 r2 r3 : Nat)  (v : GG) (w0 : Int32) : Ri l yX4_numberOf wsX4_numberOf ({ frames := 0, cells := 0, slots := 0, locals := 0 } : Room) G cA [.ref h0, .int w0] [(h0, SeV r1 r2 r3), (r3, NuV cA v)] (fun r => r = nuF v w0) := by
  refine ofW2 (cc := cX4_numberOf) (maxL := 2) (ret := (some .int)) (own := RX4) (by decide) rfl rfl (Nat.le_of_ble_eq_true rfl) rfl ?_
  intro p e s m below meth c ls hx hb hml hr hts hown hlocks hv hl
  obtain ⟨hP, hE, hD0⟩ := hv
  have hK := hE.1
  have hD := hD0
  generalize hH0 : s.heap = H at hP ⊢
  have hS : va_S (fun _ => False) s.heap H [] := hH0 ▸ va_S.rf
  generalize ([] : List Loc) = locs at hS ⊢
  clear hH0 hD0
  replace hl : lv_has ls 2 [(0, .ref h0), (1, .int w0)] := hl
  have hin_X4 : ∀ q ∈ u_ws RX4 TX4 3, q ∈ wsX4_numberOf := by decide +kernel
  have k20 := hts (.fieldLink RX4 20 "LiftBeams$Settings" "numbers" "[I") (by decide +kernel)
  refine lv_iload_n hx hb dX4_numberOf_0 rfl (lv_at hl 1 rfl) ?_
  refine lv_if_lt (tgt := 13) hx hb dX4_numberOf_1 (by decide) (fun c_1 => ?_) (fun c_1 => ?_)
  · skip
    refine lv_iconst (v := (-1)) hx hb dX4_numberOf_13 (by decide) ?_
    refine lv_goto (tgt := 23) hx hb dX4_numberOf_14 (by decide) ?_
    exact en_ri hx hb hr rfl hlocks hS (by first | rfl | (simp only [nuF, if_pos c_1]; done) | (simp only [nuF, if_pos c_1]; rfl) | (simp only [nuF, if_pos c_1]; decide)) dX4_numberOf_23
  · skip
    refine lv_iload_n hx hb dX4_numberOf_4 rfl (lv_at hl 1 rfl) ?_
    refine lv_aload_n hx hb dX4_numberOf_5 rfl (lv_at hl 0 rfl) ?_
    refine va_get (D := G) (ci := 4) (v := .ref r3) (C := RX4) (T := TX4) (N := 3) hx hb hts hin_X4 hown hK hP 0 rfl rfl 2 (by decide) k20 (fun _ h9 => h9) rfl dX4_numberOf_6 ?_
    refine va_alen (v := 5) hx hb hK hP 1 1 rfl rfl rfl dX4_numberOf_9 ?_
    refine lv_icmp_lt (tgt := 17) hx hb dX4_numberOf_10 (by decide) (fun c_10 => ?_) (fun c_10 => ?_)
    · skip
      refine lv_aload_n hx hb dX4_numberOf_17 rfl (lv_at hl 0 rfl) ?_
      refine va_get (D := G) (ci := 4) (v := .ref r3) (C := RX4) (T := TX4) (N := 3) hx hb hts hin_X4 hown hK hP 0 rfl rfl 2 (by decide) k20 (fun _ h9 => h9) rfl dX4_numberOf_18 ?_
      refine lv_iload_n hx hb dX4_numberOf_21 rfl (lv_at hl 1 rfl) ?_
      refine va_iald hx hb hK hP 1 1 rfl rfl (in_lt (by decide) c_1 c_10) dX4_numberOf_22 ?_
      refine W.eq (g2 := F0 m 23 ls [.int (v (w0.toNatClampNeg))]) rfl ?_
      exact en_ri hx hb hr rfl hlocks hS (by first | rfl | (simp only [nuF, if_neg c_1, if_pos c_10]; done) | (simp only [nuF, if_neg c_1, if_pos c_10]; rfl) | (simp only [nuF, if_neg c_1, if_pos c_10]; decide)) dX4_numberOf_23
    · skip
      refine lv_iconst (v := (-1)) hx hb dX4_numberOf_13 (by decide) ?_
      refine lv_goto (tgt := 23) hx hb dX4_numberOf_14 (by decide) ?_
      exact en_ri hx hb hr rfl hlocks hS (by first | rfl | (simp only [nuF, if_neg c_1, if_neg c_10]; done) | (simp only [nuF, if_neg c_1, if_neg c_10]; rfl) | (simp only [nuF, if_neg c_1, if_neg c_10]; decide)) dX4_numberOf_23
set_option maxHeartbeats 4000000 in
set_option maxRecDepth 100000 in
/-- Settings.copyFrom(other) -/
theorem cX4_copyFrom_ok (l : Launch) (G : va_G) (cA : Nat → ClassId) (h0 r1 r2 r3 h1 q1 q2 q3 : Nat) (u u2 : FF) (v v2 : GG) : Wv l yX4_copyFrom wsX4_copyFrom ({ frames := 0, cells := 0, slots := 0, locals := 0 } : Room) G cA [.ref h0, .ref h1] [(h0, SeV r1 r2 r3), (r1, SpV cA u), (r2, WeV cA u), (r3, NuV cA v), (h1, SeV q1 q2 q3), (q1, SpV cA u2), (q2, WeV cA u2), (q3, NuV cA v2)] [(h0, SeV r1 r2 r3), (r1, SpV cA u2), (r2, WeV cA u2), (r3, NuV cA v2), (h1, SeV q1 q2 q3), (q1, SpV cA u2), (q2, WeV cA u2), (q3, NuV cA v2)] := by
  refine ofW2 (cc := cX4_copyFrom) (maxL := 3) (ret := none) (own := RX4) (by decide) rfl rfl (Nat.le_of_ble_eq_true rfl) rfl ?_
  intro p e s m below meth c ls hx hb hml hr hts hown hlocks hv hl
  obtain ⟨hP, hE, hD0⟩ := hv
  have hK := hE.1
  have hD := dself hD0
  generalize hH0 : s.heap = H at hP ⊢
  have hS : va_S (inW [(h0, SeV r1 r2 r3), (r1, SpV cA u), (r2, WeV cA u), (r3, NuV cA v), (h1, SeV q1 q2 q3), (q1, SpV cA u2), (q2, WeV cA u2), (q3, NuV cA v2)]) s.heap H [] := hH0 ▸ va_S.rf
  generalize ([] : List Loc) = locs at hS ⊢
  clear hH0 hD0
  replace hl : lv_has ls 3 [(0, .ref h0), (1, .ref h1)] := hl
  have hin_X4 : ∀ q ∈ u_ws RX4 TX4 3, q ∈ wsX4_copyFrom := by decide +kernel
  have k11 := hts (.fieldLink RX4 11 "LiftBeams$Settings" "speeds" "[F") (by decide +kernel)
  have k17 := hts (.fieldLink RX4 17 "LiftBeams$Settings" "weights" "[F") (by decide +kernel)
  have k20 := hts (.fieldLink RX4 20 "LiftBeams$Settings" "numbers" "[I") (by decide +kernel)
  refine lv_iconst (v := 0) hx hb dX4_copyFrom_0 (by decide) ?_
  refine lv_istore_n (lv' := [(2, .int 0), (0, .ref h0), (1, .ref h1)]) hx hb dX4_copyFrom_1 rfl hl (by decide) rfl (fun ls hl => ?_)
  obtain ⟨Dd, hDd0⟩ : ∃ Dd : Nat → UInt32, Dd = (fun k => u k) := ⟨_, rfl⟩
  replace hP : va_P G vwCl [(h0, SeV r1 r2 r3), (r1, .inl (cA 0, 3, .inr (.inr (.inl Dd)))), (r2, WeV cA u), (r3, NuV cA v), (h1, SeV q1 q2 q3), (q1, SpV cA u2), (q2, WeV cA u2), (q3, NuV cA v2)] H := by rw [hDd0]; exact hP
  replace hD : va_D (inW [(h0, SeV r1 r2 r3), (r1, SpV cA u), (r2, WeV cA u), (r3, NuV cA v), (h1, SeV q1 q2 q3), (q1, SpV cA u2), (q2, WeV cA u2), (q3, NuV cA v2)]) [(h0, SeV r1 r2 r3), (r1, .inl (cA 0, 3, .inr (.inr (.inl Dd)))), (r2, WeV cA u), (r3, NuV cA v), (h1, SeV q1 q2 q3), (q1, SpV cA u2), (q2, WeV cA u2), (q3, NuV cA v2)] := by rw [hDd0]; exact hD
  clear hDd0
  obtain ⟨i, hi0⟩ : ∃ i : Nat, i = 0 := ⟨_, rfl⟩
  replace hl : lv_has ls 3 [(2, .int (nI i)), (0, .ref h0), (1, .ref h1)] := by rw [hi0]; exact hl
  have hDd : ∀ k, k < i → Dd k = (fun k => u2 k) k := fun k h9 => absurd h9 (by omega)
  obtain ⟨n, hn⟩ : ∃ n : Nat, 3 < i + n := ⟨4, by omega⟩
  have hi : i ≤ 3 := by omega
  clear hi0
  revert hl
  revert hS
  revert hD
  revert hP
  revert hDd
  revert hi
  revert hn
  revert ls
  revert locs
  revert H
  revert Dd
  revert i
  induction n with
  | zero => intro i Dd H locs ls hn hi; exact absurd hn (by omega)
  | succ n ih =>
    intro i Dd H locs ls hn hi hDd hP hD hS hl
    refine lv_iload_n hx hb dX4_copyFrom_2 rfl (lv_at hl 0 rfl) ?_
    refine lv_aload_n hx hb dX4_copyFrom_3 rfl (lv_at hl 1 rfl) ?_
    refine va_get (D := G) (ci := 4) (v := .ref r1) (C := RX4) (T := TX4) (N := 3) hx hb hts hin_X4 hown hK hP 0 rfl rfl 0 (by decide) k11 (fun _ h9 => h9) rfl dX4_copyFrom_4 ?_
    refine va_alen (v := 3) hx hb hK hP 1 0 rfl rfl rfl dX4_copyFrom_7 ?_
    refine lv_icmp_ge (tgt := 38) hx hb dX4_copyFrom_8 (by decide) (fun c_8 => ?_) (fun c_8 => ?_)
    · skip
      obtain rfl : i = 3 := eq_of_le hi (by decide) c_8
      clear ih hn
      replace hP : va_P G vwCl [(h0, SeV r1 r2 r3), (r1, SpV cA u2), (r2, WeV cA u), (r3, NuV cA v), (h1, SeV q1 q2 q3), (q1, SpV cA u2), (q2, WeV cA u2), (q3, NuV cA v2)] H := va_P_setA hP 1 rfl (vp_arrF hDd) rfl
      replace hD : va_D (inW [(h0, SeV r1 r2 r3), (r1, SpV cA u), (r2, WeV cA u), (r3, NuV cA v), (h1, SeV q1 q2 q3), (q1, SpV cA u2), (q2, WeV cA u2), (q3, NuV cA v2)]) [(h0, SeV r1 r2 r3), (r1, SpV cA u2), (r2, WeV cA u), (r3, NuV cA v), (h1, SeV q1 q2 q3), (q1, SpV cA u2), (q2, WeV cA u2), (q3, NuV cA v2)] := va_D_setA hD 1 rfl rfl
      clear hDd
      refine lv_iconst (v := 0) hx hb dX4_copyFrom_38 (by decide) ?_
      refine lv_istore_n (lv' := [(2, .int 0), (0, .ref h0), (1, .ref h1)]) hx hb dX4_copyFrom_39 rfl hl (by decide) rfl (fun ls hl => ?_)
      obtain ⟨Dd, hDd0⟩ : ∃ Dd : Nat → UInt32, Dd = (fun k => u (3 + k)) := ⟨_, rfl⟩
      replace hP : va_P G vwCl [(h0, SeV r1 r2 r3), (r1, SpV cA u2), (r2, .inl (cA 0, 4, .inr (.inr (.inl Dd)))), (r3, NuV cA v), (h1, SeV q1 q2 q3), (q1, SpV cA u2), (q2, WeV cA u2), (q3, NuV cA v2)] H := by rw [hDd0]; exact hP
      replace hD : va_D (inW [(h0, SeV r1 r2 r3), (r1, SpV cA u), (r2, WeV cA u), (r3, NuV cA v), (h1, SeV q1 q2 q3), (q1, SpV cA u2), (q2, WeV cA u2), (q3, NuV cA v2)]) [(h0, SeV r1 r2 r3), (r1, SpV cA u2), (r2, .inl (cA 0, 4, .inr (.inr (.inl Dd)))), (r3, NuV cA v), (h1, SeV q1 q2 q3), (q1, SpV cA u2), (q2, WeV cA u2), (q3, NuV cA v2)] := by rw [hDd0]; exact hD
      clear hDd0
      obtain ⟨i, hi0⟩ : ∃ i : Nat, i = 0 := ⟨_, rfl⟩
      replace hl : lv_has ls 3 [(2, .int (nI i)), (0, .ref h0), (1, .ref h1)] := by rw [hi0]; exact hl
      have hDd : ∀ k, k < i → Dd k = (fun k => u2 (3 + k)) k := fun k h9 => absurd h9 (by omega)
      obtain ⟨n, hn⟩ : ∃ n : Nat, 4 < i + n := ⟨5, by omega⟩
      have hi : i ≤ 4 := by omega
      clear hi0
      revert hl
      revert hS
      revert hD
      revert hP
      revert hDd
      revert hi
      revert hn
      revert ls
      revert locs
      revert H
      revert Dd
      revert i
      induction n with
      | zero => intro i Dd H locs ls hn hi; exact absurd hn (by omega)
      | succ n ih =>
        intro i Dd H locs ls hn hi hDd hP hD hS hl
        refine lv_iload_n hx hb dX4_copyFrom_40 rfl (lv_at hl 0 rfl) ?_
        refine lv_aload_n hx hb dX4_copyFrom_41 rfl (lv_at hl 1 rfl) ?_
        refine va_get (D := G) (ci := 4) (v := .ref r2) (C := RX4) (T := TX4) (N := 3) hx hb hts hin_X4 hown hK hP 0 rfl rfl 1 (by decide) k17 (fun _ h9 => h9) rfl dX4_copyFrom_42 ?_
        refine va_alen (v := 4) hx hb hK hP 2 0 rfl rfl rfl dX4_copyFrom_45 ?_
        refine lv_icmp_ge (tgt := 76) hx hb dX4_copyFrom_46 (by decide) (fun c_46 => ?_) (fun c_46 => ?_)
        · skip
          obtain rfl : i = 4 := eq_of_le hi (by decide) c_46
          clear ih hn
          replace hP : va_P G vwCl [(h0, SeV r1 r2 r3), (r1, SpV cA u2), (r2, WeV cA u2), (r3, NuV cA v), (h1, SeV q1 q2 q3), (q1, SpV cA u2), (q2, WeV cA u2), (q3, NuV cA v2)] H := va_P_setA hP 2 rfl (vp_arrF hDd) rfl
          replace hD : va_D (inW [(h0, SeV r1 r2 r3), (r1, SpV cA u), (r2, WeV cA u), (r3, NuV cA v), (h1, SeV q1 q2 q3), (q1, SpV cA u2), (q2, WeV cA u2), (q3, NuV cA v2)]) [(h0, SeV r1 r2 r3), (r1, SpV cA u2), (r2, WeV cA u2), (r3, NuV cA v), (h1, SeV q1 q2 q3), (q1, SpV cA u2), (q2, WeV cA u2), (q3, NuV cA v2)] := va_D_setA hD 2 rfl rfl
          clear hDd
          refine lv_iconst (v := 0) hx hb dX4_copyFrom_76 (by decide) ?_
          refine lv_istore_n (lv' := [(2, .int 0), (0, .ref h0), (1, .ref h1)]) hx hb dX4_copyFrom_77 rfl hl (by decide) rfl (fun ls hl => ?_)
          obtain ⟨Dd, hDd0⟩ : ∃ Dd : Nat → Int32, Dd = (fun k => v k) := ⟨_, rfl⟩
          replace hP : va_P G vwCl [(h0, SeV r1 r2 r3), (r1, SpV cA u2), (r2, WeV cA u2), (r3, .inl (cA 1, 5, .inl Dd)), (h1, SeV q1 q2 q3), (q1, SpV cA u2), (q2, WeV cA u2), (q3, NuV cA v2)] H := by rw [hDd0]; exact hP
          replace hD : va_D (inW [(h0, SeV r1 r2 r3), (r1, SpV cA u), (r2, WeV cA u), (r3, NuV cA v), (h1, SeV q1 q2 q3), (q1, SpV cA u2), (q2, WeV cA u2), (q3, NuV cA v2)]) [(h0, SeV r1 r2 r3), (r1, SpV cA u2), (r2, WeV cA u2), (r3, .inl (cA 1, 5, .inl Dd)), (h1, SeV q1 q2 q3), (q1, SpV cA u2), (q2, WeV cA u2), (q3, NuV cA v2)] := by rw [hDd0]; exact hD
          clear hDd0
          obtain ⟨i, hi0⟩ : ∃ i : Nat, i = 0 := ⟨_, rfl⟩
          replace hl : lv_has ls 3 [(2, .int (nI i)), (0, .ref h0), (1, .ref h1)] := by rw [hi0]; exact hl
          have hDd : ∀ k, k < i → Dd k = (fun k => v2 k) k := fun k h9 => absurd h9 (by omega)
          obtain ⟨n, hn⟩ : ∃ n : Nat, 5 < i + n := ⟨6, by omega⟩
          have hi : i ≤ 5 := by omega
          clear hi0
          revert hl
          revert hS
          revert hD
          revert hP
          revert hDd
          revert hi
          revert hn
          revert ls
          revert locs
          revert H
          revert Dd
          revert i
          induction n with
          | zero => intro i Dd H locs ls hn hi; exact absurd hn (by omega)
          | succ n ih =>
            intro i Dd H locs ls hn hi hDd hP hD hS hl
            refine lv_iload_n hx hb dX4_copyFrom_78 rfl (lv_at hl 0 rfl) ?_
            refine lv_aload_n hx hb dX4_copyFrom_79 rfl (lv_at hl 1 rfl) ?_
            refine va_get (D := G) (ci := 4) (v := .ref r3) (C := RX4) (T := TX4) (N := 3) hx hb hts hin_X4 hown hK hP 0 rfl rfl 2 (by decide) k20 (fun _ h9 => h9) rfl dX4_copyFrom_80 ?_
            refine va_alen (v := 5) hx hb hK hP 3 1 rfl rfl rfl dX4_copyFrom_83 ?_
            refine lv_icmp_ge (tgt := 114) hx hb dX4_copyFrom_84 (by decide) (fun c_84 => ?_) (fun c_84 => ?_)
            · skip
              obtain rfl : i = 5 := eq_of_le hi (by decide) c_84
              clear ih hn
              replace hP : va_P G vwCl [(h0, SeV r1 r2 r3), (r1, SpV cA u2), (r2, WeV cA u2), (r3, NuV cA v2), (h1, SeV q1 q2 q3), (q1, SpV cA u2), (q2, WeV cA u2), (q3, NuV cA v2)] H := va_P_setA hP 3 rfl (vp_arrI hDd) rfl
              replace hD : va_D (inW [(h0, SeV r1 r2 r3), (r1, SpV cA u), (r2, WeV cA u), (r3, NuV cA v), (h1, SeV q1 q2 q3), (q1, SpV cA u2), (q2, WeV cA u2), (q3, NuV cA v2)]) [(h0, SeV r1 r2 r3), (r1, SpV cA u2), (r2, WeV cA u2), (r3, NuV cA v2), (h1, SeV q1 q2 q3), (q1, SpV cA u2), (q2, WeV cA u2), (q3, NuV cA v2)] := va_D_setA hD 3 rfl rfl
              clear hDd
              exact en_wv hx hb hr hlocks hS (by first | exact hP | (simp only [if_pos c_8, if_pos c_46, if_pos c_84]; exact hP)) dX4_copyFrom_114
            · skip
              refine lv_iload_n hx hb dX4_copyFrom_87 rfl (lv_at hl 0 rfl) ?_
              refine lv_aload_n hx hb dX4_copyFrom_88 rfl (lv_at hl 2 rfl) ?_
              refine va_get (D := G) (ci := 4) (v := .ref q3) (C := RX4) (T := TX4) (N := 3) hx hb hts hin_X4 hown hK hP 4 rfl rfl 2 (by decide) k20 (fun _ h9 => h9) rfl dX4_copyFrom_89 ?_
              refine va_alen (v := 5) hx hb hK hP 7 1 rfl rfl rfl dX4_copyFrom_92 ?_
              refine lv_icmp_ge (tgt := 114) hx hb dX4_copyFrom_93 (by decide) (fun c_93 => absurd c_93 c_84) (fun c_93 => ?_)
              refine lv_aload_n hx hb dX4_copyFrom_96 rfl (lv_at hl 1 rfl) ?_
              refine va_get (D := G) (ci := 4) (v := .ref r3) (C := RX4) (T := TX4) (N := 3) hx hb hts hin_X4 hown hK hP 0 rfl rfl 2 (by decide) k20 (fun _ h9 => h9) rfl dX4_copyFrom_97 ?_
              refine lv_iload_n hx hb dX4_copyFrom_100 rfl (lv_at hl 0 rfl) ?_
              refine lv_aload_n hx hb dX4_copyFrom_101 rfl (lv_at hl 2 rfl) ?_
              refine va_get (D := G) (ci := 4) (v := .ref q3) (C := RX4) (T := TX4) (N := 3) hx hb hts hin_X4 hown hK hP 4 rfl rfl 2 (by decide) k20 (fun _ h9 => h9) rfl dX4_copyFrom_102 ?_
              refine lv_iload_n hx hb dX4_copyFrom_105 rfl (lv_at hl 0 rfl) ?_
              refine va_iald hx hb hK hP 7 1 rfl rfl (vp_in_nI (lt_of_nle hi (by decide) c_84) (by decide)) dX4_copyFrom_106 ?_
              refine W.eq (g2 := F0 m 107 ls [.int (v2 ((nI i).toNatClampNeg)), .int (nI i), .ref r3]) rfl ?_
              refine va_iast hx hb hK hP hD hS 3 1 rfl rfl (vp_in_nI (lt_of_nle hi (by decide) c_84) (by decide)) dX4_copyFrom_107 (fun H locs hP hD hS => ?_)
              replace hP : va_P G vwCl [(h0, SeV r1 r2 r3), (r1, SpV cA u2), (r2, WeV cA u2), (r3, .inl (cA 1, 5, .inl (upd Dd (nI i).toNatClampNeg (v2 ((nI i).toNatClampNeg))))), (h1, SeV q1 q2 q3), (q1, SpV cA u2), (q2, WeV cA u2), (q3, NuV cA v2)] H := hP
              replace hD : va_D (inW [(h0, SeV r1 r2 r3), (r1, SpV cA u), (r2, WeV cA u), (r3, NuV cA v), (h1, SeV q1 q2 q3), (q1, SpV cA u2), (q2, WeV cA u2), (q3, NuV cA v2)]) [(h0, SeV r1 r2 r3), (r1, SpV cA u2), (r2, WeV cA u2), (r3, .inl (cA 1, 5, .inl (upd Dd (nI i).toNatClampNeg (v2 ((nI i).toNatClampNeg))))), (h1, SeV q1 q2 q3), (q1, SpV cA u2), (q2, WeV cA u2), (q3, NuV cA v2)] := hD
              refine lv_iinc (v := ((nI i) + 1)) (lv' := [(2, .int ((nI i) + 1)), (0, .ref h0), (1, .ref h1)]) hx hb dX4_copyFrom_108 hl (k := 0) rfl rfl (by decide) rfl (fun ls hl => ?_)
              refine lv_goto (tgt := 78) hx hb dX4_copyFrom_111 (by decide) ?_
              replace hl : lv_has ls 3 [(2, .int (nI (i + 1))), (0, .ref h0), (1, .ref h1)] := by rw [← nI_1]; exact hl
              have hlt := lt_of_nle hi (by decide) c_84
              exact ih (i + 1) _ _ _ _ (by omega) (by omega) (cp_step (nI_clamp (by omega)) hDd) hP hD hS (lv_sub hl [0, 1, 2] rfl)
        · skip
          refine lv_iload_n hx hb dX4_copyFrom_49 rfl (lv_at hl 0 rfl) ?_
          refine lv_aload_n hx hb dX4_copyFrom_50 rfl (lv_at hl 2 rfl) ?_
          refine va_get (D := G) (ci := 4) (v := .ref q2) (C := RX4) (T := TX4) (N := 3) hx hb hts hin_X4 hown hK hP 4 rfl rfl 1 (by decide) k17 (fun _ h9 => h9) rfl dX4_copyFrom_51 ?_
          refine va_alen (v := 4) hx hb hK hP 6 0 rfl rfl rfl dX4_copyFrom_54 ?_
          refine lv_icmp_ge (tgt := 76) hx hb dX4_copyFrom_55 (by decide) (fun c_55 => absurd c_55 c_46) (fun c_55 => ?_)
          refine lv_aload_n hx hb dX4_copyFrom_58 rfl (lv_at hl 1 rfl) ?_
          refine va_get (D := G) (ci := 4) (v := .ref r2) (C := RX4) (T := TX4) (N := 3) hx hb hts hin_X4 hown hK hP 0 rfl rfl 1 (by decide) k17 (fun _ h9 => h9) rfl dX4_copyFrom_59 ?_
          refine lv_iload_n hx hb dX4_copyFrom_62 rfl (lv_at hl 0 rfl) ?_
          refine lv_aload_n hx hb dX4_copyFrom_63 rfl (lv_at hl 2 rfl) ?_
          refine va_get (D := G) (ci := 4) (v := .ref q2) (C := RX4) (T := TX4) (N := 3) hx hb hts hin_X4 hown hK hP 4 rfl rfl 1 (by decide) k17 (fun _ h9 => h9) rfl dX4_copyFrom_64 ?_
          refine lv_iload_n hx hb dX4_copyFrom_67 rfl (lv_at hl 0 rfl) ?_
          refine va_fald hx hb hK hP 6 0 rfl rfl (vp_in_nI (lt_of_nle hi (by decide) c_46) (by decide)) dX4_copyFrom_68 ?_
          refine W.eq (g2 := F0 m 69 ls [.float (u2 (3 + (nI i).toNatClampNeg)), .int (nI i), .ref r2]) rfl ?_
          refine va_fast hx hb hK hP hD hS 2 0 rfl rfl (vp_in_nI (lt_of_nle hi (by decide) c_46) (by decide)) dX4_copyFrom_69 (fun H locs hP hD hS => ?_)
          replace hP : va_P G vwCl [(h0, SeV r1 r2 r3), (r1, SpV cA u2), (r2, .inl (cA 0, 4, .inr (.inr (.inl (vf_upd Dd (nI i).toNatClampNeg (u2 (3 + (nI i).toNatClampNeg))))))), (r3, NuV cA v), (h1, SeV q1 q2 q3), (q1, SpV cA u2), (q2, WeV cA u2), (q3, NuV cA v2)] H := hP
          replace hD : va_D (inW [(h0, SeV r1 r2 r3), (r1, SpV cA u), (r2, WeV cA u), (r3, NuV cA v), (h1, SeV q1 q2 q3), (q1, SpV cA u2), (q2, WeV cA u2), (q3, NuV cA v2)]) [(h0, SeV r1 r2 r3), (r1, SpV cA u2), (r2, .inl (cA 0, 4, .inr (.inr (.inl (vf_upd Dd (nI i).toNatClampNeg (u2 (3 + (nI i).toNatClampNeg))))))), (r3, NuV cA v), (h1, SeV q1 q2 q3), (q1, SpV cA u2), (q2, WeV cA u2), (q3, NuV cA v2)] := hD
          refine lv_iinc (v := ((nI i) + 1)) (lv' := [(2, .int ((nI i) + 1)), (0, .ref h0), (1, .ref h1)]) hx hb dX4_copyFrom_70 hl (k := 0) rfl rfl (by decide) rfl (fun ls hl => ?_)
          refine lv_goto (tgt := 40) hx hb dX4_copyFrom_73 (by decide) ?_
          replace hl : lv_has ls 3 [(2, .int (nI (i + 1))), (0, .ref h0), (1, .ref h1)] := by rw [← nI_1]; exact hl
          have hlt := lt_of_nle hi (by decide) c_46
          exact ih (i + 1) _ _ _ _ (by omega) (by omega) (cp_step (nI_clamp (by omega)) hDd) hP hD hS (lv_sub hl [0, 1, 2] rfl)
    · skip
      refine lv_iload_n hx hb dX4_copyFrom_11 rfl (lv_at hl 0 rfl) ?_
      refine lv_aload_n hx hb dX4_copyFrom_12 rfl (lv_at hl 2 rfl) ?_
      refine va_get (D := G) (ci := 4) (v := .ref q1) (C := RX4) (T := TX4) (N := 3) hx hb hts hin_X4 hown hK hP 4 rfl rfl 0 (by decide) k11 (fun _ h9 => h9) rfl dX4_copyFrom_13 ?_
      refine va_alen (v := 3) hx hb hK hP 5 0 rfl rfl rfl dX4_copyFrom_16 ?_
      refine lv_icmp_ge (tgt := 38) hx hb dX4_copyFrom_17 (by decide) (fun c_17 => absurd c_17 c_8) (fun c_17 => ?_)
      refine lv_aload_n hx hb dX4_copyFrom_20 rfl (lv_at hl 1 rfl) ?_
      refine va_get (D := G) (ci := 4) (v := .ref r1) (C := RX4) (T := TX4) (N := 3) hx hb hts hin_X4 hown hK hP 0 rfl rfl 0 (by decide) k11 (fun _ h9 => h9) rfl dX4_copyFrom_21 ?_
      refine lv_iload_n hx hb dX4_copyFrom_24 rfl (lv_at hl 0 rfl) ?_
      refine lv_aload_n hx hb dX4_copyFrom_25 rfl (lv_at hl 2 rfl) ?_
      refine va_get (D := G) (ci := 4) (v := .ref q1) (C := RX4) (T := TX4) (N := 3) hx hb hts hin_X4 hown hK hP 4 rfl rfl 0 (by decide) k11 (fun _ h9 => h9) rfl dX4_copyFrom_26 ?_
      refine lv_iload_n hx hb dX4_copyFrom_29 rfl (lv_at hl 0 rfl) ?_
      refine va_fald hx hb hK hP 5 0 rfl rfl (vp_in_nI (lt_of_nle hi (by decide) c_8) (by decide)) dX4_copyFrom_30 ?_
      refine W.eq (g2 := F0 m 31 ls [.float (u2 ((nI i).toNatClampNeg)), .int (nI i), .ref r1]) rfl ?_
      refine va_fast hx hb hK hP hD hS 1 0 rfl rfl (vp_in_nI (lt_of_nle hi (by decide) c_8) (by decide)) dX4_copyFrom_31 (fun H locs hP hD hS => ?_)
      replace hP : va_P G vwCl [(h0, SeV r1 r2 r3), (r1, .inl (cA 0, 3, .inr (.inr (.inl (vf_upd Dd (nI i).toNatClampNeg (u2 ((nI i).toNatClampNeg))))))), (r2, WeV cA u), (r3, NuV cA v), (h1, SeV q1 q2 q3), (q1, SpV cA u2), (q2, WeV cA u2), (q3, NuV cA v2)] H := hP
      replace hD : va_D (inW [(h0, SeV r1 r2 r3), (r1, SpV cA u), (r2, WeV cA u), (r3, NuV cA v), (h1, SeV q1 q2 q3), (q1, SpV cA u2), (q2, WeV cA u2), (q3, NuV cA v2)]) [(h0, SeV r1 r2 r3), (r1, .inl (cA 0, 3, .inr (.inr (.inl (vf_upd Dd (nI i).toNatClampNeg (u2 ((nI i).toNatClampNeg))))))), (r2, WeV cA u), (r3, NuV cA v), (h1, SeV q1 q2 q3), (q1, SpV cA u2), (q2, WeV cA u2), (q3, NuV cA v2)] := hD
      refine lv_iinc (v := ((nI i) + 1)) (lv' := [(2, .int ((nI i) + 1)), (0, .ref h0), (1, .ref h1)]) hx hb dX4_copyFrom_32 hl (k := 0) rfl rfl (by decide) rfl (fun ls hl => ?_)
      refine lv_goto (tgt := 2) hx hb dX4_copyFrom_35 (by decide) ?_
      replace hl : lv_has ls 3 [(2, .int (nI (i + 1))), (0, .ref h0), (1, .ref h1)] := by rw [← nI_1]; exact hl
      have hlt := lt_of_nle hi (by decide) c_8
      exact ih (i + 1) _ _ _ _ (by omega) (by omega) (cp_step (nI_clamp (by omega)) hDd) hP hD hS (lv_sub hl [0, 1, 2] rfl)
