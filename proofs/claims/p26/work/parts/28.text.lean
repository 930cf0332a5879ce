/-! BeamText: its contracts (by wip/p26/text.py) -/
set_option maxHeartbeats 4000000 in
set_option maxRecDepth 100000 in
/-- isFrom(first, last, character) -/
theorem cX0_isFrom_ok (l : Launch) (G : va_G) (cA : Nat → ClassId) (x0 y0 z0 : Int32) : Ri l yX0_isFrom wsX0_isFrom ({ frames := 0, cells := 0, slots := 0, locals := 0 } : Room) G cA [.int x0, .int y0, .int z0] [] (fun r => r = ifF x0 y0 z0) := by
  refine ofW2 (cc := cX0_isFrom) (maxL := 3) (ret := (some .boolean)) (own := RX0) (by decide) rfl rfl (Nat.le_of_ble_eq_true rfl) rfl ?_
  intro p e s m below meth c ls hx hb hml hr hts hown hlocks hv hl
  obtain ⟨hP, hE, hD0⟩ := hv
  have hK := hE.1
  have hD := hD0
  generalize hH0 : s.heap = H at hP ⊢
  have hS : va_S (fun _ => False) s.heap H [] := hH0 ▸ va_S.rf
  generalize ([] : List Loc) = locs at hS ⊢
  clear hH0 hD0
  replace hl : lv_has ls 3 [(0, .int x0), (1, .int y0), (2, .int z0)] := hl
  refine lv_iload_n hx hb dX0_isFrom_0 rfl (lv_at hl 2 rfl) ?_
  refine lv_iload_n hx hb dX0_isFrom_1 rfl (lv_at hl 0 rfl) ?_
  refine lv_icmp_lt (tgt := 14) hx hb dX0_isFrom_2 (by decide) (fun c_2 => ?_) (fun c_2 => ?_)
  · skip
    refine lv_iconst (v := 0) hx hb dX0_isFrom_14 (by decide) ?_
    exact en_ri hx hb hr rfl hlocks hS (by first | rfl | (simp only [ifF, if_pos c_2]; done) | (simp only [ifF, if_pos c_2]; rfl) | (simp only [ifF, if_pos c_2]; decide)) dX0_isFrom_15
  · skip
    refine lv_iload_n hx hb dX0_isFrom_5 rfl (lv_at hl 2 rfl) ?_
    refine lv_iload_n hx hb dX0_isFrom_6 rfl (lv_at hl 1 rfl) ?_
    refine lv_icmp_gt (tgt := 14) hx hb dX0_isFrom_7 (by decide) (fun c_7 => ?_) (fun c_7 => ?_)
    · skip
      refine lv_iconst (v := 0) hx hb dX0_isFrom_14 (by decide) ?_
      exact en_ri hx hb hr rfl hlocks hS (by first | rfl | (simp only [ifF, if_neg c_2, if_pos c_7]; done) | (simp only [ifF, if_neg c_2, if_pos c_7]; rfl) | (simp only [ifF, if_neg c_2, if_pos c_7]; decide)) dX0_isFrom_15
    · skip
      refine lv_iconst (v := 1) hx hb dX0_isFrom_10 (by decide) ?_
      refine lv_goto (tgt := 15) hx hb dX0_isFrom_11 (by decide) ?_
      exact en_ri hx hb hr rfl hlocks hS (by first | rfl | (simp only [ifF, if_neg c_2, if_neg c_7]; done) | (simp only [ifF, if_neg c_2, if_neg c_7]; rfl) | (simp only [ifF, if_neg c_2, if_neg c_7]; decide)) dX0_isFrom_15
set_option maxHeartbeats 4000000 in
set_option maxRecDepth 100000 in
/-- standBehindPart(character) -/
theorem cX0_standBehindPart_ok (l : Launch) (G : va_G) (cA : Nat → ClassId) (x0 : Int32) : Ri l yX0_standBehindPart wsX0_standBehindPart ({ frames := 0, cells := 0, slots := 0, locals := 0 } : Room) G cA [.int x0] [] (fun r => r = sbP x0) := by
  refine ofW2 (cc := cX0_standBehindPart) (maxL := 1) (ret := (some .int)) (own := RX0) (by decide) rfl rfl (Nat.le_of_ble_eq_true rfl) rfl ?_
  intro p e s m below meth c ls hx hb hml hr hts hown hlocks hv hl
  obtain ⟨hP, hE, hD0⟩ := hv
  have hK := hE.1
  have hD := hD0
  generalize hH0 : s.heap = H at hP ⊢
  have hS : va_S (fun _ => False) s.heap H [] := hH0 ▸ va_S.rf
  generalize ([] : List Loc) = locs at hS ⊢
  clear hH0 hD0
  replace hl : lv_has ls 1 [(0, .int x0)] := hl
  refine lv_iload_n hx hb dX0_standBehindPart_0 rfl (lv_at hl 0 rfl) ?_
  refine lv_bipush (v := 44) hx hb dX0_standBehindPart_1 (by decide) ?_
  refine lv_icmp_ne (tgt := 10) hx hb dX0_standBehindPart_3 (by decide) (fun c_3 => ?_) (fun c_3 => ?_)
  · skip
    refine lv_iconst (v := 5) hx hb dX0_standBehindPart_10 (by decide) ?_
    exact en_ri hx hb hr rfl hlocks hS (by first | rfl | (simp only [sbP, if_neg c_3]; done) | (simp only [sbP, if_neg c_3]; rfl) | (simp only [sbP, if_neg c_3]; decide)) dX0_standBehindPart_11
  · skip
    refine lv_iconst (v := 0) hx hb dX0_standBehindPart_6 (by decide) ?_
    refine lv_goto (tgt := 11) hx hb dX0_standBehindPart_7 (by decide) ?_
    exact en_ri hx hb hr rfl hlocks hS (by first | rfl | (simp only [sbP, if_pos c_3]; done) | (simp only [sbP, if_pos c_3]; rfl) | (simp only [sbP, if_pos c_3]; decide)) dX0_standBehindPart_11
set_option maxHeartbeats 4000000 in
set_option maxRecDepth 100000 in
/-- standBehind(character, 0) -/
theorem cX0_standBehind_0 (l : Launch) (G : va_G) (cA : Nat → ClassId) (x0 : Int32) : Ri l yX0_standBehind wsX0_standBehind ({ frames := 1, cells := 0, slots := 0, locals := 22 } : Room) G cA [.int x0, .int 0] [] (fun r => r = sb0 x0) := by
  refine ofW2 (cc := cX0_standBehind) (maxL := 2) (ret := (some .int)) (own := RX0) (by decide) rfl rfl (Nat.le_of_ble_eq_true rfl) rfl ?_
  intro p e s m below meth c ls hx hb hml hr hts hown hlocks hv hl
  obtain ⟨hP, hE, hD0⟩ := hv
  have hK := hE.1
  have hD := hD0
  generalize hH0 : s.heap = H at hP ⊢
  have hS : va_S (fun _ => False) s.heap H [] := hH0 ▸ va_S.rf
  generalize ([] : List Loc) = locs at hS ⊢
  clear hH0 hD0
  replace hl : lv_has ls 2 [(0, .int x0), (1, .int 0)] := hl
  refine lv_iload_n hx hb dX0_standBehind_0 rfl (lv_at hl 1 rfl) ?_
  refine lv_tableIn (off := 31) (tgt := 32) hx hb dX0_standBehind_1 (by decide) (by decide) (by decide) (by decide) ?_
  refine lv_bipush (v := 48) hx hb dX0_standBehind_32 (by decide) ?_
  refine lv_bipush (v := 55) hx hb dX0_standBehind_34 (by decide) ?_
  refine lv_iload_n hx hb dX0_standBehind_36 rfl (lv_at hl 0 rfl) ?_
  refine rd_i (rS (rest := []) ⟨hx, hb, hml, hown, hts⟩ (cX0_isFrom_ok l G cA 48 55 x0) (va_cwS 3 hts gX0_standBehind_X0_isFrom rfl rfl rfl mdX0_isFrom.2 ⟨Nat.le_of_ble_eq_true rfl, Nat.le_of_ble_eq_true rfl⟩) hE (hP.sub (ws' := []) [] rfl) (hD.sub (ws' := []) [] (by decide) rfl) rfl hl rfl (Nat.le_of_ble_eq_true rfl) dX0_standBehind_37 ⟨Nat.le_of_ble_eq_true rfl, Nat.le_of_ble_eq_true rfl⟩) hS hP (fun r_37 H locs hr_37 hP hS => ?_)
  subst hr_37
  refine lv_if_eq (tgt := 47) hx hb dX0_standBehind_40 (by decide) (fun c_40 => ?_) (fun c_40 => ?_)
  · skip
    refine lv_iconst (v := 5) hx hb dX0_standBehind_47 (by decide) ?_
    exact en_ri hx hb hr rfl hlocks hS (by first | rfl | (simp only [sb0, if_pos c_40]; done) | (simp only [sb0, if_pos c_40]; rfl) | (simp only [sb0, if_pos c_40]; decide)) dX0_standBehind_48
  · skip
    refine lv_iconst (v := 1) hx hb dX0_standBehind_43 (by decide) ?_
    refine lv_goto (tgt := 48) hx hb dX0_standBehind_44 (by decide) ?_
    exact en_ri hx hb hr rfl hlocks hS (by first | rfl | (simp only [sb0, if_neg c_40]; done) | (simp only [sb0, if_neg c_40]; rfl) | (simp only [sb0, if_neg c_40]; decide)) dX0_standBehind_48
set_option maxHeartbeats 4000000 in
set_option maxRecDepth 100000 in
/-- standBehind(character, 1) -/
theorem cX0_standBehind_1 (l : Launch) (G : va_G) (cA : Nat → ClassId) (x0 : Int32) : Ri l yX0_standBehind wsX0_standBehind ({ frames := 1, cells := 0, slots := 0, locals := 20 } : Room) G cA [.int x0, .int 1] [] (fun r => r = sb1 x0) := by
  refine ofW2 (cc := cX0_standBehind) (maxL := 2) (ret := (some .int)) (own := RX0) (by decide) rfl rfl (Nat.le_of_ble_eq_true rfl) rfl ?_
  intro p e s m below meth c ls hx hb hml hr hts hown hlocks hv hl
  obtain ⟨hP, hE, hD0⟩ := hv
  have hK := hE.1
  have hD := hD0
  generalize hH0 : s.heap = H at hP ⊢
  have hS : va_S (fun _ => False) s.heap H [] := hH0 ▸ va_S.rf
  generalize ([] : List Loc) = locs at hS ⊢
  clear hH0 hD0
  replace hl : lv_has ls 2 [(0, .int x0), (1, .int 1)] := hl
  refine lv_iload_n hx hb dX0_standBehind_0 rfl (lv_at hl 1 rfl) ?_
  refine lv_tableIn (off := 48) (tgt := 49) hx hb dX0_standBehind_1 (by decide) (by decide) (by decide) (by decide) ?_
  refine lv_iload_n hx hb dX0_standBehind_49 rfl (lv_at hl 0 rfl) ?_
  refine lv_bipush (v := 42) hx hb dX0_standBehind_50 (by decide) ?_
  refine lv_icmp_ne (tgt := 59) hx hb dX0_standBehind_52 (by decide) (fun c_52 => ?_) (fun c_52 => ?_)
  · skip
    refine lv_iload_n hx hb dX0_standBehind_59 rfl (lv_at hl 0 rfl) ?_
    refine rd_i (rS (rest := []) ⟨hx, hb, hml, hown, hts⟩ (cX0_standBehindPart_ok l G cA x0) (va_cwS 1 hts gX0_standBehind_X0_standBehindPart rfl rfl rfl mdX0_standBehindPart.2 ⟨Nat.le_of_ble_eq_true rfl, Nat.le_of_ble_eq_true rfl⟩) hE (hP.sub (ws' := []) [] rfl) (hD.sub (ws' := []) [] (by decide) rfl) rfl hl rfl (Nat.le_of_ble_eq_true rfl) dX0_standBehind_60 ⟨Nat.le_of_ble_eq_true rfl, Nat.le_of_ble_eq_true rfl⟩) hS hP (fun r_60 H locs hr_60 hP hS => ?_)
    subst hr_60
    exact en_ri hx hb hr rfl hlocks hS (by first | rfl | (simp only [sb1, if_neg c_52]; done) | (simp only [sb1, if_neg c_52]; rfl) | (simp only [sb1, if_neg c_52]; decide)) dX0_standBehind_63
  · skip
    refine lv_iconst (v := 2) hx hb dX0_standBehind_55 (by decide) ?_
    refine lv_goto (tgt := 63) hx hb dX0_standBehind_56 (by decide) ?_
    exact en_ri hx hb hr rfl hlocks hS (by first | rfl | (simp only [sb1, if_pos c_52]; done) | (simp only [sb1, if_pos c_52]; rfl) | (simp only [sb1, if_pos c_52]; decide)) dX0_standBehind_63
set_option maxHeartbeats 4000000 in
set_option maxRecDepth 100000 in
/-- standBehind(character, 2) -/
theorem cX0_standBehind_2 (l : Launch) (G : va_G) (cA : Nat → ClassId) (x0 : Int32) : Ri l yX0_standBehind wsX0_standBehind ({ frames := 1, cells := 0, slots := 0, locals := 22 } : Room) G cA [.int x0, .int 2] [] (fun r => r = sb2 x0) := by
  refine ofW2 (cc := cX0_standBehind) (maxL := 2) (ret := (some .int)) (own := RX0) (by decide) rfl rfl (Nat.le_of_ble_eq_true rfl) rfl ?_
  intro p e s m below meth c ls hx hb hml hr hts hown hlocks hv hl
  obtain ⟨hP, hE, hD0⟩ := hv
  have hK := hE.1
  have hD := hD0
  generalize hH0 : s.heap = H at hP ⊢
  have hS : va_S (fun _ => False) s.heap H [] := hH0 ▸ va_S.rf
  generalize ([] : List Loc) = locs at hS ⊢
  clear hH0 hD0
  replace hl : lv_has ls 2 [(0, .int x0), (1, .int 2)] := hl
  refine lv_iload_n hx hb dX0_standBehind_0 rfl (lv_at hl 1 rfl) ?_
  refine lv_tableIn (off := 63) (tgt := 64) hx hb dX0_standBehind_1 (by decide) (by decide) (by decide) (by decide) ?_
  refine lv_bipush (v := 49) hx hb dX0_standBehind_64 (by decide) ?_
  refine lv_bipush (v := 57) hx hb dX0_standBehind_66 (by decide) ?_
  refine lv_iload_n hx hb dX0_standBehind_68 rfl (lv_at hl 0 rfl) ?_
  refine rd_i (rS (rest := []) ⟨hx, hb, hml, hown, hts⟩ (cX0_isFrom_ok l G cA 49 57 x0) (va_cwS 3 hts gX0_standBehind_X0_isFrom rfl rfl rfl mdX0_isFrom.2 ⟨Nat.le_of_ble_eq_true rfl, Nat.le_of_ble_eq_true rfl⟩) hE (hP.sub (ws' := []) [] rfl) (hD.sub (ws' := []) [] (by decide) rfl) rfl hl rfl (Nat.le_of_ble_eq_true rfl) dX0_standBehind_69 ⟨Nat.le_of_ble_eq_true rfl, Nat.le_of_ble_eq_true rfl⟩) hS hP (fun r_69 H locs hr_69 hP hS => ?_)
  subst hr_69
  refine lv_if_eq (tgt := 79) hx hb dX0_standBehind_72 (by decide) (fun c_72 => ?_) (fun c_72 => ?_)
  · skip
    refine lv_iconst (v := 5) hx hb dX0_standBehind_79 (by decide) ?_
    exact en_ri hx hb hr rfl hlocks hS (by first | rfl | (simp only [sb2, if_pos c_72]; done) | (simp only [sb2, if_pos c_72]; rfl) | (simp only [sb2, if_pos c_72]; decide)) dX0_standBehind_80
  · skip
    refine lv_iconst (v := 3) hx hb dX0_standBehind_75 (by decide) ?_
    refine lv_goto (tgt := 80) hx hb dX0_standBehind_76 (by decide) ?_
    exact en_ri hx hb hr rfl hlocks hS (by first | rfl | (simp only [sb2, if_neg c_72]; done) | (simp only [sb2, if_neg c_72]; rfl) | (simp only [sb2, if_neg c_72]; decide)) dX0_standBehind_80
set_option maxHeartbeats 4000000 in
set_option maxRecDepth 100000 in
/-- standBehind(character, 3) -/
theorem cX0_standBehind_3 (l : Launch) (G : va_G) (cA : Nat → ClassId) (x0 : Int32) : Ri l yX0_standBehind wsX0_standBehind ({ frames := 1, cells := 0, slots := 0, locals := 22 } : Room) G cA [.int x0, .int 3] [] (fun r => r = sb3 x0) := by
  refine ofW2 (cc := cX0_standBehind) (maxL := 2) (ret := (some .int)) (own := RX0) (by decide) rfl rfl (Nat.le_of_ble_eq_true rfl) rfl ?_
  intro p e s m below meth c ls hx hb hml hr hts hown hlocks hv hl
  obtain ⟨hP, hE, hD0⟩ := hv
  have hK := hE.1
  have hD := hD0
  generalize hH0 : s.heap = H at hP ⊢
  have hS : va_S (fun _ => False) s.heap H [] := hH0 ▸ va_S.rf
  generalize ([] : List Loc) = locs at hS ⊢
  clear hH0 hD0
  replace hl : lv_has ls 2 [(0, .int x0), (1, .int 3)] := hl
  refine lv_iload_n hx hb dX0_standBehind_0 rfl (lv_at hl 1 rfl) ?_
  refine lv_tableIn (off := 80) (tgt := 81) hx hb dX0_standBehind_1 (by decide) (by decide) (by decide) (by decide) ?_
  refine lv_bipush (v := 48) hx hb dX0_standBehind_81 (by decide) ?_
  refine lv_bipush (v := 57) hx hb dX0_standBehind_83 (by decide) ?_
  refine lv_iload_n hx hb dX0_standBehind_85 rfl (lv_at hl 0 rfl) ?_
  refine rd_i (rS (rest := []) ⟨hx, hb, hml, hown, hts⟩ (cX0_isFrom_ok l G cA 48 57 x0) (va_cwS 3 hts gX0_standBehind_X0_isFrom rfl rfl rfl mdX0_isFrom.2 ⟨Nat.le_of_ble_eq_true rfl, Nat.le_of_ble_eq_true rfl⟩) hE (hP.sub (ws' := []) [] rfl) (hD.sub (ws' := []) [] (by decide) rfl) rfl hl rfl (Nat.le_of_ble_eq_true rfl) dX0_standBehind_86 ⟨Nat.le_of_ble_eq_true rfl, Nat.le_of_ble_eq_true rfl⟩) hS hP (fun r_86 H locs hr_86 hP hS => ?_)
  subst hr_86
  refine lv_if_eq (tgt := 96) hx hb dX0_standBehind_89 (by decide) (fun c_89 => ?_) (fun c_89 => ?_)
  · skip
    refine lv_iload_n hx hb dX0_standBehind_96 rfl (lv_at hl 0 rfl) ?_
    refine rd_i (rS (rest := []) ⟨hx, hb, hml, hown, hts⟩ (cX0_standBehindPart_ok l G cA x0) (va_cwS 1 hts gX0_standBehind_X0_standBehindPart rfl rfl rfl mdX0_standBehindPart.2 ⟨Nat.le_of_ble_eq_true rfl, Nat.le_of_ble_eq_true rfl⟩) hE (hP.sub (ws' := []) [] rfl) (hD.sub (ws' := []) [] (by decide) rfl) rfl hl rfl (Nat.le_of_ble_eq_true rfl) dX0_standBehind_97 ⟨Nat.le_of_ble_eq_true rfl, Nat.le_of_ble_eq_true rfl⟩) hS hP (fun r_97 H locs hr_97 hP hS => ?_)
    subst hr_97
    exact en_ri hx hb hr rfl hlocks hS (by first | rfl | (simp only [sb3, if_pos c_89]; done) | (simp only [sb3, if_pos c_89]; rfl) | (simp only [sb3, if_pos c_89]; decide)) dX0_standBehind_100
  · skip
    refine lv_iconst (v := 4) hx hb dX0_standBehind_92 (by decide) ?_
    refine lv_goto (tgt := 100) hx hb dX0_standBehind_93 (by decide) ?_
    exact en_ri hx hb hr rfl hlocks hS (by first | rfl | (simp only [sb3, if_neg c_89]; done) | (simp only [sb3, if_neg c_89]; rfl) | (simp only [sb3, if_neg c_89]; decide)) dX0_standBehind_100
set_option maxHeartbeats 4000000 in
set_option maxRecDepth 100000 in
/-- BeamText.beamsOf(part) -/
theorem cX0_beamsOf_ok (l : Launch) (G : va_G) (cA : Nat → ClassId) (h0 t1 t2 t3 : Nat) (n0 p0 : Int32) (bm : GG) (w0 : Int32) : Ri l yX0_beamsOf wsX0_beamsOf ({ frames := 0, cells := 0, slots := 0, locals := 0 } : Room) G cA [.ref h0, .int w0] [(h0, TxV t1 t2 t3 n0 p0), (t2, .inl (cA 1, 60, .inl bm))] (fun r => r = tiF bm w0) := by
  refine ofW2 (cc := cX0_beamsOf) (maxL := 2) (ret := (some .int)) (own := RX0) (by decide) rfl rfl (Nat.le_of_ble_eq_true rfl) rfl ?_
  intro p e s m below meth c ls hx hb hml hr hts hown hlocks hv hl
  obtain ⟨hP, hE, hD0⟩ := hv
  have hK := hE.1
  have hD := hD0
  generalize hH0 : s.heap = H at hP ⊢
  have hS : va_S (fun _ => False) s.heap H [] := hH0 ▸ va_S.rf
  generalize ([] : List Loc) = locs at hS ⊢
  clear hH0 hD0
  replace hl : lv_has ls 2 [(0, .ref h0), (1, .int w0)] := hl
  have hin_X0 : ∀ q ∈ u_ws RX0 TX0 5, q ∈ wsX0_beamsOf := by decide +kernel
  have k13 := hts (.fieldLink RX0 13 "LiftBeams$BeamText" "beams" "[I") (by decide +kernel)
  refine lv_iload_n hx hb dX0_beamsOf_0 rfl (lv_at hl 1 rfl) ?_
  refine lv_if_lt (tgt := 13) hx hb dX0_beamsOf_1 (by decide) (fun c_1 => ?_) (fun c_1 => ?_)
  · skip
    refine lv_iconst (v := 0) hx hb dX0_beamsOf_13 (by decide) ?_
    refine lv_goto (tgt := 23) hx hb dX0_beamsOf_14 (by decide) ?_
    exact en_ri hx hb hr rfl hlocks hS (by first | rfl | (simp only [tiF, if_pos c_1]; done) | (simp only [tiF, if_pos c_1]; rfl) | (simp only [tiF, if_pos c_1]; decide)) dX0_beamsOf_23
  · skip
    refine lv_iload_n hx hb dX0_beamsOf_4 rfl (lv_at hl 1 rfl) ?_
    refine lv_aload_n hx hb dX0_beamsOf_5 rfl (lv_at hl 0 rfl) ?_
    refine va_get (D := G) (ci := 0) (v := .ref t2) (C := RX0) (T := TX0) (N := 5) hx hb hts hin_X0 hown hK hP 0 rfl rfl 2 (by decide) k13 (fun _ h9 => h9) rfl dX0_beamsOf_6 ?_
    refine va_alen (v := 60) hx hb hK hP 1 1 rfl rfl rfl dX0_beamsOf_9 ?_
    refine lv_icmp_lt (tgt := 17) hx hb dX0_beamsOf_10 (by decide) (fun c_10 => ?_) (fun c_10 => ?_)
    · skip
      refine lv_aload_n hx hb dX0_beamsOf_17 rfl (lv_at hl 0 rfl) ?_
      refine va_get (D := G) (ci := 0) (v := .ref t2) (C := RX0) (T := TX0) (N := 5) hx hb hts hin_X0 hown hK hP 0 rfl rfl 2 (by decide) k13 (fun _ h9 => h9) rfl dX0_beamsOf_18 ?_
      refine lv_iload_n hx hb dX0_beamsOf_21 rfl (lv_at hl 1 rfl) ?_
      refine va_iald hx hb hK hP 1 1 rfl rfl (in_lt (by decide) c_1 c_10) dX0_beamsOf_22 ?_
      refine W.eq (g2 := F0 m 23 ls [.int (bm (w0.toNatClampNeg))]) rfl ?_
      exact en_ri hx hb hr rfl hlocks hS (by first | rfl | (simp only [tiF, if_neg c_1, if_pos c_10]; done) | (simp only [tiF, if_neg c_1, if_pos c_10]; rfl) | (simp only [tiF, if_neg c_1, if_pos c_10]; decide)) dX0_beamsOf_23
    · skip
      refine lv_iconst (v := 0) hx hb dX0_beamsOf_13 (by decide) ?_
      refine lv_goto (tgt := 23) hx hb dX0_beamsOf_14 (by decide) ?_
      exact en_ri hx hb hr rfl hlocks hS (by first | rfl | (simp only [tiF, if_neg c_1, if_neg c_10]; done) | (simp only [tiF, if_neg c_1, if_neg c_10]; rfl) | (simp only [tiF, if_neg c_1, if_neg c_10]; decide)) dX0_beamsOf_23
set_option maxHeartbeats 4000000 in
set_option maxRecDepth 100000 in
/-- BeamText.ticksOf(part) -/
theorem cX0_ticksOf_ok (l : Launch) (G : va_G) (cA : Nat → ClassId) (h0 t1 t2 t3 : Nat) (n0 p0 : Int32) (tk : GG) (w0 : Int32) : Ri l yX0_ticksOf wsX0_ticksOf ({ frames := 0, cells := 0, slots := 0, locals := 0 } : Room) G cA [.ref h0, .int w0] [(h0, TxV t1 t2 t3 n0 p0), (t3, .inl (cA 1, 60, .inl tk))] (fun r => r = tiF tk w0) := by
  refine ofW2 (cc := cX0_ticksOf) (maxL := 2) (ret := (some .int)) (own := RX0) (by decide) rfl rfl (Nat.le_of_ble_eq_true rfl) rfl ?_
  intro p e s m below meth c ls hx hb hml hr hts hown hlocks hv hl
  obtain ⟨hP, hE, hD0⟩ := hv
  have hK := hE.1
  have hD := hD0
  generalize hH0 : s.heap = H at hP ⊢
  have hS : va_S (fun _ => False) s.heap H [] := hH0 ▸ va_S.rf
  generalize ([] : List Loc) = locs at hS ⊢
  clear hH0 hD0
  replace hl : lv_has ls 2 [(0, .ref h0), (1, .int w0)] := hl
  have hin_X0 : ∀ q ∈ u_ws RX0 TX0 5, q ∈ wsX0_ticksOf := by decide +kernel
  have k17 := hts (.fieldLink RX0 17 "LiftBeams$BeamText" "ticks" "[I") (by decide +kernel)
  refine lv_iload_n hx hb dX0_ticksOf_0 rfl (lv_at hl 1 rfl) ?_
  refine lv_if_lt (tgt := 13) hx hb dX0_ticksOf_1 (by decide) (fun c_1 => ?_) (fun c_1 => ?_)
  · skip
    refine lv_iconst (v := 0) hx hb dX0_ticksOf_13 (by decide) ?_
    refine lv_goto (tgt := 23) hx hb dX0_ticksOf_14 (by decide) ?_
    exact en_ri hx hb hr rfl hlocks hS (by first | rfl | (simp only [tiF, if_pos c_1]; done) | (simp only [tiF, if_pos c_1]; rfl) | (simp only [tiF, if_pos c_1]; decide)) dX0_ticksOf_23
  · skip
    refine lv_iload_n hx hb dX0_ticksOf_4 rfl (lv_at hl 1 rfl) ?_
    refine lv_aload_n hx hb dX0_ticksOf_5 rfl (lv_at hl 0 rfl) ?_
    refine va_get (D := G) (ci := 0) (v := .ref t3) (C := RX0) (T := TX0) (N := 5) hx hb hts hin_X0 hown hK hP 0 rfl rfl 3 (by decide) k17 (fun _ h9 => h9) rfl dX0_ticksOf_6 ?_
    refine va_alen (v := 60) hx hb hK hP 1 1 rfl rfl rfl dX0_ticksOf_9 ?_
    refine lv_icmp_lt (tgt := 17) hx hb dX0_ticksOf_10 (by decide) (fun c_10 => ?_) (fun c_10 => ?_)
    · skip
      refine lv_aload_n hx hb dX0_ticksOf_17 rfl (lv_at hl 0 rfl) ?_
      refine va_get (D := G) (ci := 0) (v := .ref t3) (C := RX0) (T := TX0) (N := 5) hx hb hts hin_X0 hown hK hP 0 rfl rfl 3 (by decide) k17 (fun _ h9 => h9) rfl dX0_ticksOf_18 ?_
      refine lv_iload_n hx hb dX0_ticksOf_21 rfl (lv_at hl 1 rfl) ?_
      refine va_iald hx hb hK hP 1 1 rfl rfl (in_lt (by decide) c_1 c_10) dX0_ticksOf_22 ?_
      refine W.eq (g2 := F0 m 23 ls [.int (tk (w0.toNatClampNeg))]) rfl ?_
      exact en_ri hx hb hr rfl hlocks hS (by first | rfl | (simp only [tiF, if_neg c_1, if_pos c_10]; done) | (simp only [tiF, if_neg c_1, if_pos c_10]; rfl) | (simp only [tiF, if_neg c_1, if_pos c_10]; decide)) dX0_ticksOf_23
    · skip
      refine lv_iconst (v := 0) hx hb dX0_ticksOf_13 (by decide) ?_
      refine lv_goto (tgt := 23) hx hb dX0_ticksOf_14 (by decide) ?_
      exact en_ri hx hb hr rfl hlocks hS (by first | rfl | (simp only [tiF, if_neg c_1, if_neg c_10]; done) | (simp only [tiF, if_neg c_1, if_neg c_10]; rfl) | (simp only [tiF, if_neg c_1, if_neg c_10]; decide)) dX0_ticksOf_23
set_option maxHeartbeats 4000000 in
set_option maxRecDepth 100000 in
/-- BeamText.append(character) -/
theorem cX0_append_ok (l : Launch) (G : va_G) (cA : Nat → ClassId) (h0 t1 t2 t3 : Nat) (K : Nat) (hK60 : K < 60) (p0 : Int32) (ch : GG) (c0 : Int32) (hc : vp_nar .char c0 = c0) : Wi l yX0_append wsX0_append ({ frames := 0, cells := 0, slots := 0, locals := 0 } : Room) G cA [.ref h0, .int c0] [(h0, TxV t1 t2 t3 (nI K) p0), (t1, .inl (cA 2, 60, .inl ch))] (fun r => r = 1) [(h0, TxV t1 t2 t3 (nI K + 1) p0), (t1, .inl (cA 2, 60, .inl (upd ch K c0)))] := by
  refine ofW2 (cc := cX0_append) (maxL := 2) (ret := (some .boolean)) (own := RX0) (by decide) rfl rfl (Nat.le_of_ble_eq_true rfl) rfl ?_
  intro p e s m below meth c ls hx hb hml hr hts hown hlocks hv hl
  obtain ⟨hP, hE, hD0⟩ := hv
  have hK := hE.1
  have hD := dself hD0
  generalize hH0 : s.heap = H at hP ⊢
  have hS : va_S (inW [(h0, TxV t1 t2 t3 (nI K) p0), (t1, .inl (cA 2, 60, .inl ch))]) s.heap H [] := hH0 ▸ va_S.rf
  generalize ([] : List Loc) = locs at hS ⊢
  clear hH0 hD0
  replace hl : lv_has ls 2 [(0, .ref h0), (1, .int c0)] := hl
  have hin_X0 : ∀ q ∈ u_ws RX0 TX0 5, q ∈ wsX0_append := by decide +kernel
  have k20 := hts (.fieldLink RX0 20 "LiftBeams$BeamText" "length" "I") (by decide +kernel)
  have k9 := hts (.fieldLink RX0 9 "LiftBeams$BeamText" "characters" "[C") (by decide +kernel)
  refine lv_aload_n hx hb dX0_append_0 rfl (lv_at hl 0 rfl) ?_
  refine va_get (D := G) (ci := 0) (v := .int (nI K)) (C := RX0) (T := TX0) (N := 5) hx hb hts hin_X0 hown hK hP 0 rfl rfl 1 (by decide) k20 (fun _ h9 => h9) rfl dX0_append_1 ?_
  refine lv_if_lt (tgt := 19) hx hb dX0_append_4 (by decide) (fun c_4 => absurd c_4 (nI_pos (by omega))) (fun c_4 => ?_)
  refine lv_aload_n hx hb dX0_append_7 rfl (lv_at hl 0 rfl) ?_
  refine va_get (D := G) (ci := 0) (v := .int (nI K)) (C := RX0) (T := TX0) (N := 5) hx hb hts hin_X0 hown hK hP 0 rfl rfl 1 (by decide) k20 (fun _ h9 => h9) rfl dX0_append_8 ?_
  refine lv_aload_n hx hb dX0_append_11 rfl (lv_at hl 0 rfl) ?_
  refine va_get (D := G) (ci := 0) (v := .ref t1) (C := RX0) (T := TX0) (N := 5) hx hb hts hin_X0 hown hK hP 0 rfl rfl 0 (by decide) k9 (fun _ h9 => h9) rfl dX0_append_12 ?_
  refine va_alen (v := 60) hx hb hK hP 1 2 rfl rfl rfl dX0_append_15 ?_
  refine lv_icmp_lt (tgt := 21) hx hb dX0_append_16 (by decide) (fun c_16 => ?_) (fun c_16 => absurd (nI_lt (a := K) (b := 60) hK60 (by decide)) c_16)
  refine lv_aload_n hx hb dX0_append_21 rfl (lv_at hl 0 rfl) ?_
  refine va_get (D := G) (ci := 0) (v := .ref t1) (C := RX0) (T := TX0) (N := 5) hx hb hts hin_X0 hown hK hP 0 rfl rfl 0 (by decide) k9 (fun _ h9 => h9) rfl dX0_append_22 ?_
  refine lv_aload_n hx hb dX0_append_25 rfl (lv_at hl 0 rfl) ?_
  refine va_get (D := G) (ci := 0) (v := .int (nI K)) (C := RX0) (T := TX0) (N := 5) hx hb hts hin_X0 hown hK hP 0 rfl rfl 1 (by decide) k20 (fun _ h9 => h9) rfl dX0_append_26 ?_
  refine lv_iload_n hx hb dX0_append_29 rfl (lv_at hl 1 rfl) ?_
  refine va_cast hx hb hK hP hD hS 1 2 rfl rfl (vp_in_nI hK60 (by decide)) dX0_append_30 (fun H locs hP hD hS => ?_)
  rw [nI_clamp (by omega), hc] at hP hD
  replace hP : va_P G vwCl [(h0, TxV t1 t2 t3 (nI K) p0), (t1, .inl (cA 2, 60, .inl (upd ch K c0)))] H := hP
  replace hD : va_D (inW [(h0, TxV t1 t2 t3 (nI K) p0), (t1, .inl (cA 2, 60, .inl ch))]) [(h0, TxV t1 t2 t3 (nI K) p0), (t1, .inl (cA 2, 60, .inl (upd ch K c0)))] := hD
  refine lv_aload_n hx hb dX0_append_31 rfl (lv_at hl 0 rfl) ?_
  refine lv_dup hx hb dX0_append_32 rfl ?_
  refine va_get (D := G) (ci := 0) (v := .int (nI K)) (C := RX0) (T := TX0) (N := 5) hx hb hts hin_X0 hown hK hP 0 rfl rfl 1 (by decide) k20 (fun _ h9 => h9) rfl dX0_append_33 ?_
  refine lv_iconst (v := 1) hx hb dX0_append_36 (by decide) ?_
  refine lv_iadd hx hb dX0_append_37 ?_
  refine va_put (D := G) (ci := 0) (v := .int ((nI K) + 1)) (ty := .int) (C := RX0) (T := TX0) (N := 5) hx hb hts hin_X0 tyX0 tyX0_ok nmX0 hown hK hP hD hS 0 rfl rfl 1 (by decide) k20 (fun _ h9 => h9) rfl (by decide +kernel) rfl rfl (Nat.le_of_ble_eq_true rfl) dX0_append_38 (fun H locs hP hD hS => ?_)
  replace hP : va_P G vwCl [(h0, TxV t1 t2 t3 ((nI K) + 1) p0), (t1, .inl (cA 2, 60, .inl (upd ch K c0)))] H := hP
  replace hD : va_D (inW [(h0, TxV t1 t2 t3 (nI K) p0), (t1, .inl (cA 2, 60, .inl ch))]) [(h0, TxV t1 t2 t3 ((nI K) + 1) p0), (t1, .inl (cA 2, 60, .inl (upd ch K c0)))] := hD
  refine lv_iconst (v := 1) hx hb dX0_append_41 (by decide) ?_
  exact en_wi hx hb hr rfl hlocks hS (by first | rfl | (simp only [if_neg c_4, if_pos c_16]; done) | (simp only [if_neg c_4, if_pos c_16]; rfl) | (simp only [if_neg c_4, if_pos c_16]; decide)) (by first | exact hP | (simp only [if_neg c_4, if_pos c_16]; exact hP)) dX0_append_42
set_option maxHeartbeats 4000000 in
set_option maxRecDepth 100000 in
/-- BeamText.addPart(digit), with 0 parts -/
theorem cX0_addPart_0 (l : Launch) (G : va_G) (cA : Nat → ClassId) (h0 t1 t2 t3 : Nat) (n0 : Int32) (bm tk : GG) (d0 : Int32) : Wv l yX0_addPart wsX0_addPart ({ frames := 0, cells := 0, slots := 0, locals := 0 } : Room) G cA [.ref h0, .int d0] [(h0, TxV t1 t2 t3 n0 0), (t2, .inl (cA 1, 60, .inl bm)), (t3, .inl (cA 1, 60, .inl tk))] [(h0, TxV t1 t2 t3 n0 1), (t2, .inl (cA 1, 60, .inl (upd bm 0 d0))), (t3, .inl (cA 1, 60, .inl (upd tk 0 1)))] := by
  refine ofW2 (cc := cX0_addPart) (maxL := 2) (ret := none) (own := RX0) (by decide) rfl rfl (Nat.le_of_ble_eq_true rfl) rfl ?_
  intro p e s m below meth c ls hx hb hml hr hts hown hlocks hv hl
  obtain ⟨hP, hE, hD0⟩ := hv
  have hK := hE.1
  have hD := dself hD0
  generalize hH0 : s.heap = H at hP ⊢
  have hS : va_S (inW [(h0, TxV t1 t2 t3 n0 0), (t2, .inl (cA 1, 60, .inl bm)), (t3, .inl (cA 1, 60, .inl tk))]) s.heap H [] := hH0 ▸ va_S.rf
  generalize ([] : List Loc) = locs at hS ⊢
  clear hH0 hD0
  replace hl : lv_has ls 2 [(0, .ref h0), (1, .int d0)] := hl
  have hin_X0 : ∀ q ∈ u_ws RX0 TX0 5, q ∈ wsX0_addPart := by decide +kernel
  have k24 := hts (.fieldLink RX0 24 "LiftBeams$BeamText" "parts" "I") (by decide +kernel)
  have k13 := hts (.fieldLink RX0 13 "LiftBeams$BeamText" "beams" "[I") (by decide +kernel)
  have k17 := hts (.fieldLink RX0 17 "LiftBeams$BeamText" "ticks" "[I") (by decide +kernel)
  refine lv_aload_n hx hb dX0_addPart_0 rfl (lv_at hl 0 rfl) ?_
  refine va_get (D := G) (ci := 0) (v := .int 0) (C := RX0) (T := TX0) (N := 5) hx hb hts hin_X0 hown hK hP 0 rfl rfl 4 (by decide) k24 (fun _ h9 => h9) rfl dX0_addPart_1 ?_
  refine lv_if_lt (tgt := 61) hx hb dX0_addPart_4 (by decide) (fun h9 => absurd h9 (by decide)) (fun _ => ?_)
  refine lv_aload_n hx hb dX0_addPart_7 rfl (lv_at hl 0 rfl) ?_
  refine va_get (D := G) (ci := 0) (v := .int 0) (C := RX0) (T := TX0) (N := 5) hx hb hts hin_X0 hown hK hP 0 rfl rfl 4 (by decide) k24 (fun _ h9 => h9) rfl dX0_addPart_8 ?_
  refine lv_aload_n hx hb dX0_addPart_11 rfl (lv_at hl 0 rfl) ?_
  refine va_get (D := G) (ci := 0) (v := .ref t2) (C := RX0) (T := TX0) (N := 5) hx hb hts hin_X0 hown hK hP 0 rfl rfl 2 (by decide) k13 (fun _ h9 => h9) rfl dX0_addPart_12 ?_
  refine va_alen (v := 60) hx hb hK hP 1 1 rfl rfl rfl dX0_addPart_15 ?_
  refine lv_icmp_ge (tgt := 61) hx hb dX0_addPart_16 (by decide) (fun h9 => absurd h9 (by decide)) (fun _ => ?_)
  refine lv_aload_n hx hb dX0_addPart_19 rfl (lv_at hl 0 rfl) ?_
  refine va_get (D := G) (ci := 0) (v := .int 0) (C := RX0) (T := TX0) (N := 5) hx hb hts hin_X0 hown hK hP 0 rfl rfl 4 (by decide) k24 (fun _ h9 => h9) rfl dX0_addPart_20 ?_
  refine lv_aload_n hx hb dX0_addPart_23 rfl (lv_at hl 0 rfl) ?_
  refine va_get (D := G) (ci := 0) (v := .ref t3) (C := RX0) (T := TX0) (N := 5) hx hb hts hin_X0 hown hK hP 0 rfl rfl 3 (by decide) k17 (fun _ h9 => h9) rfl dX0_addPart_24 ?_
  refine va_alen (v := 60) hx hb hK hP 2 1 rfl rfl rfl dX0_addPart_27 ?_
  refine lv_icmp_ge (tgt := 61) hx hb dX0_addPart_28 (by decide) (fun h9 => absurd h9 (by decide)) (fun _ => ?_)
  refine lv_aload_n hx hb dX0_addPart_31 rfl (lv_at hl 0 rfl) ?_
  refine va_get (D := G) (ci := 0) (v := .ref t2) (C := RX0) (T := TX0) (N := 5) hx hb hts hin_X0 hown hK hP 0 rfl rfl 2 (by decide) k13 (fun _ h9 => h9) rfl dX0_addPart_32 ?_
  refine lv_aload_n hx hb dX0_addPart_35 rfl (lv_at hl 0 rfl) ?_
  refine va_get (D := G) (ci := 0) (v := .int 0) (C := RX0) (T := TX0) (N := 5) hx hb hts hin_X0 hown hK hP 0 rfl rfl 4 (by decide) k24 (fun _ h9 => h9) rfl dX0_addPart_36 ?_
  refine lv_iload_n hx hb dX0_addPart_39 rfl (lv_at hl 1 rfl) ?_
  refine va_iast hx hb hK hP hD hS 1 1 rfl rfl (by unfold vp_in; decide) dX0_addPart_40 (fun H locs hP hD hS => ?_)
  replace hP : va_P G vwCl [(h0, TxV t1 t2 t3 n0 0), (t2, .inl (cA 1, 60, .inl (upd bm 0 d0))), (t3, .inl (cA 1, 60, .inl tk))] H := hP
  replace hD : va_D (inW [(h0, TxV t1 t2 t3 n0 0), (t2, .inl (cA 1, 60, .inl bm)), (t3, .inl (cA 1, 60, .inl tk))]) [(h0, TxV t1 t2 t3 n0 0), (t2, .inl (cA 1, 60, .inl (upd bm 0 d0))), (t3, .inl (cA 1, 60, .inl tk))] := hD
  refine lv_aload_n hx hb dX0_addPart_41 rfl (lv_at hl 0 rfl) ?_
  refine va_get (D := G) (ci := 0) (v := .ref t3) (C := RX0) (T := TX0) (N := 5) hx hb hts hin_X0 hown hK hP 0 rfl rfl 3 (by decide) k17 (fun _ h9 => h9) rfl dX0_addPart_42 ?_
  refine lv_aload_n hx hb dX0_addPart_45 rfl (lv_at hl 0 rfl) ?_
  refine va_get (D := G) (ci := 0) (v := .int 0) (C := RX0) (T := TX0) (N := 5) hx hb hts hin_X0 hown hK hP 0 rfl rfl 4 (by decide) k24 (fun _ h9 => h9) rfl dX0_addPart_46 ?_
  refine lv_iconst (v := 1) hx hb dX0_addPart_49 (by decide) ?_
  refine va_iast hx hb hK hP hD hS 2 1 rfl rfl (by unfold vp_in; decide) dX0_addPart_50 (fun H locs hP hD hS => ?_)
  replace hP : va_P G vwCl [(h0, TxV t1 t2 t3 n0 0), (t2, .inl (cA 1, 60, .inl (upd bm 0 d0))), (t3, .inl (cA 1, 60, .inl (upd tk 0 1)))] H := hP
  replace hD : va_D (inW [(h0, TxV t1 t2 t3 n0 0), (t2, .inl (cA 1, 60, .inl bm)), (t3, .inl (cA 1, 60, .inl tk))]) [(h0, TxV t1 t2 t3 n0 0), (t2, .inl (cA 1, 60, .inl (upd bm 0 d0))), (t3, .inl (cA 1, 60, .inl (upd tk 0 1)))] := hD
  refine lv_aload_n hx hb dX0_addPart_51 rfl (lv_at hl 0 rfl) ?_
  refine lv_dup hx hb dX0_addPart_52 rfl ?_
  refine va_get (D := G) (ci := 0) (v := .int 0) (C := RX0) (T := TX0) (N := 5) hx hb hts hin_X0 hown hK hP 0 rfl rfl 4 (by decide) k24 (fun _ h9 => h9) rfl dX0_addPart_53 ?_
  refine lv_iconst (v := 1) hx hb dX0_addPart_56 (by decide) ?_
  refine lv_iadd hx hb dX0_addPart_57 ?_
  refine W.eq (g2 := F0 m 58 ls [.int 1, .ref h0]) rfl ?_
  refine va_put (D := G) (ci := 0) (v := .int 1) (ty := .int) (C := RX0) (T := TX0) (N := 5) hx hb hts hin_X0 tyX0 tyX0_ok nmX0 hown hK hP hD hS 0 rfl rfl 4 (by decide) k24 (fun _ h9 => h9) rfl (by decide +kernel) rfl rfl (Nat.le_of_ble_eq_true rfl) dX0_addPart_58 (fun H locs hP hD hS => ?_)
  replace hP : va_P G vwCl [(h0, TxV t1 t2 t3 n0 1), (t2, .inl (cA 1, 60, .inl (upd bm 0 d0))), (t3, .inl (cA 1, 60, .inl (upd tk 0 1)))] H := hP
  replace hD : va_D (inW [(h0, TxV t1 t2 t3 n0 0), (t2, .inl (cA 1, 60, .inl bm)), (t3, .inl (cA 1, 60, .inl tk))]) [(h0, TxV t1 t2 t3 n0 1), (t2, .inl (cA 1, 60, .inl (upd bm 0 d0))), (t3, .inl (cA 1, 60, .inl (upd tk 0 1)))] := hD
  exact en_wv hx hb hr hlocks hS hP dX0_addPart_61
set_option maxHeartbeats 4000000 in
set_option maxRecDepth 100000 in
/-- BeamText.addPart(digit), with 1 parts -/
theorem cX0_addPart_1 (l : Launch) (G : va_G) (cA : Nat → ClassId) (h0 t1 t2 t3 : Nat) (n0 : Int32) (bm tk : GG) (d0 : Int32) : Wv l yX0_addPart wsX0_addPart ({ frames := 0, cells := 0, slots := 0, locals := 0 } : Room) G cA [.ref h0, .int d0] [(h0, TxV t1 t2 t3 n0 1), (t2, .inl (cA 1, 60, .inl bm)), (t3, .inl (cA 1, 60, .inl tk))] [(h0, TxV t1 t2 t3 n0 2), (t2, .inl (cA 1, 60, .inl (upd bm 1 d0))), (t3, .inl (cA 1, 60, .inl (upd tk 1 1)))] := by
  refine ofW2 (cc := cX0_addPart) (maxL := 2) (ret := none) (own := RX0) (by decide) rfl rfl (Nat.le_of_ble_eq_true rfl) rfl ?_
  intro p e s m below meth c ls hx hb hml hr hts hown hlocks hv hl
  obtain ⟨hP, hE, hD0⟩ := hv
  have hK := hE.1
  have hD := dself hD0
  generalize hH0 : s.heap = H at hP ⊢
  have hS : va_S (inW [(h0, TxV t1 t2 t3 n0 1), (t2, .inl (cA 1, 60, .inl bm)), (t3, .inl (cA 1, 60, .inl tk))]) s.heap H [] := hH0 ▸ va_S.rf
  generalize ([] : List Loc) = locs at hS ⊢
  clear hH0 hD0
  replace hl : lv_has ls 2 [(0, .ref h0), (1, .int d0)] := hl
  have hin_X0 : ∀ q ∈ u_ws RX0 TX0 5, q ∈ wsX0_addPart := by decide +kernel
  have k24 := hts (.fieldLink RX0 24 "LiftBeams$BeamText" "parts" "I") (by decide +kernel)
  have k13 := hts (.fieldLink RX0 13 "LiftBeams$BeamText" "beams" "[I") (by decide +kernel)
  have k17 := hts (.fieldLink RX0 17 "LiftBeams$BeamText" "ticks" "[I") (by decide +kernel)
  refine lv_aload_n hx hb dX0_addPart_0 rfl (lv_at hl 0 rfl) ?_
  refine va_get (D := G) (ci := 0) (v := .int 1) (C := RX0) (T := TX0) (N := 5) hx hb hts hin_X0 hown hK hP 0 rfl rfl 4 (by decide) k24 (fun _ h9 => h9) rfl dX0_addPart_1 ?_
  refine lv_if_lt (tgt := 61) hx hb dX0_addPart_4 (by decide) (fun h9 => absurd h9 (by decide)) (fun _ => ?_)
  refine lv_aload_n hx hb dX0_addPart_7 rfl (lv_at hl 0 rfl) ?_
  refine va_get (D := G) (ci := 0) (v := .int 1) (C := RX0) (T := TX0) (N := 5) hx hb hts hin_X0 hown hK hP 0 rfl rfl 4 (by decide) k24 (fun _ h9 => h9) rfl dX0_addPart_8 ?_
  refine lv_aload_n hx hb dX0_addPart_11 rfl (lv_at hl 0 rfl) ?_
  refine va_get (D := G) (ci := 0) (v := .ref t2) (C := RX0) (T := TX0) (N := 5) hx hb hts hin_X0 hown hK hP 0 rfl rfl 2 (by decide) k13 (fun _ h9 => h9) rfl dX0_addPart_12 ?_
  refine va_alen (v := 60) hx hb hK hP 1 1 rfl rfl rfl dX0_addPart_15 ?_
  refine lv_icmp_ge (tgt := 61) hx hb dX0_addPart_16 (by decide) (fun h9 => absurd h9 (by decide)) (fun _ => ?_)
  refine lv_aload_n hx hb dX0_addPart_19 rfl (lv_at hl 0 rfl) ?_
  refine va_get (D := G) (ci := 0) (v := .int 1) (C := RX0) (T := TX0) (N := 5) hx hb hts hin_X0 hown hK hP 0 rfl rfl 4 (by decide) k24 (fun _ h9 => h9) rfl dX0_addPart_20 ?_
  refine lv_aload_n hx hb dX0_addPart_23 rfl (lv_at hl 0 rfl) ?_
  refine va_get (D := G) (ci := 0) (v := .ref t3) (C := RX0) (T := TX0) (N := 5) hx hb hts hin_X0 hown hK hP 0 rfl rfl 3 (by decide) k17 (fun _ h9 => h9) rfl dX0_addPart_24 ?_
  refine va_alen (v := 60) hx hb hK hP 2 1 rfl rfl rfl dX0_addPart_27 ?_
  refine lv_icmp_ge (tgt := 61) hx hb dX0_addPart_28 (by decide) (fun h9 => absurd h9 (by decide)) (fun _ => ?_)
  refine lv_aload_n hx hb dX0_addPart_31 rfl (lv_at hl 0 rfl) ?_
  refine va_get (D := G) (ci := 0) (v := .ref t2) (C := RX0) (T := TX0) (N := 5) hx hb hts hin_X0 hown hK hP 0 rfl rfl 2 (by decide) k13 (fun _ h9 => h9) rfl dX0_addPart_32 ?_
  refine lv_aload_n hx hb dX0_addPart_35 rfl (lv_at hl 0 rfl) ?_
  refine va_get (D := G) (ci := 0) (v := .int 1) (C := RX0) (T := TX0) (N := 5) hx hb hts hin_X0 hown hK hP 0 rfl rfl 4 (by decide) k24 (fun _ h9 => h9) rfl dX0_addPart_36 ?_
  refine lv_iload_n hx hb dX0_addPart_39 rfl (lv_at hl 1 rfl) ?_
  refine va_iast hx hb hK hP hD hS 1 1 rfl rfl (by unfold vp_in; decide) dX0_addPart_40 (fun H locs hP hD hS => ?_)
  replace hP : va_P G vwCl [(h0, TxV t1 t2 t3 n0 1), (t2, .inl (cA 1, 60, .inl (upd bm 1 d0))), (t3, .inl (cA 1, 60, .inl tk))] H := hP
  replace hD : va_D (inW [(h0, TxV t1 t2 t3 n0 1), (t2, .inl (cA 1, 60, .inl bm)), (t3, .inl (cA 1, 60, .inl tk))]) [(h0, TxV t1 t2 t3 n0 1), (t2, .inl (cA 1, 60, .inl (upd bm 1 d0))), (t3, .inl (cA 1, 60, .inl tk))] := hD
  refine lv_aload_n hx hb dX0_addPart_41 rfl (lv_at hl 0 rfl) ?_
  refine va_get (D := G) (ci := 0) (v := .ref t3) (C := RX0) (T := TX0) (N := 5) hx hb hts hin_X0 hown hK hP 0 rfl rfl 3 (by decide) k17 (fun _ h9 => h9) rfl dX0_addPart_42 ?_
  refine lv_aload_n hx hb dX0_addPart_45 rfl (lv_at hl 0 rfl) ?_
  refine va_get (D := G) (ci := 0) (v := .int 1) (C := RX0) (T := TX0) (N := 5) hx hb hts hin_X0 hown hK hP 0 rfl rfl 4 (by decide) k24 (fun _ h9 => h9) rfl dX0_addPart_46 ?_
  refine lv_iconst (v := 1) hx hb dX0_addPart_49 (by decide) ?_
  refine va_iast hx hb hK hP hD hS 2 1 rfl rfl (by unfold vp_in; decide) dX0_addPart_50 (fun H locs hP hD hS => ?_)
  replace hP : va_P G vwCl [(h0, TxV t1 t2 t3 n0 1), (t2, .inl (cA 1, 60, .inl (upd bm 1 d0))), (t3, .inl (cA 1, 60, .inl (upd tk 1 1)))] H := hP
  replace hD : va_D (inW [(h0, TxV t1 t2 t3 n0 1), (t2, .inl (cA 1, 60, .inl bm)), (t3, .inl (cA 1, 60, .inl tk))]) [(h0, TxV t1 t2 t3 n0 1), (t2, .inl (cA 1, 60, .inl (upd bm 1 d0))), (t3, .inl (cA 1, 60, .inl (upd tk 1 1)))] := hD
  refine lv_aload_n hx hb dX0_addPart_51 rfl (lv_at hl 0 rfl) ?_
  refine lv_dup hx hb dX0_addPart_52 rfl ?_
  refine va_get (D := G) (ci := 0) (v := .int 1) (C := RX0) (T := TX0) (N := 5) hx hb hts hin_X0 hown hK hP 0 rfl rfl 4 (by decide) k24 (fun _ h9 => h9) rfl dX0_addPart_53 ?_
  refine lv_iconst (v := 1) hx hb dX0_addPart_56 (by decide) ?_
  refine lv_iadd hx hb dX0_addPart_57 ?_
  refine W.eq (g2 := F0 m 58 ls [.int 2, .ref h0]) rfl ?_
  refine va_put (D := G) (ci := 0) (v := .int 2) (ty := .int) (C := RX0) (T := TX0) (N := 5) hx hb hts hin_X0 tyX0 tyX0_ok nmX0 hown hK hP hD hS 0 rfl rfl 4 (by decide) k24 (fun _ h9 => h9) rfl (by decide +kernel) rfl rfl (Nat.le_of_ble_eq_true rfl) dX0_addPart_58 (fun H locs hP hD hS => ?_)
  replace hP : va_P G vwCl [(h0, TxV t1 t2 t3 n0 2), (t2, .inl (cA 1, 60, .inl (upd bm 1 d0))), (t3, .inl (cA 1, 60, .inl (upd tk 1 1)))] H := hP
  replace hD : va_D (inW [(h0, TxV t1 t2 t3 n0 1), (t2, .inl (cA 1, 60, .inl bm)), (t3, .inl (cA 1, 60, .inl tk))]) [(h0, TxV t1 t2 t3 n0 2), (t2, .inl (cA 1, 60, .inl (upd bm 1 d0))), (t3, .inl (cA 1, 60, .inl (upd tk 1 1)))] := hD
  exact en_wv hx hb hr hlocks hS hP dX0_addPart_61
set_option maxHeartbeats 4000000 in
set_option maxRecDepth 100000 in
/-- BeamText.changeTicksOfLastPart(value), with one part -/
theorem cX0_changeTicks_1 (l : Launch) (G : va_G) (cA : Nat → ClassId) (h0 t1 t2 t3 : Nat) (n0 : Int32) (tk : GG) (d0 : Int32) : Wv l yX0_changeTicksOfLastPart wsX0_changeTicksOfLastPart ({ frames := 0, cells := 0, slots := 0, locals := 0 } : Room) G cA [.ref h0, .int d0] [(h0, TxV t1 t2 t3 n0 1), (t3, .inl (cA 1, 60, .inl tk))] [(h0, TxV t1 t2 t3 n0 1), (t3, .inl (cA 1, 60, .inl (upd tk 0 d0)))] := by
  refine ofW2 (cc := cX0_changeTicksOfLastPart) (maxL := 2) (ret := none) (own := RX0) (by decide) rfl rfl (Nat.le_of_ble_eq_true rfl) rfl ?_
  intro p e s m below meth c ls hx hb hml hr hts hown hlocks hv hl
  obtain ⟨hP, hE, hD0⟩ := hv
  have hK := hE.1
  have hD := dself hD0
  generalize hH0 : s.heap = H at hP ⊢
  have hS : va_S (inW [(h0, TxV t1 t2 t3 n0 1), (t3, .inl (cA 1, 60, .inl tk))]) s.heap H [] := hH0 ▸ va_S.rf
  generalize ([] : List Loc) = locs at hS ⊢
  clear hH0 hD0
  replace hl : lv_has ls 2 [(0, .ref h0), (1, .int d0)] := hl
  have hin_X0 : ∀ q ∈ u_ws RX0 TX0 5, q ∈ wsX0_changeTicksOfLastPart := by decide +kernel
  have k24 := hts (.fieldLink RX0 24 "LiftBeams$BeamText" "parts" "I") (by decide +kernel)
  have k17 := hts (.fieldLink RX0 17 "LiftBeams$BeamText" "ticks" "[I") (by decide +kernel)
  refine lv_aload_n hx hb dX0_changeTicksOfLastPart_0 rfl (lv_at hl 0 rfl) ?_
  refine va_get (D := G) (ci := 0) (v := .int 1) (C := RX0) (T := TX0) (N := 5) hx hb hts hin_X0 hown hK hP 0 rfl rfl 4 (by decide) k24 (fun _ h9 => h9) rfl dX0_changeTicksOfLastPart_1 ?_
  refine lv_if_le (tgt := 31) hx hb dX0_changeTicksOfLastPart_4 (by decide) (fun h9 => absurd h9 (by decide)) (fun _ => ?_)
  refine lv_aload_n hx hb dX0_changeTicksOfLastPart_7 rfl (lv_at hl 0 rfl) ?_
  refine va_get (D := G) (ci := 0) (v := .int 1) (C := RX0) (T := TX0) (N := 5) hx hb hts hin_X0 hown hK hP 0 rfl rfl 4 (by decide) k24 (fun _ h9 => h9) rfl dX0_changeTicksOfLastPart_8 ?_
  refine lv_aload_n hx hb dX0_changeTicksOfLastPart_11 rfl (lv_at hl 0 rfl) ?_
  refine va_get (D := G) (ci := 0) (v := .ref t3) (C := RX0) (T := TX0) (N := 5) hx hb hts hin_X0 hown hK hP 0 rfl rfl 3 (by decide) k17 (fun _ h9 => h9) rfl dX0_changeTicksOfLastPart_12 ?_
  refine va_alen (v := 60) hx hb hK hP 1 1 rfl rfl rfl dX0_changeTicksOfLastPart_15 ?_
  refine lv_icmp_gt (tgt := 31) hx hb dX0_changeTicksOfLastPart_16 (by decide) (fun h9 => absurd h9 (by decide)) (fun _ => ?_)
  refine lv_aload_n hx hb dX0_changeTicksOfLastPart_19 rfl (lv_at hl 0 rfl) ?_
  refine va_get (D := G) (ci := 0) (v := .ref t3) (C := RX0) (T := TX0) (N := 5) hx hb hts hin_X0 hown hK hP 0 rfl rfl 3 (by decide) k17 (fun _ h9 => h9) rfl dX0_changeTicksOfLastPart_20 ?_
  refine lv_aload_n hx hb dX0_changeTicksOfLastPart_23 rfl (lv_at hl 0 rfl) ?_
  refine va_get (D := G) (ci := 0) (v := .int 1) (C := RX0) (T := TX0) (N := 5) hx hb hts hin_X0 hown hK hP 0 rfl rfl 4 (by decide) k24 (fun _ h9 => h9) rfl dX0_changeTicksOfLastPart_24 ?_
  refine lv_iconst (v := 1) hx hb dX0_changeTicksOfLastPart_27 (by decide) ?_
  refine lv_isub hx hb dX0_changeTicksOfLastPart_28 ?_
  refine W.eq (g2 := F0 m 29 ls [.int 0, .ref t3]) rfl ?_
  refine lv_iload_n hx hb dX0_changeTicksOfLastPart_29 rfl (lv_at hl 1 rfl) ?_
  refine va_iast hx hb hK hP hD hS 1 1 rfl rfl (by unfold vp_in; decide) dX0_changeTicksOfLastPart_30 (fun H locs hP hD hS => ?_)
  replace hP : va_P G vwCl [(h0, TxV t1 t2 t3 n0 1), (t3, .inl (cA 1, 60, .inl (upd tk 0 d0)))] H := hP
  replace hD : va_D (inW [(h0, TxV t1 t2 t3 n0 1), (t3, .inl (cA 1, 60, .inl tk))]) [(h0, TxV t1 t2 t3 n0 1), (t3, .inl (cA 1, 60, .inl (upd tk 0 d0)))] := hD
  exact en_wv hx hb hr hlocks hS hP dX0_changeTicksOfLastPart_31
set_option maxHeartbeats 4000000 in
set_option maxRecDepth 100000 in
/-- BeamText.take(digit, 1), with 0 parts -/
theorem cX0_take_1_0 (l : Launch) (G : va_G) (cA : Nat → ClassId) (h0 t1 t2 t3 : Nat) (n0 : Int32) (bm tk : GG) (d0 : Int32) : Wv l yX0_take wsX0_take ({ frames := 1, cells := 0, slots := 0, locals := 21 } : Room) G cA [.ref h0, .int d0, .int 1] [(h0, TxV t1 t2 t3 n0 0), (t2, .inl (cA 1, 60, .inl bm)), (t3, .inl (cA 1, 60, .inl tk))] [(h0, TxV t1 t2 t3 n0 1), (t2, .inl (cA 1, 60, .inl (upd bm 0 d0))), (t3, .inl (cA 1, 60, .inl (upd tk 0 1)))] := by
  refine ofW2 (cc := cX0_take) (maxL := 3) (ret := none) (own := RX0) (by decide) rfl rfl (Nat.le_of_ble_eq_true rfl) rfl ?_
  intro p e s m below meth c ls hx hb hml hr hts hown hlocks hv hl
  obtain ⟨hP, hE, hD0⟩ := hv
  have hK := hE.1
  have hD := dself hD0
  generalize hH0 : s.heap = H at hP ⊢
  have hS : va_S (inW [(h0, TxV t1 t2 t3 n0 0), (t2, .inl (cA 1, 60, .inl bm)), (t3, .inl (cA 1, 60, .inl tk))]) s.heap H [] := hH0 ▸ va_S.rf
  generalize ([] : List Loc) = locs at hS ⊢
  clear hH0 hD0
  replace hl : lv_has ls 3 [(0, .ref h0), (1, .int d0), (2, .int 1)] := hl
  have hin_X0 : ∀ q ∈ u_ws RX0 TX0 5, q ∈ wsX0_take := by decide +kernel
  have k24 := hts (.fieldLink RX0 24 "LiftBeams$BeamText" "parts" "I") (by decide +kernel)
  refine lv_iload_n hx hb dX0_take_0 rfl (lv_at hl 2 rfl) ?_
  refine lv_iconst (v := 1) hx hb dX0_take_1 (by decide) ?_
  refine lv_icmp_ne (tgt := 13) hx hb dX0_take_2 (by decide) (fun h9 => absurd (by decide) h9) (fun _ => ?_)
  refine lv_aload_n hx hb dX0_take_5 rfl (lv_at hl 0 rfl) ?_
  refine lv_iload_n hx hb dX0_take_6 rfl (lv_at hl 1 rfl) ?_
  refine wr_v (ws' := [(h0, TxV t1 t2 t3 n0 1), (t2, .inl (cA 1, 60, .inl (upd bm 0 d0))), (t3, .inl (cA 1, 60, .inl (upd tk 0 1)))]) (rV (rest := []) ⟨hx, hb, hml, hown, hts⟩ (cX0_addPart_0 l G cA h0 t1 t2 t3 n0 bm tk d0) (cwV 1 hts gX0_take_X0_addPart rfl rfl rfl mdX0_addPart ⟨Nat.le_of_ble_eq_true rfl, Nat.le_of_ble_eq_true rfl⟩) hE (hP.sub (ws' := [(h0, TxV t1 t2 t3 n0 0), (t2, .inl (cA 1, 60, .inl bm)), (t3, .inl (cA 1, 60, .inl tk))]) [0, 1, 2] rfl) (hD.sub (ws' := [(h0, TxV t1 t2 t3 n0 0), (t2, .inl (cA 1, 60, .inl bm)), (t3, .inl (cA 1, 60, .inl tk))]) [0, 1, 2] (by decide) rfl) (q0 := 0) (ci := 0) rfl rfl rfl hl rfl (Nat.le_of_ble_eq_true rfl) dX0_take_7 ⟨Nat.le_of_ble_eq_true rfl, Nat.le_of_ble_eq_true rfl⟩) hS hP hD [0, 1, 2] rfl rfl [] [] rfl rfl rfl rfl (fun H locs hP hD hS => ?_)
  refine lv_goto (tgt := 50) hx hb dX0_take_10 (by decide) ?_
  exact en_wv hx hb hr hlocks hS hP dX0_take_50
set_option maxHeartbeats 4000000 in
set_option maxRecDepth 100000 in
/-- BeamText.take(digit, 1), with 1 parts -/
theorem cX0_take_1_1 (l : Launch) (G : va_G) (cA : Nat → ClassId) (h0 t1 t2 t3 : Nat) (n0 : Int32) (bm tk : GG) (d0 : Int32) : Wv l yX0_take wsX0_take ({ frames := 1, cells := 0, slots := 0, locals := 21 } : Room) G cA [.ref h0, .int d0, .int 1] [(h0, TxV t1 t2 t3 n0 1), (t2, .inl (cA 1, 60, .inl bm)), (t3, .inl (cA 1, 60, .inl tk))] [(h0, TxV t1 t2 t3 n0 2), (t2, .inl (cA 1, 60, .inl (upd bm 1 d0))), (t3, .inl (cA 1, 60, .inl (upd tk 1 1)))] := by
  refine ofW2 (cc := cX0_take) (maxL := 3) (ret := none) (own := RX0) (by decide) rfl rfl (Nat.le_of_ble_eq_true rfl) rfl ?_
  intro p e s m below meth c ls hx hb hml hr hts hown hlocks hv hl
  obtain ⟨hP, hE, hD0⟩ := hv
  have hK := hE.1
  have hD := dself hD0
  generalize hH0 : s.heap = H at hP ⊢
  have hS : va_S (inW [(h0, TxV t1 t2 t3 n0 1), (t2, .inl (cA 1, 60, .inl bm)), (t3, .inl (cA 1, 60, .inl tk))]) s.heap H [] := hH0 ▸ va_S.rf
  generalize ([] : List Loc) = locs at hS ⊢
  clear hH0 hD0
  replace hl : lv_has ls 3 [(0, .ref h0), (1, .int d0), (2, .int 1)] := hl
  have hin_X0 : ∀ q ∈ u_ws RX0 TX0 5, q ∈ wsX0_take := by decide +kernel
  have k24 := hts (.fieldLink RX0 24 "LiftBeams$BeamText" "parts" "I") (by decide +kernel)
  refine lv_iload_n hx hb dX0_take_0 rfl (lv_at hl 2 rfl) ?_
  refine lv_iconst (v := 1) hx hb dX0_take_1 (by decide) ?_
  refine lv_icmp_ne (tgt := 13) hx hb dX0_take_2 (by decide) (fun h9 => absurd (by decide) h9) (fun _ => ?_)
  refine lv_aload_n hx hb dX0_take_5 rfl (lv_at hl 0 rfl) ?_
  refine lv_iload_n hx hb dX0_take_6 rfl (lv_at hl 1 rfl) ?_
  refine wr_v (ws' := [(h0, TxV t1 t2 t3 n0 2), (t2, .inl (cA 1, 60, .inl (upd bm 1 d0))), (t3, .inl (cA 1, 60, .inl (upd tk 1 1)))]) (rV (rest := []) ⟨hx, hb, hml, hown, hts⟩ (cX0_addPart_1 l G cA h0 t1 t2 t3 n0 bm tk d0) (cwV 1 hts gX0_take_X0_addPart rfl rfl rfl mdX0_addPart ⟨Nat.le_of_ble_eq_true rfl, Nat.le_of_ble_eq_true rfl⟩) hE (hP.sub (ws' := [(h0, TxV t1 t2 t3 n0 1), (t2, .inl (cA 1, 60, .inl bm)), (t3, .inl (cA 1, 60, .inl tk))]) [0, 1, 2] rfl) (hD.sub (ws' := [(h0, TxV t1 t2 t3 n0 1), (t2, .inl (cA 1, 60, .inl bm)), (t3, .inl (cA 1, 60, .inl tk))]) [0, 1, 2] (by decide) rfl) (q0 := 0) (ci := 0) rfl rfl rfl hl rfl (Nat.le_of_ble_eq_true rfl) dX0_take_7 ⟨Nat.le_of_ble_eq_true rfl, Nat.le_of_ble_eq_true rfl⟩) hS hP hD [0, 1, 2] rfl rfl [] [] rfl rfl rfl rfl (fun H locs hP hD hS => ?_)
  refine lv_goto (tgt := 50) hx hb dX0_take_10 (by decide) ?_
  exact en_wv hx hb hr hlocks hS hP dX0_take_50
set_option maxHeartbeats 4000000 in
set_option maxRecDepth 100000 in
/-- BeamText.take(digit, 3), with 1 parts -/
theorem cX0_take_3_1 (l : Launch) (G : va_G) (cA : Nat → ClassId) (h0 t1 t2 t3 : Nat) (n0 : Int32) (bm tk : GG) (d0 : Int32) : Wv l yX0_take wsX0_take ({ frames := 1, cells := 0, slots := 0, locals := 21 } : Room) G cA [.ref h0, .int d0, .int 3] [(h0, TxV t1 t2 t3 n0 1), (t2, .inl (cA 1, 60, .inl bm)), (t3, .inl (cA 1, 60, .inl tk))] [(h0, TxV t1 t2 t3 n0 1), (t2, .inl (cA 1, 60, .inl bm)), (t3, .inl (cA 1, 60, .inl (upd tk 0 d0)))] := by
  refine ofW2 (cc := cX0_take) (maxL := 3) (ret := none) (own := RX0) (by decide) rfl rfl (Nat.le_of_ble_eq_true rfl) rfl ?_
  intro p e s m below meth c ls hx hb hml hr hts hown hlocks hv hl
  obtain ⟨hP, hE, hD0⟩ := hv
  have hK := hE.1
  have hD := dself hD0
  generalize hH0 : s.heap = H at hP ⊢
  have hS : va_S (inW [(h0, TxV t1 t2 t3 n0 1), (t2, .inl (cA 1, 60, .inl bm)), (t3, .inl (cA 1, 60, .inl tk))]) s.heap H [] := hH0 ▸ va_S.rf
  generalize ([] : List Loc) = locs at hS ⊢
  clear hH0 hD0
  replace hl : lv_has ls 3 [(0, .ref h0), (1, .int d0), (2, .int 3)] := hl
  have hin_X0 : ∀ q ∈ u_ws RX0 TX0 5, q ∈ wsX0_take := by decide +kernel
  have k24 := hts (.fieldLink RX0 24 "LiftBeams$BeamText" "parts" "I") (by decide +kernel)
  refine lv_iload_n hx hb dX0_take_0 rfl (lv_at hl 2 rfl) ?_
  refine lv_iconst (v := 1) hx hb dX0_take_1 (by decide) ?_
  refine lv_icmp_ne (tgt := 13) hx hb dX0_take_2 (by decide) (fun _ => ?_) (fun h9 => absurd h9 (by decide))
  refine lv_iload_n hx hb dX0_take_13 rfl (lv_at hl 2 rfl) ?_
  refine lv_iconst (v := 3) hx hb dX0_take_14 (by decide) ?_
  refine lv_icmp_ne (tgt := 26) hx hb dX0_take_15 (by decide) (fun h9 => absurd (by decide) h9) (fun _ => ?_)
  refine lv_aload_n hx hb dX0_take_18 rfl (lv_at hl 0 rfl) ?_
  refine lv_iload_n hx hb dX0_take_19 rfl (lv_at hl 1 rfl) ?_
  refine wr_v (ws' := [(h0, TxV t1 t2 t3 n0 1), (t2, .inl (cA 1, 60, .inl bm)), (t3, .inl (cA 1, 60, .inl (upd tk 0 d0)))]) (rV (rest := []) ⟨hx, hb, hml, hown, hts⟩ (cX0_changeTicks_1 l G cA h0 t1 t2 t3 n0 tk d0) (cwV 1 hts gX0_take_X0_changeTicksOfLastPart rfl rfl rfl mdX0_changeTicksOfLastPart ⟨Nat.le_of_ble_eq_true rfl, Nat.le_of_ble_eq_true rfl⟩) hE (hP.sub (ws' := [(h0, TxV t1 t2 t3 n0 1), (t3, .inl (cA 1, 60, .inl tk))]) [0, 2] rfl) (hD.sub (ws' := [(h0, TxV t1 t2 t3 n0 1), (t3, .inl (cA 1, 60, .inl tk))]) [0, 2] (by decide) rfl) (q0 := 0) (ci := 0) rfl rfl rfl hl rfl (Nat.le_of_ble_eq_true rfl) dX0_take_20 ⟨Nat.le_of_ble_eq_true rfl, Nat.le_of_ble_eq_true rfl⟩) hS hP hD [0, 2] rfl rfl [1] [(t2, .inl (cA 1, 60, .inl bm))] rfl rfl rfl rfl (fun H locs hP hD hS => ?_)
  refine lv_goto (tgt := 50) hx hb dX0_take_23 (by decide) ?_
  exact en_wv hx hb hr hlocks hS hP dX0_take_50
set_option maxHeartbeats 4000000 in
set_option maxRecDepth 100000 in
/-- BeamText.take(digit, 0) -/
theorem cX0_take_0 (l : Launch) (G : va_G) (cA : Nat → ClassId) (h0 t1 t2 t3 : Nat) (n0 p0 : Int32) (d0 : Int32) : Wv l yX0_take wsX0_take ({ frames := 0, cells := 0, slots := 0, locals := 0 } : Room) G cA [.ref h0, .int d0, .int 0] [(h0, TxV t1 t2 t3 n0 p0)] [(h0, TxV t1 t2 t3 n0 p0)] := by
  refine ofW2 (cc := cX0_take) (maxL := 3) (ret := none) (own := RX0) (by decide) rfl rfl (Nat.le_of_ble_eq_true rfl) rfl ?_
  intro p e s m below meth c ls hx hb hml hr hts hown hlocks hv hl
  obtain ⟨hP, hE, hD0⟩ := hv
  have hK := hE.1
  have hD := dself hD0
  generalize hH0 : s.heap = H at hP ⊢
  have hS : va_S (inW [(h0, TxV t1 t2 t3 n0 p0)]) s.heap H [] := hH0 ▸ va_S.rf
  generalize ([] : List Loc) = locs at hS ⊢
  clear hH0 hD0
  replace hl : lv_has ls 3 [(0, .ref h0), (1, .int d0), (2, .int 0)] := hl
  have hin_X0 : ∀ q ∈ u_ws RX0 TX0 5, q ∈ wsX0_take := by decide +kernel
  have k24 := hts (.fieldLink RX0 24 "LiftBeams$BeamText" "parts" "I") (by decide +kernel)
  refine lv_iload_n hx hb dX0_take_0 rfl (lv_at hl 2 rfl) ?_
  refine lv_iconst (v := 1) hx hb dX0_take_1 (by decide) ?_
  refine lv_icmp_ne (tgt := 13) hx hb dX0_take_2 (by decide) (fun _ => ?_) (fun h9 => absurd h9 (by decide))
  refine lv_iload_n hx hb dX0_take_13 rfl (lv_at hl 2 rfl) ?_
  refine lv_iconst (v := 3) hx hb dX0_take_14 (by decide) ?_
  refine lv_icmp_ne (tgt := 26) hx hb dX0_take_15 (by decide) (fun _ => ?_) (fun h9 => absurd h9 (by decide))
  refine lv_iload_n hx hb dX0_take_26 rfl (lv_at hl 2 rfl) ?_
  refine lv_iconst (v := 4) hx hb dX0_take_27 (by decide) ?_
  refine lv_icmp_ne (tgt := 50) hx hb dX0_take_28 (by decide) (fun _ => ?_) (fun h9 => absurd h9 (by decide))
  exact en_wv hx hb hr hlocks hS hP dX0_take_50
set_option maxHeartbeats 4000000 in
set_option maxRecDepth 100000 in
/-- BeamText.take(digit, 2) -/
theorem cX0_take_2 (l : Launch) (G : va_G) (cA : Nat → ClassId) (h0 t1 t2 t3 : Nat) (n0 p0 : Int32) (d0 : Int32) : Wv l yX0_take wsX0_take ({ frames := 0, cells := 0, slots := 0, locals := 0 } : Room) G cA [.ref h0, .int d0, .int 2] [(h0, TxV t1 t2 t3 n0 p0)] [(h0, TxV t1 t2 t3 n0 p0)] := by
  refine ofW2 (cc := cX0_take) (maxL := 3) (ret := none) (own := RX0) (by decide) rfl rfl (Nat.le_of_ble_eq_true rfl) rfl ?_
  intro p e s m below meth c ls hx hb hml hr hts hown hlocks hv hl
  obtain ⟨hP, hE, hD0⟩ := hv
  have hK := hE.1
  have hD := dself hD0
  generalize hH0 : s.heap = H at hP ⊢
  have hS : va_S (inW [(h0, TxV t1 t2 t3 n0 p0)]) s.heap H [] := hH0 ▸ va_S.rf
  generalize ([] : List Loc) = locs at hS ⊢
  clear hH0 hD0
  replace hl : lv_has ls 3 [(0, .ref h0), (1, .int d0), (2, .int 2)] := hl
  have hin_X0 : ∀ q ∈ u_ws RX0 TX0 5, q ∈ wsX0_take := by decide +kernel
  have k24 := hts (.fieldLink RX0 24 "LiftBeams$BeamText" "parts" "I") (by decide +kernel)
  refine lv_iload_n hx hb dX0_take_0 rfl (lv_at hl 2 rfl) ?_
  refine lv_iconst (v := 1) hx hb dX0_take_1 (by decide) ?_
  refine lv_icmp_ne (tgt := 13) hx hb dX0_take_2 (by decide) (fun _ => ?_) (fun h9 => absurd h9 (by decide))
  refine lv_iload_n hx hb dX0_take_13 rfl (lv_at hl 2 rfl) ?_
  refine lv_iconst (v := 3) hx hb dX0_take_14 (by decide) ?_
  refine lv_icmp_ne (tgt := 26) hx hb dX0_take_15 (by decide) (fun _ => ?_) (fun h9 => absurd h9 (by decide))
  refine lv_iload_n hx hb dX0_take_26 rfl (lv_at hl 2 rfl) ?_
  refine lv_iconst (v := 4) hx hb dX0_take_27 (by decide) ?_
  refine lv_icmp_ne (tgt := 50) hx hb dX0_take_28 (by decide) (fun _ => ?_) (fun h9 => absurd h9 (by decide))
  exact en_wv hx hb hr hlocks hS hP dX0_take_50
set_option maxHeartbeats 4000000 in
set_option maxRecDepth 100000 in
/-- BeamText.parse() of no character -/
theorem cX0_parse_0 (l : Launch) (G : va_G) (cA : Nat → ClassId) (h0 t1 t2 t3 : Nat) (p0 : Int32) (ch bm tk : GG)  : Wi l yX0_parse wsX0_parse ({ frames := 0, cells := 0, slots := 0, locals := 0 } : Room) G cA [.ref h0] [(h0, TxV t1 t2 t3 0 p0), (t1, .inl (cA 2, 60, .inl ch)), (t2, .inl (cA 1, 60, .inl bm)), (t3, .inl (cA 1, 60, .inl tk))] (fun r => r = 0) [(h0, TxV t1 t2 t3 0 0), (t1, .inl (cA 2, 60, .inl ch)), (t2, .inl (cA 1, 60, .inl bm)), (t3, .inl (cA 1, 60, .inl tk))] := by
  refine ofW2 (cc := cX0_parse) (maxL := 3) (ret := (some .int)) (own := RX0) (by decide) rfl rfl (Nat.le_of_ble_eq_true rfl) rfl ?_
  intro p e s m below meth c ls hx hb hml hr hts hown hlocks hv hl
  obtain ⟨hP, hE, hD0⟩ := hv
  have hK := hE.1
  have hD := dself hD0
  generalize hH0 : s.heap = H at hP ⊢
  have hS : va_S (inW [(h0, TxV t1 t2 t3 0 p0), (t1, .inl (cA 2, 60, .inl ch)), (t2, .inl (cA 1, 60, .inl bm)), (t3, .inl (cA 1, 60, .inl tk))]) s.heap H [] := hH0 ▸ va_S.rf
  generalize ([] : List Loc) = locs at hS ⊢
  clear hH0 hD0
  replace hl : lv_has ls 3 [(0, .ref h0)] := hl
  have hin_X0 : ∀ q ∈ u_ws RX0 TX0 5, q ∈ wsX0_parse := by decide +kernel
  have k24 := hts (.fieldLink RX0 24 "LiftBeams$BeamText" "parts" "I") (by decide +kernel)
  have k20 := hts (.fieldLink RX0 20 "LiftBeams$BeamText" "length" "I") (by decide +kernel)
  have k9 := hts (.fieldLink RX0 9 "LiftBeams$BeamText" "characters" "[C") (by decide +kernel)
  refine lv_aload_n hx hb dX0_parse_0 rfl (lv_at hl 0 rfl) ?_
  refine lv_iconst (v := 0) hx hb dX0_parse_1 (by decide) ?_
  refine va_put (D := G) (ci := 0) (v := .int 0) (ty := .int) (C := RX0) (T := TX0) (N := 5) hx hb hts hin_X0 tyX0 tyX0_ok nmX0 hown hK hP hD hS 0 rfl rfl 4 (by decide) k24 (fun _ h9 => h9) rfl (by decide +kernel) rfl rfl (Nat.le_of_ble_eq_true rfl) dX0_parse_2 (fun H locs hP hD hS => ?_)
  replace hP : va_P G vwCl [(h0, TxV t1 t2 t3 0 0), (t1, .inl (cA 2, 60, .inl ch)), (t2, .inl (cA 1, 60, .inl bm)), (t3, .inl (cA 1, 60, .inl tk))] H := hP
  replace hD : va_D (inW [(h0, TxV t1 t2 t3 0 p0), (t1, .inl (cA 2, 60, .inl ch)), (t2, .inl (cA 1, 60, .inl bm)), (t3, .inl (cA 1, 60, .inl tk))]) [(h0, TxV t1 t2 t3 0 0), (t1, .inl (cA 2, 60, .inl ch)), (t2, .inl (cA 1, 60, .inl bm)), (t3, .inl (cA 1, 60, .inl tk))] := hD
  refine lv_iconst (v := 0) hx hb dX0_parse_5 (by decide) ?_
  refine lv_istore_n (lv' := [(1, .int 0), (0, .ref h0)]) hx hb dX0_parse_6 rfl hl (by decide) rfl (fun ls hl => ?_)
  refine lv_iconst (v := 0) hx hb dX0_parse_7 (by decide) ?_
  refine lv_istore_n (lv' := [(2, .int 0), (1, .int 0), (0, .ref h0)]) hx hb dX0_parse_8 rfl hl (by decide) rfl (fun ls hl => ?_)
  refine lv_iload_n hx hb dX0_parse_9 rfl (lv_at hl 0 rfl) ?_
  refine lv_aload_n hx hb dX0_parse_10 rfl (lv_at hl 2 rfl) ?_
  refine va_get (D := G) (ci := 0) (v := .int 0) (C := RX0) (T := TX0) (N := 5) hx hb hts hin_X0 hown hK hP 0 rfl rfl 1 (by decide) k20 (fun _ h9 => h9) rfl dX0_parse_11 ?_
  refine lv_icmp_ge (tgt := 64) hx hb dX0_parse_14 (by decide) (fun _ => ?_) (fun h9 => absurd (by decide) h9)
  refine lv_iload_n hx hb dX0_parse_64 rfl (lv_at hl 1 rfl) ?_
  refine lv_if_eq (tgt := 73) hx hb dX0_parse_65 (by decide) (fun _ => ?_) (fun h9 => absurd (by decide) h9)
  refine lv_aload_n hx hb dX0_parse_73 rfl (lv_at hl 2 rfl) ?_
  refine va_get (D := G) (ci := 0) (v := .int 0) (C := RX0) (T := TX0) (N := 5) hx hb hts hin_X0 hown hK hP 0 rfl rfl 1 (by decide) k20 (fun _ h9 => h9) rfl dX0_parse_74 ?_
  refine lv_goto (tgt := 81) hx hb dX0_parse_77 (by decide) ?_
  exact en_wi hx hb hr rfl hlocks hS rfl hP dX0_parse_81
set_option maxHeartbeats 4000000 in
set_option maxRecDepth 100000 in
/-- BeamText.parse() of 7*0 -/
theorem cX0_parse_3 (l : Launch) (G : va_G) (cA : Nat → ClassId) (h0 t1 t2 t3 : Nat) (p0 : Int32) (ch bm tk : GG) (e0 : ch 0 = 55) (e1 : ch 1 = 42) (e2 : ch 2 = 48) : Wi l yX0_parse wsX0_parse ({ frames := 2, cells := 0, slots := 0, locals := 43 } : Room) G cA [.ref h0] [(h0, TxV t1 t2 t3 3 p0), (t1, .inl (cA 2, 60, .inl ch)), (t2, .inl (cA 1, 60, .inl bm)), (t3, .inl (cA 1, 60, .inl tk))] (fun r => r = 2) [(h0, TxV t1 t2 t3 3 1), (t1, .inl (cA 2, 60, .inl ch)), (t2, .inl (cA 1, 60, .inl (upd bm 0 (ch 0 - 48)))), (t3, .inl (cA 1, 60, .inl (upd tk 0 1)))] := by
  refine ofW2 (cc := cX0_parse) (maxL := 3) (ret := (some .int)) (own := RX0) (by decide) rfl rfl (Nat.le_of_ble_eq_true rfl) rfl ?_
  intro p e s m below meth c ls hx hb hml hr hts hown hlocks hv hl
  obtain ⟨hP, hE, hD0⟩ := hv
  have hK := hE.1
  have hD := dself hD0
  generalize hH0 : s.heap = H at hP ⊢
  have hS : va_S (inW [(h0, TxV t1 t2 t3 3 p0), (t1, .inl (cA 2, 60, .inl ch)), (t2, .inl (cA 1, 60, .inl bm)), (t3, .inl (cA 1, 60, .inl tk))]) s.heap H [] := hH0 ▸ va_S.rf
  generalize ([] : List Loc) = locs at hS ⊢
  clear hH0 hD0
  replace hl : lv_has ls 3 [(0, .ref h0)] := hl
  have hin_X0 : ∀ q ∈ u_ws RX0 TX0 5, q ∈ wsX0_parse := by decide +kernel
  have k24 := hts (.fieldLink RX0 24 "LiftBeams$BeamText" "parts" "I") (by decide +kernel)
  have k20 := hts (.fieldLink RX0 20 "LiftBeams$BeamText" "length" "I") (by decide +kernel)
  have k9 := hts (.fieldLink RX0 9 "LiftBeams$BeamText" "characters" "[C") (by decide +kernel)
  refine lv_aload_n hx hb dX0_parse_0 rfl (lv_at hl 0 rfl) ?_
  refine lv_iconst (v := 0) hx hb dX0_parse_1 (by decide) ?_
  refine va_put (D := G) (ci := 0) (v := .int 0) (ty := .int) (C := RX0) (T := TX0) (N := 5) hx hb hts hin_X0 tyX0 tyX0_ok nmX0 hown hK hP hD hS 0 rfl rfl 4 (by decide) k24 (fun _ h9 => h9) rfl (by decide +kernel) rfl rfl (Nat.le_of_ble_eq_true rfl) dX0_parse_2 (fun H locs hP hD hS => ?_)
  replace hP : va_P G vwCl [(h0, TxV t1 t2 t3 3 0), (t1, .inl (cA 2, 60, .inl ch)), (t2, .inl (cA 1, 60, .inl bm)), (t3, .inl (cA 1, 60, .inl tk))] H := hP
  replace hD : va_D (inW [(h0, TxV t1 t2 t3 3 p0), (t1, .inl (cA 2, 60, .inl ch)), (t2, .inl (cA 1, 60, .inl bm)), (t3, .inl (cA 1, 60, .inl tk))]) [(h0, TxV t1 t2 t3 3 0), (t1, .inl (cA 2, 60, .inl ch)), (t2, .inl (cA 1, 60, .inl bm)), (t3, .inl (cA 1, 60, .inl tk))] := hD
  refine lv_iconst (v := 0) hx hb dX0_parse_5 (by decide) ?_
  refine lv_istore_n (lv' := [(1, .int 0), (0, .ref h0)]) hx hb dX0_parse_6 rfl hl (by decide) rfl (fun ls hl => ?_)
  refine lv_iconst (v := 0) hx hb dX0_parse_7 (by decide) ?_
  refine lv_istore_n (lv' := [(2, .int 0), (1, .int 0), (0, .ref h0)]) hx hb dX0_parse_8 rfl hl (by decide) rfl (fun ls hl => ?_)
  refine lv_iload_n hx hb dX0_parse_9 rfl (lv_at hl 0 rfl) ?_
  refine lv_aload_n hx hb dX0_parse_10 rfl (lv_at hl 2 rfl) ?_
  refine va_get (D := G) (ci := 0) (v := .int 3) (C := RX0) (T := TX0) (N := 5) hx hb hts hin_X0 hown hK hP 0 rfl rfl 1 (by decide) k20 (fun _ h9 => h9) rfl dX0_parse_11 ?_
  refine lv_icmp_ge (tgt := 64) hx hb dX0_parse_14 (by decide) (fun h9 => absurd h9 (by decide)) (fun _ => ?_)
  refine lv_iload_n hx hb dX0_parse_17 rfl (lv_at hl 0 rfl) ?_
  refine lv_aload_n hx hb dX0_parse_18 rfl (lv_at hl 2 rfl) ?_
  refine va_get (D := G) (ci := 0) (v := .ref t1) (C := RX0) (T := TX0) (N := 5) hx hb hts hin_X0 hown hK hP 0 rfl rfl 0 (by decide) k9 (fun _ h9 => h9) rfl dX0_parse_19 ?_
  refine va_alen (v := 60) hx hb hK hP 1 2 rfl rfl rfl dX0_parse_22 ?_
  refine lv_icmp_ge (tgt := 64) hx hb dX0_parse_23 (by decide) (fun h9 => absurd h9 (by decide)) (fun _ => ?_)
  refine lv_aload_n hx hb dX0_parse_26 rfl (lv_at hl 2 rfl) ?_
  refine va_get (D := G) (ci := 0) (v := .ref t1) (C := RX0) (T := TX0) (N := 5) hx hb hts hin_X0 hown hK hP 0 rfl rfl 0 (by decide) k9 (fun _ h9 => h9) rfl dX0_parse_27 ?_
  refine lv_iload_n hx hb dX0_parse_30 rfl (lv_at hl 0 rfl) ?_
  refine va_cald hx hb hK hP 1 2 rfl rfl (by unfold vp_in; decide) dX0_parse_31 ?_
  refine W.eq (g2 := F0 m 32 ls [.int (ch 0)]) rfl ?_
  refine lv_iload_n hx hb dX0_parse_32 rfl (lv_at hl 1 rfl) ?_
  refine rd_i (rS (rest := []) ⟨hx, hb, hml, hown, hts⟩ (cX0_standBehind_0 l G cA (ch 0)) (va_cwS 2 hts gX0_parse_X0_standBehind rfl rfl rfl mdX0_standBehind.2 ⟨Nat.le_of_ble_eq_true rfl, Nat.le_of_ble_eq_true rfl⟩) hE (hP.sub (ws' := []) [] rfl) (hD.sub (ws' := []) [] (by decide) rfl) rfl hl rfl (Nat.le_of_ble_eq_true rfl) dX0_parse_33 ⟨Nat.le_of_ble_eq_true rfl, Nat.le_of_ble_eq_true rfl⟩) hS hP (fun r_33 H locs hr_33 hP hS => ?_)
  rw [show sb0 (ch 0) = 1 from (by rw [e0]; decide)] at hr_33
  subst hr_33
  refine lv_istore_n (lv' := [(1, .int 1), (2, .int 0), (0, .ref h0)]) hx hb dX0_parse_36 rfl hl (by decide) rfl (fun ls hl => ?_)
  refine lv_iload_n hx hb dX0_parse_37 rfl (lv_at hl 0 rfl) ?_
  refine lv_iconst (v := 5) hx hb dX0_parse_38 (by decide) ?_
  refine lv_icmp_ne (tgt := 44) hx hb dX0_parse_39 (by decide) (fun _ => ?_) (fun h9 => absurd h9 (by decide))
  refine lv_aload_n hx hb dX0_parse_44 rfl (lv_at hl 2 rfl) ?_
  refine lv_aload_n hx hb dX0_parse_45 rfl (lv_at hl 2 rfl) ?_
  refine va_get (D := G) (ci := 0) (v := .ref t1) (C := RX0) (T := TX0) (N := 5) hx hb hts hin_X0 hown hK hP 0 rfl rfl 0 (by decide) k9 (fun _ h9 => h9) rfl dX0_parse_46 ?_
  refine lv_iload_n hx hb dX0_parse_49 rfl (lv_at hl 1 rfl) ?_
  refine va_cald hx hb hK hP 1 2 rfl rfl (by unfold vp_in; decide) dX0_parse_50 ?_
  refine W.eq (g2 := F0 m 51 ls [.int (ch 0), .ref h0]) rfl ?_
  refine lv_bipush (v := 48) hx hb dX0_parse_51 (by decide) ?_
  refine lv_isub hx hb dX0_parse_53 ?_
  refine lv_iload_n hx hb dX0_parse_54 rfl (lv_at hl 0 rfl) ?_
  refine wr_v (ws' := [(h0, TxV t1 t2 t3 3 1), (t1, .inl (cA 2, 60, .inl ch)), (t2, .inl (cA 1, 60, .inl (upd bm 0 ((ch 0) - 48)))), (t3, .inl (cA 1, 60, .inl (upd tk 0 1)))]) (rV (rest := []) ⟨hx, hb, hml, hown, hts⟩ (cX0_take_1_0 l G cA h0 t1 t2 t3 3 bm tk ((ch 0) - 48)) (cwV 2 hts gX0_parse_X0_take rfl rfl rfl mdX0_take ⟨Nat.le_of_ble_eq_true rfl, Nat.le_of_ble_eq_true rfl⟩) hE (hP.sub (ws' := [(h0, TxV t1 t2 t3 3 0), (t2, .inl (cA 1, 60, .inl bm)), (t3, .inl (cA 1, 60, .inl tk))]) [0, 2, 3] rfl) (hD.sub (ws' := [(h0, TxV t1 t2 t3 3 0), (t2, .inl (cA 1, 60, .inl bm)), (t3, .inl (cA 1, 60, .inl tk))]) [0, 2, 3] (by decide) rfl) (q0 := 0) (ci := 0) rfl rfl rfl hl rfl (Nat.le_of_ble_eq_true rfl) dX0_parse_55 ⟨Nat.le_of_ble_eq_true rfl, Nat.le_of_ble_eq_true rfl⟩) hS hP hD [0, 2, 3] rfl rfl [1] [(t1, .inl (cA 2, 60, .inl ch))] rfl rfl rfl rfl (fun H locs hP hD hS => ?_)
  refine lv_iinc (v := 1) (lv' := [(2, .int 1), (1, .int 1), (0, .ref h0)]) hx hb dX0_parse_58 hl (k := 1) rfl (by decide) (by decide) rfl (fun ls hl => ?_)
  refine lv_goto (tgt := 9) hx hb dX0_parse_61 (by decide) ?_
  refine lv_iload_n hx hb dX0_parse_9 rfl (lv_at hl 0 rfl) ?_
  refine lv_aload_n hx hb dX0_parse_10 rfl (lv_at hl 2 rfl) ?_
  refine va_get (D := G) (ci := 0) (v := .int 3) (C := RX0) (T := TX0) (N := 5) hx hb hts hin_X0 hown hK hP 0 rfl rfl 1 (by decide) k20 (fun _ h9 => h9) rfl dX0_parse_11 ?_
  refine lv_icmp_ge (tgt := 64) hx hb dX0_parse_14 (by decide) (fun h9 => absurd h9 (by decide)) (fun _ => ?_)
  refine lv_iload_n hx hb dX0_parse_17 rfl (lv_at hl 0 rfl) ?_
  refine lv_aload_n hx hb dX0_parse_18 rfl (lv_at hl 2 rfl) ?_
  refine va_get (D := G) (ci := 0) (v := .ref t1) (C := RX0) (T := TX0) (N := 5) hx hb hts hin_X0 hown hK hP 0 rfl rfl 0 (by decide) k9 (fun _ h9 => h9) rfl dX0_parse_19 ?_
  refine va_alen (v := 60) hx hb hK hP 1 2 rfl rfl rfl dX0_parse_22 ?_
  refine lv_icmp_ge (tgt := 64) hx hb dX0_parse_23 (by decide) (fun h9 => absurd h9 (by decide)) (fun _ => ?_)
  refine lv_aload_n hx hb dX0_parse_26 rfl (lv_at hl 2 rfl) ?_
  refine va_get (D := G) (ci := 0) (v := .ref t1) (C := RX0) (T := TX0) (N := 5) hx hb hts hin_X0 hown hK hP 0 rfl rfl 0 (by decide) k9 (fun _ h9 => h9) rfl dX0_parse_27 ?_
  refine lv_iload_n hx hb dX0_parse_30 rfl (lv_at hl 0 rfl) ?_
  refine va_cald hx hb hK hP 1 2 rfl rfl (by unfold vp_in; decide) dX0_parse_31 ?_
  refine W.eq (g2 := F0 m 32 ls [.int (ch 1)]) rfl ?_
  refine lv_iload_n hx hb dX0_parse_32 rfl (lv_at hl 1 rfl) ?_
  refine rd_i (rS (rest := []) ⟨hx, hb, hml, hown, hts⟩ (cX0_standBehind_1 l G cA (ch 1)) (va_cwS 2 hts gX0_parse_X0_standBehind rfl rfl rfl mdX0_standBehind.2 ⟨Nat.le_of_ble_eq_true rfl, Nat.le_of_ble_eq_true rfl⟩) hE (hP.sub (ws' := []) [] rfl) (hD.sub (ws' := []) [] (by decide) rfl) rfl hl rfl (Nat.le_of_ble_eq_true rfl) dX0_parse_33 ⟨Nat.le_of_ble_eq_true rfl, Nat.le_of_ble_eq_true rfl⟩) hS hP (fun r_33_1 H locs hr_33_1 hP hS => ?_)
  rw [show sb1 (ch 1) = 2 from (by rw [e1]; decide)] at hr_33_1
  subst hr_33_1
  refine lv_istore_n (lv' := [(1, .int 2), (2, .int 1), (0, .ref h0)]) hx hb dX0_parse_36 rfl hl (by decide) rfl (fun ls hl => ?_)
  refine lv_iload_n hx hb dX0_parse_37 rfl (lv_at hl 0 rfl) ?_
  refine lv_iconst (v := 5) hx hb dX0_parse_38 (by decide) ?_
  refine lv_icmp_ne (tgt := 44) hx hb dX0_parse_39 (by decide) (fun _ => ?_) (fun h9 => absurd h9 (by decide))
  refine lv_aload_n hx hb dX0_parse_44 rfl (lv_at hl 2 rfl) ?_
  refine lv_aload_n hx hb dX0_parse_45 rfl (lv_at hl 2 rfl) ?_
  refine va_get (D := G) (ci := 0) (v := .ref t1) (C := RX0) (T := TX0) (N := 5) hx hb hts hin_X0 hown hK hP 0 rfl rfl 0 (by decide) k9 (fun _ h9 => h9) rfl dX0_parse_46 ?_
  refine lv_iload_n hx hb dX0_parse_49 rfl (lv_at hl 1 rfl) ?_
  refine va_cald hx hb hK hP 1 2 rfl rfl (by unfold vp_in; decide) dX0_parse_50 ?_
  refine W.eq (g2 := F0 m 51 ls [.int (ch 1), .ref h0]) rfl ?_
  refine lv_bipush (v := 48) hx hb dX0_parse_51 (by decide) ?_
  refine lv_isub hx hb dX0_parse_53 ?_
  refine lv_iload_n hx hb dX0_parse_54 rfl (lv_at hl 0 rfl) ?_
  refine wr_v (ws' := [(h0, TxV t1 t2 t3 3 1), (t1, .inl (cA 2, 60, .inl ch)), (t2, .inl (cA 1, 60, .inl (upd bm 0 ((ch 0) - 48)))), (t3, .inl (cA 1, 60, .inl (upd tk 0 1)))]) (rV (rest := []) ⟨hx, hb, hml, hown, hts⟩ (cX0_take_2 l G cA h0 t1 t2 t3 3 1 ((ch 1) - 48)) (cwV 2 hts gX0_parse_X0_take rfl rfl rfl mdX0_take ⟨Nat.le_of_ble_eq_true rfl, Nat.le_of_ble_eq_true rfl⟩) hE (hP.sub (ws' := [(h0, TxV t1 t2 t3 3 1)]) [0] rfl) (hD.sub (ws' := [(h0, TxV t1 t2 t3 3 1)]) [0] (by decide) rfl) (q0 := 0) (ci := 0) rfl rfl rfl hl rfl (Nat.le_of_ble_eq_true rfl) dX0_parse_55 ⟨Nat.le_of_ble_eq_true rfl, Nat.le_of_ble_eq_true rfl⟩) hS hP hD [0] rfl rfl [1, 2, 3] [(t1, .inl (cA 2, 60, .inl ch)), (t2, .inl (cA 1, 60, .inl (upd bm 0 ((ch 0) - 48)))), (t3, .inl (cA 1, 60, .inl (upd tk 0 1)))] rfl rfl rfl rfl (fun H locs hP hD hS => ?_)
  refine lv_iinc (v := 2) (lv' := [(2, .int 2), (1, .int 2), (0, .ref h0)]) hx hb dX0_parse_58 hl (k := 1) rfl (by decide) (by decide) rfl (fun ls hl => ?_)
  refine lv_goto (tgt := 9) hx hb dX0_parse_61 (by decide) ?_
  refine lv_iload_n hx hb dX0_parse_9 rfl (lv_at hl 0 rfl) ?_
  refine lv_aload_n hx hb dX0_parse_10 rfl (lv_at hl 2 rfl) ?_
  refine va_get (D := G) (ci := 0) (v := .int 3) (C := RX0) (T := TX0) (N := 5) hx hb hts hin_X0 hown hK hP 0 rfl rfl 1 (by decide) k20 (fun _ h9 => h9) rfl dX0_parse_11 ?_
  refine lv_icmp_ge (tgt := 64) hx hb dX0_parse_14 (by decide) (fun h9 => absurd h9 (by decide)) (fun _ => ?_)
  refine lv_iload_n hx hb dX0_parse_17 rfl (lv_at hl 0 rfl) ?_
  refine lv_aload_n hx hb dX0_parse_18 rfl (lv_at hl 2 rfl) ?_
  refine va_get (D := G) (ci := 0) (v := .ref t1) (C := RX0) (T := TX0) (N := 5) hx hb hts hin_X0 hown hK hP 0 rfl rfl 0 (by decide) k9 (fun _ h9 => h9) rfl dX0_parse_19 ?_
  refine va_alen (v := 60) hx hb hK hP 1 2 rfl rfl rfl dX0_parse_22 ?_
  refine lv_icmp_ge (tgt := 64) hx hb dX0_parse_23 (by decide) (fun h9 => absurd h9 (by decide)) (fun _ => ?_)
  refine lv_aload_n hx hb dX0_parse_26 rfl (lv_at hl 2 rfl) ?_
  refine va_get (D := G) (ci := 0) (v := .ref t1) (C := RX0) (T := TX0) (N := 5) hx hb hts hin_X0 hown hK hP 0 rfl rfl 0 (by decide) k9 (fun _ h9 => h9) rfl dX0_parse_27 ?_
  refine lv_iload_n hx hb dX0_parse_30 rfl (lv_at hl 0 rfl) ?_
  refine va_cald hx hb hK hP 1 2 rfl rfl (by unfold vp_in; decide) dX0_parse_31 ?_
  refine W.eq (g2 := F0 m 32 ls [.int (ch 2)]) rfl ?_
  refine lv_iload_n hx hb dX0_parse_32 rfl (lv_at hl 1 rfl) ?_
  refine rd_i (rS (rest := []) ⟨hx, hb, hml, hown, hts⟩ (cX0_standBehind_2 l G cA (ch 2)) (va_cwS 2 hts gX0_parse_X0_standBehind rfl rfl rfl mdX0_standBehind.2 ⟨Nat.le_of_ble_eq_true rfl, Nat.le_of_ble_eq_true rfl⟩) hE (hP.sub (ws' := []) [] rfl) (hD.sub (ws' := []) [] (by decide) rfl) rfl hl rfl (Nat.le_of_ble_eq_true rfl) dX0_parse_33 ⟨Nat.le_of_ble_eq_true rfl, Nat.le_of_ble_eq_true rfl⟩) hS hP (fun r_33_2 H locs hr_33_2 hP hS => ?_)
  rw [show sb2 (ch 2) = 5 from (by rw [e2]; decide)] at hr_33_2
  subst hr_33_2
  refine lv_istore_n (lv' := [(1, .int 5), (2, .int 2), (0, .ref h0)]) hx hb dX0_parse_36 rfl hl (by decide) rfl (fun ls hl => ?_)
  refine lv_iload_n hx hb dX0_parse_37 rfl (lv_at hl 0 rfl) ?_
  refine lv_iconst (v := 5) hx hb dX0_parse_38 (by decide) ?_
  refine lv_icmp_ne (tgt := 44) hx hb dX0_parse_39 (by decide) (fun h9 => absurd (by decide) h9) (fun _ => ?_)
  refine lv_iload_n hx hb dX0_parse_42 rfl (lv_at hl 1 rfl) ?_
  exact en_wi hx hb hr rfl hlocks hS rfl hP dX0_parse_43
set_option maxHeartbeats 4000000 in
set_option maxRecDepth 100000 in
/-- BeamText.parse() of 78 -/
theorem cX0_parse_2 (l : Launch) (G : va_G) (cA : Nat → ClassId) (h0 t1 t2 t3 : Nat) (p0 : Int32) (ch bm tk : GG) (e0 : ch 0 = 55) (e1 : ch 1 = 56) : Wi l yX0_parse wsX0_parse ({ frames := 2, cells := 0, slots := 0, locals := 43 } : Room) G cA [.ref h0] [(h0, TxV t1 t2 t3 2 p0), (t1, .inl (cA 2, 60, .inl ch)), (t2, .inl (cA 1, 60, .inl bm)), (t3, .inl (cA 1, 60, .inl tk))] (fun r => r = 1) [(h0, TxV t1 t2 t3 2 1), (t1, .inl (cA 2, 60, .inl ch)), (t2, .inl (cA 1, 60, .inl (upd bm 0 (ch 0 - 48)))), (t3, .inl (cA 1, 60, .inl (upd tk 0 1)))] := by
  refine ofW2 (cc := cX0_parse) (maxL := 3) (ret := (some .int)) (own := RX0) (by decide) rfl rfl (Nat.le_of_ble_eq_true rfl) rfl ?_
  intro p e s m below meth c ls hx hb hml hr hts hown hlocks hv hl
  obtain ⟨hP, hE, hD0⟩ := hv
  have hK := hE.1
  have hD := dself hD0
  generalize hH0 : s.heap = H at hP ⊢
  have hS : va_S (inW [(h0, TxV t1 t2 t3 2 p0), (t1, .inl (cA 2, 60, .inl ch)), (t2, .inl (cA 1, 60, .inl bm)), (t3, .inl (cA 1, 60, .inl tk))]) s.heap H [] := hH0 ▸ va_S.rf
  generalize ([] : List Loc) = locs at hS ⊢
  clear hH0 hD0
  replace hl : lv_has ls 3 [(0, .ref h0)] := hl
  have hin_X0 : ∀ q ∈ u_ws RX0 TX0 5, q ∈ wsX0_parse := by decide +kernel
  have k24 := hts (.fieldLink RX0 24 "LiftBeams$BeamText" "parts" "I") (by decide +kernel)
  have k20 := hts (.fieldLink RX0 20 "LiftBeams$BeamText" "length" "I") (by decide +kernel)
  have k9 := hts (.fieldLink RX0 9 "LiftBeams$BeamText" "characters" "[C") (by decide +kernel)
  refine lv_aload_n hx hb dX0_parse_0 rfl (lv_at hl 0 rfl) ?_
  refine lv_iconst (v := 0) hx hb dX0_parse_1 (by decide) ?_
  refine va_put (D := G) (ci := 0) (v := .int 0) (ty := .int) (C := RX0) (T := TX0) (N := 5) hx hb hts hin_X0 tyX0 tyX0_ok nmX0 hown hK hP hD hS 0 rfl rfl 4 (by decide) k24 (fun _ h9 => h9) rfl (by decide +kernel) rfl rfl (Nat.le_of_ble_eq_true rfl) dX0_parse_2 (fun H locs hP hD hS => ?_)
  replace hP : va_P G vwCl [(h0, TxV t1 t2 t3 2 0), (t1, .inl (cA 2, 60, .inl ch)), (t2, .inl (cA 1, 60, .inl bm)), (t3, .inl (cA 1, 60, .inl tk))] H := hP
  replace hD : va_D (inW [(h0, TxV t1 t2 t3 2 p0), (t1, .inl (cA 2, 60, .inl ch)), (t2, .inl (cA 1, 60, .inl bm)), (t3, .inl (cA 1, 60, .inl tk))]) [(h0, TxV t1 t2 t3 2 0), (t1, .inl (cA 2, 60, .inl ch)), (t2, .inl (cA 1, 60, .inl bm)), (t3, .inl (cA 1, 60, .inl tk))] := hD
  refine lv_iconst (v := 0) hx hb dX0_parse_5 (by decide) ?_
  refine lv_istore_n (lv' := [(1, .int 0), (0, .ref h0)]) hx hb dX0_parse_6 rfl hl (by decide) rfl (fun ls hl => ?_)
  refine lv_iconst (v := 0) hx hb dX0_parse_7 (by decide) ?_
  refine lv_istore_n (lv' := [(2, .int 0), (1, .int 0), (0, .ref h0)]) hx hb dX0_parse_8 rfl hl (by decide) rfl (fun ls hl => ?_)
  refine lv_iload_n hx hb dX0_parse_9 rfl (lv_at hl 0 rfl) ?_
  refine lv_aload_n hx hb dX0_parse_10 rfl (lv_at hl 2 rfl) ?_
  refine va_get (D := G) (ci := 0) (v := .int 2) (C := RX0) (T := TX0) (N := 5) hx hb hts hin_X0 hown hK hP 0 rfl rfl 1 (by decide) k20 (fun _ h9 => h9) rfl dX0_parse_11 ?_
  refine lv_icmp_ge (tgt := 64) hx hb dX0_parse_14 (by decide) (fun h9 => absurd h9 (by decide)) (fun _ => ?_)
  refine lv_iload_n hx hb dX0_parse_17 rfl (lv_at hl 0 rfl) ?_
  refine lv_aload_n hx hb dX0_parse_18 rfl (lv_at hl 2 rfl) ?_
  refine va_get (D := G) (ci := 0) (v := .ref t1) (C := RX0) (T := TX0) (N := 5) hx hb hts hin_X0 hown hK hP 0 rfl rfl 0 (by decide) k9 (fun _ h9 => h9) rfl dX0_parse_19 ?_
  refine va_alen (v := 60) hx hb hK hP 1 2 rfl rfl rfl dX0_parse_22 ?_
  refine lv_icmp_ge (tgt := 64) hx hb dX0_parse_23 (by decide) (fun h9 => absurd h9 (by decide)) (fun _ => ?_)
  refine lv_aload_n hx hb dX0_parse_26 rfl (lv_at hl 2 rfl) ?_
  refine va_get (D := G) (ci := 0) (v := .ref t1) (C := RX0) (T := TX0) (N := 5) hx hb hts hin_X0 hown hK hP 0 rfl rfl 0 (by decide) k9 (fun _ h9 => h9) rfl dX0_parse_27 ?_
  refine lv_iload_n hx hb dX0_parse_30 rfl (lv_at hl 0 rfl) ?_
  refine va_cald hx hb hK hP 1 2 rfl rfl (by unfold vp_in; decide) dX0_parse_31 ?_
  refine W.eq (g2 := F0 m 32 ls [.int (ch 0)]) rfl ?_
  refine lv_iload_n hx hb dX0_parse_32 rfl (lv_at hl 1 rfl) ?_
  refine rd_i (rS (rest := []) ⟨hx, hb, hml, hown, hts⟩ (cX0_standBehind_0 l G cA (ch 0)) (va_cwS 2 hts gX0_parse_X0_standBehind rfl rfl rfl mdX0_standBehind.2 ⟨Nat.le_of_ble_eq_true rfl, Nat.le_of_ble_eq_true rfl⟩) hE (hP.sub (ws' := []) [] rfl) (hD.sub (ws' := []) [] (by decide) rfl) rfl hl rfl (Nat.le_of_ble_eq_true rfl) dX0_parse_33 ⟨Nat.le_of_ble_eq_true rfl, Nat.le_of_ble_eq_true rfl⟩) hS hP (fun r_33 H locs hr_33 hP hS => ?_)
  rw [show sb0 (ch 0) = 1 from (by rw [e0]; decide)] at hr_33
  subst hr_33
  refine lv_istore_n (lv' := [(1, .int 1), (2, .int 0), (0, .ref h0)]) hx hb dX0_parse_36 rfl hl (by decide) rfl (fun ls hl => ?_)
  refine lv_iload_n hx hb dX0_parse_37 rfl (lv_at hl 0 rfl) ?_
  refine lv_iconst (v := 5) hx hb dX0_parse_38 (by decide) ?_
  refine lv_icmp_ne (tgt := 44) hx hb dX0_parse_39 (by decide) (fun _ => ?_) (fun h9 => absurd h9 (by decide))
  refine lv_aload_n hx hb dX0_parse_44 rfl (lv_at hl 2 rfl) ?_
  refine lv_aload_n hx hb dX0_parse_45 rfl (lv_at hl 2 rfl) ?_
  refine va_get (D := G) (ci := 0) (v := .ref t1) (C := RX0) (T := TX0) (N := 5) hx hb hts hin_X0 hown hK hP 0 rfl rfl 0 (by decide) k9 (fun _ h9 => h9) rfl dX0_parse_46 ?_
  refine lv_iload_n hx hb dX0_parse_49 rfl (lv_at hl 1 rfl) ?_
  refine va_cald hx hb hK hP 1 2 rfl rfl (by unfold vp_in; decide) dX0_parse_50 ?_
  refine W.eq (g2 := F0 m 51 ls [.int (ch 0), .ref h0]) rfl ?_
  refine lv_bipush (v := 48) hx hb dX0_parse_51 (by decide) ?_
  refine lv_isub hx hb dX0_parse_53 ?_
  refine lv_iload_n hx hb dX0_parse_54 rfl (lv_at hl 0 rfl) ?_
  refine wr_v (ws' := [(h0, TxV t1 t2 t3 2 1), (t1, .inl (cA 2, 60, .inl ch)), (t2, .inl (cA 1, 60, .inl (upd bm 0 ((ch 0) - 48)))), (t3, .inl (cA 1, 60, .inl (upd tk 0 1)))]) (rV (rest := []) ⟨hx, hb, hml, hown, hts⟩ (cX0_take_1_0 l G cA h0 t1 t2 t3 2 bm tk ((ch 0) - 48)) (cwV 2 hts gX0_parse_X0_take rfl rfl rfl mdX0_take ⟨Nat.le_of_ble_eq_true rfl, Nat.le_of_ble_eq_true rfl⟩) hE (hP.sub (ws' := [(h0, TxV t1 t2 t3 2 0), (t2, .inl (cA 1, 60, .inl bm)), (t3, .inl (cA 1, 60, .inl tk))]) [0, 2, 3] rfl) (hD.sub (ws' := [(h0, TxV t1 t2 t3 2 0), (t2, .inl (cA 1, 60, .inl bm)), (t3, .inl (cA 1, 60, .inl tk))]) [0, 2, 3] (by decide) rfl) (q0 := 0) (ci := 0) rfl rfl rfl hl rfl (Nat.le_of_ble_eq_true rfl) dX0_parse_55 ⟨Nat.le_of_ble_eq_true rfl, Nat.le_of_ble_eq_true rfl⟩) hS hP hD [0, 2, 3] rfl rfl [1] [(t1, .inl (cA 2, 60, .inl ch))] rfl rfl rfl rfl (fun H locs hP hD hS => ?_)
  refine lv_iinc (v := 1) (lv' := [(2, .int 1), (1, .int 1), (0, .ref h0)]) hx hb dX0_parse_58 hl (k := 1) rfl (by decide) (by decide) rfl (fun ls hl => ?_)
  refine lv_goto (tgt := 9) hx hb dX0_parse_61 (by decide) ?_
  refine lv_iload_n hx hb dX0_parse_9 rfl (lv_at hl 0 rfl) ?_
  refine lv_aload_n hx hb dX0_parse_10 rfl (lv_at hl 2 rfl) ?_
  refine va_get (D := G) (ci := 0) (v := .int 2) (C := RX0) (T := TX0) (N := 5) hx hb hts hin_X0 hown hK hP 0 rfl rfl 1 (by decide) k20 (fun _ h9 => h9) rfl dX0_parse_11 ?_
  refine lv_icmp_ge (tgt := 64) hx hb dX0_parse_14 (by decide) (fun h9 => absurd h9 (by decide)) (fun _ => ?_)
  refine lv_iload_n hx hb dX0_parse_17 rfl (lv_at hl 0 rfl) ?_
  refine lv_aload_n hx hb dX0_parse_18 rfl (lv_at hl 2 rfl) ?_
  refine va_get (D := G) (ci := 0) (v := .ref t1) (C := RX0) (T := TX0) (N := 5) hx hb hts hin_X0 hown hK hP 0 rfl rfl 0 (by decide) k9 (fun _ h9 => h9) rfl dX0_parse_19 ?_
  refine va_alen (v := 60) hx hb hK hP 1 2 rfl rfl rfl dX0_parse_22 ?_
  refine lv_icmp_ge (tgt := 64) hx hb dX0_parse_23 (by decide) (fun h9 => absurd h9 (by decide)) (fun _ => ?_)
  refine lv_aload_n hx hb dX0_parse_26 rfl (lv_at hl 2 rfl) ?_
  refine va_get (D := G) (ci := 0) (v := .ref t1) (C := RX0) (T := TX0) (N := 5) hx hb hts hin_X0 hown hK hP 0 rfl rfl 0 (by decide) k9 (fun _ h9 => h9) rfl dX0_parse_27 ?_
  refine lv_iload_n hx hb dX0_parse_30 rfl (lv_at hl 0 rfl) ?_
  refine va_cald hx hb hK hP 1 2 rfl rfl (by unfold vp_in; decide) dX0_parse_31 ?_
  refine W.eq (g2 := F0 m 32 ls [.int (ch 1)]) rfl ?_
  refine lv_iload_n hx hb dX0_parse_32 rfl (lv_at hl 1 rfl) ?_
  refine rd_i (rS (rest := []) ⟨hx, hb, hml, hown, hts⟩ (cX0_standBehind_1 l G cA (ch 1)) (va_cwS 2 hts gX0_parse_X0_standBehind rfl rfl rfl mdX0_standBehind.2 ⟨Nat.le_of_ble_eq_true rfl, Nat.le_of_ble_eq_true rfl⟩) hE (hP.sub (ws' := []) [] rfl) (hD.sub (ws' := []) [] (by decide) rfl) rfl hl rfl (Nat.le_of_ble_eq_true rfl) dX0_parse_33 ⟨Nat.le_of_ble_eq_true rfl, Nat.le_of_ble_eq_true rfl⟩) hS hP (fun r_33_1 H locs hr_33_1 hP hS => ?_)
  rw [show sb1 (ch 1) = 5 from (by rw [e1]; decide)] at hr_33_1
  subst hr_33_1
  refine lv_istore_n (lv' := [(1, .int 5), (2, .int 1), (0, .ref h0)]) hx hb dX0_parse_36 rfl hl (by decide) rfl (fun ls hl => ?_)
  refine lv_iload_n hx hb dX0_parse_37 rfl (lv_at hl 0 rfl) ?_
  refine lv_iconst (v := 5) hx hb dX0_parse_38 (by decide) ?_
  refine lv_icmp_ne (tgt := 44) hx hb dX0_parse_39 (by decide) (fun h9 => absurd (by decide) h9) (fun _ => ?_)
  refine lv_iload_n hx hb dX0_parse_42 rfl (lv_at hl 1 rfl) ?_
  exact en_wi hx hb hr rfl hlocks hS rfl hP dX0_parse_43
set_option maxHeartbeats 4000000 in
set_option maxRecDepth 100000 in
/-- BeamText.parse() of two parts -/
theorem cX0_parse_5 (l : Launch) (G : va_G) (cA : Nat → ClassId) (h0 t1 t2 t3 : Nat) (p0 : Int32) (ch bm tk : GG) (d0 d1 d2 : Nat) (h0' : d0 < 8) (h1 : d1 < 9) (h2 : d2 < 8) (e0 : ch 0 = nI (48 + d0)) (e1 : ch 1 = 42) (e2 : ch 2 = nI (49 + d1)) (e3 : ch 3 = 44) (e4 : ch 4 = nI (48 + d2)) : Wi l yX0_parse wsX0_parse ({ frames := 2, cells := 0, slots := 0, locals := 43 } : Room) G cA [.ref h0] [(h0, TxV t1 t2 t3 5 p0), (t1, .inl (cA 2, 60, .inl ch)), (t2, .inl (cA 1, 60, .inl bm)), (t3, .inl (cA 1, 60, .inl tk))] (fun r => r = -1) [(h0, TxV t1 t2 t3 5 2), (t1, .inl (cA 2, 60, .inl ch)), (t2, .inl (cA 1, 60, .inl (upd (upd bm 0 (ch 0 - 48)) 1 (ch 4 - 48)))), (t3, .inl (cA 1, 60, .inl (upd (upd (upd tk 0 1) 0 (ch 2 - 48)) 1 1)))] := by
  refine ofW2 (cc := cX0_parse) (maxL := 3) (ret := (some .int)) (own := RX0) (by decide) rfl rfl (Nat.le_of_ble_eq_true rfl) rfl ?_
  intro p e s m below meth c ls hx hb hml hr hts hown hlocks hv hl
  obtain ⟨hP, hE, hD0⟩ := hv
  have hK := hE.1
  have hD := dself hD0
  generalize hH0 : s.heap = H at hP ⊢
  have hS : va_S (inW [(h0, TxV t1 t2 t3 5 p0), (t1, .inl (cA 2, 60, .inl ch)), (t2, .inl (cA 1, 60, .inl bm)), (t3, .inl (cA 1, 60, .inl tk))]) s.heap H [] := hH0 ▸ va_S.rf
  generalize ([] : List Loc) = locs at hS ⊢
  clear hH0 hD0
  replace hl : lv_has ls 3 [(0, .ref h0)] := hl
  have hin_X0 : ∀ q ∈ u_ws RX0 TX0 5, q ∈ wsX0_parse := by decide +kernel
  have k24 := hts (.fieldLink RX0 24 "LiftBeams$BeamText" "parts" "I") (by decide +kernel)
  have k20 := hts (.fieldLink RX0 20 "LiftBeams$BeamText" "length" "I") (by decide +kernel)
  have k9 := hts (.fieldLink RX0 9 "LiftBeams$BeamText" "characters" "[C") (by decide +kernel)
  refine lv_aload_n hx hb dX0_parse_0 rfl (lv_at hl 0 rfl) ?_
  refine lv_iconst (v := 0) hx hb dX0_parse_1 (by decide) ?_
  refine va_put (D := G) (ci := 0) (v := .int 0) (ty := .int) (C := RX0) (T := TX0) (N := 5) hx hb hts hin_X0 tyX0 tyX0_ok nmX0 hown hK hP hD hS 0 rfl rfl 4 (by decide) k24 (fun _ h9 => h9) rfl (by decide +kernel) rfl rfl (Nat.le_of_ble_eq_true rfl) dX0_parse_2 (fun H locs hP hD hS => ?_)
  replace hP : va_P G vwCl [(h0, TxV t1 t2 t3 5 0), (t1, .inl (cA 2, 60, .inl ch)), (t2, .inl (cA 1, 60, .inl bm)), (t3, .inl (cA 1, 60, .inl tk))] H := hP
  replace hD : va_D (inW [(h0, TxV t1 t2 t3 5 p0), (t1, .inl (cA 2, 60, .inl ch)), (t2, .inl (cA 1, 60, .inl bm)), (t3, .inl (cA 1, 60, .inl tk))]) [(h0, TxV t1 t2 t3 5 0), (t1, .inl (cA 2, 60, .inl ch)), (t2, .inl (cA 1, 60, .inl bm)), (t3, .inl (cA 1, 60, .inl tk))] := hD
  refine lv_iconst (v := 0) hx hb dX0_parse_5 (by decide) ?_
  refine lv_istore_n (lv' := [(1, .int 0), (0, .ref h0)]) hx hb dX0_parse_6 rfl hl (by decide) rfl (fun ls hl => ?_)
  refine lv_iconst (v := 0) hx hb dX0_parse_7 (by decide) ?_
  refine lv_istore_n (lv' := [(2, .int 0), (1, .int 0), (0, .ref h0)]) hx hb dX0_parse_8 rfl hl (by decide) rfl (fun ls hl => ?_)
  refine lv_iload_n hx hb dX0_parse_9 rfl (lv_at hl 0 rfl) ?_
  refine lv_aload_n hx hb dX0_parse_10 rfl (lv_at hl 2 rfl) ?_
  refine va_get (D := G) (ci := 0) (v := .int 5) (C := RX0) (T := TX0) (N := 5) hx hb hts hin_X0 hown hK hP 0 rfl rfl 1 (by decide) k20 (fun _ h9 => h9) rfl dX0_parse_11 ?_
  refine lv_icmp_ge (tgt := 64) hx hb dX0_parse_14 (by decide) (fun h9 => absurd h9 (by decide)) (fun _ => ?_)
  refine lv_iload_n hx hb dX0_parse_17 rfl (lv_at hl 0 rfl) ?_
  refine lv_aload_n hx hb dX0_parse_18 rfl (lv_at hl 2 rfl) ?_
  refine va_get (D := G) (ci := 0) (v := .ref t1) (C := RX0) (T := TX0) (N := 5) hx hb hts hin_X0 hown hK hP 0 rfl rfl 0 (by decide) k9 (fun _ h9 => h9) rfl dX0_parse_19 ?_
  refine va_alen (v := 60) hx hb hK hP 1 2 rfl rfl rfl dX0_parse_22 ?_
  refine lv_icmp_ge (tgt := 64) hx hb dX0_parse_23 (by decide) (fun h9 => absurd h9 (by decide)) (fun _ => ?_)
  refine lv_aload_n hx hb dX0_parse_26 rfl (lv_at hl 2 rfl) ?_
  refine va_get (D := G) (ci := 0) (v := .ref t1) (C := RX0) (T := TX0) (N := 5) hx hb hts hin_X0 hown hK hP 0 rfl rfl 0 (by decide) k9 (fun _ h9 => h9) rfl dX0_parse_27 ?_
  refine lv_iload_n hx hb dX0_parse_30 rfl (lv_at hl 0 rfl) ?_
  refine va_cald hx hb hK hP 1 2 rfl rfl (by unfold vp_in; decide) dX0_parse_31 ?_
  refine W.eq (g2 := F0 m 32 ls [.int (ch 0)]) rfl ?_
  refine lv_iload_n hx hb dX0_parse_32 rfl (lv_at hl 1 rfl) ?_
  refine rd_i (rS (rest := []) ⟨hx, hb, hml, hown, hts⟩ (cX0_standBehind_0 l G cA (ch 0)) (va_cwS 2 hts gX0_parse_X0_standBehind rfl rfl rfl mdX0_standBehind.2 ⟨Nat.le_of_ble_eq_true rfl, Nat.le_of_ble_eq_true rfl⟩) hE (hP.sub (ws' := []) [] rfl) (hD.sub (ws' := []) [] (by decide) rfl) rfl hl rfl (Nat.le_of_ble_eq_true rfl) dX0_parse_33 ⟨Nat.le_of_ble_eq_true rfl, Nat.le_of_ble_eq_true rfl⟩) hS hP (fun r_33 H locs hr_33 hP hS => ?_)
  rw [show sb0 (ch 0) = 1 from (by rw [e0]; exact sb0_ok d0 h0')] at hr_33
  subst hr_33
  refine lv_istore_n (lv' := [(1, .int 1), (2, .int 0), (0, .ref h0)]) hx hb dX0_parse_36 rfl hl (by decide) rfl (fun ls hl => ?_)
  refine lv_iload_n hx hb dX0_parse_37 rfl (lv_at hl 0 rfl) ?_
  refine lv_iconst (v := 5) hx hb dX0_parse_38 (by decide) ?_
  refine lv_icmp_ne (tgt := 44) hx hb dX0_parse_39 (by decide) (fun _ => ?_) (fun h9 => absurd h9 (by decide))
  refine lv_aload_n hx hb dX0_parse_44 rfl (lv_at hl 2 rfl) ?_
  refine lv_aload_n hx hb dX0_parse_45 rfl (lv_at hl 2 rfl) ?_
  refine va_get (D := G) (ci := 0) (v := .ref t1) (C := RX0) (T := TX0) (N := 5) hx hb hts hin_X0 hown hK hP 0 rfl rfl 0 (by decide) k9 (fun _ h9 => h9) rfl dX0_parse_46 ?_
  refine lv_iload_n hx hb dX0_parse_49 rfl (lv_at hl 1 rfl) ?_
  refine va_cald hx hb hK hP 1 2 rfl rfl (by unfold vp_in; decide) dX0_parse_50 ?_
  refine W.eq (g2 := F0 m 51 ls [.int (ch 0), .ref h0]) rfl ?_
  refine lv_bipush (v := 48) hx hb dX0_parse_51 (by decide) ?_
  refine lv_isub hx hb dX0_parse_53 ?_
  refine lv_iload_n hx hb dX0_parse_54 rfl (lv_at hl 0 rfl) ?_
  refine wr_v (ws' := [(h0, TxV t1 t2 t3 5 1), (t1, .inl (cA 2, 60, .inl ch)), (t2, .inl (cA 1, 60, .inl (upd bm 0 ((ch 0) - 48)))), (t3, .inl (cA 1, 60, .inl (upd tk 0 1)))]) (rV (rest := []) ⟨hx, hb, hml, hown, hts⟩ (cX0_take_1_0 l G cA h0 t1 t2 t3 5 bm tk ((ch 0) - 48)) (cwV 2 hts gX0_parse_X0_take rfl rfl rfl mdX0_take ⟨Nat.le_of_ble_eq_true rfl, Nat.le_of_ble_eq_true rfl⟩) hE (hP.sub (ws' := [(h0, TxV t1 t2 t3 5 0), (t2, .inl (cA 1, 60, .inl bm)), (t3, .inl (cA 1, 60, .inl tk))]) [0, 2, 3] rfl) (hD.sub (ws' := [(h0, TxV t1 t2 t3 5 0), (t2, .inl (cA 1, 60, .inl bm)), (t3, .inl (cA 1, 60, .inl tk))]) [0, 2, 3] (by decide) rfl) (q0 := 0) (ci := 0) rfl rfl rfl hl rfl (Nat.le_of_ble_eq_true rfl) dX0_parse_55 ⟨Nat.le_of_ble_eq_true rfl, Nat.le_of_ble_eq_true rfl⟩) hS hP hD [0, 2, 3] rfl rfl [1] [(t1, .inl (cA 2, 60, .inl ch))] rfl rfl rfl rfl (fun H locs hP hD hS => ?_)
  refine lv_iinc (v := 1) (lv' := [(2, .int 1), (1, .int 1), (0, .ref h0)]) hx hb dX0_parse_58 hl (k := 1) rfl (by decide) (by decide) rfl (fun ls hl => ?_)
  refine lv_goto (tgt := 9) hx hb dX0_parse_61 (by decide) ?_
  refine lv_iload_n hx hb dX0_parse_9 rfl (lv_at hl 0 rfl) ?_
  refine lv_aload_n hx hb dX0_parse_10 rfl (lv_at hl 2 rfl) ?_
  refine va_get (D := G) (ci := 0) (v := .int 5) (C := RX0) (T := TX0) (N := 5) hx hb hts hin_X0 hown hK hP 0 rfl rfl 1 (by decide) k20 (fun _ h9 => h9) rfl dX0_parse_11 ?_
  refine lv_icmp_ge (tgt := 64) hx hb dX0_parse_14 (by decide) (fun h9 => absurd h9 (by decide)) (fun _ => ?_)
  refine lv_iload_n hx hb dX0_parse_17 rfl (lv_at hl 0 rfl) ?_
  refine lv_aload_n hx hb dX0_parse_18 rfl (lv_at hl 2 rfl) ?_
  refine va_get (D := G) (ci := 0) (v := .ref t1) (C := RX0) (T := TX0) (N := 5) hx hb hts hin_X0 hown hK hP 0 rfl rfl 0 (by decide) k9 (fun _ h9 => h9) rfl dX0_parse_19 ?_
  refine va_alen (v := 60) hx hb hK hP 1 2 rfl rfl rfl dX0_parse_22 ?_
  refine lv_icmp_ge (tgt := 64) hx hb dX0_parse_23 (by decide) (fun h9 => absurd h9 (by decide)) (fun _ => ?_)
  refine lv_aload_n hx hb dX0_parse_26 rfl (lv_at hl 2 rfl) ?_
  refine va_get (D := G) (ci := 0) (v := .ref t1) (C := RX0) (T := TX0) (N := 5) hx hb hts hin_X0 hown hK hP 0 rfl rfl 0 (by decide) k9 (fun _ h9 => h9) rfl dX0_parse_27 ?_
  refine lv_iload_n hx hb dX0_parse_30 rfl (lv_at hl 0 rfl) ?_
  refine va_cald hx hb hK hP 1 2 rfl rfl (by unfold vp_in; decide) dX0_parse_31 ?_
  refine W.eq (g2 := F0 m 32 ls [.int (ch 1)]) rfl ?_
  refine lv_iload_n hx hb dX0_parse_32 rfl (lv_at hl 1 rfl) ?_
  refine rd_i (rS (rest := []) ⟨hx, hb, hml, hown, hts⟩ (cX0_standBehind_1 l G cA (ch 1)) (va_cwS 2 hts gX0_parse_X0_standBehind rfl rfl rfl mdX0_standBehind.2 ⟨Nat.le_of_ble_eq_true rfl, Nat.le_of_ble_eq_true rfl⟩) hE (hP.sub (ws' := []) [] rfl) (hD.sub (ws' := []) [] (by decide) rfl) rfl hl rfl (Nat.le_of_ble_eq_true rfl) dX0_parse_33 ⟨Nat.le_of_ble_eq_true rfl, Nat.le_of_ble_eq_true rfl⟩) hS hP (fun r_33_1 H locs hr_33_1 hP hS => ?_)
  rw [show sb1 (ch 1) = 2 from (by rw [e1]; decide)] at hr_33_1
  subst hr_33_1
  refine lv_istore_n (lv' := [(1, .int 2), (2, .int 1), (0, .ref h0)]) hx hb dX0_parse_36 rfl hl (by decide) rfl (fun ls hl => ?_)
  refine lv_iload_n hx hb dX0_parse_37 rfl (lv_at hl 0 rfl) ?_
  refine lv_iconst (v := 5) hx hb dX0_parse_38 (by decide) ?_
  refine lv_icmp_ne (tgt := 44) hx hb dX0_parse_39 (by decide) (fun _ => ?_) (fun h9 => absurd h9 (by decide))
  refine lv_aload_n hx hb dX0_parse_44 rfl (lv_at hl 2 rfl) ?_
  refine lv_aload_n hx hb dX0_parse_45 rfl (lv_at hl 2 rfl) ?_
  refine va_get (D := G) (ci := 0) (v := .ref t1) (C := RX0) (T := TX0) (N := 5) hx hb hts hin_X0 hown hK hP 0 rfl rfl 0 (by decide) k9 (fun _ h9 => h9) rfl dX0_parse_46 ?_
  refine lv_iload_n hx hb dX0_parse_49 rfl (lv_at hl 1 rfl) ?_
  refine va_cald hx hb hK hP 1 2 rfl rfl (by unfold vp_in; decide) dX0_parse_50 ?_
  refine W.eq (g2 := F0 m 51 ls [.int (ch 1), .ref h0]) rfl ?_
  refine lv_bipush (v := 48) hx hb dX0_parse_51 (by decide) ?_
  refine lv_isub hx hb dX0_parse_53 ?_
  refine lv_iload_n hx hb dX0_parse_54 rfl (lv_at hl 0 rfl) ?_
  refine wr_v (ws' := [(h0, TxV t1 t2 t3 5 1), (t1, .inl (cA 2, 60, .inl ch)), (t2, .inl (cA 1, 60, .inl (upd bm 0 ((ch 0) - 48)))), (t3, .inl (cA 1, 60, .inl (upd tk 0 1)))]) (rV (rest := []) ⟨hx, hb, hml, hown, hts⟩ (cX0_take_2 l G cA h0 t1 t2 t3 5 1 ((ch 1) - 48)) (cwV 2 hts gX0_parse_X0_take rfl rfl rfl mdX0_take ⟨Nat.le_of_ble_eq_true rfl, Nat.le_of_ble_eq_true rfl⟩) hE (hP.sub (ws' := [(h0, TxV t1 t2 t3 5 1)]) [0] rfl) (hD.sub (ws' := [(h0, TxV t1 t2 t3 5 1)]) [0] (by decide) rfl) (q0 := 0) (ci := 0) rfl rfl rfl hl rfl (Nat.le_of_ble_eq_true rfl) dX0_parse_55 ⟨Nat.le_of_ble_eq_true rfl, Nat.le_of_ble_eq_true rfl⟩) hS hP hD [0] rfl rfl [1, 2, 3] [(t1, .inl (cA 2, 60, .inl ch)), (t2, .inl (cA 1, 60, .inl (upd bm 0 ((ch 0) - 48)))), (t3, .inl (cA 1, 60, .inl (upd tk 0 1)))] rfl rfl rfl rfl (fun H locs hP hD hS => ?_)
  refine lv_iinc (v := 2) (lv' := [(2, .int 2), (1, .int 2), (0, .ref h0)]) hx hb dX0_parse_58 hl (k := 1) rfl (by decide) (by decide) rfl (fun ls hl => ?_)
  refine lv_goto (tgt := 9) hx hb dX0_parse_61 (by decide) ?_
  refine lv_iload_n hx hb dX0_parse_9 rfl (lv_at hl 0 rfl) ?_
  refine lv_aload_n hx hb dX0_parse_10 rfl (lv_at hl 2 rfl) ?_
  refine va_get (D := G) (ci := 0) (v := .int 5) (C := RX0) (T := TX0) (N := 5) hx hb hts hin_X0 hown hK hP 0 rfl rfl 1 (by decide) k20 (fun _ h9 => h9) rfl dX0_parse_11 ?_
  refine lv_icmp_ge (tgt := 64) hx hb dX0_parse_14 (by decide) (fun h9 => absurd h9 (by decide)) (fun _ => ?_)
  refine lv_iload_n hx hb dX0_parse_17 rfl (lv_at hl 0 rfl) ?_
  refine lv_aload_n hx hb dX0_parse_18 rfl (lv_at hl 2 rfl) ?_
  refine va_get (D := G) (ci := 0) (v := .ref t1) (C := RX0) (T := TX0) (N := 5) hx hb hts hin_X0 hown hK hP 0 rfl rfl 0 (by decide) k9 (fun _ h9 => h9) rfl dX0_parse_19 ?_
  refine va_alen (v := 60) hx hb hK hP 1 2 rfl rfl rfl dX0_parse_22 ?_
  refine lv_icmp_ge (tgt := 64) hx hb dX0_parse_23 (by decide) (fun h9 => absurd h9 (by decide)) (fun _ => ?_)
  refine lv_aload_n hx hb dX0_parse_26 rfl (lv_at hl 2 rfl) ?_
  refine va_get (D := G) (ci := 0) (v := .ref t1) (C := RX0) (T := TX0) (N := 5) hx hb hts hin_X0 hown hK hP 0 rfl rfl 0 (by decide) k9 (fun _ h9 => h9) rfl dX0_parse_27 ?_
  refine lv_iload_n hx hb dX0_parse_30 rfl (lv_at hl 0 rfl) ?_
  refine va_cald hx hb hK hP 1 2 rfl rfl (by unfold vp_in; decide) dX0_parse_31 ?_
  refine W.eq (g2 := F0 m 32 ls [.int (ch 2)]) rfl ?_
  refine lv_iload_n hx hb dX0_parse_32 rfl (lv_at hl 1 rfl) ?_
  refine rd_i (rS (rest := []) ⟨hx, hb, hml, hown, hts⟩ (cX0_standBehind_2 l G cA (ch 2)) (va_cwS 2 hts gX0_parse_X0_standBehind rfl rfl rfl mdX0_standBehind.2 ⟨Nat.le_of_ble_eq_true rfl, Nat.le_of_ble_eq_true rfl⟩) hE (hP.sub (ws' := []) [] rfl) (hD.sub (ws' := []) [] (by decide) rfl) rfl hl rfl (Nat.le_of_ble_eq_true rfl) dX0_parse_33 ⟨Nat.le_of_ble_eq_true rfl, Nat.le_of_ble_eq_true rfl⟩) hS hP (fun r_33_2 H locs hr_33_2 hP hS => ?_)
  rw [show sb2 (ch 2) = 3 from (by rw [e2]; exact sb2_ok d1 h1)] at hr_33_2
  subst hr_33_2
  refine lv_istore_n (lv' := [(1, .int 3), (2, .int 2), (0, .ref h0)]) hx hb dX0_parse_36 rfl hl (by decide) rfl (fun ls hl => ?_)
  refine lv_iload_n hx hb dX0_parse_37 rfl (lv_at hl 0 rfl) ?_
  refine lv_iconst (v := 5) hx hb dX0_parse_38 (by decide) ?_
  refine lv_icmp_ne (tgt := 44) hx hb dX0_parse_39 (by decide) (fun _ => ?_) (fun h9 => absurd h9 (by decide))
  refine lv_aload_n hx hb dX0_parse_44 rfl (lv_at hl 2 rfl) ?_
  refine lv_aload_n hx hb dX0_parse_45 rfl (lv_at hl 2 rfl) ?_
  refine va_get (D := G) (ci := 0) (v := .ref t1) (C := RX0) (T := TX0) (N := 5) hx hb hts hin_X0 hown hK hP 0 rfl rfl 0 (by decide) k9 (fun _ h9 => h9) rfl dX0_parse_46 ?_
  refine lv_iload_n hx hb dX0_parse_49 rfl (lv_at hl 1 rfl) ?_
  refine va_cald hx hb hK hP 1 2 rfl rfl (by unfold vp_in; decide) dX0_parse_50 ?_
  refine W.eq (g2 := F0 m 51 ls [.int (ch 2), .ref h0]) rfl ?_
  refine lv_bipush (v := 48) hx hb dX0_parse_51 (by decide) ?_
  refine lv_isub hx hb dX0_parse_53 ?_
  refine lv_iload_n hx hb dX0_parse_54 rfl (lv_at hl 0 rfl) ?_
  refine wr_v (ws' := [(h0, TxV t1 t2 t3 5 1), (t1, .inl (cA 2, 60, .inl ch)), (t2, .inl (cA 1, 60, .inl (upd bm 0 ((ch 0) - 48)))), (t3, .inl (cA 1, 60, .inl (upd (upd tk 0 1) 0 ((ch 2) - 48))))]) (rV (rest := []) ⟨hx, hb, hml, hown, hts⟩ (cX0_take_3_1 l G cA h0 t1 t2 t3 5 (upd bm 0 ((ch 0) - 48)) (upd tk 0 1) ((ch 2) - 48)) (cwV 2 hts gX0_parse_X0_take rfl rfl rfl mdX0_take ⟨Nat.le_of_ble_eq_true rfl, Nat.le_of_ble_eq_true rfl⟩) hE (hP.sub (ws' := [(h0, TxV t1 t2 t3 5 1), (t2, .inl (cA 1, 60, .inl (upd bm 0 ((ch 0) - 48)))), (t3, .inl (cA 1, 60, .inl (upd tk 0 1)))]) [0, 2, 3] rfl) (hD.sub (ws' := [(h0, TxV t1 t2 t3 5 1), (t2, .inl (cA 1, 60, .inl (upd bm 0 ((ch 0) - 48)))), (t3, .inl (cA 1, 60, .inl (upd tk 0 1)))]) [0, 2, 3] (by decide) rfl) (q0 := 0) (ci := 0) rfl rfl rfl hl rfl (Nat.le_of_ble_eq_true rfl) dX0_parse_55 ⟨Nat.le_of_ble_eq_true rfl, Nat.le_of_ble_eq_true rfl⟩) hS hP hD [0, 2, 3] rfl rfl [1] [(t1, .inl (cA 2, 60, .inl ch))] rfl rfl rfl rfl (fun H locs hP hD hS => ?_)
  refine lv_iinc (v := 3) (lv' := [(2, .int 3), (1, .int 3), (0, .ref h0)]) hx hb dX0_parse_58 hl (k := 1) rfl (by decide) (by decide) rfl (fun ls hl => ?_)
  refine lv_goto (tgt := 9) hx hb dX0_parse_61 (by decide) ?_
  refine lv_iload_n hx hb dX0_parse_9 rfl (lv_at hl 0 rfl) ?_
  refine lv_aload_n hx hb dX0_parse_10 rfl (lv_at hl 2 rfl) ?_
  refine va_get (D := G) (ci := 0) (v := .int 5) (C := RX0) (T := TX0) (N := 5) hx hb hts hin_X0 hown hK hP 0 rfl rfl 1 (by decide) k20 (fun _ h9 => h9) rfl dX0_parse_11 ?_
  refine lv_icmp_ge (tgt := 64) hx hb dX0_parse_14 (by decide) (fun h9 => absurd h9 (by decide)) (fun _ => ?_)
  refine lv_iload_n hx hb dX0_parse_17 rfl (lv_at hl 0 rfl) ?_
  refine lv_aload_n hx hb dX0_parse_18 rfl (lv_at hl 2 rfl) ?_
  refine va_get (D := G) (ci := 0) (v := .ref t1) (C := RX0) (T := TX0) (N := 5) hx hb hts hin_X0 hown hK hP 0 rfl rfl 0 (by decide) k9 (fun _ h9 => h9) rfl dX0_parse_19 ?_
  refine va_alen (v := 60) hx hb hK hP 1 2 rfl rfl rfl dX0_parse_22 ?_
  refine lv_icmp_ge (tgt := 64) hx hb dX0_parse_23 (by decide) (fun h9 => absurd h9 (by decide)) (fun _ => ?_)
  refine lv_aload_n hx hb dX0_parse_26 rfl (lv_at hl 2 rfl) ?_
  refine va_get (D := G) (ci := 0) (v := .ref t1) (C := RX0) (T := TX0) (N := 5) hx hb hts hin_X0 hown hK hP 0 rfl rfl 0 (by decide) k9 (fun _ h9 => h9) rfl dX0_parse_27 ?_
  refine lv_iload_n hx hb dX0_parse_30 rfl (lv_at hl 0 rfl) ?_
  refine va_cald hx hb hK hP 1 2 rfl rfl (by unfold vp_in; decide) dX0_parse_31 ?_
  refine W.eq (g2 := F0 m 32 ls [.int (ch 3)]) rfl ?_
  refine lv_iload_n hx hb dX0_parse_32 rfl (lv_at hl 1 rfl) ?_
  refine rd_i (rS (rest := []) ⟨hx, hb, hml, hown, hts⟩ (cX0_standBehind_3 l G cA (ch 3)) (va_cwS 2 hts gX0_parse_X0_standBehind rfl rfl rfl mdX0_standBehind.2 ⟨Nat.le_of_ble_eq_true rfl, Nat.le_of_ble_eq_true rfl⟩) hE (hP.sub (ws' := []) [] rfl) (hD.sub (ws' := []) [] (by decide) rfl) rfl hl rfl (Nat.le_of_ble_eq_true rfl) dX0_parse_33 ⟨Nat.le_of_ble_eq_true rfl, Nat.le_of_ble_eq_true rfl⟩) hS hP (fun r_33_3 H locs hr_33_3 hP hS => ?_)
  rw [show sb3 (ch 3) = 0 from (by rw [e3]; decide)] at hr_33_3
  subst hr_33_3
  refine lv_istore_n (lv' := [(1, .int 0), (2, .int 3), (0, .ref h0)]) hx hb dX0_parse_36 rfl hl (by decide) rfl (fun ls hl => ?_)
  refine lv_iload_n hx hb dX0_parse_37 rfl (lv_at hl 0 rfl) ?_
  refine lv_iconst (v := 5) hx hb dX0_parse_38 (by decide) ?_
  refine lv_icmp_ne (tgt := 44) hx hb dX0_parse_39 (by decide) (fun _ => ?_) (fun h9 => absurd h9 (by decide))
  refine lv_aload_n hx hb dX0_parse_44 rfl (lv_at hl 2 rfl) ?_
  refine lv_aload_n hx hb dX0_parse_45 rfl (lv_at hl 2 rfl) ?_
  refine va_get (D := G) (ci := 0) (v := .ref t1) (C := RX0) (T := TX0) (N := 5) hx hb hts hin_X0 hown hK hP 0 rfl rfl 0 (by decide) k9 (fun _ h9 => h9) rfl dX0_parse_46 ?_
  refine lv_iload_n hx hb dX0_parse_49 rfl (lv_at hl 1 rfl) ?_
  refine va_cald hx hb hK hP 1 2 rfl rfl (by unfold vp_in; decide) dX0_parse_50 ?_
  refine W.eq (g2 := F0 m 51 ls [.int (ch 3), .ref h0]) rfl ?_
  refine lv_bipush (v := 48) hx hb dX0_parse_51 (by decide) ?_
  refine lv_isub hx hb dX0_parse_53 ?_
  refine lv_iload_n hx hb dX0_parse_54 rfl (lv_at hl 0 rfl) ?_
  refine wr_v (ws' := [(h0, TxV t1 t2 t3 5 1), (t1, .inl (cA 2, 60, .inl ch)), (t2, .inl (cA 1, 60, .inl (upd bm 0 ((ch 0) - 48)))), (t3, .inl (cA 1, 60, .inl (upd (upd tk 0 1) 0 ((ch 2) - 48))))]) (rV (rest := []) ⟨hx, hb, hml, hown, hts⟩ (cX0_take_0 l G cA h0 t1 t2 t3 5 1 ((ch 3) - 48)) (cwV 2 hts gX0_parse_X0_take rfl rfl rfl mdX0_take ⟨Nat.le_of_ble_eq_true rfl, Nat.le_of_ble_eq_true rfl⟩) hE (hP.sub (ws' := [(h0, TxV t1 t2 t3 5 1)]) [0] rfl) (hD.sub (ws' := [(h0, TxV t1 t2 t3 5 1)]) [0] (by decide) rfl) (q0 := 0) (ci := 0) rfl rfl rfl hl rfl (Nat.le_of_ble_eq_true rfl) dX0_parse_55 ⟨Nat.le_of_ble_eq_true rfl, Nat.le_of_ble_eq_true rfl⟩) hS hP hD [0] rfl rfl [1, 2, 3] [(t1, .inl (cA 2, 60, .inl ch)), (t2, .inl (cA 1, 60, .inl (upd bm 0 ((ch 0) - 48)))), (t3, .inl (cA 1, 60, .inl (upd (upd tk 0 1) 0 ((ch 2) - 48))))] rfl rfl rfl rfl (fun H locs hP hD hS => ?_)
  refine lv_iinc (v := 4) (lv' := [(2, .int 4), (1, .int 0), (0, .ref h0)]) hx hb dX0_parse_58 hl (k := 1) rfl (by decide) (by decide) rfl (fun ls hl => ?_)
  refine lv_goto (tgt := 9) hx hb dX0_parse_61 (by decide) ?_
  refine lv_iload_n hx hb dX0_parse_9 rfl (lv_at hl 0 rfl) ?_
  refine lv_aload_n hx hb dX0_parse_10 rfl (lv_at hl 2 rfl) ?_
  refine va_get (D := G) (ci := 0) (v := .int 5) (C := RX0) (T := TX0) (N := 5) hx hb hts hin_X0 hown hK hP 0 rfl rfl 1 (by decide) k20 (fun _ h9 => h9) rfl dX0_parse_11 ?_
  refine lv_icmp_ge (tgt := 64) hx hb dX0_parse_14 (by decide) (fun h9 => absurd h9 (by decide)) (fun _ => ?_)
  refine lv_iload_n hx hb dX0_parse_17 rfl (lv_at hl 0 rfl) ?_
  refine lv_aload_n hx hb dX0_parse_18 rfl (lv_at hl 2 rfl) ?_
  refine va_get (D := G) (ci := 0) (v := .ref t1) (C := RX0) (T := TX0) (N := 5) hx hb hts hin_X0 hown hK hP 0 rfl rfl 0 (by decide) k9 (fun _ h9 => h9) rfl dX0_parse_19 ?_
  refine va_alen (v := 60) hx hb hK hP 1 2 rfl rfl rfl dX0_parse_22 ?_
  refine lv_icmp_ge (tgt := 64) hx hb dX0_parse_23 (by decide) (fun h9 => absurd h9 (by decide)) (fun _ => ?_)
  refine lv_aload_n hx hb dX0_parse_26 rfl (lv_at hl 2 rfl) ?_
  refine va_get (D := G) (ci := 0) (v := .ref t1) (C := RX0) (T := TX0) (N := 5) hx hb hts hin_X0 hown hK hP 0 rfl rfl 0 (by decide) k9 (fun _ h9 => h9) rfl dX0_parse_27 ?_
  refine lv_iload_n hx hb dX0_parse_30 rfl (lv_at hl 0 rfl) ?_
  refine va_cald hx hb hK hP 1 2 rfl rfl (by unfold vp_in; decide) dX0_parse_31 ?_
  refine W.eq (g2 := F0 m 32 ls [.int (ch 4)]) rfl ?_
  refine lv_iload_n hx hb dX0_parse_32 rfl (lv_at hl 1 rfl) ?_
  refine rd_i (rS (rest := []) ⟨hx, hb, hml, hown, hts⟩ (cX0_standBehind_0 l G cA (ch 4)) (va_cwS 2 hts gX0_parse_X0_standBehind rfl rfl rfl mdX0_standBehind.2 ⟨Nat.le_of_ble_eq_true rfl, Nat.le_of_ble_eq_true rfl⟩) hE (hP.sub (ws' := []) [] rfl) (hD.sub (ws' := []) [] (by decide) rfl) rfl hl rfl (Nat.le_of_ble_eq_true rfl) dX0_parse_33 ⟨Nat.le_of_ble_eq_true rfl, Nat.le_of_ble_eq_true rfl⟩) hS hP (fun r_33_4 H locs hr_33_4 hP hS => ?_)
  rw [show sb0 (ch 4) = 1 from (by rw [e4]; exact sb0_ok d2 h2)] at hr_33_4
  subst hr_33_4
  refine lv_istore_n (lv' := [(1, .int 1), (2, .int 4), (0, .ref h0)]) hx hb dX0_parse_36 rfl hl (by decide) rfl (fun ls hl => ?_)
  refine lv_iload_n hx hb dX0_parse_37 rfl (lv_at hl 0 rfl) ?_
  refine lv_iconst (v := 5) hx hb dX0_parse_38 (by decide) ?_
  refine lv_icmp_ne (tgt := 44) hx hb dX0_parse_39 (by decide) (fun _ => ?_) (fun h9 => absurd h9 (by decide))
  refine lv_aload_n hx hb dX0_parse_44 rfl (lv_at hl 2 rfl) ?_
  refine lv_aload_n hx hb dX0_parse_45 rfl (lv_at hl 2 rfl) ?_
  refine va_get (D := G) (ci := 0) (v := .ref t1) (C := RX0) (T := TX0) (N := 5) hx hb hts hin_X0 hown hK hP 0 rfl rfl 0 (by decide) k9 (fun _ h9 => h9) rfl dX0_parse_46 ?_
  refine lv_iload_n hx hb dX0_parse_49 rfl (lv_at hl 1 rfl) ?_
  refine va_cald hx hb hK hP 1 2 rfl rfl (by unfold vp_in; decide) dX0_parse_50 ?_
  refine W.eq (g2 := F0 m 51 ls [.int (ch 4), .ref h0]) rfl ?_
  refine lv_bipush (v := 48) hx hb dX0_parse_51 (by decide) ?_
  refine lv_isub hx hb dX0_parse_53 ?_
  refine lv_iload_n hx hb dX0_parse_54 rfl (lv_at hl 0 rfl) ?_
  refine wr_v (ws' := [(h0, TxV t1 t2 t3 5 2), (t1, .inl (cA 2, 60, .inl ch)), (t2, .inl (cA 1, 60, .inl (upd (upd bm 0 ((ch 0) - 48)) 1 ((ch 4) - 48)))), (t3, .inl (cA 1, 60, .inl (upd (upd (upd tk 0 1) 0 ((ch 2) - 48)) 1 1)))]) (rV (rest := []) ⟨hx, hb, hml, hown, hts⟩ (cX0_take_1_1 l G cA h0 t1 t2 t3 5 (upd bm 0 ((ch 0) - 48)) (upd (upd tk 0 1) 0 ((ch 2) - 48)) ((ch 4) - 48)) (cwV 2 hts gX0_parse_X0_take rfl rfl rfl mdX0_take ⟨Nat.le_of_ble_eq_true rfl, Nat.le_of_ble_eq_true rfl⟩) hE (hP.sub (ws' := [(h0, TxV t1 t2 t3 5 1), (t2, .inl (cA 1, 60, .inl (upd bm 0 ((ch 0) - 48)))), (t3, .inl (cA 1, 60, .inl (upd (upd tk 0 1) 0 ((ch 2) - 48))))]) [0, 2, 3] rfl) (hD.sub (ws' := [(h0, TxV t1 t2 t3 5 1), (t2, .inl (cA 1, 60, .inl (upd bm 0 ((ch 0) - 48)))), (t3, .inl (cA 1, 60, .inl (upd (upd tk 0 1) 0 ((ch 2) - 48))))]) [0, 2, 3] (by decide) rfl) (q0 := 0) (ci := 0) rfl rfl rfl hl rfl (Nat.le_of_ble_eq_true rfl) dX0_parse_55 ⟨Nat.le_of_ble_eq_true rfl, Nat.le_of_ble_eq_true rfl⟩) hS hP hD [0, 2, 3] rfl rfl [1] [(t1, .inl (cA 2, 60, .inl ch))] rfl rfl rfl rfl (fun H locs hP hD hS => ?_)
  refine lv_iinc (v := 5) (lv' := [(2, .int 5), (1, .int 1), (0, .ref h0)]) hx hb dX0_parse_58 hl (k := 1) rfl (by decide) (by decide) rfl (fun ls hl => ?_)
  refine lv_goto (tgt := 9) hx hb dX0_parse_61 (by decide) ?_
  refine lv_iload_n hx hb dX0_parse_9 rfl (lv_at hl 0 rfl) ?_
  refine lv_aload_n hx hb dX0_parse_10 rfl (lv_at hl 2 rfl) ?_
  refine va_get (D := G) (ci := 0) (v := .int 5) (C := RX0) (T := TX0) (N := 5) hx hb hts hin_X0 hown hK hP 0 rfl rfl 1 (by decide) k20 (fun _ h9 => h9) rfl dX0_parse_11 ?_
  refine lv_icmp_ge (tgt := 64) hx hb dX0_parse_14 (by decide) (fun _ => ?_) (fun h9 => absurd (by decide) h9)
  refine lv_iload_n hx hb dX0_parse_64 rfl (lv_at hl 1 rfl) ?_
  refine lv_if_eq (tgt := 73) hx hb dX0_parse_65 (by decide) (fun h9 => absurd h9 (by decide)) (fun _ => ?_)
  refine lv_iload_n hx hb dX0_parse_68 rfl (lv_at hl 1 rfl) ?_
  refine lv_iconst (v := 2) hx hb dX0_parse_69 (by decide) ?_
  refine lv_icmp_ne (tgt := 80) hx hb dX0_parse_70 (by decide) (fun _ => ?_) (fun h9 => absurd h9 (by decide))
  refine lv_iconst (v := (-1)) hx hb dX0_parse_80 (by decide) ?_
  exact en_wi hx hb hr rfl hlocks hS rfl hP dX0_parse_81
set_option maxHeartbeats 4000000 in
set_option maxRecDepth 100000 in
/-- BeamText.ticksOfAllParts(), with two parts -/
theorem cX0_ticksOfAllParts_2 (l : Launch) (G : va_G) (cA : Nat → ClassId) (h0 t1 t2 t3 : Nat) (n0 : Int32) (tk : GG) : Ri l yX0_ticksOfAllParts wsX0_ticksOfAllParts ({ frames := 1, cells := 0, slots := 0, locals := 21 } : Room) G cA [.ref h0] [(h0, TxV t1 t2 t3 n0 2), (t3, .inl (cA 1, 60, .inl tk))] (fun r => r = (0 + tk 0) + tk 1) := by
  refine ofW2 (cc := cX0_ticksOfAllParts) (maxL := 3) (ret := (some .int)) (own := RX0) (by decide) rfl rfl (Nat.le_of_ble_eq_true rfl) rfl ?_
  intro p e s m below meth c ls hx hb hml hr hts hown hlocks hv hl
  obtain ⟨hP, hE, hD0⟩ := hv
  have hK := hE.1
  have hD := hD0
  generalize hH0 : s.heap = H at hP ⊢
  have hS : va_S (fun _ => False) s.heap H [] := hH0 ▸ va_S.rf
  generalize ([] : List Loc) = locs at hS ⊢
  clear hH0 hD0
  replace hl : lv_has ls 3 [(0, .ref h0)] := hl
  have hin_X0 : ∀ q ∈ u_ws RX0 TX0 5, q ∈ wsX0_ticksOfAllParts := by decide +kernel
  have k24 := hts (.fieldLink RX0 24 "LiftBeams$BeamText" "parts" "I") (by decide +kernel)
  refine lv_iconst (v := 0) hx hb dX0_ticksOfAllParts_0 (by decide) ?_
  refine lv_istore_n (lv' := [(1, .int 0), (0, .ref h0)]) hx hb dX0_ticksOfAllParts_1 rfl hl (by decide) rfl (fun ls hl => ?_)
  refine lv_iconst (v := 0) hx hb dX0_ticksOfAllParts_2 (by decide) ?_
  refine lv_istore_n (lv' := [(2, .int 0), (1, .int 0), (0, .ref h0)]) hx hb dX0_ticksOfAllParts_3 rfl hl (by decide) rfl (fun ls hl => ?_)
  refine lv_iload_n hx hb dX0_ticksOfAllParts_4 rfl (lv_at hl 0 rfl) ?_
  refine lv_aload_n hx hb dX0_ticksOfAllParts_5 rfl (lv_at hl 2 rfl) ?_
  refine va_get (D := G) (ci := 0) (v := .int 2) (C := RX0) (T := TX0) (N := 5) hx hb hts hin_X0 hown hK hP 0 rfl rfl 4 (by decide) k24 (fun _ h9 => h9) rfl dX0_ticksOfAllParts_6 ?_
  refine lv_icmp_ge (tgt := 26) hx hb dX0_ticksOfAllParts_9 (by decide) (fun h9 => absurd h9 (by decide)) (fun _ => ?_)
  refine lv_iload_n hx hb dX0_ticksOfAllParts_12 rfl (lv_at hl 1 rfl) ?_
  refine lv_aload_n hx hb dX0_ticksOfAllParts_13 rfl (lv_at hl 2 rfl) ?_
  refine lv_iload_n hx hb dX0_ticksOfAllParts_14 rfl (lv_at hl 0 rfl) ?_
  refine rd_i (rV (rest := [.int 0]) ⟨hx, hb, hml, hown, hts⟩ (cX0_ticksOf_ok l G cA h0 t1 t2 t3 n0 2 tk 0) (cwV 1 hts gX0_ticksOfAllParts_X0_ticksOf rfl rfl rfl mdX0_ticksOf ⟨Nat.le_of_ble_eq_true rfl, Nat.le_of_ble_eq_true rfl⟩) hE (hP.sub (ws' := [(h0, TxV t1 t2 t3 n0 2), (t3, .inl (cA 1, 60, .inl tk))]) [0, 1] rfl) (hD.sub (ws' := [(h0, TxV t1 t2 t3 n0 2), (t3, .inl (cA 1, 60, .inl tk))]) [0, 1] (by decide) rfl) (q0 := 0) (ci := 0) rfl rfl rfl hl rfl (Nat.le_of_ble_eq_true rfl) dX0_ticksOfAllParts_15 ⟨Nat.le_of_ble_eq_true rfl, Nat.le_of_ble_eq_true rfl⟩) hS hP (fun r_15 H locs hr_15 hP hS => ?_)
  replace hr_15 : r_15 = tk 0 := hr_15
  subst hr_15
  refine lv_iadd hx hb dX0_ticksOfAllParts_18 ?_
  refine lv_istore_n (lv' := [(1, .int (0 + (tk 0))), (2, .int 0), (0, .ref h0)]) hx hb dX0_ticksOfAllParts_19 rfl hl (by decide) rfl (fun ls hl => ?_)
  refine lv_iinc (v := 1) (lv' := [(2, .int 1), (1, .int (0 + (tk 0))), (0, .ref h0)]) hx hb dX0_ticksOfAllParts_20 hl (k := 1) rfl (by decide) (by decide) rfl (fun ls hl => ?_)
  refine lv_goto (tgt := 4) hx hb dX0_ticksOfAllParts_23 (by decide) ?_
  refine lv_iload_n hx hb dX0_ticksOfAllParts_4 rfl (lv_at hl 0 rfl) ?_
  refine lv_aload_n hx hb dX0_ticksOfAllParts_5 rfl (lv_at hl 2 rfl) ?_
  refine va_get (D := G) (ci := 0) (v := .int 2) (C := RX0) (T := TX0) (N := 5) hx hb hts hin_X0 hown hK hP 0 rfl rfl 4 (by decide) k24 (fun _ h9 => h9) rfl dX0_ticksOfAllParts_6 ?_
  refine lv_icmp_ge (tgt := 26) hx hb dX0_ticksOfAllParts_9 (by decide) (fun h9 => absurd h9 (by decide)) (fun _ => ?_)
  refine lv_iload_n hx hb dX0_ticksOfAllParts_12 rfl (lv_at hl 1 rfl) ?_
  refine lv_aload_n hx hb dX0_ticksOfAllParts_13 rfl (lv_at hl 2 rfl) ?_
  refine lv_iload_n hx hb dX0_ticksOfAllParts_14 rfl (lv_at hl 0 rfl) ?_
  refine rd_i (rV (rest := [.int (0 + (tk 0))]) ⟨hx, hb, hml, hown, hts⟩ (cX0_ticksOf_ok l G cA h0 t1 t2 t3 n0 2 tk 1) (cwV 1 hts gX0_ticksOfAllParts_X0_ticksOf rfl rfl rfl mdX0_ticksOf ⟨Nat.le_of_ble_eq_true rfl, Nat.le_of_ble_eq_true rfl⟩) hE (hP.sub (ws' := [(h0, TxV t1 t2 t3 n0 2), (t3, .inl (cA 1, 60, .inl tk))]) [0, 1] rfl) (hD.sub (ws' := [(h0, TxV t1 t2 t3 n0 2), (t3, .inl (cA 1, 60, .inl tk))]) [0, 1] (by decide) rfl) (q0 := 0) (ci := 0) rfl rfl rfl hl rfl (Nat.le_of_ble_eq_true rfl) dX0_ticksOfAllParts_15 ⟨Nat.le_of_ble_eq_true rfl, Nat.le_of_ble_eq_true rfl⟩) hS hP (fun r_15_1 H locs hr_15_1 hP hS => ?_)
  replace hr_15_1 : r_15_1 = tk 1 := hr_15_1
  subst hr_15_1
  refine lv_iadd hx hb dX0_ticksOfAllParts_18 ?_
  refine lv_istore_n (lv' := [(1, .int ((0 + (tk 0)) + (tk 1))), (2, .int 1), (0, .ref h0)]) hx hb dX0_ticksOfAllParts_19 rfl hl (by decide) rfl (fun ls hl => ?_)
  refine lv_iinc (v := 2) (lv' := [(2, .int 2), (1, .int ((0 + (tk 0)) + (tk 1))), (0, .ref h0)]) hx hb dX0_ticksOfAllParts_20 hl (k := 1) rfl (by decide) (by decide) rfl (fun ls hl => ?_)
  refine lv_goto (tgt := 4) hx hb dX0_ticksOfAllParts_23 (by decide) ?_
  refine lv_iload_n hx hb dX0_ticksOfAllParts_4 rfl (lv_at hl 0 rfl) ?_
  refine lv_aload_n hx hb dX0_ticksOfAllParts_5 rfl (lv_at hl 2 rfl) ?_
  refine va_get (D := G) (ci := 0) (v := .int 2) (C := RX0) (T := TX0) (N := 5) hx hb hts hin_X0 hown hK hP 0 rfl rfl 4 (by decide) k24 (fun _ h9 => h9) rfl dX0_ticksOfAllParts_6 ?_
  refine lv_icmp_ge (tgt := 26) hx hb dX0_ticksOfAllParts_9 (by decide) (fun _ => ?_) (fun h9 => absurd (by decide) h9)
  refine lv_iload_n hx hb dX0_ticksOfAllParts_26 rfl (lv_at hl 1 rfl) ?_
  exact en_ri hx hb hr rfl hlocks hS rfl dX0_ticksOfAllParts_27
