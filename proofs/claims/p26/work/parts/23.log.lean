/-! likeliestKind, Log: their contracts (by wip/p26/log.py) -/
theorem in_log {b w : Int32} (h0 : ¬ b < 0) (h1 : ¬ 10 ≤ b) (h2 : ¬ w < 0) (h3 : ¬ 5 ≤ w) : vp_in (b * 5 + w) 50 := by
  rcases pk_ix b (n := 10) (by decide) with h | h | ⟨j, hj, rfl⟩
  · exact absurd h h0
  · exact absurd h h1
  rcases pk_ix w (n := 5) (by decide) with h | h | ⟨k, hk, rfl⟩
  · exact absurd h h2
  · exact absurd h h3
  have e : nI j * 5 + nI k = nI (j * 5 + k) := by
    rw [show (5 : Int32) = nI 5 from rfl, pk_mul, nI_add]
  rw [e]
  exact vp_in_nI (by omega) (by decide)
theorem le_of_nlt5 {i : Nat} (hi : i < 2 ^ 31) (h : ¬ nI i < 5) : 5 ≤ i := by
  rcases Nat.lt_or_ge i 5 with h1 | h1
  · exact absurd (nI_lt (a := i) (b := 5) h1 (by decide)) h
  · exact h1
theorem lt5_of {i : Nat} (h : nI i < 5) (hi : i < 2 ^ 31) : i < 5 := by
  rcases Nat.lt_or_ge i 5 with h1 | h1
  · exact h1
  · exact absurd h (nI_nlt (a := i) (b := 5) h1 hi)
theorem in_m5 {i : Nat} (h : ¬ nI i < 5) (hi : i < 50) : vp_in (nI i - 5) 50 := by
  have h5 := le_of_nlt5 (by omega) h
  rw [show (5 : Int32) = nI 5 from rfl, pk_sub h5]
  exact vp_in_nI (by omega) (by decide)
theorem en_step {L : GG} {D : Nat → Int32} {i : Nat} (h5 : 5 ≤ i) (hi : i ≤ 49) (h : ∀ k, k < 50 → D k = if i < k then L (k - 5) else L k) : ∀ k, k < 50 → (upd D (nI i).toNatClampNeg (D (nI i - 5).toNatClampNeg)) k = if i - 1 < k then L (k - 5) else L k := by
  intro k hk
  rw [show (5 : Int32) = nI 5 from rfl, pk_sub h5, nI_clamp (by omega), nI_clamp (by omega)]
  unfold upd
  by_cases h1 : k = i
  · subst h1
    rw [if_pos rfl, if_pos (by omega), h (k - 5) (by omega), if_neg (by omega)]
  · rw [if_neg h1, h k hk]
    by_cases h2 : i < k
    · rw [if_pos h2, if_pos (by omega)]
    · rw [if_neg h2, if_neg (by omega)]
theorem enter_arr {g L : GG} {D : Nat → Int32} {kd t : Int32} (h : ∀ k, k < 50 → D k = if 4 < k then L (k - 5) else L k) : ∀ k, k < 50 → (upd (upd (upd (upd (upd D 0 kd) 1 (g 6)) 2 (g 7)) 3 (bbF g)) 4 t) k = (enterL L g kd t) k := by
  intro k hk
  rcases (show k = 0 ∨ k = 1 ∨ k = 2 ∨ k = 3 ∨ k = 4 ∨ 4 < k by omega) with rfl | rfl | rfl | rfl | rfl | h4
  · rfl
  · rfl
  · rfl
  · rfl
  · rfl
  · simp only [upd, enterL]
    rw [if_neg (by omega), if_neg (by omega), if_neg (by omega), if_neg (by omega), if_neg (by omega), h k hk, if_pos h4, if_neg (by omega), if_neg (by omega), if_neg (by omega), if_neg (by omega), if_neg (by omega)]
set_option maxHeartbeats 4000000 in
set_option maxRecDepth 100000 in
/-- Thing.likeliestKind(settings) -/
theorem cX7_likeliestKind_ok (l : Launch) (G : va_G) (cA : Nat → ClassId) (h0 h1 r1 r2 r3 : Nat) (u : FF) (g : GG) (hQ : PrOk u g) : Ri l yX7_likeliestKind wsX7_likeliestKind ({ frames := 2, cells := 0, slots := 0, locals := 48 } : Room) G cA [.ref h0, .ref h1] [(h0, ThV g), (h1, SeV r1 r2 r3), (r2, WeV cA u)] (fun r => r = bestK u g) := by
  refine ofW2 (cc := cX7_likeliestKind) (maxL := 6) (ret := (some .int)) (own := RX7) (by decide) rfl rfl (Nat.le_of_ble_eq_true rfl) rfl ?_
  intro p e s m below meth c ls hx hb hml hr hts hown hlocks hv hl
  obtain ⟨hP, hE, hD0⟩ := hv
  have hK := hE.1
  have hD := hD0
  generalize hH0 : s.heap = H at hP ⊢
  have hS : va_S (fun _ => False) s.heap H [] := hH0 ▸ va_S.rf
  generalize ([] : List Loc) = locs at hS ⊢
  clear hH0 hD0
  replace hl : lv_has ls 6 [(0, .ref h0), (1, .ref h1)] := hl
  have hL := hQ.1
  refine lv_iconst (v := 0) hx hb dX7_likeliestKind_0 (by decide) ?_
  refine lv_istore_n (lv' := [(2, .int 0), (0, .ref h0), (1, .ref h1)]) hx hb dX7_likeliestKind_1 rfl hl (by decide) rfl (fun ls hl => ?_)
  refine lv_aload_n hx hb dX7_likeliestKind_2 rfl (lv_at hl 1 rfl) ?_
  refine lv_iconst (v := 0) hx hb dX7_likeliestKind_3 (by decide) ?_
  refine lv_aload_n hx hb dX7_likeliestKind_4 rfl (lv_at hl 2 rfl) ?_
  refine lv_iconst (v := 0) hx hb dX7_likeliestKind_5 (by decide) ?_
  refine rd_f (rV (rest := [.int 0, .ref h0]) ⟨hx, hb, hml, hown, hts⟩ (cX4_weightOf_ok l G cA h1 r1 r2 r3 u 0) (cwV 1 hts gX7_likeliestKind_X4_weightOf rfl rfl rfl mdX4_weightOf ⟨Nat.le_of_ble_eq_true rfl, Nat.le_of_ble_eq_true rfl⟩) hE (hP.sub (ws' := [(h1, SeV r1 r2 r3), (r2, WeV cA u)]) [1, 2] rfl) (hD.sub (ws' := [(h1, SeV r1 r2 r3), (r2, WeV cA u)]) [1, 2] (by decide) rfl) (q0 := 0) (ci := 4) rfl rfl rfl hl rfl (Nat.le_of_ble_eq_true rfl) dX7_likeliestKind_6 ⟨Nat.le_of_ble_eq_true rfl, Nat.le_of_ble_eq_true rfl⟩) hS hP (fun r_6 H locs hr_6 hP hS => ?_)
  subst hr_6
  refine rd_f (rV (rest := []) ⟨hx, hb, hml, hown, hts⟩ (cX7_product_ok l G cA h0 g 0 (weF u 0) hL hQ.2.1) (cwV 2 hts gX7_likeliestKind_X7_product rfl rfl rfl mdX7_product ⟨Nat.le_of_ble_eq_true rfl, Nat.le_of_ble_eq_true rfl⟩) hE (hP.sub (ws' := [(h0, ThV g)]) [0] rfl) (hD.sub (ws' := [(h0, ThV g)]) [0] (by decide) rfl) (q0 := 0) (ci := 7) rfl rfl rfl hl rfl (Nat.le_of_ble_eq_true rfl) dX7_likeliestKind_9 ⟨Nat.le_of_ble_eq_true rfl, Nat.le_of_ble_eq_true rfl⟩) hS hP (fun r_9 H locs hr_9 hP hS => ?_)
  subst hr_9
  refine W.eq (g2 := F0 m 12 ls [.float (prodF u g 0)]) rfl ?_
  refine lv_fstore_n (lv' := [(3, .float (prodF u g 0)), (2, .int 0), (0, .ref h0), (1, .ref h1)]) hx hb dX7_likeliestKind_12 rfl hl (by decide) rfl (fun ls hl => ?_)
  refine lv_iconst (v := 1) hx hb dX7_likeliestKind_13 (by decide) ?_
  refine lv_istore (lv' := [(4, .int 1), (3, .float (prodF u g 0)), (2, .int 0), (0, .ref h0), (1, .ref h1)]) hx hb dX7_likeliestKind_14 hl (by decide) rfl (fun ls hl => ?_)
  refine lv_iload hx hb dX7_likeliestKind_16 (lv_at hl 0 rfl) ?_
  refine lv_iconst (v := 4) hx hb dX7_likeliestKind_18 (by decide) ?_
  refine lv_icmp_ge (tgt := 55) hx hb dX7_likeliestKind_19 (by decide) (fun h9 => absurd h9 (by decide)) (fun _ => ?_)
  refine lv_aload_n hx hb dX7_likeliestKind_22 rfl (lv_at hl 3 rfl) ?_
  refine lv_iload hx hb dX7_likeliestKind_23 (lv_at hl 0 rfl) ?_
  refine lv_aload_n hx hb dX7_likeliestKind_25 rfl (lv_at hl 4 rfl) ?_
  refine lv_iload hx hb dX7_likeliestKind_26 (lv_at hl 0 rfl) ?_
  refine rd_f (rV (rest := [.int 1, .ref h0]) ⟨hx, hb, hml, hown, hts⟩ (cX4_weightOf_ok l G cA h1 r1 r2 r3 u 1) (cwV 1 hts gX7_likeliestKind_X4_weightOf rfl rfl rfl mdX4_weightOf ⟨Nat.le_of_ble_eq_true rfl, Nat.le_of_ble_eq_true rfl⟩) hE (hP.sub (ws' := [(h1, SeV r1 r2 r3), (r2, WeV cA u)]) [1, 2] rfl) (hD.sub (ws' := [(h1, SeV r1 r2 r3), (r2, WeV cA u)]) [1, 2] (by decide) rfl) (q0 := 0) (ci := 4) rfl rfl rfl hl rfl (Nat.le_of_ble_eq_true rfl) dX7_likeliestKind_28 ⟨Nat.le_of_ble_eq_true rfl, Nat.le_of_ble_eq_true rfl⟩) hS hP (fun r_28 H locs hr_28 hP hS => ?_)
  subst hr_28
  refine rd_f (rV (rest := []) ⟨hx, hb, hml, hown, hts⟩ (cX7_product_ok l G cA h0 g 1 (weF u 1) hL hQ.2.2.1) (cwV 2 hts gX7_likeliestKind_X7_product rfl rfl rfl mdX7_product ⟨Nat.le_of_ble_eq_true rfl, Nat.le_of_ble_eq_true rfl⟩) hE (hP.sub (ws' := [(h0, ThV g)]) [0] rfl) (hD.sub (ws' := [(h0, ThV g)]) [0] (by decide) rfl) (q0 := 0) (ci := 7) rfl rfl rfl hl rfl (Nat.le_of_ble_eq_true rfl) dX7_likeliestKind_31 ⟨Nat.le_of_ble_eq_true rfl, Nat.le_of_ble_eq_true rfl⟩) hS hP (fun r_31 H locs hr_31 hP hS => ?_)
  subst hr_31
  refine W.eq (g2 := F0 m 34 ls [.float (prodF u g 1)]) rfl ?_
  refine lv_fstore (lv' := [(5, .float (prodF u g 1)), (4, .int 1), (3, .float (prodF u g 0)), (2, .int 0), (0, .ref h0), (1, .ref h1)]) hx hb dX7_likeliestKind_34 hl (by decide) rfl (fun ls hl => ?_)
  refine lv_fload hx hb dX7_likeliestKind_36 (lv_at hl 0 rfl) ?_
  refine lv_fload_n hx hb dX7_likeliestKind_38 rfl (lv_at hl 2 rfl) ?_
  refine lv_fcmp hx hb dX7_likeliestKind_39 ?_
  refine lv_if_le (tgt := 49) hx hb dX7_likeliestKind_40 (by decide) (fun c_40 => ?_) (fun c_40 => ?_)
  · skip
    refine lv_iinc (v := 2) (lv' := [(4, .int 2), (5, .float (prodF u g 1)), (3, .float (prodF u g 0)), (2, .int 0), (0, .ref h0), (1, .ref h1)]) hx hb dX7_likeliestKind_49 hl (k := 1) rfl (by decide) (by decide) rfl (fun ls hl => ?_)
    refine lv_goto (tgt := 16) hx hb dX7_likeliestKind_52 (by decide) ?_
    refine lv_iload hx hb dX7_likeliestKind_16 (lv_at hl 0 rfl) ?_
    refine lv_iconst (v := 4) hx hb dX7_likeliestKind_18 (by decide) ?_
    refine lv_icmp_ge (tgt := 55) hx hb dX7_likeliestKind_19 (by decide) (fun h9 => absurd h9 (by decide)) (fun _ => ?_)
    refine lv_aload_n hx hb dX7_likeliestKind_22 rfl (lv_at hl 4 rfl) ?_
    refine lv_iload hx hb dX7_likeliestKind_23 (lv_at hl 0 rfl) ?_
    refine lv_aload_n hx hb dX7_likeliestKind_25 rfl (lv_at hl 5 rfl) ?_
    refine lv_iload hx hb dX7_likeliestKind_26 (lv_at hl 0 rfl) ?_
    refine rd_f (rV (rest := [.int 2, .ref h0]) ⟨hx, hb, hml, hown, hts⟩ (cX4_weightOf_ok l G cA h1 r1 r2 r3 u 2) (cwV 1 hts gX7_likeliestKind_X4_weightOf rfl rfl rfl mdX4_weightOf ⟨Nat.le_of_ble_eq_true rfl, Nat.le_of_ble_eq_true rfl⟩) hE (hP.sub (ws' := [(h1, SeV r1 r2 r3), (r2, WeV cA u)]) [1, 2] rfl) (hD.sub (ws' := [(h1, SeV r1 r2 r3), (r2, WeV cA u)]) [1, 2] (by decide) rfl) (q0 := 0) (ci := 4) rfl rfl rfl hl rfl (Nat.le_of_ble_eq_true rfl) dX7_likeliestKind_28 ⟨Nat.le_of_ble_eq_true rfl, Nat.le_of_ble_eq_true rfl⟩) hS hP (fun r_28_1 H locs hr_28_1 hP hS => ?_)
    subst hr_28_1
    refine rd_f (rV (rest := []) ⟨hx, hb, hml, hown, hts⟩ (cX7_product_ok l G cA h0 g 2 (weF u 2) hL hQ.2.2.2.1) (cwV 2 hts gX7_likeliestKind_X7_product rfl rfl rfl mdX7_product ⟨Nat.le_of_ble_eq_true rfl, Nat.le_of_ble_eq_true rfl⟩) hE (hP.sub (ws' := [(h0, ThV g)]) [0] rfl) (hD.sub (ws' := [(h0, ThV g)]) [0] (by decide) rfl) (q0 := 0) (ci := 7) rfl rfl rfl hl rfl (Nat.le_of_ble_eq_true rfl) dX7_likeliestKind_31 ⟨Nat.le_of_ble_eq_true rfl, Nat.le_of_ble_eq_true rfl⟩) hS hP (fun r_31_1 H locs hr_31_1 hP hS => ?_)
    subst hr_31_1
    refine W.eq (g2 := F0 m 34 ls [.float (prodF u g 2)]) rfl ?_
    refine lv_fstore (lv' := [(5, .float (prodF u g 2)), (4, .int 2), (3, .float (prodF u g 0)), (2, .int 0), (0, .ref h0), (1, .ref h1)]) hx hb dX7_likeliestKind_34 hl (by decide) rfl (fun ls hl => ?_)
    refine lv_fload hx hb dX7_likeliestKind_36 (lv_at hl 0 rfl) ?_
    refine lv_fload_n hx hb dX7_likeliestKind_38 rfl (lv_at hl 2 rfl) ?_
    refine lv_fcmp hx hb dX7_likeliestKind_39 ?_
    refine lv_if_le (tgt := 49) hx hb dX7_likeliestKind_40 (by decide) (fun c_40_1 => ?_) (fun c_40_1 => ?_)
    · skip
      refine lv_iinc (v := 3) (lv' := [(4, .int 3), (5, .float (prodF u g 2)), (3, .float (prodF u g 0)), (2, .int 0), (0, .ref h0), (1, .ref h1)]) hx hb dX7_likeliestKind_49 hl (k := 1) rfl (by decide) (by decide) rfl (fun ls hl => ?_)
      refine lv_goto (tgt := 16) hx hb dX7_likeliestKind_52 (by decide) ?_
      refine lv_iload hx hb dX7_likeliestKind_16 (lv_at hl 0 rfl) ?_
      refine lv_iconst (v := 4) hx hb dX7_likeliestKind_18 (by decide) ?_
      refine lv_icmp_ge (tgt := 55) hx hb dX7_likeliestKind_19 (by decide) (fun h9 => absurd h9 (by decide)) (fun _ => ?_)
      refine lv_aload_n hx hb dX7_likeliestKind_22 rfl (lv_at hl 4 rfl) ?_
      refine lv_iload hx hb dX7_likeliestKind_23 (lv_at hl 0 rfl) ?_
      refine lv_aload_n hx hb dX7_likeliestKind_25 rfl (lv_at hl 5 rfl) ?_
      refine lv_iload hx hb dX7_likeliestKind_26 (lv_at hl 0 rfl) ?_
      refine rd_f (rV (rest := [.int 3, .ref h0]) ⟨hx, hb, hml, hown, hts⟩ (cX4_weightOf_ok l G cA h1 r1 r2 r3 u 3) (cwV 1 hts gX7_likeliestKind_X4_weightOf rfl rfl rfl mdX4_weightOf ⟨Nat.le_of_ble_eq_true rfl, Nat.le_of_ble_eq_true rfl⟩) hE (hP.sub (ws' := [(h1, SeV r1 r2 r3), (r2, WeV cA u)]) [1, 2] rfl) (hD.sub (ws' := [(h1, SeV r1 r2 r3), (r2, WeV cA u)]) [1, 2] (by decide) rfl) (q0 := 0) (ci := 4) rfl rfl rfl hl rfl (Nat.le_of_ble_eq_true rfl) dX7_likeliestKind_28 ⟨Nat.le_of_ble_eq_true rfl, Nat.le_of_ble_eq_true rfl⟩) hS hP (fun r_28_2 H locs hr_28_2 hP hS => ?_)
      subst hr_28_2
      refine rd_f (rV (rest := []) ⟨hx, hb, hml, hown, hts⟩ (cX7_product_ok l G cA h0 g 3 (weF u 3) hL hQ.2.2.2.2) (cwV 2 hts gX7_likeliestKind_X7_product rfl rfl rfl mdX7_product ⟨Nat.le_of_ble_eq_true rfl, Nat.le_of_ble_eq_true rfl⟩) hE (hP.sub (ws' := [(h0, ThV g)]) [0] rfl) (hD.sub (ws' := [(h0, ThV g)]) [0] (by decide) rfl) (q0 := 0) (ci := 7) rfl rfl rfl hl rfl (Nat.le_of_ble_eq_true rfl) dX7_likeliestKind_31 ⟨Nat.le_of_ble_eq_true rfl, Nat.le_of_ble_eq_true rfl⟩) hS hP (fun r_31_2 H locs hr_31_2 hP hS => ?_)
      subst hr_31_2
      refine W.eq (g2 := F0 m 34 ls [.float (prodF u g 3)]) rfl ?_
      refine lv_fstore (lv' := [(5, .float (prodF u g 3)), (4, .int 3), (3, .float (prodF u g 0)), (2, .int 0), (0, .ref h0), (1, .ref h1)]) hx hb dX7_likeliestKind_34 hl (by decide) rfl (fun ls hl => ?_)
      refine lv_fload hx hb dX7_likeliestKind_36 (lv_at hl 0 rfl) ?_
      refine lv_fload_n hx hb dX7_likeliestKind_38 rfl (lv_at hl 2 rfl) ?_
      refine lv_fcmp hx hb dX7_likeliestKind_39 ?_
      refine lv_if_le (tgt := 49) hx hb dX7_likeliestKind_40 (by decide) (fun c_40_2 => ?_) (fun c_40_2 => ?_)
      · skip
        refine lv_iinc (v := 4) (lv' := [(4, .int 4), (5, .float (prodF u g 3)), (3, .float (prodF u g 0)), (2, .int 0), (0, .ref h0), (1, .ref h1)]) hx hb dX7_likeliestKind_49 hl (k := 1) rfl (by decide) (by decide) rfl (fun ls hl => ?_)
        refine lv_goto (tgt := 16) hx hb dX7_likeliestKind_52 (by decide) ?_
        refine lv_iload hx hb dX7_likeliestKind_16 (lv_at hl 0 rfl) ?_
        refine lv_iconst (v := 4) hx hb dX7_likeliestKind_18 (by decide) ?_
        refine lv_icmp_ge (tgt := 55) hx hb dX7_likeliestKind_19 (by decide) (fun _ => ?_) (fun h9 => absurd (by decide) h9)
        refine lv_iload_n hx hb dX7_likeliestKind_55 rfl (lv_at hl 3 rfl) ?_
        exact en_ri hx hb hr rfl hlocks hS (by first | rfl | (simp only [bestK, bestS, if_pos c_40, if_pos c_40_1, if_pos c_40_2]; done) | (simp only [bestK, bestS, if_pos c_40, if_pos c_40_1, if_pos c_40_2]; rfl) | (simp only [bestK, bestS, if_pos c_40, if_pos c_40_1, if_pos c_40_2]; decide)) dX7_likeliestKind_56
      · skip
        refine lv_iload hx hb dX7_likeliestKind_43 (lv_at hl 1 rfl) ?_
        refine lv_istore_n (lv' := [(2, .int 3), (5, .float (prodF u g 3)), (4, .int 3), (3, .float (prodF u g 0)), (0, .ref h0), (1, .ref h1)]) hx hb dX7_likeliestKind_45 rfl hl (by decide) rfl (fun ls hl => ?_)
        refine lv_fload hx hb dX7_likeliestKind_46 (lv_at hl 1 rfl) ?_
        refine lv_fstore_n (lv' := [(3, .float (prodF u g 3)), (2, .int 3), (5, .float (prodF u g 3)), (4, .int 3), (0, .ref h0), (1, .ref h1)]) hx hb dX7_likeliestKind_48 rfl hl (by decide) rfl (fun ls hl => ?_)
        refine lv_iinc (v := 4) (lv' := [(4, .int 4), (3, .float (prodF u g 3)), (2, .int 3), (5, .float (prodF u g 3)), (0, .ref h0), (1, .ref h1)]) hx hb dX7_likeliestKind_49 hl (k := 3) rfl (by decide) (by decide) rfl (fun ls hl => ?_)
        refine lv_goto (tgt := 16) hx hb dX7_likeliestKind_52 (by decide) ?_
        refine lv_iload hx hb dX7_likeliestKind_16 (lv_at hl 0 rfl) ?_
        refine lv_iconst (v := 4) hx hb dX7_likeliestKind_18 (by decide) ?_
        refine lv_icmp_ge (tgt := 55) hx hb dX7_likeliestKind_19 (by decide) (fun _ => ?_) (fun h9 => absurd (by decide) h9)
        refine lv_iload_n hx hb dX7_likeliestKind_55 rfl (lv_at hl 2 rfl) ?_
        exact en_ri hx hb hr rfl hlocks hS (by first | rfl | (simp only [bestK, bestS, if_pos c_40, if_pos c_40_1, if_neg c_40_2]; done) | (simp only [bestK, bestS, if_pos c_40, if_pos c_40_1, if_neg c_40_2]; rfl) | (simp only [bestK, bestS, if_pos c_40, if_pos c_40_1, if_neg c_40_2]; decide)) dX7_likeliestKind_56
    · skip
      refine lv_iload hx hb dX7_likeliestKind_43 (lv_at hl 1 rfl) ?_
      refine lv_istore_n (lv' := [(2, .int 2), (5, .float (prodF u g 2)), (4, .int 2), (3, .float (prodF u g 0)), (0, .ref h0), (1, .ref h1)]) hx hb dX7_likeliestKind_45 rfl hl (by decide) rfl (fun ls hl => ?_)
      refine lv_fload hx hb dX7_likeliestKind_46 (lv_at hl 1 rfl) ?_
      refine lv_fstore_n (lv' := [(3, .float (prodF u g 2)), (2, .int 2), (5, .float (prodF u g 2)), (4, .int 2), (0, .ref h0), (1, .ref h1)]) hx hb dX7_likeliestKind_48 rfl hl (by decide) rfl (fun ls hl => ?_)
      refine lv_iinc (v := 3) (lv' := [(4, .int 3), (3, .float (prodF u g 2)), (2, .int 2), (5, .float (prodF u g 2)), (0, .ref h0), (1, .ref h1)]) hx hb dX7_likeliestKind_49 hl (k := 3) rfl (by decide) (by decide) rfl (fun ls hl => ?_)
      refine lv_goto (tgt := 16) hx hb dX7_likeliestKind_52 (by decide) ?_
      refine lv_iload hx hb dX7_likeliestKind_16 (lv_at hl 0 rfl) ?_
      refine lv_iconst (v := 4) hx hb dX7_likeliestKind_18 (by decide) ?_
      refine lv_icmp_ge (tgt := 55) hx hb dX7_likeliestKind_19 (by decide) (fun h9 => absurd h9 (by decide)) (fun _ => ?_)
      refine lv_aload_n hx hb dX7_likeliestKind_22 rfl (lv_at hl 4 rfl) ?_
      refine lv_iload hx hb dX7_likeliestKind_23 (lv_at hl 0 rfl) ?_
      refine lv_aload_n hx hb dX7_likeliestKind_25 rfl (lv_at hl 5 rfl) ?_
      refine lv_iload hx hb dX7_likeliestKind_26 (lv_at hl 0 rfl) ?_
      refine rd_f (rV (rest := [.int 3, .ref h0]) ⟨hx, hb, hml, hown, hts⟩ (cX4_weightOf_ok l G cA h1 r1 r2 r3 u 3) (cwV 1 hts gX7_likeliestKind_X4_weightOf rfl rfl rfl mdX4_weightOf ⟨Nat.le_of_ble_eq_true rfl, Nat.le_of_ble_eq_true rfl⟩) hE (hP.sub (ws' := [(h1, SeV r1 r2 r3), (r2, WeV cA u)]) [1, 2] rfl) (hD.sub (ws' := [(h1, SeV r1 r2 r3), (r2, WeV cA u)]) [1, 2] (by decide) rfl) (q0 := 0) (ci := 4) rfl rfl rfl hl rfl (Nat.le_of_ble_eq_true rfl) dX7_likeliestKind_28 ⟨Nat.le_of_ble_eq_true rfl, Nat.le_of_ble_eq_true rfl⟩) hS hP (fun r_28_3 H locs hr_28_3 hP hS => ?_)
      subst hr_28_3
      refine rd_f (rV (rest := []) ⟨hx, hb, hml, hown, hts⟩ (cX7_product_ok l G cA h0 g 3 (weF u 3) hL hQ.2.2.2.2) (cwV 2 hts gX7_likeliestKind_X7_product rfl rfl rfl mdX7_product ⟨Nat.le_of_ble_eq_true rfl, Nat.le_of_ble_eq_true rfl⟩) hE (hP.sub (ws' := [(h0, ThV g)]) [0] rfl) (hD.sub (ws' := [(h0, ThV g)]) [0] (by decide) rfl) (q0 := 0) (ci := 7) rfl rfl rfl hl rfl (Nat.le_of_ble_eq_true rfl) dX7_likeliestKind_31 ⟨Nat.le_of_ble_eq_true rfl, Nat.le_of_ble_eq_true rfl⟩) hS hP (fun r_31_3 H locs hr_31_3 hP hS => ?_)
      subst hr_31_3
      refine W.eq (g2 := F0 m 34 ls [.float (prodF u g 3)]) rfl ?_
      refine lv_fstore (lv' := [(5, .float (prodF u g 3)), (4, .int 3), (3, .float (prodF u g 2)), (2, .int 2), (0, .ref h0), (1, .ref h1)]) hx hb dX7_likeliestKind_34 hl (by decide) rfl (fun ls hl => ?_)
      refine lv_fload hx hb dX7_likeliestKind_36 (lv_at hl 0 rfl) ?_
      refine lv_fload_n hx hb dX7_likeliestKind_38 rfl (lv_at hl 2 rfl) ?_
      refine lv_fcmp hx hb dX7_likeliestKind_39 ?_
      refine lv_if_le (tgt := 49) hx hb dX7_likeliestKind_40 (by decide) (fun c_40_3 => ?_) (fun c_40_3 => ?_)
      · skip
        refine lv_iinc (v := 4) (lv' := [(4, .int 4), (5, .float (prodF u g 3)), (3, .float (prodF u g 2)), (2, .int 2), (0, .ref h0), (1, .ref h1)]) hx hb dX7_likeliestKind_49 hl (k := 1) rfl (by decide) (by decide) rfl (fun ls hl => ?_)
        refine lv_goto (tgt := 16) hx hb dX7_likeliestKind_52 (by decide) ?_
        refine lv_iload hx hb dX7_likeliestKind_16 (lv_at hl 0 rfl) ?_
        refine lv_iconst (v := 4) hx hb dX7_likeliestKind_18 (by decide) ?_
        refine lv_icmp_ge (tgt := 55) hx hb dX7_likeliestKind_19 (by decide) (fun _ => ?_) (fun h9 => absurd (by decide) h9)
        refine lv_iload_n hx hb dX7_likeliestKind_55 rfl (lv_at hl 3 rfl) ?_
        exact en_ri hx hb hr rfl hlocks hS (by first | rfl | (simp only [bestK, bestS, if_pos c_40, if_neg c_40_1, if_pos c_40_3]; done) | (simp only [bestK, bestS, if_pos c_40, if_neg c_40_1, if_pos c_40_3]; rfl) | (simp only [bestK, bestS, if_pos c_40, if_neg c_40_1, if_pos c_40_3]; decide)) dX7_likeliestKind_56
      · skip
        refine lv_iload hx hb dX7_likeliestKind_43 (lv_at hl 1 rfl) ?_
        refine lv_istore_n (lv' := [(2, .int 3), (5, .float (prodF u g 3)), (4, .int 3), (3, .float (prodF u g 2)), (0, .ref h0), (1, .ref h1)]) hx hb dX7_likeliestKind_45 rfl hl (by decide) rfl (fun ls hl => ?_)
        refine lv_fload hx hb dX7_likeliestKind_46 (lv_at hl 1 rfl) ?_
        refine lv_fstore_n (lv' := [(3, .float (prodF u g 3)), (2, .int 3), (5, .float (prodF u g 3)), (4, .int 3), (0, .ref h0), (1, .ref h1)]) hx hb dX7_likeliestKind_48 rfl hl (by decide) rfl (fun ls hl => ?_)
        refine lv_iinc (v := 4) (lv' := [(4, .int 4), (3, .float (prodF u g 3)), (2, .int 3), (5, .float (prodF u g 3)), (0, .ref h0), (1, .ref h1)]) hx hb dX7_likeliestKind_49 hl (k := 3) rfl (by decide) (by decide) rfl (fun ls hl => ?_)
        refine lv_goto (tgt := 16) hx hb dX7_likeliestKind_52 (by decide) ?_
        refine lv_iload hx hb dX7_likeliestKind_16 (lv_at hl 0 rfl) ?_
        refine lv_iconst (v := 4) hx hb dX7_likeliestKind_18 (by decide) ?_
        refine lv_icmp_ge (tgt := 55) hx hb dX7_likeliestKind_19 (by decide) (fun _ => ?_) (fun h9 => absurd (by decide) h9)
        refine lv_iload_n hx hb dX7_likeliestKind_55 rfl (lv_at hl 2 rfl) ?_
        exact en_ri hx hb hr rfl hlocks hS (by first | rfl | (simp only [bestK, bestS, if_pos c_40, if_neg c_40_1, if_neg c_40_3]; done) | (simp only [bestK, bestS, if_pos c_40, if_neg c_40_1, if_neg c_40_3]; rfl) | (simp only [bestK, bestS, if_pos c_40, if_neg c_40_1, if_neg c_40_3]; decide)) dX7_likeliestKind_56
  · skip
    refine lv_iload hx hb dX7_likeliestKind_43 (lv_at hl 1 rfl) ?_
    refine lv_istore_n (lv' := [(2, .int 1), (5, .float (prodF u g 1)), (4, .int 1), (3, .float (prodF u g 0)), (0, .ref h0), (1, .ref h1)]) hx hb dX7_likeliestKind_45 rfl hl (by decide) rfl (fun ls hl => ?_)
    refine lv_fload hx hb dX7_likeliestKind_46 (lv_at hl 1 rfl) ?_
    refine lv_fstore_n (lv' := [(3, .float (prodF u g 1)), (2, .int 1), (5, .float (prodF u g 1)), (4, .int 1), (0, .ref h0), (1, .ref h1)]) hx hb dX7_likeliestKind_48 rfl hl (by decide) rfl (fun ls hl => ?_)
    refine lv_iinc (v := 2) (lv' := [(4, .int 2), (3, .float (prodF u g 1)), (2, .int 1), (5, .float (prodF u g 1)), (0, .ref h0), (1, .ref h1)]) hx hb dX7_likeliestKind_49 hl (k := 3) rfl (by decide) (by decide) rfl (fun ls hl => ?_)
    refine lv_goto (tgt := 16) hx hb dX7_likeliestKind_52 (by decide) ?_
    refine lv_iload hx hb dX7_likeliestKind_16 (lv_at hl 0 rfl) ?_
    refine lv_iconst (v := 4) hx hb dX7_likeliestKind_18 (by decide) ?_
    refine lv_icmp_ge (tgt := 55) hx hb dX7_likeliestKind_19 (by decide) (fun h9 => absurd h9 (by decide)) (fun _ => ?_)
    refine lv_aload_n hx hb dX7_likeliestKind_22 rfl (lv_at hl 4 rfl) ?_
    refine lv_iload hx hb dX7_likeliestKind_23 (lv_at hl 0 rfl) ?_
    refine lv_aload_n hx hb dX7_likeliestKind_25 rfl (lv_at hl 5 rfl) ?_
    refine lv_iload hx hb dX7_likeliestKind_26 (lv_at hl 0 rfl) ?_
    refine rd_f (rV (rest := [.int 2, .ref h0]) ⟨hx, hb, hml, hown, hts⟩ (cX4_weightOf_ok l G cA h1 r1 r2 r3 u 2) (cwV 1 hts gX7_likeliestKind_X4_weightOf rfl rfl rfl mdX4_weightOf ⟨Nat.le_of_ble_eq_true rfl, Nat.le_of_ble_eq_true rfl⟩) hE (hP.sub (ws' := [(h1, SeV r1 r2 r3), (r2, WeV cA u)]) [1, 2] rfl) (hD.sub (ws' := [(h1, SeV r1 r2 r3), (r2, WeV cA u)]) [1, 2] (by decide) rfl) (q0 := 0) (ci := 4) rfl rfl rfl hl rfl (Nat.le_of_ble_eq_true rfl) dX7_likeliestKind_28 ⟨Nat.le_of_ble_eq_true rfl, Nat.le_of_ble_eq_true rfl⟩) hS hP (fun r_28_4 H locs hr_28_4 hP hS => ?_)
    subst hr_28_4
    refine rd_f (rV (rest := []) ⟨hx, hb, hml, hown, hts⟩ (cX7_product_ok l G cA h0 g 2 (weF u 2) hL hQ.2.2.2.1) (cwV 2 hts gX7_likeliestKind_X7_product rfl rfl rfl mdX7_product ⟨Nat.le_of_ble_eq_true rfl, Nat.le_of_ble_eq_true rfl⟩) hE (hP.sub (ws' := [(h0, ThV g)]) [0] rfl) (hD.sub (ws' := [(h0, ThV g)]) [0] (by decide) rfl) (q0 := 0) (ci := 7) rfl rfl rfl hl rfl (Nat.le_of_ble_eq_true rfl) dX7_likeliestKind_31 ⟨Nat.le_of_ble_eq_true rfl, Nat.le_of_ble_eq_true rfl⟩) hS hP (fun r_31_4 H locs hr_31_4 hP hS => ?_)
    subst hr_31_4
    refine W.eq (g2 := F0 m 34 ls [.float (prodF u g 2)]) rfl ?_
    refine lv_fstore (lv' := [(5, .float (prodF u g 2)), (4, .int 2), (3, .float (prodF u g 1)), (2, .int 1), (0, .ref h0), (1, .ref h1)]) hx hb dX7_likeliestKind_34 hl (by decide) rfl (fun ls hl => ?_)
    refine lv_fload hx hb dX7_likeliestKind_36 (lv_at hl 0 rfl) ?_
    refine lv_fload_n hx hb dX7_likeliestKind_38 rfl (lv_at hl 2 rfl) ?_
    refine lv_fcmp hx hb dX7_likeliestKind_39 ?_
    refine lv_if_le (tgt := 49) hx hb dX7_likeliestKind_40 (by decide) (fun c_40_4 => ?_) (fun c_40_4 => ?_)
    · skip
      refine lv_iinc (v := 3) (lv' := [(4, .int 3), (5, .float (prodF u g 2)), (3, .float (prodF u g 1)), (2, .int 1), (0, .ref h0), (1, .ref h1)]) hx hb dX7_likeliestKind_49 hl (k := 1) rfl (by decide) (by decide) rfl (fun ls hl => ?_)
      refine lv_goto (tgt := 16) hx hb dX7_likeliestKind_52 (by decide) ?_
      refine lv_iload hx hb dX7_likeliestKind_16 (lv_at hl 0 rfl) ?_
      refine lv_iconst (v := 4) hx hb dX7_likeliestKind_18 (by decide) ?_
      refine lv_icmp_ge (tgt := 55) hx hb dX7_likeliestKind_19 (by decide) (fun h9 => absurd h9 (by decide)) (fun _ => ?_)
      refine lv_aload_n hx hb dX7_likeliestKind_22 rfl (lv_at hl 4 rfl) ?_
      refine lv_iload hx hb dX7_likeliestKind_23 (lv_at hl 0 rfl) ?_
      refine lv_aload_n hx hb dX7_likeliestKind_25 rfl (lv_at hl 5 rfl) ?_
      refine lv_iload hx hb dX7_likeliestKind_26 (lv_at hl 0 rfl) ?_
      refine rd_f (rV (rest := [.int 3, .ref h0]) ⟨hx, hb, hml, hown, hts⟩ (cX4_weightOf_ok l G cA h1 r1 r2 r3 u 3) (cwV 1 hts gX7_likeliestKind_X4_weightOf rfl rfl rfl mdX4_weightOf ⟨Nat.le_of_ble_eq_true rfl, Nat.le_of_ble_eq_true rfl⟩) hE (hP.sub (ws' := [(h1, SeV r1 r2 r3), (r2, WeV cA u)]) [1, 2] rfl) (hD.sub (ws' := [(h1, SeV r1 r2 r3), (r2, WeV cA u)]) [1, 2] (by decide) rfl) (q0 := 0) (ci := 4) rfl rfl rfl hl rfl (Nat.le_of_ble_eq_true rfl) dX7_likeliestKind_28 ⟨Nat.le_of_ble_eq_true rfl, Nat.le_of_ble_eq_true rfl⟩) hS hP (fun r_28_5 H locs hr_28_5 hP hS => ?_)
      subst hr_28_5
      refine rd_f (rV (rest := []) ⟨hx, hb, hml, hown, hts⟩ (cX7_product_ok l G cA h0 g 3 (weF u 3) hL hQ.2.2.2.2) (cwV 2 hts gX7_likeliestKind_X7_product rfl rfl rfl mdX7_product ⟨Nat.le_of_ble_eq_true rfl, Nat.le_of_ble_eq_true rfl⟩) hE (hP.sub (ws' := [(h0, ThV g)]) [0] rfl) (hD.sub (ws' := [(h0, ThV g)]) [0] (by decide) rfl) (q0 := 0) (ci := 7) rfl rfl rfl hl rfl (Nat.le_of_ble_eq_true rfl) dX7_likeliestKind_31 ⟨Nat.le_of_ble_eq_true rfl, Nat.le_of_ble_eq_true rfl⟩) hS hP (fun r_31_5 H locs hr_31_5 hP hS => ?_)
      subst hr_31_5
      refine W.eq (g2 := F0 m 34 ls [.float (prodF u g 3)]) rfl ?_
      refine lv_fstore (lv' := [(5, .float (prodF u g 3)), (4, .int 3), (3, .float (prodF u g 1)), (2, .int 1), (0, .ref h0), (1, .ref h1)]) hx hb dX7_likeliestKind_34 hl (by decide) rfl (fun ls hl => ?_)
      refine lv_fload hx hb dX7_likeliestKind_36 (lv_at hl 0 rfl) ?_
      refine lv_fload_n hx hb dX7_likeliestKind_38 rfl (lv_at hl 2 rfl) ?_
      refine lv_fcmp hx hb dX7_likeliestKind_39 ?_
      refine lv_if_le (tgt := 49) hx hb dX7_likeliestKind_40 (by decide) (fun c_40_5 => ?_) (fun c_40_5 => ?_)
      · skip
        refine lv_iinc (v := 4) (lv' := [(4, .int 4), (5, .float (prodF u g 3)), (3, .float (prodF u g 1)), (2, .int 1), (0, .ref h0), (1, .ref h1)]) hx hb dX7_likeliestKind_49 hl (k := 1) rfl (by decide) (by decide) rfl (fun ls hl => ?_)
        refine lv_goto (tgt := 16) hx hb dX7_likeliestKind_52 (by decide) ?_
        refine lv_iload hx hb dX7_likeliestKind_16 (lv_at hl 0 rfl) ?_
        refine lv_iconst (v := 4) hx hb dX7_likeliestKind_18 (by decide) ?_
        refine lv_icmp_ge (tgt := 55) hx hb dX7_likeliestKind_19 (by decide) (fun _ => ?_) (fun h9 => absurd (by decide) h9)
        refine lv_iload_n hx hb dX7_likeliestKind_55 rfl (lv_at hl 3 rfl) ?_
        exact en_ri hx hb hr rfl hlocks hS (by first | rfl | (simp only [bestK, bestS, if_neg c_40, if_pos c_40_4, if_pos c_40_5]; done) | (simp only [bestK, bestS, if_neg c_40, if_pos c_40_4, if_pos c_40_5]; rfl) | (simp only [bestK, bestS, if_neg c_40, if_pos c_40_4, if_pos c_40_5]; decide)) dX7_likeliestKind_56
      · skip
        refine lv_iload hx hb dX7_likeliestKind_43 (lv_at hl 1 rfl) ?_
        refine lv_istore_n (lv' := [(2, .int 3), (5, .float (prodF u g 3)), (4, .int 3), (3, .float (prodF u g 1)), (0, .ref h0), (1, .ref h1)]) hx hb dX7_likeliestKind_45 rfl hl (by decide) rfl (fun ls hl => ?_)
        refine lv_fload hx hb dX7_likeliestKind_46 (lv_at hl 1 rfl) ?_
        refine lv_fstore_n (lv' := [(3, .float (prodF u g 3)), (2, .int 3), (5, .float (prodF u g 3)), (4, .int 3), (0, .ref h0), (1, .ref h1)]) hx hb dX7_likeliestKind_48 rfl hl (by decide) rfl (fun ls hl => ?_)
        refine lv_iinc (v := 4) (lv' := [(4, .int 4), (3, .float (prodF u g 3)), (2, .int 3), (5, .float (prodF u g 3)), (0, .ref h0), (1, .ref h1)]) hx hb dX7_likeliestKind_49 hl (k := 3) rfl (by decide) (by decide) rfl (fun ls hl => ?_)
        refine lv_goto (tgt := 16) hx hb dX7_likeliestKind_52 (by decide) ?_
        refine lv_iload hx hb dX7_likeliestKind_16 (lv_at hl 0 rfl) ?_
        refine lv_iconst (v := 4) hx hb dX7_likeliestKind_18 (by decide) ?_
        refine lv_icmp_ge (tgt := 55) hx hb dX7_likeliestKind_19 (by decide) (fun _ => ?_) (fun h9 => absurd (by decide) h9)
        refine lv_iload_n hx hb dX7_likeliestKind_55 rfl (lv_at hl 2 rfl) ?_
        exact en_ri hx hb hr rfl hlocks hS (by first | rfl | (simp only [bestK, bestS, if_neg c_40, if_pos c_40_4, if_neg c_40_5]; done) | (simp only [bestK, bestS, if_neg c_40, if_pos c_40_4, if_neg c_40_5]; rfl) | (simp only [bestK, bestS, if_neg c_40, if_pos c_40_4, if_neg c_40_5]; decide)) dX7_likeliestKind_56
    · skip
      refine lv_iload hx hb dX7_likeliestKind_43 (lv_at hl 1 rfl) ?_
      refine lv_istore_n (lv' := [(2, .int 2), (5, .float (prodF u g 2)), (4, .int 2), (3, .float (prodF u g 1)), (0, .ref h0), (1, .ref h1)]) hx hb dX7_likeliestKind_45 rfl hl (by decide) rfl (fun ls hl => ?_)
      refine lv_fload hx hb dX7_likeliestKind_46 (lv_at hl 1 rfl) ?_
      refine lv_fstore_n (lv' := [(3, .float (prodF u g 2)), (2, .int 2), (5, .float (prodF u g 2)), (4, .int 2), (0, .ref h0), (1, .ref h1)]) hx hb dX7_likeliestKind_48 rfl hl (by decide) rfl (fun ls hl => ?_)
      refine lv_iinc (v := 3) (lv' := [(4, .int 3), (3, .float (prodF u g 2)), (2, .int 2), (5, .float (prodF u g 2)), (0, .ref h0), (1, .ref h1)]) hx hb dX7_likeliestKind_49 hl (k := 3) rfl (by decide) (by decide) rfl (fun ls hl => ?_)
      refine lv_goto (tgt := 16) hx hb dX7_likeliestKind_52 (by decide) ?_
      refine lv_iload hx hb dX7_likeliestKind_16 (lv_at hl 0 rfl) ?_
      refine lv_iconst (v := 4) hx hb dX7_likeliestKind_18 (by decide) ?_
      refine lv_icmp_ge (tgt := 55) hx hb dX7_likeliestKind_19 (by decide) (fun h9 => absurd h9 (by decide)) (fun _ => ?_)
      refine lv_aload_n hx hb dX7_likeliestKind_22 rfl (lv_at hl 4 rfl) ?_
      refine lv_iload hx hb dX7_likeliestKind_23 (lv_at hl 0 rfl) ?_
      refine lv_aload_n hx hb dX7_likeliestKind_25 rfl (lv_at hl 5 rfl) ?_
      refine lv_iload hx hb dX7_likeliestKind_26 (lv_at hl 0 rfl) ?_
      refine rd_f (rV (rest := [.int 3, .ref h0]) ⟨hx, hb, hml, hown, hts⟩ (cX4_weightOf_ok l G cA h1 r1 r2 r3 u 3) (cwV 1 hts gX7_likeliestKind_X4_weightOf rfl rfl rfl mdX4_weightOf ⟨Nat.le_of_ble_eq_true rfl, Nat.le_of_ble_eq_true rfl⟩) hE (hP.sub (ws' := [(h1, SeV r1 r2 r3), (r2, WeV cA u)]) [1, 2] rfl) (hD.sub (ws' := [(h1, SeV r1 r2 r3), (r2, WeV cA u)]) [1, 2] (by decide) rfl) (q0 := 0) (ci := 4) rfl rfl rfl hl rfl (Nat.le_of_ble_eq_true rfl) dX7_likeliestKind_28 ⟨Nat.le_of_ble_eq_true rfl, Nat.le_of_ble_eq_true rfl⟩) hS hP (fun r_28_6 H locs hr_28_6 hP hS => ?_)
      subst hr_28_6
      refine rd_f (rV (rest := []) ⟨hx, hb, hml, hown, hts⟩ (cX7_product_ok l G cA h0 g 3 (weF u 3) hL hQ.2.2.2.2) (cwV 2 hts gX7_likeliestKind_X7_product rfl rfl rfl mdX7_product ⟨Nat.le_of_ble_eq_true rfl, Nat.le_of_ble_eq_true rfl⟩) hE (hP.sub (ws' := [(h0, ThV g)]) [0] rfl) (hD.sub (ws' := [(h0, ThV g)]) [0] (by decide) rfl) (q0 := 0) (ci := 7) rfl rfl rfl hl rfl (Nat.le_of_ble_eq_true rfl) dX7_likeliestKind_31 ⟨Nat.le_of_ble_eq_true rfl, Nat.le_of_ble_eq_true rfl⟩) hS hP (fun r_31_6 H locs hr_31_6 hP hS => ?_)
      subst hr_31_6
      refine W.eq (g2 := F0 m 34 ls [.float (prodF u g 3)]) rfl ?_
      refine lv_fstore (lv' := [(5, .float (prodF u g 3)), (4, .int 3), (3, .float (prodF u g 2)), (2, .int 2), (0, .ref h0), (1, .ref h1)]) hx hb dX7_likeliestKind_34 hl (by decide) rfl (fun ls hl => ?_)
      refine lv_fload hx hb dX7_likeliestKind_36 (lv_at hl 0 rfl) ?_
      refine lv_fload_n hx hb dX7_likeliestKind_38 rfl (lv_at hl 2 rfl) ?_
      refine lv_fcmp hx hb dX7_likeliestKind_39 ?_
      refine lv_if_le (tgt := 49) hx hb dX7_likeliestKind_40 (by decide) (fun c_40_6 => ?_) (fun c_40_6 => ?_)
      · skip
        refine lv_iinc (v := 4) (lv' := [(4, .int 4), (5, .float (prodF u g 3)), (3, .float (prodF u g 2)), (2, .int 2), (0, .ref h0), (1, .ref h1)]) hx hb dX7_likeliestKind_49 hl (k := 1) rfl (by decide) (by decide) rfl (fun ls hl => ?_)
        refine lv_goto (tgt := 16) hx hb dX7_likeliestKind_52 (by decide) ?_
        refine lv_iload hx hb dX7_likeliestKind_16 (lv_at hl 0 rfl) ?_
        refine lv_iconst (v := 4) hx hb dX7_likeliestKind_18 (by decide) ?_
        refine lv_icmp_ge (tgt := 55) hx hb dX7_likeliestKind_19 (by decide) (fun _ => ?_) (fun h9 => absurd (by decide) h9)
        refine lv_iload_n hx hb dX7_likeliestKind_55 rfl (lv_at hl 3 rfl) ?_
        exact en_ri hx hb hr rfl hlocks hS (by first | rfl | (simp only [bestK, bestS, if_neg c_40, if_neg c_40_4, if_pos c_40_6]; done) | (simp only [bestK, bestS, if_neg c_40, if_neg c_40_4, if_pos c_40_6]; rfl) | (simp only [bestK, bestS, if_neg c_40, if_neg c_40_4, if_pos c_40_6]; decide)) dX7_likeliestKind_56
      · skip
        refine lv_iload hx hb dX7_likeliestKind_43 (lv_at hl 1 rfl) ?_
        refine lv_istore_n (lv' := [(2, .int 3), (5, .float (prodF u g 3)), (4, .int 3), (3, .float (prodF u g 2)), (0, .ref h0), (1, .ref h1)]) hx hb dX7_likeliestKind_45 rfl hl (by decide) rfl (fun ls hl => ?_)
        refine lv_fload hx hb dX7_likeliestKind_46 (lv_at hl 1 rfl) ?_
        refine lv_fstore_n (lv' := [(3, .float (prodF u g 3)), (2, .int 3), (5, .float (prodF u g 3)), (4, .int 3), (0, .ref h0), (1, .ref h1)]) hx hb dX7_likeliestKind_48 rfl hl (by decide) rfl (fun ls hl => ?_)
        refine lv_iinc (v := 4) (lv' := [(4, .int 4), (3, .float (prodF u g 3)), (2, .int 3), (5, .float (prodF u g 3)), (0, .ref h0), (1, .ref h1)]) hx hb dX7_likeliestKind_49 hl (k := 3) rfl (by decide) (by decide) rfl (fun ls hl => ?_)
        refine lv_goto (tgt := 16) hx hb dX7_likeliestKind_52 (by decide) ?_
        refine lv_iload hx hb dX7_likeliestKind_16 (lv_at hl 0 rfl) ?_
        refine lv_iconst (v := 4) hx hb dX7_likeliestKind_18 (by decide) ?_
        refine lv_icmp_ge (tgt := 55) hx hb dX7_likeliestKind_19 (by decide) (fun _ => ?_) (fun h9 => absurd (by decide) h9)
        refine lv_iload_n hx hb dX7_likeliestKind_55 rfl (lv_at hl 2 rfl) ?_
        exact en_ri hx hb hr rfl hlocks hS (by first | rfl | (simp only [bestK, bestS, if_neg c_40, if_neg c_40_4, if_neg c_40_6]; done) | (simp only [bestK, bestS, if_neg c_40, if_neg c_40_4, if_neg c_40_6]; rfl) | (simp only [bestK, bestS, if_neg c_40, if_neg c_40_4, if_neg c_40_6]; decide)) dX7_likeliestKind_56
set_option maxHeartbeats 4000000 in
set_option maxRecDepth 100000 in
/-- Log.copyFrom(other) -/
theorem cX3_copyFrom_ok (l : Launch) (G : va_G) (cA : Nat → ClassId) (h0 r1 h1 q1 : Nat) (g g2 L L2 : GG) : Wv l yX3_copyFrom wsX3_copyFrom ({ frames := 0, cells := 0, slots := 0, locals := 0 } : Room) G cA [.ref h0, .ref h1] [(h0, LgV r1 g), (r1, LcV cA L), (h1, LgV q1 g2), (q1, LcV cA L2)] [(h0, LgV r1 g2), (r1, LcV cA L2), (h1, LgV q1 g2), (q1, LcV cA L2)] := by
  refine ofW2 (cc := cX3_copyFrom) (maxL := 3) (ret := none) (own := RX3) (by decide) rfl rfl (Nat.le_of_ble_eq_true rfl) rfl ?_
  intro p e s m below meth c ls hx hb hml hr hts hown hlocks hv hl
  obtain ⟨hP, hE, hD0⟩ := hv
  have hK := hE.1
  have hD := dself hD0
  generalize hH0 : s.heap = H at hP ⊢
  have hS : va_S (inW [(h0, LgV r1 g), (r1, LcV cA L), (h1, LgV q1 g2), (q1, LcV cA L2)]) s.heap H [] := hH0 ▸ va_S.rf
  generalize ([] : List Loc) = locs at hS ⊢
  clear hH0 hD0
  replace hl : lv_has ls 3 [(0, .ref h0), (1, .ref h1)] := hl
  have hin_X3 : ∀ q ∈ u_ws RX3 TX3 2, q ∈ wsX3_copyFrom := by decide +kernel
  have k11 := hts (.fieldLink RX3 11 "LiftBeams$Log" "cells" "[I") (by decide +kernel)
  have k15 := hts (.fieldLink RX3 15 "LiftBeams$Log" "rows" "I") (by decide +kernel)
  refine lv_iconst (v := 0) hx hb dX3_copyFrom_0 (by decide) ?_
  refine lv_istore_n (lv' := [(2, .int 0), (0, .ref h0), (1, .ref h1)]) hx hb dX3_copyFrom_1 rfl hl (by decide) rfl (fun ls hl => ?_)
  obtain ⟨Dd, hDd0⟩ : ∃ Dd : Nat → Int32, Dd = (fun k => L k) := ⟨_, rfl⟩
  replace hP : va_P G vwCl [(h0, LgV r1 g), (r1, .inl (cA 1, 50, .inl Dd)), (h1, LgV q1 g2), (q1, LcV cA L2)] H := by rw [hDd0]; exact hP
  replace hD : va_D (inW [(h0, LgV r1 g), (r1, LcV cA L), (h1, LgV q1 g2), (q1, LcV cA L2)]) [(h0, LgV r1 g), (r1, .inl (cA 1, 50, .inl Dd)), (h1, LgV q1 g2), (q1, LcV cA L2)] := by rw [hDd0]; exact hD
  clear hDd0
  obtain ⟨i, hi0⟩ : ∃ i : Nat, i = 0 := ⟨_, rfl⟩
  replace hl : lv_has ls 3 [(2, .int (nI i)), (0, .ref h0), (1, .ref h1)] := by rw [hi0]; exact hl
  have hDd : ∀ k, k < i → Dd k = (fun k => L2 k) k := fun k h9 => absurd h9 (by omega)
  obtain ⟨n, hn⟩ : ∃ n : Nat, 50 < i + n := ⟨51, by omega⟩
  have hi : i ≤ 50 := by omega
  clear hi0
  revert hl
  revert hS
  revert hD
  revert hP
  revert hDd
  revert hi
  revert hn
  revert ls
  revert locs
  revert H
  revert Dd
  revert i
  induction n with
  | zero => intro i Dd H locs ls hn hi; exact absurd hn (by omega)
  | succ n ih =>
    intro i Dd H locs ls hn hi hDd hP hD hS hl
    refine lv_iload_n hx hb dX3_copyFrom_2 rfl (lv_at hl 0 rfl) ?_
    refine lv_aload_n hx hb dX3_copyFrom_3 rfl (lv_at hl 1 rfl) ?_
    refine va_get (D := G) (ci := 3) (v := .ref r1) (C := RX3) (T := TX3) (N := 2) hx hb hts hin_X3 hown hK hP 0 rfl rfl 0 (by decide) k11 (fun _ h9 => h9) rfl dX3_copyFrom_4 ?_
    refine va_alen (v := 50) hx hb hK hP 1 1 rfl rfl rfl dX3_copyFrom_7 ?_
    refine lv_icmp_ge (tgt := 38) hx hb dX3_copyFrom_8 (by decide) (fun c_8 => ?_) (fun c_8 => ?_)
    · skip
      obtain rfl : i = 50 := eq_of_le hi (by decide) c_8
      clear ih hn
      replace hP : va_P G vwCl [(h0, LgV r1 g), (r1, LcV cA L2), (h1, LgV q1 g2), (q1, LcV cA L2)] H := va_P_setA hP 1 rfl (vp_arrI hDd) rfl
      replace hD : va_D (inW [(h0, LgV r1 g), (r1, LcV cA L), (h1, LgV q1 g2), (q1, LcV cA L2)]) [(h0, LgV r1 g), (r1, LcV cA L2), (h1, LgV q1 g2), (q1, LcV cA L2)] := va_D_setA hD 1 rfl rfl
      clear hDd
      refine lv_aload_n hx hb dX3_copyFrom_38 rfl (lv_at hl 1 rfl) ?_
      refine lv_aload_n hx hb dX3_copyFrom_39 rfl (lv_at hl 2 rfl) ?_
      refine va_get (D := G) (ci := 3) (v := .int (g2 18)) (C := RX3) (T := TX3) (N := 2) hx hb hts hin_X3 hown hK hP 2 rfl rfl 1 (by decide) k15 (fun _ h9 => h9) rfl dX3_copyFrom_40 ?_
      refine va_put (D := G) (ci := 3) (v := .int (g2 18)) (ty := .int) (C := RX3) (T := TX3) (N := 2) hx hb hts hin_X3 tyX3 tyX3_ok nmX3 hown hK hP hD hS 0 rfl rfl 1 (by decide) k15 (fun _ h9 => h9) rfl (by decide +kernel) rfl rfl (Nat.le_of_ble_eq_true rfl) dX3_copyFrom_43 (fun H locs hP hD hS => ?_)
      replace hP : va_P G vwCl [(h0, LgV r1 (upd g 18 (g2 18))), (r1, LcV cA L2), (h1, LgV q1 g2), (q1, LcV cA L2)] H := hP
      replace hD : va_D (inW [(h0, LgV r1 g), (r1, LcV cA L), (h1, LgV q1 g2), (q1, LcV cA L2)]) [(h0, LgV r1 (upd g 18 (g2 18))), (r1, LcV cA L2), (h1, LgV q1 g2), (q1, LcV cA L2)] := hD
      exact en_wv hx hb hr hlocks hS (by first | exact hP | (simp only [if_pos c_8]; exact hP)) dX3_copyFrom_46
    · skip
      refine lv_iload_n hx hb dX3_copyFrom_11 rfl (lv_at hl 0 rfl) ?_
      refine lv_aload_n hx hb dX3_copyFrom_12 rfl (lv_at hl 2 rfl) ?_
      refine va_get (D := G) (ci := 3) (v := .ref q1) (C := RX3) (T := TX3) (N := 2) hx hb hts hin_X3 hown hK hP 2 rfl rfl 0 (by decide) k11 (fun _ h9 => h9) rfl dX3_copyFrom_13 ?_
      refine va_alen (v := 50) hx hb hK hP 3 1 rfl rfl rfl dX3_copyFrom_16 ?_
      refine lv_icmp_ge (tgt := 38) hx hb dX3_copyFrom_17 (by decide) (fun c_17 => absurd c_17 c_8) (fun c_17 => ?_)
      refine lv_aload_n hx hb dX3_copyFrom_20 rfl (lv_at hl 1 rfl) ?_
      refine va_get (D := G) (ci := 3) (v := .ref r1) (C := RX3) (T := TX3) (N := 2) hx hb hts hin_X3 hown hK hP 0 rfl rfl 0 (by decide) k11 (fun _ h9 => h9) rfl dX3_copyFrom_21 ?_
      refine lv_iload_n hx hb dX3_copyFrom_24 rfl (lv_at hl 0 rfl) ?_
      refine lv_aload_n hx hb dX3_copyFrom_25 rfl (lv_at hl 2 rfl) ?_
      refine va_get (D := G) (ci := 3) (v := .ref q1) (C := RX3) (T := TX3) (N := 2) hx hb hts hin_X3 hown hK hP 2 rfl rfl 0 (by decide) k11 (fun _ h9 => h9) rfl dX3_copyFrom_26 ?_
      refine lv_iload_n hx hb dX3_copyFrom_29 rfl (lv_at hl 0 rfl) ?_
      refine va_iald hx hb hK hP 3 1 rfl rfl (vp_in_nI (lt_of_nle hi (by decide) c_8) (by decide)) dX3_copyFrom_30 ?_
      refine W.eq (g2 := F0 m 31 ls [.int (L2 ((nI i).toNatClampNeg)), .int (nI i), .ref r1]) rfl ?_
      refine va_iast hx hb hK hP hD hS 1 1 rfl rfl (vp_in_nI (lt_of_nle hi (by decide) c_8) (by decide)) dX3_copyFrom_31 (fun H locs hP hD hS => ?_)
      replace hP : va_P G vwCl [(h0, LgV r1 g), (r1, .inl (cA 1, 50, .inl (upd Dd (nI i).toNatClampNeg (L2 ((nI i).toNatClampNeg))))), (h1, LgV q1 g2), (q1, LcV cA L2)] H := hP
      replace hD : va_D (inW [(h0, LgV r1 g), (r1, LcV cA L), (h1, LgV q1 g2), (q1, LcV cA L2)]) [(h0, LgV r1 g), (r1, .inl (cA 1, 50, .inl (upd Dd (nI i).toNatClampNeg (L2 ((nI i).toNatClampNeg))))), (h1, LgV q1 g2), (q1, LcV cA L2)] := hD
      refine lv_iinc (v := ((nI i) + 1)) (lv' := [(2, .int ((nI i) + 1)), (0, .ref h0), (1, .ref h1)]) hx hb dX3_copyFrom_32 hl (k := 0) rfl rfl (by decide) rfl (fun ls hl => ?_)
      refine lv_goto (tgt := 2) hx hb dX3_copyFrom_35 (by decide) ?_
      replace hl : lv_has ls 3 [(2, .int (nI (i + 1))), (0, .ref h0), (1, .ref h1)] := by rw [← nI_1]; exact hl
      have hlt := lt_of_nle hi (by decide) c_8
      exact ih (i + 1) _ _ _ _ (by omega) (by omega) (cp_step (nI_clamp (by omega)) hDd) hP hD hS (lv_sub hl [0, 1, 2] rfl)
set_option maxHeartbeats 4000000 in
set_option maxRecDepth 100000 in
/-- Log.entry(back, what) -/
theorem cX3_entry_ok (l : Launch) (G : va_G) (cA : Nat → ClassId) (h0 r1 : Nat) (g L : GG) (b0 w0 : Int32) : Ri l yX3_entry wsX3_entry ({ frames := 0, cells := 0, slots := 0, locals := 0 } : Room) G cA [.ref h0, .int b0, .int w0] [(h0, LgV r1 g), (r1, LcV cA L)] (fun r => r = enF g L b0 w0) := by
  refine ofW2 (cc := cX3_entry) (maxL := 4) (ret := (some .int)) (own := RX3) (by decide) rfl rfl (Nat.le_of_ble_eq_true rfl) rfl ?_
  intro p e s m below meth c ls hx hb hml hr hts hown hlocks hv hl
  obtain ⟨hP, hE, hD0⟩ := hv
  have hK := hE.1
  have hD := hD0
  generalize hH0 : s.heap = H at hP ⊢
  have hS : va_S (fun _ => False) s.heap H [] := hH0 ▸ va_S.rf
  generalize ([] : List Loc) = locs at hS ⊢
  clear hH0 hD0
  replace hl : lv_has ls 4 [(0, .ref h0), (1, .int b0), (2, .int w0)] := hl
  have hin_X3 : ∀ q ∈ u_ws RX3 TX3 2, q ∈ wsX3_entry := by decide +kernel
  have k15 := hts (.fieldLink RX3 15 "LiftBeams$Log" "rows" "I") (by decide +kernel)
  have k11 := hts (.fieldLink RX3 11 "LiftBeams$Log" "cells" "[I") (by decide +kernel)
  refine lv_iload_n hx hb dX3_entry_0 rfl (lv_at hl 1 rfl) ?_
  refine lv_if_lt (tgt := 31) hx hb dX3_entry_1 (by decide) (fun c_1 => ?_) (fun c_1 => ?_)
  · skip
    refine lv_iconst (v := 0) hx hb dX3_entry_31 (by decide) ?_
    refine lv_istore_n (lv' := [(3, .int 0), (0, .ref h0), (1, .int b0), (2, .int w0)]) hx hb dX3_entry_32 rfl hl (by decide) rfl (fun ls hl => ?_)
    refine lv_iload_n hx hb dX3_entry_33 rfl (lv_at hl 0 rfl) ?_
    refine lv_if_eq (tgt := 50) hx hb dX3_entry_34 (by decide) (fun _ => ?_) (fun h9 => absurd (by decide) h9)
    refine lv_bipush (v := (-5)) hx hb dX3_entry_50 (by decide) ?_
    exact en_ri hx hb hr rfl hlocks hS (by first | rfl | (simp only [enF, if_pos c_1]; done) | (simp only [enF, if_pos c_1]; rfl) | (simp only [enF, if_pos c_1]; decide)) dX3_entry_52
  · skip
    refine lv_iload_n hx hb dX3_entry_4 rfl (lv_at hl 1 rfl) ?_
    refine lv_aload_n hx hb dX3_entry_5 rfl (lv_at hl 0 rfl) ?_
    refine va_get (D := G) (ci := 3) (v := .int (g 18)) (C := RX3) (T := TX3) (N := 2) hx hb hts hin_X3 hown hK hP 0 rfl rfl 1 (by decide) k15 (fun _ h9 => h9) rfl dX3_entry_6 ?_
    refine lv_icmp_ge (tgt := 31) hx hb dX3_entry_9 (by decide) (fun c_9 => ?_) (fun c_9 => ?_)
    · skip
      refine lv_iconst (v := 0) hx hb dX3_entry_31 (by decide) ?_
      refine lv_istore_n (lv' := [(3, .int 0), (0, .ref h0), (1, .int b0), (2, .int w0)]) hx hb dX3_entry_32 rfl hl (by decide) rfl (fun ls hl => ?_)
      refine lv_iload_n hx hb dX3_entry_33 rfl (lv_at hl 0 rfl) ?_
      refine lv_if_eq (tgt := 50) hx hb dX3_entry_34 (by decide) (fun _ => ?_) (fun h9 => absurd (by decide) h9)
      refine lv_bipush (v := (-5)) hx hb dX3_entry_50 (by decide) ?_
      exact en_ri hx hb hr rfl hlocks hS (by first | rfl | (simp only [enF, if_neg c_1, if_pos c_9]; done) | (simp only [enF, if_neg c_1, if_pos c_9]; rfl) | (simp only [enF, if_neg c_1, if_pos c_9]; decide)) dX3_entry_52
    · skip
      refine lv_iload_n hx hb dX3_entry_12 rfl (lv_at hl 1 rfl) ?_
      refine lv_bipush (v := 10) hx hb dX3_entry_13 (by decide) ?_
      refine lv_icmp_ge (tgt := 31) hx hb dX3_entry_15 (by decide) (fun c_15 => ?_) (fun c_15 => ?_)
      · skip
        refine lv_iconst (v := 0) hx hb dX3_entry_31 (by decide) ?_
        refine lv_istore_n (lv' := [(3, .int 0), (0, .ref h0), (1, .int b0), (2, .int w0)]) hx hb dX3_entry_32 rfl hl (by decide) rfl (fun ls hl => ?_)
        refine lv_iload_n hx hb dX3_entry_33 rfl (lv_at hl 0 rfl) ?_
        refine lv_if_eq (tgt := 50) hx hb dX3_entry_34 (by decide) (fun _ => ?_) (fun h9 => absurd (by decide) h9)
        refine lv_bipush (v := (-5)) hx hb dX3_entry_50 (by decide) ?_
        exact en_ri hx hb hr rfl hlocks hS (by first | rfl | (simp only [enF, if_neg c_1, if_neg c_9, if_pos c_15]; done) | (simp only [enF, if_neg c_1, if_neg c_9, if_pos c_15]; rfl) | (simp only [enF, if_neg c_1, if_neg c_9, if_pos c_15]; decide)) dX3_entry_52
      · skip
        refine lv_iload_n hx hb dX3_entry_18 rfl (lv_at hl 2 rfl) ?_
        refine lv_if_lt (tgt := 31) hx hb dX3_entry_19 (by decide) (fun c_19 => ?_) (fun c_19 => ?_)
        · skip
          refine lv_iconst (v := 0) hx hb dX3_entry_31 (by decide) ?_
          refine lv_istore_n (lv' := [(3, .int 0), (0, .ref h0), (1, .int b0), (2, .int w0)]) hx hb dX3_entry_32 rfl hl (by decide) rfl (fun ls hl => ?_)
          refine lv_iload_n hx hb dX3_entry_33 rfl (lv_at hl 0 rfl) ?_
          refine lv_if_eq (tgt := 50) hx hb dX3_entry_34 (by decide) (fun _ => ?_) (fun h9 => absurd (by decide) h9)
          refine lv_bipush (v := (-5)) hx hb dX3_entry_50 (by decide) ?_
          exact en_ri hx hb hr rfl hlocks hS (by first | rfl | (simp only [enF, if_neg c_1, if_neg c_9, if_neg c_15, if_pos c_19]; done) | (simp only [enF, if_neg c_1, if_neg c_9, if_neg c_15, if_pos c_19]; rfl) | (simp only [enF, if_neg c_1, if_neg c_9, if_neg c_15, if_pos c_19]; decide)) dX3_entry_52
        · skip
          refine lv_iload_n hx hb dX3_entry_22 rfl (lv_at hl 2 rfl) ?_
          refine lv_iconst (v := 5) hx hb dX3_entry_23 (by decide) ?_
          refine lv_icmp_ge (tgt := 31) hx hb dX3_entry_24 (by decide) (fun c_24 => ?_) (fun c_24 => ?_)
          · skip
            refine lv_iconst (v := 0) hx hb dX3_entry_31 (by decide) ?_
            refine lv_istore_n (lv' := [(3, .int 0), (0, .ref h0), (1, .int b0), (2, .int w0)]) hx hb dX3_entry_32 rfl hl (by decide) rfl (fun ls hl => ?_)
            refine lv_iload_n hx hb dX3_entry_33 rfl (lv_at hl 0 rfl) ?_
            refine lv_if_eq (tgt := 50) hx hb dX3_entry_34 (by decide) (fun _ => ?_) (fun h9 => absurd (by decide) h9)
            refine lv_bipush (v := (-5)) hx hb dX3_entry_50 (by decide) ?_
            exact en_ri hx hb hr rfl hlocks hS (by first | rfl | (simp only [enF, if_neg c_1, if_neg c_9, if_neg c_15, if_neg c_19, if_pos c_24]; done) | (simp only [enF, if_neg c_1, if_neg c_9, if_neg c_15, if_neg c_19, if_pos c_24]; rfl) | (simp only [enF, if_neg c_1, if_neg c_9, if_neg c_15, if_neg c_19, if_pos c_24]; decide)) dX3_entry_52
          · skip
            refine lv_iconst (v := 1) hx hb dX3_entry_27 (by decide) ?_
            refine lv_goto (tgt := 32) hx hb dX3_entry_28 (by decide) ?_
            refine lv_istore_n (lv' := [(3, .int 1), (0, .ref h0), (1, .int b0), (2, .int w0)]) hx hb dX3_entry_32 rfl hl (by decide) rfl (fun ls hl => ?_)
            refine lv_iload_n hx hb dX3_entry_33 rfl (lv_at hl 0 rfl) ?_
            refine lv_if_eq (tgt := 50) hx hb dX3_entry_34 (by decide) (fun h9 => absurd h9 (by decide)) (fun _ => ?_)
            refine lv_aload_n hx hb dX3_entry_37 rfl (lv_at hl 1 rfl) ?_
            refine va_get (D := G) (ci := 3) (v := .ref r1) (C := RX3) (T := TX3) (N := 2) hx hb hts hin_X3 hown hK hP 0 rfl rfl 0 (by decide) k11 (fun _ h9 => h9) rfl dX3_entry_38 ?_
            refine lv_iload_n hx hb dX3_entry_41 rfl (lv_at hl 2 rfl) ?_
            refine lv_iconst (v := 5) hx hb dX3_entry_42 (by decide) ?_
            refine lv_imul hx hb dX3_entry_43 ?_
            refine lv_iload_n hx hb dX3_entry_44 rfl (lv_at hl 3 rfl) ?_
            refine lv_iadd hx hb dX3_entry_45 ?_
            refine va_iald hx hb hK hP 1 1 rfl rfl (in_log c_1 c_15 c_19 c_24) dX3_entry_46 ?_
            refine W.eq (g2 := F0 m 47 ls [.int (L (((b0 * 5) + w0).toNatClampNeg))]) rfl ?_
            refine lv_goto (tgt := 52) hx hb dX3_entry_47 (by decide) ?_
            exact en_ri hx hb hr rfl hlocks hS (by first | rfl | (simp only [enF, if_neg c_1, if_neg c_9, if_neg c_15, if_neg c_19, if_neg c_24]; done) | (simp only [enF, if_neg c_1, if_neg c_9, if_neg c_15, if_neg c_19, if_neg c_24]; rfl) | (simp only [enF, if_neg c_1, if_neg c_9, if_neg c_15, if_neg c_19, if_neg c_24]; decide)) dX3_entry_52
set_option maxHeartbeats 4000000 in
set_option maxRecDepth 100000 in
/-- Log.enter(kind, thing, tick) -/
theorem cX3_enter_ok (l : Launch) (G : va_G) (cA : Nat → ClassId) (h0 r1 h2 : Nat) (g L : GG) (k0 t0 : Int32) : Wv l yX3_enter wsX3_enter ({ frames := 2, cells := 0, slots := 0, locals := 40 } : Room) G cA [.ref h0, .int k0, .ref h2, .int t0] [(h0, LgV r1 g), (r1, LcV cA L), (h2, ThV g)] [(h0, LgV r1 (enterG g)), (r1, LcV cA (enterL L g k0 t0)), (h2, ThV (enterG g))] := by
  refine ofW2 (cc := cX3_enter) (maxL := 5) (ret := none) (own := RX3) (by decide) rfl rfl (Nat.le_of_ble_eq_true rfl) rfl ?_
  intro p e s m below meth c ls hx hb hml hr hts hown hlocks hv hl
  obtain ⟨hP, hE, hD0⟩ := hv
  have hK := hE.1
  have hD := dself hD0
  generalize hH0 : s.heap = H at hP ⊢
  have hS : va_S (inW [(h0, LgV r1 g), (r1, LcV cA L), (h2, ThV g)]) s.heap H [] := hH0 ▸ va_S.rf
  generalize ([] : List Loc) = locs at hS ⊢
  clear hH0 hD0
  replace hl : lv_has ls 5 [(0, .ref h0), (1, .int k0), (2, .ref h2), (3, .int t0)] := hl
  have hin_X3 : ∀ q ∈ u_ws RX3 TX3 2, q ∈ wsX3_enter := by decide +kernel
  have hin_X7 : ∀ q ∈ u_ws RX7 TX7 8, q ∈ wsX3_enter := by decide +kernel
  have k11 := hts (.fieldLink RX3 11 "LiftBeams$Log" "cells" "[I") (by decide +kernel)
  have k19 := hts (.fieldLink RX3 19 "LiftBeams$Thing" "begun" "I") (by decide +kernel)
  have k24 := hts (.fieldLink RX3 24 "LiftBeams$Thing" "length" "I") (by decide +kernel)
  have k15 := hts (.fieldLink RX3 15 "LiftBeams$Log" "rows" "I") (by decide +kernel)
  refine lv_aload_n hx hb dX3_enter_0 rfl (lv_at hl 0 rfl) ?_
  refine va_get (D := G) (ci := 3) (v := .ref r1) (C := RX3) (T := TX3) (N := 2) hx hb hts hin_X3 hown hK hP 0 rfl rfl 0 (by decide) k11 (fun _ h9 => h9) rfl dX3_enter_1 ?_
  refine va_alen (v := 50) hx hb hK hP 1 1 rfl rfl rfl dX3_enter_4 ?_
  refine lv_iconst (v := 1) hx hb dX3_enter_5 (by decide) ?_
  refine lv_isub hx hb dX3_enter_6 ?_
  refine W.eq (g2 := F0 m 7 ls [.int 49]) rfl ?_
  refine W.eq (g2 := F0 m 7 ls [.int 49]) rfl ?_
  refine lv_istore (lv' := [(4, .int 49), (0, .ref h0), (1, .int k0), (2, .ref h2), (3, .int t0)]) hx hb dX3_enter_7 hl (by decide) rfl (fun ls hl => ?_)
  obtain ⟨Dd, hDd0⟩ : ∃ Dd : Nat → Int32, Dd = (fun k => L k) := ⟨_, rfl⟩
  replace hP : va_P G vwCl [(h0, LgV r1 g), (r1, .inl (cA 1, 50, .inl Dd)), (h2, ThV g)] H := by rw [hDd0]; exact hP
  replace hD : va_D (inW [(h0, LgV r1 g), (r1, LcV cA L), (h2, ThV g)]) [(h0, LgV r1 g), (r1, .inl (cA 1, 50, .inl Dd)), (h2, ThV g)] := by rw [hDd0]; exact hD
  obtain ⟨i, hi0⟩ : ∃ i : Nat, i = 49 := ⟨_, rfl⟩
  replace hl : lv_has ls 5 [(4, .int (nI i)), (0, .ref h0), (1, .int k0), (2, .ref h2), (3, .int t0)] := by rw [hi0]; exact hl
  have hDd : ∀ k, k < 50 → Dd k = if i < k then L (k - 5) else L k := fun k h9 => by rw [if_neg (by omega), hDd0]
  obtain ⟨n, hn⟩ : ∃ n : Nat, i < 4 + n := ⟨50, by omega⟩
  have hi : i ≤ 49 := by omega
  have hi4 : 4 ≤ i := by omega
  clear hi0 hDd0
  revert hl
  revert hS
  revert hD
  revert hP
  revert hDd
  revert hi4
  revert hi
  revert hn
  revert ls
  revert locs
  revert H
  revert Dd
  revert i
  induction n with
  | zero => intro i Dd H locs ls hn hi hi4; exact absurd hn (by omega)
  | succ n ih =>
    intro i Dd H locs ls hn hi hi4 hDd hP hD hS hl
    refine lv_iload hx hb dX3_enter_9 (lv_at hl 0 rfl) ?_
    refine lv_iconst (v := 5) hx hb dX3_enter_11 (by decide) ?_
    refine lv_icmp_lt (tgt := 37) hx hb dX3_enter_12 (by decide) (fun c_12 => ?_) (fun c_12 => ?_)
    · skip
      obtain rfl : i = 4 := by have := lt5_of c_12 (by omega); omega
      clear ih hn
      refine lv_aload_n hx hb dX3_enter_37 rfl (lv_at hl 1 rfl) ?_
      refine va_get (D := G) (ci := 3) (v := .ref r1) (C := RX3) (T := TX3) (N := 2) hx hb hts hin_X3 hown hK hP 0 rfl rfl 0 (by decide) k11 (fun _ h9 => h9) rfl dX3_enter_38 ?_
      refine lv_iconst (v := 0) hx hb dX3_enter_41 (by decide) ?_
      refine lv_iload_n hx hb dX3_enter_42 rfl (lv_at hl 2 rfl) ?_
      refine va_iast hx hb hK hP hD hS 1 1 rfl rfl (by unfold vp_in; decide) dX3_enter_43 (fun H locs hP hD hS => ?_)
      replace hP : va_P G vwCl [(h0, LgV r1 g), (r1, .inl (cA 1, 50, .inl (upd Dd 0 k0))), (h2, ThV g)] H := hP
      replace hD : va_D (inW [(h0, LgV r1 g), (r1, LcV cA L), (h2, ThV g)]) [(h0, LgV r1 g), (r1, .inl (cA 1, 50, .inl (upd Dd 0 k0))), (h2, ThV g)] := hD
      refine lv_aload_n hx hb dX3_enter_44 rfl (lv_at hl 1 rfl) ?_
      refine va_get (D := G) (ci := 3) (v := .ref r1) (C := RX3) (T := TX3) (N := 2) hx hb hts hin_X3 hown hK hP 0 rfl rfl 0 (by decide) k11 (fun _ h9 => h9) rfl dX3_enter_45 ?_
      refine lv_iconst (v := 1) hx hb dX3_enter_48 (by decide) ?_
      refine lv_aload_n hx hb dX3_enter_49 rfl (lv_at hl 3 rfl) ?_
      refine va_get (D := G) (ci := 7) (v := .int (g 6)) (C := RX7) (T := TX7) (N := 8) hx hb hts hin_X7 hown hK hP 2 rfl rfl 1 (by decide) k19 (fun _ h9 => h9) rfl dX3_enter_50 ?_
      refine va_iast hx hb hK hP hD hS 1 1 rfl rfl (by unfold vp_in; decide) dX3_enter_53 (fun H locs hP hD hS => ?_)
      replace hP : va_P G vwCl [(h0, LgV r1 g), (r1, .inl (cA 1, 50, .inl (upd (upd Dd 0 k0) 1 (g 6)))), (h2, ThV g)] H := hP
      replace hD : va_D (inW [(h0, LgV r1 g), (r1, LcV cA L), (h2, ThV g)]) [(h0, LgV r1 g), (r1, .inl (cA 1, 50, .inl (upd (upd Dd 0 k0) 1 (g 6)))), (h2, ThV g)] := hD
      refine lv_aload_n hx hb dX3_enter_54 rfl (lv_at hl 1 rfl) ?_
      refine va_get (D := G) (ci := 3) (v := .ref r1) (C := RX3) (T := TX3) (N := 2) hx hb hts hin_X3 hown hK hP 0 rfl rfl 0 (by decide) k11 (fun _ h9 => h9) rfl dX3_enter_55 ?_
      refine lv_iconst (v := 2) hx hb dX3_enter_58 (by decide) ?_
      refine lv_aload_n hx hb dX3_enter_59 rfl (lv_at hl 3 rfl) ?_
      refine va_get (D := G) (ci := 7) (v := .int (g 7)) (C := RX7) (T := TX7) (N := 8) hx hb hts hin_X7 hown hK hP 2 rfl rfl 2 (by decide) k24 (fun _ h9 => h9) rfl dX3_enter_60 ?_
      refine va_iast hx hb hK hP hD hS 1 1 rfl rfl (by unfold vp_in; decide) dX3_enter_63 (fun H locs hP hD hS => ?_)
      replace hP : va_P G vwCl [(h0, LgV r1 g), (r1, .inl (cA 1, 50, .inl (upd (upd (upd Dd 0 k0) 1 (g 6)) 2 (g 7)))), (h2, ThV g)] H := hP
      replace hD : va_D (inW [(h0, LgV r1 g), (r1, LcV cA L), (h2, ThV g)]) [(h0, LgV r1 g), (r1, .inl (cA 1, 50, .inl (upd (upd (upd Dd 0 k0) 1 (g 6)) 2 (g 7)))), (h2, ThV g)] := hD
      refine lv_aload_n hx hb dX3_enter_64 rfl (lv_at hl 1 rfl) ?_
      refine va_get (D := G) (ci := 3) (v := .ref r1) (C := RX3) (T := TX3) (N := 2) hx hb hts hin_X3 hown hK hP 0 rfl rfl 0 (by decide) k11 (fun _ h9 => h9) rfl dX3_enter_65 ?_
      refine lv_iconst (v := 3) hx hb dX3_enter_68 (by decide) ?_
      refine lv_aload_n hx hb dX3_enter_69 rfl (lv_at hl 3 rfl) ?_
      refine rd_i (rV (rest := [.int 3, .ref r1]) ⟨hx, hb, hml, hown, hts⟩ (cX7_beamsBroken_ok l G cA h2 g) (cwV 0 hts gX3_enter_X7_beamsBroken rfl rfl rfl mdX7_beamsBroken ⟨Nat.le_of_ble_eq_true rfl, Nat.le_of_ble_eq_true rfl⟩) hE (hP.sub (ws' := [(h2, ThV g)]) [2] rfl) (hD.sub (ws' := [(h2, ThV g)]) [2] (by decide) rfl) (q0 := 0) (ci := 7) rfl rfl rfl hl rfl (Nat.le_of_ble_eq_true rfl) dX3_enter_70 ⟨Nat.le_of_ble_eq_true rfl, Nat.le_of_ble_eq_true rfl⟩) hS hP (fun r_70 H locs hr_70 hP hS => ?_)
      subst hr_70
      refine va_iast hx hb hK hP hD hS 1 1 rfl rfl (by unfold vp_in; decide) dX3_enter_73 (fun H locs hP hD hS => ?_)
      replace hP : va_P G vwCl [(h0, LgV r1 g), (r1, .inl (cA 1, 50, .inl (upd (upd (upd (upd Dd 0 k0) 1 (g 6)) 2 (g 7)) 3 (bbF g)))), (h2, ThV g)] H := hP
      replace hD : va_D (inW [(h0, LgV r1 g), (r1, LcV cA L), (h2, ThV g)]) [(h0, LgV r1 g), (r1, .inl (cA 1, 50, .inl (upd (upd (upd (upd Dd 0 k0) 1 (g 6)) 2 (g 7)) 3 (bbF g)))), (h2, ThV g)] := hD
      refine lv_aload_n hx hb dX3_enter_74 rfl (lv_at hl 1 rfl) ?_
      refine va_get (D := G) (ci := 3) (v := .ref r1) (C := RX3) (T := TX3) (N := 2) hx hb hts hin_X3 hown hK hP 0 rfl rfl 0 (by decide) k11 (fun _ h9 => h9) rfl dX3_enter_75 ?_
      refine lv_iconst (v := 4) hx hb dX3_enter_78 (by decide) ?_
      refine lv_iload_n hx hb dX3_enter_79 rfl (lv_at hl 4 rfl) ?_
      refine va_iast hx hb hK hP hD hS 1 1 rfl rfl (by unfold vp_in; decide) dX3_enter_80 (fun H locs hP hD hS => ?_)
      replace hP : va_P G vwCl [(h0, LgV r1 g), (r1, .inl (cA 1, 50, .inl (upd (upd (upd (upd (upd Dd 0 k0) 1 (g 6)) 2 (g 7)) 3 (bbF g)) 4 t0))), (h2, ThV g)] H := hP
      replace hD : va_D (inW [(h0, LgV r1 g), (r1, LcV cA L), (h2, ThV g)]) [(h0, LgV r1 g), (r1, .inl (cA 1, 50, .inl (upd (upd (upd (upd (upd Dd 0 k0) 1 (g 6)) 2 (g 7)) 3 (bbF g)) 4 t0))), (h2, ThV g)] := hD
      refine lv_aload_n hx hb dX3_enter_81 rfl (lv_at hl 1 rfl) ?_
      refine va_get (D := G) (ci := 3) (v := .int (g 18)) (C := RX3) (T := TX3) (N := 2) hx hb hts hin_X3 hown hK hP 0 rfl rfl 1 (by decide) k15 (fun _ h9 => h9) rfl dX3_enter_82 ?_
      refine lv_bipush (v := 10) hx hb dX3_enter_85 (by decide) ?_
      refine lv_icmp_ge (tgt := 100) hx hb dX3_enter_87 (by decide) (fun c_87 => ?_) (fun c_87 => ?_)
      · skip
        exact en_wv hx hb hr hlocks hS (by (have e18 : enterG g 18 = g 18 := by simp [enterG, upd, c_87]); (show va_P G vwCl [(h0, .inr (3, [.ref r1, .int (enterG g 18)])), (r1, LcV cA (enterL L g k0 t0)), (h2, ThV (enterG g))] H); rw [e18]; exact va_P_setA hP 1 rfl (vp_arrI (enter_arr hDd)) rfl) dX3_enter_100
      · skip
        refine lv_aload_n hx hb dX3_enter_90 rfl (lv_at hl 1 rfl) ?_
        refine lv_dup hx hb dX3_enter_91 rfl ?_
        refine va_get (D := G) (ci := 3) (v := .int (g 18)) (C := RX3) (T := TX3) (N := 2) hx hb hts hin_X3 hown hK hP 0 rfl rfl 1 (by decide) k15 (fun _ h9 => h9) rfl dX3_enter_92 ?_
        refine lv_iconst (v := 1) hx hb dX3_enter_95 (by decide) ?_
        refine lv_iadd hx hb dX3_enter_96 ?_
        refine va_put (D := G) (ci := 3) (v := .int ((g 18) + 1)) (ty := .int) (C := RX3) (T := TX3) (N := 2) hx hb hts hin_X3 tyX3 tyX3_ok nmX3 hown hK hP hD hS 0 rfl rfl 1 (by decide) k15 (fun _ h9 => h9) rfl (by decide +kernel) rfl rfl (Nat.le_of_ble_eq_true rfl) dX3_enter_97 (fun H locs hP hD hS => ?_)
        replace hP : va_P G vwCl [(h0, LgV r1 (upd g 18 ((g 18) + 1))), (r1, .inl (cA 1, 50, .inl (upd (upd (upd (upd (upd Dd 0 k0) 1 (g 6)) 2 (g 7)) 3 (bbF g)) 4 t0))), (h2, ThV (upd g 18 ((g 18) + 1)))] H := hP
        replace hD : va_D (inW [(h0, LgV r1 g), (r1, LcV cA L), (h2, ThV g)]) [(h0, LgV r1 (upd g 18 ((g 18) + 1))), (r1, .inl (cA 1, 50, .inl (upd (upd (upd (upd (upd Dd 0 k0) 1 (g 6)) 2 (g 7)) 3 (bbF g)) 4 t0))), (h2, ThV (upd g 18 ((g 18) + 1)))] := hD
        exact en_wv hx hb hr hlocks hS (by (have e18 : enterG g 18 = g 18 + 1 := by simp [enterG, upd, c_87]); (show va_P G vwCl [(h0, .inr (3, [.ref r1, .int (enterG g 18)])), (r1, LcV cA (enterL L g k0 t0)), (h2, ThV (enterG g))] H); rw [e18]; exact va_P_setA hP 1 rfl (vp_arrI (enter_arr hDd)) rfl) dX3_enter_100
    · skip
      refine lv_aload_n hx hb dX3_enter_15 rfl (lv_at hl 1 rfl) ?_
      refine va_get (D := G) (ci := 3) (v := .ref r1) (C := RX3) (T := TX3) (N := 2) hx hb hts hin_X3 hown hK hP 0 rfl rfl 0 (by decide) k11 (fun _ h9 => h9) rfl dX3_enter_16 ?_
      refine lv_iload hx hb dX3_enter_19 (lv_at hl 0 rfl) ?_
      refine lv_aload_n hx hb dX3_enter_21 rfl (lv_at hl 1 rfl) ?_
      refine va_get (D := G) (ci := 3) (v := .ref r1) (C := RX3) (T := TX3) (N := 2) hx hb hts hin_X3 hown hK hP 0 rfl rfl 0 (by decide) k11 (fun _ h9 => h9) rfl dX3_enter_22 ?_
      refine lv_iload hx hb dX3_enter_25 (lv_at hl 0 rfl) ?_
      refine lv_iconst (v := 5) hx hb dX3_enter_27 (by decide) ?_
      refine lv_isub hx hb dX3_enter_28 ?_
      refine va_iald hx hb hK hP 1 1 rfl rfl (in_m5 c_12 (by omega)) dX3_enter_29 ?_
      refine W.eq (g2 := F0 m 30 ls [.int (Dd (((nI i) - 5).toNatClampNeg)), .int (nI i), .ref r1]) rfl ?_
      refine va_iast hx hb hK hP hD hS 1 1 rfl rfl (vp_in_nI (by omega) (by decide)) dX3_enter_30 (fun H locs hP hD hS => ?_)
      replace hP : va_P G vwCl [(h0, LgV r1 g), (r1, .inl (cA 1, 50, .inl (upd Dd (nI i).toNatClampNeg (Dd (((nI i) - 5).toNatClampNeg))))), (h2, ThV g)] H := hP
      replace hD : va_D (inW [(h0, LgV r1 g), (r1, LcV cA L), (h2, ThV g)]) [(h0, LgV r1 g), (r1, .inl (cA 1, 50, .inl (upd Dd (nI i).toNatClampNeg (Dd (((nI i) - 5).toNatClampNeg))))), (h2, ThV g)] := hD
      refine lv_iinc (v := ((nI i) + (-1))) (lv' := [(4, .int ((nI i) + (-1))), (0, .ref h0), (1, .int k0), (2, .ref h2), (3, .int t0)]) hx hb dX3_enter_31 hl (k := 0) rfl rfl (by decide) rfl (fun ls hl => ?_)
      refine lv_goto (tgt := 9) hx hb dX3_enter_34 (by decide) ?_
      have h5 : 5 ≤ i := le_of_nlt5 (by omega) c_12
      replace hl : lv_has ls 5 [(4, .int (nI (i - 1))), (0, .ref h0), (1, .int k0), (2, .ref h2), (3, .int t0)] := by rw [← sb_m1 (by omega)]; exact hl
      exact ih (i - 1) _ _ _ _ (by omega) (by omega) (by omega) (en_step h5 hi hDd) hP hD hS (lv_sub hl [0, 1, 2, 3, 4] rfl)
