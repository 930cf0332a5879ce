/-! cell(s, k); what holds as the law begins (by wip/p26/lawall.py) -/
set_option maxHeartbeats 4000000 in
set_option maxRecDepth 100000 in
theorem cL_cell_ok (l : Launch) {b L : Nat} {xs : Nat → Int32} (hL : L < 2 ^ 31) (k : Nat) (hk : k < 2 ^ 31) : Met l yL_cell wsL_cell ({ frames := 0, cells := 0, slots := 0, locals := 0 } : Room) (va_Pc [.ref b, .int (nI k)] (fun U => va_X b L xs U U.heap)) (va_Qi (fun r (_ : Unit) => True) (fun _ _ => True) (fun _ => False)) 0 0 (fun _ => False) := by
  refine ofW2 (cc := cL_cell) (maxL := 2) (ret := some .int) (own := RL) (by decide) rfl rfl (Nat.le_of_ble_eq_true rfl) rfl ?_
  intro p e s m below meth c ls hx hb hml hr hts hown hlocks hX hl
  have hbl : b < s.heap.size := by obtain ⟨scr, h1, -⟩ := hX; exact (Array.getElem?_eq_some_iff.mp h1).1
  have hS : va_S (fun _ => False) s.heap s.heap [] := va_S.rf
  replace hl : lv_has ls 2 [(0, .ref b), (1, .int (nI k))] := hl
  refine lv_iload_n hx hb dL_cell_0 rfl (lv_at hl 1 rfl) ?_
  refine lv_aload_n hx hb dL_cell_1 rfl (lv_at hl 0 rfl) ?_
  refine va_slen hx hb hX hbl (fun h => h) hS dL_cell_2 ?_
  refine lv_icmp_ge (tgt := 12) hx hb dL_cell_3 (by decide) (fun c_3 => ?_) (fun c_3 => ?_)
  · refine lv_ldc hx hb hown (hts (.constant RL 7 (14410019)) (by decide +kernel)) dL_cell_12 ?_
    refine lv_iload_n hx hb dL_cell_14 rfl (lv_at hl 1 rfl) ?_
    refine lv_imul hx hb dL_cell_15 ?_
    refine lv_sipush (v := 14207) hx hb dL_cell_16 (by decide) ?_
    refine lv_iadd hx hb dL_cell_19 ?_
    exact en_ri hx hb hr rfl hlocks hS trivial dL_cell_20
  · have hlt : k < L := by
      rcases Nat.lt_or_ge k L with h | h
      · exact h
      · exact absurd (nI_le h hk) c_3
    refine lv_aload_n hx hb dL_cell_6 rfl (lv_at hl 0 rfl) ?_
    refine lv_iload_n hx hb dL_cell_7 rfl (lv_at hl 1 rfl) ?_
    refine va_sld hx hb hX hbl (fun h => h) hS (vp_in_nI hlt hL) dL_cell_8 ?_
    refine lv_goto (tgt := 20) hx hb dL_cell_9 (by decide) ?_
    exact en_ri hx hb hr rfl hlocks hS trivial dL_cell_20
theorem kA_ {args : Array Value} {s : State} {ty : FieldType} (h : (Cond.arrayClass ty).before args s = true) : ∃ cK : ClassId, ArrOfT s cK ty ∧ s.vm.findClass ("[" ++ ty.toString) = some cK := by
  obtain ⟨c, k, comp, h1, h2, h3⟩ := Cond.arrayClass_spec h
  exact ⟨c, fun n z => ⟨(fun k h => by cases h), k, h2, comp, h3⟩, h1⟩
theorem kQ_ {s : State} {C : String} (h : va_AO C s) : ∃ cK : ClassId, ArrOfT s cK (.object C) ∧ va_RA s cK (.object C) := by
  obtain ⟨comp, c, k, h1, h2, h3, h4, h5⟩ := Cond.arrayOver_spec h
  exact ⟨c, fun n z => ⟨(fun k h => by cases h), k, h3, comp, h4⟩, k, comp, h3, h4, h1, h5⟩
theorem nest_0 : Cond.methodLinkNest RX8 9 yX5_init RX8 ∈ lw_tbl := by decide +kernel
theorem nest_1 : Cond.methodLinkNest RX8 31 yX0_init RX8 ∈ lw_tbl := by decide +kernel
theorem nest_2 : Cond.methodLinkNest RX5 11 yX4_init RX8 ∈ lw_tbl := by decide +kernel
theorem nest_3 : Cond.methodLinkNest RX5 20 yX7_init RX8 ∈ lw_tbl := by decide +kernel
theorem nest_4 : Cond.methodLinkNest RX5 27 yX1_init RX8 ∈ lw_tbl := by decide +kernel
theorem nest_5 : Cond.methodLinkNest RX5 34 yX3_init RX8 ∈ lw_tbl := by decide +kernel
theorem nest_6 : Cond.methodLinkNest RX5 41 yX6_init RX8 ∈ lw_tbl := by decide +kernel
theorem nest_7 : Cond.methodLinkNest RX2 15 yX5_init RX8 ∈ lw_tbl := by decide +kernel
theorem nest_n : Cond.methodLinkNest RX4 24 yX8_notANumber RX8 ∈ lw_tbl := by decide +kernel
theorem nest_o : Cond.methodLinkNest RX7 54 yX8_oneIf RX8 ∈ lw_tbl := by decide +kernel
theorem over_5 : Cond.arrayOver (.object RX5) ∈ lw_tbl := by decide +kernel
theorem lays_1 : Cond.laysStatic "LiftBeams" "LEAST_NUMBERS" "[I" ∈ lw_tbl := by decide +kernel
theorem lays_2 : Cond.laysStatic "LiftBeams" "GREATEST_NUMBERS" "[I" ∈ lw_tbl := by decide +kernel
theorem ini_8 : Cond.initialized "LiftBeams" ∈ lw_tbl := by decide +kernel
set_option maxHeartbeats 4000000 in
set_option maxRecDepth 100000 in
theorem en_start {args : Array Value} {s : State} (hT : ∀ w ∈ lw_tbl, w.before args s = true) : ∃ (G : va_G) (cA : Nat → ClassId), EnC G cA s := by
  have hts : ∀ w ∈ wsL_law, w.before args s = true := fun w h => hT w (glt_law w h).1
  obtain ⟨c0, i0, k0⟩ := u_known (C := RX0) (T := TX0) (N := 5) (n := 5) hts inlX0 (hts (.instantiable RX0 5) (by decide +kernel))
  obtain ⟨c1, i1, k1⟩ := u_known (C := RX1) (T := TX1) (N := 6) (n := 6) hts inlX1 (hts (.instantiable RX1 6) (by decide +kernel))
  obtain ⟨c2, i2, k2⟩ := u_known (C := RX2) (T := TX2) (N := 2) (n := 2) hts inlX2 (hts (.instantiable RX2 2) (by decide +kernel))
  obtain ⟨c3, i3, k3⟩ := u_known (C := RX3) (T := TX3) (N := 2) (n := 2) hts inlX3 (hts (.instantiable RX3 2) (by decide +kernel))
  obtain ⟨c4, i4, k4⟩ := u_known (C := RX4) (T := TX4) (N := 3) (n := 3) hts inlX4 (hts (.instantiable RX4 3) (by decide +kernel))
  obtain ⟨c5, i5, k5⟩ := u_known (C := RX5) (T := TX5) (N := 6) (n := 6) hts inlX5 (hts (.instantiable RX5 6) (by decide +kernel))
  obtain ⟨c6, i6, k6⟩ := u_known (C := RX6) (T := TX6) (N := 8) (n := 8) hts inlX6 (hts (.instantiable RX6 8) (by decide +kernel))
  obtain ⟨c7, i7, k7⟩ := u_known (C := RX7) (T := TX7) (N := 8) (n := 8) hts inlX7 (hts (.instantiable RX7 8) (by decide +kernel))
  obtain ⟨c8, i8, k8⟩ := u_known (C := RX8) (T := TX8) (N := 6) (n := 6) hts inlX8 (hts (.instantiable RX8 6) (by decide +kernel))
  obtain ⟨a0, f0, g0⟩ := kA_ (hts (.arrayClass .float) (by decide +kernel))
  obtain ⟨a1, f1, g1⟩ := kA_ (hts (.arrayClass .int) (by decide +kernel))
  obtain ⟨a2, f2, g2⟩ := kA_ (hts (.arrayClass .char) (by decide +kernel))
  have hAO : va_AO RX5 s := va_AO.of (hT _ over_5)
  obtain ⟨a3, f3, g3⟩ := kQ_ hAO
  refine ⟨(fun k => if k = 0 then c0 else if k = 1 then c1 else if k = 2 then c2 else if k = 3 then c3 else if k = 4 then c4 else if k = 5 then c5 else if k = 6 then c6 else if k = 7 then c7 else c8, fun k => if k = 0 then i0 else if k = 1 then i1 else if k = 2 then i2 else if k = 3 then i3 else if k = 4 then i4 else if k = 5 then i5 else if k = 6 then i6 else if k = 7 then i7 else i8), fun k => if k = 0 then a0 else if k = 1 then a1 else if k = 2 then a2 else a3, ⟨⟨fun k q hq => ?_, fun k q hq => ?_⟩, va_Nw.of rfl (hT _ nest_n), va_Nw.of rfl (hT _ nest_o)⟩, hAO, va_Nw.of rfl (hT _ nest_0), va_Nw.of rfl (hT _ nest_1), va_Nw.of rfl (hT _ nest_2), va_Nw.of rfl (hT _ nest_3), va_Nw.of rfl (hT _ nest_4), va_Nw.of rfl (hT _ nest_5), va_Nw.of rfl (hT _ nest_6), va_Nw.of rfl (hT _ nest_7)⟩
  · match k, hq with
    | 0, hq => cases hq; exact k0
    | 1, hq => cases hq; exact k1
    | 2, hq => cases hq; exact k2
    | 3, hq => cases hq; exact k3
    | 4, hq => cases hq; exact k4
    | 5, hq => cases hq; exact k5
    | 6, hq => cases hq; exact k6
    | 7, hq => cases hq; exact k7
    | 8, hq => cases hq; exact k8
    | k + 9, hq => simp [vwCl] at hq
  · match k, hq with
    | 0, hq => cases hq; exact ⟨f0, g0⟩
    | 1, hq => cases hq; exact ⟨f1, g1⟩
    | 2, hq => cases hq; exact ⟨f2, g2⟩
    | 3, hq => cases hq; exact ⟨f3, g3⟩
    | k + 4, hq => simp [tyA] at hq
set_option maxHeartbeats 4000000 in
set_option maxRecDepth 100000 in
theorem num_start {args : Array Value} {s : State} (hT : ∀ w ∈ lw_tbl, w.before args s = true) (hg : (Jvm.Cond.and given_1 narrow_1).before args s = true) : NumT (fun q => s.heap.size ≤ q) s s.heap := by
  have hs := flat_of_before _ hg
  have hA : ∀ a : Nat, a < s.heap.size → ¬ (fun q : Nat => s.heap.size ≤ q) a := fun a h h2 => absurd h2 (Nat.not_le.mpr h)
  obtain ⟨t1, e1, h1⟩ := va_Tof (tm := (.static "LiftBeams" "LEAST_NUMBERS" "[I")) (ty := .int) (N := 5) (f := fun k => .int (leastF k)) (A := fun q => s.heap.size ≤ q) (by decide) (hs (.arrayOf (.static "LiftBeams" "LEAST_NUMBERS" "[I") .int) (by decide +kernel)) (va_eqt (hs (.eq (.length (.static "LiftBeams" "LEAST_NUMBERS" "[I")) (.int 5)) (by decide +kernel))) (fun j hj => by
    rcases (show j = 0 ∨ j = 1 ∨ j = 2 ∨ j = 3 ∨ j = 4 by omega) with rfl | rfl | rfl | rfl | rfl
    · exact va_eqt (hs (.eq (.elem (.static "LiftBeams" "LEAST_NUMBERS" "[I") (.int 0)) (.int 1)) (by decide +kernel))
    · exact va_eqt (hs (.eq (.elem (.static "LiftBeams" "LEAST_NUMBERS" "[I") (.int 1)) (.int 0)) (by decide +kernel))
    · exact va_eqt (hs (.eq (.elem (.static "LiftBeams" "LEAST_NUMBERS" "[I") (.int 2)) (.int 0)) (by decide +kernel))
    · exact va_eqt (hs (.eq (.elem (.static "LiftBeams" "LEAST_NUMBERS" "[I") (.int 3)) (.int 0)) (by decide +kernel))
    · exact va_eqt (hs (.eq (.elem (.static "LiftBeams" "LEAST_NUMBERS" "[I") (.int 4)) (.int 1)) (by decide +kernel))) hA
  obtain ⟨t2, e2, h2⟩ := va_Tof (tm := (.static "LiftBeams" "GREATEST_NUMBERS" "[I")) (ty := .int) (N := 5) (f := fun k => .int (mostF k)) (A := fun q => s.heap.size ≤ q) (by decide) (hs (.arrayOf (.static "LiftBeams" "GREATEST_NUMBERS" "[I") .int) (by decide +kernel)) (va_eqt (hs (.eq (.length (.static "LiftBeams" "GREATEST_NUMBERS" "[I")) (.int 5)) (by decide +kernel))) (fun j hj => by
    rcases (show j = 0 ∨ j = 1 ∨ j = 2 ∨ j = 3 ∨ j = 4 by omega) with rfl | rfl | rfl | rfl | rfl
    · exact va_eqt (hs (.eq (.elem (.static "LiftBeams" "GREATEST_NUMBERS" "[I") (.int 0)) (.int 50)) (by decide +kernel))
    · exact va_eqt (hs (.eq (.elem (.static "LiftBeams" "GREATEST_NUMBERS" "[I") (.int 1)) (.int 5)) (by decide +kernel))
    · exact va_eqt (hs (.eq (.elem (.static "LiftBeams" "GREATEST_NUMBERS" "[I") (.int 2)) (.int 5)) (by decide +kernel))
    · exact va_eqt (hs (.eq (.elem (.static "LiftBeams" "GREATEST_NUMBERS" "[I") (.int 3)) (.int 5)) (by decide +kernel))
    · exact va_eqt (hs (.eq (.elem (.static "LiftBeams" "GREATEST_NUMBERS" "[I") (.int 4)) (.int 10)) (by decide +kernel))) hA
  exact ⟨t1, t2, va_Zref (hT _ lays_1) (hT _ ini_8) e1 hA, h1, va_Zref (hT _ lays_2) (hT _ ini_8) e2 hA, h2⟩
theorem okS_u0 : ∀ j, j < 7 → okS (u0 j) := by
  intro j hj
  rcases (show j = 0 ∨ j = 1 ∨ j = 2 ∨ j = 3 ∨ j = 4 ∨ j = 5 ∨ j = 6 by omega) with rfl | rfl | rfl | rfl | rfl | rfl | rfl
  · exact okS_10
  · exact okS_8
  · exact okS_2
  · exact okS_1
  · exact okS_1
  · exact okS_1
  · exact okS_1
theorem inv_start : Inv 0 X00 := by
  refine ⟨⟨okS_u0, by decide⟩, ⟨okP_0, Or.inl ⟨rfl, zv_0⟩⟩, ⟨0, 0, rfl, Nat.le_refl 0, rfl, Nat.le_refl 0, ⟨fun _ => 0, fun _ => 0, fun _ => 0, fun _ => 0, fun _ => 0, fun i hi => absurd hi (Nat.not_lt_zero i)⟩, fun h => absurd rfl h⟩, ⟨Or.inl rfl, Or.inl rfl, Or.inl rfl⟩, rfl⟩
theorem two_mul (i : Nat) : 2 * nI i = nI (2 * i) := pk_mul 2 i

