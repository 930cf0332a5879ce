/-! The constructors: their contracts (by wip/p26/ctor.py) -/
set_option maxHeartbeats 8000000 in
set_option maxRecDepth 100000 in
/-- Thing() -/
theorem cX7_init_ok (l : Launch) (G : va_G) (cA : Nat → ClassId) (h0 sz : Nat) : Ct (T := Unit) l yX7_init wsX7_init ({ frames := 1, cells := 0, slots := 0, locals := 12 } : Room) G cA h0 sz (.inr (7, [.int 0, .int 0, .int 0, .int 0, .int 0, .int 0, .int 0, .int 0])) 0 0 (fun a => [(h0, ThV g0)]) := by
  refine ofWC (cc := cX7_init) (maxL := 1) (ret := none) (own := RX7) (by decide) rfl rfl rfl (Nat.le_of_ble_eq_true rfl) rfl ?_
  intro p e s m below meth c ls hx hb hml hr hts hown hlocks hin hv hl
  obtain ⟨hsz, hP, hE, hD0⟩ := hv
  have hK := hE.1.1
  subst hsz
  have hD := hD0.self (sz := s.heap.size)
  generalize hAe : va_A [(h0, .inr (7, [.int 0, .int 0, .int 0, .int 0, .int 0, .int 0, .int 0, .int 0]))] s.heap.size = A at hD ⊢
  have hA : ∀ q : Nat, s.heap.size ≤ q → A q := fun q h => by rw [← hAe]; exact Or.inr h
  have hS : va_S A s.heap s.heap [] := va_S.rf
  clear hAe hD0
  obtain ⟨H, hH0⟩ : ∃ H, H = s.heap := ⟨_, rfl⟩
  replace hP : va_P G vwCl [(h0, .inr (7, [.int 0, .int 0, .int 0, .int 0, .int 0, .int 0, .int 0, .int 0]))] H := by rw [hH0]; exact hP
  replace hS : va_S A s.heap H [] := by rw [hH0]; exact hS
  rw [← hH0]
  clear hH0
  generalize ([] : List Loc) = locs at hS ⊢
  replace hl : lv_has ls 1 [(0, .ref h0)] := hl
  refine lv_aload_n hx hb dX7_init_0 rfl (lv_at hl 0 rfl) ?_
  refine W.objInit hx hb hown (hts (.methodLink RX7 3 objectInit) (by decide +kernel)) (hts (.instanceMethod objectInit) (by decide +kernel)) (hts _ (List.mem_of_getElem? (i := 3) rfl)) rfl (by rw [hml]; exact hl.1) rfl dX7_init_1 (Nat.le_of_ble_eq_true rfl) (Nat.le_of_ble_eq_true rfl) ?_
  refine W.eq (g2 := F0 m 4 ls []) rfl ?_
  exact W.vret hx hb hr (fun t ht _ => ⟨⟨(), rfl, trivial, by rw [ht]; exact hP.sub [0] rfl, hD.sub [0] (by decide) rfl⟩, hS.F ht⟩) hS.2.2 dX7_init_4
set_option maxHeartbeats 8000000 in
set_option maxRecDepth 100000 in
/-- Tally() -/
theorem cX6_init_ok (l : Launch) (G : va_G) (cA : Nat → ClassId) (h0 sz : Nat) : Ct (T := Unit) l yX6_init wsX6_init ({ frames := 1, cells := 0, slots := 0, locals := 12 } : Room) G cA h0 sz (.inr (6, [.int 0, .int 0, .int 0, .int 0, .int 0, .int 0, .int 0, .int 0])) 0 0 (fun a => [(h0, TaV g0)]) := by
  refine ofWC (cc := cX6_init) (maxL := 1) (ret := none) (own := RX6) (by decide) rfl rfl rfl (Nat.le_of_ble_eq_true rfl) rfl ?_
  intro p e s m below meth c ls hx hb hml hr hts hown hlocks hin hv hl
  obtain ⟨hsz, hP, hE, hD0⟩ := hv
  have hK := hE.1.1
  subst hsz
  have hD := hD0.self (sz := s.heap.size)
  generalize hAe : va_A [(h0, .inr (6, [.int 0, .int 0, .int 0, .int 0, .int 0, .int 0, .int 0, .int 0]))] s.heap.size = A at hD ⊢
  have hA : ∀ q : Nat, s.heap.size ≤ q → A q := fun q h => by rw [← hAe]; exact Or.inr h
  have hS : va_S A s.heap s.heap [] := va_S.rf
  clear hAe hD0
  obtain ⟨H, hH0⟩ : ∃ H, H = s.heap := ⟨_, rfl⟩
  replace hP : va_P G vwCl [(h0, .inr (6, [.int 0, .int 0, .int 0, .int 0, .int 0, .int 0, .int 0, .int 0]))] H := by rw [hH0]; exact hP
  replace hS : va_S A s.heap H [] := by rw [hH0]; exact hS
  rw [← hH0]
  clear hH0
  generalize ([] : List Loc) = locs at hS ⊢
  replace hl : lv_has ls 1 [(0, .ref h0)] := hl
  refine lv_aload_n hx hb dX6_init_0 rfl (lv_at hl 0 rfl) ?_
  refine W.objInit hx hb hown (hts (.methodLink RX6 3 objectInit) (by decide +kernel)) (hts (.instanceMethod objectInit) (by decide +kernel)) (hts _ (List.mem_of_getElem? (i := 3) rfl)) rfl (by rw [hml]; exact hl.1) rfl dX6_init_1 (Nat.le_of_ble_eq_true rfl) (Nat.le_of_ble_eq_true rfl) ?_
  refine W.eq (g2 := F0 m 4 ls []) rfl ?_
  exact W.vret hx hb hr (fun t ht _ => ⟨⟨(), rfl, trivial, by rw [ht]; exact hP.sub [0] rfl, hD.sub [0] (by decide) rfl⟩, hS.F ht⟩) hS.2.2 dX6_init_4
set_option maxHeartbeats 8000000 in
set_option maxRecDepth 100000 in
/-- Door() -/
theorem cX1_init_ok (l : Launch) (G : va_G) (cA : Nat → ClassId) (h0 sz : Nat) : Ct (T := Unit) l yX1_init wsX1_init ({ frames := 1, cells := 0, slots := 0, locals := 12 } : Room) G cA h0 sz (.inr (1, [.float 0, .int 0, .int 0, .int 0, .int 0, .int 0])) 0 0 (fun a => [(h0, DrV f0 g0)]) := by
  refine ofWC (cc := cX1_init) (maxL := 1) (ret := none) (own := RX1) (by decide) rfl rfl rfl (Nat.le_of_ble_eq_true rfl) rfl ?_
  intro p e s m below meth c ls hx hb hml hr hts hown hlocks hin hv hl
  obtain ⟨hsz, hP, hE, hD0⟩ := hv
  have hK := hE.1.1
  subst hsz
  have hD := hD0.self (sz := s.heap.size)
  generalize hAe : va_A [(h0, .inr (1, [.float 0, .int 0, .int 0, .int 0, .int 0, .int 0]))] s.heap.size = A at hD ⊢
  have hA : ∀ q : Nat, s.heap.size ≤ q → A q := fun q h => by rw [← hAe]; exact Or.inr h
  have hS : va_S A s.heap s.heap [] := va_S.rf
  clear hAe hD0
  obtain ⟨H, hH0⟩ : ∃ H, H = s.heap := ⟨_, rfl⟩
  replace hP : va_P G vwCl [(h0, .inr (1, [.float 0, .int 0, .int 0, .int 0, .int 0, .int 0]))] H := by rw [hH0]; exact hP
  replace hS : va_S A s.heap H [] := by rw [hH0]; exact hS
  rw [← hH0]
  clear hH0
  generalize ([] : List Loc) = locs at hS ⊢
  replace hl : lv_has ls 1 [(0, .ref h0)] := hl
  refine lv_aload_n hx hb dX1_init_0 rfl (lv_at hl 0 rfl) ?_
  refine W.objInit hx hb hown (hts (.methodLink RX1 3 objectInit) (by decide +kernel)) (hts (.instanceMethod objectInit) (by decide +kernel)) (hts _ (List.mem_of_getElem? (i := 3) rfl)) rfl (by rw [hml]; exact hl.1) rfl dX1_init_1 (Nat.le_of_ble_eq_true rfl) (Nat.le_of_ble_eq_true rfl) ?_
  refine W.eq (g2 := F0 m 4 ls []) rfl ?_
  refine lv_aload_n hx hb dX1_init_4 rfl (lv_at hl 0 rfl) ?_
  refine lv_iconst (v := 0) hx hb dX1_init_5 (by decide) ?_
  refine va_put (D := G) (ci := 1) (v := .int 0) (ty := .int) (C := RX1) (T := TX1) (N := 6) hx hb hts (by decide +kernel) tyX1 tyX1_ok nmX1 hown hK hP hD hS 0 rfl rfl 1 (by decide) (hts (.fieldLink RX1 9 "LiftBeams$Door" "state" "I") (by decide +kernel)) (fun _ h9 => h9) rfl (by decide +kernel) rfl rfl (Nat.le_of_ble_eq_true rfl) dX1_init_6 (fun H locs hP hD hS => ?_)
  replace hP : va_P G vwCl [(h0, .inr (1, [.float 0, .int 0, .int 0, .int 0, .int 0, .int 0]))] H := hP
  replace hD : va_D A [(h0, .inr (1, [.float 0, .int 0, .int 0, .int 0, .int 0, .int 0]))] := hD
  exact W.vret hx hb hr (fun t ht _ => ⟨⟨(), rfl, trivial, by rw [ht]; exact hP.sub [0] rfl, hD.sub [0] (by decide) rfl⟩, hS.F ht⟩) hS.2.2 dX1_init_9
set_option maxHeartbeats 8000000 in
set_option maxRecDepth 100000 in
/-- Log() -/
theorem cX3_init_ok (l : Launch) (G : va_G) (cA : Nat → ClassId) (h0 sz : Nat) : Ct (T := Nat) l yX3_init wsX3_init ({ frames := 1, cells := 1, slots := 50, locals := 12 } : Room) G cA h0 sz (.inr (3, [.null, .int 0])) 1 50 (fun a => [(h0, LgV a g0), (a, LcV cA g0)]) := by
  refine ofWC (cc := cX3_init) (maxL := 1) (ret := none) (own := RX3) (by decide) rfl rfl rfl (Nat.le_of_ble_eq_true rfl) rfl ?_
  intro p e s m below meth c ls hx hb hml hr hts hown hlocks hin hv hl
  obtain ⟨hsz, hP, hE, hD0⟩ := hv
  have hK := hE.1.1
  subst hsz
  have hD := hD0.self (sz := s.heap.size)
  generalize hAe : va_A [(h0, .inr (3, [.null, .int 0]))] s.heap.size = A at hD ⊢
  have hA : ∀ q : Nat, s.heap.size ≤ q → A q := fun q h => by rw [← hAe]; exact Or.inr h
  have hS : va_S A s.heap s.heap [] := va_S.rf
  clear hAe hD0
  obtain ⟨H, hH0⟩ : ∃ H, H = s.heap := ⟨_, rfl⟩
  replace hP : va_P G vwCl [(h0, .inr (3, [.null, .int 0]))] H := by rw [hH0]; exact hP
  replace hS : va_S A s.heap H [] := by rw [hH0]; exact hS
  rw [← hH0]
  clear hH0
  generalize ([] : List Loc) = locs at hS ⊢
  replace hl : lv_has ls 1 [(0, .ref h0)] := hl
  refine lv_aload_n hx hb dX3_init_0 rfl (lv_at hl 0 rfl) ?_
  refine W.objInit hx hb hown (hts (.methodLink RX3 3 objectInit) (by decide +kernel)) (hts (.instanceMethod objectInit) (by decide +kernel)) (hts _ (List.mem_of_getElem? (i := 3) rfl)) rfl (by rw [hml]; exact hl.1) rfl dX3_init_1 (Nat.le_of_ble_eq_true rfl) (Nat.le_of_ble_eq_true rfl) ?_
  refine W.eq (g2 := F0 m 4 ls []) rfl ?_
  refine lv_aload_n hx hb dX3_init_4 rfl (lv_at hl 0 rfl) ?_
  refine lv_bipush (v := 50) hx hb dX3_init_5 (by decide) ?_
  refine cnA hx hb (atype := .int) (ty := .int) rfl 1 (cA 1) rfl (fun _ _ => rfl) (hts (.arrayClass .int) (by decide +kernel)) hK hP hD hS hA (N' := 50) (a0 := (50, .inl (fun _ => 0))) (fun _ => rfl) (by decide) (by decide) (by decide) (Nat.le_of_ble_eq_true rfl) (Nat.le_of_ble_eq_true rfl) dX3_init_7 (fun q H hP hD hS => ?_)
  replace hP : va_P G vwCl [(h0, .inr (3, [.null, .int 0])), (q, .inl (cA 1, 50, .inl (fun _ => 0)))] H := hP
  replace hD : va_D A [(h0, .inr (3, [.null, .int 0])), (q, .inl (cA 1, 50, .inl (fun _ => 0)))] := hD
  refine W.widen (k := 1) (n := 50) (Nat.le_of_ble_eq_true rfl) (Nat.le_of_ble_eq_true rfl) ?_
  refine va_putF (D := G) (ci := 3) (v := .ref q) (ty := (tyX3 0)) (C := RX3) (T := TX3) (N := 2) hx hb hts (by decide +kernel) tyX3 tyX3_ok nmX3 hown hK hP hD hS 0 rfl rfl 0 (by decide) (hts (.fieldLink RX3 11 "LiftBeams$Log" "cells" "[I") (by decide +kernel)) (fun _ h9 => h9) rfl hin rfl (by decide +kernel) rfl rfl (Nat.le_of_ble_eq_true rfl) dX3_init_9 (fun H locs hP hD hS => ?_)
  replace hP : va_P G vwCl [(h0, .inr (3, [.ref q, .int 0])), (q, .inl (cA 1, 50, .inl (fun _ => 0)))] H := hP
  replace hD : va_D A [(h0, .inr (3, [.ref q, .int 0])), (q, .inl (cA 1, 50, .inl (fun _ => 0)))] := hD
  exact W.vret hx hb hr (fun t ht _ => ⟨⟨q, rfl, trivial, by rw [ht]; exact hP.sub [0, 1] rfl, hD.sub [0, 1] (by decide) rfl⟩, hS.F ht⟩) hS.2.2 dX3_init_12
set_option maxHeartbeats 8000000 in
set_option maxRecDepth 100000 in
/-- Settings() -/
theorem cX4_init_ok (l : Launch) (G : va_G) (cA : Nat → ClassId) (h0 sz : Nat) : Ct (T := Nat × Nat × Nat) l yX4_init wsX4_init ({ frames := 1, cells := 3, slots := 12, locals := 12 } : Room) G cA h0 sz (.inr (4, [.null, .null, .null])) 3 12 (fun a => [(h0, SeV a.1 a.2.1 a.2.2), (a.1, SpV cA u0), (a.2.1, WeV cA u0), (a.2.2, NuV cA v0)]) := by
  refine ofWC (cc := cX4_init) (maxL := 1) (ret := none) (own := RX4) (by decide) rfl rfl rfl (Nat.le_of_ble_eq_true rfl) rfl ?_
  intro p e s m below meth c ls hx hb hml hr hts hown hlocks hin hv hl
  obtain ⟨hsz, hP, hE, hD0⟩ := hv
  have hK := hE.1.1
  subst hsz
  have hD := hD0.self (sz := s.heap.size)
  generalize hAe : va_A [(h0, .inr (4, [.null, .null, .null]))] s.heap.size = A at hD ⊢
  have hA : ∀ q : Nat, s.heap.size ≤ q → A q := fun q h => by rw [← hAe]; exact Or.inr h
  have hS : va_S A s.heap s.heap [] := va_S.rf
  clear hAe hD0
  obtain ⟨H, hH0⟩ : ∃ H, H = s.heap := ⟨_, rfl⟩
  replace hP : va_P G vwCl [(h0, .inr (4, [.null, .null, .null]))] H := by rw [hH0]; exact hP
  replace hS : va_S A s.heap H [] := by rw [hH0]; exact hS
  rw [← hH0]
  clear hH0
  generalize ([] : List Loc) = locs at hS ⊢
  replace hl : lv_has ls 1 [(0, .ref h0)] := hl
  refine lv_aload_n hx hb dX4_init_0 rfl (lv_at hl 0 rfl) ?_
  refine W.objInit hx hb hown (hts (.methodLink RX4 3 objectInit) (by decide +kernel)) (hts (.instanceMethod objectInit) (by decide +kernel)) (hts _ (List.mem_of_getElem? (i := 3) rfl)) rfl (by rw [hml]; exact hl.1) rfl dX4_init_1 (Nat.le_of_ble_eq_true rfl) (Nat.le_of_ble_eq_true rfl) ?_
  refine W.eq (g2 := F0 m 4 ls []) rfl ?_
  refine lv_aload_n hx hb dX4_init_4 rfl (lv_at hl 0 rfl) ?_
  refine lv_iconst (v := 3) hx hb dX4_init_5 (by decide) ?_
  refine cnA hx hb (atype := .float) (ty := .float) rfl 0 (cA 0) rfl (fun _ _ => rfl) (hts (.arrayClass .float) (by decide +kernel)) hK hP hD hS hA (N' := 3) (a0 := (3, .inr (.inr (.inl (fun _ => 0))))) (fun _ => rfl) (by decide) (by decide) (by decide) (Nat.le_of_ble_eq_true rfl) (Nat.le_of_ble_eq_true rfl) dX4_init_6 (fun q H hP hD hS => ?_)
  replace hP : va_P G vwCl [(h0, .inr (4, [.null, .null, .null])), (q, .inl (cA 0, 3, .inr (.inr (.inl (fun _ => 0)))))] H := hP
  replace hD : va_D A [(h0, .inr (4, [.null, .null, .null])), (q, .inl (cA 0, 3, .inr (.inr (.inl (fun _ => 0)))))] := hD
  refine W.widen (k := 1) (n := 3) (Nat.le_of_ble_eq_true rfl) (Nat.le_of_ble_eq_true rfl) ?_
  refine lv_dup hx hb dX4_init_8 rfl ?_
  refine lv_iconst (v := 0) hx hb dX4_init_9 (by decide) ?_
  refine lv_ldcf hx hb hown (hts (.constantFloat RX4 9 (1092616192)) (by decide +kernel)) dX4_init_10 ?_
  refine va_fast hx hb hK hP hD hS 1 0 rfl rfl (by unfold vp_in; decide) dX4_init_12 (fun H locs hP hD hS => ?_)
  replace hP : va_P G vwCl [(h0, .inr (4, [.null, .null, .null])), (q, .inl (cA 0, 3, .inr (.inr (.inl (vf_upd (fun _ => 0) 0 1092616192)))))] H := hP
  replace hD : va_D A [(h0, .inr (4, [.null, .null, .null])), (q, .inl (cA 0, 3, .inr (.inr (.inl (vf_upd (fun _ => 0) 0 1092616192)))))] := hD
  refine lv_dup hx hb dX4_init_13 rfl ?_
  refine lv_iconst (v := 1) hx hb dX4_init_14 (by decide) ?_
  refine lv_ldcf hx hb hown (hts (.constantFloat RX4 10 (1090519040)) (by decide +kernel)) dX4_init_15 ?_
  refine va_fast hx hb hK hP hD hS 1 0 rfl rfl (by unfold vp_in; decide) dX4_init_17 (fun H locs hP hD hS => ?_)
  replace hP : va_P G vwCl [(h0, .inr (4, [.null, .null, .null])), (q, .inl (cA 0, 3, .inr (.inr (.inl (vf_upd (vf_upd (fun _ => 0) 0 1092616192) 1 1090519040)))))] H := hP
  replace hD : va_D A [(h0, .inr (4, [.null, .null, .null])), (q, .inl (cA 0, 3, .inr (.inr (.inl (vf_upd (vf_upd (fun _ => 0) 0 1092616192) 1 1090519040)))))] := hD
  refine lv_dup hx hb dX4_init_18 rfl ?_
  refine lv_iconst (v := 2) hx hb dX4_init_19 (by decide) ?_
  refine lv_fconst2 hx hb dX4_init_20 ?_
  refine va_fast hx hb hK hP hD hS 1 0 rfl rfl (by unfold vp_in; decide) dX4_init_21 (fun H locs hP hD hS => ?_)
  replace hP : va_P G vwCl [(h0, .inr (4, [.null, .null, .null])), (q, .inl (cA 0, 3, .inr (.inr (.inl (vf_upd (vf_upd (vf_upd (fun _ => 0) 0 1092616192) 1 1090519040) 2 FP.fconst2)))))] H := hP
  replace hD : va_D A [(h0, .inr (4, [.null, .null, .null])), (q, .inl (cA 0, 3, .inr (.inr (.inl (vf_upd (vf_upd (vf_upd (fun _ => 0) 0 1092616192) 1 1090519040) 2 FP.fconst2)))))] := hD
  refine va_putF (D := G) (ci := 4) (v := .ref q) (ty := (tyX4 0)) (C := RX4) (T := TX4) (N := 3) hx hb hts (by decide +kernel) tyX4 tyX4_ok nmX4 hown hK hP hD hS 0 rfl rfl 0 (by decide) (hts (.fieldLink RX4 11 "LiftBeams$Settings" "speeds" "[F") (by decide +kernel)) (fun _ h9 => h9) rfl hin rfl (by decide +kernel) rfl rfl (Nat.le_of_ble_eq_true rfl) dX4_init_22 (fun H locs hP hD hS => ?_)
  replace hP : va_P G vwCl [(h0, .inr (4, [.ref q, .null, .null])), (q, .inl (cA 0, 3, .inr (.inr (.inl (vf_upd (vf_upd (vf_upd (fun _ => 0) 0 1092616192) 1 1090519040) 2 FP.fconst2)))))] H := hP
  replace hD : va_D A [(h0, .inr (4, [.ref q, .null, .null])), (q, .inl (cA 0, 3, .inr (.inr (.inl (vf_upd (vf_upd (vf_upd (fun _ => 0) 0 1092616192) 1 1090519040) 2 FP.fconst2)))))] := hD
  refine lv_aload_n hx hb dX4_init_25 rfl (lv_at hl 0 rfl) ?_
  refine lv_iconst (v := 4) hx hb dX4_init_26 (by decide) ?_
  refine cnA hx hb (atype := .float) (ty := .float) rfl 0 (cA 0) rfl (fun _ _ => rfl) (hts (.arrayClass .float) (by decide +kernel)) hK hP hD hS hA (N' := 4) (a0 := (4, .inr (.inr (.inl (fun _ => 0))))) (fun _ => rfl) (by decide) (by decide) (by decide) (Nat.le_of_ble_eq_true rfl) (Nat.le_of_ble_eq_true rfl) dX4_init_27 (fun q_1 H hP hD hS => ?_)
  replace hP : va_P G vwCl [(h0, .inr (4, [.ref q, .null, .null])), (q, .inl (cA 0, 3, .inr (.inr (.inl (vf_upd (vf_upd (vf_upd (fun _ => 0) 0 1092616192) 1 1090519040) 2 FP.fconst2))))), (q_1, .inl (cA 0, 4, .inr (.inr (.inl (fun _ => 0)))))] H := hP
  replace hD : va_D A [(h0, .inr (4, [.ref q, .null, .null])), (q, .inl (cA 0, 3, .inr (.inr (.inl (vf_upd (vf_upd (vf_upd (fun _ => 0) 0 1092616192) 1 1090519040) 2 FP.fconst2))))), (q_1, .inl (cA 0, 4, .inr (.inr (.inl (fun _ => 0)))))] := hD
  refine W.widen (k := 2) (n := 7) (Nat.le_of_ble_eq_true rfl) (Nat.le_of_ble_eq_true rfl) ?_
  refine lv_dup hx hb dX4_init_29 rfl ?_
  refine lv_iconst (v := 0) hx hb dX4_init_30 (by decide) ?_
  refine lv_fconst1 hx hb dX4_init_31 ?_
  refine va_fast hx hb hK hP hD hS 2 0 rfl rfl (by unfold vp_in; decide) dX4_init_32 (fun H locs hP hD hS => ?_)
  replace hP : va_P G vwCl [(h0, .inr (4, [.ref q, .null, .null])), (q, .inl (cA 0, 3, .inr (.inr (.inl (vf_upd (vf_upd (vf_upd (fun _ => 0) 0 1092616192) 1 1090519040) 2 FP.fconst2))))), (q_1, .inl (cA 0, 4, .inr (.inr (.inl (vf_upd (fun _ => 0) 0 FP.fconst1)))))] H := hP
  replace hD : va_D A [(h0, .inr (4, [.ref q, .null, .null])), (q, .inl (cA 0, 3, .inr (.inr (.inl (vf_upd (vf_upd (vf_upd (fun _ => 0) 0 1092616192) 1 1090519040) 2 FP.fconst2))))), (q_1, .inl (cA 0, 4, .inr (.inr (.inl (vf_upd (fun _ => 0) 0 FP.fconst1)))))] := hD
  refine lv_dup hx hb dX4_init_33 rfl ?_
  refine lv_iconst (v := 1) hx hb dX4_init_34 (by decide) ?_
  refine lv_fconst1 hx hb dX4_init_35 ?_
  refine va_fast hx hb hK hP hD hS 2 0 rfl rfl (by unfold vp_in; decide) dX4_init_36 (fun H locs hP hD hS => ?_)
  replace hP : va_P G vwCl [(h0, .inr (4, [.ref q, .null, .null])), (q, .inl (cA 0, 3, .inr (.inr (.inl (vf_upd (vf_upd (vf_upd (fun _ => 0) 0 1092616192) 1 1090519040) 2 FP.fconst2))))), (q_1, .inl (cA 0, 4, .inr (.inr (.inl (vf_upd (vf_upd (fun _ => 0) 0 FP.fconst1) 1 FP.fconst1)))))] H := hP
  replace hD : va_D A [(h0, .inr (4, [.ref q, .null, .null])), (q, .inl (cA 0, 3, .inr (.inr (.inl (vf_upd (vf_upd (vf_upd (fun _ => 0) 0 1092616192) 1 1090519040) 2 FP.fconst2))))), (q_1, .inl (cA 0, 4, .inr (.inr (.inl (vf_upd (vf_upd (fun _ => 0) 0 FP.fconst1) 1 FP.fconst1)))))] := hD
  refine lv_dup hx hb dX4_init_37 rfl ?_
  refine lv_iconst (v := 2) hx hb dX4_init_38 (by decide) ?_
  refine lv_fconst1 hx hb dX4_init_39 ?_
  refine va_fast hx hb hK hP hD hS 2 0 rfl rfl (by unfold vp_in; decide) dX4_init_40 (fun H locs hP hD hS => ?_)
  replace hP : va_P G vwCl [(h0, .inr (4, [.ref q, .null, .null])), (q, .inl (cA 0, 3, .inr (.inr (.inl (vf_upd (vf_upd (vf_upd (fun _ => 0) 0 1092616192) 1 1090519040) 2 FP.fconst2))))), (q_1, .inl (cA 0, 4, .inr (.inr (.inl (vf_upd (vf_upd (vf_upd (fun _ => 0) 0 FP.fconst1) 1 FP.fconst1) 2 FP.fconst1)))))] H := hP
  replace hD : va_D A [(h0, .inr (4, [.ref q, .null, .null])), (q, .inl (cA 0, 3, .inr (.inr (.inl (vf_upd (vf_upd (vf_upd (fun _ => 0) 0 1092616192) 1 1090519040) 2 FP.fconst2))))), (q_1, .inl (cA 0, 4, .inr (.inr (.inl (vf_upd (vf_upd (vf_upd (fun _ => 0) 0 FP.fconst1) 1 FP.fconst1) 2 FP.fconst1)))))] := hD
  refine lv_dup hx hb dX4_init_41 rfl ?_
  refine lv_iconst (v := 3) hx hb dX4_init_42 (by decide) ?_
  refine lv_fconst1 hx hb dX4_init_43 ?_
  refine va_fast hx hb hK hP hD hS 2 0 rfl rfl (by unfold vp_in; decide) dX4_init_44 (fun H locs hP hD hS => ?_)
  replace hP : va_P G vwCl [(h0, .inr (4, [.ref q, .null, .null])), (q, .inl (cA 0, 3, .inr (.inr (.inl (vf_upd (vf_upd (vf_upd (fun _ => 0) 0 1092616192) 1 1090519040) 2 FP.fconst2))))), (q_1, .inl (cA 0, 4, .inr (.inr (.inl (vf_upd (vf_upd (vf_upd (vf_upd (fun _ => 0) 0 FP.fconst1) 1 FP.fconst1) 2 FP.fconst1) 3 FP.fconst1)))))] H := hP
  replace hD : va_D A [(h0, .inr (4, [.ref q, .null, .null])), (q, .inl (cA 0, 3, .inr (.inr (.inl (vf_upd (vf_upd (vf_upd (fun _ => 0) 0 1092616192) 1 1090519040) 2 FP.fconst2))))), (q_1, .inl (cA 0, 4, .inr (.inr (.inl (vf_upd (vf_upd (vf_upd (vf_upd (fun _ => 0) 0 FP.fconst1) 1 FP.fconst1) 2 FP.fconst1) 3 FP.fconst1)))))] := hD
  refine va_putF (D := G) (ci := 4) (v := .ref q_1) (ty := (tyX4 1)) (C := RX4) (T := TX4) (N := 3) hx hb hts (by decide +kernel) tyX4 tyX4_ok nmX4 hown hK hP hD hS 0 rfl rfl 1 (by decide) (hts (.fieldLink RX4 17 "LiftBeams$Settings" "weights" "[F") (by decide +kernel)) (fun _ h9 => h9) rfl hin rfl (by decide +kernel) rfl rfl (Nat.le_of_ble_eq_true rfl) dX4_init_45 (fun H locs hP hD hS => ?_)
  replace hP : va_P G vwCl [(h0, .inr (4, [.ref q, .ref q_1, .null])), (q, .inl (cA 0, 3, .inr (.inr (.inl (vf_upd (vf_upd (vf_upd (fun _ => 0) 0 1092616192) 1 1090519040) 2 FP.fconst2))))), (q_1, .inl (cA 0, 4, .inr (.inr (.inl (vf_upd (vf_upd (vf_upd (vf_upd (fun _ => 0) 0 FP.fconst1) 1 FP.fconst1) 2 FP.fconst1) 3 FP.fconst1)))))] H := hP
  replace hD : va_D A [(h0, .inr (4, [.ref q, .ref q_1, .null])), (q, .inl (cA 0, 3, .inr (.inr (.inl (vf_upd (vf_upd (vf_upd (fun _ => 0) 0 1092616192) 1 1090519040) 2 FP.fconst2))))), (q_1, .inl (cA 0, 4, .inr (.inr (.inl (vf_upd (vf_upd (vf_upd (vf_upd (fun _ => 0) 0 FP.fconst1) 1 FP.fconst1) 2 FP.fconst1) 3 FP.fconst1)))))] := hD
  refine lv_aload_n hx hb dX4_init_48 rfl (lv_at hl 0 rfl) ?_
  refine lv_iconst (v := 5) hx hb dX4_init_49 (by decide) ?_
  refine cnA hx hb (atype := .int) (ty := .int) rfl 1 (cA 1) rfl (fun _ _ => rfl) (hts (.arrayClass .int) (by decide +kernel)) hK hP hD hS hA (N' := 5) (a0 := (5, .inl (fun _ => 0))) (fun _ => rfl) (by decide) (by decide) (by decide) (Nat.le_of_ble_eq_true rfl) (Nat.le_of_ble_eq_true rfl) dX4_init_50 (fun q_2 H hP hD hS => ?_)
  replace hP : va_P G vwCl [(h0, .inr (4, [.ref q, .ref q_1, .null])), (q, .inl (cA 0, 3, .inr (.inr (.inl (vf_upd (vf_upd (vf_upd (fun _ => 0) 0 1092616192) 1 1090519040) 2 FP.fconst2))))), (q_1, .inl (cA 0, 4, .inr (.inr (.inl (vf_upd (vf_upd (vf_upd (vf_upd (fun _ => 0) 0 FP.fconst1) 1 FP.fconst1) 2 FP.fconst1) 3 FP.fconst1))))), (q_2, .inl (cA 1, 5, .inl (fun _ => 0)))] H := hP
  replace hD : va_D A [(h0, .inr (4, [.ref q, .ref q_1, .null])), (q, .inl (cA 0, 3, .inr (.inr (.inl (vf_upd (vf_upd (vf_upd (fun _ => 0) 0 1092616192) 1 1090519040) 2 FP.fconst2))))), (q_1, .inl (cA 0, 4, .inr (.inr (.inl (vf_upd (vf_upd (vf_upd (vf_upd (fun _ => 0) 0 FP.fconst1) 1 FP.fconst1) 2 FP.fconst1) 3 FP.fconst1))))), (q_2, .inl (cA 1, 5, .inl (fun _ => 0)))] := hD
  refine W.widen (k := 3) (n := 12) (Nat.le_of_ble_eq_true rfl) (Nat.le_of_ble_eq_true rfl) ?_
  refine lv_dup hx hb dX4_init_52 rfl ?_
  refine lv_iconst (v := 0) hx hb dX4_init_53 (by decide) ?_
  refine lv_iconst (v := 5) hx hb dX4_init_54 (by decide) ?_
  refine va_iast hx hb hK hP hD hS 3 1 rfl rfl (by unfold vp_in; decide) dX4_init_55 (fun H locs hP hD hS => ?_)
  replace hP : va_P G vwCl [(h0, .inr (4, [.ref q, .ref q_1, .null])), (q, .inl (cA 0, 3, .inr (.inr (.inl (vf_upd (vf_upd (vf_upd (fun _ => 0) 0 1092616192) 1 1090519040) 2 FP.fconst2))))), (q_1, .inl (cA 0, 4, .inr (.inr (.inl (vf_upd (vf_upd (vf_upd (vf_upd (fun _ => 0) 0 FP.fconst1) 1 FP.fconst1) 2 FP.fconst1) 3 FP.fconst1))))), (q_2, .inl (cA 1, 5, .inl (upd (fun _ => 0) 0 5)))] H := hP
  replace hD : va_D A [(h0, .inr (4, [.ref q, .ref q_1, .null])), (q, .inl (cA 0, 3, .inr (.inr (.inl (vf_upd (vf_upd (vf_upd (fun _ => 0) 0 1092616192) 1 1090519040) 2 FP.fconst2))))), (q_1, .inl (cA 0, 4, .inr (.inr (.inl (vf_upd (vf_upd (vf_upd (vf_upd (fun _ => 0) 0 FP.fconst1) 1 FP.fconst1) 2 FP.fconst1) 3 FP.fconst1))))), (q_2, .inl (cA 1, 5, .inl (upd (fun _ => 0) 0 5)))] := hD
  refine lv_dup hx hb dX4_init_56 rfl ?_
  refine lv_iconst (v := 1) hx hb dX4_init_57 (by decide) ?_
  refine lv_iconst (v := 1) hx hb dX4_init_58 (by decide) ?_
  refine va_iast hx hb hK hP hD hS 3 1 rfl rfl (by unfold vp_in; decide) dX4_init_59 (fun H locs hP hD hS => ?_)
  replace hP : va_P G vwCl [(h0, .inr (4, [.ref q, .ref q_1, .null])), (q, .inl (cA 0, 3, .inr (.inr (.inl (vf_upd (vf_upd (vf_upd (fun _ => 0) 0 1092616192) 1 1090519040) 2 FP.fconst2))))), (q_1, .inl (cA 0, 4, .inr (.inr (.inl (vf_upd (vf_upd (vf_upd (vf_upd (fun _ => 0) 0 FP.fconst1) 1 FP.fconst1) 2 FP.fconst1) 3 FP.fconst1))))), (q_2, .inl (cA 1, 5, .inl (upd (upd (fun _ => 0) 0 5) 1 1)))] H := hP
  replace hD : va_D A [(h0, .inr (4, [.ref q, .ref q_1, .null])), (q, .inl (cA 0, 3, .inr (.inr (.inl (vf_upd (vf_upd (vf_upd (fun _ => 0) 0 1092616192) 1 1090519040) 2 FP.fconst2))))), (q_1, .inl (cA 0, 4, .inr (.inr (.inl (vf_upd (vf_upd (vf_upd (vf_upd (fun _ => 0) 0 FP.fconst1) 1 FP.fconst1) 2 FP.fconst1) 3 FP.fconst1))))), (q_2, .inl (cA 1, 5, .inl (upd (upd (fun _ => 0) 0 5) 1 1)))] := hD
  refine lv_dup hx hb dX4_init_60 rfl ?_
  refine lv_iconst (v := 2) hx hb dX4_init_61 (by decide) ?_
  refine lv_iconst (v := 2) hx hb dX4_init_62 (by decide) ?_
  refine va_iast hx hb hK hP hD hS 3 1 rfl rfl (by unfold vp_in; decide) dX4_init_63 (fun H locs hP hD hS => ?_)
  replace hP : va_P G vwCl [(h0, .inr (4, [.ref q, .ref q_1, .null])), (q, .inl (cA 0, 3, .inr (.inr (.inl (vf_upd (vf_upd (vf_upd (fun _ => 0) 0 1092616192) 1 1090519040) 2 FP.fconst2))))), (q_1, .inl (cA 0, 4, .inr (.inr (.inl (vf_upd (vf_upd (vf_upd (vf_upd (fun _ => 0) 0 FP.fconst1) 1 FP.fconst1) 2 FP.fconst1) 3 FP.fconst1))))), (q_2, .inl (cA 1, 5, .inl (upd (upd (upd (fun _ => 0) 0 5) 1 1) 2 2)))] H := hP
  replace hD : va_D A [(h0, .inr (4, [.ref q, .ref q_1, .null])), (q, .inl (cA 0, 3, .inr (.inr (.inl (vf_upd (vf_upd (vf_upd (fun _ => 0) 0 1092616192) 1 1090519040) 2 FP.fconst2))))), (q_1, .inl (cA 0, 4, .inr (.inr (.inl (vf_upd (vf_upd (vf_upd (vf_upd (fun _ => 0) 0 FP.fconst1) 1 FP.fconst1) 2 FP.fconst1) 3 FP.fconst1))))), (q_2, .inl (cA 1, 5, .inl (upd (upd (upd (fun _ => 0) 0 5) 1 1) 2 2)))] := hD
  refine lv_dup hx hb dX4_init_64 rfl ?_
  refine lv_iconst (v := 3) hx hb dX4_init_65 (by decide) ?_
  refine lv_iconst (v := 2) hx hb dX4_init_66 (by decide) ?_
  refine va_iast hx hb hK hP hD hS 3 1 rfl rfl (by unfold vp_in; decide) dX4_init_67 (fun H locs hP hD hS => ?_)
  replace hP : va_P G vwCl [(h0, .inr (4, [.ref q, .ref q_1, .null])), (q, .inl (cA 0, 3, .inr (.inr (.inl (vf_upd (vf_upd (vf_upd (fun _ => 0) 0 1092616192) 1 1090519040) 2 FP.fconst2))))), (q_1, .inl (cA 0, 4, .inr (.inr (.inl (vf_upd (vf_upd (vf_upd (vf_upd (fun _ => 0) 0 FP.fconst1) 1 FP.fconst1) 2 FP.fconst1) 3 FP.fconst1))))), (q_2, .inl (cA 1, 5, .inl (upd (upd (upd (upd (fun _ => 0) 0 5) 1 1) 2 2) 3 2)))] H := hP
  replace hD : va_D A [(h0, .inr (4, [.ref q, .ref q_1, .null])), (q, .inl (cA 0, 3, .inr (.inr (.inl (vf_upd (vf_upd (vf_upd (fun _ => 0) 0 1092616192) 1 1090519040) 2 FP.fconst2))))), (q_1, .inl (cA 0, 4, .inr (.inr (.inl (vf_upd (vf_upd (vf_upd (vf_upd (fun _ => 0) 0 FP.fconst1) 1 FP.fconst1) 2 FP.fconst1) 3 FP.fconst1))))), (q_2, .inl (cA 1, 5, .inl (upd (upd (upd (upd (fun _ => 0) 0 5) 1 1) 2 2) 3 2)))] := hD
  refine lv_dup hx hb dX4_init_68 rfl ?_
  refine lv_iconst (v := 4) hx hb dX4_init_69 (by decide) ?_
  refine lv_iconst (v := 3) hx hb dX4_init_70 (by decide) ?_
  refine va_iast hx hb hK hP hD hS 3 1 rfl rfl (by unfold vp_in; decide) dX4_init_71 (fun H locs hP hD hS => ?_)
  replace hP : va_P G vwCl [(h0, .inr (4, [.ref q, .ref q_1, .null])), (q, .inl (cA 0, 3, .inr (.inr (.inl (vf_upd (vf_upd (vf_upd (fun _ => 0) 0 1092616192) 1 1090519040) 2 FP.fconst2))))), (q_1, .inl (cA 0, 4, .inr (.inr (.inl (vf_upd (vf_upd (vf_upd (vf_upd (fun _ => 0) 0 FP.fconst1) 1 FP.fconst1) 2 FP.fconst1) 3 FP.fconst1))))), (q_2, .inl (cA 1, 5, .inl (upd (upd (upd (upd (upd (fun _ => 0) 0 5) 1 1) 2 2) 3 2) 4 3)))] H := hP
  replace hD : va_D A [(h0, .inr (4, [.ref q, .ref q_1, .null])), (q, .inl (cA 0, 3, .inr (.inr (.inl (vf_upd (vf_upd (vf_upd (fun _ => 0) 0 1092616192) 1 1090519040) 2 FP.fconst2))))), (q_1, .inl (cA 0, 4, .inr (.inr (.inl (vf_upd (vf_upd (vf_upd (vf_upd (fun _ => 0) 0 FP.fconst1) 1 FP.fconst1) 2 FP.fconst1) 3 FP.fconst1))))), (q_2, .inl (cA 1, 5, .inl (upd (upd (upd (upd (upd (fun _ => 0) 0 5) 1 1) 2 2) 3 2) 4 3)))] := hD
  refine va_putF (D := G) (ci := 4) (v := .ref q_2) (ty := (tyX4 2)) (C := RX4) (T := TX4) (N := 3) hx hb hts (by decide +kernel) tyX4 tyX4_ok nmX4 hown hK hP hD hS 0 rfl rfl 2 (by decide) (hts (.fieldLink RX4 20 "LiftBeams$Settings" "numbers" "[I") (by decide +kernel)) (fun _ h9 => h9) rfl hin rfl (by decide +kernel) rfl rfl (Nat.le_of_ble_eq_true rfl) dX4_init_72 (fun H locs hP hD hS => ?_)
  replace hP : va_P G vwCl [(h0, .inr (4, [.ref q, .ref q_1, .ref q_2])), (q, .inl (cA 0, 3, .inr (.inr (.inl (vf_upd (vf_upd (vf_upd (fun _ => 0) 0 1092616192) 1 1090519040) 2 FP.fconst2))))), (q_1, .inl (cA 0, 4, .inr (.inr (.inl (vf_upd (vf_upd (vf_upd (vf_upd (fun _ => 0) 0 FP.fconst1) 1 FP.fconst1) 2 FP.fconst1) 3 FP.fconst1))))), (q_2, .inl (cA 1, 5, .inl (upd (upd (upd (upd (upd (fun _ => 0) 0 5) 1 1) 2 2) 3 2) 4 3)))] H := hP
  replace hD : va_D A [(h0, .inr (4, [.ref q, .ref q_1, .ref q_2])), (q, .inl (cA 0, 3, .inr (.inr (.inl (vf_upd (vf_upd (vf_upd (fun _ => 0) 0 1092616192) 1 1090519040) 2 FP.fconst2))))), (q_1, .inl (cA 0, 4, .inr (.inr (.inl (vf_upd (vf_upd (vf_upd (vf_upd (fun _ => 0) 0 FP.fconst1) 1 FP.fconst1) 2 FP.fconst1) 3 FP.fconst1))))), (q_2, .inl (cA 1, 5, .inl (upd (upd (upd (upd (upd (fun _ => 0) 0 5) 1 1) 2 2) 3 2) 4 3)))] := hD
  replace hP : va_P G vwCl [(h0, .inr (4, [.ref q, .ref q_1, .ref q_2])), (q, SpV cA u0), (q_1, .inl (cA 0, 4, .inr (.inr (.inl (vf_upd (vf_upd (vf_upd (vf_upd (fun _ => 0) 0 FP.fconst1) 1 FP.fconst1) 2 FP.fconst1) 3 FP.fconst1))))), (q_2, .inl (cA 1, 5, .inl (upd (upd (upd (upd (upd (fun _ => 0) 0 5) 1 1) 2 2) 3 2) 4 3)))] H := va_P_setA hP 1 rfl (vp_arrF (fun k hk => by rcases (show k = 0 ∨ k = 1 ∨ k = 2 by omega) with rfl | rfl | rfl <;> rfl)) rfl
  replace hD : va_D A [(h0, .inr (4, [.ref q, .ref q_1, .ref q_2])), (q, SpV cA u0), (q_1, .inl (cA 0, 4, .inr (.inr (.inl (vf_upd (vf_upd (vf_upd (vf_upd (fun _ => 0) 0 FP.fconst1) 1 FP.fconst1) 2 FP.fconst1) 3 FP.fconst1))))), (q_2, .inl (cA 1, 5, .inl (upd (upd (upd (upd (upd (fun _ => 0) 0 5) 1 1) 2 2) 3 2) 4 3)))] := va_D_setA hD 1 rfl rfl
  replace hP : va_P G vwCl [(h0, .inr (4, [.ref q, .ref q_1, .ref q_2])), (q, SpV cA u0), (q_1, WeV cA u0), (q_2, .inl (cA 1, 5, .inl (upd (upd (upd (upd (upd (fun _ => 0) 0 5) 1 1) 2 2) 3 2) 4 3)))] H := va_P_setA hP 2 rfl (vp_arrF (fun k hk => by rcases (show k = 0 ∨ k = 1 ∨ k = 2 ∨ k = 3 by omega) with rfl | rfl | rfl | rfl <;> rfl)) rfl
  replace hD : va_D A [(h0, .inr (4, [.ref q, .ref q_1, .ref q_2])), (q, SpV cA u0), (q_1, WeV cA u0), (q_2, .inl (cA 1, 5, .inl (upd (upd (upd (upd (upd (fun _ => 0) 0 5) 1 1) 2 2) 3 2) 4 3)))] := va_D_setA hD 2 rfl rfl
  replace hP : va_P G vwCl [(h0, .inr (4, [.ref q, .ref q_1, .ref q_2])), (q, SpV cA u0), (q_1, WeV cA u0), (q_2, NuV cA v0)] H := va_P_setA hP 3 rfl (vp_arrI (fun k hk => by rcases (show k = 0 ∨ k = 1 ∨ k = 2 ∨ k = 3 ∨ k = 4 by omega) with rfl | rfl | rfl | rfl | rfl <;> rfl)) rfl
  replace hD : va_D A [(h0, .inr (4, [.ref q, .ref q_1, .ref q_2])), (q, SpV cA u0), (q_1, WeV cA u0), (q_2, NuV cA v0)] := va_D_setA hD 3 rfl rfl
  exact W.vret hx hb hr (fun t ht _ => ⟨⟨(q, q_1, q_2), rfl, trivial, by rw [ht]; exact hP.sub [0, 1, 2, 3] rfl, hD.sub [0, 1, 2, 3] (by decide) rfl⟩, hS.F ht⟩) hS.2.2 dX4_init_75
set_option maxHeartbeats 8000000 in
set_option maxRecDepth 100000 in
/-- BeamText() -/
theorem cX0_init_ok (l : Launch) (G : va_G) (cA : Nat → ClassId) (h0 sz : Nat) : Ct (T := Nat × Nat × Nat) l yX0_init wsX0_init ({ frames := 1, cells := 3, slots := 180, locals := 12 } : Room) G cA h0 sz (.inr (0, [.null, .int 0, .null, .null, .int 0])) 3 180 (fun a => [(h0, TxV a.1 a.2.1 a.2.2 0 0), (a.1, .inl (cA 2, 60, .inl g0)), (a.2.1, .inl (cA 1, 60, .inl g0)), (a.2.2, .inl (cA 1, 60, .inl g0))]) := by
  refine ofWC (cc := cX0_init) (maxL := 1) (ret := none) (own := RX0) (by decide) rfl rfl rfl (Nat.le_of_ble_eq_true rfl) rfl ?_
  intro p e s m below meth c ls hx hb hml hr hts hown hlocks hin hv hl
  obtain ⟨hsz, hP, hE, hD0⟩ := hv
  have hK := hE.1.1
  subst hsz
  have hD := hD0.self (sz := s.heap.size)
  generalize hAe : va_A [(h0, .inr (0, [.null, .int 0, .null, .null, .int 0]))] s.heap.size = A at hD ⊢
  have hA : ∀ q : Nat, s.heap.size ≤ q → A q := fun q h => by rw [← hAe]; exact Or.inr h
  have hS : va_S A s.heap s.heap [] := va_S.rf
  clear hAe hD0
  obtain ⟨H, hH0⟩ : ∃ H, H = s.heap := ⟨_, rfl⟩
  replace hP : va_P G vwCl [(h0, .inr (0, [.null, .int 0, .null, .null, .int 0]))] H := by rw [hH0]; exact hP
  replace hS : va_S A s.heap H [] := by rw [hH0]; exact hS
  rw [← hH0]
  clear hH0
  generalize ([] : List Loc) = locs at hS ⊢
  replace hl : lv_has ls 1 [(0, .ref h0)] := hl
  refine lv_aload_n hx hb dX0_init_0 rfl (lv_at hl 0 rfl) ?_
  refine W.objInit hx hb hown (hts (.methodLink RX0 1 objectInit) (by decide +kernel)) (hts (.instanceMethod objectInit) (by decide +kernel)) (hts _ (List.mem_of_getElem? (i := 3) rfl)) rfl (by rw [hml]; exact hl.1) rfl dX0_init_1 (Nat.le_of_ble_eq_true rfl) (Nat.le_of_ble_eq_true rfl) ?_
  refine W.eq (g2 := F0 m 4 ls []) rfl ?_
  refine lv_aload_n hx hb dX0_init_4 rfl (lv_at hl 0 rfl) ?_
  refine lv_bipush (v := 60) hx hb dX0_init_5 (by decide) ?_
  refine cnA hx hb (atype := .char) (ty := .char) rfl 2 (cA 2) rfl (fun _ _ => rfl) (hts (.arrayClass .char) (by decide +kernel)) hK hP hD hS hA (N' := 60) (a0 := (60, .inl (fun _ => 0))) (fun _ => rfl) (by decide) (by decide) (by decide) (Nat.le_of_ble_eq_true rfl) (Nat.le_of_ble_eq_true rfl) dX0_init_7 (fun q H hP hD hS => ?_)
  replace hP : va_P G vwCl [(h0, .inr (0, [.null, .int 0, .null, .null, .int 0])), (q, .inl (cA 2, 60, .inl (fun _ => 0)))] H := hP
  replace hD : va_D A [(h0, .inr (0, [.null, .int 0, .null, .null, .int 0])), (q, .inl (cA 2, 60, .inl (fun _ => 0)))] := hD
  refine W.widen (k := 1) (n := 60) (Nat.le_of_ble_eq_true rfl) (Nat.le_of_ble_eq_true rfl) ?_
  refine va_putF (D := G) (ci := 0) (v := .ref q) (ty := (tyX0 0)) (C := RX0) (T := TX0) (N := 5) hx hb hts (by decide +kernel) tyX0 tyX0_ok nmX0 hown hK hP hD hS 0 rfl rfl 0 (by decide) (hts (.fieldLink RX0 9 "LiftBeams$BeamText" "characters" "[C") (by decide +kernel)) (fun _ h9 => h9) rfl hin rfl (by decide +kernel) rfl rfl (Nat.le_of_ble_eq_true rfl) dX0_init_9 (fun H locs hP hD hS => ?_)
  replace hP : va_P G vwCl [(h0, .inr (0, [.ref q, .int 0, .null, .null, .int 0])), (q, .inl (cA 2, 60, .inl (fun _ => 0)))] H := hP
  replace hD : va_D A [(h0, .inr (0, [.ref q, .int 0, .null, .null, .int 0])), (q, .inl (cA 2, 60, .inl (fun _ => 0)))] := hD
  refine lv_aload_n hx hb dX0_init_12 rfl (lv_at hl 0 rfl) ?_
  refine lv_bipush (v := 60) hx hb dX0_init_13 (by decide) ?_
  refine cnA hx hb (atype := .int) (ty := .int) rfl 1 (cA 1) rfl (fun _ _ => rfl) (hts (.arrayClass .int) (by decide +kernel)) hK hP hD hS hA (N' := 60) (a0 := (60, .inl (fun _ => 0))) (fun _ => rfl) (by decide) (by decide) (by decide) (Nat.le_of_ble_eq_true rfl) (Nat.le_of_ble_eq_true rfl) dX0_init_15 (fun q_1 H hP hD hS => ?_)
  replace hP : va_P G vwCl [(h0, .inr (0, [.ref q, .int 0, .null, .null, .int 0])), (q, .inl (cA 2, 60, .inl (fun _ => 0))), (q_1, .inl (cA 1, 60, .inl (fun _ => 0)))] H := hP
  replace hD : va_D A [(h0, .inr (0, [.ref q, .int 0, .null, .null, .int 0])), (q, .inl (cA 2, 60, .inl (fun _ => 0))), (q_1, .inl (cA 1, 60, .inl (fun _ => 0)))] := hD
  refine W.widen (k := 2) (n := 120) (Nat.le_of_ble_eq_true rfl) (Nat.le_of_ble_eq_true rfl) ?_
  refine va_putF (D := G) (ci := 0) (v := .ref q_1) (ty := (tyX0 2)) (C := RX0) (T := TX0) (N := 5) hx hb hts (by decide +kernel) tyX0 tyX0_ok nmX0 hown hK hP hD hS 0 rfl rfl 2 (by decide) (hts (.fieldLink RX0 13 "LiftBeams$BeamText" "beams" "[I") (by decide +kernel)) (fun _ h9 => h9) rfl hin rfl (by decide +kernel) rfl rfl (Nat.le_of_ble_eq_true rfl) dX0_init_17 (fun H locs hP hD hS => ?_)
  replace hP : va_P G vwCl [(h0, .inr (0, [.ref q, .int 0, .ref q_1, .null, .int 0])), (q, .inl (cA 2, 60, .inl (fun _ => 0))), (q_1, .inl (cA 1, 60, .inl (fun _ => 0)))] H := hP
  replace hD : va_D A [(h0, .inr (0, [.ref q, .int 0, .ref q_1, .null, .int 0])), (q, .inl (cA 2, 60, .inl (fun _ => 0))), (q_1, .inl (cA 1, 60, .inl (fun _ => 0)))] := hD
  refine lv_aload_n hx hb dX0_init_20 rfl (lv_at hl 0 rfl) ?_
  refine lv_bipush (v := 60) hx hb dX0_init_21 (by decide) ?_
  refine cnA hx hb (atype := .int) (ty := .int) rfl 1 (cA 1) rfl (fun _ _ => rfl) (hts (.arrayClass .int) (by decide +kernel)) hK hP hD hS hA (N' := 60) (a0 := (60, .inl (fun _ => 0))) (fun _ => rfl) (by decide) (by decide) (by decide) (Nat.le_of_ble_eq_true rfl) (Nat.le_of_ble_eq_true rfl) dX0_init_23 (fun q_2 H hP hD hS => ?_)
  replace hP : va_P G vwCl [(h0, .inr (0, [.ref q, .int 0, .ref q_1, .null, .int 0])), (q, .inl (cA 2, 60, .inl (fun _ => 0))), (q_1, .inl (cA 1, 60, .inl (fun _ => 0))), (q_2, .inl (cA 1, 60, .inl (fun _ => 0)))] H := hP
  replace hD : va_D A [(h0, .inr (0, [.ref q, .int 0, .ref q_1, .null, .int 0])), (q, .inl (cA 2, 60, .inl (fun _ => 0))), (q_1, .inl (cA 1, 60, .inl (fun _ => 0))), (q_2, .inl (cA 1, 60, .inl (fun _ => 0)))] := hD
  refine W.widen (k := 3) (n := 180) (Nat.le_of_ble_eq_true rfl) (Nat.le_of_ble_eq_true rfl) ?_
  refine va_putF (D := G) (ci := 0) (v := .ref q_2) (ty := (tyX0 3)) (C := RX0) (T := TX0) (N := 5) hx hb hts (by decide +kernel) tyX0 tyX0_ok nmX0 hown hK hP hD hS 0 rfl rfl 3 (by decide) (hts (.fieldLink RX0 17 "LiftBeams$BeamText" "ticks" "[I") (by decide +kernel)) (fun _ h9 => h9) rfl hin rfl (by decide +kernel) rfl rfl (Nat.le_of_ble_eq_true rfl) dX0_init_25 (fun H locs hP hD hS => ?_)
  replace hP : va_P G vwCl [(h0, .inr (0, [.ref q, .int 0, .ref q_1, .ref q_2, .int 0])), (q, .inl (cA 2, 60, .inl (fun _ => 0))), (q_1, .inl (cA 1, 60, .inl (fun _ => 0))), (q_2, .inl (cA 1, 60, .inl (fun _ => 0)))] H := hP
  replace hD : va_D A [(h0, .inr (0, [.ref q, .int 0, .ref q_1, .ref q_2, .int 0])), (q, .inl (cA 2, 60, .inl (fun _ => 0))), (q_1, .inl (cA 1, 60, .inl (fun _ => 0))), (q_2, .inl (cA 1, 60, .inl (fun _ => 0)))] := hD
  exact W.vret hx hb hr (fun t ht _ => ⟨⟨(q, q_1, q_2), rfl, trivial, by rw [ht]; exact hP.sub [0, 1, 2, 3] rfl, hD.sub [0, 1, 2, 3] (by decide) rfl⟩, hS.F ht⟩) hS.2.2 dX0_init_28
set_option maxHeartbeats 8000000 in
set_option maxRecDepth 100000 in
/-- State() -/
theorem cX5_init_ok (l : Launch) (G : va_G) (cA : Nat → ClassId) (h0 sz : Nat) : Ct (T := Nat → Nat) l yX5_init wsX5_init ({ frames := 2, cells := 9, slots := 89, locals := 32 } : Room) G cA h0 sz (.inr (5, [.null, .null, .null, .null, .null, .int 0])) 9 89 (fun a => stC cA (sta h0 a) u0 v0 f0 g0 g0) := by
  refine ofWC (cc := cX5_init) (maxL := 1) (ret := none) (own := RX5) (by decide) rfl rfl rfl (Nat.le_of_ble_eq_true rfl) rfl ?_
  intro p e s m below meth c ls hx hb hml hr hts hown hlocks hin hv hl
  obtain ⟨hsz, hP, hE, hD0⟩ := hv
  have hK := hE.1.1
  subst hsz
  have hD := hD0.self (sz := s.heap.size)
  generalize hAe : va_A [(h0, .inr (5, [.null, .null, .null, .null, .null, .int 0]))] s.heap.size = A at hD ⊢
  have hA : ∀ q : Nat, s.heap.size ≤ q → A q := fun q h => by rw [← hAe]; exact Or.inr h
  have hS : va_S A s.heap s.heap [] := va_S.rf
  clear hAe hD0
  obtain ⟨H, hH0⟩ : ∃ H, H = s.heap := ⟨_, rfl⟩
  replace hP : va_P G vwCl [(h0, .inr (5, [.null, .null, .null, .null, .null, .int 0]))] H := by rw [hH0]; exact hP
  replace hS : va_S A s.heap H [] := by rw [hH0]; exact hS
  rw [← hH0]
  clear hH0
  generalize ([] : List Loc) = locs at hS ⊢
  replace hl : lv_has ls 1 [(0, .ref h0)] := hl
  refine lv_aload_n hx hb dX5_init_0 rfl (lv_at hl 0 rfl) ?_
  refine W.objInit hx hb hown (hts (.methodLink RX5 3 objectInit) (by decide +kernel)) (hts (.instanceMethod objectInit) (by decide +kernel)) (hts _ (List.mem_of_getElem? (i := 3) rfl)) rfl (by rw [hml]; exact hl.1) rfl dX5_init_1 (Nat.le_of_ble_eq_true rfl) (Nat.le_of_ble_eq_true rfl) ?_
  refine W.eq (g2 := F0 m 4 ls []) rfl ?_
  refine lv_aload_n hx hb dX5_init_4 rfl (lv_at hl 0 rfl) ?_
  refine va_new (ci := 4) (fs := [.null, .null, .null]) (C := RX4) (T := TX4) (N := 3) hx hb hts (by decide +kernel) tyX4 tyX4_ok hown (hts (.classLink RX5 9 RX4) (by decide +kernel)) (hts (.instantiable RX4 3) (by decide +kernel)) (hts (.initialized RX4) (by decide +kernel)) hK hP hD hS hA rfl (fun j hj => by rcases (show j = 0 ∨ j = 1 ∨ j = 2 by omega) with rfl | rfl | rfl <;> rfl) (Nat.le_of_ble_eq_true rfl) (Nat.le_of_ble_eq_true rfl) dX5_init_5 (fun q H hP hD hS => ?_)
  replace hP : va_P G vwCl [(h0, .inr (5, [.null, .null, .null, .null, .null, .int 0])), (q, .inr (4, [.null, .null, .null]))] H := hP
  replace hD : va_D A [(h0, .inr (5, [.null, .null, .null, .null, .null, .int 0])), (q, .inr (4, [.null, .null, .null]))] := hD
  refine W.widen (k := 1) (n := 3) (Nat.le_of_ble_eq_true rfl) (Nat.le_of_ble_eq_true rfl) ?_
  refine lv_dup hx hb dX5_init_8 rfl ?_
  refine cN (rest := [.ref q, .ref h0]) ⟨hx, hb, hml, hown, hts⟩ (cX4_init_ok l G cA q H.size) ⟨va_cnB 0 hts gX5_init_X4_init_n11 rfl rfl rfl hE.2.2.2.2.1 (hts (.initialized RX4) (by decide +kernel)) (by decide +kernel) ⟨Nat.le_of_ble_eq_true rfl, Nat.le_of_ble_eq_true rfl⟩, rfl, hts (.instanceMethod yX4_init) (by decide +kernel)⟩ hE hP hD hS hA 1 rfl [0] [(h0, .inr (5, [.null, .null, .null, .null, .null, .int 0]))] rfl (by decide) (by decide) hl rfl (Nat.le_of_ble_eq_true rfl) dX5_init_9 ⟨Nat.le_of_ble_eq_true rfl, Nat.le_of_ble_eq_true rfl⟩ (fun a H locs hP hD hS => ?_)
  replace hP : va_P G vwCl [(h0, .inr (5, [.null, .null, .null, .null, .null, .int 0])), (q, SeV a.1 a.2.1 a.2.2), (a.1, SpV cA u0), (a.2.1, WeV cA u0), (a.2.2, NuV cA v0)] H := hP
  replace hD : va_D A [(h0, .inr (5, [.null, .null, .null, .null, .null, .int 0])), (q, SeV a.1 a.2.1 a.2.2), (a.1, SpV cA u0), (a.2.1, WeV cA u0), (a.2.2, NuV cA v0)] := hD
  refine W.widen (k := 4) (n := 15) (Nat.le_of_ble_eq_true rfl) (Nat.le_of_ble_eq_true rfl) ?_
  refine va_putF (D := G) (ci := 5) (v := .ref q) (ty := (tyX5 0)) (C := RX5) (T := TX5) (N := 6) hx hb hts (by decide +kernel) tyX5 tyX5_ok nmX5 hown hK hP hD hS 0 rfl rfl 0 (by decide) (hts (.fieldLink RX5 12 "LiftBeams$State" "settings" "LLiftBeams$Settings;") (by decide +kernel)) (fun _ h9 => h9) rfl hin rfl (by decide +kernel) rfl rfl (Nat.le_of_ble_eq_true rfl) dX5_init_12 (fun H locs hP hD hS => ?_)
  replace hP : va_P G vwCl [(h0, .inr (5, [.ref q, .null, .null, .null, .null, .int 0])), (q, SeV a.1 a.2.1 a.2.2), (a.1, SpV cA u0), (a.2.1, WeV cA u0), (a.2.2, NuV cA v0)] H := hP
  replace hD : va_D A [(h0, .inr (5, [.ref q, .null, .null, .null, .null, .int 0])), (q, SeV a.1 a.2.1 a.2.2), (a.1, SpV cA u0), (a.2.1, WeV cA u0), (a.2.2, NuV cA v0)] := hD
  refine lv_aload_n hx hb dX5_init_15 rfl (lv_at hl 0 rfl) ?_
  refine va_new (ci := 7) (fs := [.int 0, .int 0, .int 0, .int 0, .int 0, .int 0, .int 0, .int 0]) (C := RX7) (T := TX7) (N := 8) hx hb hts (by decide +kernel) tyX7 tyX7_ok hown (hts (.classLink RX5 18 RX7) (by decide +kernel)) (hts (.instantiable RX7 8) (by decide +kernel)) (hts (.initialized RX7) (by decide +kernel)) hK hP hD hS hA rfl (fun j hj => by rcases (show j = 0 ∨ j = 1 ∨ j = 2 ∨ j = 3 ∨ j = 4 ∨ j = 5 ∨ j = 6 ∨ j = 7 by omega) with rfl | rfl | rfl | rfl | rfl | rfl | rfl | rfl <;> rfl) (Nat.le_of_ble_eq_true rfl) (Nat.le_of_ble_eq_true rfl) dX5_init_16 (fun q_1 H hP hD hS => ?_)
  replace hP : va_P G vwCl [(h0, .inr (5, [.ref q, .null, .null, .null, .null, .int 0])), (q, SeV a.1 a.2.1 a.2.2), (a.1, SpV cA u0), (a.2.1, WeV cA u0), (a.2.2, NuV cA v0), (q_1, .inr (7, [.int 0, .int 0, .int 0, .int 0, .int 0, .int 0, .int 0, .int 0]))] H := hP
  replace hD : va_D A [(h0, .inr (5, [.ref q, .null, .null, .null, .null, .int 0])), (q, SeV a.1 a.2.1 a.2.2), (a.1, SpV cA u0), (a.2.1, WeV cA u0), (a.2.2, NuV cA v0), (q_1, .inr (7, [.int 0, .int 0, .int 0, .int 0, .int 0, .int 0, .int 0, .int 0]))] := hD
  refine W.widen (k := 5) (n := 23) (Nat.le_of_ble_eq_true rfl) (Nat.le_of_ble_eq_true rfl) ?_
  refine lv_dup hx hb dX5_init_19 rfl ?_
  refine cN (rest := [.ref q_1, .ref h0]) ⟨hx, hb, hml, hown, hts⟩ (cX7_init_ok l G cA q_1 H.size) ⟨va_cnB 0 hts gX5_init_X7_init_n20 rfl rfl rfl hE.2.2.2.2.2.1 (hts (.initialized RX7) (by decide +kernel)) (by decide +kernel) ⟨Nat.le_of_ble_eq_true rfl, Nat.le_of_ble_eq_true rfl⟩, rfl, hts (.instanceMethod yX7_init) (by decide +kernel)⟩ hE hP hD hS hA 5 rfl [0, 1, 2, 3, 4] [(h0, .inr (5, [.ref q, .null, .null, .null, .null, .int 0])), (q, SeV a.1 a.2.1 a.2.2), (a.1, SpV cA u0), (a.2.1, WeV cA u0), (a.2.2, NuV cA v0)] rfl (by decide) (by decide) hl rfl (Nat.le_of_ble_eq_true rfl) dX5_init_20 ⟨Nat.le_of_ble_eq_true rfl, Nat.le_of_ble_eq_true rfl⟩ (fun a_1 H locs hP hD hS => ?_)
  replace hP : va_P G vwCl [(h0, .inr (5, [.ref q, .null, .null, .null, .null, .int 0])), (q, SeV a.1 a.2.1 a.2.2), (a.1, SpV cA u0), (a.2.1, WeV cA u0), (a.2.2, NuV cA v0), (q_1, ThV g0)] H := hP
  replace hD : va_D A [(h0, .inr (5, [.ref q, .null, .null, .null, .null, .int 0])), (q, SeV a.1 a.2.1 a.2.2), (a.1, SpV cA u0), (a.2.1, WeV cA u0), (a.2.2, NuV cA v0), (q_1, ThV g0)] := hD
  refine W.widen (k := 5) (n := 23) (Nat.le_of_ble_eq_true rfl) (Nat.le_of_ble_eq_true rfl) ?_
  refine va_putF (D := G) (ci := 5) (v := .ref q_1) (ty := (tyX5 1)) (C := RX5) (T := TX5) (N := 6) hx hb hts (by decide +kernel) tyX5 tyX5_ok nmX5 hown hK hP hD hS 0 rfl rfl 1 (by decide) (hts (.fieldLink RX5 21 "LiftBeams$State" "thing" "LLiftBeams$Thing;") (by decide +kernel)) (fun _ h9 => h9) rfl hin rfl (by decide +kernel) rfl rfl (Nat.le_of_ble_eq_true rfl) dX5_init_23 (fun H locs hP hD hS => ?_)
  replace hP : va_P G vwCl [(h0, .inr (5, [.ref q, .ref q_1, .null, .null, .null, .int 0])), (q, SeV a.1 a.2.1 a.2.2), (a.1, SpV cA u0), (a.2.1, WeV cA u0), (a.2.2, NuV cA v0), (q_1, ThV g0)] H := hP
  replace hD : va_D A [(h0, .inr (5, [.ref q, .ref q_1, .null, .null, .null, .int 0])), (q, SeV a.1 a.2.1 a.2.2), (a.1, SpV cA u0), (a.2.1, WeV cA u0), (a.2.2, NuV cA v0), (q_1, ThV g0)] := hD
  refine lv_aload_n hx hb dX5_init_26 rfl (lv_at hl 0 rfl) ?_
  refine va_new (ci := 1) (fs := [.float 0, .int 0, .int 0, .int 0, .int 0, .int 0]) (C := RX1) (T := TX1) (N := 6) hx hb hts (by decide +kernel) tyX1 tyX1_ok hown (hts (.classLink RX5 25 RX1) (by decide +kernel)) (hts (.instantiable RX1 6) (by decide +kernel)) (hts (.initialized RX1) (by decide +kernel)) hK hP hD hS hA rfl (fun j hj => by rcases (show j = 0 ∨ j = 1 ∨ j = 2 ∨ j = 3 ∨ j = 4 ∨ j = 5 by omega) with rfl | rfl | rfl | rfl | rfl | rfl <;> rfl) (Nat.le_of_ble_eq_true rfl) (Nat.le_of_ble_eq_true rfl) dX5_init_27 (fun q_2 H hP hD hS => ?_)
  replace hP : va_P G vwCl [(h0, .inr (5, [.ref q, .ref q_1, .null, .null, .null, .int 0])), (q, SeV a.1 a.2.1 a.2.2), (a.1, SpV cA u0), (a.2.1, WeV cA u0), (a.2.2, NuV cA v0), (q_1, ThV g0), (q_2, .inr (1, [.float 0, .int 0, .int 0, .int 0, .int 0, .int 0]))] H := hP
  replace hD : va_D A [(h0, .inr (5, [.ref q, .ref q_1, .null, .null, .null, .int 0])), (q, SeV a.1 a.2.1 a.2.2), (a.1, SpV cA u0), (a.2.1, WeV cA u0), (a.2.2, NuV cA v0), (q_1, ThV g0), (q_2, .inr (1, [.float 0, .int 0, .int 0, .int 0, .int 0, .int 0]))] := hD
  refine W.widen (k := 6) (n := 29) (Nat.le_of_ble_eq_true rfl) (Nat.le_of_ble_eq_true rfl) ?_
  refine lv_dup hx hb dX5_init_30 rfl ?_
  refine cN (rest := [.ref q_2, .ref h0]) ⟨hx, hb, hml, hown, hts⟩ (cX1_init_ok l G cA q_2 H.size) ⟨va_cnB 0 hts gX5_init_X1_init_n27 rfl rfl rfl hE.2.2.2.2.2.2.1 (hts (.initialized RX1) (by decide +kernel)) (by decide +kernel) ⟨Nat.le_of_ble_eq_true rfl, Nat.le_of_ble_eq_true rfl⟩, rfl, hts (.instanceMethod yX1_init) (by decide +kernel)⟩ hE hP hD hS hA 6 rfl [0, 1, 2, 3, 4, 5] [(h0, .inr (5, [.ref q, .ref q_1, .null, .null, .null, .int 0])), (q, SeV a.1 a.2.1 a.2.2), (a.1, SpV cA u0), (a.2.1, WeV cA u0), (a.2.2, NuV cA v0), (q_1, ThV g0)] rfl (by decide) (by decide) hl rfl (Nat.le_of_ble_eq_true rfl) dX5_init_31 ⟨Nat.le_of_ble_eq_true rfl, Nat.le_of_ble_eq_true rfl⟩ (fun a_2 H locs hP hD hS => ?_)
  replace hP : va_P G vwCl [(h0, .inr (5, [.ref q, .ref q_1, .null, .null, .null, .int 0])), (q, SeV a.1 a.2.1 a.2.2), (a.1, SpV cA u0), (a.2.1, WeV cA u0), (a.2.2, NuV cA v0), (q_1, ThV g0), (q_2, DrV f0 g0)] H := hP
  replace hD : va_D A [(h0, .inr (5, [.ref q, .ref q_1, .null, .null, .null, .int 0])), (q, SeV a.1 a.2.1 a.2.2), (a.1, SpV cA u0), (a.2.1, WeV cA u0), (a.2.2, NuV cA v0), (q_1, ThV g0), (q_2, DrV f0 g0)] := hD
  refine W.widen (k := 6) (n := 29) (Nat.le_of_ble_eq_true rfl) (Nat.le_of_ble_eq_true rfl) ?_
  refine va_putF (D := G) (ci := 5) (v := .ref q_2) (ty := (tyX5 2)) (C := RX5) (T := TX5) (N := 6) hx hb hts (by decide +kernel) tyX5 tyX5_ok nmX5 hown hK hP hD hS 0 rfl rfl 2 (by decide) (hts (.fieldLink RX5 28 "LiftBeams$State" "door" "LLiftBeams$Door;") (by decide +kernel)) (fun _ h9 => h9) rfl hin rfl (by decide +kernel) rfl rfl (Nat.le_of_ble_eq_true rfl) dX5_init_34 (fun H locs hP hD hS => ?_)
  replace hP : va_P G vwCl [(h0, .inr (5, [.ref q, .ref q_1, .ref q_2, .null, .null, .int 0])), (q, SeV a.1 a.2.1 a.2.2), (a.1, SpV cA u0), (a.2.1, WeV cA u0), (a.2.2, NuV cA v0), (q_1, ThV g0), (q_2, DrV f0 g0)] H := hP
  replace hD : va_D A [(h0, .inr (5, [.ref q, .ref q_1, .ref q_2, .null, .null, .int 0])), (q, SeV a.1 a.2.1 a.2.2), (a.1, SpV cA u0), (a.2.1, WeV cA u0), (a.2.2, NuV cA v0), (q_1, ThV g0), (q_2, DrV f0 g0)] := hD
  refine lv_aload_n hx hb dX5_init_37 rfl (lv_at hl 0 rfl) ?_
  refine va_new (ci := 3) (fs := [.null, .int 0]) (C := RX3) (T := TX3) (N := 2) hx hb hts (by decide +kernel) tyX3 tyX3_ok hown (hts (.classLink RX5 32 RX3) (by decide +kernel)) (hts (.instantiable RX3 2) (by decide +kernel)) (hts (.initialized RX3) (by decide +kernel)) hK hP hD hS hA rfl (fun j hj => by rcases (show j = 0 ∨ j = 1 by omega) with rfl | rfl <;> rfl) (Nat.le_of_ble_eq_true rfl) (Nat.le_of_ble_eq_true rfl) dX5_init_38 (fun q_3 H hP hD hS => ?_)
  replace hP : va_P G vwCl [(h0, .inr (5, [.ref q, .ref q_1, .ref q_2, .null, .null, .int 0])), (q, SeV a.1 a.2.1 a.2.2), (a.1, SpV cA u0), (a.2.1, WeV cA u0), (a.2.2, NuV cA v0), (q_1, ThV g0), (q_2, DrV f0 g0), (q_3, .inr (3, [.null, .int 0]))] H := hP
  replace hD : va_D A [(h0, .inr (5, [.ref q, .ref q_1, .ref q_2, .null, .null, .int 0])), (q, SeV a.1 a.2.1 a.2.2), (a.1, SpV cA u0), (a.2.1, WeV cA u0), (a.2.2, NuV cA v0), (q_1, ThV g0), (q_2, DrV f0 g0), (q_3, .inr (3, [.null, .int 0]))] := hD
  refine W.widen (k := 7) (n := 31) (Nat.le_of_ble_eq_true rfl) (Nat.le_of_ble_eq_true rfl) ?_
  refine lv_dup hx hb dX5_init_41 rfl ?_
  refine cN (rest := [.ref q_3, .ref h0]) ⟨hx, hb, hml, hown, hts⟩ (cX3_init_ok l G cA q_3 H.size) ⟨va_cnB 0 hts gX5_init_X3_init_n34 rfl rfl rfl hE.2.2.2.2.2.2.2.1 (hts (.initialized RX3) (by decide +kernel)) (by decide +kernel) ⟨Nat.le_of_ble_eq_true rfl, Nat.le_of_ble_eq_true rfl⟩, rfl, hts (.instanceMethod yX3_init) (by decide +kernel)⟩ hE hP hD hS hA 7 rfl [0, 1, 2, 3, 4, 5, 6] [(h0, .inr (5, [.ref q, .ref q_1, .ref q_2, .null, .null, .int 0])), (q, SeV a.1 a.2.1 a.2.2), (a.1, SpV cA u0), (a.2.1, WeV cA u0), (a.2.2, NuV cA v0), (q_1, ThV g0), (q_2, DrV f0 g0)] rfl (by decide) (by decide) hl rfl (Nat.le_of_ble_eq_true rfl) dX5_init_42 ⟨Nat.le_of_ble_eq_true rfl, Nat.le_of_ble_eq_true rfl⟩ (fun a_3 H locs hP hD hS => ?_)
  replace hP : va_P G vwCl [(h0, .inr (5, [.ref q, .ref q_1, .ref q_2, .null, .null, .int 0])), (q, SeV a.1 a.2.1 a.2.2), (a.1, SpV cA u0), (a.2.1, WeV cA u0), (a.2.2, NuV cA v0), (q_1, ThV g0), (q_2, DrV f0 g0), (q_3, LgV a_3 g0), (a_3, LcV cA g0)] H := hP
  replace hD : va_D A [(h0, .inr (5, [.ref q, .ref q_1, .ref q_2, .null, .null, .int 0])), (q, SeV a.1 a.2.1 a.2.2), (a.1, SpV cA u0), (a.2.1, WeV cA u0), (a.2.2, NuV cA v0), (q_1, ThV g0), (q_2, DrV f0 g0), (q_3, LgV a_3 g0), (a_3, LcV cA g0)] := hD
  refine W.widen (k := 8) (n := 81) (Nat.le_of_ble_eq_true rfl) (Nat.le_of_ble_eq_true rfl) ?_
  refine va_putF (D := G) (ci := 5) (v := .ref q_3) (ty := (tyX5 3)) (C := RX5) (T := TX5) (N := 6) hx hb hts (by decide +kernel) tyX5 tyX5_ok nmX5 hown hK hP hD hS 0 rfl rfl 3 (by decide) (hts (.fieldLink RX5 35 "LiftBeams$State" "log" "LLiftBeams$Log;") (by decide +kernel)) (fun _ h9 => h9) rfl hin rfl (by decide +kernel) rfl rfl (Nat.le_of_ble_eq_true rfl) dX5_init_45 (fun H locs hP hD hS => ?_)
  replace hP : va_P G vwCl [(h0, .inr (5, [.ref q, .ref q_1, .ref q_2, .ref q_3, .null, .int 0])), (q, SeV a.1 a.2.1 a.2.2), (a.1, SpV cA u0), (a.2.1, WeV cA u0), (a.2.2, NuV cA v0), (q_1, ThV g0), (q_2, DrV f0 g0), (q_3, LgV a_3 g0), (a_3, LcV cA g0)] H := hP
  replace hD : va_D A [(h0, .inr (5, [.ref q, .ref q_1, .ref q_2, .ref q_3, .null, .int 0])), (q, SeV a.1 a.2.1 a.2.2), (a.1, SpV cA u0), (a.2.1, WeV cA u0), (a.2.2, NuV cA v0), (q_1, ThV g0), (q_2, DrV f0 g0), (q_3, LgV a_3 g0), (a_3, LcV cA g0)] := hD
  refine lv_aload_n hx hb dX5_init_48 rfl (lv_at hl 0 rfl) ?_
  refine va_new (ci := 6) (fs := [.int 0, .int 0, .int 0, .int 0, .int 0, .int 0, .int 0, .int 0]) (C := RX6) (T := TX6) (N := 8) hx hb hts (by decide +kernel) tyX6 tyX6_ok hown (hts (.classLink RX5 39 RX6) (by decide +kernel)) (hts (.instantiable RX6 8) (by decide +kernel)) (hts (.initialized RX6) (by decide +kernel)) hK hP hD hS hA rfl (fun j hj => by rcases (show j = 0 ∨ j = 1 ∨ j = 2 ∨ j = 3 ∨ j = 4 ∨ j = 5 ∨ j = 6 ∨ j = 7 by omega) with rfl | rfl | rfl | rfl | rfl | rfl | rfl | rfl <;> rfl) (Nat.le_of_ble_eq_true rfl) (Nat.le_of_ble_eq_true rfl) dX5_init_49 (fun q_4 H hP hD hS => ?_)
  replace hP : va_P G vwCl [(h0, .inr (5, [.ref q, .ref q_1, .ref q_2, .ref q_3, .null, .int 0])), (q, SeV a.1 a.2.1 a.2.2), (a.1, SpV cA u0), (a.2.1, WeV cA u0), (a.2.2, NuV cA v0), (q_1, ThV g0), (q_2, DrV f0 g0), (q_3, LgV a_3 g0), (a_3, LcV cA g0), (q_4, .inr (6, [.int 0, .int 0, .int 0, .int 0, .int 0, .int 0, .int 0, .int 0]))] H := hP
  replace hD : va_D A [(h0, .inr (5, [.ref q, .ref q_1, .ref q_2, .ref q_3, .null, .int 0])), (q, SeV a.1 a.2.1 a.2.2), (a.1, SpV cA u0), (a.2.1, WeV cA u0), (a.2.2, NuV cA v0), (q_1, ThV g0), (q_2, DrV f0 g0), (q_3, LgV a_3 g0), (a_3, LcV cA g0), (q_4, .inr (6, [.int 0, .int 0, .int 0, .int 0, .int 0, .int 0, .int 0, .int 0]))] := hD
  refine W.widen (k := 9) (n := 89) (Nat.le_of_ble_eq_true rfl) (Nat.le_of_ble_eq_true rfl) ?_
  refine lv_dup hx hb dX5_init_52 rfl ?_
  refine cN (rest := [.ref q_4, .ref h0]) ⟨hx, hb, hml, hown, hts⟩ (cX6_init_ok l G cA q_4 H.size) ⟨va_cnB 0 hts gX5_init_X6_init_n41 rfl rfl rfl hE.2.2.2.2.2.2.2.2.1 (hts (.initialized RX6) (by decide +kernel)) (by decide +kernel) ⟨Nat.le_of_ble_eq_true rfl, Nat.le_of_ble_eq_true rfl⟩, rfl, hts (.instanceMethod yX6_init) (by decide +kernel)⟩ hE hP hD hS hA 9 rfl [0, 1, 2, 3, 4, 5, 6, 7, 8] [(h0, .inr (5, [.ref q, .ref q_1, .ref q_2, .ref q_3, .null, .int 0])), (q, SeV a.1 a.2.1 a.2.2), (a.1, SpV cA u0), (a.2.1, WeV cA u0), (a.2.2, NuV cA v0), (q_1, ThV g0), (q_2, DrV f0 g0), (q_3, LgV a_3 g0), (a_3, LcV cA g0)] rfl (by decide) (by decide) hl rfl (Nat.le_of_ble_eq_true rfl) dX5_init_53 ⟨Nat.le_of_ble_eq_true rfl, Nat.le_of_ble_eq_true rfl⟩ (fun a_4 H locs hP hD hS => ?_)
  replace hP : va_P G vwCl [(h0, .inr (5, [.ref q, .ref q_1, .ref q_2, .ref q_3, .null, .int 0])), (q, SeV a.1 a.2.1 a.2.2), (a.1, SpV cA u0), (a.2.1, WeV cA u0), (a.2.2, NuV cA v0), (q_1, ThV g0), (q_2, DrV f0 g0), (q_3, LgV a_3 g0), (a_3, LcV cA g0), (q_4, TaV g0)] H := hP
  replace hD : va_D A [(h0, .inr (5, [.ref q, .ref q_1, .ref q_2, .ref q_3, .null, .int 0])), (q, SeV a.1 a.2.1 a.2.2), (a.1, SpV cA u0), (a.2.1, WeV cA u0), (a.2.2, NuV cA v0), (q_1, ThV g0), (q_2, DrV f0 g0), (q_3, LgV a_3 g0), (a_3, LcV cA g0), (q_4, TaV g0)] := hD
  refine W.widen (k := 9) (n := 89) (Nat.le_of_ble_eq_true rfl) (Nat.le_of_ble_eq_true rfl) ?_
  refine va_putF (D := G) (ci := 5) (v := .ref q_4) (ty := (tyX5 4)) (C := RX5) (T := TX5) (N := 6) hx hb hts (by decide +kernel) tyX5 tyX5_ok nmX5 hown hK hP hD hS 0 rfl rfl 4 (by decide) (hts (.fieldLink RX5 42 "LiftBeams$State" "tally" "LLiftBeams$Tally;") (by decide +kernel)) (fun _ h9 => h9) rfl hin rfl (by decide +kernel) rfl rfl (Nat.le_of_ble_eq_true rfl) dX5_init_56 (fun H locs hP hD hS => ?_)
  replace hP : va_P G vwCl [(h0, .inr (5, [.ref q, .ref q_1, .ref q_2, .ref q_3, .ref q_4, .int 0])), (q, SeV a.1 a.2.1 a.2.2), (a.1, SpV cA u0), (a.2.1, WeV cA u0), (a.2.2, NuV cA v0), (q_1, ThV g0), (q_2, DrV f0 g0), (q_3, LgV a_3 g0), (a_3, LcV cA g0), (q_4, TaV g0)] H := hP
  replace hD : va_D A [(h0, .inr (5, [.ref q, .ref q_1, .ref q_2, .ref q_3, .ref q_4, .int 0])), (q, SeV a.1 a.2.1 a.2.2), (a.1, SpV cA u0), (a.2.1, WeV cA u0), (a.2.2, NuV cA v0), (q_1, ThV g0), (q_2, DrV f0 g0), (q_3, LgV a_3 g0), (a_3, LcV cA g0), (q_4, TaV g0)] := hD
  exact W.vret hx hb hr (fun t ht _ => ⟨⟨ads [h0, q, q_1, q_2, q_3, q_4, a.1, a.2.1, a.2.2, a_3], rfl, trivial, by rw [ht]; exact hP.sub [0, 1, 5, 6, 7, 9, 2, 3, 4, 8] rfl, hD.sub [0, 1, 5, 6, 7, 9, 2, 3, 4, 8] (by decide) rfl⟩, hS.F ht⟩) hS.2.2 dX5_init_59
