/-! THE LAW (by wip/p26/lawall.py) -/
set_option maxHeartbeats 8000000 in
set_option maxRecDepth 100000 in
/-- the law's loop -/
theorem law_loop {p : Program} {e : Env} {s : State} {m : MethodId} {below : List Frame} {meth : Method} {c : Code} (l : Launch) (G : va_G) (cA : Nat → ClassId) (o : Nat) {b L : Nat} {xs : Nat → Int32} {Q : State → Prop} (hL31 : L < 2 ^ 31) (hx : p.tables.exec = Jvm.exec) (hb : c.code = cL_law) (hml : c.maxLocals = 3) (hown : s.vm.findClass RL = some m.cls) (hts : ∀ w ∈ wsL_law, w.before #[Value.ref b] s = true) (hX : va_X b L xs s s.heap) (hbl : b < s.heap.size) (hend : ∀ (H : Heap) (ls : Array Slot), W p l e room_1 s m #[Value.ref b] below meth c H [] 600000 7302250 Q (F0 m 58 ls [.int 1])) : ∀ (k i : Nat), i ≤ 60 → 60 < i + k → ∀ (X : CT5) (n K : Nat) (ch : GG) (T : Nat), n ≤ 4 → T ≤ 100 * i → Inv T X → ∀ (H : Heap) (locs : List Loc) (ls : Array Slot), At G cA (fun q => s.heap.size ≤ q) s H locs → LB G cA (fun q => s.heap.size ≤ q) o X n K ch H → lv_has ls 3 [(2, .int (nI i)), (1, .ref o), (0, .ref b)] → W p l e room_1 s m #[Value.ref b] below meth c H locs 600000 7302250 Q (F0 m 10 ls []) := by
  intro k
  induction k with
  | zero => intro i hi hn; exact absurd hn (by omega)
  | succ k ih =>
    intro i hi hk X n K ch T hn hT hI H locs ls hA hL hl
    obtain ⟨u, v, f, g, LL⟩ := X
    refine lv_iload_n hx hb dL_law_10 rfl (lv_at hl 0 rfl) ?_
    refine lv_bipush (v := 60) hx hb dL_law_11 (by decide) ?_
    refine lv_icmp_ge (tgt := 54) hx hb dL_law_13 (by decide) (fun c_13 => ?_) (fun c_13 => ?_)
    · refine lv_aload_n hx hb dL_law_54 rfl (lv_at hl 1 rfl) ?_
      refine lw_i (T := Unit) (B := fun _ _ => True) (rLS (rest := []) ⟨hx, hb, hml, hown, hts⟩ (cL_errors_ok l G cA (fun q => s.heap.size ≤ q) o u v f g LL n K ch hn (vf_place hI.2.1.1)) (va_cwS 1 hts gL_law_L_errors rfl rfl rfl mdL_errors.2 ⟨Nat.le_of_ble_eq_true rfl, Nat.le_of_ble_eq_true rfl⟩) hA hL rfl hl rfl (Nat.le_of_ble_eq_true rfl) dL_law_55 ⟨Nat.le_of_ble_eq_true rfl, Nat.le_of_ble_eq_true rfl⟩) hA (fun r _ H locs hr9 hA _ => ?_)
      subst hr9
      exact va_forget (fun q hq => hA.2.2.2.2 q hq) (hend H ls)
    · have hlt : i < 60 := lt_of_nle hi (by decide) c_13
      refine lv_aload_n hx hb dL_law_16 rfl (lv_at hl 1 rfl) ?_
      refine lv_aload_n hx hb dL_law_17 rfl (lv_at hl 2 rfl) ?_
      refine lv_iconst (v := 2) hx hb dL_law_18 (by decide) ?_
      refine lv_iload_n hx hb dL_law_19 rfl (lv_at hl 0 rfl) ?_
      refine lv_imul hx hb dL_law_20 ?_
      refine W.eq (g2 := F0 m 21 ls [.int (nI (2 * i)), .ref b, .ref o]) (by rw [two_mul]) ?_
      refine lr_i (va_runS (As := [.ref b, .int (nI (2 * i))]) (rest := [.ref o]) ⟨hx, hb, hml, hown, hts⟩ (cL_cell_ok l (xs := xs) hL31 (2 * i) (by omega)) (va_cwS 2 hts gL_law_L_cell rfl rfl rfl mdL_cell.2 ⟨Nat.le_of_ble_eq_true rfl, Nat.le_of_ble_eq_true rfl⟩) ⟨fun a U g mk h => ⟨h.1, va_X.moved (u := U) (U := U.calling g mk a) (Vm.Alike.refl U.vm) h.2⟩, fun U hU hW => ⟨rfl, by show va_X b L xs U U.heap; rw [hU]; exact (hX.kept (hA.2.2.2.1 b hbl (Nat.not_le.mpr hbl))).moved hW.alike⟩⟩ rfl rfl hl.1 rfl (lv_room (Nat.le_of_ble_eq_true rfl)) dL_law_21 ⟨Nat.le_of_ble_eq_true rfl, Nat.le_of_ble_eq_true rfl⟩) hA hL (fun w1 H locs _ hA hL => ?_)
      refine lv_aload_n hx hb dL_law_24 rfl (lv_at hl 2 rfl) ?_
      refine lv_iconst (v := 2) hx hb dL_law_25 (by decide) ?_
      refine lv_iload_n hx hb dL_law_26 rfl (lv_at hl 0 rfl) ?_
      refine lv_imul hx hb dL_law_27 ?_
      refine lv_iconst (v := 1) hx hb dL_law_28 (by decide) ?_
      refine lv_iadd hx hb dL_law_29 ?_
      refine W.eq (g2 := F0 m 30 ls [.int (nI (2 * i + 1)), .ref b, .int w1, .ref o]) (by rw [two_mul, nI_1]) ?_
      refine lr_i (va_runS (As := [.ref b, .int (nI (2 * i + 1))]) (rest := [.int w1, .ref o]) ⟨hx, hb, hml, hown, hts⟩ (cL_cell_ok l (xs := xs) hL31 (2 * i + 1) (by omega)) (va_cwS 2 hts gL_law_L_cell rfl rfl rfl mdL_cell.2 ⟨Nat.le_of_ble_eq_true rfl, Nat.le_of_ble_eq_true rfl⟩) ⟨fun a U g mk h => ⟨h.1, va_X.moved (u := U) (U := U.calling g mk a) (Vm.Alike.refl U.vm) h.2⟩, fun U hU hW => ⟨rfl, by show va_X b L xs U U.heap; rw [hU]; exact (hX.kept (hA.2.2.2.1 b hbl (Nat.not_le.mpr hbl))).moved hW.alike⟩⟩ rfl rfl hl.1 rfl (lv_room (Nat.le_of_ble_eq_true rfl)) dL_law_30 ⟨Nat.le_of_ble_eq_true rfl, Nat.le_of_ble_eq_true rfl⟩) hA hL (fun w0 H locs _ hA hL => ?_)
      refine lw_i (rLS (rest := []) ⟨hx, hb, hml, hown, hts⟩ (cL_acts_ok l G cA (fun q => s.heap.size ≤ q) o u v f g LL n K ch T w1 w0 hn (by omega) hI) (va_cwS 3 hts gL_law_L_acts rfl rfl rfl mdL_acts.2 ⟨Nat.le_of_ble_eq_true rfl, Nat.le_of_ble_eq_true rfl⟩) hA hL rfl hl rfl (Nat.le_of_ble_eq_true rfl) dL_law_33 ⟨Nat.le_of_ble_eq_true rfl, Nat.le_of_ble_eq_true rfl⟩) hA (fun r y H locs hr9 hA hL => ?_)
      obtain ⟨⟨u', v', f', g', LL'⟩, n', K', ch'⟩ := y
      obtain ⟨rfl, hn', T', hT', hI'⟩ := hr9
      replace hn' : n' ≤ 4 := hn'
      replace hI' : Inv T' (u', v', f', g', LL') := hI'
      replace hL : LB G cA (fun q => s.heap.size ≤ q) o (u', v', f', g', LL') n' K' ch' H := hL
      refine lv_if_eq (tgt := 46) hx hb dL_law_36 (by decide) (fun h9 => absurd h9 (by decide)) (fun _ => ?_)
      refine lv_aload_n hx hb dL_law_39 rfl (lv_at hl 1 rfl) ?_
      refine lw_i (rLS (rest := []) ⟨hx, hb, hml, hown, hts⟩ (cL_told_ok l G cA (fun q => s.heap.size ≤ q) o u' v' f' g' LL' n' K' ch' T' (by omega) hI') (va_cwS 1 hts gL_law_L_told rfl rfl rfl mdL_told.2 ⟨Nat.le_of_ble_eq_true rfl, Nat.le_of_ble_eq_true rfl⟩) hA hL rfl hl rfl (Nat.le_of_ble_eq_true rfl) dL_law_40 ⟨Nat.le_of_ble_eq_true rfl, Nat.le_of_ble_eq_true rfl⟩) hA (fun r _ H locs hr9 hA hL => ?_)
      replace hL : LB G cA (fun q => s.heap.size ≤ q) o (u', v', f', g', LL') n' K' ch' H := hL
      subst hr9
      refine lv_if_ne (tgt := 48) hx hb dL_law_43 (by decide) (fun _ => ?_) (fun h9 => absurd h9 (by decide))
      refine lv_iinc (v := nI (i + 1)) (lv' := [(2, .int (nI (i + 1))), (1, .ref o), (0, .ref b)]) hx hb dL_law_48 hl (k := 0) rfl (by rw [← nI_1]; rfl) (by decide) rfl (fun ls hl => ?_)
      refine lv_goto (tgt := 10) hx hb dL_law_51 (by decide) ?_
      exact ih (i + 1) (by omega) (by omega) (u', v', f', g', LL') n' K' ch' T' hn' (by omega) hI' H locs ls hA hL hl
set_option maxHeartbeats 8000000 in
set_option maxRecDepth 100000 in
/-- THE LAW, from its entry, over any state -/
theorem law_run {p : Program} {e : Env} {s : State} {m : MethodId} {below : List Frame} {meth : Method} {c : Code} (l : Launch) {b L : Nat} {xs : Nat → Int32} {Q : State → Prop} (hL31 : L < 2 ^ 31) (hx : p.tables.exec = Jvm.exec) (hb : c.code = cL_law) (hml : c.maxLocals = 3) (hown : s.vm.findClass RL = some m.cls) (hT : ∀ w ∈ lw_tbl, w.before #[Value.ref b] s = true) (hN : NumT (fun q => s.heap.size ≤ q) s s.heap) (hX : va_X b L xs s s.heap) (hbl : b < s.heap.size) (hend : ∀ (H : Heap) (ls : Array Slot), W p l e room_1 s m #[Value.ref b] below meth c H [] 600000 7302250 Q (F0 m 58 ls [.int 1])) (ls : Array Slot) (hl : lv_has ls 3 [(0, .ref b)]) : W p l e room_1 s m #[Value.ref b] below meth c s.heap [] 0 0 Q (F0 m 0 ls []) := by
  have hts : ∀ w ∈ wsL_law, w.before #[Value.ref b] s = true := fun w h => hT w (glt_law w h).1
  obtain ⟨G, cA, hE⟩ := en_start hT
  have hA0 : ∀ q : Nat, s.heap.size ≤ q → (fun q : Nat => s.heap.size ≤ q) q := fun _ h => h
  have hS : va_S (fun q : Nat => s.heap.size ≤ q) s.heap s.heap [] := va_S.rf
  have hK := hE.1.1
  have hP : va_P G vwCl [] s.heap := fun k q h => by simp at h
  have hD : va_D (fun q : Nat => s.heap.size ≤ q) [] := ⟨fun i j p q h => by simp at h, fun k q h => by simp at h⟩
  refine va_new (ci := 8) (fs := [.null, .null, .null, .null, .null, .int 0]) (C := RX8) (T := TX8) (N := 6) hx hb hts inlX8 tyX8 tyX8_ok hown (hts (.classLink RL 23 RX8) (by decide +kernel)) (hts (.instantiable RX8 6) (by decide +kernel)) (hts (.initialized RX8) (by decide +kernel)) hK hP hD hS hA0 rfl (fun j hj => by rcases (show j = 0 ∨ j = 1 ∨ j = 2 ∨ j = 3 ∨ j = 4 ∨ j = 5 by omega) with rfl | rfl | rfl | rfl | rfl | rfl <;> rfl) (Nat.le_of_ble_eq_true rfl) (Nat.le_of_ble_eq_true rfl) dL_law_0 (fun o H hP hD hS => ?_)
  replace hP : va_P G vwCl [(o, .inr (8, [.null, .null, .null, .null, .null, .int 0]))] H := hP
  replace hD : va_D (fun q : Nat => s.heap.size ≤ q) [(o, .inr (8, [.null, .null, .null, .null, .null, .int 0]))] := hD
  refine W.widen (k := 1) (n := 6) (Nat.le_of_ble_eq_true rfl) (Nat.le_of_ble_eq_true rfl) ?_
  refine lv_dup hx hb dL_law_3 rfl ?_
  refine cI (rest := [.ref o]) ⟨hx, hb, hml, hown, hts⟩ (cX8_init_ok l G cA o H.size) (cwI 0 hts gL_law_X8_init rfl rfl rfl (hts (.initialized RX8) (by decide +kernel)) (hts (.methodLink RL 125 yX8_init) (by decide +kernel)) (hts (.instanceMethod yX8_init) (by decide +kernel)) rfl (by decide +kernel) ⟨Nat.le_of_ble_eq_true rfl, Nat.le_of_ble_eq_true rfl⟩) hE hP hD hS hA0 0 rfl [] [] rfl rfl (by decide) hl rfl (Nat.le_of_ble_eq_true rfl) dL_law_4 ⟨Nat.le_of_ble_eq_true rfl, Nat.le_of_ble_eq_true rfl⟩ (fun ad H locs hP hD hS => ?_)
  replace hP : va_P G vwCl (lbW cA o ad 0 (fun _ => X00) (heads ad) (nI 0) (nI 0) 0 g0 g0 g0) H := hP
  replace hD : va_D (fun q : Nat => s.heap.size ≤ q) (lbW cA o ad 0 (fun _ => X00) (heads ad) (nI 0) (nI 0) 0 g0 g0 g0) := hD
  refine W.widen (k := 600000) (n := 7302250) (Nat.le_of_ble_eq_true rfl) (Nat.le_of_ble_eq_true rfl) ?_
  refine lv_astore_n (lv' := [(1, .ref o), (0, .ref b)]) hx hb dL_law_7 rfl hl (by decide) rfl (fun ls hl => ?_)
  refine lv_iconst (v := 0) hx hb dL_law_8 (by decide) ?_
  refine lv_istore_n (lv' := [(2, .int 0), (1, .ref o), (0, .ref b)]) hx hb dL_law_9 rfl hl (by decide) rfl (fun ls hl => ?_)
  exact law_loop l G cA o hL31 hx hb hml hown hts hX hbl hend 61 0 (by decide) (by decide) X00 0 0 g0 0 (by decide) (by decide) inv_start H locs ls ⟨hE.1, hN, hS⟩ ⟨ad, 0, 0, fun _ => X00, g0, g0, rfl, fun _ => ⟨Or.inl rfl, Or.inl rfl, Or.inl rfl⟩, hP, hD⟩ hl
