/-! acts(o, g, h), case by case (by wip/p26/acts.py) -/
set_option maxHeartbeats 8000000 in
set_option maxRecDepth 100000 in
/-- acts: call -/
theorem acts_3 {p : Program} {e : Env} {s : Jvm.State} {m : MethodId} {args : Array Value} {below : List Frame} {meth : Method} {c : Code} {ls : Array Slot} {H : Heap} {locs : List Loc} (l : Launch) (G : va_G) (cA : Nat → ClassId) (A : Nat → Prop) (o : Nat) (u : FF) (v : GG) (f : FF) (g L : GG) (n K : Nat) (ch : GG) (T : Nat) (w1 w0 : Int32) (hn : n ≤ 4) (hT : T ≤ 90000) (hI : Inv T (u, v, f, g, L)) (hx : p.tables.exec = Jvm.exec) (hb : c.code = cL_acts) (hml : c.maxLocals = 7) (hr : meth.sig.returnType = some .boolean) (hts : ∀ w ∈ wsL_acts, w.before args s = true) (hown : s.vm.findClass RL = some m.cls) (hlocks : meth.locks = false) (hA : At G cA A s H locs) (hL : LB G cA A o (u, v, f, g, L) n K ch H) (hl : lv_has ls 7 [(0, .ref o), (1, .int w1), (2, .int w0)]) : W p l e ({ frames := 8, cells := 0, slots := 0, locals := 198 } : Room) s m args below meth c H locs 0 0 (MQ below (va_Qi (ActP T) (fun y t => ActB G cA A o y t.heap) A) args s 0 0 A) (F0 m 342 ls []) := by
  have hB : Bo g := hI.2.2.2.1
  rcases inv_state hI with hs | hs | hs | hs
  · skip
    refine lv_aload_n hx hb dL_acts_342 rfl (lv_at hl 0 rfl) ?_
    refine lv_iconst (v := 0) hx hb dL_acts_343 (by decide) ?_
    refine lr_i (rL (rest := []) ⟨hx, hb, hml, hown, hts⟩ (LB_door l G cA A o (u, v, f, g, L) n K ch 0) (cwV 1 hts gL_acts_X8_door rfl rfl rfl mdX8_door ⟨Nat.le_of_ble_eq_true rfl, Nat.le_of_ble_eq_true rfl⟩) hA hL rfl hl rfl (Nat.le_of_ble_eq_true rfl) dL_acts_344 ⟨Nat.le_of_ble_eq_true rfl, Nat.le_of_ble_eq_true rfl⟩) hA hL (fun r_344 H locs hr_344 hA hL => ?_)
    replace hr_344 : r_344 = g 13 := hr_344
    rw [hs] at hr_344
    subst hr_344
    refine lv_istore_n (lv' := [(3, .int 0), (0, .ref o), (1, .int w1), (2, .int w0)]) hx hb dL_acts_347 rfl hl (by decide) rfl (fun ls hl => ?_)
    refine lv_aload_n hx hb dL_acts_348 rfl (lv_at hl 1 rfl) ?_
    refine lw_i (rL (rest := []) ⟨hx, hb, hml, hown, hts⟩ (LB_call_ok l G cA A o (u, v, f, g, L) n K ch hB hn (by show ¬ g 13 = 1; rw [hs]; decide)) (cwV 0 hts gL_acts_X8_call rfl rfl rfl mdX8_call ⟨Nat.le_of_ble_eq_true rfl, Nat.le_of_ble_eq_true rfl⟩) hA hL rfl hl rfl (Nat.le_of_ble_eq_true rfl) dL_acts_349 ⟨Nat.le_of_ble_eq_true rfl, Nat.le_of_ble_eq_true rfl⟩) hA (fun r_349 _ H locs hr_349 hA hL => ?_)
    replace hL : LB G cA A o (u, v, f, (obeyG g), L) (recN n) K ch H := hL
    replace hr_349 : r_349 = g 13 := hr_349
    rw [hs] at hr_349
    subst hr_349
    refine lv_istore (lv' := [(4, .int 0), (3, .int 0), (0, .ref o), (1, .int w1), (2, .int w0)]) hx hb dL_acts_352 hl (by decide) rfl (fun ls hl => ?_)
    refine lv_iload hx hb dL_acts_354 (lv_at hl 0 rfl) ?_
    refine lv_iload_n hx hb dL_acts_356 rfl (lv_at hl 1 rfl) ?_
    refine lv_iconst (v := 1) hx hb dL_acts_357 (by decide) ?_
    refine lv_icmp_ne (tgt := 366) hx hb dL_acts_358 (by decide) (fun _ => ?_) (fun h9 => absurd h9 (by decide))
    refine lv_iload_n hx hb dL_acts_366 rfl (lv_at hl 1 rfl) ?_
    refine lv_icmp_ne (tgt := 400) hx hb dL_acts_367 (by decide) (fun h9 => absurd (by decide) h9) (fun _ => ?_)
    refine lv_aload_n hx hb dL_acts_370 rfl (lv_at hl 2 rfl) ?_
    refine lv_iconst (v := 0) hx hb dL_acts_371 (by decide) ?_
    refine lr_i (rL (rest := []) ⟨hx, hb, hml, hown, hts⟩ (LB_door l G cA A o (u, v, f, (obeyG g), L) (recN n) K ch 0) (cwV 1 hts gL_acts_X8_door rfl rfl rfl mdX8_door ⟨Nat.le_of_ble_eq_true rfl, Nat.le_of_ble_eq_true rfl⟩) hA hL rfl hl rfl (Nat.le_of_ble_eq_true rfl) dL_acts_372 ⟨Nat.le_of_ble_eq_true rfl, Nat.le_of_ble_eq_true rfl⟩) hA hL (fun r_372 H locs hr_372 hA hL => ?_)
    replace hr_372 : r_372 = (if g 13 = 2 then g 13 else 1) := hr_372
    rw [hs] at hr_372
    replace hr_372 : r_372 = 1 := hr_372
    subst hr_372
    refine lv_iload_n hx hb dL_acts_375 rfl (lv_at hl 1 rfl) ?_
    refine lv_iconst (v := 2) hx hb dL_acts_376 (by decide) ?_
    refine lv_icmp_ne (tgt := 384) hx hb dL_acts_377 (by decide) (fun _ => ?_) (fun h9 => absurd h9 (by decide))
    refine lv_iconst (v := 1) hx hb dL_acts_384 (by decide) ?_
    refine lv_icmp_ne (tgt := 400) hx hb dL_acts_385 (by decide) (fun h9 => absurd (by decide) h9) (fun _ => ?_)
    refine lv_aload_n hx hb dL_acts_388 rfl (lv_at hl 2 rfl) ?_
    refine lv_iconst (v := 3) hx hb dL_acts_389 (by decide) ?_
    refine lr_i (rL (rest := []) ⟨hx, hb, hml, hown, hts⟩ (LB_door l G cA A o (u, v, f, (obeyG g), L) (recN n) K ch 3) (cwV 1 hts gL_acts_X8_door rfl rfl rfl mdX8_door ⟨Nat.le_of_ble_eq_true rfl, Nat.le_of_ble_eq_true rfl⟩) hA hL rfl hl rfl (Nat.le_of_ble_eq_true rfl) dL_acts_390 ⟨Nat.le_of_ble_eq_true rfl, Nat.le_of_ble_eq_true rfl⟩) hA hL (fun r_390 H locs hr_390 hA hL => ?_)
    replace hr_390 : r_390 = (if (if g 13 = 2 then g 13 else 1) = 2 then (if g 13 = 2 then 0 else g 14) else 0) := hr_390
    rw [hs] at hr_390
    replace hr_390 : r_390 = 0 := hr_390
    subst hr_390
    refine lv_if_ne (tgt := 400) hx hb dL_acts_393 (by decide) (fun h9 => absurd (by decide) h9) (fun _ => ?_)
    refine lv_iconst (v := 1) hx hb dL_acts_396 (by decide) ?_
    refine lv_goto (tgt := 401) hx hb dL_acts_397 (by decide) ?_
    exact en_l (post := ActP T) (B := ActB G cA A o) ((u, v, f, (obeyG g), L), (recN n), K, ch) hx hb hr hlocks hA ⟨rfl, rec_le hn, by exact ⟨T, by omega, inv_call hI⟩⟩ hL dL_acts_401
  · skip
    refine lv_aload_n hx hb dL_acts_342 rfl (lv_at hl 0 rfl) ?_
    refine lv_iconst (v := 0) hx hb dL_acts_343 (by decide) ?_
    refine lr_i (rL (rest := []) ⟨hx, hb, hml, hown, hts⟩ (LB_door l G cA A o (u, v, f, g, L) n K ch 0) (cwV 1 hts gL_acts_X8_door rfl rfl rfl mdX8_door ⟨Nat.le_of_ble_eq_true rfl, Nat.le_of_ble_eq_true rfl⟩) hA hL rfl hl rfl (Nat.le_of_ble_eq_true rfl) dL_acts_344 ⟨Nat.le_of_ble_eq_true rfl, Nat.le_of_ble_eq_true rfl⟩) hA hL (fun r_344_1 H locs hr_344_1 hA hL => ?_)
    replace hr_344_1 : r_344_1 = g 13 := hr_344_1
    rw [hs] at hr_344_1
    subst hr_344_1
    refine lv_istore_n (lv' := [(3, .int 1), (0, .ref o), (1, .int w1), (2, .int w0)]) hx hb dL_acts_347 rfl hl (by decide) rfl (fun ls hl => ?_)
    refine lv_aload_n hx hb dL_acts_348 rfl (lv_at hl 1 rfl) ?_
    refine lr_i (rL (rest := []) ⟨hx, hb, hml, hown, hts⟩ (LB_call_no l G cA A o (u, v, f, g, L) n K ch hs) (cwV 0 hts gL_acts_X8_call rfl rfl rfl mdX8_call ⟨Nat.le_of_ble_eq_true rfl, Nat.le_of_ble_eq_true rfl⟩) hA hL rfl hl rfl (Nat.le_of_ble_eq_true rfl) dL_acts_349 ⟨Nat.le_of_ble_eq_true rfl, Nat.le_of_ble_eq_true rfl⟩) hA hL (fun r_349_1 H locs hr_349_1 hA hL => ?_)
    subst hr_349_1
    refine lv_istore (lv' := [(4, .int (-4)), (3, .int 1), (0, .ref o), (1, .int w1), (2, .int w0)]) hx hb dL_acts_352 hl (by decide) rfl (fun ls hl => ?_)
    refine lv_iload hx hb dL_acts_354 (lv_at hl 0 rfl) ?_
    refine lv_iload_n hx hb dL_acts_356 rfl (lv_at hl 1 rfl) ?_
    refine lv_iconst (v := 1) hx hb dL_acts_357 (by decide) ?_
    refine lv_icmp_ne (tgt := 366) hx hb dL_acts_358 (by decide) (fun h9 => absurd (by decide) h9) (fun _ => ?_)
    refine lv_bipush (v := (-4)) hx hb dL_acts_361 (by decide) ?_
    refine lv_goto (tgt := 367) hx hb dL_acts_363 (by decide) ?_
    refine lv_icmp_ne (tgt := 400) hx hb dL_acts_367 (by decide) (fun h9 => absurd (by decide) h9) (fun _ => ?_)
    refine lv_aload_n hx hb dL_acts_370 rfl (lv_at hl 2 rfl) ?_
    refine lv_iconst (v := 0) hx hb dL_acts_371 (by decide) ?_
    refine lr_i (rL (rest := []) ⟨hx, hb, hml, hown, hts⟩ (LB_door l G cA A o (u, v, f, g, L) n K ch 0) (cwV 1 hts gL_acts_X8_door rfl rfl rfl mdX8_door ⟨Nat.le_of_ble_eq_true rfl, Nat.le_of_ble_eq_true rfl⟩) hA hL rfl hl rfl (Nat.le_of_ble_eq_true rfl) dL_acts_372 ⟨Nat.le_of_ble_eq_true rfl, Nat.le_of_ble_eq_true rfl⟩) hA hL (fun r_372_1 H locs hr_372_1 hA hL => ?_)
    replace hr_372_1 : r_372_1 = g 13 := hr_372_1
    rw [hs] at hr_372_1
    subst hr_372_1
    refine lv_iload_n hx hb dL_acts_375 rfl (lv_at hl 1 rfl) ?_
    refine lv_iconst (v := 2) hx hb dL_acts_376 (by decide) ?_
    refine lv_icmp_ne (tgt := 384) hx hb dL_acts_377 (by decide) (fun _ => ?_) (fun h9 => absurd h9 (by decide))
    refine lv_iconst (v := 1) hx hb dL_acts_384 (by decide) ?_
    refine lv_icmp_ne (tgt := 400) hx hb dL_acts_385 (by decide) (fun h9 => absurd (by decide) h9) (fun _ => ?_)
    refine lv_aload_n hx hb dL_acts_388 rfl (lv_at hl 2 rfl) ?_
    refine lv_iconst (v := 3) hx hb dL_acts_389 (by decide) ?_
    refine lr_i (rL (rest := []) ⟨hx, hb, hml, hown, hts⟩ (LB_door l G cA A o (u, v, f, g, L) n K ch 3) (cwV 1 hts gL_acts_X8_door rfl rfl rfl mdX8_door ⟨Nat.le_of_ble_eq_true rfl, Nat.le_of_ble_eq_true rfl⟩) hA hL rfl hl rfl (Nat.le_of_ble_eq_true rfl) dL_acts_390 ⟨Nat.le_of_ble_eq_true rfl, Nat.le_of_ble_eq_true rfl⟩) hA hL (fun r_390_1 H locs hr_390_1 hA hL => ?_)
    replace hr_390_1 : r_390_1 = (if g 13 = 2 then g 14 else 0) := hr_390_1
    rw [hs] at hr_390_1
    replace hr_390_1 : r_390_1 = 0 := hr_390_1
    subst hr_390_1
    refine lv_if_ne (tgt := 400) hx hb dL_acts_393 (by decide) (fun h9 => absurd (by decide) h9) (fun _ => ?_)
    refine lv_iconst (v := 1) hx hb dL_acts_396 (by decide) ?_
    refine lv_goto (tgt := 401) hx hb dL_acts_397 (by decide) ?_
    exact en_l (post := ActP T) (B := ActB G cA A o) ((u, v, f, g, L), n, K, ch) hx hb hr hlocks hA ⟨rfl, hn, by exact ⟨T, by omega, hI⟩⟩ hL dL_acts_401
  · skip
    refine lv_aload_n hx hb dL_acts_342 rfl (lv_at hl 0 rfl) ?_
    refine lv_iconst (v := 0) hx hb dL_acts_343 (by decide) ?_
    refine lr_i (rL (rest := []) ⟨hx, hb, hml, hown, hts⟩ (LB_door l G cA A o (u, v, f, g, L) n K ch 0) (cwV 1 hts gL_acts_X8_door rfl rfl rfl mdX8_door ⟨Nat.le_of_ble_eq_true rfl, Nat.le_of_ble_eq_true rfl⟩) hA hL rfl hl rfl (Nat.le_of_ble_eq_true rfl) dL_acts_344 ⟨Nat.le_of_ble_eq_true rfl, Nat.le_of_ble_eq_true rfl⟩) hA hL (fun r_344_2 H locs hr_344_2 hA hL => ?_)
    replace hr_344_2 : r_344_2 = g 13 := hr_344_2
    rw [hs] at hr_344_2
    subst hr_344_2
    refine lv_istore_n (lv' := [(3, .int 2), (0, .ref o), (1, .int w1), (2, .int w0)]) hx hb dL_acts_347 rfl hl (by decide) rfl (fun ls hl => ?_)
    refine lv_aload_n hx hb dL_acts_348 rfl (lv_at hl 1 rfl) ?_
    refine lw_i (rL (rest := []) ⟨hx, hb, hml, hown, hts⟩ (LB_call_ok l G cA A o (u, v, f, g, L) n K ch hB hn (by show ¬ g 13 = 1; rw [hs]; decide)) (cwV 0 hts gL_acts_X8_call rfl rfl rfl mdX8_call ⟨Nat.le_of_ble_eq_true rfl, Nat.le_of_ble_eq_true rfl⟩) hA hL rfl hl rfl (Nat.le_of_ble_eq_true rfl) dL_acts_349 ⟨Nat.le_of_ble_eq_true rfl, Nat.le_of_ble_eq_true rfl⟩) hA (fun r_349_2 _ H locs hr_349_2 hA hL => ?_)
    replace hL : LB G cA A o (u, v, f, (obeyG g), L) (recN n) K ch H := hL
    replace hr_349_2 : r_349_2 = g 13 := hr_349_2
    rw [hs] at hr_349_2
    subst hr_349_2
    refine lv_istore (lv' := [(4, .int 2), (3, .int 2), (0, .ref o), (1, .int w1), (2, .int w0)]) hx hb dL_acts_352 hl (by decide) rfl (fun ls hl => ?_)
    refine lv_iload hx hb dL_acts_354 (lv_at hl 0 rfl) ?_
    refine lv_iload_n hx hb dL_acts_356 rfl (lv_at hl 1 rfl) ?_
    refine lv_iconst (v := 1) hx hb dL_acts_357 (by decide) ?_
    refine lv_icmp_ne (tgt := 366) hx hb dL_acts_358 (by decide) (fun _ => ?_) (fun h9 => absurd h9 (by decide))
    refine lv_iload_n hx hb dL_acts_366 rfl (lv_at hl 1 rfl) ?_
    refine lv_icmp_ne (tgt := 400) hx hb dL_acts_367 (by decide) (fun h9 => absurd (by decide) h9) (fun _ => ?_)
    refine lv_aload_n hx hb dL_acts_370 rfl (lv_at hl 2 rfl) ?_
    refine lv_iconst (v := 0) hx hb dL_acts_371 (by decide) ?_
    refine lr_i (rL (rest := []) ⟨hx, hb, hml, hown, hts⟩ (LB_door l G cA A o (u, v, f, (obeyG g), L) (recN n) K ch 0) (cwV 1 hts gL_acts_X8_door rfl rfl rfl mdX8_door ⟨Nat.le_of_ble_eq_true rfl, Nat.le_of_ble_eq_true rfl⟩) hA hL rfl hl rfl (Nat.le_of_ble_eq_true rfl) dL_acts_372 ⟨Nat.le_of_ble_eq_true rfl, Nat.le_of_ble_eq_true rfl⟩) hA hL (fun r_372_2 H locs hr_372_2 hA hL => ?_)
    replace hr_372_2 : r_372_2 = (if g 13 = 2 then g 13 else 1) := hr_372_2
    rw [hs] at hr_372_2
    replace hr_372_2 : r_372_2 = 2 := hr_372_2
    subst hr_372_2
    refine lv_iload_n hx hb dL_acts_375 rfl (lv_at hl 1 rfl) ?_
    refine lv_iconst (v := 2) hx hb dL_acts_376 (by decide) ?_
    refine lv_icmp_ne (tgt := 384) hx hb dL_acts_377 (by decide) (fun h9 => absurd (by decide) h9) (fun _ => ?_)
    refine lv_iconst (v := 2) hx hb dL_acts_380 (by decide) ?_
    refine lv_goto (tgt := 385) hx hb dL_acts_381 (by decide) ?_
    refine lv_icmp_ne (tgt := 400) hx hb dL_acts_385 (by decide) (fun h9 => absurd (by decide) h9) (fun _ => ?_)
    refine lv_aload_n hx hb dL_acts_388 rfl (lv_at hl 2 rfl) ?_
    refine lv_iconst (v := 3) hx hb dL_acts_389 (by decide) ?_
    refine lr_i (rL (rest := []) ⟨hx, hb, hml, hown, hts⟩ (LB_door l G cA A o (u, v, f, (obeyG g), L) (recN n) K ch 3) (cwV 1 hts gL_acts_X8_door rfl rfl rfl mdX8_door ⟨Nat.le_of_ble_eq_true rfl, Nat.le_of_ble_eq_true rfl⟩) hA hL rfl hl rfl (Nat.le_of_ble_eq_true rfl) dL_acts_390 ⟨Nat.le_of_ble_eq_true rfl, Nat.le_of_ble_eq_true rfl⟩) hA hL (fun r_390_2 H locs hr_390_2 hA hL => ?_)
    replace hr_390_2 : r_390_2 = (if (if g 13 = 2 then g 13 else 1) = 2 then (if g 13 = 2 then 0 else g 14) else 0) := hr_390_2
    rw [hs] at hr_390_2
    replace hr_390_2 : r_390_2 = 0 := hr_390_2
    subst hr_390_2
    refine lv_if_ne (tgt := 400) hx hb dL_acts_393 (by decide) (fun h9 => absurd (by decide) h9) (fun _ => ?_)
    refine lv_iconst (v := 1) hx hb dL_acts_396 (by decide) ?_
    refine lv_goto (tgt := 401) hx hb dL_acts_397 (by decide) ?_
    exact en_l (post := ActP T) (B := ActB G cA A o) ((u, v, f, (obeyG g), L), (recN n), K, ch) hx hb hr hlocks hA ⟨rfl, rec_le hn, by exact ⟨T, by omega, inv_call hI⟩⟩ hL dL_acts_401
  · skip
    refine lv_aload_n hx hb dL_acts_342 rfl (lv_at hl 0 rfl) ?_
    refine lv_iconst (v := 0) hx hb dL_acts_343 (by decide) ?_
    refine lr_i (rL (rest := []) ⟨hx, hb, hml, hown, hts⟩ (LB_door l G cA A o (u, v, f, g, L) n K ch 0) (cwV 1 hts gL_acts_X8_door rfl rfl rfl mdX8_door ⟨Nat.le_of_ble_eq_true rfl, Nat.le_of_ble_eq_true rfl⟩) hA hL rfl hl rfl (Nat.le_of_ble_eq_true rfl) dL_acts_344 ⟨Nat.le_of_ble_eq_true rfl, Nat.le_of_ble_eq_true rfl⟩) hA hL (fun r_344_3 H locs hr_344_3 hA hL => ?_)
    replace hr_344_3 : r_344_3 = g 13 := hr_344_3
    rw [hs] at hr_344_3
    subst hr_344_3
    refine lv_istore_n (lv' := [(3, .int 3), (0, .ref o), (1, .int w1), (2, .int w0)]) hx hb dL_acts_347 rfl hl (by decide) rfl (fun ls hl => ?_)
    refine lv_aload_n hx hb dL_acts_348 rfl (lv_at hl 1 rfl) ?_
    refine lw_i (rL (rest := []) ⟨hx, hb, hml, hown, hts⟩ (LB_call_ok l G cA A o (u, v, f, g, L) n K ch hB hn (by show ¬ g 13 = 1; rw [hs]; decide)) (cwV 0 hts gL_acts_X8_call rfl rfl rfl mdX8_call ⟨Nat.le_of_ble_eq_true rfl, Nat.le_of_ble_eq_true rfl⟩) hA hL rfl hl rfl (Nat.le_of_ble_eq_true rfl) dL_acts_349 ⟨Nat.le_of_ble_eq_true rfl, Nat.le_of_ble_eq_true rfl⟩) hA (fun r_349_3 _ H locs hr_349_3 hA hL => ?_)
    replace hL : LB G cA A o (u, v, f, (obeyG g), L) (recN n) K ch H := hL
    replace hr_349_3 : r_349_3 = g 13 := hr_349_3
    rw [hs] at hr_349_3
    subst hr_349_3
    refine lv_istore (lv' := [(4, .int 3), (3, .int 3), (0, .ref o), (1, .int w1), (2, .int w0)]) hx hb dL_acts_352 hl (by decide) rfl (fun ls hl => ?_)
    refine lv_iload hx hb dL_acts_354 (lv_at hl 0 rfl) ?_
    refine lv_iload_n hx hb dL_acts_356 rfl (lv_at hl 1 rfl) ?_
    refine lv_iconst (v := 1) hx hb dL_acts_357 (by decide) ?_
    refine lv_icmp_ne (tgt := 366) hx hb dL_acts_358 (by decide) (fun _ => ?_) (fun h9 => absurd h9 (by decide))
    refine lv_iload_n hx hb dL_acts_366 rfl (lv_at hl 1 rfl) ?_
    refine lv_icmp_ne (tgt := 400) hx hb dL_acts_367 (by decide) (fun h9 => absurd (by decide) h9) (fun _ => ?_)
    refine lv_aload_n hx hb dL_acts_370 rfl (lv_at hl 2 rfl) ?_
    refine lv_iconst (v := 0) hx hb dL_acts_371 (by decide) ?_
    refine lr_i (rL (rest := []) ⟨hx, hb, hml, hown, hts⟩ (LB_door l G cA A o (u, v, f, (obeyG g), L) (recN n) K ch 0) (cwV 1 hts gL_acts_X8_door rfl rfl rfl mdX8_door ⟨Nat.le_of_ble_eq_true rfl, Nat.le_of_ble_eq_true rfl⟩) hA hL rfl hl rfl (Nat.le_of_ble_eq_true rfl) dL_acts_372 ⟨Nat.le_of_ble_eq_true rfl, Nat.le_of_ble_eq_true rfl⟩) hA hL (fun r_372_3 H locs hr_372_3 hA hL => ?_)
    replace hr_372_3 : r_372_3 = (if g 13 = 2 then g 13 else 1) := hr_372_3
    rw [hs] at hr_372_3
    replace hr_372_3 : r_372_3 = 1 := hr_372_3
    subst hr_372_3
    refine lv_iload_n hx hb dL_acts_375 rfl (lv_at hl 1 rfl) ?_
    refine lv_iconst (v := 2) hx hb dL_acts_376 (by decide) ?_
    refine lv_icmp_ne (tgt := 384) hx hb dL_acts_377 (by decide) (fun _ => ?_) (fun h9 => absurd h9 (by decide))
    refine lv_iconst (v := 1) hx hb dL_acts_384 (by decide) ?_
    refine lv_icmp_ne (tgt := 400) hx hb dL_acts_385 (by decide) (fun h9 => absurd (by decide) h9) (fun _ => ?_)
    refine lv_aload_n hx hb dL_acts_388 rfl (lv_at hl 2 rfl) ?_
    refine lv_iconst (v := 3) hx hb dL_acts_389 (by decide) ?_
    refine lr_i (rL (rest := []) ⟨hx, hb, hml, hown, hts⟩ (LB_door l G cA A o (u, v, f, (obeyG g), L) (recN n) K ch 3) (cwV 1 hts gL_acts_X8_door rfl rfl rfl mdX8_door ⟨Nat.le_of_ble_eq_true rfl, Nat.le_of_ble_eq_true rfl⟩) hA hL rfl hl rfl (Nat.le_of_ble_eq_true rfl) dL_acts_390 ⟨Nat.le_of_ble_eq_true rfl, Nat.le_of_ble_eq_true rfl⟩) hA hL (fun r_390_3 H locs hr_390_3 hA hL => ?_)
    replace hr_390_3 : r_390_3 = (if (if g 13 = 2 then g 13 else 1) = 2 then (if g 13 = 2 then 0 else g 14) else 0) := hr_390_3
    rw [hs] at hr_390_3
    replace hr_390_3 : r_390_3 = 0 := hr_390_3
    subst hr_390_3
    refine lv_if_ne (tgt := 400) hx hb dL_acts_393 (by decide) (fun h9 => absurd (by decide) h9) (fun _ => ?_)
    refine lv_iconst (v := 1) hx hb dL_acts_396 (by decide) ?_
    refine lv_goto (tgt := 401) hx hb dL_acts_397 (by decide) ?_
    exact en_l (post := ActP T) (B := ActB G cA A o) ((u, v, f, (obeyG g), L), (recN n), K, ch) hx hb hr hlocks hA ⟨rfl, rec_le hn, by exact ⟨T, by omega, inv_call hI⟩⟩ hL dL_acts_401
set_option maxHeartbeats 8000000 in
set_option maxRecDepth 100000 in
/-- acts: serve -/
theorem acts_5 {p : Program} {e : Env} {s : Jvm.State} {m : MethodId} {args : Array Value} {below : List Frame} {meth : Method} {c : Code} {ls : Array Slot} {H : Heap} {locs : List Loc} (l : Launch) (G : va_G) (cA : Nat → ClassId) (A : Nat → Prop) (o : Nat) (u : FF) (v : GG) (f : FF) (g L : GG) (n K : Nat) (ch : GG) (T : Nat) (w1 w0 : Int32) (hn : n ≤ 4) (hT : T ≤ 90000) (hI : Inv T (u, v, f, g, L)) (hx : p.tables.exec = Jvm.exec) (hb : c.code = cL_acts) (hml : c.maxLocals = 7) (hr : meth.sig.returnType = some .boolean) (hts : ∀ w ∈ wsL_acts, w.before args s = true) (hown : s.vm.findClass RL = some m.cls) (hlocks : meth.locks = false) (hA : At G cA A s H locs) (hL : LB G cA A o (u, v, f, g, L) n K ch H) (hl : lv_has ls 7 [(0, .ref o), (1, .int w1), (2, .int w0)]) : W p l e ({ frames := 8, cells := 0, slots := 0, locals := 198 } : Room) s m args below meth c H locs 0 0 (MQ below (va_Qi (ActP T) (fun y t => ActB G cA A o y t.heap) A) args s 0 0 A) (F0 m 402 ls []) := by
  have hB : Bo g := hI.2.2.2.1
  rcases hB.2.2 with hs | hs
  · skip
    refine lv_aload_n hx hb dL_acts_402 rfl (lv_at hl 0 rfl) ?_
    refine lv_iconst (v := 1) hx hb dL_acts_403 (by decide) ?_
    refine lr_i (rL (rest := []) ⟨hx, hb, hml, hown, hts⟩ (LB_door l G cA A o (u, v, f, g, L) n K ch 1) (cwV 1 hts gL_acts_X8_door rfl rfl rfl mdX8_door ⟨Nat.le_of_ble_eq_true rfl, Nat.le_of_ble_eq_true rfl⟩) hA hL rfl hl rfl (Nat.le_of_ble_eq_true rfl) dL_acts_404 ⟨Nat.le_of_ble_eq_true rfl, Nat.le_of_ble_eq_true rfl⟩) hA hL (fun r_404 H locs hr_404 hA hL => ?_)
    replace hr_404 : r_404 = g 16 := hr_404
    subst hr_404
    refine lv_istore_n (lv' := [(3, .int (g 16)), (0, .ref o), (1, .int w1), (2, .int w0)]) hx hb dL_acts_407 rfl hl (by decide) rfl (fun ls hl => ?_)
    refine lv_aload_n hx hb dL_acts_408 rfl (lv_at hl 1 rfl) ?_
    refine lv_iconst (v := 2) hx hb dL_acts_409 (by decide) ?_
    refine lr_i (rL (rest := []) ⟨hx, hb, hml, hown, hts⟩ (LB_door l G cA A o (u, v, f, g, L) n K ch 2) (cwV 1 hts gL_acts_X8_door rfl rfl rfl mdX8_door ⟨Nat.le_of_ble_eq_true rfl, Nat.le_of_ble_eq_true rfl⟩) hA hL rfl hl rfl (Nat.le_of_ble_eq_true rfl) dL_acts_410 ⟨Nat.le_of_ble_eq_true rfl, Nat.le_of_ble_eq_true rfl⟩) hA hL (fun r_410 H locs hr_410 hA hL => ?_)
    replace hr_410 : r_410 = oneF (g 17) := hr_410
    rw [hs] at hr_410
    replace hr_410 : r_410 = 0 := hr_410
    subst hr_410
    refine lv_istore (lv' := [(4, .int 0), (3, .int (g 16)), (0, .ref o), (1, .int w1), (2, .int w0)]) hx hb dL_acts_413 hl (by decide) rfl (fun ls hl => ?_)
    refine lv_aload_n hx hb dL_acts_415 rfl (lv_at hl 2 rfl) ?_
    refine lr_i (rL (rest := []) ⟨hx, hb, hml, hown, hts⟩ (LB_serve_no l G cA A o (u, v, f, g, L) n K ch hs) (cwV 0 hts gL_acts_X8_serve rfl rfl rfl mdX8_serve ⟨Nat.le_of_ble_eq_true rfl, Nat.le_of_ble_eq_true rfl⟩) hA hL rfl hl rfl (Nat.le_of_ble_eq_true rfl) dL_acts_416 ⟨Nat.le_of_ble_eq_true rfl, Nat.le_of_ble_eq_true rfl⟩) hA hL (fun r_416 H locs hr_416 hA hL => ?_)
    subst hr_416
    refine lv_iload hx hb dL_acts_419 (lv_at hl 0 rfl) ?_
    refine lv_if_ne (tgt := 429) hx hb dL_acts_421 (by decide) (fun h9 => absurd (by decide) h9) (fun _ => ?_)
    refine lv_bipush (v := (-4)) hx hb dL_acts_424 (by decide) ?_
    refine lv_goto (tgt := 430) hx hb dL_acts_426 (by decide) ?_
    refine lv_icmp_ne (tgt := 458) hx hb dL_acts_430 (by decide) (fun h9 => absurd (by decide) h9) (fun _ => ?_)
    refine lv_aload_n hx hb dL_acts_433 rfl (lv_at hl 2 rfl) ?_
    refine lv_iconst (v := 2) hx hb dL_acts_434 (by decide) ?_
    refine lr_i (rL (rest := []) ⟨hx, hb, hml, hown, hts⟩ (LB_door l G cA A o (u, v, f, g, L) n K ch 2) (cwV 1 hts gL_acts_X8_door rfl rfl rfl mdX8_door ⟨Nat.le_of_ble_eq_true rfl, Nat.le_of_ble_eq_true rfl⟩) hA hL rfl hl rfl (Nat.le_of_ble_eq_true rfl) dL_acts_435 ⟨Nat.le_of_ble_eq_true rfl, Nat.le_of_ble_eq_true rfl⟩) hA hL (fun r_435 H locs hr_435 hA hL => ?_)
    replace hr_435 : r_435 = oneF (g 17) := hr_435
    rw [hs] at hr_435
    replace hr_435 : r_435 = 0 := hr_435
    subst hr_435
    refine lv_if_ne (tgt := 458) hx hb dL_acts_438 (by decide) (fun h9 => absurd (by decide) h9) (fun _ => ?_)
    refine lv_iload hx hb dL_acts_441 (lv_at hl 0 rfl) ?_
    refine lv_if_eq (tgt := 454) hx hb dL_acts_443 (by decide) (fun _ => ?_) (fun h9 => absurd (by decide) h9)
    refine lv_iconst (v := 1) hx hb dL_acts_454 (by decide) ?_
    refine lv_goto (tgt := 459) hx hb dL_acts_455 (by decide) ?_
    exact en_l (post := ActP T) (B := ActB G cA A o) ((u, v, f, g, L), n, K, ch) hx hb hr hlocks hA ⟨rfl, hn, by exact ⟨T, by omega, hI⟩⟩ hL dL_acts_459
  · skip
    refine lv_aload_n hx hb dL_acts_402 rfl (lv_at hl 0 rfl) ?_
    refine lv_iconst (v := 1) hx hb dL_acts_403 (by decide) ?_
    refine lr_i (rL (rest := []) ⟨hx, hb, hml, hown, hts⟩ (LB_door l G cA A o (u, v, f, g, L) n K ch 1) (cwV 1 hts gL_acts_X8_door rfl rfl rfl mdX8_door ⟨Nat.le_of_ble_eq_true rfl, Nat.le_of_ble_eq_true rfl⟩) hA hL rfl hl rfl (Nat.le_of_ble_eq_true rfl) dL_acts_404 ⟨Nat.le_of_ble_eq_true rfl, Nat.le_of_ble_eq_true rfl⟩) hA hL (fun r_404_1 H locs hr_404_1 hA hL => ?_)
    replace hr_404_1 : r_404_1 = g 16 := hr_404_1
    subst hr_404_1
    refine lv_istore_n (lv' := [(3, .int (g 16)), (0, .ref o), (1, .int w1), (2, .int w0)]) hx hb dL_acts_407 rfl hl (by decide) rfl (fun ls hl => ?_)
    refine lv_aload_n hx hb dL_acts_408 rfl (lv_at hl 1 rfl) ?_
    refine lv_iconst (v := 2) hx hb dL_acts_409 (by decide) ?_
    refine lr_i (rL (rest := []) ⟨hx, hb, hml, hown, hts⟩ (LB_door l G cA A o (u, v, f, g, L) n K ch 2) (cwV 1 hts gL_acts_X8_door rfl rfl rfl mdX8_door ⟨Nat.le_of_ble_eq_true rfl, Nat.le_of_ble_eq_true rfl⟩) hA hL rfl hl rfl (Nat.le_of_ble_eq_true rfl) dL_acts_410 ⟨Nat.le_of_ble_eq_true rfl, Nat.le_of_ble_eq_true rfl⟩) hA hL (fun r_410_1 H locs hr_410_1 hA hL => ?_)
    replace hr_410_1 : r_410_1 = oneF (g 17) := hr_410_1
    rw [hs] at hr_410_1
    replace hr_410_1 : r_410_1 = 1 := hr_410_1
    subst hr_410_1
    refine lv_istore (lv' := [(4, .int 1), (3, .int (g 16)), (0, .ref o), (1, .int w1), (2, .int w0)]) hx hb dL_acts_413 hl (by decide) rfl (fun ls hl => ?_)
    refine lv_aload_n hx hb dL_acts_415 rfl (lv_at hl 2 rfl) ?_
    refine lw_i (rL (rest := []) ⟨hx, hb, hml, hown, hts⟩ (LB_serve_ok l G cA A o (u, v, f, g, L) n K ch hB hn (by show ¬ g 17 = 0; rw [hs]; decide)) (cwV 0 hts gL_acts_X8_serve rfl rfl rfl mdX8_serve ⟨Nat.le_of_ble_eq_true rfl, Nat.le_of_ble_eq_true rfl⟩) hA hL rfl hl rfl (Nat.le_of_ble_eq_true rfl) dL_acts_416 ⟨Nat.le_of_ble_eq_true rfl, Nat.le_of_ble_eq_true rfl⟩) hA (fun r_416_1 _ H locs hr_416_1 hA hL => ?_)
    replace hL : LB G cA A o (u, v, f, (upd (upd g 17 0) 16 0), L) (recN n) K ch H := hL
    replace hr_416_1 : r_416_1 = g 16 := hr_416_1
    subst hr_416_1
    refine lv_iload hx hb dL_acts_419 (lv_at hl 0 rfl) ?_
    refine lv_if_ne (tgt := 429) hx hb dL_acts_421 (by decide) (fun _ => ?_) (fun h9 => absurd h9 (by decide))
    refine lv_iload_n hx hb dL_acts_429 rfl (lv_at hl 1 rfl) ?_
    refine lv_icmp_ne (tgt := 458) hx hb dL_acts_430 (by decide) (fun c_430 => absurd rfl c_430) (fun c_430 => ?_)
    refine lv_aload_n hx hb dL_acts_433 rfl (lv_at hl 2 rfl) ?_
    refine lv_iconst (v := 2) hx hb dL_acts_434 (by decide) ?_
    refine lr_i (rL (rest := []) ⟨hx, hb, hml, hown, hts⟩ (LB_door l G cA A o (u, v, f, (upd (upd g 17 0) 16 0), L) (recN n) K ch 2) (cwV 1 hts gL_acts_X8_door rfl rfl rfl mdX8_door ⟨Nat.le_of_ble_eq_true rfl, Nat.le_of_ble_eq_true rfl⟩) hA hL rfl hl rfl (Nat.le_of_ble_eq_true rfl) dL_acts_435 ⟨Nat.le_of_ble_eq_true rfl, Nat.le_of_ble_eq_true rfl⟩) hA hL (fun r_435_1 H locs hr_435_1 hA hL => ?_)
    replace hr_435_1 : r_435_1 = oneF 0 := hr_435_1
    replace hr_435_1 : r_435_1 = 0 := hr_435_1
    subst hr_435_1
    refine lv_if_ne (tgt := 458) hx hb dL_acts_438 (by decide) (fun h9 => absurd (by decide) h9) (fun _ => ?_)
    refine lv_iload hx hb dL_acts_441 (lv_at hl 0 rfl) ?_
    refine lv_if_eq (tgt := 454) hx hb dL_acts_443 (by decide) (fun h9 => absurd h9 (by decide)) (fun _ => ?_)
    refine lv_aload_n hx hb dL_acts_446 rfl (lv_at hl 2 rfl) ?_
    refine lv_iconst (v := 1) hx hb dL_acts_447 (by decide) ?_
    refine lr_i (rL (rest := []) ⟨hx, hb, hml, hown, hts⟩ (LB_door l G cA A o (u, v, f, (upd (upd g 17 0) 16 0), L) (recN n) K ch 1) (cwV 1 hts gL_acts_X8_door rfl rfl rfl mdX8_door ⟨Nat.le_of_ble_eq_true rfl, Nat.le_of_ble_eq_true rfl⟩) hA hL rfl hl rfl (Nat.le_of_ble_eq_true rfl) dL_acts_448 ⟨Nat.le_of_ble_eq_true rfl, Nat.le_of_ble_eq_true rfl⟩) hA hL (fun r_448 H locs hr_448 hA hL => ?_)
    replace hr_448 : r_448 = 0 := hr_448
    subst hr_448
    refine lv_if_ne (tgt := 458) hx hb dL_acts_451 (by decide) (fun h9 => absurd (by decide) h9) (fun _ => ?_)
    refine lv_iconst (v := 1) hx hb dL_acts_454 (by decide) ?_
    refine lv_goto (tgt := 459) hx hb dL_acts_455 (by decide) ?_
    exact en_l (post := ActP T) (B := ActB G cA A o) ((u, v, f, (upd (upd g 17 0) 16 0), L), (recN n), K, ch) hx hb hr hlocks hA ⟨rfl, rec_le hn, by exact ⟨T, by omega, inv_serve hI⟩⟩ hL dL_acts_459
theorem nn_le {n N : Nat} (h : n ≤ 4) : (if N = 0 then n else recN n) ≤ 4 := by split; exact h; exact rec_le h
set_option maxHeartbeats 8000000 in
set_option maxRecDepth 100000 in
/-- acts: shuts -/
theorem acts_6 {p : Program} {e : Env} {s : Jvm.State} {m : MethodId} {args : Array Value} {below : List Frame} {meth : Method} {c : Code} {ls : Array Slot} {H : Heap} {locs : List Loc} (l : Launch) (G : va_G) (cA : Nat → ClassId) (A : Nat → Prop) (o : Nat) (u : FF) (v : GG) (f : FF) (g L : GG) (n K : Nat) (ch : GG) (T : Nat) (w1 w0 : Int32) (hn : n ≤ 4) (hT : T ≤ 90000) (hI : Inv T (u, v, f, g, L)) (hx : p.tables.exec = Jvm.exec) (hb : c.code = cL_acts) (hml : c.maxLocals = 7) (hr : meth.sig.returnType = some .boolean) (hts : ∀ w ∈ wsL_acts, w.before args s = true) (hown : s.vm.findClass RL = some m.cls) (hlocks : meth.locks = false) (hA : At G cA A s H locs) (hL : LB G cA A o (u, v, f, g, L) n K ch H) (hl : lv_has ls 7 [(0, .ref o), (1, .int w1), (2, .int w0)]) : W p l e ({ frames := 8, cells := 0, slots := 0, locals := 198 } : Room) s m args below meth c H locs 0 0 (MQ below (va_Qi (ActP T) (fun y t => ActB G cA A o y t.heap) A) args s 0 0 A) (F0 m 460 ls []) := by
  have hB : Bo g := hI.2.2.2.1
  obtain ⟨j, hj, ej⟩ : ∃ j, j < 4 ∧ lowN w0 4 = j := ⟨_, lowN_lt _ (by decide), rfl⟩
  refine lv_iload_n hx hb dL_acts_460 rfl (lv_at hl 2 rfl) ?_
  refine lv_iconst (v := 4) hx hb dL_acts_461 (by decide) ?_
  refine lr_i (rS (rest := []) ⟨hx, hb, hml, hown, hts⟩ (cL_low_det l G cA w0 4 (by decide) (by decide)) (va_cwS 2 hts gL_acts_L_low rfl rfl rfl mdL_low.2 ⟨Nat.le_of_ble_eq_true rfl, Nat.le_of_ble_eq_true rfl⟩) hA.1 empP empD rfl hl rfl (Nat.le_of_ble_eq_true rfl) dL_acts_462 ⟨Nat.le_of_ble_eq_true rfl, Nat.le_of_ble_eq_true rfl⟩) hA hL (fun r_462 H locs hr_462 hA hL => ?_)
  replace hr_462 : r_462 = nI (lowN w0 4) := hr_462
  rw [ej] at hr_462
  subst hr_462
  refine lv_if_gt (tgt := 475) hx hb dL_acts_465 (by decide) (fun c_465 => ?_) (fun c_465 => ?_)
  · skip
    refine lv_iconst (v := 1) hx hb dL_acts_475 (by decide) ?_
    refine lv_goto (tgt := 480) hx hb dL_acts_476 (by decide) ?_
    exact en_l (post := ActP T) (B := ActB G cA A o) ((u, v, f, g, L), n, K, ch) hx hb hr hlocks hA ⟨rfl, hn, by exact ⟨T, by omega, hI⟩⟩ hL dL_acts_480
  · skip
    refine lv_aload_n hx hb dL_acts_468 rfl (lv_at hl 0 rfl) ?_
    refine lw_i (rLS (rest := []) ⟨hx, hb, hml, hown, hts⟩ (cL_shuts_ok l G cA A o u v f g L n K ch hn (inv_ShOk hT hI)) (va_cwS 1 hts gL_acts_L_shuts rfl rfl rfl mdL_shuts.2 ⟨Nat.le_of_ble_eq_true rfl, Nat.le_of_ble_eq_true rfl⟩) hA hL rfl hl rfl (Nat.le_of_ble_eq_true rfl) dL_acts_469 ⟨Nat.le_of_ble_eq_true rfl, Nat.le_of_ble_eq_true rfl⟩) hA (fun r_469 N H locs hr_469 hA hL => ?_)
    replace hL : LB G cA A o (u, v, (itS u v 0 (f, g, L) N).1, (itS u v 0 (f, g, L) N).2.1, (itS u v 0 (f, g, L) N).2.2) (if N = 0 then n else recN n) K ch H := hL
    obtain ⟨hr_469, hN⟩ := hr_469
    subst hr_469
    refine lv_if_eq (tgt := 479) hx hb dL_acts_472 (by decide) (fun h9 => absurd h9 (by decide)) (fun _ => ?_)
    refine lv_iconst (v := 1) hx hb dL_acts_475 (by decide) ?_
    refine lv_goto (tgt := 480) hx hb dL_acts_476 (by decide) ?_
    exact en_l (post := ActP T) (B := ActB G cA A o) ((u, v, (itS u v 0 (f, g, L) N).1, (itS u v 0 (f, g, L) N).2.1, (itS u v 0 (f, g, L) N).2.2), (if N = 0 then n else recN n), K, ch) hx hb hr hlocks hA ⟨rfl, nn_le hn, by exact ⟨T + N, by omega, inv_0 hI N (by omega)⟩⟩ hL dL_acts_480
