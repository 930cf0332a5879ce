/-! acts(o, g, h), case by case (by wip/p26/acts.py) -/
theorem add48 (j : Nat) : 48 + nI j = nI (48 + j) := nI_add 48 j
theorem add49 (j : Nat) : 49 + nI j = nI (49 + j) := nI_add 49 j
theorem sum_T {x y : Int32} {T b : Nat} (h : x = nI T) (h2 : y = nI (T + (1 + b) + 1)) : y = x + nI (2 + b) := by
  rw [h, h2, nI_add]
  congr 1
  omega
set_option maxHeartbeats 8000000 in
set_option maxRecDepth 100000 in
/-- acts: readBeams -/
theorem acts_7 {p : Program} {e : Env} {s : Jvm.State} {m : MethodId} {args : Array Value} {below : List Frame} {meth : Method} {c : Code} {ls : Array Slot} {H : Heap} {locs : List Loc} (l : Launch) (G : va_G) (cA : Nat → ClassId) (A : Nat → Prop) (o : Nat) (u : FF) (v : GG) (f : FF) (g L : GG) (n K : Nat) (ch : GG) (T : Nat) (w1 w0 : Int32) (hn : n ≤ 4) (hT : T ≤ 90000) (hI : Inv T (u, v, f, g, L)) (hx : p.tables.exec = Jvm.exec) (hb : c.code = cL_acts) (hml : c.maxLocals = 7) (hr : meth.sig.returnType = some .boolean) (hts : ∀ w ∈ wsL_acts, w.before args s = true) (hown : s.vm.findClass RL = some m.cls) (hlocks : meth.locks = false) (hA : At G cA A s H locs) (hL : LB G cA A o (u, v, f, g, L) n K ch H) (hl : lv_has ls 7 [(0, .ref o), (1, .int w1), (2, .int w0)]) : W p l e ({ frames := 8, cells := 0, slots := 0, locals := 198 } : Room) s m args below meth c H locs 0 0 (MQ below (va_Qi (ActP T) (fun y t => ActB G cA A o y t.heap) A) args s 0 0 A) (F0 m 481 ls []) := by
  have hB : Bo g := hI.2.2.2.1
  obtain ⟨a, ha, ea⟩ : ∃ j, j < 8 ∧ lowN w0 8 = j := ⟨_, lowN_lt _ (by decide), rfl⟩
  obtain ⟨b, hb9, eb⟩ : ∃ j, j < 9 ∧ lowN (w0 >>> (3 &&& 31)) 9 = j := ⟨_, lowN_lt _ (by decide), rfl⟩
  obtain ⟨d, hd, ed⟩ : ∃ j, j < 8 ∧ lowN (w0 >>> (7 &&& 31)) 8 = j := ⟨_, lowN_lt _ (by decide), rfl⟩
  refine lv_aload_n hx hb dL_acts_481 rfl (lv_at hl 0 rfl) ?_
  refine lv_iconst (v := 0) hx hb dL_acts_482 (by decide) ?_
  refine lr_i (rL (rest := []) ⟨hx, hb, hml, hown, hts⟩ (LB_count l G cA A o (u, v, f, g, L) n K ch 0) (cwV 1 hts gL_acts_X8_count rfl rfl rfl mdX8_count ⟨Nat.le_of_ble_eq_true rfl, Nat.le_of_ble_eq_true rfl⟩) hA hL rfl hl rfl (Nat.le_of_ble_eq_true rfl) dL_acts_483 ⟨Nat.le_of_ble_eq_true rfl, Nat.le_of_ble_eq_true rfl⟩) hA hL (fun r_483 H locs hr_483 hA hL => ?_)
  replace hr_483 : r_483 = g 27 := hr_483
  subst hr_483
  refine lv_istore_n (lv' := [(3, .int (g 27)), (0, .ref o), (1, .int w1), (2, .int w0)]) hx hb dL_acts_486 rfl hl (by decide) rfl (fun ls hl => ?_)
  refine lv_aload_n hx hb dL_acts_487 rfl (lv_at hl 1 rfl) ?_
  refine lw_i (rL (rest := []) ⟨hx, hb, hml, hown, hts⟩ (LB_clearText l G cA A o (u, v, f, g, L) n K ch) (cwV 0 hts gL_acts_X8_clearText rfl rfl rfl mdX8_clearText ⟨Nat.le_of_ble_eq_true rfl, Nat.le_of_ble_eq_true rfl⟩) hA hL rfl hl rfl (Nat.le_of_ble_eq_true rfl) dL_acts_488 ⟨Nat.le_of_ble_eq_true rfl, Nat.le_of_ble_eq_true rfl⟩) hA (fun r_488 _ H locs hr_488 hA hL => ?_)
  replace hL : LB G cA A o (u, v, f, g, L) n 0 ch H := hL
  refine lv_pop hx hb dL_acts_491 rfl ?_
  refine lv_aload_n hx hb dL_acts_492 rfl (lv_at hl 1 rfl) ?_
  refine lv_bipush (v := 48) hx hb dL_acts_493 (by decide) ?_
  refine lv_iload_n hx hb dL_acts_495 rfl (lv_at hl 3 rfl) ?_
  refine lv_bipush (v := 8) hx hb dL_acts_496 (by decide) ?_
  refine lr_i (rS (rest := [.int 48, .ref o]) ⟨hx, hb, hml, hown, hts⟩ (cL_low_det l G cA w0 8 (by decide) (by decide)) (va_cwS 2 hts gL_acts_L_low rfl rfl rfl mdL_low.2 ⟨Nat.le_of_ble_eq_true rfl, Nat.le_of_ble_eq_true rfl⟩) hA.1 empP empD rfl hl rfl (Nat.le_of_ble_eq_true rfl) dL_acts_498 ⟨Nat.le_of_ble_eq_true rfl, Nat.le_of_ble_eq_true rfl⟩) hA hL (fun r_498 H locs hr_498 hA hL => ?_)
  replace hr_498 : r_498 = nI (lowN w0 8) := hr_498
  rw [ea] at hr_498
  subst hr_498
  refine lv_iadd hx hb dL_acts_501 ?_
  refine W.eq (g2 := F0 m 502 ls [.int (nI (48 + a)), .ref o]) (by rw [add48]) ?_
  refine lv_i2c (v := nI (48 + a)) hx hb dL_acts_502 (char_ok (by omega)) ?_
  refine lw_i (rL (rest := []) ⟨hx, hb, hml, hown, hts⟩ (LB_type l G cA A o (u, v, f, g, L) n 0 ch (by decide) (nI (48 + a)) (nar_ok (k := 48 + a) (by omega))) (cwV 1 hts gL_acts_X8_type rfl rfl rfl mdX8_type ⟨Nat.le_of_ble_eq_true rfl, Nat.le_of_ble_eq_true rfl⟩) hA hL rfl hl rfl (Nat.le_of_ble_eq_true rfl) dL_acts_503 ⟨Nat.le_of_ble_eq_true rfl, Nat.le_of_ble_eq_true rfl⟩) hA (fun r_503 _ H locs hr_503 hA hL => ?_)
  replace hL : LB G cA A o (u, v, f, g, L) n 1 (upd ch 0 (nI (48 + a))) H := hL
  refine lv_pop hx hb dL_acts_506 rfl ?_
  refine lv_aload_n hx hb dL_acts_507 rfl (lv_at hl 1 rfl) ?_
  refine lv_bipush (v := 42) hx hb dL_acts_508 (by decide) ?_
  refine lw_i (rL (rest := []) ⟨hx, hb, hml, hown, hts⟩ (LB_type l G cA A o (u, v, f, g, L) n 1 (upd ch 0 (nI (48 + a))) (by decide) 42 (nar_ok (k := 42) (by omega))) (cwV 1 hts gL_acts_X8_type rfl rfl rfl mdX8_type ⟨Nat.le_of_ble_eq_true rfl, Nat.le_of_ble_eq_true rfl⟩) hA hL rfl hl rfl (Nat.le_of_ble_eq_true rfl) dL_acts_510 ⟨Nat.le_of_ble_eq_true rfl, Nat.le_of_ble_eq_true rfl⟩) hA (fun r_510 _ H locs hr_510 hA hL => ?_)
  replace hL : LB G cA A o (u, v, f, g, L) n 2 (upd (upd ch 0 (nI (48 + a))) 1 42) H := hL
  refine lv_pop hx hb dL_acts_513 rfl ?_
  refine lv_aload_n hx hb dL_acts_514 rfl (lv_at hl 1 rfl) ?_
  refine lv_bipush (v := 49) hx hb dL_acts_515 (by decide) ?_
  refine lv_iload_n hx hb dL_acts_517 rfl (lv_at hl 3 rfl) ?_
  refine lv_iconst (v := 3) hx hb dL_acts_518 (by decide) ?_
  refine lv_ishr hx hb dL_acts_519 ?_
  refine lv_bipush (v := 9) hx hb dL_acts_520 (by decide) ?_
  refine lr_i (rS (rest := [.int 49, .ref o]) ⟨hx, hb, hml, hown, hts⟩ (cL_low_det l G cA (w0 >>> (3 &&& 31)) 9 (by decide) (by decide)) (va_cwS 2 hts gL_acts_L_low rfl rfl rfl mdL_low.2 ⟨Nat.le_of_ble_eq_true rfl, Nat.le_of_ble_eq_true rfl⟩) hA.1 empP empD rfl hl rfl (Nat.le_of_ble_eq_true rfl) dL_acts_522 ⟨Nat.le_of_ble_eq_true rfl, Nat.le_of_ble_eq_true rfl⟩) hA hL (fun r_522 H locs hr_522 hA hL => ?_)
  replace hr_522 : r_522 = nI (lowN (w0 >>> (3 &&& 31)) 9) := hr_522
  rw [eb] at hr_522
  subst hr_522
  refine lv_iadd hx hb dL_acts_525 ?_
  refine W.eq (g2 := F0 m 526 ls [.int (nI (49 + b)), .ref o]) (by rw [add49]) ?_
  refine lv_i2c (v := nI (49 + b)) hx hb dL_acts_526 (char_ok (by omega)) ?_
  refine lw_i (rL (rest := []) ⟨hx, hb, hml, hown, hts⟩ (LB_type l G cA A o (u, v, f, g, L) n 2 (upd (upd ch 0 (nI (48 + a))) 1 42) (by decide) (nI (49 + b)) (nar_ok (k := 49 + b) (by omega))) (cwV 1 hts gL_acts_X8_type rfl rfl rfl mdX8_type ⟨Nat.le_of_ble_eq_true rfl, Nat.le_of_ble_eq_true rfl⟩) hA hL rfl hl rfl (Nat.le_of_ble_eq_true rfl) dL_acts_527 ⟨Nat.le_of_ble_eq_true rfl, Nat.le_of_ble_eq_true rfl⟩) hA (fun r_527 _ H locs hr_527 hA hL => ?_)
  replace hL : LB G cA A o (u, v, f, g, L) n 3 (upd (upd (upd ch 0 (nI (48 + a))) 1 42) 2 (nI (49 + b))) H := hL
  refine lv_pop hx hb dL_acts_530 rfl ?_
  refine lv_aload_n hx hb dL_acts_531 rfl (lv_at hl 1 rfl) ?_
  refine lv_bipush (v := 44) hx hb dL_acts_532 (by decide) ?_
  refine lw_i (rL (rest := []) ⟨hx, hb, hml, hown, hts⟩ (LB_type l G cA A o (u, v, f, g, L) n 3 (upd (upd (upd ch 0 (nI (48 + a))) 1 42) 2 (nI (49 + b))) (by decide) 44 (nar_ok (k := 44) (by omega))) (cwV 1 hts gL_acts_X8_type rfl rfl rfl mdX8_type ⟨Nat.le_of_ble_eq_true rfl, Nat.le_of_ble_eq_true rfl⟩) hA hL rfl hl rfl (Nat.le_of_ble_eq_true rfl) dL_acts_534 ⟨Nat.le_of_ble_eq_true rfl, Nat.le_of_ble_eq_true rfl⟩) hA (fun r_534 _ H locs hr_534 hA hL => ?_)
  replace hL : LB G cA A o (u, v, f, g, L) n 4 (upd (upd (upd (upd ch 0 (nI (48 + a))) 1 42) 2 (nI (49 + b))) 3 44) H := hL
  refine lv_pop hx hb dL_acts_537 rfl ?_
  refine lv_aload_n hx hb dL_acts_538 rfl (lv_at hl 1 rfl) ?_
  refine lv_bipush (v := 48) hx hb dL_acts_539 (by decide) ?_
  refine lv_iload_n hx hb dL_acts_541 rfl (lv_at hl 3 rfl) ?_
  refine lv_bipush (v := 7) hx hb dL_acts_542 (by decide) ?_
  refine lv_ishr hx hb dL_acts_544 ?_
  refine lv_bipush (v := 8) hx hb dL_acts_545 (by decide) ?_
  refine lr_i (rS (rest := [.int 48, .ref o]) ⟨hx, hb, hml, hown, hts⟩ (cL_low_det l G cA (w0 >>> (7 &&& 31)) 8 (by decide) (by decide)) (va_cwS 2 hts gL_acts_L_low rfl rfl rfl mdL_low.2 ⟨Nat.le_of_ble_eq_true rfl, Nat.le_of_ble_eq_true rfl⟩) hA.1 empP empD rfl hl rfl (Nat.le_of_ble_eq_true rfl) dL_acts_547 ⟨Nat.le_of_ble_eq_true rfl, Nat.le_of_ble_eq_true rfl⟩) hA hL (fun r_547 H locs hr_547 hA hL => ?_)
  replace hr_547 : r_547 = nI (lowN (w0 >>> (7 &&& 31)) 8) := hr_547
  rw [ed] at hr_547
  subst hr_547
  refine lv_iadd hx hb dL_acts_550 ?_
  refine W.eq (g2 := F0 m 551 ls [.int (nI (48 + d)), .ref o]) (by rw [add48]) ?_
  refine lv_i2c (v := nI (48 + d)) hx hb dL_acts_551 (char_ok (by omega)) ?_
  refine lw_i (rL (rest := []) ⟨hx, hb, hml, hown, hts⟩ (LB_type l G cA A o (u, v, f, g, L) n 4 (upd (upd (upd (upd ch 0 (nI (48 + a))) 1 42) 2 (nI (49 + b))) 3 44) (by decide) (nI (48 + d)) (nar_ok (k := 48 + d) (by omega))) (cwV 1 hts gL_acts_X8_type rfl rfl rfl mdX8_type ⟨Nat.le_of_ble_eq_true rfl, Nat.le_of_ble_eq_true rfl⟩) hA hL rfl hl rfl (Nat.le_of_ble_eq_true rfl) dL_acts_552 ⟨Nat.le_of_ble_eq_true rfl, Nat.le_of_ble_eq_true rfl⟩) hA (fun r_552 _ H locs hr_552 hA hL => ?_)
  replace hL : LB G cA A o (u, v, f, g, L) n 5 (upd (upd (upd (upd (upd ch 0 (nI (48 + a))) 1 42) 2 (nI (49 + b))) 3 44) 4 (nI (48 + d))) H := hL
  refine lv_pop hx hb dL_acts_555 rfl ?_
  refine lv_iconst (v := 2) hx hb dL_acts_556 (by decide) ?_
  refine lv_iload_n hx hb dL_acts_557 rfl (lv_at hl 3 rfl) ?_
  refine lv_iconst (v := 3) hx hb dL_acts_558 (by decide) ?_
  refine lv_ishr hx hb dL_acts_559 ?_
  refine lv_bipush (v := 9) hx hb dL_acts_560 (by decide) ?_
  refine lr_i (rS (rest := [.int 2]) ⟨hx, hb, hml, hown, hts⟩ (cL_low_det l G cA (w0 >>> (3 &&& 31)) 9 (by decide) (by decide)) (va_cwS 2 hts gL_acts_L_low rfl rfl rfl mdL_low.2 ⟨Nat.le_of_ble_eq_true rfl, Nat.le_of_ble_eq_true rfl⟩) hA.1 empP empD rfl hl rfl (Nat.le_of_ble_eq_true rfl) dL_acts_562 ⟨Nat.le_of_ble_eq_true rfl, Nat.le_of_ble_eq_true rfl⟩) hA hL (fun r_562 H locs hr_562 hA hL => ?_)
  replace hr_562 : r_562 = nI (lowN (w0 >>> (3 &&& 31)) 9) := hr_562
  rw [eb] at hr_562
  subst hr_562
  refine lv_iadd hx hb dL_acts_565 ?_
  refine W.eq (g2 := F0 m 566 ls [.int (nI (2 + b))]) (by rw [two_add]) ?_
  refine lv_istore (lv' := [(4, .int (nI (2 + b))), (3, .int (g 27)), (0, .ref o), (1, .int w1), (2, .int w0)]) hx hb dL_acts_566 hl (by decide) rfl (fun ls hl => ?_)
  refine lv_aload_n hx hb dL_acts_568 rfl (lv_at hl 2 rfl) ?_
  refine lw_i (rL (rest := []) ⟨hx, hb, hml, hown, hts⟩ (LB_readBeams_ok l G cA A o (u, v, f, g, L) n (upd (upd (upd (upd (upd ch 0 (nI (48 + a))) 1 42) 2 (nI (49 + b))) 3 44) 4 (nI (48 + d))) hB hn a b d ha hb9 hd rfl rfl rfl rfl rfl (tick_max hI.2.2.2.2 (by omega)) (fun k hk => inv_GoOk (inv_it ha hI k (by omega))) (fun k hk => inv_GoOk (inv_it hd (inv_it ha hI (1 + b) (by omega)) k (by omega)))) (cwV 0 hts gL_acts_X8_readBeams rfl rfl rfl mdX8_readBeams ⟨Nat.le_of_ble_eq_true rfl, Nat.le_of_ble_eq_true rfl⟩) hA hL rfl hl rfl (Nat.le_of_ble_eq_true rfl) dL_acts_569 ⟨Nat.le_of_ble_eq_true rfl, Nat.le_of_ble_eq_true rfl⟩) hA (fun r_569 _ H locs hr_569 hA hL => ?_)
  replace hL : LB G cA A o (u, v, (itS u v (nI d) ((itS u v (nI a) (f, g, L) (1 + b)).1, (itS u v (nI a) (f, g, L) (1 + b)).2.1, (itS u v (nI a) (f, g, L) (1 + b)).2.2) 1).1, (itS u v (nI d) ((itS u v (nI a) (f, g, L) (1 + b)).1, (itS u v (nI a) (f, g, L) (1 + b)).2.1, (itS u v (nI a) (f, g, L) (1 + b)).2.2) 1).2.1, (itS u v (nI d) ((itS u v (nI a) (f, g, L) (1 + b)).1, (itS u v (nI a) (f, g, L) (1 + b)).2.1, (itS u v (nI a) (f, g, L) (1 + b)).2.2) 1).2.2) (recN n) 5 (upd (upd (upd (upd (upd ch 0 (nI (48 + a))) 1 42) 2 (nI (49 + b))) 3 44) 4 (nI (48 + d))) H := hL
  subst hr_569
  refine lv_iload hx hb dL_acts_572 (lv_at hl 0 rfl) ?_
  refine lv_icmp_ne (tgt := 593) hx hb dL_acts_574 (by decide) (fun c_574 => absurd rfl c_574) (fun c_574 => ?_)
  refine lv_aload_n hx hb dL_acts_577 rfl (lv_at hl 2 rfl) ?_
  refine lv_iconst (v := 0) hx hb dL_acts_578 (by decide) ?_
  refine lr_i (rL (rest := []) ⟨hx, hb, hml, hown, hts⟩ (LB_count l G cA A o (u, v, (itS u v (nI d) ((itS u v (nI a) (f, g, L) (1 + b)).1, (itS u v (nI a) (f, g, L) (1 + b)).2.1, (itS u v (nI a) (f, g, L) (1 + b)).2.2) 1).1, (itS u v (nI d) ((itS u v (nI a) (f, g, L) (1 + b)).1, (itS u v (nI a) (f, g, L) (1 + b)).2.1, (itS u v (nI a) (f, g, L) (1 + b)).2.2) 1).2.1, (itS u v (nI d) ((itS u v (nI a) (f, g, L) (1 + b)).1, (itS u v (nI a) (f, g, L) (1 + b)).2.1, (itS u v (nI a) (f, g, L) (1 + b)).2.2) 1).2.2) (recN n) 5 (upd (upd (upd (upd (upd ch 0 (nI (48 + a))) 1 42) 2 (nI (49 + b))) 3 44) 4 (nI (48 + d))) 0) (cwV 1 hts gL_acts_X8_count rfl rfl rfl mdX8_count ⟨Nat.le_of_ble_eq_true rfl, Nat.le_of_ble_eq_true rfl⟩) hA hL rfl hl rfl (Nat.le_of_ble_eq_true rfl) dL_acts_579 ⟨Nat.le_of_ble_eq_true rfl, Nat.le_of_ble_eq_true rfl⟩) hA hL (fun r_579 H locs hr_579 hA hL => ?_)
  replace hr_579 : r_579 = ((itS u v (nI d) ((itS u v (nI a) (f, g, L) (1 + b)).1, (itS u v (nI a) (f, g, L) (1 + b)).2.1, (itS u v (nI a) (f, g, L) (1 + b)).2.2) 1).2.1) 27 := hr_579
  subst hr_579
  refine lv_iload_n hx hb dL_acts_582 rfl (lv_at hl 1 rfl) ?_
  refine lv_iload hx hb dL_acts_583 (lv_at hl 0 rfl) ?_
  refine lv_iadd hx hb dL_acts_585 ?_
  refine lv_icmp_ne (tgt := 593) hx hb dL_acts_586 (by decide) (fun c_586 => absurd (sum_T hI.2.2.2.2 (inv_it hd (inv_it ha hI (1 + b) (by omega)) 1 (by omega)).2.2.2.2) c_586) (fun c_586 => ?_)
  refine lv_iconst (v := 1) hx hb dL_acts_589 (by decide) ?_
  refine lv_goto (tgt := 594) hx hb dL_acts_590 (by decide) ?_
  exact en_l (post := ActP T) (B := ActB G cA A o) ((u, v, (itS u v (nI d) ((itS u v (nI a) (f, g, L) (1 + b)).1, (itS u v (nI a) (f, g, L) (1 + b)).2.1, (itS u v (nI a) (f, g, L) (1 + b)).2.2) 1).1, (itS u v (nI d) ((itS u v (nI a) (f, g, L) (1 + b)).1, (itS u v (nI a) (f, g, L) (1 + b)).2.1, (itS u v (nI a) (f, g, L) (1 + b)).2.2) 1).2.1, (itS u v (nI d) ((itS u v (nI a) (f, g, L) (1 + b)).1, (itS u v (nI a) (f, g, L) (1 + b)).2.1, (itS u v (nI a) (f, g, L) (1 + b)).2.2) 1).2.2), (recN n), 5, (upd (upd (upd (upd (upd ch 0 (nI (48 + a))) 1 42) 2 (nI (49 + b))) 3 44) 4 (nI (48 + d)))) hx hb hr hlocks hA ⟨rfl, rec_le hn, by exact ⟨T + (1 + b) + 1, by omega, (inv_it hd (inv_it ha hI (1 + b) (by omega)) 1 (by omega))⟩⟩ hL dL_acts_594
theorem sum_T1 {x y : Int32} {T b : Nat} (h : x = nI T) (h2 : y = nI (T + b)) : y = x + nI b := by
  rw [h, h2, nI_add]
set_option maxHeartbeats 8000000 in
set_option maxRecDepth 100000 in
/-- acts: pass -/
theorem acts_8 {p : Program} {e : Env} {s : Jvm.State} {m : MethodId} {args : Array Value} {below : List Frame} {meth : Method} {c : Code} {ls : Array Slot} {H : Heap} {locs : List Loc} (l : Launch) (G : va_G) (cA : Nat → ClassId) (A : Nat → Prop) (o : Nat) (u : FF) (v : GG) (f : FF) (g L : GG) (n K : Nat) (ch : GG) (T : Nat) (w1 w0 : Int32) (hn : n ≤ 4) (hT : T ≤ 90000) (hI : Inv T (u, v, f, g, L)) (hx : p.tables.exec = Jvm.exec) (hb : c.code = cL_acts) (hml : c.maxLocals = 7) (hr : meth.sig.returnType = some .boolean) (hts : ∀ w ∈ wsL_acts, w.before args s = true) (hown : s.vm.findClass RL = some m.cls) (hlocks : meth.locks = false) (hA : At G cA A s H locs) (hL : LB G cA A o (u, v, f, g, L) n K ch H) (hl : lv_has ls 7 [(0, .ref o), (1, .int w1), (2, .int w0)]) : W p l e ({ frames := 8, cells := 0, slots := 0, locals := 198 } : Room) s m args below meth c H locs 0 0 (MQ below (va_Qi (ActP T) (fun y t => ActB G cA A o y t.heap) A) args s 0 0 A) (F0 m 595 ls []) := by
  have hB : Bo g := hI.2.2.2.1
  obtain ⟨j, hj, ej⟩ : ∃ j, j < 12 ∧ lowN w0 12 = j := ⟨_, lowN_lt _ (by decide), rfl⟩
  refine lv_iconst (v := 1) hx hb dL_acts_595 (by decide) ?_
  refine lv_iload_n hx hb dL_acts_596 rfl (lv_at hl 2 rfl) ?_
  refine lv_bipush (v := 12) hx hb dL_acts_597 (by decide) ?_
  refine lr_i (rS (rest := [.int 1]) ⟨hx, hb, hml, hown, hts⟩ (cL_low_det l G cA w0 12 (by decide) (by decide)) (va_cwS 2 hts gL_acts_L_low rfl rfl rfl mdL_low.2 ⟨Nat.le_of_ble_eq_true rfl, Nat.le_of_ble_eq_true rfl⟩) hA.1 empP empD rfl hl rfl (Nat.le_of_ble_eq_true rfl) dL_acts_599 ⟨Nat.le_of_ble_eq_true rfl, Nat.le_of_ble_eq_true rfl⟩) hA hL (fun r_599 H locs hr_599 hA hL => ?_)
  replace hr_599 : r_599 = nI (lowN w0 12) := hr_599
  rw [ej] at hr_599
  subst hr_599
  refine lv_iadd hx hb dL_acts_602 ?_
  refine W.eq (g2 := F0 m 603 ls [.int (nI (1 + j))]) (by rw [one_add]) ?_
  refine lv_istore_n (lv' := [(3, .int (nI (1 + j))), (0, .ref o), (1, .int w1), (2, .int w0)]) hx hb dL_acts_603 rfl hl (by decide) rfl (fun ls hl => ?_)
  refine lv_aload_n hx hb dL_acts_604 rfl (lv_at hl 1 rfl) ?_
  refine lv_iconst (v := 0) hx hb dL_acts_605 (by decide) ?_
  refine lr_i (rL (rest := []) ⟨hx, hb, hml, hown, hts⟩ (LB_count l G cA A o (u, v, f, g, L) n K ch 0) (cwV 1 hts gL_acts_X8_count rfl rfl rfl mdX8_count ⟨Nat.le_of_ble_eq_true rfl, Nat.le_of_ble_eq_true rfl⟩) hA hL rfl hl rfl (Nat.le_of_ble_eq_true rfl) dL_acts_606 ⟨Nat.le_of_ble_eq_true rfl, Nat.le_of_ble_eq_true rfl⟩) hA hL (fun r_606 H locs hr_606 hA hL => ?_)
  replace hr_606 : r_606 = g 27 := hr_606
  subst hr_606
  refine lv_istore (lv' := [(4, .int (g 27)), (3, .int (nI (1 + j))), (0, .ref o), (1, .int w1), (2, .int w0)]) hx hb dL_acts_609 hl (by decide) rfl (fun ls hl => ?_)
  refine lv_aload_n hx hb dL_acts_611 rfl (lv_at hl 2 rfl) ?_
  refine lv_iconst (v := 0) hx hb dL_acts_612 (by decide) ?_
  refine lv_iload_n hx hb dL_acts_613 rfl (lv_at hl 1 rfl) ?_
  refine lw_f (rL (rest := []) ⟨hx, hb, hml, hown, hts⟩ (LB_placeIn_ok l G cA A o (u, v, f, g, L) n K ch 0 (1 + j) (by decide) (by decide) (by omega) (fun k hk => inv_GoOk (inv_0 hI k (by omega)))) (cwV 2 hts gL_acts_X8_placeIn rfl rfl rfl mdX8_placeIn ⟨Nat.le_of_ble_eq_true rfl, Nat.le_of_ble_eq_true rfl⟩) hA hL rfl hl rfl (Nat.le_of_ble_eq_true rfl) dL_acts_614 ⟨Nat.le_of_ble_eq_true rfl, Nat.le_of_ble_eq_true rfl⟩) hA (fun r_614 _ H locs hr_614 hA hL => ?_)
  replace hL : LB G cA A o (u, v, f, g, L) n K ch H := hL
  replace hr_614 : r_614 = (itS u v 0 (f, g, L) (1 + j)).1 7 := hr_614
  subst hr_614
  refine lv_fstore (lv' := [(5, .float ((itS u v 0 (f, g, L) (1 + j)).1 7)), (4, .int (g 27)), (3, .int (nI (1 + j))), (0, .ref o), (1, .int w1), (2, .int w0)]) hx hb dL_acts_617 hl (by decide) rfl (fun ls hl => ?_)
  refine lv_aload_n hx hb dL_acts_619 rfl (lv_at hl 3 rfl) ?_
  refine lv_iconst (v := 0) hx hb dL_acts_620 (by decide) ?_
  refine lv_iload_n hx hb dL_acts_621 rfl (lv_at hl 2 rfl) ?_
  refine lw_i (rL (rest := []) ⟨hx, hb, hml, hown, hts⟩ (LB_pass_ok l G cA A o (u, v, f, g, L) n K ch hn 0 (1 + j) (by decide) (by decide) (by omega) (by omega) (tick_max hI.2.2.2.2 (by omega)) (fun k hk => inv_GoOk (inv_0 hI k (by omega))) hB) (cwV 2 hts gL_acts_X8_pass rfl rfl rfl mdX8_pass ⟨Nat.le_of_ble_eq_true rfl, Nat.le_of_ble_eq_true rfl⟩) hA hL rfl hl rfl (Nat.le_of_ble_eq_true rfl) dL_acts_622 ⟨Nat.le_of_ble_eq_true rfl, Nat.le_of_ble_eq_true rfl⟩) hA (fun r_622 _ H locs hr_622 hA hL => ?_)
  replace hL : LB G cA A o (u, v, (itS u v 0 (f, g, L) (1 + j)).1, (itS u v 0 (f, g, L) (1 + j)).2.1, (itS u v 0 (f, g, L) (1 + j)).2.2) (recN n) K ch H := hL
  replace hr_622 : r_622 = (itS u v 0 (f, g, L) (1 + j)).2.1 13 := hr_622
  subst hr_622
  refine lv_if_lt (tgt := 654) hx hb dL_acts_625 (by decide) (fun c_625 => absurd c_625 (st_nn (inv_state (inv_0 hI (1 + j) (by omega))))) (fun c_625 => ?_)
  refine lv_aload_n hx hb dL_acts_628 rfl (lv_at hl 3 rfl) ?_
  refine lr_f (rL (rest := []) ⟨hx, hb, hml, hown, hts⟩ (LB_place l G cA A o (u, v, (itS u v 0 (f, g, L) (1 + j)).1, (itS u v 0 (f, g, L) (1 + j)).2.1, (itS u v 0 (f, g, L) (1 + j)).2.2) (recN n) K ch) (cwV 0 hts gL_acts_X8_place rfl rfl rfl mdX8_place ⟨Nat.le_of_ble_eq_true rfl, Nat.le_of_ble_eq_true rfl⟩) hA hL rfl hl rfl (Nat.le_of_ble_eq_true rfl) dL_acts_629 ⟨Nat.le_of_ble_eq_true rfl, Nat.le_of_ble_eq_true rfl⟩) hA hL (fun r_629 H locs hr_629 hA hL => ?_)
  replace hr_629 : r_629 = ((itS u v 0 (f, g, L) (1 + j)).1) 7 := hr_629
  subst hr_629
  refine lv_fload hx hb dL_acts_632 (lv_at hl 0 rfl) ?_
  refine lv_fcmp hx hb dL_acts_634 ?_
  refine lv_if_ne (tgt := 654) hx hb dL_acts_635 (by decide) (fun c_635 => absurd (cmp_self (inv_0 hI (1 + j) (by omega)).2.1.1.nn _) c_635) (fun c_635 => ?_)
  refine lv_aload_n hx hb dL_acts_638 rfl (lv_at hl 3 rfl) ?_
  refine lv_iconst (v := 0) hx hb dL_acts_639 (by decide) ?_
  refine lr_i (rL (rest := []) ⟨hx, hb, hml, hown, hts⟩ (LB_count l G cA A o (u, v, (itS u v 0 (f, g, L) (1 + j)).1, (itS u v 0 (f, g, L) (1 + j)).2.1, (itS u v 0 (f, g, L) (1 + j)).2.2) (recN n) K ch 0) (cwV 1 hts gL_acts_X8_count rfl rfl rfl mdX8_count ⟨Nat.le_of_ble_eq_true rfl, Nat.le_of_ble_eq_true rfl⟩) hA hL rfl hl rfl (Nat.le_of_ble_eq_true rfl) dL_acts_640 ⟨Nat.le_of_ble_eq_true rfl, Nat.le_of_ble_eq_true rfl⟩) hA hL (fun r_640 H locs hr_640 hA hL => ?_)
  replace hr_640 : r_640 = ((itS u v 0 (f, g, L) (1 + j)).2.1) 27 := hr_640
  subst hr_640
  refine lv_iload hx hb dL_acts_643 (lv_at hl 1 rfl) ?_
  refine lv_iload_n hx hb dL_acts_645 rfl (lv_at hl 2 rfl) ?_
  refine lv_iadd hx hb dL_acts_646 ?_
  refine lv_icmp_ne (tgt := 654) hx hb dL_acts_647 (by decide) (fun c_647 => absurd (sum_T1 hI.2.2.2.2 (inv_0 hI (1 + j) (by omega)).2.2.2.2) c_647) (fun c_647 => ?_)
  refine lv_iconst (v := 1) hx hb dL_acts_650 (by decide) ?_
  refine lv_goto (tgt := 655) hx hb dL_acts_651 (by decide) ?_
  exact en_l (post := ActP T) (B := ActB G cA A o) ((u, v, (itS u v 0 (f, g, L) (1 + j)).1, (itS u v 0 (f, g, L) (1 + j)).2.1, (itS u v 0 (f, g, L) (1 + j)).2.2), (recN n), K, ch) hx hb hr hlocks hA ⟨rfl, rec_le hn, by exact ⟨T + (1 + j), by omega, (inv_0 hI (1 + j) (by omega))⟩⟩ hL dL_acts_655
set_option maxHeartbeats 8000000 in
set_option maxRecDepth 100000 in
/-- acts: tick -/
theorem acts_9 {p : Program} {e : Env} {s : Jvm.State} {m : MethodId} {args : Array Value} {below : List Frame} {meth : Method} {c : Code} {ls : Array Slot} {H : Heap} {locs : List Loc} (l : Launch) (G : va_G) (cA : Nat → ClassId) (A : Nat → Prop) (o : Nat) (u : FF) (v : GG) (f : FF) (g L : GG) (n K : Nat) (ch : GG) (T : Nat) (w1 w0 : Int32) (hn : n ≤ 4) (hT : T ≤ 90000) (hI : Inv T (u, v, f, g, L)) (hx : p.tables.exec = Jvm.exec) (hb : c.code = cL_acts) (hml : c.maxLocals = 7) (hr : meth.sig.returnType = some .boolean) (hts : ∀ w ∈ wsL_acts, w.before args s = true) (hown : s.vm.findClass RL = some m.cls) (hlocks : meth.locks = false) (hA : At G cA A s H locs) (hL : LB G cA A o (u, v, f, g, L) n K ch H) (hl : lv_has ls 7 [(0, .ref o), (1, .int w1), (2, .int w0)]) : W p l e ({ frames := 8, cells := 0, slots := 0, locals := 198 } : Room) s m args below meth c H locs 0 0 (MQ below (va_Qi (ActP T) (fun y t => ActB G cA A o y t.heap) A) args s 0 0 A) (F0 m 656 ls []) := by
  have hB : Bo g := hI.2.2.2.1
  obtain ⟨j, hj, ej⟩ : ∃ j, j < 3 ∧ lowN w0 3 = j := ⟨_, lowN_lt _ (by decide), rfl⟩
  obtain ⟨q, hq, eq⟩ : ∃ j, j < 8 ∧ lowN (w0 >>> (2 &&& 31)) 8 = j := ⟨_, lowN_lt _ (by decide), rfl⟩
  refine lv_aload_n hx hb dL_acts_656 rfl (lv_at hl 0 rfl) ?_
  refine lv_iload_n hx hb dL_acts_657 rfl (lv_at hl 2 rfl) ?_
  refine lv_iconst (v := 3) hx hb dL_acts_658 (by decide) ?_
  refine lr_i (rS (rest := [.ref o]) ⟨hx, hb, hml, hown, hts⟩ (cL_low_det l G cA w0 3 (by decide) (by decide)) (va_cwS 2 hts gL_acts_L_low rfl rfl rfl mdL_low.2 ⟨Nat.le_of_ble_eq_true rfl, Nat.le_of_ble_eq_true rfl⟩) hA.1 empP empD rfl hl rfl (Nat.le_of_ble_eq_true rfl) dL_acts_659 ⟨Nat.le_of_ble_eq_true rfl, Nat.le_of_ble_eq_true rfl⟩) hA hL (fun r_659 H locs hr_659 hA hL => ?_)
  replace hr_659 : r_659 = nI (lowN w0 3) := hr_659
  rw [ej] at hr_659
  subst hr_659
  refine lv_if_ne (tgt := 676) hx hb dL_acts_662 (by decide) (fun c_662 => ?_) (fun c_662 => ?_)
  · skip
    refine lv_iconst (v := 0) hx hb dL_acts_676 (by decide) ?_
    refine lw_i (rLS (rest := []) ⟨hx, hb, hml, hown, hts⟩ (cL_tick_ok l G cA A o u v f g L n K ch T 0 (by decide) hn hT hI) (va_cwS 2 hts gL_acts_L_tick rfl rfl rfl mdL_tick.2 ⟨Nat.le_of_ble_eq_true rfl, Nat.le_of_ble_eq_true rfl⟩) hA hL rfl hl rfl (Nat.le_of_ble_eq_true rfl) dL_acts_677 ⟨Nat.le_of_ble_eq_true rfl, Nat.le_of_ble_eq_true rfl⟩) hA (fun r_677 _ H locs hr_677 hA hL => ?_)
    replace hL : LB G cA A o (u, v, (goF u v f g (nI 0)), (goG u v f g (nI 0)), (goL u v g L (nI 0))) (recN n) K ch H := hL
    subst hr_677
    exact en_l (post := ActP T) (B := ActB G cA A o) ((u, v, (goF u v f g (nI 0)), (goG u v f g (nI 0)), (goL u v g L (nI 0))), (recN n), K, ch) hx hb hr hlocks hA ⟨rfl, rec_le hn, by exact ⟨T + 1, by omega, inv_go (j := 0) (by decide) (by omega) hI⟩⟩ hL dL_acts_680
  · skip
    refine lv_iload_n hx hb dL_acts_665 rfl (lv_at hl 2 rfl) ?_
    refine lv_iconst (v := 2) hx hb dL_acts_666 (by decide) ?_
    refine lv_ishr hx hb dL_acts_667 ?_
    refine lv_bipush (v := 8) hx hb dL_acts_668 (by decide) ?_
    refine lr_i (rS (rest := [.ref o]) ⟨hx, hb, hml, hown, hts⟩ (cL_low_det l G cA (w0 >>> (2 &&& 31)) 8 (by decide) (by decide)) (va_cwS 2 hts gL_acts_L_low rfl rfl rfl mdL_low.2 ⟨Nat.le_of_ble_eq_true rfl, Nat.le_of_ble_eq_true rfl⟩) hA.1 empP empD rfl hl rfl (Nat.le_of_ble_eq_true rfl) dL_acts_670 ⟨Nat.le_of_ble_eq_true rfl, Nat.le_of_ble_eq_true rfl⟩) hA hL (fun r_670 H locs hr_670 hA hL => ?_)
    replace hr_670 : r_670 = nI (lowN (w0 >>> (2 &&& 31)) 8) := hr_670
    rw [eq] at hr_670
    subst hr_670
    refine lv_goto (tgt := 677) hx hb dL_acts_673 (by decide) ?_
    refine lw_i (rLS (rest := []) ⟨hx, hb, hml, hown, hts⟩ (cL_tick_ok l G cA A o u v f g L n K ch T q hq hn hT hI) (va_cwS 2 hts gL_acts_L_tick rfl rfl rfl mdL_tick.2 ⟨Nat.le_of_ble_eq_true rfl, Nat.le_of_ble_eq_true rfl⟩) hA hL rfl hl rfl (Nat.le_of_ble_eq_true rfl) dL_acts_677 ⟨Nat.le_of_ble_eq_true rfl, Nat.le_of_ble_eq_true rfl⟩) hA (fun r_677_1 _ H locs hr_677_1 hA hL => ?_)
    replace hL : LB G cA A o (u, v, (goF u v f g (nI q)), (goG u v f g (nI q)), (goL u v g L (nI q))) (recN n) K ch H := hL
    subst hr_677_1
    exact en_l (post := ActP T) (B := ActB G cA A o) ((u, v, (goF u v f g (nI q)), (goG u v f g (nI q)), (goL u v g L (nI q))), (recN n), K, ch) hx hb hr hlocks hA ⟨rfl, rec_le hn, by exact ⟨T + 1, by omega, inv_go (j := q) hq (by omega) hI⟩⟩ hL dL_acts_680
