/-! acts(o, g, h), case by case (by wip/p26/acts.py) -/
theorem num_lo {j x : Nat} (h : 1 ≤ j ∧ j ≤ 3) (hx : x < 6) : ¬ nI x < leastF j := by
  unfold leastF
  rw [if_neg (by omega), if_neg (by omega)]
  exact nI_pos (by omega)
theorem num_hi {j x : Nat} (h : 1 ≤ j ∧ j ≤ 3) (hx : x < 6) : nI x ≤ mostF j := by
  unfold mostF
  rw [if_neg (by omega), if_neg (by omega)]
  exact nI_le (a := x) (b := 5) (by omega) (by decide)
set_option maxHeartbeats 8000000 in
set_option maxRecDepth 100000 in
/-- acts: setNumber -/
theorem acts_2 {p : Program} {e : Env} {s : Jvm.State} {m : MethodId} {args : Array Value} {below : List Frame} {meth : Method} {c : Code} {ls : Array Slot} {H : Heap} {locs : List Loc} (l : Launch) (G : va_G) (cA : Nat → ClassId) (A : Nat → Prop) (o : Nat) (u : FF) (v : GG) (f : FF) (g L : GG) (n K : Nat) (ch : GG) (T : Nat) (w1 w0 : Int32) (hn : n ≤ 4) (hT : T ≤ 90000) (hI : Inv T (u, v, f, g, L)) (hx : p.tables.exec = Jvm.exec) (hb : c.code = cL_acts) (hml : c.maxLocals = 7) (hr : meth.sig.returnType = some .boolean) (hts : ∀ w ∈ wsL_acts, w.before args s = true) (hown : s.vm.findClass RL = some m.cls) (hlocks : meth.locks = false) (hA : At G cA A s H locs) (hL : LB G cA A o (u, v, f, g, L) n K ch H) (hl : lv_has ls 7 [(0, .ref o), (1, .int w1), (2, .int w0)]) : W p l e ({ frames := 8, cells := 0, slots := 0, locals := 198 } : Room) s m args below meth c H locs 0 0 (MQ below (va_Qi (ActP T) (fun y t => ActB G cA A o y t.heap) A) args s 0 0 A) (F0 m 255 ls []) := by
  have hB : Bo g := hI.2.2.2.1
  obtain ⟨j, hj, ej⟩ : ∃ j, j < 5 ∧ lowN w0 5 = j := ⟨_, lowN_lt _ (by decide), rfl⟩
  obtain ⟨y, hy, ey⟩ : ∃ j, j < 6 ∧ lowN (w0 >>> (3 &&& 31)) 6 = j := ⟨_, lowN_lt _ (by decide), rfl⟩
  obtain ⟨z, hz, ez⟩ : ∃ j, j < 4 ∧ lowN (w0 >>> (3 &&& 31)) 4 = j := ⟨_, lowN_lt _ (by decide), rfl⟩
  refine lv_iload_n hx hb dL_acts_255 rfl (lv_at hl 2 rfl) ?_
  refine lv_iconst (v := 5) hx hb dL_acts_256 (by decide) ?_
  refine lr_i (rS (rest := []) ⟨hx, hb, hml, hown, hts⟩ (cL_low_det l G cA w0 5 (by decide) (by decide)) (va_cwS 2 hts gL_acts_L_low rfl rfl rfl mdL_low.2 ⟨Nat.le_of_ble_eq_true rfl, Nat.le_of_ble_eq_true rfl⟩) hA.1 empP empD rfl hl rfl (Nat.le_of_ble_eq_true rfl) dL_acts_257 ⟨Nat.le_of_ble_eq_true rfl, Nat.le_of_ble_eq_true rfl⟩) hA hL (fun r_257 H locs hr_257 hA hL => ?_)
  replace hr_257 : r_257 = nI (lowN w0 5) := hr_257
  rw [ej] at hr_257
  subst hr_257
  refine lv_istore_n (lv' := [(3, .int (nI j)), (0, .ref o), (1, .int w1), (2, .int w0)]) hx hb dL_acts_260 rfl hl (by decide) rfl (fun ls hl => ?_)
  rcases (show j = 0 ∨ j = 4 ∨ (1 ≤ j ∧ j ≤ 3) by omega) with rfl | rfl | hj13
  · skip
    replace hl : lv_has ls 7 [(3, .int 0), (0, .ref o), (1, .int w1), (2, .int w0)] := hl
    refine lv_iload_n hx hb dL_acts_261 rfl (lv_at hl 0 rfl) ?_
    refine lv_if_ne (tgt := 278) hx hb dL_acts_262 (by decide) (fun h9 => absurd (by decide) h9) (fun _ => ?_)
    refine lv_iconst (v := 1) hx hb dL_acts_265 (by decide) ?_
    refine lv_iload_n hx hb dL_acts_266 rfl (lv_at hl 3 rfl) ?_
    refine lv_iconst (v := 3) hx hb dL_acts_267 (by decide) ?_
    refine lv_ishr hx hb dL_acts_268 ?_
    refine lv_bipush (v := 6) hx hb dL_acts_269 (by decide) ?_
    refine lr_i (rS (rest := [.int 1]) ⟨hx, hb, hml, hown, hts⟩ (cL_low_det l G cA (w0 >>> (3 &&& 31)) 6 (by decide) (by decide)) (va_cwS 2 hts gL_acts_L_low rfl rfl rfl mdL_low.2 ⟨Nat.le_of_ble_eq_true rfl, Nat.le_of_ble_eq_true rfl⟩) hA.1 empP empD rfl hl rfl (Nat.le_of_ble_eq_true rfl) dL_acts_271 ⟨Nat.le_of_ble_eq_true rfl, Nat.le_of_ble_eq_true rfl⟩) hA hL (fun r_271 H locs hr_271 hA hL => ?_)
    replace hr_271 : r_271 = nI (lowN (w0 >>> (3 &&& 31)) 6) := hr_271
    rw [ey] at hr_271
    subst hr_271
    refine lv_iadd hx hb dL_acts_274 ?_
    refine lv_goto (tgt := 303) hx hb dL_acts_275 (by decide) ?_
    refine W.eq (g2 := F0 m 303 ls [.int (nI (1 + y))]) (by rw [one_add]) ?_
    refine lv_istore (lv' := [(4, .int (nI (1 + y))), (3, .int 0), (0, .ref o), (1, .int w1), (2, .int w0)]) hx hb dL_acts_303 hl (by decide) rfl (fun ls hl => ?_)
    refine lv_aload_n hx hb dL_acts_305 rfl (lv_at hl 2 rfl) ?_
    refine lv_iload_n hx hb dL_acts_306 rfl (lv_at hl 1 rfl) ?_
    refine lr_i (rL (rest := []) ⟨hx, hb, hml, hown, hts⟩ (LB_number l G cA A o (u, v, f, g, L) n K ch (nI 0)) (cwV 1 hts gL_acts_X8_number rfl rfl rfl mdX8_number ⟨Nat.le_of_ble_eq_true rfl, Nat.le_of_ble_eq_true rfl⟩) hA hL rfl hl rfl (Nat.le_of_ble_eq_true rfl) dL_acts_307 ⟨Nat.le_of_ble_eq_true rfl, Nat.le_of_ble_eq_true rfl⟩) hA hL (fun r_307 H locs hr_307 hA hL => ?_)
    replace hr_307 : r_307 = v 0 := hr_307.trans (nuF_j (j := 0) (by omega))
    subst hr_307
    refine lv_istore (lv' := [(5, .int (v 0)), (4, .int (nI (1 + y))), (3, .int 0), (0, .ref o), (1, .int w1), (2, .int w0)]) hx hb dL_acts_310 hl (by decide) rfl (fun ls hl => ?_)
    by_cases hsame : v 0 = nI (1 + y)
    · skip
      refine lv_aload_n hx hb dL_acts_312 rfl (lv_at hl 3 rfl) ?_
      refine lv_iload_n hx hb dL_acts_313 rfl (lv_at hl 2 rfl) ?_
      refine lv_iload hx hb dL_acts_314 (lv_at hl 1 rfl) ?_
      refine lr_i (rL (rest := []) ⟨hx, hb, hml, hown, hts⟩ (LB_setNumber_same l G cA A o (u, v, f, g, L) n K ch 0 (by omega) (nI (1 + y)) (nI_nlt (a := 1 + y) (b := 1) (by omega) (by omega)) (nI_le (a := 1 + y) (b := 50) (by omega) (by decide)) ((nuF_j (j := 0) (by omega)).trans hsame)) (cwV 2 hts gL_acts_X8_setNumber rfl rfl rfl mdX8_setNumber ⟨Nat.le_of_ble_eq_true rfl, Nat.le_of_ble_eq_true rfl⟩) hA hL rfl hl rfl (Nat.le_of_ble_eq_true rfl) dL_acts_316 ⟨Nat.le_of_ble_eq_true rfl, Nat.le_of_ble_eq_true rfl⟩) hA hL (fun r_316 H locs hr_316 hA hL => ?_)
      subst hr_316
      refine lv_iload hx hb dL_acts_319 (lv_at hl 0 rfl) ?_
      refine lv_iload hx hb dL_acts_321 (lv_at hl 1 rfl) ?_
      refine lv_icmp_ne (tgt := 331) hx hb dL_acts_323 (by decide) (fun c_323 => absurd hsame c_323) (fun c_323 => ?_)
      refine lv_bipush (v := (-5)) hx hb dL_acts_326 (by decide) ?_
      refine lv_goto (tgt := 333) hx hb dL_acts_328 (by decide) ?_
      refine lv_icmp_ne (tgt := 340) hx hb dL_acts_333 (by decide) (fun h9 => absurd (by decide) h9) (fun _ => ?_)
      refine lv_iconst (v := 1) hx hb dL_acts_336 (by decide) ?_
      refine lv_goto (tgt := 341) hx hb dL_acts_337 (by decide) ?_
      exact en_l (post := ActP T) (B := ActB G cA A o) ((u, v, f, g, L), n, K, ch) hx hb hr hlocks hA ⟨rfl, hn, by exact ⟨T, by omega, hI⟩⟩ hL dL_acts_341
    · skip
      refine lv_aload_n hx hb dL_acts_312 rfl (lv_at hl 3 rfl) ?_
      refine lv_iload_n hx hb dL_acts_313 rfl (lv_at hl 2 rfl) ?_
      refine lv_iload hx hb dL_acts_314 (lv_at hl 1 rfl) ?_
      refine lw_i (rL (rest := []) ⟨hx, hb, hml, hown, hts⟩ (LB_setNumber_ok l G cA A o (u, v, f, g, L) n K ch hB hn 0 (by omega) (nI (1 + y)) (nI_nlt (a := 1 + y) (b := 1) (by omega) (by omega)) (nI_le (a := 1 + y) (b := 50) (by omega) (by decide)) (fun h9 => hsame ((nuF_j (j := 0) (by omega)).symm.trans h9))) (cwV 2 hts gL_acts_X8_setNumber rfl rfl rfl mdX8_setNumber ⟨Nat.le_of_ble_eq_true rfl, Nat.le_of_ble_eq_true rfl⟩) hA hL rfl hl rfl (Nat.le_of_ble_eq_true rfl) dL_acts_316 ⟨Nat.le_of_ble_eq_true rfl, Nat.le_of_ble_eq_true rfl⟩) hA (fun r_316_1 _ H locs hr_316_1 hA hL => ?_)
      replace hL : LB G cA A o (u, (upd v 0 (nI (1 + y))), f, g, L) (recN n) K ch H := hL
      replace hr_316_1 : r_316_1 = v 0 := hr_316_1.trans (nuF_j (j := 0) (by omega))
      subst hr_316_1
      refine lv_iload hx hb dL_acts_319 (lv_at hl 0 rfl) ?_
      refine lv_iload hx hb dL_acts_321 (lv_at hl 1 rfl) ?_
      refine lv_icmp_ne (tgt := 331) hx hb dL_acts_323 (by decide) (fun c_323_1 => ?_) (fun c_323_1 => absurd c_323_1 hsame)
      refine lv_iload hx hb dL_acts_331 (lv_at hl 0 rfl) ?_
      refine lv_icmp_ne (tgt := 340) hx hb dL_acts_333 (by decide) (fun c_333 => absurd rfl c_333) (fun c_333 => ?_)
      refine lv_iconst (v := 1) hx hb dL_acts_336 (by decide) ?_
      refine lv_goto (tgt := 341) hx hb dL_acts_337 (by decide) ?_
      exact en_l (post := ActP T) (B := ActB G cA A o) ((u, (upd v 0 (nI (1 + y))), f, g, L), (recN n), K, ch) hx hb hr hlocks hA ⟨rfl, rec_le hn, by exact ⟨T, by omega, inv_num (fun h9 => absurd h9 (by decide)) hI⟩⟩ hL dL_acts_341
  · skip
    replace hl : lv_has ls 7 [(3, .int 4), (0, .ref o), (1, .int w1), (2, .int w0)] := hl
    refine lv_iload_n hx hb dL_acts_261 rfl (lv_at hl 0 rfl) ?_
    refine lv_if_ne (tgt := 278) hx hb dL_acts_262 (by decide) (fun _ => ?_) (fun h9 => absurd h9 (by decide))
    refine lv_iload_n hx hb dL_acts_278 rfl (lv_at hl 0 rfl) ?_
    refine lv_iconst (v := 4) hx hb dL_acts_279 (by decide) ?_
    refine lv_icmp_ne (tgt := 295) hx hb dL_acts_280 (by decide) (fun h9 => absurd (by decide) h9) (fun _ => ?_)
    refine lv_iconst (v := 1) hx hb dL_acts_283 (by decide) ?_
    refine lv_iload_n hx hb dL_acts_284 rfl (lv_at hl 3 rfl) ?_
    refine lv_iconst (v := 3) hx hb dL_acts_285 (by decide) ?_
    refine lv_ishr hx hb dL_acts_286 ?_
    refine lv_iconst (v := 4) hx hb dL_acts_287 (by decide) ?_
    refine lr_i (rS (rest := [.int 1]) ⟨hx, hb, hml, hown, hts⟩ (cL_low_det l G cA (w0 >>> (3 &&& 31)) 4 (by decide) (by decide)) (va_cwS 2 hts gL_acts_L_low rfl rfl rfl mdL_low.2 ⟨Nat.le_of_ble_eq_true rfl, Nat.le_of_ble_eq_true rfl⟩) hA.1 empP empD rfl hl rfl (Nat.le_of_ble_eq_true rfl) dL_acts_288 ⟨Nat.le_of_ble_eq_true rfl, Nat.le_of_ble_eq_true rfl⟩) hA hL (fun r_288 H locs hr_288 hA hL => ?_)
    replace hr_288 : r_288 = nI (lowN (w0 >>> (3 &&& 31)) 4) := hr_288
    rw [ez] at hr_288
    subst hr_288
    refine lv_iadd hx hb dL_acts_291 ?_
    refine lv_goto (tgt := 303) hx hb dL_acts_292 (by decide) ?_
    refine W.eq (g2 := F0 m 303 ls [.int (nI (1 + z))]) (by rw [one_add]) ?_
    refine lv_istore (lv' := [(4, .int (nI (1 + z))), (3, .int 4), (0, .ref o), (1, .int w1), (2, .int w0)]) hx hb dL_acts_303 hl (by decide) rfl (fun ls hl => ?_)
    refine lv_aload_n hx hb dL_acts_305 rfl (lv_at hl 2 rfl) ?_
    refine lv_iload_n hx hb dL_acts_306 rfl (lv_at hl 1 rfl) ?_
    refine lr_i (rL (rest := []) ⟨hx, hb, hml, hown, hts⟩ (LB_number l G cA A o (u, v, f, g, L) n K ch (nI 4)) (cwV 1 hts gL_acts_X8_number rfl rfl rfl mdX8_number ⟨Nat.le_of_ble_eq_true rfl, Nat.le_of_ble_eq_true rfl⟩) hA hL rfl hl rfl (Nat.le_of_ble_eq_true rfl) dL_acts_307 ⟨Nat.le_of_ble_eq_true rfl, Nat.le_of_ble_eq_true rfl⟩) hA hL (fun r_307_1 H locs hr_307_1 hA hL => ?_)
    replace hr_307_1 : r_307_1 = v 4 := hr_307_1.trans (nuF_j (j := 4) (by omega))
    subst hr_307_1
    refine lv_istore (lv' := [(5, .int (v 4)), (4, .int (nI (1 + z))), (3, .int 4), (0, .ref o), (1, .int w1), (2, .int w0)]) hx hb dL_acts_310 hl (by decide) rfl (fun ls hl => ?_)
    by_cases hsame : v 4 = nI (1 + z)
    · skip
      refine lv_aload_n hx hb dL_acts_312 rfl (lv_at hl 3 rfl) ?_
      refine lv_iload_n hx hb dL_acts_313 rfl (lv_at hl 2 rfl) ?_
      refine lv_iload hx hb dL_acts_314 (lv_at hl 1 rfl) ?_
      refine lr_i (rL (rest := []) ⟨hx, hb, hml, hown, hts⟩ (LB_setNumber_same l G cA A o (u, v, f, g, L) n K ch 4 (by omega) (nI (1 + z)) (nI_nlt (a := 1 + z) (b := 1) (by omega) (by omega)) (nI_le (a := 1 + z) (b := 10) (by omega) (by decide)) ((nuF_j (j := 4) (by omega)).trans hsame)) (cwV 2 hts gL_acts_X8_setNumber rfl rfl rfl mdX8_setNumber ⟨Nat.le_of_ble_eq_true rfl, Nat.le_of_ble_eq_true rfl⟩) hA hL rfl hl rfl (Nat.le_of_ble_eq_true rfl) dL_acts_316 ⟨Nat.le_of_ble_eq_true rfl, Nat.le_of_ble_eq_true rfl⟩) hA hL (fun r_316_2 H locs hr_316_2 hA hL => ?_)
      subst hr_316_2
      refine lv_iload hx hb dL_acts_319 (lv_at hl 0 rfl) ?_
      refine lv_iload hx hb dL_acts_321 (lv_at hl 1 rfl) ?_
      refine lv_icmp_ne (tgt := 331) hx hb dL_acts_323 (by decide) (fun c_323_2 => absurd hsame c_323_2) (fun c_323_2 => ?_)
      refine lv_bipush (v := (-5)) hx hb dL_acts_326 (by decide) ?_
      refine lv_goto (tgt := 333) hx hb dL_acts_328 (by decide) ?_
      refine lv_icmp_ne (tgt := 340) hx hb dL_acts_333 (by decide) (fun h9 => absurd (by decide) h9) (fun _ => ?_)
      refine lv_iconst (v := 1) hx hb dL_acts_336 (by decide) ?_
      refine lv_goto (tgt := 341) hx hb dL_acts_337 (by decide) ?_
      exact en_l (post := ActP T) (B := ActB G cA A o) ((u, v, f, g, L), n, K, ch) hx hb hr hlocks hA ⟨rfl, hn, by exact ⟨T, by omega, hI⟩⟩ hL dL_acts_341
    · skip
      refine lv_aload_n hx hb dL_acts_312 rfl (lv_at hl 3 rfl) ?_
      refine lv_iload_n hx hb dL_acts_313 rfl (lv_at hl 2 rfl) ?_
      refine lv_iload hx hb dL_acts_314 (lv_at hl 1 rfl) ?_
      refine lw_i (rL (rest := []) ⟨hx, hb, hml, hown, hts⟩ (LB_setNumber_ok l G cA A o (u, v, f, g, L) n K ch hB hn 4 (by omega) (nI (1 + z)) (nI_nlt (a := 1 + z) (b := 1) (by omega) (by omega)) (nI_le (a := 1 + z) (b := 10) (by omega) (by decide)) (fun h9 => hsame ((nuF_j (j := 4) (by omega)).symm.trans h9))) (cwV 2 hts gL_acts_X8_setNumber rfl rfl rfl mdX8_setNumber ⟨Nat.le_of_ble_eq_true rfl, Nat.le_of_ble_eq_true rfl⟩) hA hL rfl hl rfl (Nat.le_of_ble_eq_true rfl) dL_acts_316 ⟨Nat.le_of_ble_eq_true rfl, Nat.le_of_ble_eq_true rfl⟩) hA (fun r_316_3 _ H locs hr_316_3 hA hL => ?_)
      replace hL : LB G cA A o (u, (upd v 4 (nI (1 + z))), f, g, L) (recN n) K ch H := hL
      replace hr_316_3 : r_316_3 = v 4 := hr_316_3.trans (nuF_j (j := 4) (by omega))
      subst hr_316_3
      refine lv_iload hx hb dL_acts_319 (lv_at hl 0 rfl) ?_
      refine lv_iload hx hb dL_acts_321 (lv_at hl 1 rfl) ?_
      refine lv_icmp_ne (tgt := 331) hx hb dL_acts_323 (by decide) (fun c_323_3 => ?_) (fun c_323_3 => absurd c_323_3 hsame)
      refine lv_iload hx hb dL_acts_331 (lv_at hl 0 rfl) ?_
      refine lv_icmp_ne (tgt := 340) hx hb dL_acts_333 (by decide) (fun c_333_1 => absurd rfl c_333_1) (fun c_333_1 => ?_)
      refine lv_iconst (v := 1) hx hb dL_acts_336 (by decide) ?_
      refine lv_goto (tgt := 341) hx hb dL_acts_337 (by decide) ?_
      exact en_l (post := ActP T) (B := ActB G cA A o) ((u, (upd v 4 (nI (1 + z))), f, g, L), (recN n), K, ch) hx hb hr hlocks hA ⟨rfl, rec_le hn, by exact ⟨T, by omega, inv_num (fun h9 => absurd h9 (by decide)) hI⟩⟩ hL dL_acts_341
  · skip
    refine lv_iload_n hx hb dL_acts_261 rfl (lv_at hl 0 rfl) ?_
    refine lv_if_ne (tgt := 278) hx hb dL_acts_262 (by decide) (fun c_262 => ?_) (fun c_262 => absurd c_262 (nI_ne0 (by omega) (by omega)))
    refine lv_iload_n hx hb dL_acts_278 rfl (lv_at hl 0 rfl) ?_
    refine lv_iconst (v := 4) hx hb dL_acts_279 (by decide) ?_
    refine lv_icmp_ne (tgt := 295) hx hb dL_acts_280 (by decide) (fun c_280 => ?_) (fun c_280 => absurd c_280 (fun h9 => by have := (nI_eq (a := j) (b := 4) (by omega) (by decide)).mp h9; omega))
    refine lv_iload_n hx hb dL_acts_295 rfl (lv_at hl 3 rfl) ?_
    refine lv_iconst (v := 3) hx hb dL_acts_296 (by decide) ?_
    refine lv_ishr hx hb dL_acts_297 ?_
    refine lv_bipush (v := 6) hx hb dL_acts_298 (by decide) ?_
    refine lr_i (rS (rest := []) ⟨hx, hb, hml, hown, hts⟩ (cL_low_det l G cA (w0 >>> (3 &&& 31)) 6 (by decide) (by decide)) (va_cwS 2 hts gL_acts_L_low rfl rfl rfl mdL_low.2 ⟨Nat.le_of_ble_eq_true rfl, Nat.le_of_ble_eq_true rfl⟩) hA.1 empP empD rfl hl rfl (Nat.le_of_ble_eq_true rfl) dL_acts_300 ⟨Nat.le_of_ble_eq_true rfl, Nat.le_of_ble_eq_true rfl⟩) hA hL (fun r_300 H locs hr_300 hA hL => ?_)
    replace hr_300 : r_300 = nI (lowN (w0 >>> (3 &&& 31)) 6) := hr_300
    rw [ey] at hr_300
    subst hr_300
    refine lv_istore (lv' := [(4, .int (nI y)), (3, .int (nI j)), (0, .ref o), (1, .int w1), (2, .int w0)]) hx hb dL_acts_303 hl (by decide) rfl (fun ls hl => ?_)
    refine lv_aload_n hx hb dL_acts_305 rfl (lv_at hl 2 rfl) ?_
    refine lv_iload_n hx hb dL_acts_306 rfl (lv_at hl 1 rfl) ?_
    refine lr_i (rL (rest := []) ⟨hx, hb, hml, hown, hts⟩ (LB_number l G cA A o (u, v, f, g, L) n K ch (nI j)) (cwV 1 hts gL_acts_X8_number rfl rfl rfl mdX8_number ⟨Nat.le_of_ble_eq_true rfl, Nat.le_of_ble_eq_true rfl⟩) hA hL rfl hl rfl (Nat.le_of_ble_eq_true rfl) dL_acts_307 ⟨Nat.le_of_ble_eq_true rfl, Nat.le_of_ble_eq_true rfl⟩) hA hL (fun r_307_2 H locs hr_307_2 hA hL => ?_)
    replace hr_307_2 : r_307_2 = v j := hr_307_2.trans (nuF_j (j := j) (by omega))
    subst hr_307_2
    refine lv_istore (lv' := [(5, .int (v j)), (4, .int (nI y)), (3, .int (nI j)), (0, .ref o), (1, .int w1), (2, .int w0)]) hx hb dL_acts_310 hl (by decide) rfl (fun ls hl => ?_)
    by_cases hsame : v j = nI y
    · skip
      refine lv_aload_n hx hb dL_acts_312 rfl (lv_at hl 3 rfl) ?_
      refine lv_iload_n hx hb dL_acts_313 rfl (lv_at hl 2 rfl) ?_
      refine lv_iload hx hb dL_acts_314 (lv_at hl 1 rfl) ?_
      refine lr_i (rL (rest := []) ⟨hx, hb, hml, hown, hts⟩ (LB_setNumber_same l G cA A o (u, v, f, g, L) n K ch j (by omega) (nI y) (num_lo hj13 hy) (num_hi hj13 hy) ((nuF_j (j := j) (by omega)).trans hsame)) (cwV 2 hts gL_acts_X8_setNumber rfl rfl rfl mdX8_setNumber ⟨Nat.le_of_ble_eq_true rfl, Nat.le_of_ble_eq_true rfl⟩) hA hL rfl hl rfl (Nat.le_of_ble_eq_true rfl) dL_acts_316 ⟨Nat.le_of_ble_eq_true rfl, Nat.le_of_ble_eq_true rfl⟩) hA hL (fun r_316_4 H locs hr_316_4 hA hL => ?_)
      subst hr_316_4
      refine lv_iload hx hb dL_acts_319 (lv_at hl 0 rfl) ?_
      refine lv_iload hx hb dL_acts_321 (lv_at hl 1 rfl) ?_
      refine lv_icmp_ne (tgt := 331) hx hb dL_acts_323 (by decide) (fun c_323_4 => absurd hsame c_323_4) (fun c_323_4 => ?_)
      refine lv_bipush (v := (-5)) hx hb dL_acts_326 (by decide) ?_
      refine lv_goto (tgt := 333) hx hb dL_acts_328 (by decide) ?_
      refine lv_icmp_ne (tgt := 340) hx hb dL_acts_333 (by decide) (fun h9 => absurd (by decide) h9) (fun _ => ?_)
      refine lv_iconst (v := 1) hx hb dL_acts_336 (by decide) ?_
      refine lv_goto (tgt := 341) hx hb dL_acts_337 (by decide) ?_
      exact en_l (post := ActP T) (B := ActB G cA A o) ((u, v, f, g, L), n, K, ch) hx hb hr hlocks hA ⟨rfl, hn, by exact ⟨T, by omega, hI⟩⟩ hL dL_acts_341
    · skip
      refine lv_aload_n hx hb dL_acts_312 rfl (lv_at hl 3 rfl) ?_
      refine lv_iload_n hx hb dL_acts_313 rfl (lv_at hl 2 rfl) ?_
      refine lv_iload hx hb dL_acts_314 (lv_at hl 1 rfl) ?_
      refine lw_i (rL (rest := []) ⟨hx, hb, hml, hown, hts⟩ (LB_setNumber_ok l G cA A o (u, v, f, g, L) n K ch hB hn j (by omega) (nI y) (num_lo hj13 hy) (num_hi hj13 hy) (fun h9 => hsame ((nuF_j (j := j) (by omega)).symm.trans h9))) (cwV 2 hts gL_acts_X8_setNumber rfl rfl rfl mdX8_setNumber ⟨Nat.le_of_ble_eq_true rfl, Nat.le_of_ble_eq_true rfl⟩) hA hL rfl hl rfl (Nat.le_of_ble_eq_true rfl) dL_acts_316 ⟨Nat.le_of_ble_eq_true rfl, Nat.le_of_ble_eq_true rfl⟩) hA (fun r_316_5 _ H locs hr_316_5 hA hL => ?_)
      replace hL : LB G cA A o (u, (upd v j (nI y)), f, g, L) (recN n) K ch H := hL
      replace hr_316_5 : r_316_5 = v j := hr_316_5.trans (nuF_j (j := j) (by omega))
      subst hr_316_5
      refine lv_iload hx hb dL_acts_319 (lv_at hl 0 rfl) ?_
      refine lv_iload hx hb dL_acts_321 (lv_at hl 1 rfl) ?_
      refine lv_icmp_ne (tgt := 331) hx hb dL_acts_323 (by decide) (fun c_323_5 => ?_) (fun c_323_5 => absurd c_323_5 hsame)
      refine lv_iload hx hb dL_acts_331 (lv_at hl 0 rfl) ?_
      refine lv_icmp_ne (tgt := 340) hx hb dL_acts_333 (by decide) (fun c_333_2 => absurd rfl c_333_2) (fun c_333_2 => ?_)
      refine lv_iconst (v := 1) hx hb dL_acts_336 (by decide) ?_
      refine lv_goto (tgt := 341) hx hb dL_acts_337 (by decide) ?_
      exact en_l (post := ActP T) (B := ActB G cA A o) ((u, (upd v j (nI y)), f, g, L), (recN n), K, ch) hx hb hr hlocks hA ⟨rfl, rec_le hn, by exact ⟨T, by omega, inv_num (fun _ => nI_le (a := y) (b := 5) (by omega) (by decide)) hI⟩⟩ hL dL_acts_341
