/-! acts(o, g, h), case by case (by wip/p26/acts.py) -/
set_option maxHeartbeats 8000000 in
set_option maxRecDepth 100000 in
/-- acts: setWeight -/
theorem acts_1 {p : Program} {e : Env} {s : Jvm.State} {m : MethodId} {args : Array Value} {below : List Frame} {meth : Method} {c : Code} {ls : Array Slot} {H : Heap} {locs : List Loc} (l : Launch) (G : va_G) (cA : Nat → ClassId) (A : Nat → Prop) (o : Nat) (u : FF) (v : GG) (f : FF) (g L : GG) (n K : Nat) (ch : GG) (T : Nat) (w1 w0 : Int32) (hn : n ≤ 4) (hT : T ≤ 90000) (hI : Inv T (u, v, f, g, L)) (hx : p.tables.exec = Jvm.exec) (hb : c.code = cL_acts) (hml : c.maxLocals = 7) (hr : meth.sig.returnType = some .boolean) (hts : ∀ w ∈ wsL_acts, w.before args s = true) (hown : s.vm.findClass RL = some m.cls) (hlocks : meth.locks = false) (hA : At G cA A s H locs) (hL : LB G cA A o (u, v, f, g, L) n K ch H) (hl : lv_has ls 7 [(0, .ref o), (1, .int w1), (2, .int w0)]) : W p l e ({ frames := 8, cells := 0, slots := 0, locals := 198 } : Room) s m args below meth c H locs 0 0 (MQ below (va_Qi (ActP T) (fun y t => ActB G cA A o y t.heap) A) args s 0 0 A) (F0 m 161 ls []) := by
  have hB : Bo g := hI.2.2.2.1
  obtain ⟨j, hj, ej⟩ : ∃ j, j < 4 ∧ lowN w0 4 = j := ⟨_, lowN_lt _ (by decide), rfl⟩
  obtain ⟨q, hq, eq⟩ : ∃ j, j < 5 ∧ lowN (w0 >>> (2 &&& 31)) 5 = j := ⟨_, lowN_lt _ (by decide), rfl⟩
  refine lv_iload_n hx hb dL_acts_161 rfl (lv_at hl 2 rfl) ?_
  refine lv_iconst (v := 4) hx hb dL_acts_162 (by decide) ?_
  refine lr_i (rS (rest := []) ⟨hx, hb, hml, hown, hts⟩ (cL_low_det l G cA w0 4 (by decide) (by decide)) (va_cwS 2 hts gL_acts_L_low rfl rfl rfl mdL_low.2 ⟨Nat.le_of_ble_eq_true rfl, Nat.le_of_ble_eq_true rfl⟩) hA.1 empP empD rfl hl rfl (Nat.le_of_ble_eq_true rfl) dL_acts_163 ⟨Nat.le_of_ble_eq_true rfl, Nat.le_of_ble_eq_true rfl⟩) hA hL (fun r_163 H locs hr_163 hA hL => ?_)
  replace hr_163 : r_163 = nI (lowN w0 4) := hr_163
  rw [ej] at hr_163
  subst hr_163
  refine lv_istore_n (lv' := [(3, .int (nI j)), (0, .ref o), (1, .int w1), (2, .int w0)]) hx hb dL_acts_166 rfl hl (by decide) rfl (fun ls hl => ?_)
  refine lv_iload_n hx hb dL_acts_167 rfl (lv_at hl 3 rfl) ?_
  refine lv_iconst (v := 2) hx hb dL_acts_168 (by decide) ?_
  refine lv_ishr hx hb dL_acts_169 ?_
  refine lv_iconst (v := 5) hx hb dL_acts_170 (by decide) ?_
  refine lr_i (rS (rest := []) ⟨hx, hb, hml, hown, hts⟩ (cL_low_det l G cA (w0 >>> (2 &&& 31)) 5 (by decide) (by decide)) (va_cwS 2 hts gL_acts_L_low rfl rfl rfl mdL_low.2 ⟨Nat.le_of_ble_eq_true rfl, Nat.le_of_ble_eq_true rfl⟩) hA.1 empP empD rfl hl rfl (Nat.le_of_ble_eq_true rfl) dL_acts_171 ⟨Nat.le_of_ble_eq_true rfl, Nat.le_of_ble_eq_true rfl⟩) hA hL (fun r_171 H locs hr_171 hA hL => ?_)
  replace hr_171 : r_171 = nI (lowN (w0 >>> (2 &&& 31)) 5) := hr_171
  rw [eq] at hr_171
  subst hr_171
  refine lv_istore (lv' := [(4, .int (nI q)), (3, .int (nI j)), (0, .ref o), (1, .int w1), (2, .int w0)]) hx hb dL_acts_174 hl (by decide) rfl (fun ls hl => ?_)
  rcases (show q ≠ 3 ∨ q = 3 by omega) with hq3 | rfl
  · skip
    have hq6 : q < 6 := by omega
    refine lv_iload hx hb dL_acts_176 (lv_at hl 0 rfl) ?_
    refine lv_iconst (v := 3) hx hb dL_acts_178 (by decide) ?_
    refine lv_icmp_eq (tgt := 186) hx hb dL_acts_179 (by decide) (fun c_179 => absurd c_179 (fun h9 => hq3 ((nI_eq (a := q) (b := 3) (by omega) (by decide)).mp h9))) (fun c_179 => ?_)
    refine lv_iconst (v := 1) hx hb dL_acts_182 (by decide) ?_
    refine lv_goto (tgt := 187) hx hb dL_acts_183 (by decide) ?_
    refine lv_istore (lv' := [(5, .int 1), (4, .int (nI q)), (3, .int (nI j)), (0, .ref o), (1, .int w1), (2, .int w0)]) hx hb dL_acts_187 hl (by decide) rfl (fun ls hl => ?_)
    refine lv_iload hx hb dL_acts_189 (lv_at hl 0 rfl) ?_
    refine lv_if_eq (tgt := 212) hx hb dL_acts_191 (by decide) (fun h9 => absurd h9 (by decide)) (fun _ => ?_)
    refine lv_aload_n hx hb dL_acts_194 rfl (lv_at hl 3 rfl) ?_
    refine lv_iload_n hx hb dL_acts_195 rfl (lv_at hl 2 rfl) ?_
    refine lr_f (rL (rest := []) ⟨hx, hb, hml, hown, hts⟩ (LB_weight l G cA A o (u, v, f, g, L) n K ch (nI j)) (cwV 1 hts gL_acts_X8_weight rfl rfl rfl mdX8_weight ⟨Nat.le_of_ble_eq_true rfl, Nat.le_of_ble_eq_true rfl⟩) hA hL rfl hl rfl (Nat.le_of_ble_eq_true rfl) dL_acts_196 ⟨Nat.le_of_ble_eq_true rfl, Nat.le_of_ble_eq_true rfl⟩) hA hL (fun r_196 H locs hr_196 hA hL => ?_)
    replace hr_196 : r_196 = weF u (nI j) := hr_196
    subst hr_196
    refine lv_iload hx hb dL_acts_199 (lv_at hl 1 rfl) ?_
    refine lr_f (rS (rest := [.float (weF u (nI j))]) ⟨hx, hb, hml, hown, hts⟩ (cL_value_ok l G cA (nI q)) (va_cwS 1 hts gL_acts_L_value rfl rfl rfl mdL_value.2 ⟨Nat.le_of_ble_eq_true rfl, Nat.le_of_ble_eq_true rfl⟩) hA.1 empP empD rfl hl rfl (Nat.le_of_ble_eq_true rfl) dL_acts_201 ⟨Nat.le_of_ble_eq_true rfl, Nat.le_of_ble_eq_true rfl⟩) hA hL (fun r_201 H locs hr_201 hA hL => ?_)
    subst hr_201
    refine lv_fcmp hx hb dL_acts_204 ?_
    refine lv_if_ne (tgt := 212) hx hb dL_acts_205 (by decide) (fun c_205 => ?_) (fun c_205 => ?_)
    · skip
      refine lv_iconst (v := 0) hx hb dL_acts_212 (by decide) ?_
      refine lv_istore (lv' := [(6, .int 0), (5, .int 1), (4, .int (nI q)), (3, .int (nI j)), (0, .ref o), (1, .int w1), (2, .int w0)]) hx hb dL_acts_213 hl (by decide) rfl (fun ls hl => ?_)
      refine lv_aload_n hx hb dL_acts_215 rfl (lv_at hl 4 rfl) ?_
      refine lv_iload_n hx hb dL_acts_216 rfl (lv_at hl 3 rfl) ?_
      refine lv_iload hx hb dL_acts_217 (lv_at hl 2 rfl) ?_
      refine lr_i (rS (rest := [.int (nI j), .ref o]) ⟨hx, hb, hml, hown, hts⟩ (cL_bits_ok l G cA (nI q)) (va_cwS 1 hts gL_acts_L_bits rfl rfl rfl mdL_bits.2 ⟨Nat.le_of_ble_eq_true rfl, Nat.le_of_ble_eq_true rfl⟩) hA.1 empP empD rfl hl rfl (Nat.le_of_ble_eq_true rfl) dL_acts_219 ⟨Nat.le_of_ble_eq_true rfl, Nat.le_of_ble_eq_true rfl⟩) hA hL (fun r_219 H locs hr_219 hA hL => ?_)
      subst hr_219
      refine lw_i (rL (rest := []) ⟨hx, hb, hml, hown, hts⟩ (LB_setWeight_ok l G cA A o (u, v, f, g, L) n K ch hB hn j hj (bitF (nI q)) (valF (nI q)) (wei_lo hq) (wei_hi hq hq3) (fob_ l G cA hq6) c_205) (cwV 2 hts gL_acts_X8_setWeight rfl rfl rfl mdX8_setWeight ⟨Nat.le_of_ble_eq_true rfl, Nat.le_of_ble_eq_true rfl⟩) hA hL rfl hl rfl (Nat.le_of_ble_eq_true rfl) dL_acts_222 ⟨Nat.le_of_ble_eq_true rfl, Nat.le_of_ble_eq_true rfl⟩) hA (fun r_222 _ H locs hr_222 hA hL => ?_)
      replace hL : LB G cA A o ((vf_upd u (3 + j) (valF (nI q))), v, f, g, L) (recN n) K ch H := hL
      subst hr_222
      refine lv_iload hx hb dL_acts_225 (lv_at hl 1 rfl) ?_
      refine lv_if_ne (tgt := 235) hx hb dL_acts_227 (by decide) (fun _ => ?_) (fun h9 => absurd h9 (by decide))
      refine lv_iload hx hb dL_acts_235 (lv_at hl 0 rfl) ?_
      refine lv_if_eq (tgt := 245) hx hb dL_acts_237 (by decide) (fun _ => ?_) (fun h9 => absurd (by decide) h9)
      refine lv_iconst (v := 1) hx hb dL_acts_245 (by decide) ?_
      refine lv_icmp_ne (tgt := 253) hx hb dL_acts_246 (by decide) (fun h9 => absurd (by decide) h9) (fun _ => ?_)
      refine lv_iconst (v := 1) hx hb dL_acts_249 (by decide) ?_
      refine lv_goto (tgt := 254) hx hb dL_acts_250 (by decide) ?_
      exact en_l (post := ActP T) (B := ActB G cA A o) (((vf_upd u (3 + j) (valF (nI q))), v, f, g, L), (recN n), K, ch) hx hb hr hlocks hA ⟨rfl, rec_le hn, by exact ⟨T, by omega, inv_speed (valS hq6) hI⟩⟩ hL dL_acts_254
    · skip
      refine lv_iconst (v := 1) hx hb dL_acts_208 (by decide) ?_
      refine lv_goto (tgt := 213) hx hb dL_acts_209 (by decide) ?_
      refine lv_istore (lv' := [(6, .int 1), (5, .int 1), (4, .int (nI q)), (3, .int (nI j)), (0, .ref o), (1, .int w1), (2, .int w0)]) hx hb dL_acts_213 hl (by decide) rfl (fun ls hl => ?_)
      refine lv_aload_n hx hb dL_acts_215 rfl (lv_at hl 4 rfl) ?_
      refine lv_iload_n hx hb dL_acts_216 rfl (lv_at hl 3 rfl) ?_
      refine lv_iload hx hb dL_acts_217 (lv_at hl 2 rfl) ?_
      refine lr_i (rS (rest := [.int (nI j), .ref o]) ⟨hx, hb, hml, hown, hts⟩ (cL_bits_ok l G cA (nI q)) (va_cwS 1 hts gL_acts_L_bits rfl rfl rfl mdL_bits.2 ⟨Nat.le_of_ble_eq_true rfl, Nat.le_of_ble_eq_true rfl⟩) hA.1 empP empD rfl hl rfl (Nat.le_of_ble_eq_true rfl) dL_acts_219 ⟨Nat.le_of_ble_eq_true rfl, Nat.le_of_ble_eq_true rfl⟩) hA hL (fun r_219_1 H locs hr_219_1 hA hL => ?_)
      subst hr_219_1
      refine lr_i (rL (rest := []) ⟨hx, hb, hml, hown, hts⟩ (LB_setWeight_same l G cA A o (u, v, f, g, L) n K ch j hj (bitF (nI q)) (valF (nI q)) (wei_lo hq) (wei_hi hq hq3) (fob_ l G cA hq6) c_205) (cwV 2 hts gL_acts_X8_setWeight rfl rfl rfl mdX8_setWeight ⟨Nat.le_of_ble_eq_true rfl, Nat.le_of_ble_eq_true rfl⟩) hA hL rfl hl rfl (Nat.le_of_ble_eq_true rfl) dL_acts_222 ⟨Nat.le_of_ble_eq_true rfl, Nat.le_of_ble_eq_true rfl⟩) hA hL (fun r_222_1 H locs hr_222_1 hA hL => ?_)
      subst hr_222_1
      refine lv_iload hx hb dL_acts_225 (lv_at hl 1 rfl) ?_
      refine lv_if_ne (tgt := 235) hx hb dL_acts_227 (by decide) (fun _ => ?_) (fun h9 => absurd h9 (by decide))
      refine lv_iload hx hb dL_acts_235 (lv_at hl 0 rfl) ?_
      refine lv_if_eq (tgt := 245) hx hb dL_acts_237 (by decide) (fun h9 => absurd h9 (by decide)) (fun _ => ?_)
      refine lv_bipush (v := (-5)) hx hb dL_acts_240 (by decide) ?_
      refine lv_goto (tgt := 246) hx hb dL_acts_242 (by decide) ?_
      refine lv_icmp_ne (tgt := 253) hx hb dL_acts_246 (by decide) (fun h9 => absurd (by decide) h9) (fun _ => ?_)
      refine lv_iconst (v := 1) hx hb dL_acts_249 (by decide) ?_
      refine lv_goto (tgt := 254) hx hb dL_acts_250 (by decide) ?_
      exact en_l (post := ActP T) (B := ActB G cA A o) ((u, v, f, g, L), n, K, ch) hx hb hr hlocks hA ⟨rfl, hn, by exact ⟨T, by omega, hI⟩⟩ hL dL_acts_254
  · skip
    replace hl : lv_has ls 7 [(4, .int 3), (3, .int (nI j)), (0, .ref o), (1, .int w1), (2, .int w0)] := hl
    refine lv_iload hx hb dL_acts_176 (lv_at hl 0 rfl) ?_
    refine lv_iconst (v := 3) hx hb dL_acts_178 (by decide) ?_
    refine lv_icmp_eq (tgt := 186) hx hb dL_acts_179 (by decide) (fun _ => ?_) (fun h9 => absurd (by decide) h9)
    refine lv_iconst (v := 0) hx hb dL_acts_186 (by decide) ?_
    refine lv_istore (lv' := [(5, .int 0), (4, .int 3), (3, .int (nI j)), (0, .ref o), (1, .int w1), (2, .int w0)]) hx hb dL_acts_187 hl (by decide) rfl (fun ls hl => ?_)
    refine lv_iload hx hb dL_acts_189 (lv_at hl 0 rfl) ?_
    refine lv_if_eq (tgt := 212) hx hb dL_acts_191 (by decide) (fun _ => ?_) (fun h9 => absurd (by decide) h9)
    refine lv_iconst (v := 0) hx hb dL_acts_212 (by decide) ?_
    refine lv_istore (lv' := [(6, .int 0), (5, .int 0), (4, .int 3), (3, .int (nI j)), (0, .ref o), (1, .int w1), (2, .int w0)]) hx hb dL_acts_213 hl (by decide) rfl (fun ls hl => ?_)
    refine lv_aload_n hx hb dL_acts_215 rfl (lv_at hl 4 rfl) ?_
    refine lv_iload_n hx hb dL_acts_216 rfl (lv_at hl 3 rfl) ?_
    refine lv_iload hx hb dL_acts_217 (lv_at hl 2 rfl) ?_
    refine lr_i (rS (rest := [.int (nI j), .ref o]) ⟨hx, hb, hml, hown, hts⟩ (cL_bits_ok l G cA 3) (va_cwS 1 hts gL_acts_L_bits rfl rfl rfl mdL_bits.2 ⟨Nat.le_of_ble_eq_true rfl, Nat.le_of_ble_eq_true rfl⟩) hA.1 empP empD rfl hl rfl (Nat.le_of_ble_eq_true rfl) dL_acts_219 ⟨Nat.le_of_ble_eq_true rfl, Nat.le_of_ble_eq_true rfl⟩) hA hL (fun r_219_2 H locs hr_219_2 hA hL => ?_)
    replace hr_219_2 : r_219_2 = 1092616192 := hr_219_2.trans (by decide +kernel)
    subst hr_219_2
    refine lr_i (rL (rest := []) ⟨hx, hb, hml, hown, hts⟩ (LB_setWeight_bad_1092616192 l G cA A o (u, v, f, g, L) n K ch j hj) (cwV 2 hts gL_acts_X8_setWeight rfl rfl rfl mdX8_setWeight ⟨Nat.le_of_ble_eq_true rfl, Nat.le_of_ble_eq_true rfl⟩) hA hL rfl hl rfl (Nat.le_of_ble_eq_true rfl) dL_acts_222 ⟨Nat.le_of_ble_eq_true rfl, Nat.le_of_ble_eq_true rfl⟩) hA hL (fun r_222_2 H locs hr_222_2 hA hL => ?_)
    subst hr_222_2
    refine lv_iload hx hb dL_acts_225 (lv_at hl 1 rfl) ?_
    refine lv_if_ne (tgt := 235) hx hb dL_acts_227 (by decide) (fun h9 => absurd (by decide) h9) (fun _ => ?_)
    refine lv_bipush (v := (-2)) hx hb dL_acts_230 (by decide) ?_
    refine lv_goto (tgt := 246) hx hb dL_acts_232 (by decide) ?_
    refine lv_icmp_ne (tgt := 253) hx hb dL_acts_246 (by decide) (fun h9 => absurd (by decide) h9) (fun _ => ?_)
    refine lv_iconst (v := 1) hx hb dL_acts_249 (by decide) ?_
    refine lv_goto (tgt := 254) hx hb dL_acts_250 (by decide) ?_
    exact en_l (post := ActP T) (B := ActB G cA A o) ((u, v, f, g, L), n, K, ch) hx hb hr hlocks hA ⟨rfl, hn, by exact ⟨T, by omega, hI⟩⟩ hL dL_acts_254
