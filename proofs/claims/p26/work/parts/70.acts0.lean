/-! acts(o, g, h), case by case (by wip/p26/acts.py) -/
set_option maxHeartbeats 8000000 in
set_option maxRecDepth 100000 in
/-- acts: setSpeed -/
theorem acts_0 {p : Program} {e : Env} {s : Jvm.State} {m : MethodId} {args : Array Value} {below : List Frame} {meth : Method} {c : Code} {ls : Array Slot} {H : Heap} {locs : List Loc} (l : Launch) (G : va_G) (cA : Nat → ClassId) (A : Nat → Prop) (o : Nat) (u : FF) (v : GG) (f : FF) (g L : GG) (n K : Nat) (ch : GG) (T : Nat) (w1 w0 : Int32) (hn : n ≤ 4) (hT : T ≤ 90000) (hI : Inv T (u, v, f, g, L)) (hx : p.tables.exec = Jvm.exec) (hb : c.code = cL_acts) (hml : c.maxLocals = 7) (hr : meth.sig.returnType = some .boolean) (hts : ∀ w ∈ wsL_acts, w.before args s = true) (hown : s.vm.findClass RL = some m.cls) (hlocks : meth.locks = false) (hA : At G cA A s H locs) (hL : LB G cA A o (u, v, f, g, L) n K ch H) (hl : lv_has ls 7 [(0, .ref o), (1, .int w1), (2, .int w0)]) : W p l e ({ frames := 8, cells := 0, slots := 0, locals := 198 } : Room) s m args below meth c H locs 0 0 (MQ below (va_Qi (ActP T) (fun y t => ActB G cA A o y t.heap) A) args s 0 0 A) (F0 m 56 ls []) := by
  have hB : Bo g := hI.2.2.2.1
  obtain ⟨j, hj, ej⟩ : ∃ j, j < 3 ∧ lowN w0 3 = j := ⟨_, lowN_lt _ (by decide), rfl⟩
  obtain ⟨q, hq, eq⟩ : ∃ j, j < 8 ∧ lowN (w0 >>> (2 &&& 31)) 8 = j := ⟨_, lowN_lt _ (by decide), rfl⟩
  refine lv_iload_n hx hb dL_acts_56 rfl (lv_at hl 2 rfl) ?_
  refine lv_iconst (v := 3) hx hb dL_acts_57 (by decide) ?_
  refine lr_i (rS (rest := []) ⟨hx, hb, hml, hown, hts⟩ (cL_low_det l G cA w0 3 (by decide) (by decide)) (va_cwS 2 hts gL_acts_L_low rfl rfl rfl mdL_low.2 ⟨Nat.le_of_ble_eq_true rfl, Nat.le_of_ble_eq_true rfl⟩) hA.1 empP empD rfl hl rfl (Nat.le_of_ble_eq_true rfl) dL_acts_58 ⟨Nat.le_of_ble_eq_true rfl, Nat.le_of_ble_eq_true rfl⟩) hA hL (fun r_58 H locs hr_58 hA hL => ?_)
  replace hr_58 : r_58 = nI (lowN w0 3) := hr_58
  rw [ej] at hr_58
  subst hr_58
  refine lv_istore_n (lv' := [(3, .int (nI j)), (0, .ref o), (1, .int w1), (2, .int w0)]) hx hb dL_acts_61 rfl hl (by decide) rfl (fun ls hl => ?_)
  refine lv_iload_n hx hb dL_acts_62 rfl (lv_at hl 3 rfl) ?_
  refine lv_iconst (v := 2) hx hb dL_acts_63 (by decide) ?_
  refine lv_ishr hx hb dL_acts_64 ?_
  refine lv_bipush (v := 8) hx hb dL_acts_65 (by decide) ?_
  refine lr_i (rS (rest := []) ⟨hx, hb, hml, hown, hts⟩ (cL_low_det l G cA (w0 >>> (2 &&& 31)) 8 (by decide) (by decide)) (va_cwS 2 hts gL_acts_L_low rfl rfl rfl mdL_low.2 ⟨Nat.le_of_ble_eq_true rfl, Nat.le_of_ble_eq_true rfl⟩) hA.1 empP empD rfl hl rfl (Nat.le_of_ble_eq_true rfl) dL_acts_67 ⟨Nat.le_of_ble_eq_true rfl, Nat.le_of_ble_eq_true rfl⟩) hA hL (fun r_67 H locs hr_67 hA hL => ?_)
  replace hr_67 : r_67 = nI (lowN (w0 >>> (2 &&& 31)) 8) := hr_67
  rw [eq] at hr_67
  subst hr_67
  refine lv_istore (lv' := [(4, .int (nI q)), (3, .int (nI j)), (0, .ref o), (1, .int w1), (2, .int w0)]) hx hb dL_acts_70 hl (by decide) rfl (fun ls hl => ?_)
  rcases (show q < 6 ∨ q = 6 ∨ q = 7 by omega) with hq6 | rfl | rfl
  · skip
    refine lv_iload hx hb dL_acts_72 (lv_at hl 0 rfl) ?_
    refine lv_bipush (v := 6) hx hb dL_acts_74 (by decide) ?_
    refine lv_icmp_ge (tgt := 97) hx hb dL_acts_76 (by decide) (fun c_76 => absurd c_76 (nI_ge (a := q) (b := 6) hq6 (by decide))) (fun c_76 => ?_)
    refine lv_aload_n hx hb dL_acts_79 rfl (lv_at hl 2 rfl) ?_
    refine lv_iload_n hx hb dL_acts_80 rfl (lv_at hl 1 rfl) ?_
    refine lr_f (rL (rest := []) ⟨hx, hb, hml, hown, hts⟩ (LB_speed l G cA A o (u, v, f, g, L) n K ch (nI j)) (cwV 1 hts gL_acts_X8_speed rfl rfl rfl mdX8_speed ⟨Nat.le_of_ble_eq_true rfl, Nat.le_of_ble_eq_true rfl⟩) hA hL rfl hl rfl (Nat.le_of_ble_eq_true rfl) dL_acts_81 ⟨Nat.le_of_ble_eq_true rfl, Nat.le_of_ble_eq_true rfl⟩) hA hL (fun r_81 H locs hr_81 hA hL => ?_)
    replace hr_81 : r_81 = spF u (nI j) := hr_81.trans (spd_j hj)
    subst hr_81
    refine lv_iload hx hb dL_acts_84 (lv_at hl 0 rfl) ?_
    refine lr_f (rS (rest := [.float (spF u (nI j))]) ⟨hx, hb, hml, hown, hts⟩ (cL_value_ok l G cA (nI q)) (va_cwS 1 hts gL_acts_L_value rfl rfl rfl mdL_value.2 ⟨Nat.le_of_ble_eq_true rfl, Nat.le_of_ble_eq_true rfl⟩) hA.1 empP empD rfl hl rfl (Nat.le_of_ble_eq_true rfl) dL_acts_86 ⟨Nat.le_of_ble_eq_true rfl, Nat.le_of_ble_eq_true rfl⟩) hA hL (fun r_86 H locs hr_86 hA hL => ?_)
    subst hr_86
    refine lv_fcmp hx hb dL_acts_89 ?_
    refine lv_if_ne (tgt := 97) hx hb dL_acts_90 (by decide) (fun c_90 => ?_) (fun c_90 => ?_)
    · skip
      refine lv_iconst (v := 0) hx hb dL_acts_97 (by decide) ?_
      refine lv_istore (lv' := [(5, .int 0), (4, .int (nI q)), (3, .int (nI j)), (0, .ref o), (1, .int w1), (2, .int w0)]) hx hb dL_acts_98 hl (by decide) rfl (fun ls hl => ?_)
      refine lv_aload_n hx hb dL_acts_100 rfl (lv_at hl 3 rfl) ?_
      refine lv_iload_n hx hb dL_acts_101 rfl (lv_at hl 2 rfl) ?_
      refine lv_iload hx hb dL_acts_102 (lv_at hl 1 rfl) ?_
      refine lr_i (rS (rest := [.int (nI j), .ref o]) ⟨hx, hb, hml, hown, hts⟩ (cL_bits_ok l G cA (nI q)) (va_cwS 1 hts gL_acts_L_bits rfl rfl rfl mdL_bits.2 ⟨Nat.le_of_ble_eq_true rfl, Nat.le_of_ble_eq_true rfl⟩) hA.1 empP empD rfl hl rfl (Nat.le_of_ble_eq_true rfl) dL_acts_104 ⟨Nat.le_of_ble_eq_true rfl, Nat.le_of_ble_eq_true rfl⟩) hA hL (fun r_104 H locs hr_104 hA hL => ?_)
      subst hr_104
      refine lw_i (rL (rest := []) ⟨hx, hb, hml, hown, hts⟩ (LB_setSpeed_ok l G cA A o (u, v, f, g, L) n K ch hB hn j hj (bitF (nI q)) (valF (nI q)) (bit_lo hq6) (bit_hi hq6) (fob_ l G cA hq6) c_90) (cwV 2 hts gL_acts_X8_setSpeed rfl rfl rfl mdX8_setSpeed ⟨Nat.le_of_ble_eq_true rfl, Nat.le_of_ble_eq_true rfl⟩) hA hL rfl hl rfl (Nat.le_of_ble_eq_true rfl) dL_acts_107 ⟨Nat.le_of_ble_eq_true rfl, Nat.le_of_ble_eq_true rfl⟩) hA (fun r_107 _ H locs hr_107 hA hL => ?_)
      replace hL : LB G cA A o ((vf_upd u j (valF (nI q))), v, f, g, L) (recN n) K ch H := hL
      subst hr_107
      refine lv_iload hx hb dL_acts_110 (lv_at hl 1 rfl) ?_
      refine lv_iconst (v := 5) hx hb dL_acts_112 (by decide) ?_
      refine lv_icmp_le (tgt := 121) hx hb dL_acts_113 (by decide) (fun c_113 => ?_) (fun c_113 => absurd (nI_le (a := q) (b := 5) (by omega) (by decide)) c_113)
      refine lv_iload hx hb dL_acts_121 (lv_at hl 0 rfl) ?_
      refine lv_if_eq (tgt := 131) hx hb dL_acts_123 (by decide) (fun _ => ?_) (fun h9 => absurd (by decide) h9)
      refine lv_iconst (v := 1) hx hb dL_acts_131 (by decide) ?_
      refine lv_icmp_ne (tgt := 159) hx hb dL_acts_132 (by decide) (fun h9 => absurd (by decide) h9) (fun _ => ?_)
      refine lv_iload hx hb dL_acts_135 (lv_at hl 1 rfl) ?_
      refine lv_iconst (v := 5) hx hb dL_acts_137 (by decide) ?_
      refine lv_icmp_gt (tgt := 155) hx hb dL_acts_138 (by decide) (fun c_138 => absurd c_138 (nI_nlt (a := 5) (b := q) (by omega) (by decide))) (fun c_138 => ?_)
      refine lv_aload_n hx hb dL_acts_141 rfl (lv_at hl 3 rfl) ?_
      refine lv_iload_n hx hb dL_acts_142 rfl (lv_at hl 2 rfl) ?_
      refine lr_f (rL (rest := []) ⟨hx, hb, hml, hown, hts⟩ (LB_speed l G cA A o ((vf_upd u j (valF (nI q))), v, f, g, L) (recN n) K ch (nI j)) (cwV 1 hts gL_acts_X8_speed rfl rfl rfl mdX8_speed ⟨Nat.le_of_ble_eq_true rfl, Nat.le_of_ble_eq_true rfl⟩) hA hL rfl hl rfl (Nat.le_of_ble_eq_true rfl) dL_acts_143 ⟨Nat.le_of_ble_eq_true rfl, Nat.le_of_ble_eq_true rfl⟩) hA hL (fun r_143 H locs hr_143 hA hL => ?_)
      replace hr_143 : r_143 = valF (nI q) := hr_143.trans ((spd_j hj).trans (spF_put hj))
      subst hr_143
      refine lv_iload hx hb dL_acts_146 (lv_at hl 1 rfl) ?_
      refine lr_f (rS (rest := [.float (valF (nI q))]) ⟨hx, hb, hml, hown, hts⟩ (cL_value_ok l G cA (nI q)) (va_cwS 1 hts gL_acts_L_value rfl rfl rfl mdL_value.2 ⟨Nat.le_of_ble_eq_true rfl, Nat.le_of_ble_eq_true rfl⟩) hA.1 empP empD rfl hl rfl (Nat.le_of_ble_eq_true rfl) dL_acts_148 ⟨Nat.le_of_ble_eq_true rfl, Nat.le_of_ble_eq_true rfl⟩) hA hL (fun r_148 H locs hr_148 hA hL => ?_)
      subst hr_148
      refine lv_fcmp hx hb dL_acts_151 ?_
      refine lv_if_ne (tgt := 159) hx hb dL_acts_152 (by decide) (fun c_152 => absurd (cmp_self (valS hq6).nn _) c_152) (fun c_152 => ?_)
      refine lv_iconst (v := 1) hx hb dL_acts_155 (by decide) ?_
      refine lv_goto (tgt := 160) hx hb dL_acts_156 (by decide) ?_
      exact en_l (post := ActP T) (B := ActB G cA A o) (((vf_upd u j (valF (nI q))), v, f, g, L), (recN n), K, ch) hx hb hr hlocks hA ⟨rfl, rec_le hn, by exact ⟨T, by omega, inv_speed (valS hq6) hI⟩⟩ hL dL_acts_160
    · skip
      refine lv_iconst (v := 1) hx hb dL_acts_93 (by decide) ?_
      refine lv_goto (tgt := 98) hx hb dL_acts_94 (by decide) ?_
      refine lv_istore (lv' := [(5, .int 1), (4, .int (nI q)), (3, .int (nI j)), (0, .ref o), (1, .int w1), (2, .int w0)]) hx hb dL_acts_98 hl (by decide) rfl (fun ls hl => ?_)
      refine lv_aload_n hx hb dL_acts_100 rfl (lv_at hl 3 rfl) ?_
      refine lv_iload_n hx hb dL_acts_101 rfl (lv_at hl 2 rfl) ?_
      refine lv_iload hx hb dL_acts_102 (lv_at hl 1 rfl) ?_
      refine lr_i (rS (rest := [.int (nI j), .ref o]) ⟨hx, hb, hml, hown, hts⟩ (cL_bits_ok l G cA (nI q)) (va_cwS 1 hts gL_acts_L_bits rfl rfl rfl mdL_bits.2 ⟨Nat.le_of_ble_eq_true rfl, Nat.le_of_ble_eq_true rfl⟩) hA.1 empP empD rfl hl rfl (Nat.le_of_ble_eq_true rfl) dL_acts_104 ⟨Nat.le_of_ble_eq_true rfl, Nat.le_of_ble_eq_true rfl⟩) hA hL (fun r_104_1 H locs hr_104_1 hA hL => ?_)
      subst hr_104_1
      refine lr_i (rL (rest := []) ⟨hx, hb, hml, hown, hts⟩ (LB_setSpeed_same l G cA A o (u, v, f, g, L) n K ch j hj (bitF (nI q)) (valF (nI q)) (bit_lo hq6) (bit_hi hq6) (fob_ l G cA hq6) c_90) (cwV 2 hts gL_acts_X8_setSpeed rfl rfl rfl mdX8_setSpeed ⟨Nat.le_of_ble_eq_true rfl, Nat.le_of_ble_eq_true rfl⟩) hA hL rfl hl rfl (Nat.le_of_ble_eq_true rfl) dL_acts_107 ⟨Nat.le_of_ble_eq_true rfl, Nat.le_of_ble_eq_true rfl⟩) hA hL (fun r_107_1 H locs hr_107_1 hA hL => ?_)
      subst hr_107_1
      refine lv_iload hx hb dL_acts_110 (lv_at hl 1 rfl) ?_
      refine lv_iconst (v := 5) hx hb dL_acts_112 (by decide) ?_
      refine lv_icmp_le (tgt := 121) hx hb dL_acts_113 (by decide) (fun c_113_1 => ?_) (fun c_113_1 => absurd (nI_le (a := q) (b := 5) (by omega) (by decide)) c_113_1)
      refine lv_iload hx hb dL_acts_121 (lv_at hl 0 rfl) ?_
      refine lv_if_eq (tgt := 131) hx hb dL_acts_123 (by decide) (fun h9 => absurd h9 (by decide)) (fun _ => ?_)
      refine lv_bipush (v := (-5)) hx hb dL_acts_126 (by decide) ?_
      refine lv_goto (tgt := 132) hx hb dL_acts_128 (by decide) ?_
      refine lv_icmp_ne (tgt := 159) hx hb dL_acts_132 (by decide) (fun h9 => absurd (by decide) h9) (fun _ => ?_)
      refine lv_iload hx hb dL_acts_135 (lv_at hl 1 rfl) ?_
      refine lv_iconst (v := 5) hx hb dL_acts_137 (by decide) ?_
      refine lv_icmp_gt (tgt := 155) hx hb dL_acts_138 (by decide) (fun c_138_1 => absurd c_138_1 (nI_nlt (a := 5) (b := q) (by omega) (by decide))) (fun c_138_1 => ?_)
      refine lv_aload_n hx hb dL_acts_141 rfl (lv_at hl 3 rfl) ?_
      refine lv_iload_n hx hb dL_acts_142 rfl (lv_at hl 2 rfl) ?_
      refine lr_f (rL (rest := []) ⟨hx, hb, hml, hown, hts⟩ (LB_speed l G cA A o (u, v, f, g, L) n K ch (nI j)) (cwV 1 hts gL_acts_X8_speed rfl rfl rfl mdX8_speed ⟨Nat.le_of_ble_eq_true rfl, Nat.le_of_ble_eq_true rfl⟩) hA hL rfl hl rfl (Nat.le_of_ble_eq_true rfl) dL_acts_143 ⟨Nat.le_of_ble_eq_true rfl, Nat.le_of_ble_eq_true rfl⟩) hA hL (fun r_143_1 H locs hr_143_1 hA hL => ?_)
      replace hr_143_1 : r_143_1 = spF u (nI j) := hr_143_1.trans (spd_j hj)
      subst hr_143_1
      refine lv_iload hx hb dL_acts_146 (lv_at hl 1 rfl) ?_
      refine lr_f (rS (rest := [.float (spF u (nI j))]) ⟨hx, hb, hml, hown, hts⟩ (cL_value_ok l G cA (nI q)) (va_cwS 1 hts gL_acts_L_value rfl rfl rfl mdL_value.2 ⟨Nat.le_of_ble_eq_true rfl, Nat.le_of_ble_eq_true rfl⟩) hA.1 empP empD rfl hl rfl (Nat.le_of_ble_eq_true rfl) dL_acts_148 ⟨Nat.le_of_ble_eq_true rfl, Nat.le_of_ble_eq_true rfl⟩) hA hL (fun r_148_1 H locs hr_148_1 hA hL => ?_)
      subst hr_148_1
      refine lv_fcmp hx hb dL_acts_151 ?_
      refine lv_if_ne (tgt := 159) hx hb dL_acts_152 (by decide) (fun c_152_1 => absurd c_90 c_152_1) (fun c_152_1 => ?_)
      refine lv_iconst (v := 1) hx hb dL_acts_155 (by decide) ?_
      refine lv_goto (tgt := 160) hx hb dL_acts_156 (by decide) ?_
      exact en_l (post := ActP T) (B := ActB G cA A o) ((u, v, f, g, L), n, K, ch) hx hb hr hlocks hA ⟨rfl, hn, by exact ⟨T, by omega, hI⟩⟩ hL dL_acts_160
  · skip
    replace hl : lv_has ls 7 [(4, .int 6), (3, .int (nI j)), (0, .ref o), (1, .int w1), (2, .int w0)] := hl
    refine lv_iload hx hb dL_acts_72 (lv_at hl 0 rfl) ?_
    refine lv_bipush (v := 6) hx hb dL_acts_74 (by decide) ?_
    refine lv_icmp_ge (tgt := 97) hx hb dL_acts_76 (by decide) (fun _ => ?_) (fun h9 => absurd (by decide) h9)
    refine lv_iconst (v := 0) hx hb dL_acts_97 (by decide) ?_
    refine lv_istore (lv' := [(5, .int 0), (4, .int 6), (3, .int (nI j)), (0, .ref o), (1, .int w1), (2, .int w0)]) hx hb dL_acts_98 hl (by decide) rfl (fun ls hl => ?_)
    refine lv_aload_n hx hb dL_acts_100 rfl (lv_at hl 3 rfl) ?_
    refine lv_iload_n hx hb dL_acts_101 rfl (lv_at hl 2 rfl) ?_
    refine lv_iload hx hb dL_acts_102 (lv_at hl 1 rfl) ?_
    refine lr_i (rS (rest := [.int (nI j), .ref o]) ⟨hx, hb, hml, hown, hts⟩ (cL_bits_ok l G cA 6) (va_cwS 1 hts gL_acts_L_bits rfl rfl rfl mdL_bits.2 ⟨Nat.le_of_ble_eq_true rfl, Nat.le_of_ble_eq_true rfl⟩) hA.1 empP empD rfl hl rfl (Nat.le_of_ble_eq_true rfl) dL_acts_104 ⟨Nat.le_of_ble_eq_true rfl, Nat.le_of_ble_eq_true rfl⟩) hA hL (fun r_104_2 H locs hr_104_2 hA hL => ?_)
    replace hr_104_2 : r_104_2 = 1112014849 := hr_104_2.trans (by decide +kernel)
    subst hr_104_2
    refine lr_i (rL (rest := []) ⟨hx, hb, hml, hown, hts⟩ (LB_setSpeed_bad_1112014849 l G cA A o (u, v, f, g, L) n K ch j hj) (cwV 2 hts gL_acts_X8_setSpeed rfl rfl rfl mdX8_setSpeed ⟨Nat.le_of_ble_eq_true rfl, Nat.le_of_ble_eq_true rfl⟩) hA hL rfl hl rfl (Nat.le_of_ble_eq_true rfl) dL_acts_107 ⟨Nat.le_of_ble_eq_true rfl, Nat.le_of_ble_eq_true rfl⟩) hA hL (fun r_107_2 H locs hr_107_2 hA hL => ?_)
    subst hr_107_2
    refine lv_iload hx hb dL_acts_110 (lv_at hl 1 rfl) ?_
    refine lv_iconst (v := 5) hx hb dL_acts_112 (by decide) ?_
    refine lv_icmp_le (tgt := 121) hx hb dL_acts_113 (by decide) (fun h9 => absurd h9 (by decide)) (fun _ => ?_)
    refine lv_bipush (v := (-2)) hx hb dL_acts_116 (by decide) ?_
    refine lv_goto (tgt := 132) hx hb dL_acts_118 (by decide) ?_
    refine lv_icmp_ne (tgt := 159) hx hb dL_acts_132 (by decide) (fun h9 => absurd (by decide) h9) (fun _ => ?_)
    refine lv_iload hx hb dL_acts_135 (lv_at hl 1 rfl) ?_
    refine lv_iconst (v := 5) hx hb dL_acts_137 (by decide) ?_
    refine lv_icmp_gt (tgt := 155) hx hb dL_acts_138 (by decide) (fun _ => ?_) (fun h9 => absurd (by decide) h9)
    refine lv_iconst (v := 1) hx hb dL_acts_155 (by decide) ?_
    refine lv_goto (tgt := 160) hx hb dL_acts_156 (by decide) ?_
    exact en_l (post := ActP T) (B := ActB G cA A o) ((u, v, f, g, L), n, K, ch) hx hb hr hlocks hA ⟨rfl, hn, by exact ⟨T, by omega, hI⟩⟩ hL dL_acts_160
  · skip
    replace hl : lv_has ls 7 [(4, .int 7), (3, .int (nI j)), (0, .ref o), (1, .int w1), (2, .int w0)] := hl
    refine lv_iload hx hb dL_acts_72 (lv_at hl 0 rfl) ?_
    refine lv_bipush (v := 6) hx hb dL_acts_74 (by decide) ?_
    refine lv_icmp_ge (tgt := 97) hx hb dL_acts_76 (by decide) (fun _ => ?_) (fun h9 => absurd (by decide) h9)
    refine lv_iconst (v := 0) hx hb dL_acts_97 (by decide) ?_
    refine lv_istore (lv' := [(5, .int 0), (4, .int 7), (3, .int (nI j)), (0, .ref o), (1, .int w1), (2, .int w0)]) hx hb dL_acts_98 hl (by decide) rfl (fun ls hl => ?_)
    refine lv_aload_n hx hb dL_acts_100 rfl (lv_at hl 3 rfl) ?_
    refine lv_iload_n hx hb dL_acts_101 rfl (lv_at hl 2 rfl) ?_
    refine lv_iload hx hb dL_acts_102 (lv_at hl 1 rfl) ?_
    refine lr_i (rS (rest := [.int (nI j), .ref o]) ⟨hx, hb, hml, hown, hts⟩ (cL_bits_ok l G cA 7) (va_cwS 1 hts gL_acts_L_bits rfl rfl rfl mdL_bits.2 ⟨Nat.le_of_ble_eq_true rfl, Nat.le_of_ble_eq_true rfl⟩) hA.1 empP empD rfl hl rfl (Nat.le_of_ble_eq_true rfl) dL_acts_104 ⟨Nat.le_of_ble_eq_true rfl, Nat.le_of_ble_eq_true rfl⟩) hA hL (fun r_104_3 H locs hr_104_3 hA hL => ?_)
    replace hr_104_3 : r_104_3 = 1056964607 := hr_104_3.trans (by decide +kernel)
    subst hr_104_3
    refine lr_i (rL (rest := []) ⟨hx, hb, hml, hown, hts⟩ (LB_setSpeed_bad_1056964607 l G cA A o (u, v, f, g, L) n K ch j hj) (cwV 2 hts gL_acts_X8_setSpeed rfl rfl rfl mdX8_setSpeed ⟨Nat.le_of_ble_eq_true rfl, Nat.le_of_ble_eq_true rfl⟩) hA hL rfl hl rfl (Nat.le_of_ble_eq_true rfl) dL_acts_107 ⟨Nat.le_of_ble_eq_true rfl, Nat.le_of_ble_eq_true rfl⟩) hA hL (fun r_107_3 H locs hr_107_3 hA hL => ?_)
    subst hr_107_3
    refine lv_iload hx hb dL_acts_110 (lv_at hl 1 rfl) ?_
    refine lv_iconst (v := 5) hx hb dL_acts_112 (by decide) ?_
    refine lv_icmp_le (tgt := 121) hx hb dL_acts_113 (by decide) (fun h9 => absurd h9 (by decide)) (fun _ => ?_)
    refine lv_bipush (v := (-2)) hx hb dL_acts_116 (by decide) ?_
    refine lv_goto (tgt := 132) hx hb dL_acts_118 (by decide) ?_
    refine lv_icmp_ne (tgt := 159) hx hb dL_acts_132 (by decide) (fun h9 => absurd (by decide) h9) (fun _ => ?_)
    refine lv_iload hx hb dL_acts_135 (lv_at hl 1 rfl) ?_
    refine lv_iconst (v := 5) hx hb dL_acts_137 (by decide) ?_
    refine lv_icmp_gt (tgt := 155) hx hb dL_acts_138 (by decide) (fun _ => ?_) (fun h9 => absurd (by decide) h9)
    refine lv_iconst (v := 1) hx hb dL_acts_155 (by decide) ?_
    refine lv_goto (tgt := 160) hx hb dL_acts_156 (by decide) ?_
    exact en_l (post := ActP T) (B := ActB G cA A o) ((u, v, f, g, L), n, K, ch) hx hb hr hlocks hA ⟨rfl, hn, by exact ⟨T, by omega, hI⟩⟩ hL dL_acts_160
