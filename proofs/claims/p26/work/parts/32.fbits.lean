/-! floatOfBits, at the bits that the law asks for (by wip/p26/lb2.py) -/
set_option maxHeartbeats 4000000 in
set_option maxRecDepth 100000 in
/-- floatOfBits(1056964608) -/
theorem cX8_floatOfBits_1056964608 (l : Launch) (G : va_G) (cA : Nat → ClassId)  : Rf l yX8_floatOfBits wsX8_floatOfBits ({ frames := 0, cells := 0, slots := 0, locals := 0 } : Room) G cA [.int 1056964608] [] (fun r => r = 1056964608) := by
  refine ofW2 (cc := cX8_floatOfBits) (maxL := 6) (ret := (some .float)) (own := RX8) (by decide) rfl rfl (Nat.le_of_ble_eq_true rfl) rfl ?_
  intro p e s m below meth c ls hx hb hml hr hts hown hlocks hv hl
  obtain ⟨hP, hE, hD0⟩ := hv
  have hK := hE.1
  have hD := hD0
  generalize hH0 : s.heap = H at hP ⊢
  have hS : va_S (fun _ => False) s.heap H [] := hH0 ▸ va_S.rf
  generalize ([] : List Loc) = locs at hS ⊢
  clear hH0 hD0
  replace hl : lv_has ls 6 [(0, .int 1056964608)] := hl
  refine lv_iload_n hx hb dX8_floatOfBits_0 rfl (lv_at hl 0 rfl) ?_
  refine lv_bipush (v := 23) hx hb dX8_floatOfBits_1 (by decide) ?_
  refine lv_iushr (v := 126) hx hb dX8_floatOfBits_3 (by decide) ?_
  refine lv_istore_n (lv' := [(1, .int 126), (0, .int 1056964608)]) hx hb dX8_floatOfBits_4 rfl hl (by decide) rfl (fun ls hl => ?_)
  refine lv_iload_n hx hb dX8_floatOfBits_5 rfl (lv_at hl 1 rfl) ?_
  refine lv_ldc hx hb hown (hts (.constant RX8 246 (8388607)) (by decide +kernel)) dX8_floatOfBits_6 ?_
  refine lv_iand hx hb dX8_floatOfBits_8 ?_
  refine W.eq (g2 := F0 m 9 ls [.int 0]) rfl ?_
  refine lv_istore_n (lv' := [(2, .int 0), (1, .int 126), (0, .int 1056964608)]) hx hb dX8_floatOfBits_9 rfl hl (by decide) rfl (fun ls hl => ?_)
  refine lv_iload_n hx hb dX8_floatOfBits_10 rfl (lv_at hl 1 rfl) ?_
  refine lv_if_ne (tgt := 18) hx hb dX8_floatOfBits_11 (by decide) (fun _ => ?_) (fun h9 => absurd h9 (by decide))
  refine lv_iconst (v := 0) hx hb dX8_floatOfBits_18 (by decide) ?_
  refine lv_istore_n (lv' := [(3, .int 0), (2, .int 0), (1, .int 126), (0, .int 1056964608)]) hx hb dX8_floatOfBits_19 rfl hl (by decide) rfl (fun ls hl => ?_)
  refine lv_iload_n hx hb dX8_floatOfBits_20 rfl (lv_at hl 0 rfl) ?_
  refine lv_if_eq (tgt := 28) hx hb dX8_floatOfBits_21 (by decide) (fun _ => ?_) (fun h9 => absurd (by decide) h9)
  refine lv_iload_n hx hb dX8_floatOfBits_28 rfl (lv_at hl 1 rfl) ?_
  refine lv_ldc hx hb hown (hts (.constant RX8 247 (8388608)) (by decide +kernel)) dX8_floatOfBits_29 ?_
  refine lv_ior hx hb dX8_floatOfBits_31 ?_
  refine W.eq (g2 := F0 m 32 ls [.int 8388608]) rfl ?_
  refine lv_i2f hx hb dX8_floatOfBits_32 ?_
  refine W.eq (g2 := F0 m 33 ls [.float 1258291200]) (by rw [show FP.i2f 8388608 = 1258291200 from by decide +kernel]) ?_
  refine lv_fstore (lv' := [(4, .float 1258291200), (3, .int 0), (2, .int 0), (1, .int 126), (0, .int 1056964608)]) hx hb dX8_floatOfBits_33 hl (by decide) rfl (fun ls hl => ?_)
  refine lv_iload_n hx hb dX8_floatOfBits_35 rfl (lv_at hl 1 rfl) ?_
  refine lv_if_eq (tgt := 45) hx hb dX8_floatOfBits_36 (by decide) (fun _ => ?_) (fun h9 => absurd (by decide) h9)
  refine lv_sipush (v := 150) hx hb dX8_floatOfBits_45 (by decide) ?_
  refine lv_iload_n hx hb dX8_floatOfBits_48 rfl (lv_at hl 3 rfl) ?_
  refine lv_isub hx hb dX8_floatOfBits_49 ?_
  refine W.eq (g2 := F0 m 50 ls [.int 24]) rfl ?_
  refine lv_istore (lv' := [(5, .int 24), (4, .float 1258291200), (3, .int 0), (2, .int 0), (1, .int 126), (0, .int 1056964608)]) hx hb dX8_floatOfBits_50 hl (by decide) rfl (fun ls hl => ?_)
  refine lv_iload hx hb dX8_floatOfBits_52 (lv_at hl 0 rfl) ?_
  refine lv_if_le (tgt := 70) hx hb dX8_floatOfBits_54 (by decide) (fun h9 => absurd h9 (by decide)) (fun _ => ?_)
  refine lv_fload hx hb dX8_floatOfBits_57 (lv_at hl 1 rfl) ?_
  refine lv_ldcf hx hb hown (hts (.constantFloat RX8 248 (1056964608)) (by decide +kernel)) dX8_floatOfBits_59 ?_
  refine lv_fmul hx hb dX8_floatOfBits_61 (by unfold vf_n32; decide +kernel) ?_
  refine W.eq (g2 := F0 m 62 ls [.float 1249902592]) (by rw [show FP.fmul 1258291200 1056964608 = 1249902592 from by decide +kernel]) ?_
  refine lv_fstore (lv' := [(4, .float 1249902592), (5, .int 24), (3, .int 0), (2, .int 0), (1, .int 126), (0, .int 1056964608)]) hx hb dX8_floatOfBits_62 hl (by decide) rfl (fun ls hl => ?_)
  refine lv_iinc (v := 23) (lv' := [(5, .int 23), (4, .float 1249902592), (3, .int 0), (2, .int 0), (1, .int 126), (0, .int 1056964608)]) hx hb dX8_floatOfBits_64 hl (k := 1) rfl (by decide) (by decide) rfl (fun ls hl => ?_)
  refine lv_goto (tgt := 52) hx hb dX8_floatOfBits_67 (by decide) ?_
  refine lv_iload hx hb dX8_floatOfBits_52 (lv_at hl 0 rfl) ?_
  refine lv_if_le (tgt := 70) hx hb dX8_floatOfBits_54 (by decide) (fun h9 => absurd h9 (by decide)) (fun _ => ?_)
  refine lv_fload hx hb dX8_floatOfBits_57 (lv_at hl 1 rfl) ?_
  refine lv_ldcf hx hb hown (hts (.constantFloat RX8 248 (1056964608)) (by decide +kernel)) dX8_floatOfBits_59 ?_
  refine lv_fmul hx hb dX8_floatOfBits_61 (by unfold vf_n32; decide +kernel) ?_
  refine W.eq (g2 := F0 m 62 ls [.float 1241513984]) (by rw [show FP.fmul 1249902592 1056964608 = 1241513984 from by decide +kernel]) ?_
  refine lv_fstore (lv' := [(4, .float 1241513984), (5, .int 23), (3, .int 0), (2, .int 0), (1, .int 126), (0, .int 1056964608)]) hx hb dX8_floatOfBits_62 hl (by decide) rfl (fun ls hl => ?_)
  refine lv_iinc (v := 22) (lv' := [(5, .int 22), (4, .float 1241513984), (3, .int 0), (2, .int 0), (1, .int 126), (0, .int 1056964608)]) hx hb dX8_floatOfBits_64 hl (k := 1) rfl (by decide) (by decide) rfl (fun ls hl => ?_)
  refine lv_goto (tgt := 52) hx hb dX8_floatOfBits_67 (by decide) ?_
  refine lv_iload hx hb dX8_floatOfBits_52 (lv_at hl 0 rfl) ?_
  refine lv_if_le (tgt := 70) hx hb dX8_floatOfBits_54 (by decide) (fun h9 => absurd h9 (by decide)) (fun _ => ?_)
  refine lv_fload hx hb dX8_floatOfBits_57 (lv_at hl 1 rfl) ?_
  refine lv_ldcf hx hb hown (hts (.constantFloat RX8 248 (1056964608)) (by decide +kernel)) dX8_floatOfBits_59 ?_
  refine lv_fmul hx hb dX8_floatOfBits_61 (by unfold vf_n32; decide +kernel) ?_
  refine W.eq (g2 := F0 m 62 ls [.float 1233125376]) (by rw [show FP.fmul 1241513984 1056964608 = 1233125376 from by decide +kernel]) ?_
  refine lv_fstore (lv' := [(4, .float 1233125376), (5, .int 22), (3, .int 0), (2, .int 0), (1, .int 126), (0, .int 1056964608)]) hx hb dX8_floatOfBits_62 hl (by decide) rfl (fun ls hl => ?_)
  refine lv_iinc (v := 21) (lv' := [(5, .int 21), (4, .float 1233125376), (3, .int 0), (2, .int 0), (1, .int 126), (0, .int 1056964608)]) hx hb dX8_floatOfBits_64 hl (k := 1) rfl (by decide) (by decide) rfl (fun ls hl => ?_)
  refine lv_goto (tgt := 52) hx hb dX8_floatOfBits_67 (by decide) ?_
  refine lv_iload hx hb dX8_floatOfBits_52 (lv_at hl 0 rfl) ?_
  refine lv_if_le (tgt := 70) hx hb dX8_floatOfBits_54 (by decide) (fun h9 => absurd h9 (by decide)) (fun _ => ?_)
  refine lv_fload hx hb dX8_floatOfBits_57 (lv_at hl 1 rfl) ?_
  refine lv_ldcf hx hb hown (hts (.constantFloat RX8 248 (1056964608)) (by decide +kernel)) dX8_floatOfBits_59 ?_
  refine lv_fmul hx hb dX8_floatOfBits_61 (by unfold vf_n32; decide +kernel) ?_
  refine W.eq (g2 := F0 m 62 ls [.float 1224736768]) (by rw [show FP.fmul 1233125376 1056964608 = 1224736768 from by decide +kernel]) ?_
  refine lv_fstore (lv' := [(4, .float 1224736768), (5, .int 21), (3, .int 0), (2, .int 0), (1, .int 126), (0, .int 1056964608)]) hx hb dX8_floatOfBits_62 hl (by decide) rfl (fun ls hl => ?_)
  refine lv_iinc (v := 20) (lv' := [(5, .int 20), (4, .float 1224736768), (3, .int 0), (2, .int 0), (1, .int 126), (0, .int 1056964608)]) hx hb dX8_floatOfBits_64 hl (k := 1) rfl (by decide) (by decide) rfl (fun ls hl => ?_)
  refine lv_goto (tgt := 52) hx hb dX8_floatOfBits_67 (by decide) ?_
  refine lv_iload hx hb dX8_floatOfBits_52 (lv_at hl 0 rfl) ?_
  refine lv_if_le (tgt := 70) hx hb dX8_floatOfBits_54 (by decide) (fun h9 => absurd h9 (by decide)) (fun _ => ?_)
  refine lv_fload hx hb dX8_floatOfBits_57 (lv_at hl 1 rfl) ?_
  refine lv_ldcf hx hb hown (hts (.constantFloat RX8 248 (1056964608)) (by decide +kernel)) dX8_floatOfBits_59 ?_
  refine lv_fmul hx hb dX8_floatOfBits_61 (by unfold vf_n32; decide +kernel) ?_
  refine W.eq (g2 := F0 m 62 ls [.float 1216348160]) (by rw [show FP.fmul 1224736768 1056964608 = 1216348160 from by decide +kernel]) ?_
  refine lv_fstore (lv' := [(4, .float 1216348160), (5, .int 20), (3, .int 0), (2, .int 0), (1, .int 126), (0, .int 1056964608)]) hx hb dX8_floatOfBits_62 hl (by decide) rfl (fun ls hl => ?_)
  refine lv_iinc (v := 19) (lv' := [(5, .int 19), (4, .float 1216348160), (3, .int 0), (2, .int 0), (1, .int 126), (0, .int 1056964608)]) hx hb dX8_floatOfBits_64 hl (k := 1) rfl (by decide) (by decide) rfl (fun ls hl => ?_)
  refine lv_goto (tgt := 52) hx hb dX8_floatOfBits_67 (by decide) ?_
  refine lv_iload hx hb dX8_floatOfBits_52 (lv_at hl 0 rfl) ?_
  refine lv_if_le (tgt := 70) hx hb dX8_floatOfBits_54 (by decide) (fun h9 => absurd h9 (by decide)) (fun _ => ?_)
  refine lv_fload hx hb dX8_floatOfBits_57 (lv_at hl 1 rfl) ?_
  refine lv_ldcf hx hb hown (hts (.constantFloat RX8 248 (1056964608)) (by decide +kernel)) dX8_floatOfBits_59 ?_
  refine lv_fmul hx hb dX8_floatOfBits_61 (by unfold vf_n32; decide +kernel) ?_
  refine W.eq (g2 := F0 m 62 ls [.float 1207959552]) (by rw [show FP.fmul 1216348160 1056964608 = 1207959552 from by decide +kernel]) ?_
  refine lv_fstore (lv' := [(4, .float 1207959552), (5, .int 19), (3, .int 0), (2, .int 0), (1, .int 126), (0, .int 1056964608)]) hx hb dX8_floatOfBits_62 hl (by decide) rfl (fun ls hl => ?_)
  refine lv_iinc (v := 18) (lv' := [(5, .int 18), (4, .float 1207959552), (3, .int 0), (2, .int 0), (1, .int 126), (0, .int 1056964608)]) hx hb dX8_floatOfBits_64 hl (k := 1) rfl (by decide) (by decide) rfl (fun ls hl => ?_)
  refine lv_goto (tgt := 52) hx hb dX8_floatOfBits_67 (by decide) ?_
  refine lv_iload hx hb dX8_floatOfBits_52 (lv_at hl 0 rfl) ?_
  refine lv_if_le (tgt := 70) hx hb dX8_floatOfBits_54 (by decide) (fun h9 => absurd h9 (by decide)) (fun _ => ?_)
  refine lv_fload hx hb dX8_floatOfBits_57 (lv_at hl 1 rfl) ?_
  refine lv_ldcf hx hb hown (hts (.constantFloat RX8 248 (1056964608)) (by decide +kernel)) dX8_floatOfBits_59 ?_
  refine lv_fmul hx hb dX8_floatOfBits_61 (by unfold vf_n32; decide +kernel) ?_
  refine W.eq (g2 := F0 m 62 ls [.float 1199570944]) (by rw [show FP.fmul 1207959552 1056964608 = 1199570944 from by decide +kernel]) ?_
  refine lv_fstore (lv' := [(4, .float 1199570944), (5, .int 18), (3, .int 0), (2, .int 0), (1, .int 126), (0, .int 1056964608)]) hx hb dX8_floatOfBits_62 hl (by decide) rfl (fun ls hl => ?_)
  refine lv_iinc (v := 17) (lv' := [(5, .int 17), (4, .float 1199570944), (3, .int 0), (2, .int 0), (1, .int 126), (0, .int 1056964608)]) hx hb dX8_floatOfBits_64 hl (k := 1) rfl (by decide) (by decide) rfl (fun ls hl => ?_)
  refine lv_goto (tgt := 52) hx hb dX8_floatOfBits_67 (by decide) ?_
  refine lv_iload hx hb dX8_floatOfBits_52 (lv_at hl 0 rfl) ?_
  refine lv_if_le (tgt := 70) hx hb dX8_floatOfBits_54 (by decide) (fun h9 => absurd h9 (by decide)) (fun _ => ?_)
  refine lv_fload hx hb dX8_floatOfBits_57 (lv_at hl 1 rfl) ?_
  refine lv_ldcf hx hb hown (hts (.constantFloat RX8 248 (1056964608)) (by decide +kernel)) dX8_floatOfBits_59 ?_
  refine lv_fmul hx hb dX8_floatOfBits_61 (by unfold vf_n32; decide +kernel) ?_
  refine W.eq (g2 := F0 m 62 ls [.float 1191182336]) (by rw [show FP.fmul 1199570944 1056964608 = 1191182336 from by decide +kernel]) ?_
  refine lv_fstore (lv' := [(4, .float 1191182336), (5, .int 17), (3, .int 0), (2, .int 0), (1, .int 126), (0, .int 1056964608)]) hx hb dX8_floatOfBits_62 hl (by decide) rfl (fun ls hl => ?_)
  refine lv_iinc (v := 16) (lv' := [(5, .int 16), (4, .float 1191182336), (3, .int 0), (2, .int 0), (1, .int 126), (0, .int 1056964608)]) hx hb dX8_floatOfBits_64 hl (k := 1) rfl (by decide) (by decide) rfl (fun ls hl => ?_)
  refine lv_goto (tgt := 52) hx hb dX8_floatOfBits_67 (by decide) ?_
  refine lv_iload hx hb dX8_floatOfBits_52 (lv_at hl 0 rfl) ?_
  refine lv_if_le (tgt := 70) hx hb dX8_floatOfBits_54 (by decide) (fun h9 => absurd h9 (by decide)) (fun _ => ?_)
  refine lv_fload hx hb dX8_floatOfBits_57 (lv_at hl 1 rfl) ?_
  refine lv_ldcf hx hb hown (hts (.constantFloat RX8 248 (1056964608)) (by decide +kernel)) dX8_floatOfBits_59 ?_
  refine lv_fmul hx hb dX8_floatOfBits_61 (by unfold vf_n32; decide +kernel) ?_
  refine W.eq (g2 := F0 m 62 ls [.float 1182793728]) (by rw [show FP.fmul 1191182336 1056964608 = 1182793728 from by decide +kernel]) ?_
  refine lv_fstore (lv' := [(4, .float 1182793728), (5, .int 16), (3, .int 0), (2, .int 0), (1, .int 126), (0, .int 1056964608)]) hx hb dX8_floatOfBits_62 hl (by decide) rfl (fun ls hl => ?_)
  refine lv_iinc (v := 15) (lv' := [(5, .int 15), (4, .float 1182793728), (3, .int 0), (2, .int 0), (1, .int 126), (0, .int 1056964608)]) hx hb dX8_floatOfBits_64 hl (k := 1) rfl (by decide) (by decide) rfl (fun ls hl => ?_)
  refine lv_goto (tgt := 52) hx hb dX8_floatOfBits_67 (by decide) ?_
  refine lv_iload hx hb dX8_floatOfBits_52 (lv_at hl 0 rfl) ?_
  refine lv_if_le (tgt := 70) hx hb dX8_floatOfBits_54 (by decide) (fun h9 => absurd h9 (by decide)) (fun _ => ?_)
  refine lv_fload hx hb dX8_floatOfBits_57 (lv_at hl 1 rfl) ?_
  refine lv_ldcf hx hb hown (hts (.constantFloat RX8 248 (1056964608)) (by decide +kernel)) dX8_floatOfBits_59 ?_
  refine lv_fmul hx hb dX8_floatOfBits_61 (by unfold vf_n32; decide +kernel) ?_
  refine W.eq (g2 := F0 m 62 ls [.float 1174405120]) (by rw [show FP.fmul 1182793728 1056964608 = 1174405120 from by decide +kernel]) ?_
  refine lv_fstore (lv' := [(4, .float 1174405120), (5, .int 15), (3, .int 0), (2, .int 0), (1, .int 126), (0, .int 1056964608)]) hx hb dX8_floatOfBits_62 hl (by decide) rfl (fun ls hl => ?_)
  refine lv_iinc (v := 14) (lv' := [(5, .int 14), (4, .float 1174405120), (3, .int 0), (2, .int 0), (1, .int 126), (0, .int 1056964608)]) hx hb dX8_floatOfBits_64 hl (k := 1) rfl (by decide) (by decide) rfl (fun ls hl => ?_)
  refine lv_goto (tgt := 52) hx hb dX8_floatOfBits_67 (by decide) ?_
  refine lv_iload hx hb dX8_floatOfBits_52 (lv_at hl 0 rfl) ?_
  refine lv_if_le (tgt := 70) hx hb dX8_floatOfBits_54 (by decide) (fun h9 => absurd h9 (by decide)) (fun _ => ?_)
  refine lv_fload hx hb dX8_floatOfBits_57 (lv_at hl 1 rfl) ?_
  refine lv_ldcf hx hb hown (hts (.constantFloat RX8 248 (1056964608)) (by decide +kernel)) dX8_floatOfBits_59 ?_
  refine lv_fmul hx hb dX8_floatOfBits_61 (by unfold vf_n32; decide +kernel) ?_
  refine W.eq (g2 := F0 m 62 ls [.float 1166016512]) (by rw [show FP.fmul 1174405120 1056964608 = 1166016512 from by decide +kernel]) ?_
  refine lv_fstore (lv' := [(4, .float 1166016512), (5, .int 14), (3, .int 0), (2, .int 0), (1, .int 126), (0, .int 1056964608)]) hx hb dX8_floatOfBits_62 hl (by decide) rfl (fun ls hl => ?_)
  refine lv_iinc (v := 13) (lv' := [(5, .int 13), (4, .float 1166016512), (3, .int 0), (2, .int 0), (1, .int 126), (0, .int 1056964608)]) hx hb dX8_floatOfBits_64 hl (k := 1) rfl (by decide) (by decide) rfl (fun ls hl => ?_)
  refine lv_goto (tgt := 52) hx hb dX8_floatOfBits_67 (by decide) ?_
  refine lv_iload hx hb dX8_floatOfBits_52 (lv_at hl 0 rfl) ?_
  refine lv_if_le (tgt := 70) hx hb dX8_floatOfBits_54 (by decide) (fun h9 => absurd h9 (by decide)) (fun _ => ?_)
  refine lv_fload hx hb dX8_floatOfBits_57 (lv_at hl 1 rfl) ?_
  refine lv_ldcf hx hb hown (hts (.constantFloat RX8 248 (1056964608)) (by decide +kernel)) dX8_floatOfBits_59 ?_
  refine lv_fmul hx hb dX8_floatOfBits_61 (by unfold vf_n32; decide +kernel) ?_
  refine W.eq (g2 := F0 m 62 ls [.float 1157627904]) (by rw [show FP.fmul 1166016512 1056964608 = 1157627904 from by decide +kernel]) ?_
  refine lv_fstore (lv' := [(4, .float 1157627904), (5, .int 13), (3, .int 0), (2, .int 0), (1, .int 126), (0, .int 1056964608)]) hx hb dX8_floatOfBits_62 hl (by decide) rfl (fun ls hl => ?_)
  refine lv_iinc (v := 12) (lv' := [(5, .int 12), (4, .float 1157627904), (3, .int 0), (2, .int 0), (1, .int 126), (0, .int 1056964608)]) hx hb dX8_floatOfBits_64 hl (k := 1) rfl (by decide) (by decide) rfl (fun ls hl => ?_)
  refine lv_goto (tgt := 52) hx hb dX8_floatOfBits_67 (by decide) ?_
  refine lv_iload hx hb dX8_floatOfBits_52 (lv_at hl 0 rfl) ?_
  refine lv_if_le (tgt := 70) hx hb dX8_floatOfBits_54 (by decide) (fun h9 => absurd h9 (by decide)) (fun _ => ?_)
  refine lv_fload hx hb dX8_floatOfBits_57 (lv_at hl 1 rfl) ?_
  refine lv_ldcf hx hb hown (hts (.constantFloat RX8 248 (1056964608)) (by decide +kernel)) dX8_floatOfBits_59 ?_
  refine lv_fmul hx hb dX8_floatOfBits_61 (by unfold vf_n32; decide +kernel) ?_
  refine W.eq (g2 := F0 m 62 ls [.float 1149239296]) (by rw [show FP.fmul 1157627904 1056964608 = 1149239296 from by decide +kernel]) ?_
  refine lv_fstore (lv' := [(4, .float 1149239296), (5, .int 12), (3, .int 0), (2, .int 0), (1, .int 126), (0, .int 1056964608)]) hx hb dX8_floatOfBits_62 hl (by decide) rfl (fun ls hl => ?_)
  refine lv_iinc (v := 11) (lv' := [(5, .int 11), (4, .float 1149239296), (3, .int 0), (2, .int 0), (1, .int 126), (0, .int 1056964608)]) hx hb dX8_floatOfBits_64 hl (k := 1) rfl (by decide) (by decide) rfl (fun ls hl => ?_)
  refine lv_goto (tgt := 52) hx hb dX8_floatOfBits_67 (by decide) ?_
  refine lv_iload hx hb dX8_floatOfBits_52 (lv_at hl 0 rfl) ?_
  refine lv_if_le (tgt := 70) hx hb dX8_floatOfBits_54 (by decide) (fun h9 => absurd h9 (by decide)) (fun _ => ?_)
  refine lv_fload hx hb dX8_floatOfBits_57 (lv_at hl 1 rfl) ?_
  refine lv_ldcf hx hb hown (hts (.constantFloat RX8 248 (1056964608)) (by decide +kernel)) dX8_floatOfBits_59 ?_
  refine lv_fmul hx hb dX8_floatOfBits_61 (by unfold vf_n32; decide +kernel) ?_
  refine W.eq (g2 := F0 m 62 ls [.float 1140850688]) (by rw [show FP.fmul 1149239296 1056964608 = 1140850688 from by decide +kernel]) ?_
  refine lv_fstore (lv' := [(4, .float 1140850688), (5, .int 11), (3, .int 0), (2, .int 0), (1, .int 126), (0, .int 1056964608)]) hx hb dX8_floatOfBits_62 hl (by decide) rfl (fun ls hl => ?_)
  refine lv_iinc (v := 10) (lv' := [(5, .int 10), (4, .float 1140850688), (3, .int 0), (2, .int 0), (1, .int 126), (0, .int 1056964608)]) hx hb dX8_floatOfBits_64 hl (k := 1) rfl (by decide) (by decide) rfl (fun ls hl => ?_)
  refine lv_goto (tgt := 52) hx hb dX8_floatOfBits_67 (by decide) ?_
  refine lv_iload hx hb dX8_floatOfBits_52 (lv_at hl 0 rfl) ?_
  refine lv_if_le (tgt := 70) hx hb dX8_floatOfBits_54 (by decide) (fun h9 => absurd h9 (by decide)) (fun _ => ?_)
  refine lv_fload hx hb dX8_floatOfBits_57 (lv_at hl 1 rfl) ?_
  refine lv_ldcf hx hb hown (hts (.constantFloat RX8 248 (1056964608)) (by decide +kernel)) dX8_floatOfBits_59 ?_
  refine lv_fmul hx hb dX8_floatOfBits_61 (by unfold vf_n32; decide +kernel) ?_
  refine W.eq (g2 := F0 m 62 ls [.float 1132462080]) (by rw [show FP.fmul 1140850688 1056964608 = 1132462080 from by decide +kernel]) ?_
  refine lv_fstore (lv' := [(4, .float 1132462080), (5, .int 10), (3, .int 0), (2, .int 0), (1, .int 126), (0, .int 1056964608)]) hx hb dX8_floatOfBits_62 hl (by decide) rfl (fun ls hl => ?_)
  refine lv_iinc (v := 9) (lv' := [(5, .int 9), (4, .float 1132462080), (3, .int 0), (2, .int 0), (1, .int 126), (0, .int 1056964608)]) hx hb dX8_floatOfBits_64 hl (k := 1) rfl (by decide) (by decide) rfl (fun ls hl => ?_)
  refine lv_goto (tgt := 52) hx hb dX8_floatOfBits_67 (by decide) ?_
  refine lv_iload hx hb dX8_floatOfBits_52 (lv_at hl 0 rfl) ?_
  refine lv_if_le (tgt := 70) hx hb dX8_floatOfBits_54 (by decide) (fun h9 => absurd h9 (by decide)) (fun _ => ?_)
  refine lv_fload hx hb dX8_floatOfBits_57 (lv_at hl 1 rfl) ?_
  refine lv_ldcf hx hb hown (hts (.constantFloat RX8 248 (1056964608)) (by decide +kernel)) dX8_floatOfBits_59 ?_
  refine lv_fmul hx hb dX8_floatOfBits_61 (by unfold vf_n32; decide +kernel) ?_
  refine W.eq (g2 := F0 m 62 ls [.float 1124073472]) (by rw [show FP.fmul 1132462080 1056964608 = 1124073472 from by decide +kernel]) ?_
  refine lv_fstore (lv' := [(4, .float 1124073472), (5, .int 9), (3, .int 0), (2, .int 0), (1, .int 126), (0, .int 1056964608)]) hx hb dX8_floatOfBits_62 hl (by decide) rfl (fun ls hl => ?_)
  refine lv_iinc (v := 8) (lv' := [(5, .int 8), (4, .float 1124073472), (3, .int 0), (2, .int 0), (1, .int 126), (0, .int 1056964608)]) hx hb dX8_floatOfBits_64 hl (k := 1) rfl (by decide) (by decide) rfl (fun ls hl => ?_)
  refine lv_goto (tgt := 52) hx hb dX8_floatOfBits_67 (by decide) ?_
  refine lv_iload hx hb dX8_floatOfBits_52 (lv_at hl 0 rfl) ?_
  refine lv_if_le (tgt := 70) hx hb dX8_floatOfBits_54 (by decide) (fun h9 => absurd h9 (by decide)) (fun _ => ?_)
  refine lv_fload hx hb dX8_floatOfBits_57 (lv_at hl 1 rfl) ?_
  refine lv_ldcf hx hb hown (hts (.constantFloat RX8 248 (1056964608)) (by decide +kernel)) dX8_floatOfBits_59 ?_
  refine lv_fmul hx hb dX8_floatOfBits_61 (by unfold vf_n32; decide +kernel) ?_
  refine W.eq (g2 := F0 m 62 ls [.float 1115684864]) (by rw [show FP.fmul 1124073472 1056964608 = 1115684864 from by decide +kernel]) ?_
  refine lv_fstore (lv' := [(4, .float 1115684864), (5, .int 8), (3, .int 0), (2, .int 0), (1, .int 126), (0, .int 1056964608)]) hx hb dX8_floatOfBits_62 hl (by decide) rfl (fun ls hl => ?_)
  refine lv_iinc (v := 7) (lv' := [(5, .int 7), (4, .float 1115684864), (3, .int 0), (2, .int 0), (1, .int 126), (0, .int 1056964608)]) hx hb dX8_floatOfBits_64 hl (k := 1) rfl (by decide) (by decide) rfl (fun ls hl => ?_)
  refine lv_goto (tgt := 52) hx hb dX8_floatOfBits_67 (by decide) ?_
  refine lv_iload hx hb dX8_floatOfBits_52 (lv_at hl 0 rfl) ?_
  refine lv_if_le (tgt := 70) hx hb dX8_floatOfBits_54 (by decide) (fun h9 => absurd h9 (by decide)) (fun _ => ?_)
  refine lv_fload hx hb dX8_floatOfBits_57 (lv_at hl 1 rfl) ?_
  refine lv_ldcf hx hb hown (hts (.constantFloat RX8 248 (1056964608)) (by decide +kernel)) dX8_floatOfBits_59 ?_
  refine lv_fmul hx hb dX8_floatOfBits_61 (by unfold vf_n32; decide +kernel) ?_
  refine W.eq (g2 := F0 m 62 ls [.float 1107296256]) (by rw [show FP.fmul 1115684864 1056964608 = 1107296256 from by decide +kernel]) ?_
  refine lv_fstore (lv' := [(4, .float 1107296256), (5, .int 7), (3, .int 0), (2, .int 0), (1, .int 126), (0, .int 1056964608)]) hx hb dX8_floatOfBits_62 hl (by decide) rfl (fun ls hl => ?_)
  refine lv_iinc (v := 6) (lv' := [(5, .int 6), (4, .float 1107296256), (3, .int 0), (2, .int 0), (1, .int 126), (0, .int 1056964608)]) hx hb dX8_floatOfBits_64 hl (k := 1) rfl (by decide) (by decide) rfl (fun ls hl => ?_)
  refine lv_goto (tgt := 52) hx hb dX8_floatOfBits_67 (by decide) ?_
  refine lv_iload hx hb dX8_floatOfBits_52 (lv_at hl 0 rfl) ?_
  refine lv_if_le (tgt := 70) hx hb dX8_floatOfBits_54 (by decide) (fun h9 => absurd h9 (by decide)) (fun _ => ?_)
  refine lv_fload hx hb dX8_floatOfBits_57 (lv_at hl 1 rfl) ?_
  refine lv_ldcf hx hb hown (hts (.constantFloat RX8 248 (1056964608)) (by decide +kernel)) dX8_floatOfBits_59 ?_
  refine lv_fmul hx hb dX8_floatOfBits_61 (by unfold vf_n32; decide +kernel) ?_
  refine W.eq (g2 := F0 m 62 ls [.float 1098907648]) (by rw [show FP.fmul 1107296256 1056964608 = 1098907648 from by decide +kernel]) ?_
  refine lv_fstore (lv' := [(4, .float 1098907648), (5, .int 6), (3, .int 0), (2, .int 0), (1, .int 126), (0, .int 1056964608)]) hx hb dX8_floatOfBits_62 hl (by decide) rfl (fun ls hl => ?_)
  refine lv_iinc (v := 5) (lv' := [(5, .int 5), (4, .float 1098907648), (3, .int 0), (2, .int 0), (1, .int 126), (0, .int 1056964608)]) hx hb dX8_floatOfBits_64 hl (k := 1) rfl (by decide) (by decide) rfl (fun ls hl => ?_)
  refine lv_goto (tgt := 52) hx hb dX8_floatOfBits_67 (by decide) ?_
  refine lv_iload hx hb dX8_floatOfBits_52 (lv_at hl 0 rfl) ?_
  refine lv_if_le (tgt := 70) hx hb dX8_floatOfBits_54 (by decide) (fun h9 => absurd h9 (by decide)) (fun _ => ?_)
  refine lv_fload hx hb dX8_floatOfBits_57 (lv_at hl 1 rfl) ?_
  refine lv_ldcf hx hb hown (hts (.constantFloat RX8 248 (1056964608)) (by decide +kernel)) dX8_floatOfBits_59 ?_
  refine lv_fmul hx hb dX8_floatOfBits_61 (by unfold vf_n32; decide +kernel) ?_
  refine W.eq (g2 := F0 m 62 ls [.float 1090519040]) (by rw [show FP.fmul 1098907648 1056964608 = 1090519040 from by decide +kernel]) ?_
  refine lv_fstore (lv' := [(4, .float 1090519040), (5, .int 5), (3, .int 0), (2, .int 0), (1, .int 126), (0, .int 1056964608)]) hx hb dX8_floatOfBits_62 hl (by decide) rfl (fun ls hl => ?_)
  refine lv_iinc (v := 4) (lv' := [(5, .int 4), (4, .float 1090519040), (3, .int 0), (2, .int 0), (1, .int 126), (0, .int 1056964608)]) hx hb dX8_floatOfBits_64 hl (k := 1) rfl (by decide) (by decide) rfl (fun ls hl => ?_)
  refine lv_goto (tgt := 52) hx hb dX8_floatOfBits_67 (by decide) ?_
  refine lv_iload hx hb dX8_floatOfBits_52 (lv_at hl 0 rfl) ?_
  refine lv_if_le (tgt := 70) hx hb dX8_floatOfBits_54 (by decide) (fun h9 => absurd h9 (by decide)) (fun _ => ?_)
  refine lv_fload hx hb dX8_floatOfBits_57 (lv_at hl 1 rfl) ?_
  refine lv_ldcf hx hb hown (hts (.constantFloat RX8 248 (1056964608)) (by decide +kernel)) dX8_floatOfBits_59 ?_
  refine lv_fmul hx hb dX8_floatOfBits_61 (by unfold vf_n32; decide +kernel) ?_
  refine W.eq (g2 := F0 m 62 ls [.float 1082130432]) (by rw [show FP.fmul 1090519040 1056964608 = 1082130432 from by decide +kernel]) ?_
  refine lv_fstore (lv' := [(4, .float 1082130432), (5, .int 4), (3, .int 0), (2, .int 0), (1, .int 126), (0, .int 1056964608)]) hx hb dX8_floatOfBits_62 hl (by decide) rfl (fun ls hl => ?_)
  refine lv_iinc (v := 3) (lv' := [(5, .int 3), (4, .float 1082130432), (3, .int 0), (2, .int 0), (1, .int 126), (0, .int 1056964608)]) hx hb dX8_floatOfBits_64 hl (k := 1) rfl (by decide) (by decide) rfl (fun ls hl => ?_)
  refine lv_goto (tgt := 52) hx hb dX8_floatOfBits_67 (by decide) ?_
  refine lv_iload hx hb dX8_floatOfBits_52 (lv_at hl 0 rfl) ?_
  refine lv_if_le (tgt := 70) hx hb dX8_floatOfBits_54 (by decide) (fun h9 => absurd h9 (by decide)) (fun _ => ?_)
  refine lv_fload hx hb dX8_floatOfBits_57 (lv_at hl 1 rfl) ?_
  refine lv_ldcf hx hb hown (hts (.constantFloat RX8 248 (1056964608)) (by decide +kernel)) dX8_floatOfBits_59 ?_
  refine lv_fmul hx hb dX8_floatOfBits_61 (by unfold vf_n32; decide +kernel) ?_
  refine W.eq (g2 := F0 m 62 ls [.float 1073741824]) (by rw [show FP.fmul 1082130432 1056964608 = 1073741824 from by decide +kernel]) ?_
  refine lv_fstore (lv' := [(4, .float 1073741824), (5, .int 3), (3, .int 0), (2, .int 0), (1, .int 126), (0, .int 1056964608)]) hx hb dX8_floatOfBits_62 hl (by decide) rfl (fun ls hl => ?_)
  refine lv_iinc (v := 2) (lv' := [(5, .int 2), (4, .float 1073741824), (3, .int 0), (2, .int 0), (1, .int 126), (0, .int 1056964608)]) hx hb dX8_floatOfBits_64 hl (k := 1) rfl (by decide) (by decide) rfl (fun ls hl => ?_)
  refine lv_goto (tgt := 52) hx hb dX8_floatOfBits_67 (by decide) ?_
  refine lv_iload hx hb dX8_floatOfBits_52 (lv_at hl 0 rfl) ?_
  refine lv_if_le (tgt := 70) hx hb dX8_floatOfBits_54 (by decide) (fun h9 => absurd h9 (by decide)) (fun _ => ?_)
  refine lv_fload hx hb dX8_floatOfBits_57 (lv_at hl 1 rfl) ?_
  refine lv_ldcf hx hb hown (hts (.constantFloat RX8 248 (1056964608)) (by decide +kernel)) dX8_floatOfBits_59 ?_
  refine lv_fmul hx hb dX8_floatOfBits_61 (by unfold vf_n32; decide +kernel) ?_
  refine W.eq (g2 := F0 m 62 ls [.float 1065353216]) (by rw [show FP.fmul 1073741824 1056964608 = 1065353216 from by decide +kernel]) ?_
  refine lv_fstore (lv' := [(4, .float 1065353216), (5, .int 2), (3, .int 0), (2, .int 0), (1, .int 126), (0, .int 1056964608)]) hx hb dX8_floatOfBits_62 hl (by decide) rfl (fun ls hl => ?_)
  refine lv_iinc (v := 1) (lv' := [(5, .int 1), (4, .float 1065353216), (3, .int 0), (2, .int 0), (1, .int 126), (0, .int 1056964608)]) hx hb dX8_floatOfBits_64 hl (k := 1) rfl (by decide) (by decide) rfl (fun ls hl => ?_)
  refine lv_goto (tgt := 52) hx hb dX8_floatOfBits_67 (by decide) ?_
  refine lv_iload hx hb dX8_floatOfBits_52 (lv_at hl 0 rfl) ?_
  refine lv_if_le (tgt := 70) hx hb dX8_floatOfBits_54 (by decide) (fun h9 => absurd h9 (by decide)) (fun _ => ?_)
  refine lv_fload hx hb dX8_floatOfBits_57 (lv_at hl 1 rfl) ?_
  refine lv_ldcf hx hb hown (hts (.constantFloat RX8 248 (1056964608)) (by decide +kernel)) dX8_floatOfBits_59 ?_
  refine lv_fmul hx hb dX8_floatOfBits_61 (by unfold vf_n32; decide +kernel) ?_
  refine W.eq (g2 := F0 m 62 ls [.float 1056964608]) (by rw [show FP.fmul 1065353216 1056964608 = 1056964608 from by decide +kernel]) ?_
  refine lv_fstore (lv' := [(4, .float 1056964608), (5, .int 1), (3, .int 0), (2, .int 0), (1, .int 126), (0, .int 1056964608)]) hx hb dX8_floatOfBits_62 hl (by decide) rfl (fun ls hl => ?_)
  refine lv_iinc (v := 0) (lv' := [(5, .int 0), (4, .float 1056964608), (3, .int 0), (2, .int 0), (1, .int 126), (0, .int 1056964608)]) hx hb dX8_floatOfBits_64 hl (k := 1) rfl (by decide) (by decide) rfl (fun ls hl => ?_)
  refine lv_goto (tgt := 52) hx hb dX8_floatOfBits_67 (by decide) ?_
  refine lv_iload hx hb dX8_floatOfBits_52 (lv_at hl 0 rfl) ?_
  refine lv_if_le (tgt := 70) hx hb dX8_floatOfBits_54 (by decide) (fun _ => ?_) (fun h9 => absurd (by decide) h9)
  refine lv_fload hx hb dX8_floatOfBits_70 (lv_at hl 1 rfl) ?_
  exact en_rf hx hb hr hlocks hS rfl dX8_floatOfBits_72
set_option maxHeartbeats 4000000 in
set_option maxRecDepth 100000 in
/-- floatOfBits(1065353216) -/
theorem cX8_floatOfBits_1065353216 (l : Launch) (G : va_G) (cA : Nat → ClassId)  : Rf l yX8_floatOfBits wsX8_floatOfBits ({ frames := 0, cells := 0, slots := 0, locals := 0 } : Room) G cA [.int 1065353216] [] (fun r => r = 1065353216) := by
  refine ofW2 (cc := cX8_floatOfBits) (maxL := 6) (ret := (some .float)) (own := RX8) (by decide) rfl rfl (Nat.le_of_ble_eq_true rfl) rfl ?_
  intro p e s m below meth c ls hx hb hml hr hts hown hlocks hv hl
  obtain ⟨hP, hE, hD0⟩ := hv
  have hK := hE.1
  have hD := hD0
  generalize hH0 : s.heap = H at hP ⊢
  have hS : va_S (fun _ => False) s.heap H [] := hH0 ▸ va_S.rf
  generalize ([] : List Loc) = locs at hS ⊢
  clear hH0 hD0
  replace hl : lv_has ls 6 [(0, .int 1065353216)] := hl
  refine lv_iload_n hx hb dX8_floatOfBits_0 rfl (lv_at hl 0 rfl) ?_
  refine lv_bipush (v := 23) hx hb dX8_floatOfBits_1 (by decide) ?_
  refine lv_iushr (v := 127) hx hb dX8_floatOfBits_3 (by decide) ?_
  refine lv_istore_n (lv' := [(1, .int 127), (0, .int 1065353216)]) hx hb dX8_floatOfBits_4 rfl hl (by decide) rfl (fun ls hl => ?_)
  refine lv_iload_n hx hb dX8_floatOfBits_5 rfl (lv_at hl 1 rfl) ?_
  refine lv_ldc hx hb hown (hts (.constant RX8 246 (8388607)) (by decide +kernel)) dX8_floatOfBits_6 ?_
  refine lv_iand hx hb dX8_floatOfBits_8 ?_
  refine W.eq (g2 := F0 m 9 ls [.int 0]) rfl ?_
  refine lv_istore_n (lv' := [(2, .int 0), (1, .int 127), (0, .int 1065353216)]) hx hb dX8_floatOfBits_9 rfl hl (by decide) rfl (fun ls hl => ?_)
  refine lv_iload_n hx hb dX8_floatOfBits_10 rfl (lv_at hl 1 rfl) ?_
  refine lv_if_ne (tgt := 18) hx hb dX8_floatOfBits_11 (by decide) (fun _ => ?_) (fun h9 => absurd h9 (by decide))
  refine lv_iconst (v := 0) hx hb dX8_floatOfBits_18 (by decide) ?_
  refine lv_istore_n (lv' := [(3, .int 0), (2, .int 0), (1, .int 127), (0, .int 1065353216)]) hx hb dX8_floatOfBits_19 rfl hl (by decide) rfl (fun ls hl => ?_)
  refine lv_iload_n hx hb dX8_floatOfBits_20 rfl (lv_at hl 0 rfl) ?_
  refine lv_if_eq (tgt := 28) hx hb dX8_floatOfBits_21 (by decide) (fun _ => ?_) (fun h9 => absurd (by decide) h9)
  refine lv_iload_n hx hb dX8_floatOfBits_28 rfl (lv_at hl 1 rfl) ?_
  refine lv_ldc hx hb hown (hts (.constant RX8 247 (8388608)) (by decide +kernel)) dX8_floatOfBits_29 ?_
  refine lv_ior hx hb dX8_floatOfBits_31 ?_
  refine W.eq (g2 := F0 m 32 ls [.int 8388608]) rfl ?_
  refine lv_i2f hx hb dX8_floatOfBits_32 ?_
  refine W.eq (g2 := F0 m 33 ls [.float 1258291200]) (by rw [show FP.i2f 8388608 = 1258291200 from by decide +kernel]) ?_
  refine lv_fstore (lv' := [(4, .float 1258291200), (3, .int 0), (2, .int 0), (1, .int 127), (0, .int 1065353216)]) hx hb dX8_floatOfBits_33 hl (by decide) rfl (fun ls hl => ?_)
  refine lv_iload_n hx hb dX8_floatOfBits_35 rfl (lv_at hl 1 rfl) ?_
  refine lv_if_eq (tgt := 45) hx hb dX8_floatOfBits_36 (by decide) (fun _ => ?_) (fun h9 => absurd (by decide) h9)
  refine lv_sipush (v := 150) hx hb dX8_floatOfBits_45 (by decide) ?_
  refine lv_iload_n hx hb dX8_floatOfBits_48 rfl (lv_at hl 3 rfl) ?_
  refine lv_isub hx hb dX8_floatOfBits_49 ?_
  refine W.eq (g2 := F0 m 50 ls [.int 23]) rfl ?_
  refine lv_istore (lv' := [(5, .int 23), (4, .float 1258291200), (3, .int 0), (2, .int 0), (1, .int 127), (0, .int 1065353216)]) hx hb dX8_floatOfBits_50 hl (by decide) rfl (fun ls hl => ?_)
  refine lv_iload hx hb dX8_floatOfBits_52 (lv_at hl 0 rfl) ?_
  refine lv_if_le (tgt := 70) hx hb dX8_floatOfBits_54 (by decide) (fun h9 => absurd h9 (by decide)) (fun _ => ?_)
  refine lv_fload hx hb dX8_floatOfBits_57 (lv_at hl 1 rfl) ?_
  refine lv_ldcf hx hb hown (hts (.constantFloat RX8 248 (1056964608)) (by decide +kernel)) dX8_floatOfBits_59 ?_
  refine lv_fmul hx hb dX8_floatOfBits_61 (by unfold vf_n32; decide +kernel) ?_
  refine W.eq (g2 := F0 m 62 ls [.float 1249902592]) (by rw [show FP.fmul 1258291200 1056964608 = 1249902592 from by decide +kernel]) ?_
  refine lv_fstore (lv' := [(4, .float 1249902592), (5, .int 23), (3, .int 0), (2, .int 0), (1, .int 127), (0, .int 1065353216)]) hx hb dX8_floatOfBits_62 hl (by decide) rfl (fun ls hl => ?_)
  refine lv_iinc (v := 22) (lv' := [(5, .int 22), (4, .float 1249902592), (3, .int 0), (2, .int 0), (1, .int 127), (0, .int 1065353216)]) hx hb dX8_floatOfBits_64 hl (k := 1) rfl (by decide) (by decide) rfl (fun ls hl => ?_)
  refine lv_goto (tgt := 52) hx hb dX8_floatOfBits_67 (by decide) ?_
  refine lv_iload hx hb dX8_floatOfBits_52 (lv_at hl 0 rfl) ?_
  refine lv_if_le (tgt := 70) hx hb dX8_floatOfBits_54 (by decide) (fun h9 => absurd h9 (by decide)) (fun _ => ?_)
  refine lv_fload hx hb dX8_floatOfBits_57 (lv_at hl 1 rfl) ?_
  refine lv_ldcf hx hb hown (hts (.constantFloat RX8 248 (1056964608)) (by decide +kernel)) dX8_floatOfBits_59 ?_
  refine lv_fmul hx hb dX8_floatOfBits_61 (by unfold vf_n32; decide +kernel) ?_
  refine W.eq (g2 := F0 m 62 ls [.float 1241513984]) (by rw [show FP.fmul 1249902592 1056964608 = 1241513984 from by decide +kernel]) ?_
  refine lv_fstore (lv' := [(4, .float 1241513984), (5, .int 22), (3, .int 0), (2, .int 0), (1, .int 127), (0, .int 1065353216)]) hx hb dX8_floatOfBits_62 hl (by decide) rfl (fun ls hl => ?_)
  refine lv_iinc (v := 21) (lv' := [(5, .int 21), (4, .float 1241513984), (3, .int 0), (2, .int 0), (1, .int 127), (0, .int 1065353216)]) hx hb dX8_floatOfBits_64 hl (k := 1) rfl (by decide) (by decide) rfl (fun ls hl => ?_)
  refine lv_goto (tgt := 52) hx hb dX8_floatOfBits_67 (by decide) ?_
  refine lv_iload hx hb dX8_floatOfBits_52 (lv_at hl 0 rfl) ?_
  refine lv_if_le (tgt := 70) hx hb dX8_floatOfBits_54 (by decide) (fun h9 => absurd h9 (by decide)) (fun _ => ?_)
  refine lv_fload hx hb dX8_floatOfBits_57 (lv_at hl 1 rfl) ?_
  refine lv_ldcf hx hb hown (hts (.constantFloat RX8 248 (1056964608)) (by decide +kernel)) dX8_floatOfBits_59 ?_
  refine lv_fmul hx hb dX8_floatOfBits_61 (by unfold vf_n32; decide +kernel) ?_
  refine W.eq (g2 := F0 m 62 ls [.float 1233125376]) (by rw [show FP.fmul 1241513984 1056964608 = 1233125376 from by decide +kernel]) ?_
  refine lv_fstore (lv' := [(4, .float 1233125376), (5, .int 21), (3, .int 0), (2, .int 0), (1, .int 127), (0, .int 1065353216)]) hx hb dX8_floatOfBits_62 hl (by decide) rfl (fun ls hl => ?_)
  refine lv_iinc (v := 20) (lv' := [(5, .int 20), (4, .float 1233125376), (3, .int 0), (2, .int 0), (1, .int 127), (0, .int 1065353216)]) hx hb dX8_floatOfBits_64 hl (k := 1) rfl (by decide) (by decide) rfl (fun ls hl => ?_)
  refine lv_goto (tgt := 52) hx hb dX8_floatOfBits_67 (by decide) ?_
  refine lv_iload hx hb dX8_floatOfBits_52 (lv_at hl 0 rfl) ?_
  refine lv_if_le (tgt := 70) hx hb dX8_floatOfBits_54 (by decide) (fun h9 => absurd h9 (by decide)) (fun _ => ?_)
  refine lv_fload hx hb dX8_floatOfBits_57 (lv_at hl 1 rfl) ?_
  refine lv_ldcf hx hb hown (hts (.constantFloat RX8 248 (1056964608)) (by decide +kernel)) dX8_floatOfBits_59 ?_
  refine lv_fmul hx hb dX8_floatOfBits_61 (by unfold vf_n32; decide +kernel) ?_
  refine W.eq (g2 := F0 m 62 ls [.float 1224736768]) (by rw [show FP.fmul 1233125376 1056964608 = 1224736768 from by decide +kernel]) ?_
  refine lv_fstore (lv' := [(4, .float 1224736768), (5, .int 20), (3, .int 0), (2, .int 0), (1, .int 127), (0, .int 1065353216)]) hx hb dX8_floatOfBits_62 hl (by decide) rfl (fun ls hl => ?_)
  refine lv_iinc (v := 19) (lv' := [(5, .int 19), (4, .float 1224736768), (3, .int 0), (2, .int 0), (1, .int 127), (0, .int 1065353216)]) hx hb dX8_floatOfBits_64 hl (k := 1) rfl (by decide) (by decide) rfl (fun ls hl => ?_)
  refine lv_goto (tgt := 52) hx hb dX8_floatOfBits_67 (by decide) ?_
  refine lv_iload hx hb dX8_floatOfBits_52 (lv_at hl 0 rfl) ?_
  refine lv_if_le (tgt := 70) hx hb dX8_floatOfBits_54 (by decide) (fun h9 => absurd h9 (by decide)) (fun _ => ?_)
  refine lv_fload hx hb dX8_floatOfBits_57 (lv_at hl 1 rfl) ?_
  refine lv_ldcf hx hb hown (hts (.constantFloat RX8 248 (1056964608)) (by decide +kernel)) dX8_floatOfBits_59 ?_
  refine lv_fmul hx hb dX8_floatOfBits_61 (by unfold vf_n32; decide +kernel) ?_
  refine W.eq (g2 := F0 m 62 ls [.float 1216348160]) (by rw [show FP.fmul 1224736768 1056964608 = 1216348160 from by decide +kernel]) ?_
  refine lv_fstore (lv' := [(4, .float 1216348160), (5, .int 19), (3, .int 0), (2, .int 0), (1, .int 127), (0, .int 1065353216)]) hx hb dX8_floatOfBits_62 hl (by decide) rfl (fun ls hl => ?_)
  refine lv_iinc (v := 18) (lv' := [(5, .int 18), (4, .float 1216348160), (3, .int 0), (2, .int 0), (1, .int 127), (0, .int 1065353216)]) hx hb dX8_floatOfBits_64 hl (k := 1) rfl (by decide) (by decide) rfl (fun ls hl => ?_)
  refine lv_goto (tgt := 52) hx hb dX8_floatOfBits_67 (by decide) ?_
  refine lv_iload hx hb dX8_floatOfBits_52 (lv_at hl 0 rfl) ?_
  refine lv_if_le (tgt := 70) hx hb dX8_floatOfBits_54 (by decide) (fun h9 => absurd h9 (by decide)) (fun _ => ?_)
  refine lv_fload hx hb dX8_floatOfBits_57 (lv_at hl 1 rfl) ?_
  refine lv_ldcf hx hb hown (hts (.constantFloat RX8 248 (1056964608)) (by decide +kernel)) dX8_floatOfBits_59 ?_
  refine lv_fmul hx hb dX8_floatOfBits_61 (by unfold vf_n32; decide +kernel) ?_
  refine W.eq (g2 := F0 m 62 ls [.float 1207959552]) (by rw [show FP.fmul 1216348160 1056964608 = 1207959552 from by decide +kernel]) ?_
  refine lv_fstore (lv' := [(4, .float 1207959552), (5, .int 18), (3, .int 0), (2, .int 0), (1, .int 127), (0, .int 1065353216)]) hx hb dX8_floatOfBits_62 hl (by decide) rfl (fun ls hl => ?_)
  refine lv_iinc (v := 17) (lv' := [(5, .int 17), (4, .float 1207959552), (3, .int 0), (2, .int 0), (1, .int 127), (0, .int 1065353216)]) hx hb dX8_floatOfBits_64 hl (k := 1) rfl (by decide) (by decide) rfl (fun ls hl => ?_)
  refine lv_goto (tgt := 52) hx hb dX8_floatOfBits_67 (by decide) ?_
  refine lv_iload hx hb dX8_floatOfBits_52 (lv_at hl 0 rfl) ?_
  refine lv_if_le (tgt := 70) hx hb dX8_floatOfBits_54 (by decide) (fun h9 => absurd h9 (by decide)) (fun _ => ?_)
  refine lv_fload hx hb dX8_floatOfBits_57 (lv_at hl 1 rfl) ?_
  refine lv_ldcf hx hb hown (hts (.constantFloat RX8 248 (1056964608)) (by decide +kernel)) dX8_floatOfBits_59 ?_
  refine lv_fmul hx hb dX8_floatOfBits_61 (by unfold vf_n32; decide +kernel) ?_
  refine W.eq (g2 := F0 m 62 ls [.float 1199570944]) (by rw [show FP.fmul 1207959552 1056964608 = 1199570944 from by decide +kernel]) ?_
  refine lv_fstore (lv' := [(4, .float 1199570944), (5, .int 17), (3, .int 0), (2, .int 0), (1, .int 127), (0, .int 1065353216)]) hx hb dX8_floatOfBits_62 hl (by decide) rfl (fun ls hl => ?_)
  refine lv_iinc (v := 16) (lv' := [(5, .int 16), (4, .float 1199570944), (3, .int 0), (2, .int 0), (1, .int 127), (0, .int 1065353216)]) hx hb dX8_floatOfBits_64 hl (k := 1) rfl (by decide) (by decide) rfl (fun ls hl => ?_)
  refine lv_goto (tgt := 52) hx hb dX8_floatOfBits_67 (by decide) ?_
  refine lv_iload hx hb dX8_floatOfBits_52 (lv_at hl 0 rfl) ?_
  refine lv_if_le (tgt := 70) hx hb dX8_floatOfBits_54 (by decide) (fun h9 => absurd h9 (by decide)) (fun _ => ?_)
  refine lv_fload hx hb dX8_floatOfBits_57 (lv_at hl 1 rfl) ?_
  refine lv_ldcf hx hb hown (hts (.constantFloat RX8 248 (1056964608)) (by decide +kernel)) dX8_floatOfBits_59 ?_
  refine lv_fmul hx hb dX8_floatOfBits_61 (by unfold vf_n32; decide +kernel) ?_
  refine W.eq (g2 := F0 m 62 ls [.float 1191182336]) (by rw [show FP.fmul 1199570944 1056964608 = 1191182336 from by decide +kernel]) ?_
  refine lv_fstore (lv' := [(4, .float 1191182336), (5, .int 16), (3, .int 0), (2, .int 0), (1, .int 127), (0, .int 1065353216)]) hx hb dX8_floatOfBits_62 hl (by decide) rfl (fun ls hl => ?_)
  refine lv_iinc (v := 15) (lv' := [(5, .int 15), (4, .float 1191182336), (3, .int 0), (2, .int 0), (1, .int 127), (0, .int 1065353216)]) hx hb dX8_floatOfBits_64 hl (k := 1) rfl (by decide) (by decide) rfl (fun ls hl => ?_)
  refine lv_goto (tgt := 52) hx hb dX8_floatOfBits_67 (by decide) ?_
  refine lv_iload hx hb dX8_floatOfBits_52 (lv_at hl 0 rfl) ?_
  refine lv_if_le (tgt := 70) hx hb dX8_floatOfBits_54 (by decide) (fun h9 => absurd h9 (by decide)) (fun _ => ?_)
  refine lv_fload hx hb dX8_floatOfBits_57 (lv_at hl 1 rfl) ?_
  refine lv_ldcf hx hb hown (hts (.constantFloat RX8 248 (1056964608)) (by decide +kernel)) dX8_floatOfBits_59 ?_
  refine lv_fmul hx hb dX8_floatOfBits_61 (by unfold vf_n32; decide +kernel) ?_
  refine W.eq (g2 := F0 m 62 ls [.float 1182793728]) (by rw [show FP.fmul 1191182336 1056964608 = 1182793728 from by decide +kernel]) ?_
  refine lv_fstore (lv' := [(4, .float 1182793728), (5, .int 15), (3, .int 0), (2, .int 0), (1, .int 127), (0, .int 1065353216)]) hx hb dX8_floatOfBits_62 hl (by decide) rfl (fun ls hl => ?_)
  refine lv_iinc (v := 14) (lv' := [(5, .int 14), (4, .float 1182793728), (3, .int 0), (2, .int 0), (1, .int 127), (0, .int 1065353216)]) hx hb dX8_floatOfBits_64 hl (k := 1) rfl (by decide) (by decide) rfl (fun ls hl => ?_)
  refine lv_goto (tgt := 52) hx hb dX8_floatOfBits_67 (by decide) ?_
  refine lv_iload hx hb dX8_floatOfBits_52 (lv_at hl 0 rfl) ?_
  refine lv_if_le (tgt := 70) hx hb dX8_floatOfBits_54 (by decide) (fun h9 => absurd h9 (by decide)) (fun _ => ?_)
  refine lv_fload hx hb dX8_floatOfBits_57 (lv_at hl 1 rfl) ?_
  refine lv_ldcf hx hb hown (hts (.constantFloat RX8 248 (1056964608)) (by decide +kernel)) dX8_floatOfBits_59 ?_
  refine lv_fmul hx hb dX8_floatOfBits_61 (by unfold vf_n32; decide +kernel) ?_
  refine W.eq (g2 := F0 m 62 ls [.float 1174405120]) (by rw [show FP.fmul 1182793728 1056964608 = 1174405120 from by decide +kernel]) ?_
  refine lv_fstore (lv' := [(4, .float 1174405120), (5, .int 14), (3, .int 0), (2, .int 0), (1, .int 127), (0, .int 1065353216)]) hx hb dX8_floatOfBits_62 hl (by decide) rfl (fun ls hl => ?_)
  refine lv_iinc (v := 13) (lv' := [(5, .int 13), (4, .float 1174405120), (3, .int 0), (2, .int 0), (1, .int 127), (0, .int 1065353216)]) hx hb dX8_floatOfBits_64 hl (k := 1) rfl (by decide) (by decide) rfl (fun ls hl => ?_)
  refine lv_goto (tgt := 52) hx hb dX8_floatOfBits_67 (by decide) ?_
  refine lv_iload hx hb dX8_floatOfBits_52 (lv_at hl 0 rfl) ?_
  refine lv_if_le (tgt := 70) hx hb dX8_floatOfBits_54 (by decide) (fun h9 => absurd h9 (by decide)) (fun _ => ?_)
  refine lv_fload hx hb dX8_floatOfBits_57 (lv_at hl 1 rfl) ?_
  refine lv_ldcf hx hb hown (hts (.constantFloat RX8 248 (1056964608)) (by decide +kernel)) dX8_floatOfBits_59 ?_
  refine lv_fmul hx hb dX8_floatOfBits_61 (by unfold vf_n32; decide +kernel) ?_
  refine W.eq (g2 := F0 m 62 ls [.float 1166016512]) (by rw [show FP.fmul 1174405120 1056964608 = 1166016512 from by decide +kernel]) ?_
  refine lv_fstore (lv' := [(4, .float 1166016512), (5, .int 13), (3, .int 0), (2, .int 0), (1, .int 127), (0, .int 1065353216)]) hx hb dX8_floatOfBits_62 hl (by decide) rfl (fun ls hl => ?_)
  refine lv_iinc (v := 12) (lv' := [(5, .int 12), (4, .float 1166016512), (3, .int 0), (2, .int 0), (1, .int 127), (0, .int 1065353216)]) hx hb dX8_floatOfBits_64 hl (k := 1) rfl (by decide) (by decide) rfl (fun ls hl => ?_)
  refine lv_goto (tgt := 52) hx hb dX8_floatOfBits_67 (by decide) ?_
  refine lv_iload hx hb dX8_floatOfBits_52 (lv_at hl 0 rfl) ?_
  refine lv_if_le (tgt := 70) hx hb dX8_floatOfBits_54 (by decide) (fun h9 => absurd h9 (by decide)) (fun _ => ?_)
  refine lv_fload hx hb dX8_floatOfBits_57 (lv_at hl 1 rfl) ?_
  refine lv_ldcf hx hb hown (hts (.constantFloat RX8 248 (1056964608)) (by decide +kernel)) dX8_floatOfBits_59 ?_
  refine lv_fmul hx hb dX8_floatOfBits_61 (by unfold vf_n32; decide +kernel) ?_
  refine W.eq (g2 := F0 m 62 ls [.float 1157627904]) (by rw [show FP.fmul 1166016512 1056964608 = 1157627904 from by decide +kernel]) ?_
  refine lv_fstore (lv' := [(4, .float 1157627904), (5, .int 12), (3, .int 0), (2, .int 0), (1, .int 127), (0, .int 1065353216)]) hx hb dX8_floatOfBits_62 hl (by decide) rfl (fun ls hl => ?_)
  refine lv_iinc (v := 11) (lv' := [(5, .int 11), (4, .float 1157627904), (3, .int 0), (2, .int 0), (1, .int 127), (0, .int 1065353216)]) hx hb dX8_floatOfBits_64 hl (k := 1) rfl (by decide) (by decide) rfl (fun ls hl => ?_)
  refine lv_goto (tgt := 52) hx hb dX8_floatOfBits_67 (by decide) ?_
  refine lv_iload hx hb dX8_floatOfBits_52 (lv_at hl 0 rfl) ?_
  refine lv_if_le (tgt := 70) hx hb dX8_floatOfBits_54 (by decide) (fun h9 => absurd h9 (by decide)) (fun _ => ?_)
  refine lv_fload hx hb dX8_floatOfBits_57 (lv_at hl 1 rfl) ?_
  refine lv_ldcf hx hb hown (hts (.constantFloat RX8 248 (1056964608)) (by decide +kernel)) dX8_floatOfBits_59 ?_
  refine lv_fmul hx hb dX8_floatOfBits_61 (by unfold vf_n32; decide +kernel) ?_
  refine W.eq (g2 := F0 m 62 ls [.float 1149239296]) (by rw [show FP.fmul 1157627904 1056964608 = 1149239296 from by decide +kernel]) ?_
  refine lv_fstore (lv' := [(4, .float 1149239296), (5, .int 11), (3, .int 0), (2, .int 0), (1, .int 127), (0, .int 1065353216)]) hx hb dX8_floatOfBits_62 hl (by decide) rfl (fun ls hl => ?_)
  refine lv_iinc (v := 10) (lv' := [(5, .int 10), (4, .float 1149239296), (3, .int 0), (2, .int 0), (1, .int 127), (0, .int 1065353216)]) hx hb dX8_floatOfBits_64 hl (k := 1) rfl (by decide) (by decide) rfl (fun ls hl => ?_)
  refine lv_goto (tgt := 52) hx hb dX8_floatOfBits_67 (by decide) ?_
  refine lv_iload hx hb dX8_floatOfBits_52 (lv_at hl 0 rfl) ?_
  refine lv_if_le (tgt := 70) hx hb dX8_floatOfBits_54 (by decide) (fun h9 => absurd h9 (by decide)) (fun _ => ?_)
  refine lv_fload hx hb dX8_floatOfBits_57 (lv_at hl 1 rfl) ?_
  refine lv_ldcf hx hb hown (hts (.constantFloat RX8 248 (1056964608)) (by decide +kernel)) dX8_floatOfBits_59 ?_
  refine lv_fmul hx hb dX8_floatOfBits_61 (by unfold vf_n32; decide +kernel) ?_
  refine W.eq (g2 := F0 m 62 ls [.float 1140850688]) (by rw [show FP.fmul 1149239296 1056964608 = 1140850688 from by decide +kernel]) ?_
  refine lv_fstore (lv' := [(4, .float 1140850688), (5, .int 10), (3, .int 0), (2, .int 0), (1, .int 127), (0, .int 1065353216)]) hx hb dX8_floatOfBits_62 hl (by decide) rfl (fun ls hl => ?_)
  refine lv_iinc (v := 9) (lv' := [(5, .int 9), (4, .float 1140850688), (3, .int 0), (2, .int 0), (1, .int 127), (0, .int 1065353216)]) hx hb dX8_floatOfBits_64 hl (k := 1) rfl (by decide) (by decide) rfl (fun ls hl => ?_)
  refine lv_goto (tgt := 52) hx hb dX8_floatOfBits_67 (by decide) ?_
  refine lv_iload hx hb dX8_floatOfBits_52 (lv_at hl 0 rfl) ?_
  refine lv_if_le (tgt := 70) hx hb dX8_floatOfBits_54 (by decide) (fun h9 => absurd h9 (by decide)) (fun _ => ?_)
  refine lv_fload hx hb dX8_floatOfBits_57 (lv_at hl 1 rfl) ?_
  refine lv_ldcf hx hb hown (hts (.constantFloat RX8 248 (1056964608)) (by decide +kernel)) dX8_floatOfBits_59 ?_
  refine lv_fmul hx hb dX8_floatOfBits_61 (by unfold vf_n32; decide +kernel) ?_
  refine W.eq (g2 := F0 m 62 ls [.float 1132462080]) (by rw [show FP.fmul 1140850688 1056964608 = 1132462080 from by decide +kernel]) ?_
  refine lv_fstore (lv' := [(4, .float 1132462080), (5, .int 9), (3, .int 0), (2, .int 0), (1, .int 127), (0, .int 1065353216)]) hx hb dX8_floatOfBits_62 hl (by decide) rfl (fun ls hl => ?_)
  refine lv_iinc (v := 8) (lv' := [(5, .int 8), (4, .float 1132462080), (3, .int 0), (2, .int 0), (1, .int 127), (0, .int 1065353216)]) hx hb dX8_floatOfBits_64 hl (k := 1) rfl (by decide) (by decide) rfl (fun ls hl => ?_)
  refine lv_goto (tgt := 52) hx hb dX8_floatOfBits_67 (by decide) ?_
  refine lv_iload hx hb dX8_floatOfBits_52 (lv_at hl 0 rfl) ?_
  refine lv_if_le (tgt := 70) hx hb dX8_floatOfBits_54 (by decide) (fun h9 => absurd h9 (by decide)) (fun _ => ?_)
  refine lv_fload hx hb dX8_floatOfBits_57 (lv_at hl 1 rfl) ?_
  refine lv_ldcf hx hb hown (hts (.constantFloat RX8 248 (1056964608)) (by decide +kernel)) dX8_floatOfBits_59 ?_
  refine lv_fmul hx hb dX8_floatOfBits_61 (by unfold vf_n32; decide +kernel) ?_
  refine W.eq (g2 := F0 m 62 ls [.float 1124073472]) (by rw [show FP.fmul 1132462080 1056964608 = 1124073472 from by decide +kernel]) ?_
  refine lv_fstore (lv' := [(4, .float 1124073472), (5, .int 8), (3, .int 0), (2, .int 0), (1, .int 127), (0, .int 1065353216)]) hx hb dX8_floatOfBits_62 hl (by decide) rfl (fun ls hl => ?_)
  refine lv_iinc (v := 7) (lv' := [(5, .int 7), (4, .float 1124073472), (3, .int 0), (2, .int 0), (1, .int 127), (0, .int 1065353216)]) hx hb dX8_floatOfBits_64 hl (k := 1) rfl (by decide) (by decide) rfl (fun ls hl => ?_)
  refine lv_goto (tgt := 52) hx hb dX8_floatOfBits_67 (by decide) ?_
  refine lv_iload hx hb dX8_floatOfBits_52 (lv_at hl 0 rfl) ?_
  refine lv_if_le (tgt := 70) hx hb dX8_floatOfBits_54 (by decide) (fun h9 => absurd h9 (by decide)) (fun _ => ?_)
  refine lv_fload hx hb dX8_floatOfBits_57 (lv_at hl 1 rfl) ?_
  refine lv_ldcf hx hb hown (hts (.constantFloat RX8 248 (1056964608)) (by decide +kernel)) dX8_floatOfBits_59 ?_
  refine lv_fmul hx hb dX8_floatOfBits_61 (by unfold vf_n32; decide +kernel) ?_
  refine W.eq (g2 := F0 m 62 ls [.float 1115684864]) (by rw [show FP.fmul 1124073472 1056964608 = 1115684864 from by decide +kernel]) ?_
  refine lv_fstore (lv' := [(4, .float 1115684864), (5, .int 7), (3, .int 0), (2, .int 0), (1, .int 127), (0, .int 1065353216)]) hx hb dX8_floatOfBits_62 hl (by decide) rfl (fun ls hl => ?_)
  refine lv_iinc (v := 6) (lv' := [(5, .int 6), (4, .float 1115684864), (3, .int 0), (2, .int 0), (1, .int 127), (0, .int 1065353216)]) hx hb dX8_floatOfBits_64 hl (k := 1) rfl (by decide) (by decide) rfl (fun ls hl => ?_)
  refine lv_goto (tgt := 52) hx hb dX8_floatOfBits_67 (by decide) ?_
  refine lv_iload hx hb dX8_floatOfBits_52 (lv_at hl 0 rfl) ?_
  refine lv_if_le (tgt := 70) hx hb dX8_floatOfBits_54 (by decide) (fun h9 => absurd h9 (by decide)) (fun _ => ?_)
  refine lv_fload hx hb dX8_floatOfBits_57 (lv_at hl 1 rfl) ?_
  refine lv_ldcf hx hb hown (hts (.constantFloat RX8 248 (1056964608)) (by decide +kernel)) dX8_floatOfBits_59 ?_
  refine lv_fmul hx hb dX8_floatOfBits_61 (by unfold vf_n32; decide +kernel) ?_
  refine W.eq (g2 := F0 m 62 ls [.float 1107296256]) (by rw [show FP.fmul 1115684864 1056964608 = 1107296256 from by decide +kernel]) ?_
  refine lv_fstore (lv' := [(4, .float 1107296256), (5, .int 6), (3, .int 0), (2, .int 0), (1, .int 127), (0, .int 1065353216)]) hx hb dX8_floatOfBits_62 hl (by decide) rfl (fun ls hl => ?_)
  refine lv_iinc (v := 5) (lv' := [(5, .int 5), (4, .float 1107296256), (3, .int 0), (2, .int 0), (1, .int 127), (0, .int 1065353216)]) hx hb dX8_floatOfBits_64 hl (k := 1) rfl (by decide) (by decide) rfl (fun ls hl => ?_)
  refine lv_goto (tgt := 52) hx hb dX8_floatOfBits_67 (by decide) ?_
  refine lv_iload hx hb dX8_floatOfBits_52 (lv_at hl 0 rfl) ?_
  refine lv_if_le (tgt := 70) hx hb dX8_floatOfBits_54 (by decide) (fun h9 => absurd h9 (by decide)) (fun _ => ?_)
  refine lv_fload hx hb dX8_floatOfBits_57 (lv_at hl 1 rfl) ?_
  refine lv_ldcf hx hb hown (hts (.constantFloat RX8 248 (1056964608)) (by decide +kernel)) dX8_floatOfBits_59 ?_
  refine lv_fmul hx hb dX8_floatOfBits_61 (by unfold vf_n32; decide +kernel) ?_
  refine W.eq (g2 := F0 m 62 ls [.float 1098907648]) (by rw [show FP.fmul 1107296256 1056964608 = 1098907648 from by decide +kernel]) ?_
  refine lv_fstore (lv' := [(4, .float 1098907648), (5, .int 5), (3, .int 0), (2, .int 0), (1, .int 127), (0, .int 1065353216)]) hx hb dX8_floatOfBits_62 hl (by decide) rfl (fun ls hl => ?_)
  refine lv_iinc (v := 4) (lv' := [(5, .int 4), (4, .float 1098907648), (3, .int 0), (2, .int 0), (1, .int 127), (0, .int 1065353216)]) hx hb dX8_floatOfBits_64 hl (k := 1) rfl (by decide) (by decide) rfl (fun ls hl => ?_)
  refine lv_goto (tgt := 52) hx hb dX8_floatOfBits_67 (by decide) ?_
  refine lv_iload hx hb dX8_floatOfBits_52 (lv_at hl 0 rfl) ?_
  refine lv_if_le (tgt := 70) hx hb dX8_floatOfBits_54 (by decide) (fun h9 => absurd h9 (by decide)) (fun _ => ?_)
  refine lv_fload hx hb dX8_floatOfBits_57 (lv_at hl 1 rfl) ?_
  refine lv_ldcf hx hb hown (hts (.constantFloat RX8 248 (1056964608)) (by decide +kernel)) dX8_floatOfBits_59 ?_
  refine lv_fmul hx hb dX8_floatOfBits_61 (by unfold vf_n32; decide +kernel) ?_
  refine W.eq (g2 := F0 m 62 ls [.float 1090519040]) (by rw [show FP.fmul 1098907648 1056964608 = 1090519040 from by decide +kernel]) ?_
  refine lv_fstore (lv' := [(4, .float 1090519040), (5, .int 4), (3, .int 0), (2, .int 0), (1, .int 127), (0, .int 1065353216)]) hx hb dX8_floatOfBits_62 hl (by decide) rfl (fun ls hl => ?_)
  refine lv_iinc (v := 3) (lv' := [(5, .int 3), (4, .float 1090519040), (3, .int 0), (2, .int 0), (1, .int 127), (0, .int 1065353216)]) hx hb dX8_floatOfBits_64 hl (k := 1) rfl (by decide) (by decide) rfl (fun ls hl => ?_)
  refine lv_goto (tgt := 52) hx hb dX8_floatOfBits_67 (by decide) ?_
  refine lv_iload hx hb dX8_floatOfBits_52 (lv_at hl 0 rfl) ?_
  refine lv_if_le (tgt := 70) hx hb dX8_floatOfBits_54 (by decide) (fun h9 => absurd h9 (by decide)) (fun _ => ?_)
  refine lv_fload hx hb dX8_floatOfBits_57 (lv_at hl 1 rfl) ?_
  refine lv_ldcf hx hb hown (hts (.constantFloat RX8 248 (1056964608)) (by decide +kernel)) dX8_floatOfBits_59 ?_
  refine lv_fmul hx hb dX8_floatOfBits_61 (by unfold vf_n32; decide +kernel) ?_
  refine W.eq (g2 := F0 m 62 ls [.float 1082130432]) (by rw [show FP.fmul 1090519040 1056964608 = 1082130432 from by decide +kernel]) ?_
  refine lv_fstore (lv' := [(4, .float 1082130432), (5, .int 3), (3, .int 0), (2, .int 0), (1, .int 127), (0, .int 1065353216)]) hx hb dX8_floatOfBits_62 hl (by decide) rfl (fun ls hl => ?_)
  refine lv_iinc (v := 2) (lv' := [(5, .int 2), (4, .float 1082130432), (3, .int 0), (2, .int 0), (1, .int 127), (0, .int 1065353216)]) hx hb dX8_floatOfBits_64 hl (k := 1) rfl (by decide) (by decide) rfl (fun ls hl => ?_)
  refine lv_goto (tgt := 52) hx hb dX8_floatOfBits_67 (by decide) ?_
  refine lv_iload hx hb dX8_floatOfBits_52 (lv_at hl 0 rfl) ?_
  refine lv_if_le (tgt := 70) hx hb dX8_floatOfBits_54 (by decide) (fun h9 => absurd h9 (by decide)) (fun _ => ?_)
  refine lv_fload hx hb dX8_floatOfBits_57 (lv_at hl 1 rfl) ?_
  refine lv_ldcf hx hb hown (hts (.constantFloat RX8 248 (1056964608)) (by decide +kernel)) dX8_floatOfBits_59 ?_
  refine lv_fmul hx hb dX8_floatOfBits_61 (by unfold vf_n32; decide +kernel) ?_
  refine W.eq (g2 := F0 m 62 ls [.float 1073741824]) (by rw [show FP.fmul 1082130432 1056964608 = 1073741824 from by decide +kernel]) ?_
  refine lv_fstore (lv' := [(4, .float 1073741824), (5, .int 2), (3, .int 0), (2, .int 0), (1, .int 127), (0, .int 1065353216)]) hx hb dX8_floatOfBits_62 hl (by decide) rfl (fun ls hl => ?_)
  refine lv_iinc (v := 1) (lv' := [(5, .int 1), (4, .float 1073741824), (3, .int 0), (2, .int 0), (1, .int 127), (0, .int 1065353216)]) hx hb dX8_floatOfBits_64 hl (k := 1) rfl (by decide) (by decide) rfl (fun ls hl => ?_)
  refine lv_goto (tgt := 52) hx hb dX8_floatOfBits_67 (by decide) ?_
  refine lv_iload hx hb dX8_floatOfBits_52 (lv_at hl 0 rfl) ?_
  refine lv_if_le (tgt := 70) hx hb dX8_floatOfBits_54 (by decide) (fun h9 => absurd h9 (by decide)) (fun _ => ?_)
  refine lv_fload hx hb dX8_floatOfBits_57 (lv_at hl 1 rfl) ?_
  refine lv_ldcf hx hb hown (hts (.constantFloat RX8 248 (1056964608)) (by decide +kernel)) dX8_floatOfBits_59 ?_
  refine lv_fmul hx hb dX8_floatOfBits_61 (by unfold vf_n32; decide +kernel) ?_
  refine W.eq (g2 := F0 m 62 ls [.float 1065353216]) (by rw [show FP.fmul 1073741824 1056964608 = 1065353216 from by decide +kernel]) ?_
  refine lv_fstore (lv' := [(4, .float 1065353216), (5, .int 1), (3, .int 0), (2, .int 0), (1, .int 127), (0, .int 1065353216)]) hx hb dX8_floatOfBits_62 hl (by decide) rfl (fun ls hl => ?_)
  refine lv_iinc (v := 0) (lv' := [(5, .int 0), (4, .float 1065353216), (3, .int 0), (2, .int 0), (1, .int 127), (0, .int 1065353216)]) hx hb dX8_floatOfBits_64 hl (k := 1) rfl (by decide) (by decide) rfl (fun ls hl => ?_)
  refine lv_goto (tgt := 52) hx hb dX8_floatOfBits_67 (by decide) ?_
  refine lv_iload hx hb dX8_floatOfBits_52 (lv_at hl 0 rfl) ?_
  refine lv_if_le (tgt := 70) hx hb dX8_floatOfBits_54 (by decide) (fun _ => ?_) (fun h9 => absurd (by decide) h9)
  refine lv_fload hx hb dX8_floatOfBits_70 (lv_at hl 1 rfl) ?_
  exact en_rf hx hb hr hlocks hS rfl dX8_floatOfBits_72
set_option maxHeartbeats 4000000 in
set_option maxRecDepth 100000 in
/-- floatOfBits(1075838976) -/
theorem cX8_floatOfBits_1075838976 (l : Launch) (G : va_G) (cA : Nat → ClassId)  : Rf l yX8_floatOfBits wsX8_floatOfBits ({ frames := 0, cells := 0, slots := 0, locals := 0 } : Room) G cA [.int 1075838976] [] (fun r => r = 1075838976) := by
  refine ofW2 (cc := cX8_floatOfBits) (maxL := 6) (ret := (some .float)) (own := RX8) (by decide) rfl rfl (Nat.le_of_ble_eq_true rfl) rfl ?_
  intro p e s m below meth c ls hx hb hml hr hts hown hlocks hv hl
  obtain ⟨hP, hE, hD0⟩ := hv
  have hK := hE.1
  have hD := hD0
  generalize hH0 : s.heap = H at hP ⊢
  have hS : va_S (fun _ => False) s.heap H [] := hH0 ▸ va_S.rf
  generalize ([] : List Loc) = locs at hS ⊢
  clear hH0 hD0
  replace hl : lv_has ls 6 [(0, .int 1075838976)] := hl
  refine lv_iload_n hx hb dX8_floatOfBits_0 rfl (lv_at hl 0 rfl) ?_
  refine lv_bipush (v := 23) hx hb dX8_floatOfBits_1 (by decide) ?_
  refine lv_iushr (v := 128) hx hb dX8_floatOfBits_3 (by decide) ?_
  refine lv_istore_n (lv' := [(1, .int 128), (0, .int 1075838976)]) hx hb dX8_floatOfBits_4 rfl hl (by decide) rfl (fun ls hl => ?_)
  refine lv_iload_n hx hb dX8_floatOfBits_5 rfl (lv_at hl 1 rfl) ?_
  refine lv_ldc hx hb hown (hts (.constant RX8 246 (8388607)) (by decide +kernel)) dX8_floatOfBits_6 ?_
  refine lv_iand hx hb dX8_floatOfBits_8 ?_
  refine W.eq (g2 := F0 m 9 ls [.int 2097152]) rfl ?_
  refine lv_istore_n (lv' := [(2, .int 2097152), (1, .int 128), (0, .int 1075838976)]) hx hb dX8_floatOfBits_9 rfl hl (by decide) rfl (fun ls hl => ?_)
  refine lv_iload_n hx hb dX8_floatOfBits_10 rfl (lv_at hl 1 rfl) ?_
  refine lv_if_ne (tgt := 18) hx hb dX8_floatOfBits_11 (by decide) (fun _ => ?_) (fun h9 => absurd h9 (by decide))
  refine lv_iconst (v := 0) hx hb dX8_floatOfBits_18 (by decide) ?_
  refine lv_istore_n (lv' := [(3, .int 0), (2, .int 2097152), (1, .int 128), (0, .int 1075838976)]) hx hb dX8_floatOfBits_19 rfl hl (by decide) rfl (fun ls hl => ?_)
  refine lv_iload_n hx hb dX8_floatOfBits_20 rfl (lv_at hl 0 rfl) ?_
  refine lv_if_eq (tgt := 28) hx hb dX8_floatOfBits_21 (by decide) (fun _ => ?_) (fun h9 => absurd (by decide) h9)
  refine lv_iload_n hx hb dX8_floatOfBits_28 rfl (lv_at hl 1 rfl) ?_
  refine lv_ldc hx hb hown (hts (.constant RX8 247 (8388608)) (by decide +kernel)) dX8_floatOfBits_29 ?_
  refine lv_ior hx hb dX8_floatOfBits_31 ?_
  refine W.eq (g2 := F0 m 32 ls [.int 10485760]) rfl ?_
  refine lv_i2f hx hb dX8_floatOfBits_32 ?_
  refine W.eq (g2 := F0 m 33 ls [.float 1260388352]) (by rw [show FP.i2f 10485760 = 1260388352 from by decide +kernel]) ?_
  refine lv_fstore (lv' := [(4, .float 1260388352), (3, .int 0), (2, .int 2097152), (1, .int 128), (0, .int 1075838976)]) hx hb dX8_floatOfBits_33 hl (by decide) rfl (fun ls hl => ?_)
  refine lv_iload_n hx hb dX8_floatOfBits_35 rfl (lv_at hl 1 rfl) ?_
  refine lv_if_eq (tgt := 45) hx hb dX8_floatOfBits_36 (by decide) (fun _ => ?_) (fun h9 => absurd (by decide) h9)
  refine lv_sipush (v := 150) hx hb dX8_floatOfBits_45 (by decide) ?_
  refine lv_iload_n hx hb dX8_floatOfBits_48 rfl (lv_at hl 3 rfl) ?_
  refine lv_isub hx hb dX8_floatOfBits_49 ?_
  refine W.eq (g2 := F0 m 50 ls [.int 22]) rfl ?_
  refine lv_istore (lv' := [(5, .int 22), (4, .float 1260388352), (3, .int 0), (2, .int 2097152), (1, .int 128), (0, .int 1075838976)]) hx hb dX8_floatOfBits_50 hl (by decide) rfl (fun ls hl => ?_)
  refine lv_iload hx hb dX8_floatOfBits_52 (lv_at hl 0 rfl) ?_
  refine lv_if_le (tgt := 70) hx hb dX8_floatOfBits_54 (by decide) (fun h9 => absurd h9 (by decide)) (fun _ => ?_)
  refine lv_fload hx hb dX8_floatOfBits_57 (lv_at hl 1 rfl) ?_
  refine lv_ldcf hx hb hown (hts (.constantFloat RX8 248 (1056964608)) (by decide +kernel)) dX8_floatOfBits_59 ?_
  refine lv_fmul hx hb dX8_floatOfBits_61 (by unfold vf_n32; decide +kernel) ?_
  refine W.eq (g2 := F0 m 62 ls [.float 1251999744]) (by rw [show FP.fmul 1260388352 1056964608 = 1251999744 from by decide +kernel]) ?_
  refine lv_fstore (lv' := [(4, .float 1251999744), (5, .int 22), (3, .int 0), (2, .int 2097152), (1, .int 128), (0, .int 1075838976)]) hx hb dX8_floatOfBits_62 hl (by decide) rfl (fun ls hl => ?_)
  refine lv_iinc (v := 21) (lv' := [(5, .int 21), (4, .float 1251999744), (3, .int 0), (2, .int 2097152), (1, .int 128), (0, .int 1075838976)]) hx hb dX8_floatOfBits_64 hl (k := 1) rfl (by decide) (by decide) rfl (fun ls hl => ?_)
  refine lv_goto (tgt := 52) hx hb dX8_floatOfBits_67 (by decide) ?_
  refine lv_iload hx hb dX8_floatOfBits_52 (lv_at hl 0 rfl) ?_
  refine lv_if_le (tgt := 70) hx hb dX8_floatOfBits_54 (by decide) (fun h9 => absurd h9 (by decide)) (fun _ => ?_)
  refine lv_fload hx hb dX8_floatOfBits_57 (lv_at hl 1 rfl) ?_
  refine lv_ldcf hx hb hown (hts (.constantFloat RX8 248 (1056964608)) (by decide +kernel)) dX8_floatOfBits_59 ?_
  refine lv_fmul hx hb dX8_floatOfBits_61 (by unfold vf_n32; decide +kernel) ?_
  refine W.eq (g2 := F0 m 62 ls [.float 1243611136]) (by rw [show FP.fmul 1251999744 1056964608 = 1243611136 from by decide +kernel]) ?_
  refine lv_fstore (lv' := [(4, .float 1243611136), (5, .int 21), (3, .int 0), (2, .int 2097152), (1, .int 128), (0, .int 1075838976)]) hx hb dX8_floatOfBits_62 hl (by decide) rfl (fun ls hl => ?_)
  refine lv_iinc (v := 20) (lv' := [(5, .int 20), (4, .float 1243611136), (3, .int 0), (2, .int 2097152), (1, .int 128), (0, .int 1075838976)]) hx hb dX8_floatOfBits_64 hl (k := 1) rfl (by decide) (by decide) rfl (fun ls hl => ?_)
  refine lv_goto (tgt := 52) hx hb dX8_floatOfBits_67 (by decide) ?_
  refine lv_iload hx hb dX8_floatOfBits_52 (lv_at hl 0 rfl) ?_
  refine lv_if_le (tgt := 70) hx hb dX8_floatOfBits_54 (by decide) (fun h9 => absurd h9 (by decide)) (fun _ => ?_)
  refine lv_fload hx hb dX8_floatOfBits_57 (lv_at hl 1 rfl) ?_
  refine lv_ldcf hx hb hown (hts (.constantFloat RX8 248 (1056964608)) (by decide +kernel)) dX8_floatOfBits_59 ?_
  refine lv_fmul hx hb dX8_floatOfBits_61 (by unfold vf_n32; decide +kernel) ?_
  refine W.eq (g2 := F0 m 62 ls [.float 1235222528]) (by rw [show FP.fmul 1243611136 1056964608 = 1235222528 from by decide +kernel]) ?_
  refine lv_fstore (lv' := [(4, .float 1235222528), (5, .int 20), (3, .int 0), (2, .int 2097152), (1, .int 128), (0, .int 1075838976)]) hx hb dX8_floatOfBits_62 hl (by decide) rfl (fun ls hl => ?_)
  refine lv_iinc (v := 19) (lv' := [(5, .int 19), (4, .float 1235222528), (3, .int 0), (2, .int 2097152), (1, .int 128), (0, .int 1075838976)]) hx hb dX8_floatOfBits_64 hl (k := 1) rfl (by decide) (by decide) rfl (fun ls hl => ?_)
  refine lv_goto (tgt := 52) hx hb dX8_floatOfBits_67 (by decide) ?_
  refine lv_iload hx hb dX8_floatOfBits_52 (lv_at hl 0 rfl) ?_
  refine lv_if_le (tgt := 70) hx hb dX8_floatOfBits_54 (by decide) (fun h9 => absurd h9 (by decide)) (fun _ => ?_)
  refine lv_fload hx hb dX8_floatOfBits_57 (lv_at hl 1 rfl) ?_
  refine lv_ldcf hx hb hown (hts (.constantFloat RX8 248 (1056964608)) (by decide +kernel)) dX8_floatOfBits_59 ?_
  refine lv_fmul hx hb dX8_floatOfBits_61 (by unfold vf_n32; decide +kernel) ?_
  refine W.eq (g2 := F0 m 62 ls [.float 1226833920]) (by rw [show FP.fmul 1235222528 1056964608 = 1226833920 from by decide +kernel]) ?_
  refine lv_fstore (lv' := [(4, .float 1226833920), (5, .int 19), (3, .int 0), (2, .int 2097152), (1, .int 128), (0, .int 1075838976)]) hx hb dX8_floatOfBits_62 hl (by decide) rfl (fun ls hl => ?_)
  refine lv_iinc (v := 18) (lv' := [(5, .int 18), (4, .float 1226833920), (3, .int 0), (2, .int 2097152), (1, .int 128), (0, .int 1075838976)]) hx hb dX8_floatOfBits_64 hl (k := 1) rfl (by decide) (by decide) rfl (fun ls hl => ?_)
  refine lv_goto (tgt := 52) hx hb dX8_floatOfBits_67 (by decide) ?_
  refine lv_iload hx hb dX8_floatOfBits_52 (lv_at hl 0 rfl) ?_
  refine lv_if_le (tgt := 70) hx hb dX8_floatOfBits_54 (by decide) (fun h9 => absurd h9 (by decide)) (fun _ => ?_)
  refine lv_fload hx hb dX8_floatOfBits_57 (lv_at hl 1 rfl) ?_
  refine lv_ldcf hx hb hown (hts (.constantFloat RX8 248 (1056964608)) (by decide +kernel)) dX8_floatOfBits_59 ?_
  refine lv_fmul hx hb dX8_floatOfBits_61 (by unfold vf_n32; decide +kernel) ?_
  refine W.eq (g2 := F0 m 62 ls [.float 1218445312]) (by rw [show FP.fmul 1226833920 1056964608 = 1218445312 from by decide +kernel]) ?_
  refine lv_fstore (lv' := [(4, .float 1218445312), (5, .int 18), (3, .int 0), (2, .int 2097152), (1, .int 128), (0, .int 1075838976)]) hx hb dX8_floatOfBits_62 hl (by decide) rfl (fun ls hl => ?_)
  refine lv_iinc (v := 17) (lv' := [(5, .int 17), (4, .float 1218445312), (3, .int 0), (2, .int 2097152), (1, .int 128), (0, .int 1075838976)]) hx hb dX8_floatOfBits_64 hl (k := 1) rfl (by decide) (by decide) rfl (fun ls hl => ?_)
  refine lv_goto (tgt := 52) hx hb dX8_floatOfBits_67 (by decide) ?_
  refine lv_iload hx hb dX8_floatOfBits_52 (lv_at hl 0 rfl) ?_
  refine lv_if_le (tgt := 70) hx hb dX8_floatOfBits_54 (by decide) (fun h9 => absurd h9 (by decide)) (fun _ => ?_)
  refine lv_fload hx hb dX8_floatOfBits_57 (lv_at hl 1 rfl) ?_
  refine lv_ldcf hx hb hown (hts (.constantFloat RX8 248 (1056964608)) (by decide +kernel)) dX8_floatOfBits_59 ?_
  refine lv_fmul hx hb dX8_floatOfBits_61 (by unfold vf_n32; decide +kernel) ?_
  refine W.eq (g2 := F0 m 62 ls [.float 1210056704]) (by rw [show FP.fmul 1218445312 1056964608 = 1210056704 from by decide +kernel]) ?_
  refine lv_fstore (lv' := [(4, .float 1210056704), (5, .int 17), (3, .int 0), (2, .int 2097152), (1, .int 128), (0, .int 1075838976)]) hx hb dX8_floatOfBits_62 hl (by decide) rfl (fun ls hl => ?_)
  refine lv_iinc (v := 16) (lv' := [(5, .int 16), (4, .float 1210056704), (3, .int 0), (2, .int 2097152), (1, .int 128), (0, .int 1075838976)]) hx hb dX8_floatOfBits_64 hl (k := 1) rfl (by decide) (by decide) rfl (fun ls hl => ?_)
  refine lv_goto (tgt := 52) hx hb dX8_floatOfBits_67 (by decide) ?_
  refine lv_iload hx hb dX8_floatOfBits_52 (lv_at hl 0 rfl) ?_
  refine lv_if_le (tgt := 70) hx hb dX8_floatOfBits_54 (by decide) (fun h9 => absurd h9 (by decide)) (fun _ => ?_)
  refine lv_fload hx hb dX8_floatOfBits_57 (lv_at hl 1 rfl) ?_
  refine lv_ldcf hx hb hown (hts (.constantFloat RX8 248 (1056964608)) (by decide +kernel)) dX8_floatOfBits_59 ?_
  refine lv_fmul hx hb dX8_floatOfBits_61 (by unfold vf_n32; decide +kernel) ?_
  refine W.eq (g2 := F0 m 62 ls [.float 1201668096]) (by rw [show FP.fmul 1210056704 1056964608 = 1201668096 from by decide +kernel]) ?_
  refine lv_fstore (lv' := [(4, .float 1201668096), (5, .int 16), (3, .int 0), (2, .int 2097152), (1, .int 128), (0, .int 1075838976)]) hx hb dX8_floatOfBits_62 hl (by decide) rfl (fun ls hl => ?_)
  refine lv_iinc (v := 15) (lv' := [(5, .int 15), (4, .float 1201668096), (3, .int 0), (2, .int 2097152), (1, .int 128), (0, .int 1075838976)]) hx hb dX8_floatOfBits_64 hl (k := 1) rfl (by decide) (by decide) rfl (fun ls hl => ?_)
  refine lv_goto (tgt := 52) hx hb dX8_floatOfBits_67 (by decide) ?_
  refine lv_iload hx hb dX8_floatOfBits_52 (lv_at hl 0 rfl) ?_
  refine lv_if_le (tgt := 70) hx hb dX8_floatOfBits_54 (by decide) (fun h9 => absurd h9 (by decide)) (fun _ => ?_)
  refine lv_fload hx hb dX8_floatOfBits_57 (lv_at hl 1 rfl) ?_
  refine lv_ldcf hx hb hown (hts (.constantFloat RX8 248 (1056964608)) (by decide +kernel)) dX8_floatOfBits_59 ?_
  refine lv_fmul hx hb dX8_floatOfBits_61 (by unfold vf_n32; decide +kernel) ?_
  refine W.eq (g2 := F0 m 62 ls [.float 1193279488]) (by rw [show FP.fmul 1201668096 1056964608 = 1193279488 from by decide +kernel]) ?_
  refine lv_fstore (lv' := [(4, .float 1193279488), (5, .int 15), (3, .int 0), (2, .int 2097152), (1, .int 128), (0, .int 1075838976)]) hx hb dX8_floatOfBits_62 hl (by decide) rfl (fun ls hl => ?_)
  refine lv_iinc (v := 14) (lv' := [(5, .int 14), (4, .float 1193279488), (3, .int 0), (2, .int 2097152), (1, .int 128), (0, .int 1075838976)]) hx hb dX8_floatOfBits_64 hl (k := 1) rfl (by decide) (by decide) rfl (fun ls hl => ?_)
  refine lv_goto (tgt := 52) hx hb dX8_floatOfBits_67 (by decide) ?_
  refine lv_iload hx hb dX8_floatOfBits_52 (lv_at hl 0 rfl) ?_
  refine lv_if_le (tgt := 70) hx hb dX8_floatOfBits_54 (by decide) (fun h9 => absurd h9 (by decide)) (fun _ => ?_)
  refine lv_fload hx hb dX8_floatOfBits_57 (lv_at hl 1 rfl) ?_
  refine lv_ldcf hx hb hown (hts (.constantFloat RX8 248 (1056964608)) (by decide +kernel)) dX8_floatOfBits_59 ?_
  refine lv_fmul hx hb dX8_floatOfBits_61 (by unfold vf_n32; decide +kernel) ?_
  refine W.eq (g2 := F0 m 62 ls [.float 1184890880]) (by rw [show FP.fmul 1193279488 1056964608 = 1184890880 from by decide +kernel]) ?_
  refine lv_fstore (lv' := [(4, .float 1184890880), (5, .int 14), (3, .int 0), (2, .int 2097152), (1, .int 128), (0, .int 1075838976)]) hx hb dX8_floatOfBits_62 hl (by decide) rfl (fun ls hl => ?_)
  refine lv_iinc (v := 13) (lv' := [(5, .int 13), (4, .float 1184890880), (3, .int 0), (2, .int 2097152), (1, .int 128), (0, .int 1075838976)]) hx hb dX8_floatOfBits_64 hl (k := 1) rfl (by decide) (by decide) rfl (fun ls hl => ?_)
  refine lv_goto (tgt := 52) hx hb dX8_floatOfBits_67 (by decide) ?_
  refine lv_iload hx hb dX8_floatOfBits_52 (lv_at hl 0 rfl) ?_
  refine lv_if_le (tgt := 70) hx hb dX8_floatOfBits_54 (by decide) (fun h9 => absurd h9 (by decide)) (fun _ => ?_)
  refine lv_fload hx hb dX8_floatOfBits_57 (lv_at hl 1 rfl) ?_
  refine lv_ldcf hx hb hown (hts (.constantFloat RX8 248 (1056964608)) (by decide +kernel)) dX8_floatOfBits_59 ?_
  refine lv_fmul hx hb dX8_floatOfBits_61 (by unfold vf_n32; decide +kernel) ?_
  refine W.eq (g2 := F0 m 62 ls [.float 1176502272]) (by rw [show FP.fmul 1184890880 1056964608 = 1176502272 from by decide +kernel]) ?_
  refine lv_fstore (lv' := [(4, .float 1176502272), (5, .int 13), (3, .int 0), (2, .int 2097152), (1, .int 128), (0, .int 1075838976)]) hx hb dX8_floatOfBits_62 hl (by decide) rfl (fun ls hl => ?_)
  refine lv_iinc (v := 12) (lv' := [(5, .int 12), (4, .float 1176502272), (3, .int 0), (2, .int 2097152), (1, .int 128), (0, .int 1075838976)]) hx hb dX8_floatOfBits_64 hl (k := 1) rfl (by decide) (by decide) rfl (fun ls hl => ?_)
  refine lv_goto (tgt := 52) hx hb dX8_floatOfBits_67 (by decide) ?_
  refine lv_iload hx hb dX8_floatOfBits_52 (lv_at hl 0 rfl) ?_
  refine lv_if_le (tgt := 70) hx hb dX8_floatOfBits_54 (by decide) (fun h9 => absurd h9 (by decide)) (fun _ => ?_)
  refine lv_fload hx hb dX8_floatOfBits_57 (lv_at hl 1 rfl) ?_
  refine lv_ldcf hx hb hown (hts (.constantFloat RX8 248 (1056964608)) (by decide +kernel)) dX8_floatOfBits_59 ?_
  refine lv_fmul hx hb dX8_floatOfBits_61 (by unfold vf_n32; decide +kernel) ?_
  refine W.eq (g2 := F0 m 62 ls [.float 1168113664]) (by rw [show FP.fmul 1176502272 1056964608 = 1168113664 from by decide +kernel]) ?_
  refine lv_fstore (lv' := [(4, .float 1168113664), (5, .int 12), (3, .int 0), (2, .int 2097152), (1, .int 128), (0, .int 1075838976)]) hx hb dX8_floatOfBits_62 hl (by decide) rfl (fun ls hl => ?_)
  refine lv_iinc (v := 11) (lv' := [(5, .int 11), (4, .float 1168113664), (3, .int 0), (2, .int 2097152), (1, .int 128), (0, .int 1075838976)]) hx hb dX8_floatOfBits_64 hl (k := 1) rfl (by decide) (by decide) rfl (fun ls hl => ?_)
  refine lv_goto (tgt := 52) hx hb dX8_floatOfBits_67 (by decide) ?_
  refine lv_iload hx hb dX8_floatOfBits_52 (lv_at hl 0 rfl) ?_
  refine lv_if_le (tgt := 70) hx hb dX8_floatOfBits_54 (by decide) (fun h9 => absurd h9 (by decide)) (fun _ => ?_)
  refine lv_fload hx hb dX8_floatOfBits_57 (lv_at hl 1 rfl) ?_
  refine lv_ldcf hx hb hown (hts (.constantFloat RX8 248 (1056964608)) (by decide +kernel)) dX8_floatOfBits_59 ?_
  refine lv_fmul hx hb dX8_floatOfBits_61 (by unfold vf_n32; decide +kernel) ?_
  refine W.eq (g2 := F0 m 62 ls [.float 1159725056]) (by rw [show FP.fmul 1168113664 1056964608 = 1159725056 from by decide +kernel]) ?_
  refine lv_fstore (lv' := [(4, .float 1159725056), (5, .int 11), (3, .int 0), (2, .int 2097152), (1, .int 128), (0, .int 1075838976)]) hx hb dX8_floatOfBits_62 hl (by decide) rfl (fun ls hl => ?_)
  refine lv_iinc (v := 10) (lv' := [(5, .int 10), (4, .float 1159725056), (3, .int 0), (2, .int 2097152), (1, .int 128), (0, .int 1075838976)]) hx hb dX8_floatOfBits_64 hl (k := 1) rfl (by decide) (by decide) rfl (fun ls hl => ?_)
  refine lv_goto (tgt := 52) hx hb dX8_floatOfBits_67 (by decide) ?_
  refine lv_iload hx hb dX8_floatOfBits_52 (lv_at hl 0 rfl) ?_
  refine lv_if_le (tgt := 70) hx hb dX8_floatOfBits_54 (by decide) (fun h9 => absurd h9 (by decide)) (fun _ => ?_)
  refine lv_fload hx hb dX8_floatOfBits_57 (lv_at hl 1 rfl) ?_
  refine lv_ldcf hx hb hown (hts (.constantFloat RX8 248 (1056964608)) (by decide +kernel)) dX8_floatOfBits_59 ?_
  refine lv_fmul hx hb dX8_floatOfBits_61 (by unfold vf_n32; decide +kernel) ?_
  refine W.eq (g2 := F0 m 62 ls [.float 1151336448]) (by rw [show FP.fmul 1159725056 1056964608 = 1151336448 from by decide +kernel]) ?_
  refine lv_fstore (lv' := [(4, .float 1151336448), (5, .int 10), (3, .int 0), (2, .int 2097152), (1, .int 128), (0, .int 1075838976)]) hx hb dX8_floatOfBits_62 hl (by decide) rfl (fun ls hl => ?_)
  refine lv_iinc (v := 9) (lv' := [(5, .int 9), (4, .float 1151336448), (3, .int 0), (2, .int 2097152), (1, .int 128), (0, .int 1075838976)]) hx hb dX8_floatOfBits_64 hl (k := 1) rfl (by decide) (by decide) rfl (fun ls hl => ?_)
  refine lv_goto (tgt := 52) hx hb dX8_floatOfBits_67 (by decide) ?_
  refine lv_iload hx hb dX8_floatOfBits_52 (lv_at hl 0 rfl) ?_
  refine lv_if_le (tgt := 70) hx hb dX8_floatOfBits_54 (by decide) (fun h9 => absurd h9 (by decide)) (fun _ => ?_)
  refine lv_fload hx hb dX8_floatOfBits_57 (lv_at hl 1 rfl) ?_
  refine lv_ldcf hx hb hown (hts (.constantFloat RX8 248 (1056964608)) (by decide +kernel)) dX8_floatOfBits_59 ?_
  refine lv_fmul hx hb dX8_floatOfBits_61 (by unfold vf_n32; decide +kernel) ?_
  refine W.eq (g2 := F0 m 62 ls [.float 1142947840]) (by rw [show FP.fmul 1151336448 1056964608 = 1142947840 from by decide +kernel]) ?_
  refine lv_fstore (lv' := [(4, .float 1142947840), (5, .int 9), (3, .int 0), (2, .int 2097152), (1, .int 128), (0, .int 1075838976)]) hx hb dX8_floatOfBits_62 hl (by decide) rfl (fun ls hl => ?_)
  refine lv_iinc (v := 8) (lv' := [(5, .int 8), (4, .float 1142947840), (3, .int 0), (2, .int 2097152), (1, .int 128), (0, .int 1075838976)]) hx hb dX8_floatOfBits_64 hl (k := 1) rfl (by decide) (by decide) rfl (fun ls hl => ?_)
  refine lv_goto (tgt := 52) hx hb dX8_floatOfBits_67 (by decide) ?_
  refine lv_iload hx hb dX8_floatOfBits_52 (lv_at hl 0 rfl) ?_
  refine lv_if_le (tgt := 70) hx hb dX8_floatOfBits_54 (by decide) (fun h9 => absurd h9 (by decide)) (fun _ => ?_)
  refine lv_fload hx hb dX8_floatOfBits_57 (lv_at hl 1 rfl) ?_
  refine lv_ldcf hx hb hown (hts (.constantFloat RX8 248 (1056964608)) (by decide +kernel)) dX8_floatOfBits_59 ?_
  refine lv_fmul hx hb dX8_floatOfBits_61 (by unfold vf_n32; decide +kernel) ?_
  refine W.eq (g2 := F0 m 62 ls [.float 1134559232]) (by rw [show FP.fmul 1142947840 1056964608 = 1134559232 from by decide +kernel]) ?_
  refine lv_fstore (lv' := [(4, .float 1134559232), (5, .int 8), (3, .int 0), (2, .int 2097152), (1, .int 128), (0, .int 1075838976)]) hx hb dX8_floatOfBits_62 hl (by decide) rfl (fun ls hl => ?_)
  refine lv_iinc (v := 7) (lv' := [(5, .int 7), (4, .float 1134559232), (3, .int 0), (2, .int 2097152), (1, .int 128), (0, .int 1075838976)]) hx hb dX8_floatOfBits_64 hl (k := 1) rfl (by decide) (by decide) rfl (fun ls hl => ?_)
  refine lv_goto (tgt := 52) hx hb dX8_floatOfBits_67 (by decide) ?_
  refine lv_iload hx hb dX8_floatOfBits_52 (lv_at hl 0 rfl) ?_
  refine lv_if_le (tgt := 70) hx hb dX8_floatOfBits_54 (by decide) (fun h9 => absurd h9 (by decide)) (fun _ => ?_)
  refine lv_fload hx hb dX8_floatOfBits_57 (lv_at hl 1 rfl) ?_
  refine lv_ldcf hx hb hown (hts (.constantFloat RX8 248 (1056964608)) (by decide +kernel)) dX8_floatOfBits_59 ?_
  refine lv_fmul hx hb dX8_floatOfBits_61 (by unfold vf_n32; decide +kernel) ?_
  refine W.eq (g2 := F0 m 62 ls [.float 1126170624]) (by rw [show FP.fmul 1134559232 1056964608 = 1126170624 from by decide +kernel]) ?_
  refine lv_fstore (lv' := [(4, .float 1126170624), (5, .int 7), (3, .int 0), (2, .int 2097152), (1, .int 128), (0, .int 1075838976)]) hx hb dX8_floatOfBits_62 hl (by decide) rfl (fun ls hl => ?_)
  refine lv_iinc (v := 6) (lv' := [(5, .int 6), (4, .float 1126170624), (3, .int 0), (2, .int 2097152), (1, .int 128), (0, .int 1075838976)]) hx hb dX8_floatOfBits_64 hl (k := 1) rfl (by decide) (by decide) rfl (fun ls hl => ?_)
  refine lv_goto (tgt := 52) hx hb dX8_floatOfBits_67 (by decide) ?_
  refine lv_iload hx hb dX8_floatOfBits_52 (lv_at hl 0 rfl) ?_
  refine lv_if_le (tgt := 70) hx hb dX8_floatOfBits_54 (by decide) (fun h9 => absurd h9 (by decide)) (fun _ => ?_)
  refine lv_fload hx hb dX8_floatOfBits_57 (lv_at hl 1 rfl) ?_
  refine lv_ldcf hx hb hown (hts (.constantFloat RX8 248 (1056964608)) (by decide +kernel)) dX8_floatOfBits_59 ?_
  refine lv_fmul hx hb dX8_floatOfBits_61 (by unfold vf_n32; decide +kernel) ?_
  refine W.eq (g2 := F0 m 62 ls [.float 1117782016]) (by rw [show FP.fmul 1126170624 1056964608 = 1117782016 from by decide +kernel]) ?_
  refine lv_fstore (lv' := [(4, .float 1117782016), (5, .int 6), (3, .int 0), (2, .int 2097152), (1, .int 128), (0, .int 1075838976)]) hx hb dX8_floatOfBits_62 hl (by decide) rfl (fun ls hl => ?_)
  refine lv_iinc (v := 5) (lv' := [(5, .int 5), (4, .float 1117782016), (3, .int 0), (2, .int 2097152), (1, .int 128), (0, .int 1075838976)]) hx hb dX8_floatOfBits_64 hl (k := 1) rfl (by decide) (by decide) rfl (fun ls hl => ?_)
  refine lv_goto (tgt := 52) hx hb dX8_floatOfBits_67 (by decide) ?_
  refine lv_iload hx hb dX8_floatOfBits_52 (lv_at hl 0 rfl) ?_
  refine lv_if_le (tgt := 70) hx hb dX8_floatOfBits_54 (by decide) (fun h9 => absurd h9 (by decide)) (fun _ => ?_)
  refine lv_fload hx hb dX8_floatOfBits_57 (lv_at hl 1 rfl) ?_
  refine lv_ldcf hx hb hown (hts (.constantFloat RX8 248 (1056964608)) (by decide +kernel)) dX8_floatOfBits_59 ?_
  refine lv_fmul hx hb dX8_floatOfBits_61 (by unfold vf_n32; decide +kernel) ?_
  refine W.eq (g2 := F0 m 62 ls [.float 1109393408]) (by rw [show FP.fmul 1117782016 1056964608 = 1109393408 from by decide +kernel]) ?_
  refine lv_fstore (lv' := [(4, .float 1109393408), (5, .int 5), (3, .int 0), (2, .int 2097152), (1, .int 128), (0, .int 1075838976)]) hx hb dX8_floatOfBits_62 hl (by decide) rfl (fun ls hl => ?_)
  refine lv_iinc (v := 4) (lv' := [(5, .int 4), (4, .float 1109393408), (3, .int 0), (2, .int 2097152), (1, .int 128), (0, .int 1075838976)]) hx hb dX8_floatOfBits_64 hl (k := 1) rfl (by decide) (by decide) rfl (fun ls hl => ?_)
  refine lv_goto (tgt := 52) hx hb dX8_floatOfBits_67 (by decide) ?_
  refine lv_iload hx hb dX8_floatOfBits_52 (lv_at hl 0 rfl) ?_
  refine lv_if_le (tgt := 70) hx hb dX8_floatOfBits_54 (by decide) (fun h9 => absurd h9 (by decide)) (fun _ => ?_)
  refine lv_fload hx hb dX8_floatOfBits_57 (lv_at hl 1 rfl) ?_
  refine lv_ldcf hx hb hown (hts (.constantFloat RX8 248 (1056964608)) (by decide +kernel)) dX8_floatOfBits_59 ?_
  refine lv_fmul hx hb dX8_floatOfBits_61 (by unfold vf_n32; decide +kernel) ?_
  refine W.eq (g2 := F0 m 62 ls [.float 1101004800]) (by rw [show FP.fmul 1109393408 1056964608 = 1101004800 from by decide +kernel]) ?_
  refine lv_fstore (lv' := [(4, .float 1101004800), (5, .int 4), (3, .int 0), (2, .int 2097152), (1, .int 128), (0, .int 1075838976)]) hx hb dX8_floatOfBits_62 hl (by decide) rfl (fun ls hl => ?_)
  refine lv_iinc (v := 3) (lv' := [(5, .int 3), (4, .float 1101004800), (3, .int 0), (2, .int 2097152), (1, .int 128), (0, .int 1075838976)]) hx hb dX8_floatOfBits_64 hl (k := 1) rfl (by decide) (by decide) rfl (fun ls hl => ?_)
  refine lv_goto (tgt := 52) hx hb dX8_floatOfBits_67 (by decide) ?_
  refine lv_iload hx hb dX8_floatOfBits_52 (lv_at hl 0 rfl) ?_
  refine lv_if_le (tgt := 70) hx hb dX8_floatOfBits_54 (by decide) (fun h9 => absurd h9 (by decide)) (fun _ => ?_)
  refine lv_fload hx hb dX8_floatOfBits_57 (lv_at hl 1 rfl) ?_
  refine lv_ldcf hx hb hown (hts (.constantFloat RX8 248 (1056964608)) (by decide +kernel)) dX8_floatOfBits_59 ?_
  refine lv_fmul hx hb dX8_floatOfBits_61 (by unfold vf_n32; decide +kernel) ?_
  refine W.eq (g2 := F0 m 62 ls [.float 1092616192]) (by rw [show FP.fmul 1101004800 1056964608 = 1092616192 from by decide +kernel]) ?_
  refine lv_fstore (lv' := [(4, .float 1092616192), (5, .int 3), (3, .int 0), (2, .int 2097152), (1, .int 128), (0, .int 1075838976)]) hx hb dX8_floatOfBits_62 hl (by decide) rfl (fun ls hl => ?_)
  refine lv_iinc (v := 2) (lv' := [(5, .int 2), (4, .float 1092616192), (3, .int 0), (2, .int 2097152), (1, .int 128), (0, .int 1075838976)]) hx hb dX8_floatOfBits_64 hl (k := 1) rfl (by decide) (by decide) rfl (fun ls hl => ?_)
  refine lv_goto (tgt := 52) hx hb dX8_floatOfBits_67 (by decide) ?_
  refine lv_iload hx hb dX8_floatOfBits_52 (lv_at hl 0 rfl) ?_
  refine lv_if_le (tgt := 70) hx hb dX8_floatOfBits_54 (by decide) (fun h9 => absurd h9 (by decide)) (fun _ => ?_)
  refine lv_fload hx hb dX8_floatOfBits_57 (lv_at hl 1 rfl) ?_
  refine lv_ldcf hx hb hown (hts (.constantFloat RX8 248 (1056964608)) (by decide +kernel)) dX8_floatOfBits_59 ?_
  refine lv_fmul hx hb dX8_floatOfBits_61 (by unfold vf_n32; decide +kernel) ?_
  refine W.eq (g2 := F0 m 62 ls [.float 1084227584]) (by rw [show FP.fmul 1092616192 1056964608 = 1084227584 from by decide +kernel]) ?_
  refine lv_fstore (lv' := [(4, .float 1084227584), (5, .int 2), (3, .int 0), (2, .int 2097152), (1, .int 128), (0, .int 1075838976)]) hx hb dX8_floatOfBits_62 hl (by decide) rfl (fun ls hl => ?_)
  refine lv_iinc (v := 1) (lv' := [(5, .int 1), (4, .float 1084227584), (3, .int 0), (2, .int 2097152), (1, .int 128), (0, .int 1075838976)]) hx hb dX8_floatOfBits_64 hl (k := 1) rfl (by decide) (by decide) rfl (fun ls hl => ?_)
  refine lv_goto (tgt := 52) hx hb dX8_floatOfBits_67 (by decide) ?_
  refine lv_iload hx hb dX8_floatOfBits_52 (lv_at hl 0 rfl) ?_
  refine lv_if_le (tgt := 70) hx hb dX8_floatOfBits_54 (by decide) (fun h9 => absurd h9 (by decide)) (fun _ => ?_)
  refine lv_fload hx hb dX8_floatOfBits_57 (lv_at hl 1 rfl) ?_
  refine lv_ldcf hx hb hown (hts (.constantFloat RX8 248 (1056964608)) (by decide +kernel)) dX8_floatOfBits_59 ?_
  refine lv_fmul hx hb dX8_floatOfBits_61 (by unfold vf_n32; decide +kernel) ?_
  refine W.eq (g2 := F0 m 62 ls [.float 1075838976]) (by rw [show FP.fmul 1084227584 1056964608 = 1075838976 from by decide +kernel]) ?_
  refine lv_fstore (lv' := [(4, .float 1075838976), (5, .int 1), (3, .int 0), (2, .int 2097152), (1, .int 128), (0, .int 1075838976)]) hx hb dX8_floatOfBits_62 hl (by decide) rfl (fun ls hl => ?_)
  refine lv_iinc (v := 0) (lv' := [(5, .int 0), (4, .float 1075838976), (3, .int 0), (2, .int 2097152), (1, .int 128), (0, .int 1075838976)]) hx hb dX8_floatOfBits_64 hl (k := 1) rfl (by decide) (by decide) rfl (fun ls hl => ?_)
  refine lv_goto (tgt := 52) hx hb dX8_floatOfBits_67 (by decide) ?_
  refine lv_iload hx hb dX8_floatOfBits_52 (lv_at hl 0 rfl) ?_
  refine lv_if_le (tgt := 70) hx hb dX8_floatOfBits_54 (by decide) (fun _ => ?_) (fun h9 => absurd (by decide) h9)
  refine lv_fload hx hb dX8_floatOfBits_70 (lv_at hl 1 rfl) ?_
  exact en_rf hx hb hr hlocks hS rfl dX8_floatOfBits_72
set_option maxHeartbeats 4000000 in
set_option maxRecDepth 100000 in
/-- floatOfBits(1092616192) -/
theorem cX8_floatOfBits_1092616192 (l : Launch) (G : va_G) (cA : Nat → ClassId)  : Rf l yX8_floatOfBits wsX8_floatOfBits ({ frames := 0, cells := 0, slots := 0, locals := 0 } : Room) G cA [.int 1092616192] [] (fun r => r = 1092616192) := by
  refine ofW2 (cc := cX8_floatOfBits) (maxL := 6) (ret := (some .float)) (own := RX8) (by decide) rfl rfl (Nat.le_of_ble_eq_true rfl) rfl ?_
  intro p e s m below meth c ls hx hb hml hr hts hown hlocks hv hl
  obtain ⟨hP, hE, hD0⟩ := hv
  have hK := hE.1
  have hD := hD0
  generalize hH0 : s.heap = H at hP ⊢
  have hS : va_S (fun _ => False) s.heap H [] := hH0 ▸ va_S.rf
  generalize ([] : List Loc) = locs at hS ⊢
  clear hH0 hD0
  replace hl : lv_has ls 6 [(0, .int 1092616192)] := hl
  refine lv_iload_n hx hb dX8_floatOfBits_0 rfl (lv_at hl 0 rfl) ?_
  refine lv_bipush (v := 23) hx hb dX8_floatOfBits_1 (by decide) ?_
  refine lv_iushr (v := 130) hx hb dX8_floatOfBits_3 (by decide) ?_
  refine lv_istore_n (lv' := [(1, .int 130), (0, .int 1092616192)]) hx hb dX8_floatOfBits_4 rfl hl (by decide) rfl (fun ls hl => ?_)
  refine lv_iload_n hx hb dX8_floatOfBits_5 rfl (lv_at hl 1 rfl) ?_
  refine lv_ldc hx hb hown (hts (.constant RX8 246 (8388607)) (by decide +kernel)) dX8_floatOfBits_6 ?_
  refine lv_iand hx hb dX8_floatOfBits_8 ?_
  refine W.eq (g2 := F0 m 9 ls [.int 2097152]) rfl ?_
  refine lv_istore_n (lv' := [(2, .int 2097152), (1, .int 130), (0, .int 1092616192)]) hx hb dX8_floatOfBits_9 rfl hl (by decide) rfl (fun ls hl => ?_)
  refine lv_iload_n hx hb dX8_floatOfBits_10 rfl (lv_at hl 1 rfl) ?_
  refine lv_if_ne (tgt := 18) hx hb dX8_floatOfBits_11 (by decide) (fun _ => ?_) (fun h9 => absurd h9 (by decide))
  refine lv_iconst (v := 0) hx hb dX8_floatOfBits_18 (by decide) ?_
  refine lv_istore_n (lv' := [(3, .int 0), (2, .int 2097152), (1, .int 130), (0, .int 1092616192)]) hx hb dX8_floatOfBits_19 rfl hl (by decide) rfl (fun ls hl => ?_)
  refine lv_iload_n hx hb dX8_floatOfBits_20 rfl (lv_at hl 0 rfl) ?_
  refine lv_if_eq (tgt := 28) hx hb dX8_floatOfBits_21 (by decide) (fun _ => ?_) (fun h9 => absurd (by decide) h9)
  refine lv_iload_n hx hb dX8_floatOfBits_28 rfl (lv_at hl 1 rfl) ?_
  refine lv_ldc hx hb hown (hts (.constant RX8 247 (8388608)) (by decide +kernel)) dX8_floatOfBits_29 ?_
  refine lv_ior hx hb dX8_floatOfBits_31 ?_
  refine W.eq (g2 := F0 m 32 ls [.int 10485760]) rfl ?_
  refine lv_i2f hx hb dX8_floatOfBits_32 ?_
  refine W.eq (g2 := F0 m 33 ls [.float 1260388352]) (by rw [show FP.i2f 10485760 = 1260388352 from by decide +kernel]) ?_
  refine lv_fstore (lv' := [(4, .float 1260388352), (3, .int 0), (2, .int 2097152), (1, .int 130), (0, .int 1092616192)]) hx hb dX8_floatOfBits_33 hl (by decide) rfl (fun ls hl => ?_)
  refine lv_iload_n hx hb dX8_floatOfBits_35 rfl (lv_at hl 1 rfl) ?_
  refine lv_if_eq (tgt := 45) hx hb dX8_floatOfBits_36 (by decide) (fun _ => ?_) (fun h9 => absurd (by decide) h9)
  refine lv_sipush (v := 150) hx hb dX8_floatOfBits_45 (by decide) ?_
  refine lv_iload_n hx hb dX8_floatOfBits_48 rfl (lv_at hl 3 rfl) ?_
  refine lv_isub hx hb dX8_floatOfBits_49 ?_
  refine W.eq (g2 := F0 m 50 ls [.int 20]) rfl ?_
  refine lv_istore (lv' := [(5, .int 20), (4, .float 1260388352), (3, .int 0), (2, .int 2097152), (1, .int 130), (0, .int 1092616192)]) hx hb dX8_floatOfBits_50 hl (by decide) rfl (fun ls hl => ?_)
  refine lv_iload hx hb dX8_floatOfBits_52 (lv_at hl 0 rfl) ?_
  refine lv_if_le (tgt := 70) hx hb dX8_floatOfBits_54 (by decide) (fun h9 => absurd h9 (by decide)) (fun _ => ?_)
  refine lv_fload hx hb dX8_floatOfBits_57 (lv_at hl 1 rfl) ?_
  refine lv_ldcf hx hb hown (hts (.constantFloat RX8 248 (1056964608)) (by decide +kernel)) dX8_floatOfBits_59 ?_
  refine lv_fmul hx hb dX8_floatOfBits_61 (by unfold vf_n32; decide +kernel) ?_
  refine W.eq (g2 := F0 m 62 ls [.float 1251999744]) (by rw [show FP.fmul 1260388352 1056964608 = 1251999744 from by decide +kernel]) ?_
  refine lv_fstore (lv' := [(4, .float 1251999744), (5, .int 20), (3, .int 0), (2, .int 2097152), (1, .int 130), (0, .int 1092616192)]) hx hb dX8_floatOfBits_62 hl (by decide) rfl (fun ls hl => ?_)
  refine lv_iinc (v := 19) (lv' := [(5, .int 19), (4, .float 1251999744), (3, .int 0), (2, .int 2097152), (1, .int 130), (0, .int 1092616192)]) hx hb dX8_floatOfBits_64 hl (k := 1) rfl (by decide) (by decide) rfl (fun ls hl => ?_)
  refine lv_goto (tgt := 52) hx hb dX8_floatOfBits_67 (by decide) ?_
  refine lv_iload hx hb dX8_floatOfBits_52 (lv_at hl 0 rfl) ?_
  refine lv_if_le (tgt := 70) hx hb dX8_floatOfBits_54 (by decide) (fun h9 => absurd h9 (by decide)) (fun _ => ?_)
  refine lv_fload hx hb dX8_floatOfBits_57 (lv_at hl 1 rfl) ?_
  refine lv_ldcf hx hb hown (hts (.constantFloat RX8 248 (1056964608)) (by decide +kernel)) dX8_floatOfBits_59 ?_
  refine lv_fmul hx hb dX8_floatOfBits_61 (by unfold vf_n32; decide +kernel) ?_
  refine W.eq (g2 := F0 m 62 ls [.float 1243611136]) (by rw [show FP.fmul 1251999744 1056964608 = 1243611136 from by decide +kernel]) ?_
  refine lv_fstore (lv' := [(4, .float 1243611136), (5, .int 19), (3, .int 0), (2, .int 2097152), (1, .int 130), (0, .int 1092616192)]) hx hb dX8_floatOfBits_62 hl (by decide) rfl (fun ls hl => ?_)
  refine lv_iinc (v := 18) (lv' := [(5, .int 18), (4, .float 1243611136), (3, .int 0), (2, .int 2097152), (1, .int 130), (0, .int 1092616192)]) hx hb dX8_floatOfBits_64 hl (k := 1) rfl (by decide) (by decide) rfl (fun ls hl => ?_)
  refine lv_goto (tgt := 52) hx hb dX8_floatOfBits_67 (by decide) ?_
  refine lv_iload hx hb dX8_floatOfBits_52 (lv_at hl 0 rfl) ?_
  refine lv_if_le (tgt := 70) hx hb dX8_floatOfBits_54 (by decide) (fun h9 => absurd h9 (by decide)) (fun _ => ?_)
  refine lv_fload hx hb dX8_floatOfBits_57 (lv_at hl 1 rfl) ?_
  refine lv_ldcf hx hb hown (hts (.constantFloat RX8 248 (1056964608)) (by decide +kernel)) dX8_floatOfBits_59 ?_
  refine lv_fmul hx hb dX8_floatOfBits_61 (by unfold vf_n32; decide +kernel) ?_
  refine W.eq (g2 := F0 m 62 ls [.float 1235222528]) (by rw [show FP.fmul 1243611136 1056964608 = 1235222528 from by decide +kernel]) ?_
  refine lv_fstore (lv' := [(4, .float 1235222528), (5, .int 18), (3, .int 0), (2, .int 2097152), (1, .int 130), (0, .int 1092616192)]) hx hb dX8_floatOfBits_62 hl (by decide) rfl (fun ls hl => ?_)
  refine lv_iinc (v := 17) (lv' := [(5, .int 17), (4, .float 1235222528), (3, .int 0), (2, .int 2097152), (1, .int 130), (0, .int 1092616192)]) hx hb dX8_floatOfBits_64 hl (k := 1) rfl (by decide) (by decide) rfl (fun ls hl => ?_)
  refine lv_goto (tgt := 52) hx hb dX8_floatOfBits_67 (by decide) ?_
  refine lv_iload hx hb dX8_floatOfBits_52 (lv_at hl 0 rfl) ?_
  refine lv_if_le (tgt := 70) hx hb dX8_floatOfBits_54 (by decide) (fun h9 => absurd h9 (by decide)) (fun _ => ?_)
  refine lv_fload hx hb dX8_floatOfBits_57 (lv_at hl 1 rfl) ?_
  refine lv_ldcf hx hb hown (hts (.constantFloat RX8 248 (1056964608)) (by decide +kernel)) dX8_floatOfBits_59 ?_
  refine lv_fmul hx hb dX8_floatOfBits_61 (by unfold vf_n32; decide +kernel) ?_
  refine W.eq (g2 := F0 m 62 ls [.float 1226833920]) (by rw [show FP.fmul 1235222528 1056964608 = 1226833920 from by decide +kernel]) ?_
  refine lv_fstore (lv' := [(4, .float 1226833920), (5, .int 17), (3, .int 0), (2, .int 2097152), (1, .int 130), (0, .int 1092616192)]) hx hb dX8_floatOfBits_62 hl (by decide) rfl (fun ls hl => ?_)
  refine lv_iinc (v := 16) (lv' := [(5, .int 16), (4, .float 1226833920), (3, .int 0), (2, .int 2097152), (1, .int 130), (0, .int 1092616192)]) hx hb dX8_floatOfBits_64 hl (k := 1) rfl (by decide) (by decide) rfl (fun ls hl => ?_)
  refine lv_goto (tgt := 52) hx hb dX8_floatOfBits_67 (by decide) ?_
  refine lv_iload hx hb dX8_floatOfBits_52 (lv_at hl 0 rfl) ?_
  refine lv_if_le (tgt := 70) hx hb dX8_floatOfBits_54 (by decide) (fun h9 => absurd h9 (by decide)) (fun _ => ?_)
  refine lv_fload hx hb dX8_floatOfBits_57 (lv_at hl 1 rfl) ?_
  refine lv_ldcf hx hb hown (hts (.constantFloat RX8 248 (1056964608)) (by decide +kernel)) dX8_floatOfBits_59 ?_
  refine lv_fmul hx hb dX8_floatOfBits_61 (by unfold vf_n32; decide +kernel) ?_
  refine W.eq (g2 := F0 m 62 ls [.float 1218445312]) (by rw [show FP.fmul 1226833920 1056964608 = 1218445312 from by decide +kernel]) ?_
  refine lv_fstore (lv' := [(4, .float 1218445312), (5, .int 16), (3, .int 0), (2, .int 2097152), (1, .int 130), (0, .int 1092616192)]) hx hb dX8_floatOfBits_62 hl (by decide) rfl (fun ls hl => ?_)
  refine lv_iinc (v := 15) (lv' := [(5, .int 15), (4, .float 1218445312), (3, .int 0), (2, .int 2097152), (1, .int 130), (0, .int 1092616192)]) hx hb dX8_floatOfBits_64 hl (k := 1) rfl (by decide) (by decide) rfl (fun ls hl => ?_)
  refine lv_goto (tgt := 52) hx hb dX8_floatOfBits_67 (by decide) ?_
  refine lv_iload hx hb dX8_floatOfBits_52 (lv_at hl 0 rfl) ?_
  refine lv_if_le (tgt := 70) hx hb dX8_floatOfBits_54 (by decide) (fun h9 => absurd h9 (by decide)) (fun _ => ?_)
  refine lv_fload hx hb dX8_floatOfBits_57 (lv_at hl 1 rfl) ?_
  refine lv_ldcf hx hb hown (hts (.constantFloat RX8 248 (1056964608)) (by decide +kernel)) dX8_floatOfBits_59 ?_
  refine lv_fmul hx hb dX8_floatOfBits_61 (by unfold vf_n32; decide +kernel) ?_
  refine W.eq (g2 := F0 m 62 ls [.float 1210056704]) (by rw [show FP.fmul 1218445312 1056964608 = 1210056704 from by decide +kernel]) ?_
  refine lv_fstore (lv' := [(4, .float 1210056704), (5, .int 15), (3, .int 0), (2, .int 2097152), (1, .int 130), (0, .int 1092616192)]) hx hb dX8_floatOfBits_62 hl (by decide) rfl (fun ls hl => ?_)
  refine lv_iinc (v := 14) (lv' := [(5, .int 14), (4, .float 1210056704), (3, .int 0), (2, .int 2097152), (1, .int 130), (0, .int 1092616192)]) hx hb dX8_floatOfBits_64 hl (k := 1) rfl (by decide) (by decide) rfl (fun ls hl => ?_)
  refine lv_goto (tgt := 52) hx hb dX8_floatOfBits_67 (by decide) ?_
  refine lv_iload hx hb dX8_floatOfBits_52 (lv_at hl 0 rfl) ?_
  refine lv_if_le (tgt := 70) hx hb dX8_floatOfBits_54 (by decide) (fun h9 => absurd h9 (by decide)) (fun _ => ?_)
  refine lv_fload hx hb dX8_floatOfBits_57 (lv_at hl 1 rfl) ?_
  refine lv_ldcf hx hb hown (hts (.constantFloat RX8 248 (1056964608)) (by decide +kernel)) dX8_floatOfBits_59 ?_
  refine lv_fmul hx hb dX8_floatOfBits_61 (by unfold vf_n32; decide +kernel) ?_
  refine W.eq (g2 := F0 m 62 ls [.float 1201668096]) (by rw [show FP.fmul 1210056704 1056964608 = 1201668096 from by decide +kernel]) ?_
  refine lv_fstore (lv' := [(4, .float 1201668096), (5, .int 14), (3, .int 0), (2, .int 2097152), (1, .int 130), (0, .int 1092616192)]) hx hb dX8_floatOfBits_62 hl (by decide) rfl (fun ls hl => ?_)
  refine lv_iinc (v := 13) (lv' := [(5, .int 13), (4, .float 1201668096), (3, .int 0), (2, .int 2097152), (1, .int 130), (0, .int 1092616192)]) hx hb dX8_floatOfBits_64 hl (k := 1) rfl (by decide) (by decide) rfl (fun ls hl => ?_)
  refine lv_goto (tgt := 52) hx hb dX8_floatOfBits_67 (by decide) ?_
  refine lv_iload hx hb dX8_floatOfBits_52 (lv_at hl 0 rfl) ?_
  refine lv_if_le (tgt := 70) hx hb dX8_floatOfBits_54 (by decide) (fun h9 => absurd h9 (by decide)) (fun _ => ?_)
  refine lv_fload hx hb dX8_floatOfBits_57 (lv_at hl 1 rfl) ?_
  refine lv_ldcf hx hb hown (hts (.constantFloat RX8 248 (1056964608)) (by decide +kernel)) dX8_floatOfBits_59 ?_
  refine lv_fmul hx hb dX8_floatOfBits_61 (by unfold vf_n32; decide +kernel) ?_
  refine W.eq (g2 := F0 m 62 ls [.float 1193279488]) (by rw [show FP.fmul 1201668096 1056964608 = 1193279488 from by decide +kernel]) ?_
  refine lv_fstore (lv' := [(4, .float 1193279488), (5, .int 13), (3, .int 0), (2, .int 2097152), (1, .int 130), (0, .int 1092616192)]) hx hb dX8_floatOfBits_62 hl (by decide) rfl (fun ls hl => ?_)
  refine lv_iinc (v := 12) (lv' := [(5, .int 12), (4, .float 1193279488), (3, .int 0), (2, .int 2097152), (1, .int 130), (0, .int 1092616192)]) hx hb dX8_floatOfBits_64 hl (k := 1) rfl (by decide) (by decide) rfl (fun ls hl => ?_)
  refine lv_goto (tgt := 52) hx hb dX8_floatOfBits_67 (by decide) ?_
  refine lv_iload hx hb dX8_floatOfBits_52 (lv_at hl 0 rfl) ?_
  refine lv_if_le (tgt := 70) hx hb dX8_floatOfBits_54 (by decide) (fun h9 => absurd h9 (by decide)) (fun _ => ?_)
  refine lv_fload hx hb dX8_floatOfBits_57 (lv_at hl 1 rfl) ?_
  refine lv_ldcf hx hb hown (hts (.constantFloat RX8 248 (1056964608)) (by decide +kernel)) dX8_floatOfBits_59 ?_
  refine lv_fmul hx hb dX8_floatOfBits_61 (by unfold vf_n32; decide +kernel) ?_
  refine W.eq (g2 := F0 m 62 ls [.float 1184890880]) (by rw [show FP.fmul 1193279488 1056964608 = 1184890880 from by decide +kernel]) ?_
  refine lv_fstore (lv' := [(4, .float 1184890880), (5, .int 12), (3, .int 0), (2, .int 2097152), (1, .int 130), (0, .int 1092616192)]) hx hb dX8_floatOfBits_62 hl (by decide) rfl (fun ls hl => ?_)
  refine lv_iinc (v := 11) (lv' := [(5, .int 11), (4, .float 1184890880), (3, .int 0), (2, .int 2097152), (1, .int 130), (0, .int 1092616192)]) hx hb dX8_floatOfBits_64 hl (k := 1) rfl (by decide) (by decide) rfl (fun ls hl => ?_)
  refine lv_goto (tgt := 52) hx hb dX8_floatOfBits_67 (by decide) ?_
  refine lv_iload hx hb dX8_floatOfBits_52 (lv_at hl 0 rfl) ?_
  refine lv_if_le (tgt := 70) hx hb dX8_floatOfBits_54 (by decide) (fun h9 => absurd h9 (by decide)) (fun _ => ?_)
  refine lv_fload hx hb dX8_floatOfBits_57 (lv_at hl 1 rfl) ?_
  refine lv_ldcf hx hb hown (hts (.constantFloat RX8 248 (1056964608)) (by decide +kernel)) dX8_floatOfBits_59 ?_
  refine lv_fmul hx hb dX8_floatOfBits_61 (by unfold vf_n32; decide +kernel) ?_
  refine W.eq (g2 := F0 m 62 ls [.float 1176502272]) (by rw [show FP.fmul 1184890880 1056964608 = 1176502272 from by decide +kernel]) ?_
  refine lv_fstore (lv' := [(4, .float 1176502272), (5, .int 11), (3, .int 0), (2, .int 2097152), (1, .int 130), (0, .int 1092616192)]) hx hb dX8_floatOfBits_62 hl (by decide) rfl (fun ls hl => ?_)
  refine lv_iinc (v := 10) (lv' := [(5, .int 10), (4, .float 1176502272), (3, .int 0), (2, .int 2097152), (1, .int 130), (0, .int 1092616192)]) hx hb dX8_floatOfBits_64 hl (k := 1) rfl (by decide) (by decide) rfl (fun ls hl => ?_)
  refine lv_goto (tgt := 52) hx hb dX8_floatOfBits_67 (by decide) ?_
  refine lv_iload hx hb dX8_floatOfBits_52 (lv_at hl 0 rfl) ?_
  refine lv_if_le (tgt := 70) hx hb dX8_floatOfBits_54 (by decide) (fun h9 => absurd h9 (by decide)) (fun _ => ?_)
  refine lv_fload hx hb dX8_floatOfBits_57 (lv_at hl 1 rfl) ?_
  refine lv_ldcf hx hb hown (hts (.constantFloat RX8 248 (1056964608)) (by decide +kernel)) dX8_floatOfBits_59 ?_
  refine lv_fmul hx hb dX8_floatOfBits_61 (by unfold vf_n32; decide +kernel) ?_
  refine W.eq (g2 := F0 m 62 ls [.float 1168113664]) (by rw [show FP.fmul 1176502272 1056964608 = 1168113664 from by decide +kernel]) ?_
  refine lv_fstore (lv' := [(4, .float 1168113664), (5, .int 10), (3, .int 0), (2, .int 2097152), (1, .int 130), (0, .int 1092616192)]) hx hb dX8_floatOfBits_62 hl (by decide) rfl (fun ls hl => ?_)
  refine lv_iinc (v := 9) (lv' := [(5, .int 9), (4, .float 1168113664), (3, .int 0), (2, .int 2097152), (1, .int 130), (0, .int 1092616192)]) hx hb dX8_floatOfBits_64 hl (k := 1) rfl (by decide) (by decide) rfl (fun ls hl => ?_)
  refine lv_goto (tgt := 52) hx hb dX8_floatOfBits_67 (by decide) ?_
  refine lv_iload hx hb dX8_floatOfBits_52 (lv_at hl 0 rfl) ?_
  refine lv_if_le (tgt := 70) hx hb dX8_floatOfBits_54 (by decide) (fun h9 => absurd h9 (by decide)) (fun _ => ?_)
  refine lv_fload hx hb dX8_floatOfBits_57 (lv_at hl 1 rfl) ?_
  refine lv_ldcf hx hb hown (hts (.constantFloat RX8 248 (1056964608)) (by decide +kernel)) dX8_floatOfBits_59 ?_
  refine lv_fmul hx hb dX8_floatOfBits_61 (by unfold vf_n32; decide +kernel) ?_
  refine W.eq (g2 := F0 m 62 ls [.float 1159725056]) (by rw [show FP.fmul 1168113664 1056964608 = 1159725056 from by decide +kernel]) ?_
  refine lv_fstore (lv' := [(4, .float 1159725056), (5, .int 9), (3, .int 0), (2, .int 2097152), (1, .int 130), (0, .int 1092616192)]) hx hb dX8_floatOfBits_62 hl (by decide) rfl (fun ls hl => ?_)
  refine lv_iinc (v := 8) (lv' := [(5, .int 8), (4, .float 1159725056), (3, .int 0), (2, .int 2097152), (1, .int 130), (0, .int 1092616192)]) hx hb dX8_floatOfBits_64 hl (k := 1) rfl (by decide) (by decide) rfl (fun ls hl => ?_)
  refine lv_goto (tgt := 52) hx hb dX8_floatOfBits_67 (by decide) ?_
  refine lv_iload hx hb dX8_floatOfBits_52 (lv_at hl 0 rfl) ?_
  refine lv_if_le (tgt := 70) hx hb dX8_floatOfBits_54 (by decide) (fun h9 => absurd h9 (by decide)) (fun _ => ?_)
  refine lv_fload hx hb dX8_floatOfBits_57 (lv_at hl 1 rfl) ?_
  refine lv_ldcf hx hb hown (hts (.constantFloat RX8 248 (1056964608)) (by decide +kernel)) dX8_floatOfBits_59 ?_
  refine lv_fmul hx hb dX8_floatOfBits_61 (by unfold vf_n32; decide +kernel) ?_
  refine W.eq (g2 := F0 m 62 ls [.float 1151336448]) (by rw [show FP.fmul 1159725056 1056964608 = 1151336448 from by decide +kernel]) ?_
  refine lv_fstore (lv' := [(4, .float 1151336448), (5, .int 8), (3, .int 0), (2, .int 2097152), (1, .int 130), (0, .int 1092616192)]) hx hb dX8_floatOfBits_62 hl (by decide) rfl (fun ls hl => ?_)
  refine lv_iinc (v := 7) (lv' := [(5, .int 7), (4, .float 1151336448), (3, .int 0), (2, .int 2097152), (1, .int 130), (0, .int 1092616192)]) hx hb dX8_floatOfBits_64 hl (k := 1) rfl (by decide) (by decide) rfl (fun ls hl => ?_)
  refine lv_goto (tgt := 52) hx hb dX8_floatOfBits_67 (by decide) ?_
  refine lv_iload hx hb dX8_floatOfBits_52 (lv_at hl 0 rfl) ?_
  refine lv_if_le (tgt := 70) hx hb dX8_floatOfBits_54 (by decide) (fun h9 => absurd h9 (by decide)) (fun _ => ?_)
  refine lv_fload hx hb dX8_floatOfBits_57 (lv_at hl 1 rfl) ?_
  refine lv_ldcf hx hb hown (hts (.constantFloat RX8 248 (1056964608)) (by decide +kernel)) dX8_floatOfBits_59 ?_
  refine lv_fmul hx hb dX8_floatOfBits_61 (by unfold vf_n32; decide +kernel) ?_
  refine W.eq (g2 := F0 m 62 ls [.float 1142947840]) (by rw [show FP.fmul 1151336448 1056964608 = 1142947840 from by decide +kernel]) ?_
  refine lv_fstore (lv' := [(4, .float 1142947840), (5, .int 7), (3, .int 0), (2, .int 2097152), (1, .int 130), (0, .int 1092616192)]) hx hb dX8_floatOfBits_62 hl (by decide) rfl (fun ls hl => ?_)
  refine lv_iinc (v := 6) (lv' := [(5, .int 6), (4, .float 1142947840), (3, .int 0), (2, .int 2097152), (1, .int 130), (0, .int 1092616192)]) hx hb dX8_floatOfBits_64 hl (k := 1) rfl (by decide) (by decide) rfl (fun ls hl => ?_)
  refine lv_goto (tgt := 52) hx hb dX8_floatOfBits_67 (by decide) ?_
  refine lv_iload hx hb dX8_floatOfBits_52 (lv_at hl 0 rfl) ?_
  refine lv_if_le (tgt := 70) hx hb dX8_floatOfBits_54 (by decide) (fun h9 => absurd h9 (by decide)) (fun _ => ?_)
  refine lv_fload hx hb dX8_floatOfBits_57 (lv_at hl 1 rfl) ?_
  refine lv_ldcf hx hb hown (hts (.constantFloat RX8 248 (1056964608)) (by decide +kernel)) dX8_floatOfBits_59 ?_
  refine lv_fmul hx hb dX8_floatOfBits_61 (by unfold vf_n32; decide +kernel) ?_
  refine W.eq (g2 := F0 m 62 ls [.float 1134559232]) (by rw [show FP.fmul 1142947840 1056964608 = 1134559232 from by decide +kernel]) ?_
  refine lv_fstore (lv' := [(4, .float 1134559232), (5, .int 6), (3, .int 0), (2, .int 2097152), (1, .int 130), (0, .int 1092616192)]) hx hb dX8_floatOfBits_62 hl (by decide) rfl (fun ls hl => ?_)
  refine lv_iinc (v := 5) (lv' := [(5, .int 5), (4, .float 1134559232), (3, .int 0), (2, .int 2097152), (1, .int 130), (0, .int 1092616192)]) hx hb dX8_floatOfBits_64 hl (k := 1) rfl (by decide) (by decide) rfl (fun ls hl => ?_)
  refine lv_goto (tgt := 52) hx hb dX8_floatOfBits_67 (by decide) ?_
  refine lv_iload hx hb dX8_floatOfBits_52 (lv_at hl 0 rfl) ?_
  refine lv_if_le (tgt := 70) hx hb dX8_floatOfBits_54 (by decide) (fun h9 => absurd h9 (by decide)) (fun _ => ?_)
  refine lv_fload hx hb dX8_floatOfBits_57 (lv_at hl 1 rfl) ?_
  refine lv_ldcf hx hb hown (hts (.constantFloat RX8 248 (1056964608)) (by decide +kernel)) dX8_floatOfBits_59 ?_
  refine lv_fmul hx hb dX8_floatOfBits_61 (by unfold vf_n32; decide +kernel) ?_
  refine W.eq (g2 := F0 m 62 ls [.float 1126170624]) (by rw [show FP.fmul 1134559232 1056964608 = 1126170624 from by decide +kernel]) ?_
  refine lv_fstore (lv' := [(4, .float 1126170624), (5, .int 5), (3, .int 0), (2, .int 2097152), (1, .int 130), (0, .int 1092616192)]) hx hb dX8_floatOfBits_62 hl (by decide) rfl (fun ls hl => ?_)
  refine lv_iinc (v := 4) (lv' := [(5, .int 4), (4, .float 1126170624), (3, .int 0), (2, .int 2097152), (1, .int 130), (0, .int 1092616192)]) hx hb dX8_floatOfBits_64 hl (k := 1) rfl (by decide) (by decide) rfl (fun ls hl => ?_)
  refine lv_goto (tgt := 52) hx hb dX8_floatOfBits_67 (by decide) ?_
  refine lv_iload hx hb dX8_floatOfBits_52 (lv_at hl 0 rfl) ?_
  refine lv_if_le (tgt := 70) hx hb dX8_floatOfBits_54 (by decide) (fun h9 => absurd h9 (by decide)) (fun _ => ?_)
  refine lv_fload hx hb dX8_floatOfBits_57 (lv_at hl 1 rfl) ?_
  refine lv_ldcf hx hb hown (hts (.constantFloat RX8 248 (1056964608)) (by decide +kernel)) dX8_floatOfBits_59 ?_
  refine lv_fmul hx hb dX8_floatOfBits_61 (by unfold vf_n32; decide +kernel) ?_
  refine W.eq (g2 := F0 m 62 ls [.float 1117782016]) (by rw [show FP.fmul 1126170624 1056964608 = 1117782016 from by decide +kernel]) ?_
  refine lv_fstore (lv' := [(4, .float 1117782016), (5, .int 4), (3, .int 0), (2, .int 2097152), (1, .int 130), (0, .int 1092616192)]) hx hb dX8_floatOfBits_62 hl (by decide) rfl (fun ls hl => ?_)
  refine lv_iinc (v := 3) (lv' := [(5, .int 3), (4, .float 1117782016), (3, .int 0), (2, .int 2097152), (1, .int 130), (0, .int 1092616192)]) hx hb dX8_floatOfBits_64 hl (k := 1) rfl (by decide) (by decide) rfl (fun ls hl => ?_)
  refine lv_goto (tgt := 52) hx hb dX8_floatOfBits_67 (by decide) ?_
  refine lv_iload hx hb dX8_floatOfBits_52 (lv_at hl 0 rfl) ?_
  refine lv_if_le (tgt := 70) hx hb dX8_floatOfBits_54 (by decide) (fun h9 => absurd h9 (by decide)) (fun _ => ?_)
  refine lv_fload hx hb dX8_floatOfBits_57 (lv_at hl 1 rfl) ?_
  refine lv_ldcf hx hb hown (hts (.constantFloat RX8 248 (1056964608)) (by decide +kernel)) dX8_floatOfBits_59 ?_
  refine lv_fmul hx hb dX8_floatOfBits_61 (by unfold vf_n32; decide +kernel) ?_
  refine W.eq (g2 := F0 m 62 ls [.float 1109393408]) (by rw [show FP.fmul 1117782016 1056964608 = 1109393408 from by decide +kernel]) ?_
  refine lv_fstore (lv' := [(4, .float 1109393408), (5, .int 3), (3, .int 0), (2, .int 2097152), (1, .int 130), (0, .int 1092616192)]) hx hb dX8_floatOfBits_62 hl (by decide) rfl (fun ls hl => ?_)
  refine lv_iinc (v := 2) (lv' := [(5, .int 2), (4, .float 1109393408), (3, .int 0), (2, .int 2097152), (1, .int 130), (0, .int 1092616192)]) hx hb dX8_floatOfBits_64 hl (k := 1) rfl (by decide) (by decide) rfl (fun ls hl => ?_)
  refine lv_goto (tgt := 52) hx hb dX8_floatOfBits_67 (by decide) ?_
  refine lv_iload hx hb dX8_floatOfBits_52 (lv_at hl 0 rfl) ?_
  refine lv_if_le (tgt := 70) hx hb dX8_floatOfBits_54 (by decide) (fun h9 => absurd h9 (by decide)) (fun _ => ?_)
  refine lv_fload hx hb dX8_floatOfBits_57 (lv_at hl 1 rfl) ?_
  refine lv_ldcf hx hb hown (hts (.constantFloat RX8 248 (1056964608)) (by decide +kernel)) dX8_floatOfBits_59 ?_
  refine lv_fmul hx hb dX8_floatOfBits_61 (by unfold vf_n32; decide +kernel) ?_
  refine W.eq (g2 := F0 m 62 ls [.float 1101004800]) (by rw [show FP.fmul 1109393408 1056964608 = 1101004800 from by decide +kernel]) ?_
  refine lv_fstore (lv' := [(4, .float 1101004800), (5, .int 2), (3, .int 0), (2, .int 2097152), (1, .int 130), (0, .int 1092616192)]) hx hb dX8_floatOfBits_62 hl (by decide) rfl (fun ls hl => ?_)
  refine lv_iinc (v := 1) (lv' := [(5, .int 1), (4, .float 1101004800), (3, .int 0), (2, .int 2097152), (1, .int 130), (0, .int 1092616192)]) hx hb dX8_floatOfBits_64 hl (k := 1) rfl (by decide) (by decide) rfl (fun ls hl => ?_)
  refine lv_goto (tgt := 52) hx hb dX8_floatOfBits_67 (by decide) ?_
  refine lv_iload hx hb dX8_floatOfBits_52 (lv_at hl 0 rfl) ?_
  refine lv_if_le (tgt := 70) hx hb dX8_floatOfBits_54 (by decide) (fun h9 => absurd h9 (by decide)) (fun _ => ?_)
  refine lv_fload hx hb dX8_floatOfBits_57 (lv_at hl 1 rfl) ?_
  refine lv_ldcf hx hb hown (hts (.constantFloat RX8 248 (1056964608)) (by decide +kernel)) dX8_floatOfBits_59 ?_
  refine lv_fmul hx hb dX8_floatOfBits_61 (by unfold vf_n32; decide +kernel) ?_
  refine W.eq (g2 := F0 m 62 ls [.float 1092616192]) (by rw [show FP.fmul 1101004800 1056964608 = 1092616192 from by decide +kernel]) ?_
  refine lv_fstore (lv' := [(4, .float 1092616192), (5, .int 1), (3, .int 0), (2, .int 2097152), (1, .int 130), (0, .int 1092616192)]) hx hb dX8_floatOfBits_62 hl (by decide) rfl (fun ls hl => ?_)
  refine lv_iinc (v := 0) (lv' := [(5, .int 0), (4, .float 1092616192), (3, .int 0), (2, .int 2097152), (1, .int 130), (0, .int 1092616192)]) hx hb dX8_floatOfBits_64 hl (k := 1) rfl (by decide) (by decide) rfl (fun ls hl => ?_)
  refine lv_goto (tgt := 52) hx hb dX8_floatOfBits_67 (by decide) ?_
  refine lv_iload hx hb dX8_floatOfBits_52 (lv_at hl 0 rfl) ?_
  refine lv_if_le (tgt := 70) hx hb dX8_floatOfBits_54 (by decide) (fun _ => ?_) (fun h9 => absurd (by decide) h9)
  refine lv_fload hx hb dX8_floatOfBits_70 (lv_at hl 1 rfl) ?_
  exact en_rf hx hb hr hlocks hS rfl dX8_floatOfBits_72
set_option maxHeartbeats 4000000 in
set_option maxRecDepth 100000 in
/-- floatOfBits(1079194419) -/
theorem cX8_floatOfBits_1079194419 (l : Launch) (G : va_G) (cA : Nat → ClassId)  : Rf l yX8_floatOfBits wsX8_floatOfBits ({ frames := 0, cells := 0, slots := 0, locals := 0 } : Room) G cA [.int 1079194419] [] (fun r => r = 1079194419) := by
  refine ofW2 (cc := cX8_floatOfBits) (maxL := 6) (ret := (some .float)) (own := RX8) (by decide) rfl rfl (Nat.le_of_ble_eq_true rfl) rfl ?_
  intro p e s m below meth c ls hx hb hml hr hts hown hlocks hv hl
  obtain ⟨hP, hE, hD0⟩ := hv
  have hK := hE.1
  have hD := hD0
  generalize hH0 : s.heap = H at hP ⊢
  have hS : va_S (fun _ => False) s.heap H [] := hH0 ▸ va_S.rf
  generalize ([] : List Loc) = locs at hS ⊢
  clear hH0 hD0
  replace hl : lv_has ls 6 [(0, .int 1079194419)] := hl
  refine lv_iload_n hx hb dX8_floatOfBits_0 rfl (lv_at hl 0 rfl) ?_
  refine lv_bipush (v := 23) hx hb dX8_floatOfBits_1 (by decide) ?_
  refine lv_iushr (v := 128) hx hb dX8_floatOfBits_3 (by decide) ?_
  refine lv_istore_n (lv' := [(1, .int 128), (0, .int 1079194419)]) hx hb dX8_floatOfBits_4 rfl hl (by decide) rfl (fun ls hl => ?_)
  refine lv_iload_n hx hb dX8_floatOfBits_5 rfl (lv_at hl 1 rfl) ?_
  refine lv_ldc hx hb hown (hts (.constant RX8 246 (8388607)) (by decide +kernel)) dX8_floatOfBits_6 ?_
  refine lv_iand hx hb dX8_floatOfBits_8 ?_
  refine W.eq (g2 := F0 m 9 ls [.int 5452595]) rfl ?_
  refine lv_istore_n (lv' := [(2, .int 5452595), (1, .int 128), (0, .int 1079194419)]) hx hb dX8_floatOfBits_9 rfl hl (by decide) rfl (fun ls hl => ?_)
  refine lv_iload_n hx hb dX8_floatOfBits_10 rfl (lv_at hl 1 rfl) ?_
  refine lv_if_ne (tgt := 18) hx hb dX8_floatOfBits_11 (by decide) (fun _ => ?_) (fun h9 => absurd h9 (by decide))
  refine lv_iconst (v := 0) hx hb dX8_floatOfBits_18 (by decide) ?_
  refine lv_istore_n (lv' := [(3, .int 0), (2, .int 5452595), (1, .int 128), (0, .int 1079194419)]) hx hb dX8_floatOfBits_19 rfl hl (by decide) rfl (fun ls hl => ?_)
  refine lv_iload_n hx hb dX8_floatOfBits_20 rfl (lv_at hl 0 rfl) ?_
  refine lv_if_eq (tgt := 28) hx hb dX8_floatOfBits_21 (by decide) (fun _ => ?_) (fun h9 => absurd (by decide) h9)
  refine lv_iload_n hx hb dX8_floatOfBits_28 rfl (lv_at hl 1 rfl) ?_
  refine lv_ldc hx hb hown (hts (.constant RX8 247 (8388608)) (by decide +kernel)) dX8_floatOfBits_29 ?_
  refine lv_ior hx hb dX8_floatOfBits_31 ?_
  refine W.eq (g2 := F0 m 32 ls [.int 13841203]) rfl ?_
  refine lv_i2f hx hb dX8_floatOfBits_32 ?_
  refine W.eq (g2 := F0 m 33 ls [.float 1263743795]) (by rw [show FP.i2f 13841203 = 1263743795 from by decide +kernel]) ?_
  refine lv_fstore (lv' := [(4, .float 1263743795), (3, .int 0), (2, .int 5452595), (1, .int 128), (0, .int 1079194419)]) hx hb dX8_floatOfBits_33 hl (by decide) rfl (fun ls hl => ?_)
  refine lv_iload_n hx hb dX8_floatOfBits_35 rfl (lv_at hl 1 rfl) ?_
  refine lv_if_eq (tgt := 45) hx hb dX8_floatOfBits_36 (by decide) (fun _ => ?_) (fun h9 => absurd (by decide) h9)
  refine lv_sipush (v := 150) hx hb dX8_floatOfBits_45 (by decide) ?_
  refine lv_iload_n hx hb dX8_floatOfBits_48 rfl (lv_at hl 3 rfl) ?_
  refine lv_isub hx hb dX8_floatOfBits_49 ?_
  refine W.eq (g2 := F0 m 50 ls [.int 22]) rfl ?_
  refine lv_istore (lv' := [(5, .int 22), (4, .float 1263743795), (3, .int 0), (2, .int 5452595), (1, .int 128), (0, .int 1079194419)]) hx hb dX8_floatOfBits_50 hl (by decide) rfl (fun ls hl => ?_)
  refine lv_iload hx hb dX8_floatOfBits_52 (lv_at hl 0 rfl) ?_
  refine lv_if_le (tgt := 70) hx hb dX8_floatOfBits_54 (by decide) (fun h9 => absurd h9 (by decide)) (fun _ => ?_)
  refine lv_fload hx hb dX8_floatOfBits_57 (lv_at hl 1 rfl) ?_
  refine lv_ldcf hx hb hown (hts (.constantFloat RX8 248 (1056964608)) (by decide +kernel)) dX8_floatOfBits_59 ?_
  refine lv_fmul hx hb dX8_floatOfBits_61 (by unfold vf_n32; decide +kernel) ?_
  refine W.eq (g2 := F0 m 62 ls [.float 1255355187]) (by rw [show FP.fmul 1263743795 1056964608 = 1255355187 from by decide +kernel]) ?_
  refine lv_fstore (lv' := [(4, .float 1255355187), (5, .int 22), (3, .int 0), (2, .int 5452595), (1, .int 128), (0, .int 1079194419)]) hx hb dX8_floatOfBits_62 hl (by decide) rfl (fun ls hl => ?_)
  refine lv_iinc (v := 21) (lv' := [(5, .int 21), (4, .float 1255355187), (3, .int 0), (2, .int 5452595), (1, .int 128), (0, .int 1079194419)]) hx hb dX8_floatOfBits_64 hl (k := 1) rfl (by decide) (by decide) rfl (fun ls hl => ?_)
  refine lv_goto (tgt := 52) hx hb dX8_floatOfBits_67 (by decide) ?_
  refine lv_iload hx hb dX8_floatOfBits_52 (lv_at hl 0 rfl) ?_
  refine lv_if_le (tgt := 70) hx hb dX8_floatOfBits_54 (by decide) (fun h9 => absurd h9 (by decide)) (fun _ => ?_)
  refine lv_fload hx hb dX8_floatOfBits_57 (lv_at hl 1 rfl) ?_
  refine lv_ldcf hx hb hown (hts (.constantFloat RX8 248 (1056964608)) (by decide +kernel)) dX8_floatOfBits_59 ?_
  refine lv_fmul hx hb dX8_floatOfBits_61 (by unfold vf_n32; decide +kernel) ?_
  refine W.eq (g2 := F0 m 62 ls [.float 1246966579]) (by rw [show FP.fmul 1255355187 1056964608 = 1246966579 from by decide +kernel]) ?_
  refine lv_fstore (lv' := [(4, .float 1246966579), (5, .int 21), (3, .int 0), (2, .int 5452595), (1, .int 128), (0, .int 1079194419)]) hx hb dX8_floatOfBits_62 hl (by decide) rfl (fun ls hl => ?_)
  refine lv_iinc (v := 20) (lv' := [(5, .int 20), (4, .float 1246966579), (3, .int 0), (2, .int 5452595), (1, .int 128), (0, .int 1079194419)]) hx hb dX8_floatOfBits_64 hl (k := 1) rfl (by decide) (by decide) rfl (fun ls hl => ?_)
  refine lv_goto (tgt := 52) hx hb dX8_floatOfBits_67 (by decide) ?_
  refine lv_iload hx hb dX8_floatOfBits_52 (lv_at hl 0 rfl) ?_
  refine lv_if_le (tgt := 70) hx hb dX8_floatOfBits_54 (by decide) (fun h9 => absurd h9 (by decide)) (fun _ => ?_)
  refine lv_fload hx hb dX8_floatOfBits_57 (lv_at hl 1 rfl) ?_
  refine lv_ldcf hx hb hown (hts (.constantFloat RX8 248 (1056964608)) (by decide +kernel)) dX8_floatOfBits_59 ?_
  refine lv_fmul hx hb dX8_floatOfBits_61 (by unfold vf_n32; decide +kernel) ?_
  refine W.eq (g2 := F0 m 62 ls [.float 1238577971]) (by rw [show FP.fmul 1246966579 1056964608 = 1238577971 from by decide +kernel]) ?_
  refine lv_fstore (lv' := [(4, .float 1238577971), (5, .int 20), (3, .int 0), (2, .int 5452595), (1, .int 128), (0, .int 1079194419)]) hx hb dX8_floatOfBits_62 hl (by decide) rfl (fun ls hl => ?_)
  refine lv_iinc (v := 19) (lv' := [(5, .int 19), (4, .float 1238577971), (3, .int 0), (2, .int 5452595), (1, .int 128), (0, .int 1079194419)]) hx hb dX8_floatOfBits_64 hl (k := 1) rfl (by decide) (by decide) rfl (fun ls hl => ?_)
  refine lv_goto (tgt := 52) hx hb dX8_floatOfBits_67 (by decide) ?_
  refine lv_iload hx hb dX8_floatOfBits_52 (lv_at hl 0 rfl) ?_
  refine lv_if_le (tgt := 70) hx hb dX8_floatOfBits_54 (by decide) (fun h9 => absurd h9 (by decide)) (fun _ => ?_)
  refine lv_fload hx hb dX8_floatOfBits_57 (lv_at hl 1 rfl) ?_
  refine lv_ldcf hx hb hown (hts (.constantFloat RX8 248 (1056964608)) (by decide +kernel)) dX8_floatOfBits_59 ?_
  refine lv_fmul hx hb dX8_floatOfBits_61 (by unfold vf_n32; decide +kernel) ?_
  refine W.eq (g2 := F0 m 62 ls [.float 1230189363]) (by rw [show FP.fmul 1238577971 1056964608 = 1230189363 from by decide +kernel]) ?_
  refine lv_fstore (lv' := [(4, .float 1230189363), (5, .int 19), (3, .int 0), (2, .int 5452595), (1, .int 128), (0, .int 1079194419)]) hx hb dX8_floatOfBits_62 hl (by decide) rfl (fun ls hl => ?_)
  refine lv_iinc (v := 18) (lv' := [(5, .int 18), (4, .float 1230189363), (3, .int 0), (2, .int 5452595), (1, .int 128), (0, .int 1079194419)]) hx hb dX8_floatOfBits_64 hl (k := 1) rfl (by decide) (by decide) rfl (fun ls hl => ?_)
  refine lv_goto (tgt := 52) hx hb dX8_floatOfBits_67 (by decide) ?_
  refine lv_iload hx hb dX8_floatOfBits_52 (lv_at hl 0 rfl) ?_
  refine lv_if_le (tgt := 70) hx hb dX8_floatOfBits_54 (by decide) (fun h9 => absurd h9 (by decide)) (fun _ => ?_)
  refine lv_fload hx hb dX8_floatOfBits_57 (lv_at hl 1 rfl) ?_
  refine lv_ldcf hx hb hown (hts (.constantFloat RX8 248 (1056964608)) (by decide +kernel)) dX8_floatOfBits_59 ?_
  refine lv_fmul hx hb dX8_floatOfBits_61 (by unfold vf_n32; decide +kernel) ?_
  refine W.eq (g2 := F0 m 62 ls [.float 1221800755]) (by rw [show FP.fmul 1230189363 1056964608 = 1221800755 from by decide +kernel]) ?_
  refine lv_fstore (lv' := [(4, .float 1221800755), (5, .int 18), (3, .int 0), (2, .int 5452595), (1, .int 128), (0, .int 1079194419)]) hx hb dX8_floatOfBits_62 hl (by decide) rfl (fun ls hl => ?_)
  refine lv_iinc (v := 17) (lv' := [(5, .int 17), (4, .float 1221800755), (3, .int 0), (2, .int 5452595), (1, .int 128), (0, .int 1079194419)]) hx hb dX8_floatOfBits_64 hl (k := 1) rfl (by decide) (by decide) rfl (fun ls hl => ?_)
  refine lv_goto (tgt := 52) hx hb dX8_floatOfBits_67 (by decide) ?_
  refine lv_iload hx hb dX8_floatOfBits_52 (lv_at hl 0 rfl) ?_
  refine lv_if_le (tgt := 70) hx hb dX8_floatOfBits_54 (by decide) (fun h9 => absurd h9 (by decide)) (fun _ => ?_)
  refine lv_fload hx hb dX8_floatOfBits_57 (lv_at hl 1 rfl) ?_
  refine lv_ldcf hx hb hown (hts (.constantFloat RX8 248 (1056964608)) (by decide +kernel)) dX8_floatOfBits_59 ?_
  refine lv_fmul hx hb dX8_floatOfBits_61 (by unfold vf_n32; decide +kernel) ?_
  refine W.eq (g2 := F0 m 62 ls [.float 1213412147]) (by rw [show FP.fmul 1221800755 1056964608 = 1213412147 from by decide +kernel]) ?_
  refine lv_fstore (lv' := [(4, .float 1213412147), (5, .int 17), (3, .int 0), (2, .int 5452595), (1, .int 128), (0, .int 1079194419)]) hx hb dX8_floatOfBits_62 hl (by decide) rfl (fun ls hl => ?_)
  refine lv_iinc (v := 16) (lv' := [(5, .int 16), (4, .float 1213412147), (3, .int 0), (2, .int 5452595), (1, .int 128), (0, .int 1079194419)]) hx hb dX8_floatOfBits_64 hl (k := 1) rfl (by decide) (by decide) rfl (fun ls hl => ?_)
  refine lv_goto (tgt := 52) hx hb dX8_floatOfBits_67 (by decide) ?_
  refine lv_iload hx hb dX8_floatOfBits_52 (lv_at hl 0 rfl) ?_
  refine lv_if_le (tgt := 70) hx hb dX8_floatOfBits_54 (by decide) (fun h9 => absurd h9 (by decide)) (fun _ => ?_)
  refine lv_fload hx hb dX8_floatOfBits_57 (lv_at hl 1 rfl) ?_
  refine lv_ldcf hx hb hown (hts (.constantFloat RX8 248 (1056964608)) (by decide +kernel)) dX8_floatOfBits_59 ?_
  refine lv_fmul hx hb dX8_floatOfBits_61 (by unfold vf_n32; decide +kernel) ?_
  refine W.eq (g2 := F0 m 62 ls [.float 1205023539]) (by rw [show FP.fmul 1213412147 1056964608 = 1205023539 from by decide +kernel]) ?_
  refine lv_fstore (lv' := [(4, .float 1205023539), (5, .int 16), (3, .int 0), (2, .int 5452595), (1, .int 128), (0, .int 1079194419)]) hx hb dX8_floatOfBits_62 hl (by decide) rfl (fun ls hl => ?_)
  refine lv_iinc (v := 15) (lv' := [(5, .int 15), (4, .float 1205023539), (3, .int 0), (2, .int 5452595), (1, .int 128), (0, .int 1079194419)]) hx hb dX8_floatOfBits_64 hl (k := 1) rfl (by decide) (by decide) rfl (fun ls hl => ?_)
  refine lv_goto (tgt := 52) hx hb dX8_floatOfBits_67 (by decide) ?_
  refine lv_iload hx hb dX8_floatOfBits_52 (lv_at hl 0 rfl) ?_
  refine lv_if_le (tgt := 70) hx hb dX8_floatOfBits_54 (by decide) (fun h9 => absurd h9 (by decide)) (fun _ => ?_)
  refine lv_fload hx hb dX8_floatOfBits_57 (lv_at hl 1 rfl) ?_
  refine lv_ldcf hx hb hown (hts (.constantFloat RX8 248 (1056964608)) (by decide +kernel)) dX8_floatOfBits_59 ?_
  refine lv_fmul hx hb dX8_floatOfBits_61 (by unfold vf_n32; decide +kernel) ?_
  refine W.eq (g2 := F0 m 62 ls [.float 1196634931]) (by rw [show FP.fmul 1205023539 1056964608 = 1196634931 from by decide +kernel]) ?_
  refine lv_fstore (lv' := [(4, .float 1196634931), (5, .int 15), (3, .int 0), (2, .int 5452595), (1, .int 128), (0, .int 1079194419)]) hx hb dX8_floatOfBits_62 hl (by decide) rfl (fun ls hl => ?_)
  refine lv_iinc (v := 14) (lv' := [(5, .int 14), (4, .float 1196634931), (3, .int 0), (2, .int 5452595), (1, .int 128), (0, .int 1079194419)]) hx hb dX8_floatOfBits_64 hl (k := 1) rfl (by decide) (by decide) rfl (fun ls hl => ?_)
  refine lv_goto (tgt := 52) hx hb dX8_floatOfBits_67 (by decide) ?_
  refine lv_iload hx hb dX8_floatOfBits_52 (lv_at hl 0 rfl) ?_
  refine lv_if_le (tgt := 70) hx hb dX8_floatOfBits_54 (by decide) (fun h9 => absurd h9 (by decide)) (fun _ => ?_)
  refine lv_fload hx hb dX8_floatOfBits_57 (lv_at hl 1 rfl) ?_
  refine lv_ldcf hx hb hown (hts (.constantFloat RX8 248 (1056964608)) (by decide +kernel)) dX8_floatOfBits_59 ?_
  refine lv_fmul hx hb dX8_floatOfBits_61 (by unfold vf_n32; decide +kernel) ?_
  refine W.eq (g2 := F0 m 62 ls [.float 1188246323]) (by rw [show FP.fmul 1196634931 1056964608 = 1188246323 from by decide +kernel]) ?_
  refine lv_fstore (lv' := [(4, .float 1188246323), (5, .int 14), (3, .int 0), (2, .int 5452595), (1, .int 128), (0, .int 1079194419)]) hx hb dX8_floatOfBits_62 hl (by decide) rfl (fun ls hl => ?_)
  refine lv_iinc (v := 13) (lv' := [(5, .int 13), (4, .float 1188246323), (3, .int 0), (2, .int 5452595), (1, .int 128), (0, .int 1079194419)]) hx hb dX8_floatOfBits_64 hl (k := 1) rfl (by decide) (by decide) rfl (fun ls hl => ?_)
  refine lv_goto (tgt := 52) hx hb dX8_floatOfBits_67 (by decide) ?_
  refine lv_iload hx hb dX8_floatOfBits_52 (lv_at hl 0 rfl) ?_
  refine lv_if_le (tgt := 70) hx hb dX8_floatOfBits_54 (by decide) (fun h9 => absurd h9 (by decide)) (fun _ => ?_)
  refine lv_fload hx hb dX8_floatOfBits_57 (lv_at hl 1 rfl) ?_
  refine lv_ldcf hx hb hown (hts (.constantFloat RX8 248 (1056964608)) (by decide +kernel)) dX8_floatOfBits_59 ?_
  refine lv_fmul hx hb dX8_floatOfBits_61 (by unfold vf_n32; decide +kernel) ?_
  refine W.eq (g2 := F0 m 62 ls [.float 1179857715]) (by rw [show FP.fmul 1188246323 1056964608 = 1179857715 from by decide +kernel]) ?_
  refine lv_fstore (lv' := [(4, .float 1179857715), (5, .int 13), (3, .int 0), (2, .int 5452595), (1, .int 128), (0, .int 1079194419)]) hx hb dX8_floatOfBits_62 hl (by decide) rfl (fun ls hl => ?_)
  refine lv_iinc (v := 12) (lv' := [(5, .int 12), (4, .float 1179857715), (3, .int 0), (2, .int 5452595), (1, .int 128), (0, .int 1079194419)]) hx hb dX8_floatOfBits_64 hl (k := 1) rfl (by decide) (by decide) rfl (fun ls hl => ?_)
  refine lv_goto (tgt := 52) hx hb dX8_floatOfBits_67 (by decide) ?_
  refine lv_iload hx hb dX8_floatOfBits_52 (lv_at hl 0 rfl) ?_
  refine lv_if_le (tgt := 70) hx hb dX8_floatOfBits_54 (by decide) (fun h9 => absurd h9 (by decide)) (fun _ => ?_)
  refine lv_fload hx hb dX8_floatOfBits_57 (lv_at hl 1 rfl) ?_
  refine lv_ldcf hx hb hown (hts (.constantFloat RX8 248 (1056964608)) (by decide +kernel)) dX8_floatOfBits_59 ?_
  refine lv_fmul hx hb dX8_floatOfBits_61 (by unfold vf_n32; decide +kernel) ?_
  refine W.eq (g2 := F0 m 62 ls [.float 1171469107]) (by rw [show FP.fmul 1179857715 1056964608 = 1171469107 from by decide +kernel]) ?_
  refine lv_fstore (lv' := [(4, .float 1171469107), (5, .int 12), (3, .int 0), (2, .int 5452595), (1, .int 128), (0, .int 1079194419)]) hx hb dX8_floatOfBits_62 hl (by decide) rfl (fun ls hl => ?_)
  refine lv_iinc (v := 11) (lv' := [(5, .int 11), (4, .float 1171469107), (3, .int 0), (2, .int 5452595), (1, .int 128), (0, .int 1079194419)]) hx hb dX8_floatOfBits_64 hl (k := 1) rfl (by decide) (by decide) rfl (fun ls hl => ?_)
  refine lv_goto (tgt := 52) hx hb dX8_floatOfBits_67 (by decide) ?_
  refine lv_iload hx hb dX8_floatOfBits_52 (lv_at hl 0 rfl) ?_
  refine lv_if_le (tgt := 70) hx hb dX8_floatOfBits_54 (by decide) (fun h9 => absurd h9 (by decide)) (fun _ => ?_)
  refine lv_fload hx hb dX8_floatOfBits_57 (lv_at hl 1 rfl) ?_
  refine lv_ldcf hx hb hown (hts (.constantFloat RX8 248 (1056964608)) (by decide +kernel)) dX8_floatOfBits_59 ?_
  refine lv_fmul hx hb dX8_floatOfBits_61 (by unfold vf_n32; decide +kernel) ?_
  refine W.eq (g2 := F0 m 62 ls [.float 1163080499]) (by rw [show FP.fmul 1171469107 1056964608 = 1163080499 from by decide +kernel]) ?_
  refine lv_fstore (lv' := [(4, .float 1163080499), (5, .int 11), (3, .int 0), (2, .int 5452595), (1, .int 128), (0, .int 1079194419)]) hx hb dX8_floatOfBits_62 hl (by decide) rfl (fun ls hl => ?_)
  refine lv_iinc (v := 10) (lv' := [(5, .int 10), (4, .float 1163080499), (3, .int 0), (2, .int 5452595), (1, .int 128), (0, .int 1079194419)]) hx hb dX8_floatOfBits_64 hl (k := 1) rfl (by decide) (by decide) rfl (fun ls hl => ?_)
  refine lv_goto (tgt := 52) hx hb dX8_floatOfBits_67 (by decide) ?_
  refine lv_iload hx hb dX8_floatOfBits_52 (lv_at hl 0 rfl) ?_
  refine lv_if_le (tgt := 70) hx hb dX8_floatOfBits_54 (by decide) (fun h9 => absurd h9 (by decide)) (fun _ => ?_)
  refine lv_fload hx hb dX8_floatOfBits_57 (lv_at hl 1 rfl) ?_
  refine lv_ldcf hx hb hown (hts (.constantFloat RX8 248 (1056964608)) (by decide +kernel)) dX8_floatOfBits_59 ?_
  refine lv_fmul hx hb dX8_floatOfBits_61 (by unfold vf_n32; decide +kernel) ?_
  refine W.eq (g2 := F0 m 62 ls [.float 1154691891]) (by rw [show FP.fmul 1163080499 1056964608 = 1154691891 from by decide +kernel]) ?_
  refine lv_fstore (lv' := [(4, .float 1154691891), (5, .int 10), (3, .int 0), (2, .int 5452595), (1, .int 128), (0, .int 1079194419)]) hx hb dX8_floatOfBits_62 hl (by decide) rfl (fun ls hl => ?_)
  refine lv_iinc (v := 9) (lv' := [(5, .int 9), (4, .float 1154691891), (3, .int 0), (2, .int 5452595), (1, .int 128), (0, .int 1079194419)]) hx hb dX8_floatOfBits_64 hl (k := 1) rfl (by decide) (by decide) rfl (fun ls hl => ?_)
  refine lv_goto (tgt := 52) hx hb dX8_floatOfBits_67 (by decide) ?_
  refine lv_iload hx hb dX8_floatOfBits_52 (lv_at hl 0 rfl) ?_
  refine lv_if_le (tgt := 70) hx hb dX8_floatOfBits_54 (by decide) (fun h9 => absurd h9 (by decide)) (fun _ => ?_)
  refine lv_fload hx hb dX8_floatOfBits_57 (lv_at hl 1 rfl) ?_
  refine lv_ldcf hx hb hown (hts (.constantFloat RX8 248 (1056964608)) (by decide +kernel)) dX8_floatOfBits_59 ?_
  refine lv_fmul hx hb dX8_floatOfBits_61 (by unfold vf_n32; decide +kernel) ?_
  refine W.eq (g2 := F0 m 62 ls [.float 1146303283]) (by rw [show FP.fmul 1154691891 1056964608 = 1146303283 from by decide +kernel]) ?_
  refine lv_fstore (lv' := [(4, .float 1146303283), (5, .int 9), (3, .int 0), (2, .int 5452595), (1, .int 128), (0, .int 1079194419)]) hx hb dX8_floatOfBits_62 hl (by decide) rfl (fun ls hl => ?_)
  refine lv_iinc (v := 8) (lv' := [(5, .int 8), (4, .float 1146303283), (3, .int 0), (2, .int 5452595), (1, .int 128), (0, .int 1079194419)]) hx hb dX8_floatOfBits_64 hl (k := 1) rfl (by decide) (by decide) rfl (fun ls hl => ?_)
  refine lv_goto (tgt := 52) hx hb dX8_floatOfBits_67 (by decide) ?_
  refine lv_iload hx hb dX8_floatOfBits_52 (lv_at hl 0 rfl) ?_
  refine lv_if_le (tgt := 70) hx hb dX8_floatOfBits_54 (by decide) (fun h9 => absurd h9 (by decide)) (fun _ => ?_)
  refine lv_fload hx hb dX8_floatOfBits_57 (lv_at hl 1 rfl) ?_
  refine lv_ldcf hx hb hown (hts (.constantFloat RX8 248 (1056964608)) (by decide +kernel)) dX8_floatOfBits_59 ?_
  refine lv_fmul hx hb dX8_floatOfBits_61 (by unfold vf_n32; decide +kernel) ?_
  refine W.eq (g2 := F0 m 62 ls [.float 1137914675]) (by rw [show FP.fmul 1146303283 1056964608 = 1137914675 from by decide +kernel]) ?_
  refine lv_fstore (lv' := [(4, .float 1137914675), (5, .int 8), (3, .int 0), (2, .int 5452595), (1, .int 128), (0, .int 1079194419)]) hx hb dX8_floatOfBits_62 hl (by decide) rfl (fun ls hl => ?_)
  refine lv_iinc (v := 7) (lv' := [(5, .int 7), (4, .float 1137914675), (3, .int 0), (2, .int 5452595), (1, .int 128), (0, .int 1079194419)]) hx hb dX8_floatOfBits_64 hl (k := 1) rfl (by decide) (by decide) rfl (fun ls hl => ?_)
  refine lv_goto (tgt := 52) hx hb dX8_floatOfBits_67 (by decide) ?_
  refine lv_iload hx hb dX8_floatOfBits_52 (lv_at hl 0 rfl) ?_
  refine lv_if_le (tgt := 70) hx hb dX8_floatOfBits_54 (by decide) (fun h9 => absurd h9 (by decide)) (fun _ => ?_)
  refine lv_fload hx hb dX8_floatOfBits_57 (lv_at hl 1 rfl) ?_
  refine lv_ldcf hx hb hown (hts (.constantFloat RX8 248 (1056964608)) (by decide +kernel)) dX8_floatOfBits_59 ?_
  refine lv_fmul hx hb dX8_floatOfBits_61 (by unfold vf_n32; decide +kernel) ?_
  refine W.eq (g2 := F0 m 62 ls [.float 1129526067]) (by rw [show FP.fmul 1137914675 1056964608 = 1129526067 from by decide +kernel]) ?_
  refine lv_fstore (lv' := [(4, .float 1129526067), (5, .int 7), (3, .int 0), (2, .int 5452595), (1, .int 128), (0, .int 1079194419)]) hx hb dX8_floatOfBits_62 hl (by decide) rfl (fun ls hl => ?_)
  refine lv_iinc (v := 6) (lv' := [(5, .int 6), (4, .float 1129526067), (3, .int 0), (2, .int 5452595), (1, .int 128), (0, .int 1079194419)]) hx hb dX8_floatOfBits_64 hl (k := 1) rfl (by decide) (by decide) rfl (fun ls hl => ?_)
  refine lv_goto (tgt := 52) hx hb dX8_floatOfBits_67 (by decide) ?_
  refine lv_iload hx hb dX8_floatOfBits_52 (lv_at hl 0 rfl) ?_
  refine lv_if_le (tgt := 70) hx hb dX8_floatOfBits_54 (by decide) (fun h9 => absurd h9 (by decide)) (fun _ => ?_)
  refine lv_fload hx hb dX8_floatOfBits_57 (lv_at hl 1 rfl) ?_
  refine lv_ldcf hx hb hown (hts (.constantFloat RX8 248 (1056964608)) (by decide +kernel)) dX8_floatOfBits_59 ?_
  refine lv_fmul hx hb dX8_floatOfBits_61 (by unfold vf_n32; decide +kernel) ?_
  refine W.eq (g2 := F0 m 62 ls [.float 1121137459]) (by rw [show FP.fmul 1129526067 1056964608 = 1121137459 from by decide +kernel]) ?_
  refine lv_fstore (lv' := [(4, .float 1121137459), (5, .int 6), (3, .int 0), (2, .int 5452595), (1, .int 128), (0, .int 1079194419)]) hx hb dX8_floatOfBits_62 hl (by decide) rfl (fun ls hl => ?_)
  refine lv_iinc (v := 5) (lv' := [(5, .int 5), (4, .float 1121137459), (3, .int 0), (2, .int 5452595), (1, .int 128), (0, .int 1079194419)]) hx hb dX8_floatOfBits_64 hl (k := 1) rfl (by decide) (by decide) rfl (fun ls hl => ?_)
  refine lv_goto (tgt := 52) hx hb dX8_floatOfBits_67 (by decide) ?_
  refine lv_iload hx hb dX8_floatOfBits_52 (lv_at hl 0 rfl) ?_
  refine lv_if_le (tgt := 70) hx hb dX8_floatOfBits_54 (by decide) (fun h9 => absurd h9 (by decide)) (fun _ => ?_)
  refine lv_fload hx hb dX8_floatOfBits_57 (lv_at hl 1 rfl) ?_
  refine lv_ldcf hx hb hown (hts (.constantFloat RX8 248 (1056964608)) (by decide +kernel)) dX8_floatOfBits_59 ?_
  refine lv_fmul hx hb dX8_floatOfBits_61 (by unfold vf_n32; decide +kernel) ?_
  refine W.eq (g2 := F0 m 62 ls [.float 1112748851]) (by rw [show FP.fmul 1121137459 1056964608 = 1112748851 from by decide +kernel]) ?_
  refine lv_fstore (lv' := [(4, .float 1112748851), (5, .int 5), (3, .int 0), (2, .int 5452595), (1, .int 128), (0, .int 1079194419)]) hx hb dX8_floatOfBits_62 hl (by decide) rfl (fun ls hl => ?_)
  refine lv_iinc (v := 4) (lv' := [(5, .int 4), (4, .float 1112748851), (3, .int 0), (2, .int 5452595), (1, .int 128), (0, .int 1079194419)]) hx hb dX8_floatOfBits_64 hl (k := 1) rfl (by decide) (by decide) rfl (fun ls hl => ?_)
  refine lv_goto (tgt := 52) hx hb dX8_floatOfBits_67 (by decide) ?_
  refine lv_iload hx hb dX8_floatOfBits_52 (lv_at hl 0 rfl) ?_
  refine lv_if_le (tgt := 70) hx hb dX8_floatOfBits_54 (by decide) (fun h9 => absurd h9 (by decide)) (fun _ => ?_)
  refine lv_fload hx hb dX8_floatOfBits_57 (lv_at hl 1 rfl) ?_
  refine lv_ldcf hx hb hown (hts (.constantFloat RX8 248 (1056964608)) (by decide +kernel)) dX8_floatOfBits_59 ?_
  refine lv_fmul hx hb dX8_floatOfBits_61 (by unfold vf_n32; decide +kernel) ?_
  refine W.eq (g2 := F0 m 62 ls [.float 1104360243]) (by rw [show FP.fmul 1112748851 1056964608 = 1104360243 from by decide +kernel]) ?_
  refine lv_fstore (lv' := [(4, .float 1104360243), (5, .int 4), (3, .int 0), (2, .int 5452595), (1, .int 128), (0, .int 1079194419)]) hx hb dX8_floatOfBits_62 hl (by decide) rfl (fun ls hl => ?_)
  refine lv_iinc (v := 3) (lv' := [(5, .int 3), (4, .float 1104360243), (3, .int 0), (2, .int 5452595), (1, .int 128), (0, .int 1079194419)]) hx hb dX8_floatOfBits_64 hl (k := 1) rfl (by decide) (by decide) rfl (fun ls hl => ?_)
  refine lv_goto (tgt := 52) hx hb dX8_floatOfBits_67 (by decide) ?_
  refine lv_iload hx hb dX8_floatOfBits_52 (lv_at hl 0 rfl) ?_
  refine lv_if_le (tgt := 70) hx hb dX8_floatOfBits_54 (by decide) (fun h9 => absurd h9 (by decide)) (fun _ => ?_)
  refine lv_fload hx hb dX8_floatOfBits_57 (lv_at hl 1 rfl) ?_
  refine lv_ldcf hx hb hown (hts (.constantFloat RX8 248 (1056964608)) (by decide +kernel)) dX8_floatOfBits_59 ?_
  refine lv_fmul hx hb dX8_floatOfBits_61 (by unfold vf_n32; decide +kernel) ?_
  refine W.eq (g2 := F0 m 62 ls [.float 1095971635]) (by rw [show FP.fmul 1104360243 1056964608 = 1095971635 from by decide +kernel]) ?_
  refine lv_fstore (lv' := [(4, .float 1095971635), (5, .int 3), (3, .int 0), (2, .int 5452595), (1, .int 128), (0, .int 1079194419)]) hx hb dX8_floatOfBits_62 hl (by decide) rfl (fun ls hl => ?_)
  refine lv_iinc (v := 2) (lv' := [(5, .int 2), (4, .float 1095971635), (3, .int 0), (2, .int 5452595), (1, .int 128), (0, .int 1079194419)]) hx hb dX8_floatOfBits_64 hl (k := 1) rfl (by decide) (by decide) rfl (fun ls hl => ?_)
  refine lv_goto (tgt := 52) hx hb dX8_floatOfBits_67 (by decide) ?_
  refine lv_iload hx hb dX8_floatOfBits_52 (lv_at hl 0 rfl) ?_
  refine lv_if_le (tgt := 70) hx hb dX8_floatOfBits_54 (by decide) (fun h9 => absurd h9 (by decide)) (fun _ => ?_)
  refine lv_fload hx hb dX8_floatOfBits_57 (lv_at hl 1 rfl) ?_
  refine lv_ldcf hx hb hown (hts (.constantFloat RX8 248 (1056964608)) (by decide +kernel)) dX8_floatOfBits_59 ?_
  refine lv_fmul hx hb dX8_floatOfBits_61 (by unfold vf_n32; decide +kernel) ?_
  refine W.eq (g2 := F0 m 62 ls [.float 1087583027]) (by rw [show FP.fmul 1095971635 1056964608 = 1087583027 from by decide +kernel]) ?_
  refine lv_fstore (lv' := [(4, .float 1087583027), (5, .int 2), (3, .int 0), (2, .int 5452595), (1, .int 128), (0, .int 1079194419)]) hx hb dX8_floatOfBits_62 hl (by decide) rfl (fun ls hl => ?_)
  refine lv_iinc (v := 1) (lv' := [(5, .int 1), (4, .float 1087583027), (3, .int 0), (2, .int 5452595), (1, .int 128), (0, .int 1079194419)]) hx hb dX8_floatOfBits_64 hl (k := 1) rfl (by decide) (by decide) rfl (fun ls hl => ?_)
  refine lv_goto (tgt := 52) hx hb dX8_floatOfBits_67 (by decide) ?_
  refine lv_iload hx hb dX8_floatOfBits_52 (lv_at hl 0 rfl) ?_
  refine lv_if_le (tgt := 70) hx hb dX8_floatOfBits_54 (by decide) (fun h9 => absurd h9 (by decide)) (fun _ => ?_)
  refine lv_fload hx hb dX8_floatOfBits_57 (lv_at hl 1 rfl) ?_
  refine lv_ldcf hx hb hown (hts (.constantFloat RX8 248 (1056964608)) (by decide +kernel)) dX8_floatOfBits_59 ?_
  refine lv_fmul hx hb dX8_floatOfBits_61 (by unfold vf_n32; decide +kernel) ?_
  refine W.eq (g2 := F0 m 62 ls [.float 1079194419]) (by rw [show FP.fmul 1087583027 1056964608 = 1079194419 from by decide +kernel]) ?_
  refine lv_fstore (lv' := [(4, .float 1079194419), (5, .int 1), (3, .int 0), (2, .int 5452595), (1, .int 128), (0, .int 1079194419)]) hx hb dX8_floatOfBits_62 hl (by decide) rfl (fun ls hl => ?_)
  refine lv_iinc (v := 0) (lv' := [(5, .int 0), (4, .float 1079194419), (3, .int 0), (2, .int 5452595), (1, .int 128), (0, .int 1079194419)]) hx hb dX8_floatOfBits_64 hl (k := 1) rfl (by decide) (by decide) rfl (fun ls hl => ?_)
  refine lv_goto (tgt := 52) hx hb dX8_floatOfBits_67 (by decide) ?_
  refine lv_iload hx hb dX8_floatOfBits_52 (lv_at hl 0 rfl) ?_
  refine lv_if_le (tgt := 70) hx hb dX8_floatOfBits_54 (by decide) (fun _ => ?_) (fun h9 => absurd (by decide) h9)
  refine lv_fload hx hb dX8_floatOfBits_70 (lv_at hl 1 rfl) ?_
  exact en_rf hx hb hr hlocks hS rfl dX8_floatOfBits_72
set_option maxHeartbeats 4000000 in
set_option maxRecDepth 100000 in
/-- floatOfBits(1112014848) -/
theorem cX8_floatOfBits_1112014848 (l : Launch) (G : va_G) (cA : Nat → ClassId)  : Rf l yX8_floatOfBits wsX8_floatOfBits ({ frames := 0, cells := 0, slots := 0, locals := 0 } : Room) G cA [.int 1112014848] [] (fun r => r = 1112014848) := by
  refine ofW2 (cc := cX8_floatOfBits) (maxL := 6) (ret := (some .float)) (own := RX8) (by decide) rfl rfl (Nat.le_of_ble_eq_true rfl) rfl ?_
  intro p e s m below meth c ls hx hb hml hr hts hown hlocks hv hl
  obtain ⟨hP, hE, hD0⟩ := hv
  have hK := hE.1
  have hD := hD0
  generalize hH0 : s.heap = H at hP ⊢
  have hS : va_S (fun _ => False) s.heap H [] := hH0 ▸ va_S.rf
  generalize ([] : List Loc) = locs at hS ⊢
  clear hH0 hD0
  replace hl : lv_has ls 6 [(0, .int 1112014848)] := hl
  refine lv_iload_n hx hb dX8_floatOfBits_0 rfl (lv_at hl 0 rfl) ?_
  refine lv_bipush (v := 23) hx hb dX8_floatOfBits_1 (by decide) ?_
  refine lv_iushr (v := 132) hx hb dX8_floatOfBits_3 (by decide) ?_
  refine lv_istore_n (lv' := [(1, .int 132), (0, .int 1112014848)]) hx hb dX8_floatOfBits_4 rfl hl (by decide) rfl (fun ls hl => ?_)
  refine lv_iload_n hx hb dX8_floatOfBits_5 rfl (lv_at hl 1 rfl) ?_
  refine lv_ldc hx hb hown (hts (.constant RX8 246 (8388607)) (by decide +kernel)) dX8_floatOfBits_6 ?_
  refine lv_iand hx hb dX8_floatOfBits_8 ?_
  refine W.eq (g2 := F0 m 9 ls [.int 4718592]) rfl ?_
  refine lv_istore_n (lv' := [(2, .int 4718592), (1, .int 132), (0, .int 1112014848)]) hx hb dX8_floatOfBits_9 rfl hl (by decide) rfl (fun ls hl => ?_)
  refine lv_iload_n hx hb dX8_floatOfBits_10 rfl (lv_at hl 1 rfl) ?_
  refine lv_if_ne (tgt := 18) hx hb dX8_floatOfBits_11 (by decide) (fun _ => ?_) (fun h9 => absurd h9 (by decide))
  refine lv_iconst (v := 0) hx hb dX8_floatOfBits_18 (by decide) ?_
  refine lv_istore_n (lv' := [(3, .int 0), (2, .int 4718592), (1, .int 132), (0, .int 1112014848)]) hx hb dX8_floatOfBits_19 rfl hl (by decide) rfl (fun ls hl => ?_)
  refine lv_iload_n hx hb dX8_floatOfBits_20 rfl (lv_at hl 0 rfl) ?_
  refine lv_if_eq (tgt := 28) hx hb dX8_floatOfBits_21 (by decide) (fun _ => ?_) (fun h9 => absurd (by decide) h9)
  refine lv_iload_n hx hb dX8_floatOfBits_28 rfl (lv_at hl 1 rfl) ?_
  refine lv_ldc hx hb hown (hts (.constant RX8 247 (8388608)) (by decide +kernel)) dX8_floatOfBits_29 ?_
  refine lv_ior hx hb dX8_floatOfBits_31 ?_
  refine W.eq (g2 := F0 m 32 ls [.int 13107200]) rfl ?_
  refine lv_i2f hx hb dX8_floatOfBits_32 ?_
  refine W.eq (g2 := F0 m 33 ls [.float 1263009792]) (by rw [show FP.i2f 13107200 = 1263009792 from by decide +kernel]) ?_
  refine lv_fstore (lv' := [(4, .float 1263009792), (3, .int 0), (2, .int 4718592), (1, .int 132), (0, .int 1112014848)]) hx hb dX8_floatOfBits_33 hl (by decide) rfl (fun ls hl => ?_)
  refine lv_iload_n hx hb dX8_floatOfBits_35 rfl (lv_at hl 1 rfl) ?_
  refine lv_if_eq (tgt := 45) hx hb dX8_floatOfBits_36 (by decide) (fun _ => ?_) (fun h9 => absurd (by decide) h9)
  refine lv_sipush (v := 150) hx hb dX8_floatOfBits_45 (by decide) ?_
  refine lv_iload_n hx hb dX8_floatOfBits_48 rfl (lv_at hl 3 rfl) ?_
  refine lv_isub hx hb dX8_floatOfBits_49 ?_
  refine W.eq (g2 := F0 m 50 ls [.int 18]) rfl ?_
  refine lv_istore (lv' := [(5, .int 18), (4, .float 1263009792), (3, .int 0), (2, .int 4718592), (1, .int 132), (0, .int 1112014848)]) hx hb dX8_floatOfBits_50 hl (by decide) rfl (fun ls hl => ?_)
  refine lv_iload hx hb dX8_floatOfBits_52 (lv_at hl 0 rfl) ?_
  refine lv_if_le (tgt := 70) hx hb dX8_floatOfBits_54 (by decide) (fun h9 => absurd h9 (by decide)) (fun _ => ?_)
  refine lv_fload hx hb dX8_floatOfBits_57 (lv_at hl 1 rfl) ?_
  refine lv_ldcf hx hb hown (hts (.constantFloat RX8 248 (1056964608)) (by decide +kernel)) dX8_floatOfBits_59 ?_
  refine lv_fmul hx hb dX8_floatOfBits_61 (by unfold vf_n32; decide +kernel) ?_
  refine W.eq (g2 := F0 m 62 ls [.float 1254621184]) (by rw [show FP.fmul 1263009792 1056964608 = 1254621184 from by decide +kernel]) ?_
  refine lv_fstore (lv' := [(4, .float 1254621184), (5, .int 18), (3, .int 0), (2, .int 4718592), (1, .int 132), (0, .int 1112014848)]) hx hb dX8_floatOfBits_62 hl (by decide) rfl (fun ls hl => ?_)
  refine lv_iinc (v := 17) (lv' := [(5, .int 17), (4, .float 1254621184), (3, .int 0), (2, .int 4718592), (1, .int 132), (0, .int 1112014848)]) hx hb dX8_floatOfBits_64 hl (k := 1) rfl (by decide) (by decide) rfl (fun ls hl => ?_)
  refine lv_goto (tgt := 52) hx hb dX8_floatOfBits_67 (by decide) ?_
  refine lv_iload hx hb dX8_floatOfBits_52 (lv_at hl 0 rfl) ?_
  refine lv_if_le (tgt := 70) hx hb dX8_floatOfBits_54 (by decide) (fun h9 => absurd h9 (by decide)) (fun _ => ?_)
  refine lv_fload hx hb dX8_floatOfBits_57 (lv_at hl 1 rfl) ?_
  refine lv_ldcf hx hb hown (hts (.constantFloat RX8 248 (1056964608)) (by decide +kernel)) dX8_floatOfBits_59 ?_
  refine lv_fmul hx hb dX8_floatOfBits_61 (by unfold vf_n32; decide +kernel) ?_
  refine W.eq (g2 := F0 m 62 ls [.float 1246232576]) (by rw [show FP.fmul 1254621184 1056964608 = 1246232576 from by decide +kernel]) ?_
  refine lv_fstore (lv' := [(4, .float 1246232576), (5, .int 17), (3, .int 0), (2, .int 4718592), (1, .int 132), (0, .int 1112014848)]) hx hb dX8_floatOfBits_62 hl (by decide) rfl (fun ls hl => ?_)
  refine lv_iinc (v := 16) (lv' := [(5, .int 16), (4, .float 1246232576), (3, .int 0), (2, .int 4718592), (1, .int 132), (0, .int 1112014848)]) hx hb dX8_floatOfBits_64 hl (k := 1) rfl (by decide) (by decide) rfl (fun ls hl => ?_)
  refine lv_goto (tgt := 52) hx hb dX8_floatOfBits_67 (by decide) ?_
  refine lv_iload hx hb dX8_floatOfBits_52 (lv_at hl 0 rfl) ?_
  refine lv_if_le (tgt := 70) hx hb dX8_floatOfBits_54 (by decide) (fun h9 => absurd h9 (by decide)) (fun _ => ?_)
  refine lv_fload hx hb dX8_floatOfBits_57 (lv_at hl 1 rfl) ?_
  refine lv_ldcf hx hb hown (hts (.constantFloat RX8 248 (1056964608)) (by decide +kernel)) dX8_floatOfBits_59 ?_
  refine lv_fmul hx hb dX8_floatOfBits_61 (by unfold vf_n32; decide +kernel) ?_
  refine W.eq (g2 := F0 m 62 ls [.float 1237843968]) (by rw [show FP.fmul 1246232576 1056964608 = 1237843968 from by decide +kernel]) ?_
  refine lv_fstore (lv' := [(4, .float 1237843968), (5, .int 16), (3, .int 0), (2, .int 4718592), (1, .int 132), (0, .int 1112014848)]) hx hb dX8_floatOfBits_62 hl (by decide) rfl (fun ls hl => ?_)
  refine lv_iinc (v := 15) (lv' := [(5, .int 15), (4, .float 1237843968), (3, .int 0), (2, .int 4718592), (1, .int 132), (0, .int 1112014848)]) hx hb dX8_floatOfBits_64 hl (k := 1) rfl (by decide) (by decide) rfl (fun ls hl => ?_)
  refine lv_goto (tgt := 52) hx hb dX8_floatOfBits_67 (by decide) ?_
  refine lv_iload hx hb dX8_floatOfBits_52 (lv_at hl 0 rfl) ?_
  refine lv_if_le (tgt := 70) hx hb dX8_floatOfBits_54 (by decide) (fun h9 => absurd h9 (by decide)) (fun _ => ?_)
  refine lv_fload hx hb dX8_floatOfBits_57 (lv_at hl 1 rfl) ?_
  refine lv_ldcf hx hb hown (hts (.constantFloat RX8 248 (1056964608)) (by decide +kernel)) dX8_floatOfBits_59 ?_
  refine lv_fmul hx hb dX8_floatOfBits_61 (by unfold vf_n32; decide +kernel) ?_
  refine W.eq (g2 := F0 m 62 ls [.float 1229455360]) (by rw [show FP.fmul 1237843968 1056964608 = 1229455360 from by decide +kernel]) ?_
  refine lv_fstore (lv' := [(4, .float 1229455360), (5, .int 15), (3, .int 0), (2, .int 4718592), (1, .int 132), (0, .int 1112014848)]) hx hb dX8_floatOfBits_62 hl (by decide) rfl (fun ls hl => ?_)
  refine lv_iinc (v := 14) (lv' := [(5, .int 14), (4, .float 1229455360), (3, .int 0), (2, .int 4718592), (1, .int 132), (0, .int 1112014848)]) hx hb dX8_floatOfBits_64 hl (k := 1) rfl (by decide) (by decide) rfl (fun ls hl => ?_)
  refine lv_goto (tgt := 52) hx hb dX8_floatOfBits_67 (by decide) ?_
  refine lv_iload hx hb dX8_floatOfBits_52 (lv_at hl 0 rfl) ?_
  refine lv_if_le (tgt := 70) hx hb dX8_floatOfBits_54 (by decide) (fun h9 => absurd h9 (by decide)) (fun _ => ?_)
  refine lv_fload hx hb dX8_floatOfBits_57 (lv_at hl 1 rfl) ?_
  refine lv_ldcf hx hb hown (hts (.constantFloat RX8 248 (1056964608)) (by decide +kernel)) dX8_floatOfBits_59 ?_
  refine lv_fmul hx hb dX8_floatOfBits_61 (by unfold vf_n32; decide +kernel) ?_
  refine W.eq (g2 := F0 m 62 ls [.float 1221066752]) (by rw [show FP.fmul 1229455360 1056964608 = 1221066752 from by decide +kernel]) ?_
  refine lv_fstore (lv' := [(4, .float 1221066752), (5, .int 14), (3, .int 0), (2, .int 4718592), (1, .int 132), (0, .int 1112014848)]) hx hb dX8_floatOfBits_62 hl (by decide) rfl (fun ls hl => ?_)
  refine lv_iinc (v := 13) (lv' := [(5, .int 13), (4, .float 1221066752), (3, .int 0), (2, .int 4718592), (1, .int 132), (0, .int 1112014848)]) hx hb dX8_floatOfBits_64 hl (k := 1) rfl (by decide) (by decide) rfl (fun ls hl => ?_)
  refine lv_goto (tgt := 52) hx hb dX8_floatOfBits_67 (by decide) ?_
  refine lv_iload hx hb dX8_floatOfBits_52 (lv_at hl 0 rfl) ?_
  refine lv_if_le (tgt := 70) hx hb dX8_floatOfBits_54 (by decide) (fun h9 => absurd h9 (by decide)) (fun _ => ?_)
  refine lv_fload hx hb dX8_floatOfBits_57 (lv_at hl 1 rfl) ?_
  refine lv_ldcf hx hb hown (hts (.constantFloat RX8 248 (1056964608)) (by decide +kernel)) dX8_floatOfBits_59 ?_
  refine lv_fmul hx hb dX8_floatOfBits_61 (by unfold vf_n32; decide +kernel) ?_
  refine W.eq (g2 := F0 m 62 ls [.float 1212678144]) (by rw [show FP.fmul 1221066752 1056964608 = 1212678144 from by decide +kernel]) ?_
  refine lv_fstore (lv' := [(4, .float 1212678144), (5, .int 13), (3, .int 0), (2, .int 4718592), (1, .int 132), (0, .int 1112014848)]) hx hb dX8_floatOfBits_62 hl (by decide) rfl (fun ls hl => ?_)
  refine lv_iinc (v := 12) (lv' := [(5, .int 12), (4, .float 1212678144), (3, .int 0), (2, .int 4718592), (1, .int 132), (0, .int 1112014848)]) hx hb dX8_floatOfBits_64 hl (k := 1) rfl (by decide) (by decide) rfl (fun ls hl => ?_)
  refine lv_goto (tgt := 52) hx hb dX8_floatOfBits_67 (by decide) ?_
  refine lv_iload hx hb dX8_floatOfBits_52 (lv_at hl 0 rfl) ?_
  refine lv_if_le (tgt := 70) hx hb dX8_floatOfBits_54 (by decide) (fun h9 => absurd h9 (by decide)) (fun _ => ?_)
  refine lv_fload hx hb dX8_floatOfBits_57 (lv_at hl 1 rfl) ?_
  refine lv_ldcf hx hb hown (hts (.constantFloat RX8 248 (1056964608)) (by decide +kernel)) dX8_floatOfBits_59 ?_
  refine lv_fmul hx hb dX8_floatOfBits_61 (by unfold vf_n32; decide +kernel) ?_
  refine W.eq (g2 := F0 m 62 ls [.float 1204289536]) (by rw [show FP.fmul 1212678144 1056964608 = 1204289536 from by decide +kernel]) ?_
  refine lv_fstore (lv' := [(4, .float 1204289536), (5, .int 12), (3, .int 0), (2, .int 4718592), (1, .int 132), (0, .int 1112014848)]) hx hb dX8_floatOfBits_62 hl (by decide) rfl (fun ls hl => ?_)
  refine lv_iinc (v := 11) (lv' := [(5, .int 11), (4, .float 1204289536), (3, .int 0), (2, .int 4718592), (1, .int 132), (0, .int 1112014848)]) hx hb dX8_floatOfBits_64 hl (k := 1) rfl (by decide) (by decide) rfl (fun ls hl => ?_)
  refine lv_goto (tgt := 52) hx hb dX8_floatOfBits_67 (by decide) ?_
  refine lv_iload hx hb dX8_floatOfBits_52 (lv_at hl 0 rfl) ?_
  refine lv_if_le (tgt := 70) hx hb dX8_floatOfBits_54 (by decide) (fun h9 => absurd h9 (by decide)) (fun _ => ?_)
  refine lv_fload hx hb dX8_floatOfBits_57 (lv_at hl 1 rfl) ?_
  refine lv_ldcf hx hb hown (hts (.constantFloat RX8 248 (1056964608)) (by decide +kernel)) dX8_floatOfBits_59 ?_
  refine lv_fmul hx hb dX8_floatOfBits_61 (by unfold vf_n32; decide +kernel) ?_
  refine W.eq (g2 := F0 m 62 ls [.float 1195900928]) (by rw [show FP.fmul 1204289536 1056964608 = 1195900928 from by decide +kernel]) ?_
  refine lv_fstore (lv' := [(4, .float 1195900928), (5, .int 11), (3, .int 0), (2, .int 4718592), (1, .int 132), (0, .int 1112014848)]) hx hb dX8_floatOfBits_62 hl (by decide) rfl (fun ls hl => ?_)
  refine lv_iinc (v := 10) (lv' := [(5, .int 10), (4, .float 1195900928), (3, .int 0), (2, .int 4718592), (1, .int 132), (0, .int 1112014848)]) hx hb dX8_floatOfBits_64 hl (k := 1) rfl (by decide) (by decide) rfl (fun ls hl => ?_)
  refine lv_goto (tgt := 52) hx hb dX8_floatOfBits_67 (by decide) ?_
  refine lv_iload hx hb dX8_floatOfBits_52 (lv_at hl 0 rfl) ?_
  refine lv_if_le (tgt := 70) hx hb dX8_floatOfBits_54 (by decide) (fun h9 => absurd h9 (by decide)) (fun _ => ?_)
  refine lv_fload hx hb dX8_floatOfBits_57 (lv_at hl 1 rfl) ?_
  refine lv_ldcf hx hb hown (hts (.constantFloat RX8 248 (1056964608)) (by decide +kernel)) dX8_floatOfBits_59 ?_
  refine lv_fmul hx hb dX8_floatOfBits_61 (by unfold vf_n32; decide +kernel) ?_
  refine W.eq (g2 := F0 m 62 ls [.float 1187512320]) (by rw [show FP.fmul 1195900928 1056964608 = 1187512320 from by decide +kernel]) ?_
  refine lv_fstore (lv' := [(4, .float 1187512320), (5, .int 10), (3, .int 0), (2, .int 4718592), (1, .int 132), (0, .int 1112014848)]) hx hb dX8_floatOfBits_62 hl (by decide) rfl (fun ls hl => ?_)
  refine lv_iinc (v := 9) (lv' := [(5, .int 9), (4, .float 1187512320), (3, .int 0), (2, .int 4718592), (1, .int 132), (0, .int 1112014848)]) hx hb dX8_floatOfBits_64 hl (k := 1) rfl (by decide) (by decide) rfl (fun ls hl => ?_)
  refine lv_goto (tgt := 52) hx hb dX8_floatOfBits_67 (by decide) ?_
  refine lv_iload hx hb dX8_floatOfBits_52 (lv_at hl 0 rfl) ?_
  refine lv_if_le (tgt := 70) hx hb dX8_floatOfBits_54 (by decide) (fun h9 => absurd h9 (by decide)) (fun _ => ?_)
  refine lv_fload hx hb dX8_floatOfBits_57 (lv_at hl 1 rfl) ?_
  refine lv_ldcf hx hb hown (hts (.constantFloat RX8 248 (1056964608)) (by decide +kernel)) dX8_floatOfBits_59 ?_
  refine lv_fmul hx hb dX8_floatOfBits_61 (by unfold vf_n32; decide +kernel) ?_
  refine W.eq (g2 := F0 m 62 ls [.float 1179123712]) (by rw [show FP.fmul 1187512320 1056964608 = 1179123712 from by decide +kernel]) ?_
  refine lv_fstore (lv' := [(4, .float 1179123712), (5, .int 9), (3, .int 0), (2, .int 4718592), (1, .int 132), (0, .int 1112014848)]) hx hb dX8_floatOfBits_62 hl (by decide) rfl (fun ls hl => ?_)
  refine lv_iinc (v := 8) (lv' := [(5, .int 8), (4, .float 1179123712), (3, .int 0), (2, .int 4718592), (1, .int 132), (0, .int 1112014848)]) hx hb dX8_floatOfBits_64 hl (k := 1) rfl (by decide) (by decide) rfl (fun ls hl => ?_)
  refine lv_goto (tgt := 52) hx hb dX8_floatOfBits_67 (by decide) ?_
  refine lv_iload hx hb dX8_floatOfBits_52 (lv_at hl 0 rfl) ?_
  refine lv_if_le (tgt := 70) hx hb dX8_floatOfBits_54 (by decide) (fun h9 => absurd h9 (by decide)) (fun _ => ?_)
  refine lv_fload hx hb dX8_floatOfBits_57 (lv_at hl 1 rfl) ?_
  refine lv_ldcf hx hb hown (hts (.constantFloat RX8 248 (1056964608)) (by decide +kernel)) dX8_floatOfBits_59 ?_
  refine lv_fmul hx hb dX8_floatOfBits_61 (by unfold vf_n32; decide +kernel) ?_
  refine W.eq (g2 := F0 m 62 ls [.float 1170735104]) (by rw [show FP.fmul 1179123712 1056964608 = 1170735104 from by decide +kernel]) ?_
  refine lv_fstore (lv' := [(4, .float 1170735104), (5, .int 8), (3, .int 0), (2, .int 4718592), (1, .int 132), (0, .int 1112014848)]) hx hb dX8_floatOfBits_62 hl (by decide) rfl (fun ls hl => ?_)
  refine lv_iinc (v := 7) (lv' := [(5, .int 7), (4, .float 1170735104), (3, .int 0), (2, .int 4718592), (1, .int 132), (0, .int 1112014848)]) hx hb dX8_floatOfBits_64 hl (k := 1) rfl (by decide) (by decide) rfl (fun ls hl => ?_)
  refine lv_goto (tgt := 52) hx hb dX8_floatOfBits_67 (by decide) ?_
  refine lv_iload hx hb dX8_floatOfBits_52 (lv_at hl 0 rfl) ?_
  refine lv_if_le (tgt := 70) hx hb dX8_floatOfBits_54 (by decide) (fun h9 => absurd h9 (by decide)) (fun _ => ?_)
  refine lv_fload hx hb dX8_floatOfBits_57 (lv_at hl 1 rfl) ?_
  refine lv_ldcf hx hb hown (hts (.constantFloat RX8 248 (1056964608)) (by decide +kernel)) dX8_floatOfBits_59 ?_
  refine lv_fmul hx hb dX8_floatOfBits_61 (by unfold vf_n32; decide +kernel) ?_
  refine W.eq (g2 := F0 m 62 ls [.float 1162346496]) (by rw [show FP.fmul 1170735104 1056964608 = 1162346496 from by decide +kernel]) ?_
  refine lv_fstore (lv' := [(4, .float 1162346496), (5, .int 7), (3, .int 0), (2, .int 4718592), (1, .int 132), (0, .int 1112014848)]) hx hb dX8_floatOfBits_62 hl (by decide) rfl (fun ls hl => ?_)
  refine lv_iinc (v := 6) (lv' := [(5, .int 6), (4, .float 1162346496), (3, .int 0), (2, .int 4718592), (1, .int 132), (0, .int 1112014848)]) hx hb dX8_floatOfBits_64 hl (k := 1) rfl (by decide) (by decide) rfl (fun ls hl => ?_)
  refine lv_goto (tgt := 52) hx hb dX8_floatOfBits_67 (by decide) ?_
  refine lv_iload hx hb dX8_floatOfBits_52 (lv_at hl 0 rfl) ?_
  refine lv_if_le (tgt := 70) hx hb dX8_floatOfBits_54 (by decide) (fun h9 => absurd h9 (by decide)) (fun _ => ?_)
  refine lv_fload hx hb dX8_floatOfBits_57 (lv_at hl 1 rfl) ?_
  refine lv_ldcf hx hb hown (hts (.constantFloat RX8 248 (1056964608)) (by decide +kernel)) dX8_floatOfBits_59 ?_
  refine lv_fmul hx hb dX8_floatOfBits_61 (by unfold vf_n32; decide +kernel) ?_
  refine W.eq (g2 := F0 m 62 ls [.float 1153957888]) (by rw [show FP.fmul 1162346496 1056964608 = 1153957888 from by decide +kernel]) ?_
  refine lv_fstore (lv' := [(4, .float 1153957888), (5, .int 6), (3, .int 0), (2, .int 4718592), (1, .int 132), (0, .int 1112014848)]) hx hb dX8_floatOfBits_62 hl (by decide) rfl (fun ls hl => ?_)
  refine lv_iinc (v := 5) (lv' := [(5, .int 5), (4, .float 1153957888), (3, .int 0), (2, .int 4718592), (1, .int 132), (0, .int 1112014848)]) hx hb dX8_floatOfBits_64 hl (k := 1) rfl (by decide) (by decide) rfl (fun ls hl => ?_)
  refine lv_goto (tgt := 52) hx hb dX8_floatOfBits_67 (by decide) ?_
  refine lv_iload hx hb dX8_floatOfBits_52 (lv_at hl 0 rfl) ?_
  refine lv_if_le (tgt := 70) hx hb dX8_floatOfBits_54 (by decide) (fun h9 => absurd h9 (by decide)) (fun _ => ?_)
  refine lv_fload hx hb dX8_floatOfBits_57 (lv_at hl 1 rfl) ?_
  refine lv_ldcf hx hb hown (hts (.constantFloat RX8 248 (1056964608)) (by decide +kernel)) dX8_floatOfBits_59 ?_
  refine lv_fmul hx hb dX8_floatOfBits_61 (by unfold vf_n32; decide +kernel) ?_
  refine W.eq (g2 := F0 m 62 ls [.float 1145569280]) (by rw [show FP.fmul 1153957888 1056964608 = 1145569280 from by decide +kernel]) ?_
  refine lv_fstore (lv' := [(4, .float 1145569280), (5, .int 5), (3, .int 0), (2, .int 4718592), (1, .int 132), (0, .int 1112014848)]) hx hb dX8_floatOfBits_62 hl (by decide) rfl (fun ls hl => ?_)
  refine lv_iinc (v := 4) (lv' := [(5, .int 4), (4, .float 1145569280), (3, .int 0), (2, .int 4718592), (1, .int 132), (0, .int 1112014848)]) hx hb dX8_floatOfBits_64 hl (k := 1) rfl (by decide) (by decide) rfl (fun ls hl => ?_)
  refine lv_goto (tgt := 52) hx hb dX8_floatOfBits_67 (by decide) ?_
  refine lv_iload hx hb dX8_floatOfBits_52 (lv_at hl 0 rfl) ?_
  refine lv_if_le (tgt := 70) hx hb dX8_floatOfBits_54 (by decide) (fun h9 => absurd h9 (by decide)) (fun _ => ?_)
  refine lv_fload hx hb dX8_floatOfBits_57 (lv_at hl 1 rfl) ?_
  refine lv_ldcf hx hb hown (hts (.constantFloat RX8 248 (1056964608)) (by decide +kernel)) dX8_floatOfBits_59 ?_
  refine lv_fmul hx hb dX8_floatOfBits_61 (by unfold vf_n32; decide +kernel) ?_
  refine W.eq (g2 := F0 m 62 ls [.float 1137180672]) (by rw [show FP.fmul 1145569280 1056964608 = 1137180672 from by decide +kernel]) ?_
  refine lv_fstore (lv' := [(4, .float 1137180672), (5, .int 4), (3, .int 0), (2, .int 4718592), (1, .int 132), (0, .int 1112014848)]) hx hb dX8_floatOfBits_62 hl (by decide) rfl (fun ls hl => ?_)
  refine lv_iinc (v := 3) (lv' := [(5, .int 3), (4, .float 1137180672), (3, .int 0), (2, .int 4718592), (1, .int 132), (0, .int 1112014848)]) hx hb dX8_floatOfBits_64 hl (k := 1) rfl (by decide) (by decide) rfl (fun ls hl => ?_)
  refine lv_goto (tgt := 52) hx hb dX8_floatOfBits_67 (by decide) ?_
  refine lv_iload hx hb dX8_floatOfBits_52 (lv_at hl 0 rfl) ?_
  refine lv_if_le (tgt := 70) hx hb dX8_floatOfBits_54 (by decide) (fun h9 => absurd h9 (by decide)) (fun _ => ?_)
  refine lv_fload hx hb dX8_floatOfBits_57 (lv_at hl 1 rfl) ?_
  refine lv_ldcf hx hb hown (hts (.constantFloat RX8 248 (1056964608)) (by decide +kernel)) dX8_floatOfBits_59 ?_
  refine lv_fmul hx hb dX8_floatOfBits_61 (by unfold vf_n32; decide +kernel) ?_
  refine W.eq (g2 := F0 m 62 ls [.float 1128792064]) (by rw [show FP.fmul 1137180672 1056964608 = 1128792064 from by decide +kernel]) ?_
  refine lv_fstore (lv' := [(4, .float 1128792064), (5, .int 3), (3, .int 0), (2, .int 4718592), (1, .int 132), (0, .int 1112014848)]) hx hb dX8_floatOfBits_62 hl (by decide) rfl (fun ls hl => ?_)
  refine lv_iinc (v := 2) (lv' := [(5, .int 2), (4, .float 1128792064), (3, .int 0), (2, .int 4718592), (1, .int 132), (0, .int 1112014848)]) hx hb dX8_floatOfBits_64 hl (k := 1) rfl (by decide) (by decide) rfl (fun ls hl => ?_)
  refine lv_goto (tgt := 52) hx hb dX8_floatOfBits_67 (by decide) ?_
  refine lv_iload hx hb dX8_floatOfBits_52 (lv_at hl 0 rfl) ?_
  refine lv_if_le (tgt := 70) hx hb dX8_floatOfBits_54 (by decide) (fun h9 => absurd h9 (by decide)) (fun _ => ?_)
  refine lv_fload hx hb dX8_floatOfBits_57 (lv_at hl 1 rfl) ?_
  refine lv_ldcf hx hb hown (hts (.constantFloat RX8 248 (1056964608)) (by decide +kernel)) dX8_floatOfBits_59 ?_
  refine lv_fmul hx hb dX8_floatOfBits_61 (by unfold vf_n32; decide +kernel) ?_
  refine W.eq (g2 := F0 m 62 ls [.float 1120403456]) (by rw [show FP.fmul 1128792064 1056964608 = 1120403456 from by decide +kernel]) ?_
  refine lv_fstore (lv' := [(4, .float 1120403456), (5, .int 2), (3, .int 0), (2, .int 4718592), (1, .int 132), (0, .int 1112014848)]) hx hb dX8_floatOfBits_62 hl (by decide) rfl (fun ls hl => ?_)
  refine lv_iinc (v := 1) (lv' := [(5, .int 1), (4, .float 1120403456), (3, .int 0), (2, .int 4718592), (1, .int 132), (0, .int 1112014848)]) hx hb dX8_floatOfBits_64 hl (k := 1) rfl (by decide) (by decide) rfl (fun ls hl => ?_)
  refine lv_goto (tgt := 52) hx hb dX8_floatOfBits_67 (by decide) ?_
  refine lv_iload hx hb dX8_floatOfBits_52 (lv_at hl 0 rfl) ?_
  refine lv_if_le (tgt := 70) hx hb dX8_floatOfBits_54 (by decide) (fun h9 => absurd h9 (by decide)) (fun _ => ?_)
  refine lv_fload hx hb dX8_floatOfBits_57 (lv_at hl 1 rfl) ?_
  refine lv_ldcf hx hb hown (hts (.constantFloat RX8 248 (1056964608)) (by decide +kernel)) dX8_floatOfBits_59 ?_
  refine lv_fmul hx hb dX8_floatOfBits_61 (by unfold vf_n32; decide +kernel) ?_
  refine W.eq (g2 := F0 m 62 ls [.float 1112014848]) (by rw [show FP.fmul 1120403456 1056964608 = 1112014848 from by decide +kernel]) ?_
  refine lv_fstore (lv' := [(4, .float 1112014848), (5, .int 1), (3, .int 0), (2, .int 4718592), (1, .int 132), (0, .int 1112014848)]) hx hb dX8_floatOfBits_62 hl (by decide) rfl (fun ls hl => ?_)
  refine lv_iinc (v := 0) (lv' := [(5, .int 0), (4, .float 1112014848), (3, .int 0), (2, .int 4718592), (1, .int 132), (0, .int 1112014848)]) hx hb dX8_floatOfBits_64 hl (k := 1) rfl (by decide) (by decide) rfl (fun ls hl => ?_)
  refine lv_goto (tgt := 52) hx hb dX8_floatOfBits_67 (by decide) ?_
  refine lv_iload hx hb dX8_floatOfBits_52 (lv_at hl 0 rfl) ?_
  refine lv_if_le (tgt := 70) hx hb dX8_floatOfBits_54 (by decide) (fun _ => ?_) (fun h9 => absurd (by decide) h9)
  refine lv_fload hx hb dX8_floatOfBits_70 (lv_at hl 1 rfl) ?_
  exact en_rf hx hb hr hlocks hS rfl dX8_floatOfBits_72
