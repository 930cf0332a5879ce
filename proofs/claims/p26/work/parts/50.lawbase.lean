/-! The law's small helpers; the ends of its walks (by wip/p26/lawbase.py) -/
theorem empP {G : va_G} {cl : List vw_C} {H : Heap} : va_P G cl [] H := fun k q h => by simp at h
theorem empD : va_D (fun _ => True) [] := ⟨fun i j p q h => by simp at h, fun k q h => by simp at h⟩
theorem en_l {p : Program} {l : Launch} {e : Env} {R : Room} {s : State} {m : MethodId} {args : Array Value} {below : List Frame} {meth : Method} {c : Code} {H : Heap} {locs : List Loc} {cells slots pc : Nat} {ls : Array Slot} {cc : ByteArray} {G : va_G} {cA : Nat → ClassId} {A : Nat → Prop} {T : Type} {post : Int32 → T → Prop} {B : T → Heap → Prop} (u : T) (hx : p.tables.exec = Jvm.exec) (hb : c.code = cc) (hr : meth.sig.returnType = some .boolean) (hlocks : meth.locks = false) (hA : At G cA A s H locs) (hp : post 1 u) (hB : B u H) (hdg : decode cc pc = .ok (.ireturn, 1)) : W p l e R s m args below meth c H locs cells slots (MQ below (va_Qi post (fun u t => B u t.heap) A) args s cells slots A) (F0 m pc ls [.int 1]) :=
  W.zret hx hb hr rfl (fun t ht _ => ⟨⟨1, u, rfl, hp, by show B u t.heap; rw [ht]; exact hB⟩, hA.2.2.F ht⟩) hA.2.2.2.2 hdg hlocks
def nnF (x : UInt32) : Int32 := if Op.cmpValue (FP.fcmp x x) CmpOp.l = 0 then 0 else 1
def bitF (x : Int32) : Int32 := if x = 0 then 1056964608 else if x = 1 then 1065353216 else if x = 2 then 1075838976 else if x = 3 then 1092616192 else if x = 4 then 1079194419 else if x = 5 then 1112014848 else if x = 6 then 1112014849 else 1056964607
def valF (x : Int32) : UInt32 := if x = 0 then 1056964608 else if x = 1 then FP.fconst1 else if x = 2 then 1075838976 else if x = 3 then 1092616192 else if x = 4 then 1079194419 else 1112014848
theorem nn_nan : nnF nanF = 1 := by decide +kernel
theorem low_ok (x : Int32) {N : Nat} (h0 : 0 < N) (hN : N < 2 ^ 31) : ∃ j : Nat, j < N ∧ (x &&& 2147483647) - (x &&& 2147483647) / nI N * nI N = nI j := by
  obtain ⟨k, hk, e⟩ := pk_andE x (m := 2147483647) 31 (by decide)
  rw [e, pk_rem hk h0 hN]
  exact ⟨k % N, Nat.mod_lt _ h0, rfl⟩
set_option maxHeartbeats 4000000 in
set_option maxRecDepth 100000 in
/-- isNone(number) -/
theorem cL_isNone_ok (l : Launch) (G : va_G) (cA : Nat → ClassId) (x0 : UInt32) : Ri l yL_isNone wsL_isNone ({ frames := 0, cells := 0, slots := 0, locals := 0 } : Room) G cA [.float x0] [] (fun r => r = nnF x0) := by
  refine ofW2 (cc := cL_isNone) (maxL := 1) (ret := (some .boolean)) (own := RL) (by decide) rfl rfl (Nat.le_of_ble_eq_true rfl) rfl ?_
  intro p e s m below meth c ls hx hb hml hr hts hown hlocks hv hl
  obtain ⟨hP, hE, hD0⟩ := hv
  have hK := hE.1
  have hD := hD0
  generalize hH0 : s.heap = H at hP ⊢
  have hS : va_S (fun _ => False) s.heap H [] := hH0 ▸ va_S.rf
  generalize ([] : List Loc) = locs at hS ⊢
  clear hH0 hD0
  replace hl : lv_has ls 1 [(0, .float x0)] := hl
  refine lv_fload_n hx hb dL_isNone_0 rfl (lv_at hl 0 rfl) ?_
  refine lv_fload_n hx hb dL_isNone_1 rfl (lv_at hl 0 rfl) ?_
  refine lv_fcmp hx hb dL_isNone_2 ?_
  refine lv_if_eq (tgt := 10) hx hb dL_isNone_3 (by decide) (fun c_3 => ?_) (fun c_3 => ?_)
  · skip
    refine lv_iconst (v := 0) hx hb dL_isNone_10 (by decide) ?_
    exact en_ri hx hb hr rfl hlocks hS (by first | rfl | (simp only [nnF, if_pos c_3]; done) | (simp only [nnF, if_pos c_3]; rfl) | (simp only [nnF, if_pos c_3]; decide)) dL_isNone_11
  · skip
    refine lv_iconst (v := 1) hx hb dL_isNone_6 (by decide) ?_
    refine lv_goto (tgt := 11) hx hb dL_isNone_7 (by decide) ?_
    exact en_ri hx hb hr rfl hlocks hS (by first | rfl | (simp only [nnF, if_neg c_3]; done) | (simp only [nnF, if_neg c_3]; rfl) | (simp only [nnF, if_neg c_3]; decide)) dL_isNone_11
set_option maxHeartbeats 4000000 in
set_option maxRecDepth 100000 in
/-- low(v, n) -/
theorem cL_low_ok (l : Launch) (G : va_G) (cA : Nat → ClassId) (x0 : Int32) (N : Nat) (h0 : 0 < N) (hN : N < 2 ^ 31) : Ri l yL_low wsL_low ({ frames := 0, cells := 0, slots := 0, locals := 0 } : Room) G cA [.int x0, .int (nI N)] [] (fun r => ∃ j : Nat, j < N ∧ r = nI j) := by
  refine ofW2 (cc := cL_low) (maxL := 2) (ret := (some .int)) (own := RL) (by decide) rfl rfl (Nat.le_of_ble_eq_true rfl) rfl ?_
  intro p e s m below meth c ls hx hb hml hr hts hown hlocks hv hl
  obtain ⟨hP, hE, hD0⟩ := hv
  have hK := hE.1
  have hD := hD0
  generalize hH0 : s.heap = H at hP ⊢
  have hS : va_S (fun _ => False) s.heap H [] := hH0 ▸ va_S.rf
  generalize ([] : List Loc) = locs at hS ⊢
  clear hH0 hD0
  replace hl : lv_has ls 2 [(0, .int x0), (1, .int (nI N))] := hl
  refine lv_iload_n hx hb dL_low_0 rfl (lv_at hl 0 rfl) ?_
  refine lv_ldc hx hb hown (hts (.constant RL 8 (2147483647)) (by decide +kernel)) dL_low_1 ?_
  refine lv_iand hx hb dL_low_3 ?_
  refine lv_iload_n hx hb dL_low_4 rfl (lv_at hl 1 rfl) ?_
  refine lv_irem hx hb dL_low_5 (nI_ne0 h0 hN) ?_
  exact en_ri hx hb hr rfl hlocks hS (low_ok x0 h0 hN) dL_low_6
set_option maxHeartbeats 4000000 in
set_option maxRecDepth 100000 in
/-- bits(k) -/
theorem cL_bits_ok (l : Launch) (G : va_G) (cA : Nat → ClassId) (x0 : Int32) : Ri l yL_bits wsL_bits ({ frames := 0, cells := 0, slots := 0, locals := 0 } : Room) G cA [.int x0] [] (fun r => r = bitF x0) := by
  refine ofW2 (cc := cL_bits) (maxL := 1) (ret := (some .int)) (own := RL) (by decide) rfl rfl (Nat.le_of_ble_eq_true rfl) rfl ?_
  intro p e s m below meth c ls hx hb hml hr hts hown hlocks hv hl
  obtain ⟨hP, hE, hD0⟩ := hv
  have hK := hE.1
  have hD := hD0
  generalize hH0 : s.heap = H at hP ⊢
  have hS : va_S (fun _ => False) s.heap H [] := hH0 ▸ va_S.rf
  generalize ([] : List Loc) = locs at hS ⊢
  clear hH0 hD0
  replace hl : lv_has ls 1 [(0, .int x0)] := hl
  refine lv_iload_n hx hb dL_bits_0 rfl (lv_at hl 0 rfl) ?_
  refine lv_topi (fun x_1 ex_1 => ?_)
  by_cases s_1 : x_1 = 0
  · rw [s_1] at ex_1 ⊢
    have s_1e := ex_1.symm
    refine lv_tableIn (off := 43) (tgt := 44) hx hb dL_bits_1 (by decide) (by decide) (by decide) (by decide) ?_
    have s_1n1 : ¬ x0 = 1 := by rw [s_1e]; decide
    have s_1n2 : ¬ x0 = 2 := by rw [s_1e]; decide
    have s_1n3 : ¬ x0 = 3 := by rw [s_1e]; decide
    have s_1n4 : ¬ x0 = 4 := by rw [s_1e]; decide
    have s_1n5 : ¬ x0 = 5 := by rw [s_1e]; decide
    have s_1n6 : ¬ x0 = 6 := by rw [s_1e]; decide
    refine lv_ldc hx hb hown (hts (.constant RL 9 (1056964608)) (by decide +kernel)) dL_bits_44 ?_
    exact en_ri hx hb hr rfl hlocks hS (by first | rfl | (simp only [bitF, if_pos s_1e, if_neg s_1n1, if_neg s_1n2, if_neg s_1n3, if_neg s_1n4, if_neg s_1n5, if_neg s_1n6]; done) | (simp only [bitF, if_pos s_1e, if_neg s_1n1, if_neg s_1n2, if_neg s_1n3, if_neg s_1n4, if_neg s_1n5, if_neg s_1n6]; rfl) | (simp only [bitF, if_pos s_1e, if_neg s_1n1, if_neg s_1n2, if_neg s_1n3, if_neg s_1n4, if_neg s_1n5, if_neg s_1n6]; decide)) dL_bits_46
  have s_1q : ¬ x0 = 0 := fun h9 => s_1 (ex_1.trans h9)
  by_cases s_1_1 : x_1 = 1
  · rw [s_1_1] at ex_1 ⊢
    have s_1_1e := ex_1.symm
    refine lv_tableIn (off := 46) (tgt := 47) hx hb dL_bits_1 (by decide) (by decide) (by decide) (by decide) ?_
    have s_1_1n2 : ¬ x0 = 2 := by rw [s_1_1e]; decide
    have s_1_1n3 : ¬ x0 = 3 := by rw [s_1_1e]; decide
    have s_1_1n4 : ¬ x0 = 4 := by rw [s_1_1e]; decide
    have s_1_1n5 : ¬ x0 = 5 := by rw [s_1_1e]; decide
    have s_1_1n6 : ¬ x0 = 6 := by rw [s_1_1e]; decide
    refine lv_ldc hx hb hown (hts (.constant RL 10 (1065353216)) (by decide +kernel)) dL_bits_47 ?_
    exact en_ri hx hb hr rfl hlocks hS (by first | rfl | (simp only [bitF, if_neg s_1q, if_pos s_1_1e, if_neg s_1_1n2, if_neg s_1_1n3, if_neg s_1_1n4, if_neg s_1_1n5, if_neg s_1_1n6]; done) | (simp only [bitF, if_neg s_1q, if_pos s_1_1e, if_neg s_1_1n2, if_neg s_1_1n3, if_neg s_1_1n4, if_neg s_1_1n5, if_neg s_1_1n6]; rfl) | (simp only [bitF, if_neg s_1q, if_pos s_1_1e, if_neg s_1_1n2, if_neg s_1_1n3, if_neg s_1_1n4, if_neg s_1_1n5, if_neg s_1_1n6]; decide)) dL_bits_49
  have s_1_1q : ¬ x0 = 1 := fun h9 => s_1_1 (ex_1.trans h9)
  by_cases s_1_2 : x_1 = 2
  · rw [s_1_2] at ex_1 ⊢
    have s_1_2e := ex_1.symm
    refine lv_tableIn (off := 49) (tgt := 50) hx hb dL_bits_1 (by decide) (by decide) (by decide) (by decide) ?_
    have s_1_2n3 : ¬ x0 = 3 := by rw [s_1_2e]; decide
    have s_1_2n4 : ¬ x0 = 4 := by rw [s_1_2e]; decide
    have s_1_2n5 : ¬ x0 = 5 := by rw [s_1_2e]; decide
    have s_1_2n6 : ¬ x0 = 6 := by rw [s_1_2e]; decide
    refine lv_ldc hx hb hown (hts (.constant RL 11 (1075838976)) (by decide +kernel)) dL_bits_50 ?_
    exact en_ri hx hb hr rfl hlocks hS (by first | rfl | (simp only [bitF, if_neg s_1q, if_neg s_1_1q, if_pos s_1_2e, if_neg s_1_2n3, if_neg s_1_2n4, if_neg s_1_2n5, if_neg s_1_2n6]; done) | (simp only [bitF, if_neg s_1q, if_neg s_1_1q, if_pos s_1_2e, if_neg s_1_2n3, if_neg s_1_2n4, if_neg s_1_2n5, if_neg s_1_2n6]; rfl) | (simp only [bitF, if_neg s_1q, if_neg s_1_1q, if_pos s_1_2e, if_neg s_1_2n3, if_neg s_1_2n4, if_neg s_1_2n5, if_neg s_1_2n6]; decide)) dL_bits_52
  have s_1_2q : ¬ x0 = 2 := fun h9 => s_1_2 (ex_1.trans h9)
  by_cases s_1_3 : x_1 = 3
  · rw [s_1_3] at ex_1 ⊢
    have s_1_3e := ex_1.symm
    refine lv_tableIn (off := 52) (tgt := 53) hx hb dL_bits_1 (by decide) (by decide) (by decide) (by decide) ?_
    have s_1_3n4 : ¬ x0 = 4 := by rw [s_1_3e]; decide
    have s_1_3n5 : ¬ x0 = 5 := by rw [s_1_3e]; decide
    have s_1_3n6 : ¬ x0 = 6 := by rw [s_1_3e]; decide
    refine lv_ldc hx hb hown (hts (.constant RL 12 (1092616192)) (by decide +kernel)) dL_bits_53 ?_
    exact en_ri hx hb hr rfl hlocks hS (by first | rfl | (simp only [bitF, if_neg s_1q, if_neg s_1_1q, if_neg s_1_2q, if_pos s_1_3e, if_neg s_1_3n4, if_neg s_1_3n5, if_neg s_1_3n6]; done) | (simp only [bitF, if_neg s_1q, if_neg s_1_1q, if_neg s_1_2q, if_pos s_1_3e, if_neg s_1_3n4, if_neg s_1_3n5, if_neg s_1_3n6]; rfl) | (simp only [bitF, if_neg s_1q, if_neg s_1_1q, if_neg s_1_2q, if_pos s_1_3e, if_neg s_1_3n4, if_neg s_1_3n5, if_neg s_1_3n6]; decide)) dL_bits_55
  have s_1_3q : ¬ x0 = 3 := fun h9 => s_1_3 (ex_1.trans h9)
  by_cases s_1_4 : x_1 = 4
  · rw [s_1_4] at ex_1 ⊢
    have s_1_4e := ex_1.symm
    refine lv_tableIn (off := 55) (tgt := 56) hx hb dL_bits_1 (by decide) (by decide) (by decide) (by decide) ?_
    have s_1_4n5 : ¬ x0 = 5 := by rw [s_1_4e]; decide
    have s_1_4n6 : ¬ x0 = 6 := by rw [s_1_4e]; decide
    refine lv_ldc hx hb hown (hts (.constant RL 13 (1079194419)) (by decide +kernel)) dL_bits_56 ?_
    exact en_ri hx hb hr rfl hlocks hS (by first | rfl | (simp only [bitF, if_neg s_1q, if_neg s_1_1q, if_neg s_1_2q, if_neg s_1_3q, if_pos s_1_4e, if_neg s_1_4n5, if_neg s_1_4n6]; done) | (simp only [bitF, if_neg s_1q, if_neg s_1_1q, if_neg s_1_2q, if_neg s_1_3q, if_pos s_1_4e, if_neg s_1_4n5, if_neg s_1_4n6]; rfl) | (simp only [bitF, if_neg s_1q, if_neg s_1_1q, if_neg s_1_2q, if_neg s_1_3q, if_pos s_1_4e, if_neg s_1_4n5, if_neg s_1_4n6]; decide)) dL_bits_58
  have s_1_4q : ¬ x0 = 4 := fun h9 => s_1_4 (ex_1.trans h9)
  by_cases s_1_5 : x_1 = 5
  · rw [s_1_5] at ex_1 ⊢
    have s_1_5e := ex_1.symm
    refine lv_tableIn (off := 58) (tgt := 59) hx hb dL_bits_1 (by decide) (by decide) (by decide) (by decide) ?_
    have s_1_5n6 : ¬ x0 = 6 := by rw [s_1_5e]; decide
    refine lv_ldc hx hb hown (hts (.constant RL 14 (1112014848)) (by decide +kernel)) dL_bits_59 ?_
    exact en_ri hx hb hr rfl hlocks hS (by first | rfl | (simp only [bitF, if_neg s_1q, if_neg s_1_1q, if_neg s_1_2q, if_neg s_1_3q, if_neg s_1_4q, if_pos s_1_5e, if_neg s_1_5n6]; done) | (simp only [bitF, if_neg s_1q, if_neg s_1_1q, if_neg s_1_2q, if_neg s_1_3q, if_neg s_1_4q, if_pos s_1_5e, if_neg s_1_5n6]; rfl) | (simp only [bitF, if_neg s_1q, if_neg s_1_1q, if_neg s_1_2q, if_neg s_1_3q, if_neg s_1_4q, if_pos s_1_5e, if_neg s_1_5n6]; decide)) dL_bits_61
  have s_1_5q : ¬ x0 = 5 := fun h9 => s_1_5 (ex_1.trans h9)
  by_cases s_1_6 : x_1 = 6
  · rw [s_1_6] at ex_1 ⊢
    have s_1_6e := ex_1.symm
    refine lv_tableIn (off := 61) (tgt := 62) hx hb dL_bits_1 (by decide) (by decide) (by decide) (by decide) ?_
    refine lv_ldc hx hb hown (hts (.constant RL 15 (1112014849)) (by decide +kernel)) dL_bits_62 ?_
    exact en_ri hx hb hr rfl hlocks hS (by first | rfl | (simp only [bitF, if_neg s_1q, if_neg s_1_1q, if_neg s_1_2q, if_neg s_1_3q, if_neg s_1_4q, if_neg s_1_5q, if_pos s_1_6e]; done) | (simp only [bitF, if_neg s_1q, if_neg s_1_1q, if_neg s_1_2q, if_neg s_1_3q, if_neg s_1_4q, if_neg s_1_5q, if_pos s_1_6e]; rfl) | (simp only [bitF, if_neg s_1q, if_neg s_1_1q, if_neg s_1_2q, if_neg s_1_3q, if_neg s_1_4q, if_neg s_1_5q, if_pos s_1_6e]; decide)) dL_bits_64
  have s_1_6q : ¬ x0 = 6 := fun h9 => s_1_6 (ex_1.trans h9)
  refine lv_tableOut (tgt := 65) hx hb dL_bits_1 (tab_0_6 s_1 s_1_1 s_1_2 s_1_3 s_1_4 s_1_5 s_1_6) (by decide) ?_
  refine lv_ldc hx hb hown (hts (.constant RL 16 (1056964607)) (by decide +kernel)) dL_bits_65 ?_
  exact en_ri hx hb hr rfl hlocks hS (by first | rfl | (simp only [bitF, if_neg s_1q, if_neg s_1_1q, if_neg s_1_2q, if_neg s_1_3q, if_neg s_1_4q, if_neg s_1_5q, if_neg s_1_6q]; done) | (simp only [bitF, if_neg s_1q, if_neg s_1_1q, if_neg s_1_2q, if_neg s_1_3q, if_neg s_1_4q, if_neg s_1_5q, if_neg s_1_6q]; rfl) | (simp only [bitF, if_neg s_1q, if_neg s_1_1q, if_neg s_1_2q, if_neg s_1_3q, if_neg s_1_4q, if_neg s_1_5q, if_neg s_1_6q]; decide)) dL_bits_67
set_option maxHeartbeats 4000000 in
set_option maxRecDepth 100000 in
/-- value(k) -/
theorem cL_value_ok (l : Launch) (G : va_G) (cA : Nat → ClassId) (x0 : Int32) : Rf l yL_value wsL_value ({ frames := 0, cells := 0, slots := 0, locals := 0 } : Room) G cA [.int x0] [] (fun r => r = valF x0) := by
  refine ofW2 (cc := cL_value) (maxL := 1) (ret := (some .float)) (own := RL) (by decide) rfl rfl (Nat.le_of_ble_eq_true rfl) rfl ?_
  intro p e s m below meth c ls hx hb hml hr hts hown hlocks hv hl
  obtain ⟨hP, hE, hD0⟩ := hv
  have hK := hE.1
  have hD := hD0
  generalize hH0 : s.heap = H at hP ⊢
  have hS : va_S (fun _ => False) s.heap H [] := hH0 ▸ va_S.rf
  generalize ([] : List Loc) = locs at hS ⊢
  clear hH0 hD0
  replace hl : lv_has ls 1 [(0, .int x0)] := hl
  refine lv_iload_n hx hb dL_value_0 rfl (lv_at hl 0 rfl) ?_
  refine lv_topi (fun x_1 ex_1 => ?_)
  by_cases s_1 : x_1 = 0
  · rw [s_1] at ex_1 ⊢
    have s_1e := ex_1.symm
    refine lv_tableIn (off := 35) (tgt := 36) hx hb dL_value_1 (by decide) (by decide) (by decide) (by decide) ?_
    have s_1n1 : ¬ x0 = 1 := by rw [s_1e]; decide
    have s_1n2 : ¬ x0 = 2 := by rw [s_1e]; decide
    have s_1n3 : ¬ x0 = 3 := by rw [s_1e]; decide
    have s_1n4 : ¬ x0 = 4 := by rw [s_1e]; decide
    refine lv_ldcf hx hb hown (hts (.constantFloat RL 17 (1056964608)) (by decide +kernel)) dL_value_36 ?_
    exact en_rf hx hb hr hlocks hS (by first | rfl | (simp only [valF, if_pos s_1e, if_neg s_1n1, if_neg s_1n2, if_neg s_1n3, if_neg s_1n4]; done) | (simp only [valF, if_pos s_1e, if_neg s_1n1, if_neg s_1n2, if_neg s_1n3, if_neg s_1n4]; rfl) | (simp only [valF, if_pos s_1e, if_neg s_1n1, if_neg s_1n2, if_neg s_1n3, if_neg s_1n4]; decide)) dL_value_38
  have s_1q : ¬ x0 = 0 := fun h9 => s_1 (ex_1.trans h9)
  by_cases s_1_1 : x_1 = 1
  · rw [s_1_1] at ex_1 ⊢
    have s_1_1e := ex_1.symm
    refine lv_tableIn (off := 38) (tgt := 39) hx hb dL_value_1 (by decide) (by decide) (by decide) (by decide) ?_
    have s_1_1n2 : ¬ x0 = 2 := by rw [s_1_1e]; decide
    have s_1_1n3 : ¬ x0 = 3 := by rw [s_1_1e]; decide
    have s_1_1n4 : ¬ x0 = 4 := by rw [s_1_1e]; decide
    refine lv_fconst1 hx hb dL_value_39 ?_
    exact en_rf hx hb hr hlocks hS (by first | rfl | (simp only [valF, if_neg s_1q, if_pos s_1_1e, if_neg s_1_1n2, if_neg s_1_1n3, if_neg s_1_1n4]; done) | (simp only [valF, if_neg s_1q, if_pos s_1_1e, if_neg s_1_1n2, if_neg s_1_1n3, if_neg s_1_1n4]; rfl) | (simp only [valF, if_neg s_1q, if_pos s_1_1e, if_neg s_1_1n2, if_neg s_1_1n3, if_neg s_1_1n4]; decide)) dL_value_40
  have s_1_1q : ¬ x0 = 1 := fun h9 => s_1_1 (ex_1.trans h9)
  by_cases s_1_2 : x_1 = 2
  · rw [s_1_2] at ex_1 ⊢
    have s_1_2e := ex_1.symm
    refine lv_tableIn (off := 40) (tgt := 41) hx hb dL_value_1 (by decide) (by decide) (by decide) (by decide) ?_
    have s_1_2n3 : ¬ x0 = 3 := by rw [s_1_2e]; decide
    have s_1_2n4 : ¬ x0 = 4 := by rw [s_1_2e]; decide
    refine lv_ldcf hx hb hown (hts (.constantFloat RL 18 (1075838976)) (by decide +kernel)) dL_value_41 ?_
    exact en_rf hx hb hr hlocks hS (by first | rfl | (simp only [valF, if_neg s_1q, if_neg s_1_1q, if_pos s_1_2e, if_neg s_1_2n3, if_neg s_1_2n4]; done) | (simp only [valF, if_neg s_1q, if_neg s_1_1q, if_pos s_1_2e, if_neg s_1_2n3, if_neg s_1_2n4]; rfl) | (simp only [valF, if_neg s_1q, if_neg s_1_1q, if_pos s_1_2e, if_neg s_1_2n3, if_neg s_1_2n4]; decide)) dL_value_43
  have s_1_2q : ¬ x0 = 2 := fun h9 => s_1_2 (ex_1.trans h9)
  by_cases s_1_3 : x_1 = 3
  · rw [s_1_3] at ex_1 ⊢
    have s_1_3e := ex_1.symm
    refine lv_tableIn (off := 43) (tgt := 44) hx hb dL_value_1 (by decide) (by decide) (by decide) (by decide) ?_
    have s_1_3n4 : ¬ x0 = 4 := by rw [s_1_3e]; decide
    refine lv_ldcf hx hb hown (hts (.constantFloat RL 19 (1092616192)) (by decide +kernel)) dL_value_44 ?_
    exact en_rf hx hb hr hlocks hS (by first | rfl | (simp only [valF, if_neg s_1q, if_neg s_1_1q, if_neg s_1_2q, if_pos s_1_3e, if_neg s_1_3n4]; done) | (simp only [valF, if_neg s_1q, if_neg s_1_1q, if_neg s_1_2q, if_pos s_1_3e, if_neg s_1_3n4]; rfl) | (simp only [valF, if_neg s_1q, if_neg s_1_1q, if_neg s_1_2q, if_pos s_1_3e, if_neg s_1_3n4]; decide)) dL_value_46
  have s_1_3q : ¬ x0 = 3 := fun h9 => s_1_3 (ex_1.trans h9)
  by_cases s_1_4 : x_1 = 4
  · rw [s_1_4] at ex_1 ⊢
    have s_1_4e := ex_1.symm
    refine lv_tableIn (off := 46) (tgt := 47) hx hb dL_value_1 (by decide) (by decide) (by decide) (by decide) ?_
    refine lv_ldcf hx hb hown (hts (.constantFloat RL 20 (1079194419)) (by decide +kernel)) dL_value_47 ?_
    exact en_rf hx hb hr hlocks hS (by first | rfl | (simp only [valF, if_neg s_1q, if_neg s_1_1q, if_neg s_1_2q, if_neg s_1_3q, if_pos s_1_4e]; done) | (simp only [valF, if_neg s_1q, if_neg s_1_1q, if_neg s_1_2q, if_neg s_1_3q, if_pos s_1_4e]; rfl) | (simp only [valF, if_neg s_1q, if_neg s_1_1q, if_neg s_1_2q, if_neg s_1_3q, if_pos s_1_4e]; decide)) dL_value_49
  have s_1_4q : ¬ x0 = 4 := fun h9 => s_1_4 (ex_1.trans h9)
  refine lv_tableOut (tgt := 50) hx hb dL_value_1 (tab_0_4 s_1 s_1_1 s_1_2 s_1_3 s_1_4) (by decide) ?_
  refine lv_ldcf hx hb hown (hts (.constantFloat RL 21 (1112014848)) (by decide +kernel)) dL_value_50 ?_
  exact en_rf hx hb hr hlocks hS (by first | rfl | (simp only [valF, if_neg s_1q, if_neg s_1_1q, if_neg s_1_2q, if_neg s_1_3q, if_neg s_1_4q]; done) | (simp only [valF, if_neg s_1q, if_neg s_1_1q, if_neg s_1_2q, if_neg s_1_3q, if_neg s_1_4q]; rfl) | (simp only [valF, if_neg s_1q, if_neg s_1_1q, if_neg s_1_2q, if_neg s_1_3q, if_neg s_1_4q]; decide)) dL_value_52
