/-! THE INVARIANT of a run: no NaN comes, and what is told stays so (by hand) -/
theorem lo_mag {x s : Int32} (hs : ¬ s = 0) : (FP.fdiv (FP.i2f x) (FP.i2f s)).toNat % 2 ^ 31 < 161 * 2 ^ 23 := by
  have h := Jvm.FP.Core.i2f_big (Jvm.FP.Core.int32_ne hs)
  have h2 := Jvm.FP.Core.fdiv_mag (K := 160) (L := 127) (Jvm.FP.Core.i2f_mag x) h.1 h.2 (by decide) (by decide)
  exact h2
theorem one_mag : (FP.fconst1).toNat % 2 ^ 31 < 161 * 2 ^ 23 := by decide +kernel
theorem mag_nn {x : UInt32} {K : Nat} (h : x.toNat % 2 ^ 31 < K * 2 ^ 23) (hK : K ≤ 255) : vf_n32 x := vf_of (Jvm.FP.Core.fin_of_lt32 h hK).notNaN
theorem mag_fin {x : UInt32} {K : Nat} (h : x.toNat % 2 ^ 31 < K * 2 ^ 23) (hK : K ≤ 255) : Jvm.FP.Core.FFin x := Jvm.FP.Core.fin_of_lt32 h hK
theorem ls_mag {g : GG} (hs : ¬ smF g = 0) : (lsF g).toNat % 2 ^ 31 < 161 * 2 ^ 23 := by
  unfold lsF
  split
  · exact lo_mag hs
  · exact lo_mag hs
theorem l2_mag {g : GG} (hs : ¬ smF g = 0) : (l2F g).toNat % 2 ^ 31 < 161 * 2 ^ 23 := by
  unfold l2F
  split
  · exact ls_mag hs
  · exact lo_mag hs
theorem k075_mag : (1061158912 : UInt32).toNat % 2 ^ 31 < 127 * 2 ^ 23 := by decide +kernel
theorem k3_mag : (1077936128 : UInt32).toNat % 2 ^ 31 < 129 * 2 ^ 23 := by decide +kernel
theorem om_mag {x : UInt32} (h : x.toNat % 2 ^ 31 < 161 * 2 ^ 23) : (FP.fsub FP.fconst1 x).toNat % 2 ^ 31 < 163 * 2 ^ 23 := Jvm.FP.Core.fsub_mag one_mag h (by decide)
theorem leaf_mag {n : Int32} (h : ¬ n = 0) : (FP.fdiv FP.fconst1 (FP.i2f n)).toNat % 2 ^ 31 < 162 * 2 ^ 23 := by
  have h1 := Jvm.FP.Core.i2f_big (Jvm.FP.Core.int32_ne h)
  exact Jvm.FP.Core.fdiv_mag (K := 161) (L := 127) one_mag h1.1 h1.2 (by decide) (by decide)
theorem hand_mag {x : UInt32} (h : x.toNat % 2 ^ 31 < 161 * 2 ^ 23) : (FP.fmul (FP.fsub FP.fconst1 x) 1061158912).toNat % 2 ^ 31 < 164 * 2 ^ 23 := Jvm.FP.Core.fmul_mag (Ka := 163) (Kb := 127) (om_mag h) k075_mag (by decide) (by decide)
theorem dog_mag {x y : UInt32} (h : x.toNat % 2 ^ 31 < 161 * 2 ^ 23) (h2 : y.toNat % 2 ^ 31 < 161 * 2 ^ 23) : (FP.fmul x (FP.fsub FP.fconst1 y)).toNat % 2 ^ 31 < 198 * 2 ^ 23 := Jvm.FP.Core.fmul_mag (Ka := 161) (Kb := 163) h (om_mag h2) (by decide) (by decide)
theorem pers_mag {x : UInt32} (h : x.toNat % 2 ^ 31 < 161 * 2 ^ 23) : (FP.fmul 1077936128 x).toNat % 2 ^ 31 < 164 * 2 ^ 23 := Jvm.FP.Core.fmul_mag (Ka := 129) (Kb := 161) k3_mag h (by decide) (by decide)
theorem LkOk_all (g : GG) : LkOk g := fun h7 hs =>
  ⟨mag_nn (lo_mag hs) (by decide), mag_nn (lo_mag hs) (by decide), mag_nn (lo_mag hs) (by decide), mag_nn (leaf_mag h7) (by decide), mag_nn (om_mag (lo_mag hs)) (by decide), mag_nn (hand_mag (lo_mag hs)) (by decide), mag_nn (om_mag (lo_mag hs)) (by decide), mag_nn (dog_mag (lo_mag hs) (lo_mag hs)) (by decide), mag_nn (pers_mag (l2_mag hs)) (by decide)⟩
theorem z_fin : Jvm.FP.Core.FFin FP.fconst0 := fin_c (by decide +kernel)
theorem like_fin (g : GG) (k : Int32) : Jvm.FP.Core.FFin (likeF g k) := by
  unfold likeF
  split
  · exact z_fin
  · rename_i h7
    split
    · exact z_fin
    · rename_i hs
      split
      · exact mag_fin (leaf_mag h7) (by decide)
      · split
        · exact mag_fin (hand_mag (lo_mag hs)) (by decide)
        · split
          · exact mag_fin (dog_mag (lo_mag hs) (lo_mag hs)) (by decide)
          · split
            · exact mag_fin (pers_mag (l2_mag hs)) (by decide)
            · exact z_fin
theorem prod_nn {u : FF} {g : GG} {k : Int32} (h : Jvm.FP.Core.FFin (weF u k)) : vf_n32 (prodF u g k) := vf_of (Jvm.FP.Core.fmul_out (like_fin g k) h)
/-- what holds of the settings -/
def SeN (u : FF) (v : GG) : Prop := (∀ j, j < 7 → okS (u j)) ∧ v 1 ≤ 5
theorem PrOk_all {u : FF} (g : GG) (h : ∀ j, j < 7 → okS (u j)) : PrOk u g := ⟨LkOk_all g, prod_nn (h 3 (by decide)).1, prod_nn (h 4 (by decide)).1, prod_nn (h 5 (by decide)).1, prod_nn (h 6 (by decide)).1⟩
theorem vf_place {x : UInt32} (h : okP x) : vf_n32 x := vf_of (Jvm.FP.Core.FFin.notNaN h.1)
theorem GoOk_of {u : FF} {f : FF} {g : GG} (h : ∀ j, j < 7 → okS (u j)) (hp : okP (f 7)) : GoOk u f g := ⟨PrOk_all _ h, (add_ok hp (h 0 (by decide))).1, (sub_le hp (h 1 (by decide))).1, (sub_le hp (h 2 (by decide))).1⟩
theorem okP_of {x : UInt32} (hn : vf_n32 x) (h0 : 0 ≤ zv x) (h1 : zv x ≤ zv 1120403456) : okP x := by
  refine ⟨?_, h0, h1⟩
  have hn := of_vf hn
  unfold Jvm.FP.Core.FFin
  cases e : Jvm.FP.Core.val32 x with
  | nan => exact absurd e hn
  | fin s c q => exact ⟨s, c, q, rfl⟩
  | inf s =>
    exfalso
    unfold zv at h0 h1
    rw [e] at h0 h1
    cases s
    · exact absurd h1 (by decide +kernel)
    · exact absurd h0 (by decide +kernel)
/-- what holds of the door -/
def DoN (f : FF) (g : GG) : Prop := okP (f 7) ∧ ((g 13 = 0 ∧ zv (f 7) = 0) ∨ g 13 = 1 ∨ (g 13 = 2 ∧ f 7 = 1120403456) ∨ (g 13 = 3 ∧ 0 < zv (f 7) ∧ g 15 ≤ 5))
theorem zv_c0 : zv FP.fconst0 = 0 := zv_0
theorem nn_c0 : Jvm.FP.Core.val32 FP.fconst0 ≠ .nan := of_vf n32_0
theorem nn_100 : Jvm.FP.Core.val32 1120403456 ≠ .nan := of_vf n32_100
theorem zv_100 : 0 < zv 1120403456 := by decide +kernel
theorem do_mv {u : FF} {v : GG} {f : FF} {g p : GG} {b : Int32} (hS : SeN u v) (h : DoN f g) (h13 : p 13 = g 13) (h15 : p 15 = g 15) : DoN (mvF u v f p b) (mvG u v f p b) := by
  obtain ⟨hp, hd⟩ := h
  rcases hd with ⟨h0, hz⟩ | h1 | ⟨h2, hz⟩ | ⟨h3, hz, h5⟩
  · have e := mv_0 (u := u) (v := v) (f := f) (b := b) (h13.trans h0)
    rw [e.1, e.2]
    exact ⟨hp, Or.inl ⟨h13.trans h0, hz⟩⟩
  · have e := mv_1 (u := u) (v := v) (f := f) (b := b) (h13.trans h1)
    rw [e.1, e.2]
    have ha := add_ok hp (hS.1 0 (by decide))
    have hc := cmp_lt0 (of_vf ha.1) nn_100 CmpOp.l
    by_cases hlt : Op.cmpValue (FP.fcmp (FP.fadd (f 7) (u 0)) 1120403456) CmpOp.l < 0
    · have ef : openF f (u 0) 7 = FP.fadd (f 7) (u 0) := by show (if Op.cmpValue (FP.fcmp (FP.fadd (f 7) (u 0)) 1120403456) CmpOp.l < 0 then _ else _) = _; rw [if_pos hlt]
      have eg : openG f p (u 0) 13 = 1 := by show (if Op.cmpValue (FP.fcmp (FP.fadd (f 7) (u 0)) 1120403456) CmpOp.l < 0 then p 13 else 2) = _; rw [if_pos hlt, h13, h1]
      refine ⟨?_, Or.inr (Or.inl eg)⟩
      rw [ef]
      exact okP_of ha.1 ha.2 (Int.le_of_lt (hc.mp hlt))
    · have ef : openF f (u 0) 7 = 1120403456 := by show (if Op.cmpValue (FP.fcmp (FP.fadd (f 7) (u 0)) 1120403456) CmpOp.l < 0 then _ else _) = _; rw [if_neg hlt]
      have eg : openG f p (u 0) 13 = 2 := by show (if Op.cmpValue (FP.fcmp (FP.fadd (f 7) (u 0)) 1120403456) CmpOp.l < 0 then p 13 else 2) = _; rw [if_neg hlt]
      refine ⟨?_, Or.inr (Or.inr (Or.inl ⟨eg, ef⟩))⟩
      rw [ef]
      exact okP_100
  · have e := mv_2 (u := u) (v := v) (f := f) (b := b) (h13.trans h2)
    rw [e.1, e.2]
    refine ⟨hp, Or.inr (Or.inr ?_)⟩
    have p2 := h13.trans h2
    show ((if b = 0 then (if p 14 + 1 < v 0 then p 13 else if p 17 = 0 then 3 else p 13) else p 13) = 2 ∧ _) ∨ ((if b = 0 then (if p 14 + 1 < v 0 then p 13 else if p 17 = 0 then 3 else p 13) else p 13) = 3 ∧ _ ∧ (if b = 0 then (if p 14 + 1 < v 0 then p 15 else if p 17 = 0 then 0 else p 15) else p 15) ≤ 5)
    by_cases hb : b = 0
    · rw [if_pos hb, if_pos hb]
      by_cases hw : p 14 + 1 < v 0
      · rw [if_pos hw]; exact Or.inl ⟨p2, hz⟩
      · rw [if_neg hw, if_neg hw]
        by_cases h17 : p 17 = 0
        · rw [if_pos h17, if_pos h17]
          exact Or.inr ⟨rfl, by rw [hz]; exact zv_100, by decide⟩
        · rw [if_neg h17]; exact Or.inl ⟨p2, hz⟩
    · rw [if_neg hb]; exact Or.inl ⟨p2, hz⟩
  · have e := mv_3 (u := u) (v := v) (f := f) (b := b) (h13.trans h3)
    rw [e.1, e.2]
    by_cases hb : b = 0
    · have eg : cosG u v f p b = upd (closeG f p (spF u (scF v p))) 23 (if closeR f (spF u (scF v p)) = 0 then p 23 else p 23 + 1) := if_pos hb
      have ef : cosF u v f p b = closeF f (spF u (scF v p)) := if_pos hb
      rw [eg, ef]
      have hs : vf_n32 (FP.fsub (f 7) (spF u (scF v p))) ∧ zv (FP.fsub (f 7) (spF u (scF v p))) ≤ zv 1120403456 := by
        unfold scF
        split
        · exact sub_le hp (hS.1 1 (by decide))
        · exact sub_le hp (hS.1 2 (by decide))
      have hc := cmp_le0 (of_vf hs.1) nn_c0 CmpOp.l
      rw [zv_c0] at hc
      by_cases hle : Op.cmpValue (FP.fcmp (FP.fsub (f 7) (spF u (scF v p))) FP.fconst0) CmpOp.l ≤ 0
      · have e7 : closeF f (spF u (scF v p)) 7 = FP.fconst0 := by show (if Op.cmpValue (FP.fcmp (FP.fsub (f 7) (spF u (scF v p))) FP.fconst0) CmpOp.l ≤ 0 then _ else _) = _; rw [if_pos hle]
        refine ⟨by rw [e7]; exact okP_0, Or.inl ⟨?_, by rw [e7]; exact zv_c0⟩⟩
        show (if Op.cmpValue (FP.fcmp (FP.fsub (f 7) (spF u (scF v p))) FP.fconst0) CmpOp.l ≤ 0 then 0 else p 13) = 0
        rw [if_pos hle]
      · have e7 : closeF f (spF u (scF v p)) 7 = FP.fsub (f 7) (spF u (scF v p)) := by show (if Op.cmpValue (FP.fcmp (FP.fsub (f 7) (spF u (scF v p))) FP.fconst0) CmpOp.l ≤ 0 then _ else _) = _; rw [if_neg hle]
        have hgt : 0 < zv (FP.fsub (f 7) (spF u (scF v p))) := by
          rcases Int.lt_or_le 0 (zv (FP.fsub (f 7) (spF u (scF v p)))) with h9 | h9
          · exact h9
          · exact absurd (hc.mpr h9) hle
        refine ⟨by rw [e7]; exact okP_of hs.1 (Int.le_of_lt hgt) hs.2, Or.inr (Or.inr (Or.inr ⟨?_, by rw [e7]; exact hgt, ?_⟩))⟩
        · show (if Op.cmpValue (FP.fcmp (FP.fsub (f 7) (spF u (scF v p))) FP.fconst0) CmpOp.l ≤ 0 then 0 else p 13) = 3
          rw [if_neg hle]; exact h13.trans h3
        · show (0 : Int32) ≤ 5
          decide
    · have ef : cosF u v f p b = f := if_neg hb
      have eg : cosG u v f p b = if standR p (v 1) = 0 then standG p else oaG v (standG p) := if_neg hb
      rw [ef, eg]
      unfold standR
      by_cases hst : p 15 + 1 ≤ v 1
      · rw [if_pos hst, if_pos rfl]
        refine ⟨hp, Or.inr (Or.inr (Or.inr ⟨h13.trans h3, hz, ?_⟩))⟩
        show p 15 + 1 ≤ 5
        exact Int32.le_trans hst hS.2
      · rw [if_neg hst, if_neg (by decide)]
        exact ⟨hp, Or.inr (Or.inl rfl)⟩
/-! the thing and the log -/
/-- the log's rows, R of them, the latest one ended ahead of E -/
def LoN (L : GG) (R E : Nat) : Prop := ∃ K B N M F : Nat → Nat, ∀ i, i < R → (L (i * 5 + 0) = nI (K i) ∧ L (i * 5 + 1) = nI (B i) ∧ L (i * 5 + 2) = nI (N i) ∧ L (i * 5 + 3) = nI (M i) ∧ L (i * 5 + 4) = nI (F i)) ∧ K i ≤ 3 ∧ 1 ≤ N i ∧ 1 ≤ M i ∧ M i ≤ 7 ∧ B i + N i ≤ F i ∧ F i < E ∧ (i ≠ 0 → F i < B (i - 1))
/-- the thing that is there, none of it ahead of E -/
def TgN (g : GG) (T E : Nat) : Prop := ∃ b n c l m h : Nat, (g 6 = nI b ∧ g 7 = nI n ∧ g 8 = nI l ∧ g 9 = nI m ∧ g 10 = nI h ∧ g 11 = nI c) ∧ 1 ≤ n ∧ l ≤ n ∧ m ≤ n ∧ h ≤ n ∧ n ≤ l + m + h ∧ b + n + c ≤ T ∧ E ≤ b
def ThN (g L : GG) (T : Nat) : Prop := ∃ J E : Nat, ((g 19 + g 20) + g 21) + g 22 = nI J ∧ J ≤ T ∧ g 18 = nI (if J < 10 then J else 10) ∧ E ≤ T ∧ LoN L (if J < 10 then J else 10) E ∧ (¬ g 5 = 0 → TgN g T E)
theorem mv_th {u : FF} {v : GG} {f : FF} {g : GG} {b : Int32} {k : Nat} (h12 : k ≠ 12) (h13 : k ≠ 13) (h14 : k ≠ 14) (h15 : k ≠ 15) (h16 : k ≠ 16) (h17 : k ≠ 17) (h23 : k ≠ 23) (h24 : k ≠ 24) (h25 : k ≠ 25) : mvG u v f g b k = g k := by
  unfold mvG cosG
  split
  · unfold openG; rw [pk_un h14, pk_un h13]
  · split
    · unfold waitG; rw [pk_un h15, pk_un h13, pk_un h14]
    · split
      · split
        · unfold closeG; rw [pk_un h23, pk_un h16, pk_un h13, pk_un h15]
        · split
          · unfold standG; rw [pk_un h15]
          · unfold oaG standG; rw [pk_un h25, pk_un h17, pk_un h12, pk_un h24, pk_un h16, pk_un h13, pk_un h15]
      · rfl
theorem go_th {u : FF} {v : GG} {f : FF} {g : GG} {b : Int32} {k : Nat} (h12 : k ≠ 12) (h13 : k ≠ 13) (h14 : k ≠ 14) (h15 : k ≠ 15) (h16 : k ≠ 16) (h17 : k ≠ 17) (h23 : k ≠ 23) (h24 : k ≠ 24) (h25 : k ≠ 25) (h27 : k ≠ 27) : goG u v f g b k = preG u v g b k := (go_G h27).trans (mv_th h12 h13 h14 h15 h16 h17 h23 h24 h25)
theorem th_of {u : FF} {v : GG} {f : FF} {g : GG} {b : Int32} {L : GG} {T : Nat} (h : ThN (preG u v g b) L T) : ThN (goG u v f g b) L T := by
  unfold ThN TgN at h ⊢
  have e : ∀ {k : Nat}, k ≠ 12 → k ≠ 13 → k ≠ 14 → k ≠ 15 → k ≠ 16 → k ≠ 17 → k ≠ 23 → k ≠ 24 → k ≠ 25 → k ≠ 27 → goG u v f g b k = preG u v g b k := fun a b c d e f g h i j => go_th a b c d e f g h i j
  rw [e (k := 5), e (k := 6), e (k := 7), e (k := 8), e (k := 9), e (k := 10), e (k := 11), e (k := 18), e (k := 19), e (k := 20), e (k := 21), e (k := 22)] <;> first | exact h | decide
theorem bits_8 : ∀ j, j < 8 → nI j &&& 1 = nI (j % 2) ∧ (nI j >>> (1 &&& 31)) &&& 1 = nI (j / 2 % 2) ∧ (nI j >>> (2 &&& 31)) &&& 1 = nI (j / 4 % 2) := by decide +kernel
/-- a tick with beams broken -/
theorem th_break {u : FF} {v g L : GG} {T j : Nat} (hj : j < 8) (hj0 : j ≠ 0) (hT : g 27 = nI T) (h : ThN g L T) : ThN (preG u v g (nI j)) L (T + 1) := by
  have hb : ¬ nI j = 0 := nI_ne0 (by omega) (by omega)
  rw [pre_b hb]
  obtain ⟨J, E, hJ, hJT, h18, hE, hL, hg⟩ := h
  refine ⟨J, E, hJ, by omega, h18, by omega, hL, fun _ => ?_⟩
  obtain ⟨b1, b2, b3⟩ := bits_8 j hj
  by_cases h5 : g 5 = 0
  · refine ⟨T, 1, 0, j % 2, j / 2 % 2, j / 4 % 2, ⟨?_, ?_, ?_, ?_, ?_, rfl⟩, by omega, by omega, by omega, by omega, by omega, by omega, hE⟩
    · show (if g 5 = 0 then g 27 else g 6) = _
      rw [if_pos h5, hT]
    · show (if g 5 = 0 then 0 else g 7) + 1 = _
      rw [if_pos h5]; rfl
    · show (if g 5 = 0 then 0 else g 8) + (nI j &&& 1) = _
      rw [if_pos h5, b1, Int32.zero_add]
    · show (if g 5 = 0 then 0 else g 9) + ((nI j >>> (1 &&& 31)) &&& 1) = _
      rw [if_pos h5, b2, Int32.zero_add]
    · show (if g 5 = 0 then 0 else g 10) + ((nI j >>> (2 &&& 31)) &&& 1) = _
      rw [if_pos h5, b3, Int32.zero_add]
  · obtain ⟨b, n, c, l, m, hh, ⟨e6, e7, e8, e9, e10, e11⟩, hn, hl, hm, hh1, hs, ht, hEb⟩ := hg h5
    refine ⟨b, n + 1, 0, l + j % 2, m + j / 2 % 2, hh + j / 4 % 2, ⟨?_, ?_, ?_, ?_, ?_, rfl⟩, by omega, by omega, by omega, by omega, by omega, by omega, hEb⟩
    · show (if g 5 = 0 then g 27 else g 6) = _
      rw [if_neg h5, e6]
    · show (if g 5 = 0 then 0 else g 7) + 1 = _
      rw [if_neg h5, e7, nI_1]
    · show (if g 5 = 0 then 0 else g 8) + (nI j &&& 1) = _
      rw [if_neg h5, b1, e8, nI_add]
    · show (if g 5 = 0 then 0 else g 9) + ((nI j >>> (1 &&& 31)) &&& 1) = _
      rw [if_neg h5, b2, e9, nI_add]
    · show (if g 5 = 0 then 0 else g 10) + ((nI j >>> (2 &&& 31)) &&& 1) = _
      rw [if_neg h5, b3, e10, nI_add]
/-- a clear tick, the thing that is there (if any) goes on -/
theorem th_clear {u : FF} {v g L : GG} {T : Nat} (hc : clearR g (v 4) = 0) (h : ThN g L T) : ThN (preG u v g 0) L (T + 1) := by
  rw [pre_c hc]
  obtain ⟨J, E, hJ, hJT, h18, hE, hL, hg⟩ := h
  refine ⟨J, E, hJ, by omega, h18, by omega, hL, fun h5 => ?_⟩
  have h5 : ¬ g 5 = 0 := h5
  obtain ⟨b, n, c, l, m, hh, ⟨e6, e7, e8, e9, e10, e11⟩, hn, hl, hm, hh1, hs, ht, hEb⟩ := hg h5
  refine ⟨b, n, c + 1, l, m, hh, ⟨e6, e7, e8, e9, e10, ?_⟩, hn, hl, hm, hh1, hs, by omega, hEb⟩
  show (if g 5 = 0 then g 11 else g 11 + 1) = _
  rw [if_neg h5, e11, nI_1]
theorem add_rc (a b c : Int32) : a + b + c = a + c + b := by rw [Int32.add_assoc, Int32.add_comm b c, ← Int32.add_assoc]
theorem bb_le {n : Nat} (h : n < 2 ^ 31) : (if nI n ≤ 0 then (0 : Int32) else 1) = nI (if n = 0 then 0 else 1) := by
  by_cases h0 : n = 0
  · subst h0; rfl
  · rw [if_neg h0, if_neg (nI_nle (by omega) h)]; rfl
theorem bbF_of {g : GG} {l m h : Nat} (e8 : g 8 = nI l) (e9 : g 9 = nI m) (e10 : g 10 = nI h) (hl : l < 2 ^ 31) (hm : m < 2 ^ 31) (hh : h < 2 ^ 31) (h1 : 1 ≤ l + m + h) : ∃ M : Nat, bbF g = nI M ∧ 1 ≤ M ∧ M ≤ 7 := by
  unfold bbF
  rw [e8, e9, e10, bb_le hl, bb_le hm, bb_le hh]
  by_cases a : l = 0 <;> by_cases b : m = 0 <;> by_cases c : h = 0
  · omega
  · rw [if_pos a, if_pos b, if_neg c]; exact ⟨4, by decide, by decide, by decide⟩
  · rw [if_pos a, if_neg b, if_pos c]; exact ⟨2, by decide, by decide, by decide⟩
  · rw [if_pos a, if_neg b, if_neg c]; exact ⟨6, by decide, by decide, by decide⟩
  · rw [if_neg a, if_pos b, if_pos c]; exact ⟨1, by decide, by decide, by decide⟩
  · rw [if_neg a, if_pos b, if_neg c]; exact ⟨5, by decide, by decide, by decide⟩
  · rw [if_neg a, if_neg b, if_pos c]; exact ⟨3, by decide, by decide, by decide⟩
  · rw [if_neg a, if_neg b, if_neg c]; exact ⟨7, by decide, by decide, by decide⟩
theorem log_at {L g : GG} {kd t : Int32} {i w : Nat} : enterL L g kd t ((i + 1) * 5 + w) = L (i * 5 + w) := by
  show (if (i + 1) * 5 + w = 0 then kd else if (i + 1) * 5 + w = 1 then g 6 else if (i + 1) * 5 + w = 2 then g 7 else if (i + 1) * 5 + w = 3 then bbF g else if (i + 1) * 5 + w = 4 then t else L ((i + 1) * 5 + w - 5)) = _
  rw [if_neg (by omega), if_neg (by omega), if_neg (by omega), if_neg (by omega), if_neg (by omega)]
  congr 1
  omega
/-- one more ahead of a row of numbers -/
def shf (x : Nat) (F : Nat → Nat) : Nat → Nat := fun i => if i = 0 then x else F (i - 1)
theorem shf_0 {x : Nat} {F : Nat → Nat} : shf x F 0 = x := if_pos rfl
theorem shf_s {x : Nat} {F : Nat → Nat} {i : Nat} : shf x F (i + 1) = F i := by
  show (if i + 1 = 0 then x else F (i + 1 - 1)) = F i
  rw [if_neg (Nat.succ_ne_zero i), Nat.add_sub_cancel]
/-- a clear tick in which the thing ends -/
theorem th_end {u : FF} {v g L : GG} {T : Nat} (hT31 : T < 2 ^ 31) (hc : ¬ clearR g (v 4) = 0) (hT : g 27 = nI T) (h : ThN g L T) : ThN (preG u v g 0) (judgeL u (clearG g) L) (T + 1) := by
  rw [pre_e hc]
  have h5 : ¬ g 5 = 0 := fun h9 => hc (clearR_none h9)
  obtain ⟨J, E, hJ, hJT, h18, hE, hL, hg⟩ := h
  obtain ⟨b, n, c, l, m, hh, ⟨e6, e7, e8, e9, e10, e11⟩, hn, hl, hm, hh1, hs, ht, hEb⟩ := hg h5
  refine ⟨J + 1, T + 1, ?_, by omega, ?_, by omega, ?_, fun h9 => absurd rfl h9⟩
  · have hbk := bestK_in (u := u) (g := clearG g)
    show (((if bestK u (clearG g) = 0 then g 19 + 1 else g 19) + (if bestK u (clearG g) = 1 then g 20 + 1 else g 20)) + (if bestK u (clearG g) = 2 then g 21 + 1 else g 21)) + (if bestK u (clearG g) = 3 then g 22 + 1 else g 22) = nI (J + 1)
    rw [← nI_1, ← hJ]
    rcases hbk with e | e | e | e <;> rw [e]
    · rw [if_pos rfl, if_neg (by decide), if_neg (by decide), if_neg (by decide), add_rc (g 19) 1, add_rc (g 19 + g 20) 1, add_rc (g 19 + g 20 + g 21) 1]
    · rw [if_neg (by decide), if_pos rfl, if_neg (by decide), if_neg (by decide), ← Int32.add_assoc (g 19), add_rc (g 19 + g 20) 1, add_rc (g 19 + g 20 + g 21) 1]
    · rw [if_neg (by decide), if_neg (by decide), if_pos rfl, if_neg (by decide), ← Int32.add_assoc (g 19 + g 20), add_rc (g 19 + g 20 + g 21) 1]
    · rw [if_neg (by decide), if_neg (by decide), if_neg (by decide), if_pos rfl, ← Int32.add_assoc (g 19 + g 20 + g 21)]
  · show (if 10 ≤ g 18 then g 18 else g 18 + 1) = _
    rw [h18]
    by_cases hJ10 : J < 10
    · rw [if_pos hJ10, if_neg (show ¬ (10 : Int32) ≤ nI J from nI_ge (a := J) (b := 10) hJ10 (by decide)), nI_1]
      by_cases h10 : J + 1 < 10
      · rw [if_pos h10]
      · rw [if_neg h10]; congr 1; omega
    · rw [if_neg hJ10, if_neg (by omega : ¬ J + 1 < 10), if_pos (by decide)]
  · obtain ⟨K, B, N, M, F, hr⟩ := hL
    obtain ⟨M0, hM, hM1, hM7⟩ := bbF_of (g := clearG g) e8 e9 e10 (by omega) (by omega) (by omega) (by omega)
    obtain ⟨k0, hk0, hk3⟩ : ∃ k0 : Nat, bestK u (clearG g) = nI k0 ∧ k0 ≤ 3 := by
      rcases bestK_in (u := u) (g := clearG g) with e | e | e | e
      · exact ⟨0, e, by decide⟩
      · exact ⟨1, e, by decide⟩
      · exact ⟨2, e, by decide⟩
      · exact ⟨3, e, by decide⟩
    refine ⟨shf k0 K, shf b B, shf n N, shf M0 M, shf T F, ?_⟩
    intro i hi
    cases i with
    | zero =>
      rw [shf_0, shf_0, shf_0, shf_0, shf_0]
      exact ⟨⟨hk0, e6, e7, hM, hT⟩, hk3, hn, hM1, hM7, by omega, by omega, fun h9 => absurd rfl h9⟩
    | succ i =>
      have hi' : i < (if J < 10 then J else 10) := by
        by_cases hJ10 : J < 10
        · rw [if_pos hJ10]; split at hi <;> omega
        · rw [if_neg hJ10]; split at hi <;> omega
      obtain ⟨⟨r0, r1, r2, r3, r4⟩, q1, q2, q3, q4, q5, q6, q7⟩ := hr i hi'
      rw [shf_s, shf_s, shf_s, shf_s, shf_s, Nat.add_sub_cancel]
      refine ⟨⟨log_at.trans r0, log_at.trans r1, log_at.trans r2, log_at.trans r3, log_at.trans r4⟩, q1, q2, q3, q4, q5, by omega, fun _ => ?_⟩
      cases i with
      | zero => rw [shf_0]; omega
      | succ i => rw [shf_s]; exact q7 (Nat.succ_ne_zero i)
/-- THE INVARIANT: T ticks gone by -/
def Inv (T : Nat) (X : CT5) : Prop := SeN X.1 X.2.1 ∧ DoN X.2.2.1 X.2.2.2.1 ∧ ThN X.2.2.2.1 X.2.2.2.2 T ∧ Bo X.2.2.2.1 ∧ X.2.2.2.1 27 = nI T
theorem inv_go {u : FF} {v : GG} {f : FF} {g L : GG} {T j : Nat} (hj : j < 8) (hT : T < 2 ^ 30) (h : Inv T (u, v, f, g, L)) : Inv (T + 1) (u, v, goF u v f g (nI j), goG u v f g (nI j), goL u v g L (nI j)) := by
  obtain ⟨hS, hD, hTh, hB, h27⟩ := h
  have hS : SeN u v := hS
  have hD : DoN f g := hD
  have hTh : ThN g L T := hTh
  have hB : Bo g := hB
  have h27 : g 27 = nI T := h27
  have hd := do_mv (b := oneF (nI j)) hS hD (pre_13 (u := u) (v := v) (g := g) (b := nI j)) pre_15
  refine ⟨hS, ⟨hd.1, hd.2⟩, ?_, Bo_go hB, ?_⟩
  · show ThN (goG u v f g (nI j)) (goL u v g L (nI j)) (T + 1)
    refine th_of ?_
    by_cases h0 : j = 0
    · subst h0
      rw [nI_0]
      by_cases hc : clearR g (v 4) = 0
      · have e : goL u v g L 0 = L := by unfold goL; rw [if_pos rfl, if_pos hc]
        rw [e]; exact th_clear hc hTh
      · have e : goL u v g L 0 = judgeL u (clearG g) L := by unfold goL; rw [if_pos rfl, if_neg hc]
        rw [e]; exact th_end (by omega) hc h27 hTh
    · have e : goL u v g L (nI j) = L := if_neg (nI_ne0 (by omega) (by omega))
      rw [e]; exact th_break hj h0 h27 hTh
  · show goG u v f g (nI j) 27 = nI (T + 1)
    rw [go_27, mv_th (by decide) (by decide) (by decide) (by decide) (by decide) (by decide) (by decide) (by decide) (by decide), pre_27, h27, nI_1]
theorem inv_it {u : FF} {v : GG} {f : FF} {g L : GG} {T j : Nat} (hj : j < 8) (h : Inv T (u, v, f, g, L)) : ∀ n, T + n < 2 ^ 30 → Inv (T + n) (u, v, (itS u v (nI j) (f, g, L) n).1, (itS u v (nI j) (f, g, L) n).2.1, (itS u v (nI j) (f, g, L) n).2.2)
  | 0, _ => h
  | n + 1, hn => inv_go (T := T + n) hj (by omega) (inv_it hj h n (by omega))
theorem inv_GoOk {u : FF} {v : GG} {f : FF} {g L : GG} {T : Nat} (h : Inv T (u, v, f, g, L)) : GoOk u f g := GoOk_of h.1.1 h.2.1.1
/-! what is told of a state of which the invariant holds -/
theorem inv_ThOk {u : FF} {v : GG} {f : FF} {g L : GG} {T : Nat} (hT : T < 2 ^ 29) (h : Inv T (u, v, f, g, L)) : ThOk u g := by
  refine ⟨PrOk_all g h.1.1, fun h5 => ?_⟩
  obtain ⟨-, -, ⟨J, E, -, -, -, -, -, hg⟩, -, h27⟩ := h
  have h27 : g 27 = nI T := h27
  obtain ⟨b, n, c, l, m, hh, ⟨e6, e7, e8, e9, e10, e11⟩, hn, hl, hm, hh1, hs, ht, -⟩ := hg h5
  have e7 : g 7 = nI n := e7
  have e8 : g 8 = nI l := e8
  have e9 : g 9 = nI m := e9
  have e10 : g 10 = nI hh := e10
  have e6 : g 6 = nI b := e6
  have e11 : g 11 = nI c := e11
  have esm : smF g = nI (l + m + hh) := by unfold smF; rw [e8, e9, e10, nI_add, nI_add]
  rw [esm, e7, e8, e9, e10, e6, e11, h27, nI_add, nI_add]
  exact ⟨nI_nlt (a := n) (b := 1) hn (by omega), nI_ne0 (by omega) (by omega), nI_nlt hl (by omega), nI_nlt hm (by omega), nI_nlt hh1 (by omega), nI_nlt hs (by omega), nI_nlt ht (by omega)⟩
theorem inv_ToldOk {u : FF} {v : GG} {f : FF} {g L : GG} {T : Nat} (hT : T < 2 ^ 29) (h : Inv T (u, v, f, g, L)) : ∃ J R, ToldOk u v f g L J R := by
  obtain ⟨hS, ⟨hp, hd⟩, ⟨J, E, hJ, hJT, h18, hE, ⟨K, B, N, M, F, hr⟩, -⟩, hB, h27⟩ := h
  have hp : okP (f 7) := hp
  refine ⟨J, (if J < 10 then J else 10), ⟨fun h9 => ?_, fun h9 => ?_⟩, fun h9 => ?_, fun h9 => ?_, fun h9 => ?_, ⟨cmp_self (hS.1 1 (by decide)).nn _, cmp_self (hS.1 2 (by decide)).nn _⟩, ⟨hJ, by omega, rfl, h18⟩, ?_⟩
  · have := (cmp_lt0 hp.nn nn_c0 CmpOp.l).mp h9
    rw [zv_c0] at this
    have := hp.2.1
    omega
  · have := (cmp_gt0 hp.nn nn_100 CmpOp.g).mp h9
    have := hp.2.2
    omega
  · refine (cmp_eq0 hp.nn nn_c0 CmpOp.l).mpr ?_
    rw [zv_c0]
    have h9 : g 13 = 0 := h9
    rcases hd with ⟨-, hz⟩ | h1 | ⟨h2, -⟩ | ⟨h3, -⟩
    · exact hz
    · exact absurd (h9.symm.trans h1) (by decide)
    · exact absurd (h9.symm.trans h2) (by decide)
    · exact absurd (h9.symm.trans h3) (by decide)
  · have h9 : g 13 = 2 := h9
    rcases hd with ⟨h1, -⟩ | h1 | ⟨h2, hz⟩ | ⟨h3, -⟩
    · exact absurd (h9.symm.trans h1) (by decide)
    · exact absurd (h9.symm.trans h1) (by decide)
    · have hz : f 7 = 1120403456 := hz
      rw [hz]; exact cmp_self nn_100 _
    · exact absurd (h9.symm.trans h3) (by decide)
  · have h9 : g 13 = 3 := h9
    rcases hd with ⟨h1, -⟩ | h1 | ⟨h1, -⟩ | ⟨-, -, h5⟩
    · exact absurd (h9.symm.trans h1) (by decide)
    · exact absurd (h9.symm.trans h1) (by decide)
    · exact absurd (h9.symm.trans h1) (by decide)
    · exact Int32.not_lt.mpr h5
  · intro i hi
    obtain ⟨⟨r0, r1, r2, r3, r4⟩, q1, q2, q3, q4, q5, q6, q7⟩ := hr i hi
    have r0 : L (i * 5 + 0) = nI (K i) := r0
    have r1 : L (i * 5 + 1) = nI (B i) := r1
    have r2 : L (i * 5 + 2) = nI (N i) := r2
    have r3 : L (i * 5 + 3) = nI (M i) := r3
    have r4 : L (i * 5 + 4) = nI (F i) := r4
    rw [r0, r1, r2, r3, r4, nI_add]
    refine ⟨nI_pos (by omega), nI_nlt (a := 3) q1 (by decide), nI_nlt (b := 1) q2 (by omega), nI_nlt (b := 1) q3 (by omega), nI_nlt (a := 7) q4 (by decide), nI_nlt q5 (by omega), fun h0 => ?_⟩
    obtain ⟨⟨-, s1, -⟩, -, -, -, -, p5, p6, -⟩ := hr (i - 1) (by omega)
    have s1 : L ((i - 1) * 5 + 1) = nI (B (i - 1)) := s1
    rw [s1]
    have h7 := q7 h0
    exact nI_ge h7 (by omega)
theorem inv_state {u : FF} {v : GG} {f : FF} {g L : GG} {T : Nat} (h : Inv T (u, v, f, g, L)) : g 13 = 0 ∨ g 13 = 1 ∨ g 13 = 2 ∨ g 13 = 3 := by
  obtain ⟨-, ⟨-, hd⟩, -⟩ := h
  rcases hd with ⟨h1, -⟩ | h1 | ⟨h1, -⟩ | ⟨h1, -⟩
  · exact Or.inl h1
  · exact Or.inr (Or.inl h1)
  · exact Or.inr (Or.inr (Or.inl h1))
  · exact Or.inr (Or.inr (Or.inr h1))
