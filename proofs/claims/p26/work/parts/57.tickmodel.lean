/-! a tick of the door and of the thing: what it changes (by hand) -/
theorem cl_7 {g : GG} : clearG g 7 = g 7 := rfl
theorem cl_8 {g : GG} : clearG g 8 = g 8 := rfl
theorem cl_9 {g : GG} : clearG g 9 = g 9 := rfl
theorem cl_10 {g : GG} : clearG g 10 = g 10 := rfl
theorem cl_sm {g : GG} : smF (clearG g) = smF g := rfl
theorem cl_lo {g : GG} : loF (clearG g) = loF g := rfl
theorem cl_mi {g : GG} : miF (clearG g) = miF g := rfl
theorem cl_hi {g : GG} : hiF (clearG g) = hiF g := rfl
theorem cl_ls {g : GG} : lsF (clearG g) = lsF g := by unfold lsF; rw [cl_lo, cl_mi]
theorem cl_l2 {g : GG} : l2F (clearG g) = l2F g := by unfold l2F; rw [cl_hi, cl_ls]
theorem cl_like {g : GG} {k : Int32} : likeF (clearG g) k = likeF g k := by unfold likeF; rw [cl_7, cl_sm, cl_lo, cl_hi, cl_l2]
theorem cl_prod {u : FF} {g : GG} {k : Int32} : prodF u (clearG g) k = prodF u g k := by unfold prodF; rw [cl_like]
theorem cl_bestS {u : FF} {g : GG} {k : Int32} {x : Int32 × UInt32} : bestS u (clearG g) k x = bestS u g k x := by unfold bestS; rw [cl_prod]
theorem cl_bestK {u : FF} {g : GG} : bestK u (clearG g) = bestK u g := by unfold bestK; rw [cl_prod, cl_bestS, cl_bestS, cl_bestS]
theorem cl_LkOk {g : GG} (h : LkOk g) : LkOk (clearG g) := by
  unfold LkOk at h ⊢
  rw [cl_7, cl_sm, cl_lo, cl_mi, cl_hi, cl_l2]
  exact h
theorem cl_PrOk {u : FF} {g : GG} (h : PrOk u g) : PrOk u (clearG g) := by
  unfold PrOk at h ⊢
  rw [cl_prod, cl_prod, cl_prod, cl_prod]
  exact ⟨cl_LkOk h.1, h.2⟩
theorem pre_13 {u : FF} {v g : GG} {b : Int32} : preG u v g b 13 = g 13 := by unfold preG; split; (split <;> rfl); rfl
theorem pre_14 {u : FF} {v g : GG} {b : Int32} : preG u v g b 14 = g 14 := by unfold preG; split; (split <;> rfl); rfl
theorem pre_15 {u : FF} {v g : GG} {b : Int32} : preG u v g b 15 = g 15 := by unfold preG; split; (split <;> rfl); rfl
theorem pre_17 {u : FF} {v g : GG} {b : Int32} : preG u v g b 17 = g 17 := by unfold preG; split; (split <;> rfl); rfl
theorem pre_23 {u : FF} {v g : GG} {b : Int32} : preG u v g b 23 = g 23 := by unfold preG; split; (split <;> rfl); rfl
theorem pre_24 {u : FF} {v g : GG} {b : Int32} : preG u v g b 24 = g 24 := by unfold preG; split; (split <;> rfl); rfl
theorem pre_25 {u : FF} {v g : GG} {b : Int32} : preG u v g b 25 = g 25 := by unfold preG; split; (split <;> rfl); rfl
theorem pre_27 {u : FF} {v g : GG} {b : Int32} : preG u v g b 27 = g 27 := by unfold preG; split; (split <;> rfl); rfl
theorem pre_b {u : FF} {v g : GG} {b : Int32} (hb : ¬ b = 0) : preG u v g b = breakG (upd g 26 (g 26 + 1)) b (g 27) := by unfold preG; rw [if_neg hb]
theorem pre_c {u : FF} {v g : GG} (hc : clearR g (v 4) = 0) : preG u v g 0 = clearG g := by unfold preG; rw [if_pos rfl, if_pos hc]
theorem pre_e {u : FF} {v g : GG} (hc : ¬ clearR g (v 4) = 0) : preG u v g 0 = judgeG u (clearG g) := by unfold preG; rw [if_pos rfl, if_neg hc]
theorem pre_16b {u : FF} {v g : GG} {b : Int32} (hb : ¬ b = 0) : preG u v g b 16 = g 16 := by rw [pre_b hb]; rfl
theorem pre_16c {u : FF} {v g : GG} (hc : clearR g (v 4) = 0) : preG u v g 0 16 = g 16 := by rw [pre_c hc]; rfl
theorem pre_16e {u : FF} {v g : GG} (hc : ¬ clearR g (v 4) = 0) : preG u v g 0 16 = if bestK u g = 0 then (if g 12 = 0 then g 16 else if g 16 ≤ 0 then g 16 else g 16 - 1) else g 16 := by
  rw [pre_e hc]
  show (if bestK u (clearG g) = 0 then (if g 12 = 0 then g 16 else if g 16 ≤ 0 then g 16 else g 16 - 1) else g 16) = _
  rw [cl_bestK]
theorem pre_5e {u : FF} {v g : GG} (hc : ¬ clearR g (v 4) = 0) : preG u v g 0 5 = 0 := by rw [pre_e hc]; rfl
theorem pre_5c {u : FF} {v g : GG} (hc : clearR g (v 4) = 0) : preG u v g 0 5 = g 5 := by rw [pre_c hc]; rfl
theorem clearR_none {g : GG} {p : Int32} (h : g 5 = 0) : clearR g p = 0 := by unfold clearR; rw [if_pos h]
theorem clearR_no {g : GG} {p : Int32} (h : g 11 + 1 < p) : clearR g p = 0 := by unfold clearR; rw [if_pos h]; split <;> rfl
theorem clearR_yes {g : GG} {p : Int32} (h5 : ¬ g 5 = 0) (h : ¬ g 11 + 1 < p) : ¬ clearR g p = 0 := by unfold clearR; rw [if_neg h5, if_neg h]; decide
theorem mv_0 {u : FF} {v : GG} {f : FF} {g : GG} {b : Int32} (h : g 13 = 0) : mvG u v f g b = g ∧ mvF u v f g b = f := by
  unfold mvG mvF
  rw [if_neg (by rw [h]; decide), if_neg (by rw [h]; decide), if_neg (by rw [h]; decide), if_neg (by rw [h]; decide), if_neg (by rw [h]; decide), if_neg (by rw [h]; decide)]
  exact ⟨rfl, rfl⟩
theorem mv_1 {u : FF} {v : GG} {f : FF} {g : GG} {b : Int32} (h : g 13 = 1) : mvG u v f g b = openG f g (u 0) ∧ mvF u v f g b = openF f (u 0) := by
  unfold mvG mvF
  rw [if_pos h, if_pos h]
  exact ⟨rfl, rfl⟩
theorem mv_2 {u : FF} {v : GG} {f : FF} {g : GG} {b : Int32} (h : g 13 = 2) : mvG u v f g b = waitG g b (v 0) ∧ mvF u v f g b = f := by
  unfold mvG mvF
  rw [if_neg (by rw [h]; decide), if_pos h, if_neg (by rw [h]; decide), if_pos h]
  exact ⟨rfl, rfl⟩
theorem mv_3 {u : FF} {v : GG} {f : FF} {g : GG} {b : Int32} (h : g 13 = 3) : mvG u v f g b = cosG u v f g b ∧ mvF u v f g b = cosF u v f g b := by
  unfold mvG mvF
  rw [if_neg (by rw [h]; decide), if_neg (by rw [h]; decide), if_pos h, if_neg (by rw [h]; decide), if_neg (by rw [h]; decide), if_pos h]
  exact ⟨rfl, rfl⟩
theorem go_G {u : FF} {v : GG} {f : FF} {g : GG} {b : Int32} {k : Nat} (hk : k ≠ 27) : goG u v f g b k = mvG u v f (preG u v g b) (oneF b) k := by unfold goG upd; rw [if_neg hk]
theorem go_27 {u : FF} {v : GG} {f : FF} {g : GG} {b : Int32} : goG u v f g b 27 = mvG u v f (preG u v g b) (oneF b) 27 + 1 := by unfold goG upd; rw [if_pos rfl]
theorem one_1 {b : Int32} (hb : ¬ b = 0) : oneF b = 1 := if_neg hb
theorem one_0 : oneF 0 = 0 := if_pos rfl
/-- a tick while the door is shut -/
theorem t_0 {u : FF} {v : GG} {f : FF} {g : GG} {b : Int32} (h : g 13 = 0) : goG u v f g b 13 = 0 ∧ goG u v f g b 16 = preG u v g b 16 ∧ goG u v f g b 17 = g 17 ∧ goF u v f g b 7 = f 7 := by
  have hp : preG u v g b 13 = 0 := pre_13.trans h
  rw [go_G (by decide), go_G (by decide), go_G (by decide), (mv_0 hp).1]
  refine ⟨hp, rfl, pre_17, ?_⟩
  unfold goF; rw [(mv_0 hp).2]
/-- a tick while it opens -/
theorem t_1 {u : FF} {v : GG} {f : FF} {g : GG} {b : Int32} (h : g 13 = 1) : goG u v f g b 13 = (if Op.cmpValue (FP.fcmp (FP.fadd (f 7) (u 0)) 1120403456) CmpOp.l < 0 then 1 else 2) ∧ goG u v f g b 16 = preG u v g b 16 ∧ goG u v f g b 17 = g 17 ∧ goF u v f g b 7 = (if Op.cmpValue (FP.fcmp (FP.fadd (f 7) (u 0)) 1120403456) CmpOp.l < 0 then FP.fadd (f 7) (u 0) else 1120403456) := by
  have hp : preG u v g b 13 = 1 := pre_13.trans h
  rw [go_G (by decide), go_G (by decide), go_G (by decide), (mv_1 hp).1]
  refine ⟨?_, rfl, pre_17, ?_⟩
  · show (if Op.cmpValue (FP.fcmp (FP.fadd (f 7) (u 0)) 1120403456) CmpOp.l < 0 then preG u v g b 13 else 2) = _
    rw [hp]
  · unfold goF; rw [(mv_1 hp).2]; rfl
/-- a tick while it waits, no beam broken -/
theorem t_2a {u : FF} {v : GG} {f : FF} {g : GG} (h : g 13 = 2) : goG u v f g 0 13 = (if g 14 + 1 < v 0 then 2 else if g 17 = 0 then 3 else 2) ∧ goG u v f g 0 16 = preG u v g 0 16 ∧ goG u v f g 0 17 = g 17 ∧ goF u v f g 0 7 = f 7 := by
  have hp : preG u v g 0 13 = 2 := pre_13.trans h
  rw [go_G (by decide), go_G (by decide), go_G (by decide), (mv_2 hp).1, one_0]
  refine ⟨?_, rfl, pre_17 (u := u) (v := v) (g := g) (b := 0), ?_⟩
  · show (if (0 : Int32) = 0 then (if preG u v g 0 14 + 1 < v 0 then preG u v g 0 13 else if preG u v g 0 17 = 0 then 3 else preG u v g 0 13) else preG u v g 0 13) = _
    rw [if_pos rfl, hp, pre_14, pre_17]
  · unfold goF; rw [(mv_2 hp).2]
/-- a tick while it waits, beams broken -/
theorem t_2b {u : FF} {v : GG} {f : FF} {g : GG} {b : Int32} (h : g 13 = 2) (hb : ¬ b = 0) : goG u v f g b 13 = 2 ∧ goG u v f g b 16 = preG u v g b 16 ∧ goG u v f g b 17 = g 17 ∧ goF u v f g b 7 = f 7 := by
  have hp : preG u v g b 13 = 2 := pre_13.trans h
  rw [go_G (by decide), go_G (by decide), go_G (by decide), (mv_2 hp).1, one_1 hb]
  refine ⟨?_, rfl, pre_17, ?_⟩
  · show (if (1 : Int32) = 0 then (if preG u v g b 14 + 1 < v 0 then preG u v g b 13 else if preG u v g b 17 = 0 then 3 else preG u v g b 13) else preG u v g b 13) = _
    rw [if_neg (by decide), hp]
  · unfold goF; rw [(mv_2 hp).2]
/-- a tick while it closes, no beam broken -/
theorem t_3a {u : FF} {v : GG} {f : FF} {g : GG} (h : g 13 = 3) : goG u v f g 0 13 = (if Op.cmpValue (FP.fcmp (FP.fsub (f 7) (spF u (scF v (preG u v g 0)))) FP.fconst0) CmpOp.l ≤ 0 then 0 else 3) ∧ goG u v f g 0 16 = (if Op.cmpValue (FP.fcmp (FP.fsub (f 7) (spF u (scF v (preG u v g 0)))) FP.fconst0) CmpOp.l ≤ 0 then 0 else preG u v g 0 16) ∧ goG u v f g 0 17 = g 17 ∧ goF u v f g 0 7 = (if Op.cmpValue (FP.fcmp (FP.fsub (f 7) (spF u (scF v (preG u v g 0)))) FP.fconst0) CmpOp.l ≤ 0 then FP.fconst0 else FP.fsub (f 7) (spF u (scF v (preG u v g 0)))) := by
  have hp : preG u v g 0 13 = 3 := pre_13.trans h
  have hc : ∀ p : GG, cosG u v f p 0 = upd (closeG f p (spF u (scF v p))) 23 (if closeR f (spF u (scF v p)) = 0 then p 23 else p 23 + 1) := fun p => if_pos rfl
  rw [go_G (by decide), go_G (by decide), go_G (by decide), (mv_3 hp).1, one_0, hc]
  refine ⟨?_, rfl, pre_17 (u := u) (v := v) (g := g) (b := 0), ?_⟩
  · show (if Op.cmpValue (FP.fcmp (FP.fsub (f 7) (spF u (scF v (preG u v g 0)))) FP.fconst0) CmpOp.l ≤ 0 then 0 else preG u v g 0 13) = _
    rw [hp]
  · unfold goF; rw [(mv_3 hp).2, one_0]; unfold cosF; rw [if_pos rfl]; rfl
/-- a tick while it closes, beams broken -/
theorem t_3b {u : FF} {v : GG} {f : FF} {g : GG} {b : Int32} (h : g 13 = 3) (hb : ¬ b = 0) : goG u v f g b 13 = (if g 15 + 1 ≤ v 1 then 3 else 1) ∧ goG u v f g b 16 = (if g 15 + 1 ≤ v 1 then preG u v g b 16 else preG u v g b 16 + 1) ∧ goG u v f g b 17 = (if g 15 + 1 ≤ v 1 then g 17 else if preG u v g b 16 + 1 ≤ v 2 + v 3 then g 17 else 1) ∧ goF u v f g b 7 = f 7 ∧ goG u v f g b 12 = (if g 15 + 1 ≤ v 1 then preG u v g b 12 else 1) := by
  have hp : preG u v g b 13 = 3 := pre_13.trans h
  have hc : cosG u v f (preG u v g b) 1 = if g 15 + 1 ≤ v 1 then standG (preG u v g b) else oaG v (standG (preG u v g b)) := by
    unfold cosG standR
    rw [if_neg (by decide), pre_15]
    by_cases h9 : g 15 + 1 ≤ v 1
    · rw [if_pos h9, if_pos rfl, if_pos h9]
    · rw [if_neg h9, if_neg (by decide), if_neg h9]
  have h7 : goF u v f g b 7 = f 7 := by unfold goF; rw [(mv_3 hp).2, one_1 hb]; unfold cosF; rw [if_neg (by decide)]
  rw [go_G (by decide), go_G (by decide), go_G (by decide), go_G (by decide), (mv_3 hp).1, one_1 hb, hc]
  by_cases h9 : g 15 + 1 ≤ v 1
  · rw [if_pos h9, if_pos h9, if_pos h9, if_pos h9, if_pos h9]
    exact ⟨hp, rfl, pre_17, h7, rfl⟩
  · rw [if_neg h9, if_neg h9, if_neg h9, if_neg h9, if_neg h9]
    refine ⟨rfl, rfl, ?_, h7, rfl⟩
    show (if preG u v g b 16 + 1 ≤ v 2 + v 3 then preG u v g b 17 else 1) = _
    rw [pre_17]
theorem cmp_gl {x y : UInt32} (hx : vf_n32 x) (hy : vf_n32 y) : Op.cmpValue (FP.fcmp x y) CmpOp.g = Op.cmpValue (FP.fcmp x y) CmpOp.l := by rw [cmpV (of_vf hx) (of_vf hy), cmpV (of_vf hx) (of_vf hy)]
theorem bestK_in {u : FF} {g : GG} : bestK u g = 0 ∨ bestK u g = 1 ∨ bestK u g = 2 ∨ bestK u g = 3 := by
  have hb : ∀ (k : Int32) (x : Int32 × UInt32), (bestS u g k x).1 = k ∨ (bestS u g k x).1 = x.1 := fun k x => by
    unfold bestS
    split
    · exact Or.inr rfl
    · exact Or.inl rfl
  unfold bestK
  rcases hb 3 (bestS u g 2 (bestS u g 1 (0, prodF u g 0))) with h | h
  · exact Or.inr (Or.inr (Or.inr h))
  rcases hb 2 (bestS u g 1 (0, prodF u g 0)) with h2 | h2
  · exact Or.inr (Or.inr (Or.inl (h.trans h2)))
  rcases hb 1 (0, prodF u g 0) with h3 | h3
  · exact Or.inr (Or.inl (h.trans (h2.trans h3)))
  · exact Or.inl (h.trans (h2.trans h3))
