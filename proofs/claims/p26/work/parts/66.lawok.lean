/-! told(o), shuts(o), tick(o, beams) over a state of which the invariant holds (by hand) -/
theorem inv_0 {u : FF} {v : GG} {f : FF} {g L : GG} {T : Nat} (h : Inv T (u, v, f, g, L)) (n : Nat) (hn : T + n < 2 ^ 30) : Inv (T + n) (u, v, (itS u v 0 (f, g, L) n).1, (itS u v 0 (f, g, L) n).2.1, (itS u v 0 (f, g, L) n).2.2) := by
  have h1 := inv_it (j := 0) (by decide) h n hn
  rw [nI_0] at h1
  exact h1
theorem st_go {u : FF} {v : GG} {f : FF} {g : GG} (hst : g 13 = 0 ∨ g 13 = 1 ∨ g 13 = 2 ∨ g 13 = 3) : (¬ goG u v f g 0 13 = 0 → goG u v f g 0 23 = g 23) ∧ (¬ g 13 = 0 → goG u v f g 0 13 = 0 → g 13 = 3 ∧ goG u v f g 0 23 = g 23 + 1) := by
  rw [go_G (k := 13) (by decide), go_G (k := 23) (by decide), one_0]
  have p13 : preG u v g 0 13 = g 13 := pre_13
  have p23 : preG u v g 0 23 = g 23 := pre_23
  generalize preG u v g 0 = p at p13 p23 ⊢
  rcases hst with h | h | h | h
  · rw [(mv_0 (u := u) (v := v) (f := f) (b := 0) (p13.trans h)).1]
    exact ⟨fun _ => p23, fun h9 => absurd h h9⟩
  · rw [(mv_1 (u := u) (v := v) (f := f) (b := 0) (p13.trans h)).1]
    refine ⟨fun _ => p23, fun _ h9 => ?_⟩
    have h9 : (if Op.cmpValue (FP.fcmp (FP.fadd (f 7) (u 0)) 1120403456) CmpOp.l < 0 then p 13 else 2) = 0 := h9
    rw [p13, h] at h9
    split at h9 <;> exact absurd h9 (by decide)
  · rw [(mv_2 (u := u) (v := v) (f := f) (b := 0) (p13.trans h)).1]
    refine ⟨fun _ => p23, fun _ h9 => ?_⟩
    have h9 : (if (0 : Int32) = 0 then (if p 14 + 1 < v 0 then p 13 else if p 17 = 0 then 3 else p 13) else p 13) = 0 := h9
    rw [p13, h, if_pos rfl] at h9
    split at h9
    · exact absurd h9 (by decide)
    · split at h9 <;> exact absurd h9 (by decide)
  · rw [(mv_3 (u := u) (v := v) (f := f) (b := 0) (p13.trans h)).1, show cosG u v f p 0 = upd (closeG f p (spF u (scF v p))) 23 (if closeR f (spF u (scF v p)) = 0 then p 23 else p 23 + 1) from if_pos rfl]
    by_cases hle : Op.cmpValue (FP.fcmp (FP.fsub (f 7) (spF u (scF v p))) FP.fconst0) CmpOp.l ≤ 0
    · have hr : closeR f (spF u (scF v p)) = 1 := if_pos hle
      have e13 : upd (closeG f p (spF u (scF v p))) 23 (if closeR f (spF u (scF v p)) = 0 then p 23 else p 23 + 1) 13 = 0 := by
        show (if Op.cmpValue (FP.fcmp (FP.fsub (f 7) (spF u (scF v p))) FP.fconst0) CmpOp.l ≤ 0 then 0 else p 13) = 0
        rw [if_pos hle]
      refine ⟨fun h9 => absurd e13 h9, fun _ _ => ⟨h, ?_⟩⟩
      show (if closeR f (spF u (scF v p)) = 0 then p 23 else p 23 + 1) = _
      rw [hr, if_neg (by decide), p23]
    · have hr : closeR f (spF u (scF v p)) = 0 := if_neg hle
      have e13 : upd (closeG f p (spF u (scF v p))) 23 (if closeR f (spF u (scF v p)) = 0 then p 23 else p 23 + 1) 13 = 3 := by
        show (if Op.cmpValue (FP.fcmp (FP.fsub (f 7) (spF u (scF v p))) FP.fconst0) CmpOp.l ≤ 0 then 0 else p 13) = 3
        rw [if_neg hle]; exact p13.trans h
      refine ⟨fun _ => ?_, fun _ h9 => absurd (e13.symm.trans h9) (by decide)⟩
      show (if closeR f (spF u (scF v p)) = 0 then p 23 else p 23 + 1) = _
      rw [hr, if_pos rfl, p23]
theorem tick_max {g : GG} {T N : Nat} (h27 : g 27 = nI T) (h : T + N ≤ 99999) : ¬ 99999 < g 27 + nI N := by
  rw [h27, nI_add]
  exact nI_nlt (a := 99999) (b := T + N) h (by decide)
theorem inv_ShOk {u : FF} {v : GG} {f : FF} {g L : GG} {T : Nat} (hT : T ≤ 90000) (h : Inv T (u, v, f, g, L)) : ShOk u v f g L := by
  refine ⟨fun k hk => inv_GoOk (inv_0 h k (by omega)), fun N hN => tick_max h.2.2.2.2 (by omega), h.2.2.2.1, fun x hx1 hx9 hz hnz => ?_⟩
  obtain ⟨y, rfl⟩ : ∃ y, x = y + 1 := ⟨x - 1, by omega⟩
  have hc : ∀ n, n < y + 1 → (itS u v 0 (f, g, L) n).2.1 23 = g 23 := by
    intro n
    induction n with
    | zero => intro _; rfl
    | succ n ih =>
      intro hn
      have h1 := (st_go (u := u) (v := v) (f := (itS u v 0 (f, g, L) n).1) (inv_state (inv_0 h n (by omega)))).1 (hnz (n + 1) hn)
      exact h1.trans (ih (by omega))
  have hy := inv_0 h y (by omega)
  have h3 := (st_go (u := u) (v := v) (f := (itS u v 0 (f, g, L) y).1) (inv_state hy)).2 (hnz y (by omega)) hz
  refine ⟨fun _ => ?_, h3.2.trans (by rw [hc y (by omega)])⟩
  rw [Nat.add_sub_cancel]
  obtain ⟨-, ⟨hp, hd⟩, -⟩ := hy
  have hp : okP ((itS u v 0 (f, g, L) y).1 7) := hp
  have h13 : (itS u v 0 (f, g, L) y).2.1 13 = 3 := h3.1
  intro h9
  have h8 := (cmp_le0 hp.nn nn_c0 CmpOp.l).mp h9
  rw [zv_c0] at h8
  rcases hd with ⟨h1, -⟩ | h1 | ⟨h1, -⟩ | ⟨-, hz', -⟩
  · exact absurd (h13.symm.trans h1) (by decide)
  · exact absurd (h13.symm.trans h1) (by decide)
  · exact absurd (h13.symm.trans h1) (by decide)
  · have hz' : 0 < zv ((itS u v 0 (f, g, L) y).1 7) := hz'
    omega
theorem inv_18 {u : FF} {v : GG} {f : FF} {g L : GG} {T : Nat} (hT : T < 2 ^ 30) (h : Inv T (u, v, f, g, L)) (hc : ¬ clearR g (v 4) = 0) : ¬ goG u v f g 0 18 ≤ 0 := by
  obtain ⟨-, -, ⟨J, E, -, -, h18, -⟩, -⟩ := h
  have h18 : g 18 = nI (if J < 10 then J else 10) := h18
  rw [go_th (k := 18) (by decide) (by decide) (by decide) (by decide) (by decide) (by decide) (by decide) (by decide) (by decide) (by decide), pre_e hc]
  show ¬ (if 10 ≤ g 18 then g 18 else g 18 + 1) ≤ 0
  rw [h18]
  by_cases hJ : J < 10
  · rw [if_pos hJ, if_neg (show ¬ (10 : Int32) ≤ nI J from nI_ge (a := J) (b := 10) hJ (by decide)), nI_1]
    exact nI_nle (by omega) (by omega)
  · rw [if_neg hJ, if_pos (by decide)]
    decide
theorem cL_told_ok (l : Launch) (G : va_G) (cA : Nat → ClassId) (A : Nat → Prop) (o : Nat) (u : FF) (v : GG) (f : FF) (g L : GG) (n K : Nat) (ch : GG) (T : Nat) (hT : T < 2 ^ 29) (hI : Inv T (u, v, f, g, L)) : Met l yL_told wsL_told ({ frames := 5, cells := 0, slots := 0, locals := 129 } : Room) (va_Pc [.ref o] (LbP G cA A o (u, v, f, g, L) n K ch)) (va_Qi (fun r (_ : Unit) => r = 1) (fun _ t => LB G cA A o (u, v, f, g, L) n K ch t.heap) A) 0 0 A := by
  obtain ⟨J, R, hTo⟩ := inv_ToldOk hT hI
  have hTh := cL_thing_ok l G cA A o u v f g L n K ch (inv_ThOk hT hI)
  rcases inv_state hI with hs | hs | hs | hs
  · exact cL_told_0 l G cA A o u v f g L n K ch J R hTo hs (LkOk_all g) hTh
  · exact cL_told_1 l G cA A o u v f g L n K ch J R hTo hs (LkOk_all g) hTh
  · exact cL_told_2 l G cA A o u v f g L n K ch J R hTo hs (LkOk_all g) hTh
  · exact cL_told_3 l G cA A o u v f g L n K ch J R hTo hs (LkOk_all g) hTh
theorem cL_tick_ok (l : Launch) (G : va_G) (cA : Nat → ClassId) (A : Nat → Prop) (o : Nat) (u : FF) (v : GG) (f : FF) (g L : GG) (n K : Nat) (ch : GG) (T j : Nat) (hj : j < 8) (hn : n ≤ 4) (hT : T ≤ 90000) (hI : Inv T (u, v, f, g, L)) : Met l yL_tick wsL_tick ({ frames := 7, cells := 0, slots := 0, locals := 160 } : Room) (va_Pc [.ref o, .int (nI j)] (LbP G cA A o (u, v, f, g, L) n K ch)) (va_Qi (fun r (_ : Unit) => r = 1) (fun _ t => LB G cA A o (u, v, (goF u v f g (nI j)), (goG u v f g (nI j)), (goL u v g L (nI j))) (recN n) K ch t.heap) A) 0 0 A := by
  have hGo := inv_GoOk hI
  have hPr := PrOk_all g hI.1.1
  have hT1 : ¬ 99999 < g 27 + nI 1 := tick_max hI.2.2.2.2 (by omega)
  have hBo : Bo g := hI.2.2.2.1
  have hf : vf_n32 (f 7) := vf_place hI.2.1.1
  have hth := (inv_ThOk (by omega) hI).2
  have hst := inv_state hI
  by_cases h0 : j = 0
  · subst h0
    rw [nI_0]
    have hP2 : PrOk u (goG u v f g 0) := PrOk_all _ hI.1.1
    by_cases hg : g 5 = 0
    · rcases hst with hs | hs | hs | hs
      · exact cL_tick_0_n0 l G cA A o u v f g L n K ch hs hn hGo hPr hP2 hT1 hBo hf hg
      · exact cL_tick_1_n0 l G cA A o u v f g L n K ch hs hn hGo hPr hP2 hT1 hBo hf hg
      · exact cL_tick_2_n0 l G cA A o u v f g L n K ch hs hn hGo hPr hP2 hT1 hBo hf hg
      · exact cL_tick_3_n0 l G cA A o u v f g L n K ch hs hn hGo hPr hP2 hT1 hBo hf hg
    · have h7 := (hth hg).1
      by_cases hc : g 11 + 1 < v 4
      · rcases hst with hs | hs | hs | hs
        · exact cL_tick_0_t0 l G cA A o u v f g L n K ch hs hn hGo hPr hP2 hT1 hBo hf hg h7 hc
        · exact cL_tick_1_t0 l G cA A o u v f g L n K ch hs hn hGo hPr hP2 hT1 hBo hf hg h7 hc
        · exact cL_tick_2_t0 l G cA A o u v f g L n K ch hs hn hGo hPr hP2 hT1 hBo hf hg h7 hc
        · exact cL_tick_3_t0 l G cA A o u v f g L n K ch hs hn hGo hPr hP2 hT1 hBo hf hg h7 hc
      · have h18 := inv_18 (by omega) hI (clearR_yes hg hc)
        rcases hst with hs | hs | hs | hs
        · exact cL_tick_0_te l G cA A o u v f g L n K ch hs hn hGo hPr hP2 hT1 hBo hf hg h7 hc h18
        · exact cL_tick_1_te l G cA A o u v f g L n K ch hs hn hGo hPr hP2 hT1 hBo hf hg h7 hc h18
        · exact cL_tick_2_te l G cA A o u v f g L n K ch hs hn hGo hPr hP2 hT1 hBo hf hg h7 hc h18
        · exact cL_tick_3_te l G cA A o u v f g L n K ch hs hn hGo hPr hP2 hT1 hBo hf hg h7 hc h18
  · have hb0 : ¬ nI j < 0 := nI_pos (by omega)
    have hb7 : ¬ 7 < nI j := nI_nlt (a := 7) (b := j) (by omega) (by decide)
    have hbz : ¬ nI j = 0 := nI_ne0 (by omega) (by omega)
    have hP2 : PrOk u (goG u v f g (nI j)) := PrOk_all _ hI.1.1
    by_cases hg : g 5 = 0
    · rcases hst with hs | hs | hs | hs
      · exact cL_tick_0_nb l G cA A o u v f g L n K ch (nI j) hb0 hb7 hbz hs hn hGo hPr hP2 hT1 hBo hf hg
      · exact cL_tick_1_nb l G cA A o u v f g L n K ch (nI j) hb0 hb7 hbz hs hn hGo hPr hP2 hT1 hBo hf hg
      · exact cL_tick_2_nb l G cA A o u v f g L n K ch (nI j) hb0 hb7 hbz hs hn hGo hPr hP2 hT1 hBo hf hg
      · exact cL_tick_3_nb l G cA A o u v f g L n K ch (nI j) hb0 hb7 hbz hs hn hGo hPr hP2 hT1 hBo hf hg
    · have h7 := (hth hg).1
      rcases hst with hs | hs | hs | hs
      · exact cL_tick_0_tb l G cA A o u v f g L n K ch (nI j) hb0 hb7 hbz hs hn hGo hPr hP2 hT1 hBo hf hg h7
      · exact cL_tick_1_tb l G cA A o u v f g L n K ch (nI j) hb0 hb7 hbz hs hn hGo hPr hP2 hT1 hBo hf hg h7
      · exact cL_tick_2_tb l G cA A o u v f g L n K ch (nI j) hb0 hb7 hbz hs hn hGo hPr hP2 hT1 hBo hf hg h7
      · exact cL_tick_3_tb l G cA A o u v f g L n K ch (nI j) hb0 hb7 hbz hs hn hGo hPr hP2 hT1 hBo hf hg h7
/-! what acts do to the invariant -/
theorem inv_speed {u : FF} {v : GG} {f : FF} {g L : GG} {T j : Nat} {x : UInt32} (hx : okS x) (h : Inv T (u, v, f, g, L)) : Inv T (vf_upd u j x, v, f, g, L) := by
  refine ⟨⟨fun k hk => ?_, h.1.2⟩, h.2⟩
  show okS (if k = j then x else u k)
  split
  · exact hx
  · exact h.1.1 k hk
theorem inv_num {u : FF} {v : GG} {f : FF} {g L : GG} {T j : Nat} {x : Int32} (hx : j = 1 → x ≤ 5) (h : Inv T (u, v, f, g, L)) : Inv T (u, upd v j x, f, g, L) := by
  refine ⟨⟨h.1.1, ?_⟩, h.2⟩
  show (if 1 = j then x else v 1) ≤ 5
  split
  · rename_i h9; exact hx h9.symm
  · exact h.1.2
/-- a change of the door that leaves the thing and the log as they are -/
theorem th_same {g g' L : GG} {T : Nat} (h5 : g' 5 = g 5) (h6 : g' 6 = g 6) (h7 : g' 7 = g 7) (h8 : g' 8 = g 8) (h9 : g' 9 = g 9) (h10 : g' 10 = g 10) (h11 : g' 11 = g 11) (h18 : g' 18 = g 18) (h19 : g' 19 = g 19) (h20 : g' 20 = g 20) (h21 : g' 21 = g 21) (h22 : g' 22 = g 22) (h : ThN g L T) : ThN g' L T := by
  unfold ThN TgN at h ⊢
  rw [h5, h6, h7, h8, h9, h10, h11, h18, h19, h20, h21, h22]
  exact h
theorem inv_call {u : FF} {v : GG} {f : FF} {g L : GG} {T : Nat} (h : Inv T (u, v, f, g, L)) : Inv T (u, v, f, obeyG g, L) := by
  obtain ⟨hS, ⟨hp, hd⟩, hTh, hB, h27⟩ := h
  refine ⟨hS, ⟨hp, ?_⟩, th_same (g := g) rfl rfl rfl rfl rfl rfl rfl rfl rfl rfl rfl rfl hTh, hB, h27⟩
  show ((if g 13 = 2 then g 13 else 1) = 0 ∧ _) ∨ (if g 13 = 2 then g 13 else 1) = 1 ∨ ((if g 13 = 2 then g 13 else 1) = 2 ∧ _) ∨ _
  by_cases h2 : g 13 = 2
  · rw [if_pos h2]
    rcases hd with ⟨h1, -⟩ | h1 | ⟨h1, hz⟩ | ⟨h1, -⟩
    · exact absurd (h2.symm.trans h1) (by decide)
    · exact absurd (h2.symm.trans h1) (by decide)
    · exact Or.inr (Or.inr (Or.inl ⟨h2, hz⟩))
    · exact absurd (h2.symm.trans h1) (by decide)
  · rw [if_neg h2]; exact Or.inr (Or.inl rfl)
theorem inv_serve {u : FF} {v : GG} {f : FF} {g L : GG} {T : Nat} (h : Inv T (u, v, f, g, L)) : Inv T (u, v, f, upd (upd g 17 0) 16 0, L) := by
  obtain ⟨hS, ⟨hp, hd⟩, hTh, hB, h27⟩ := h
  exact ⟨hS, ⟨hp, hd⟩, th_same (g := g) rfl rfl rfl rfl rfl rfl rfl rfl rfl rfl rfl rfl hTh, ⟨hB.1, hB.2.1, Or.inl rfl⟩, h27⟩
theorem rec_le {n : Nat} (h : n ≤ 4) : recN n ≤ 4 := by unfold recN; split <;> omega
