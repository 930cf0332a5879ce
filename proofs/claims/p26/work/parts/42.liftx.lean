/-! The object as a whole: a change that is recorded (by wip/p26/lb4.py) -/
theorem putJ3 {G : va_G} {cl : List vw_C} {A : Nat → Prop} {ws ws' w w' : va_W} {H H1 : Heap} (h1 : va_P G cl w' H1) (hk : ∀ q : Nat, q < H.size → ¬ inW w q → H1[q]? = H[q]?) (hP : va_P G cl ws H) (hD : va_D A ws) (is ir : List Nat) (wr : va_W) (hC : is.map (fun i => ws[i]?) = w.map some) (ha : w'.map (·.1) = w.map (·.1)) (hx1 : is.map (fun i => ws'[i]?) = w'.map some) (hr1 : ir.map (fun i => ws'[i]?) = wr.map some) (hr2 : ir.map (fun i => ws[i]?) = wr.map some) (hcov : (List.range ws'.length).all (fun k => is.contains k || ir.contains k) = true) : va_P G cl ws' H1 ∧ va_D A ws' := putJ hP hD is ir hC ha hx1 (hr1.trans hr2.symm) hcov hk h1
def nS (X' : CT5) (S SS : Nat → CT5) : Nat → CT5 := fun j => if j = 0 then X' else if j = 1 then S 1 else if j = 2 then S 2 else SS j
def rotA (ad : Nat → Nat → Nat) : Nat → Nat → Nat := fun j => if j = 3 then ad 4 else if j = 4 then ad 5 else if j = 5 then ad 6 else if j = 6 then ad 3 else ad j
def rotS (S : Nat → CT5) : Nat → CT5 := fun j => if j = 3 then S 4 else if j = 4 then S 5 else if j = 5 then S 6 else if j = 6 then S 3 else S j
theorem nS_B {X' : CT5} {S SS : Nat → CT5} (h0 : Bo X'.2.2.2.1) (h1 : AllB S) (h2 : AllB SS) : AllB (nS X' S SS) := by
  intro j
  unfold nS
  split
  · exact h0
  split
  · exact h1 1
  split
  · exact h1 2
  · exact h2 j
theorem rotS_B {S : Nat → CT5} (h : AllB S) : AllB (rotS S) := by
  intro j
  unfold rotS
  split
  · exact h 4
  split
  · exact h 5
  split
  · exact h 6
  split
  · exact h 3
  · exact h j
abbrev w53 (cA : Nat → ClassId) (o : Nat) (ad : Nat → Nat → Nat) (tk0 : Int32) (S : Nat → CT5) (n : Int32) : va_W := [lbH o ad tk0] ++ (blk cA ad 0 (S 0) ++ hsW cA (ad 7 0) (ad 7 1) ad (heads ad) n S)
set_option maxHeartbeats 4000000 in
set_option maxRecDepth 100000 in
/-- behind a change: the object again, whether the history's rows were turned or not -/
theorem lb_again {G : va_G} {cA : Nat → ClassId} {A : Nat → Prop} {o : Nat} {ad : Nat → Nat → Nat} {tk0 p0 : Int32} {S : Nat → CT5} {q : Nat → Nat} {n K : Nat} {ch bm tk : GG} {H : Heap} (hr : rotOK ad q) (hB : AllB S) (hP : va_P G vwCl (lbW cA o ad tk0 S q (nI n) (nI K) p0 ch bm tk) H) (hD : va_D A (lbW cA o ad tk0 S q (nI n) (nI K) p0 ch bm tk)) : LB G cA A o (S 0) n K ch H := by
  rcases hr with rfl | rfl
  · exact ⟨ad, tk0, p0, S, bm, tk, rfl, hB, hP, hD⟩
  · exact ⟨rotA ad, tk0, p0, rotS S, bm, tk, rfl, rotS_B hB, hP.sub [0, 1, 2, 3, 4, 5, 6, 7, 8, 9, 10, 11, 12, 13, 14, 15, 16, 17, 18, 19, 20, 21, 22, 23, 24, 25, 26, 27, 28, 29, 30, 31, 32, 43, 44, 45, 46, 47, 48, 49, 50, 51, 52, 53, 54, 55, 56, 57, 58, 59, 60, 61, 62, 63, 64, 65, 66, 67, 68, 69, 70, 71, 72, 33, 34, 35, 36, 37, 38, 39, 40, 41, 42, 73, 74, 75, 76] rfl, hD.sub [0, 1, 2, 3, 4, 5, 6, 7, 8, 9, 10, 11, 12, 13, 14, 15, 16, 17, 18, 19, 20, 21, 22, 23, 24, 25, 26, 27, 28, 29, 30, 31, 32, 43, 44, 45, 46, 47, 48, 49, 50, 51, 52, 53, 54, 55, 56, 57, 58, 59, 60, 61, 62, 63, 64, 65, 66, 67, 68, 69, 70, 71, 72, 33, 34, 35, 36, 37, 38, 39, 40, 41, 42, 73, 74, 75, 76] (by decide) rfl⟩
set_option maxHeartbeats 4000000 in
set_option maxRecDepth 100000 in
theorem lift_x {l : Launch} {y : MethodName} {ws : List Cond} {rm : Room} {G : va_G} {cA : Nat → ClassId} {A : Nat → Prop} {o : Nat} {As : List Value} {X X' : CT5} {n K : Nat} {ch : GG} {R : Int32} (hB' : Bo X'.2.2.2.1) (h : ∀ (ad : Nat → Nat → Nat) (tk0 : Int32) (S : Nat → CT5), S 0 = X → AllB S → Xi (X := (Nat → Nat) × (Nat → CT5)) l y ws rm G cA (.ref o :: As) (w53 cA o ad tk0 S (nI n)) (fun r x => r = R ∧ rotOK ad x.1 ∧ AllB x.2) (fun x => [lbH o ad tk0] ++ (blk cA ad 0 X' ++ hsW cA (ad 7 0) (ad 7 1) ad x.1 (nI (recN n)) x.2))) : Met l y ws rm (va_Pc (.ref o :: As) (LbP G cA A o X n K ch)) (va_Qi (fun r (_ : Unit) => r = R) (fun _ t => LB G cA A o X' (recN n) K ch t.heap) A) 0 0 A := by
  refine met_conseq ?_
  rintro a st ⟨rfl, hE, hN, ad, tk0, p0, S, bm, tk, h0, hB, hP, hD⟩
  have hM := h ad tk0 S h0 hB
  have hC : ([0, 1, 2, 3, 4, 5, 6, 7, 8, 9, 10, 31, 32, 33, 34, 35, 36, 37, 38, 39, 40, 41, 42, 43, 44, 45, 46, 47, 48, 49, 50, 51, 52, 53, 54, 55, 56, 57, 58, 59, 60, 61, 62, 63, 64, 65, 66, 67, 68, 69, 70, 71, 72] : List Nat).map (fun i => (lbW cA o ad tk0 S (heads ad) (nI n) (nI K) p0 ch bm tk)[i]?) = (w53 cA o ad tk0 S (nI n)).map some := rfl
  refine ⟨_, _, _, hM, ⟨rfl, fun k q hq => by obtain ⟨i, -, hi⟩ := at_pl hC hq; exact hP i q hi, hE, (hD.sub [0, 1, 2, 3, 4, 5, 6, 7, 8, 9, 10, 31, 32, 33, 34, 35, 36, 37, 38, 39, 40, 41, 42, 43, 44, 45, 46, 47, 48, 49, 50, 51, 52, 53, 54, 55, 56, 57, 58, 59, 60, 61, 62, 63, 64, 65, 66, 67, 68, 69, 70, 71, 72] (by decide) hC).weaken (fun _ _ _ _ => trivial)⟩, ?_, fun q hq => free_in hD [0, 1, 2, 3, 4, 5, 6, 7, 8, 9, 10, 31, 32, 33, 34, 35, 36, 37, 38, 39, 40, 41, 42, 43, 44, 45, 46, 47, 48, 49, 50, 51, 52, 53, 54, 55, 56, 57, 58, 59, 60, 61, 62, 63, 64, 65, 66, 67, 68, 69, 70, 71, 72] hC q hq⟩
  rintro oc t ⟨⟨r, x, h1, ⟨h2, h3, h4⟩, h5⟩, h6, h7⟩
  obtain ⟨q, SS⟩ := x
  have hj := putJ3 h5 h7 (ws' := lbW cA o ad tk0 (nS X' S SS) q (nI (recN n)) (nI K) p0 ch bm tk) hP hD [0, 1, 2, 3, 4, 5, 6, 7, 8, 9, 10, 31, 32, 33, 34, 35, 36, 37, 38, 39, 40, 41, 42, 43, 44, 45, 46, 47, 48, 49, 50, 51, 52, 53, 54, 55, 56, 57, 58, 59, 60, 61, 62, 63, 64, 65, 66, 67, 68, 69, 70, 71, 72] [11, 12, 13, 14, 15, 16, 17, 18, 19, 20, 21, 22, 23, 24, 25, 26, 27, 28, 29, 30, 73, 74, 75, 76] (blk cA ad 1 (S 1) ++ (blk cA ad 2 (S 2) ++ txW cA ad (nI K) p0 ch bm tk)) hC rfl rfl rfl rfl rfl
  exact ⟨⟨r, (), h1, h2, lb_again h3 (nS_B hB' hB h4) hj.1 hj.2⟩, h6, fun q' hq hn => h7 q' hq (fun hin => hn (free_in hD [0, 1, 2, 3, 4, 5, 6, 7, 8, 9, 10, 31, 32, 33, 34, 35, 36, 37, 38, 39, 40, 41, 42, 43, 44, 45, 46, 47, 48, 49, 50, 51, 52, 53, 54, 55, 56, 57, 58, 59, 60, 61, 62, 63, 64, 65, 66, 67, 68, 69, 70, 71, 72] hC q' hin))⟩

