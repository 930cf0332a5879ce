/-! The object as a whole: readBeams() of two parts, undo() (by wip/p26/lb7.py) -/
abbrev w57 (cA : Nat → ClassId) (o : Nat) (ad : Nat → Nat → Nat) (tk0 : Int32) (S : Nat → CT5) (n K p0 : Int32) (ch bm tk : GG) : va_W := [lbH o ad tk0] ++ (blk cA ad 0 (S 0) ++ (hsW cA (ad 7 0) (ad 7 1) ad (heads ad) n S ++ txW cA ad K p0 ch bm tk))
set_option maxHeartbeats 4000000 in
set_option maxRecDepth 100000 in
theorem lift_x5 {l : Launch} {y : MethodName} {ws : List Cond} {rm : Room} {G : va_G} {cA : Nat → ClassId} {A : Nat → Prop} {o : Nat} {As : List Value} {X X' : CT5} {n K : Nat} {ch : GG} {R : Int32} (hB' : Bo X'.2.2.2.1) (h : ∀ (ad : Nat → Nat → Nat) (tk0 p0 : Int32) (S : Nat → CT5) (bm tk : GG), S 0 = X → AllB S → ∃ (p1 : Int32) (bm1 tk1 : GG), Xi (X := (Nat → Nat) × (Nat → CT5)) l y ws rm G cA (.ref o :: As) (w57 cA o ad tk0 S (nI n) (nI K) p0 ch bm tk) (fun r x => r = R ∧ rotOK ad x.1 ∧ AllB x.2) (fun x => [lbH o ad tk0] ++ (blk cA ad 0 X' ++ (hsW cA (ad 7 0) (ad 7 1) ad x.1 (nI (recN n)) x.2 ++ txW cA ad (nI K) p1 ch bm1 tk1)))) : Met l y ws rm (va_Pc (.ref o :: As) (LbP G cA A o X n K ch)) (va_Qi (fun r (_ : Unit) => r = R) (fun _ t => LB G cA A o X' (recN n) K ch t.heap) A) 0 0 A := by
  refine met_conseq ?_
  rintro a st ⟨rfl, hE, hN, ad, tk0, p0, S, bm, tk, h0, hB, hP, hD⟩
  obtain ⟨p1, bm1, tk1, hM⟩ := h ad tk0 p0 S bm tk h0 hB
  have hC : ([0, 1, 2, 3, 4, 5, 6, 7, 8, 9, 10, 31, 32, 33, 34, 35, 36, 37, 38, 39, 40, 41, 42, 43, 44, 45, 46, 47, 48, 49, 50, 51, 52, 53, 54, 55, 56, 57, 58, 59, 60, 61, 62, 63, 64, 65, 66, 67, 68, 69, 70, 71, 72, 73, 74, 75, 76] : List Nat).map (fun i => (lbW cA o ad tk0 S (heads ad) (nI n) (nI K) p0 ch bm tk)[i]?) = (w57 cA o ad tk0 S (nI n) (nI K) p0 ch bm tk).map some := rfl
  refine ⟨_, _, _, hM, ⟨rfl, fun k q hq => by obtain ⟨i, -, hi⟩ := at_pl hC hq; exact hP i q hi, hE, (hD.sub [0, 1, 2, 3, 4, 5, 6, 7, 8, 9, 10, 31, 32, 33, 34, 35, 36, 37, 38, 39, 40, 41, 42, 43, 44, 45, 46, 47, 48, 49, 50, 51, 52, 53, 54, 55, 56, 57, 58, 59, 60, 61, 62, 63, 64, 65, 66, 67, 68, 69, 70, 71, 72, 73, 74, 75, 76] (by decide) hC).weaken (fun _ _ _ _ => trivial)⟩, ?_, fun q hq => free_in hD [0, 1, 2, 3, 4, 5, 6, 7, 8, 9, 10, 31, 32, 33, 34, 35, 36, 37, 38, 39, 40, 41, 42, 43, 44, 45, 46, 47, 48, 49, 50, 51, 52, 53, 54, 55, 56, 57, 58, 59, 60, 61, 62, 63, 64, 65, 66, 67, 68, 69, 70, 71, 72, 73, 74, 75, 76] hC q hq⟩
  rintro oc t ⟨⟨r, x, h1, ⟨h2, h3, h4⟩, h5⟩, h6, h7⟩
  obtain ⟨q, SS⟩ := x
  have hj := putJ3 h5 h7 (ws' := lbW cA o ad tk0 (nS X' S SS) q (nI (recN n)) (nI K) p1 ch bm1 tk1) hP hD [0, 1, 2, 3, 4, 5, 6, 7, 8, 9, 10, 31, 32, 33, 34, 35, 36, 37, 38, 39, 40, 41, 42, 43, 44, 45, 46, 47, 48, 49, 50, 51, 52, 53, 54, 55, 56, 57, 58, 59, 60, 61, 62, 63, 64, 65, 66, 67, 68, 69, 70, 71, 72, 73, 74, 75, 76] [11, 12, 13, 14, 15, 16, 17, 18, 19, 20, 21, 22, 23, 24, 25, 26, 27, 28, 29, 30] (blk cA ad 1 (S 1) ++ blk cA ad 2 (S 2)) hC rfl rfl rfl rfl rfl
  exact ⟨⟨r, (), h1, h2, lb_again h3 (nS_B hB' hB h4) hj.1 hj.2⟩, h6, fun q' hq hn => h7 q' hq (fun hin => hn (free_in hD [0, 1, 2, 3, 4, 5, 6, 7, 8, 9, 10, 31, 32, 33, 34, 35, 36, 37, 38, 39, 40, 41, 42, 43, 44, 45, 46, 47, 48, 49, 50, 51, 52, 53, 54, 55, 56, 57, 58, 59, 60, 61, 62, 63, 64, 65, 66, 67, 68, 69, 70, 71, 72, 73, 74, 75, 76] hC q' hin))⟩
set_option maxHeartbeats 4000000 in
set_option maxRecDepth 100000 in
theorem LB_readBeams_ok (l : Launch) (G : va_G) (cA : Nat → ClassId) (A : Nat → Prop) (o : Nat) (X : CT5) (n : Nat) (ch : GG) (hb : Bo X.2.2.2.1) (hn : n ≤ 4) (d0 d1 d2 : Nat) (h0 : d0 < 8) (h1 : d1 < 9) (h2 : d2 < 8) (e0 : ch 0 = nI (48 + d0)) (e1 : ch 1 = 42) (e2 : ch 2 = nI (49 + d1)) (e3 : ch 3 = 44) (e4 : ch 4 = nI (48 + d2)) (hT : ¬ 99999 < X.2.2.2.1 27 + nI (2 + d1)) (hG1 : ∀ k, k < 1 + d1 → GoOk X.1 (itS X.1 X.2.1 (nI d0) (X.2.2.1, X.2.2.2.1, X.2.2.2.2) k).1 (itS X.1 X.2.1 (nI d0) (X.2.2.1, X.2.2.2.1, X.2.2.2.2) k).2.1) (hG2 : ∀ k, k < 1 → GoOk X.1 (itS X.1 X.2.1 (nI d2) ((itS X.1 X.2.1 (nI d0) (X.2.2.1, X.2.2.2.1, X.2.2.2.2) (1 + d1)).1, (itS X.1 X.2.1 (nI d0) (X.2.2.1, X.2.2.2.1, X.2.2.2.2) (1 + d1)).2.1, (itS X.1 X.2.1 (nI d0) (X.2.2.1, X.2.2.2.1, X.2.2.2.2) (1 + d1)).2.2) k).1 (itS X.1 X.2.1 (nI d2) ((itS X.1 X.2.1 (nI d0) (X.2.2.1, X.2.2.2.1, X.2.2.2.2) (1 + d1)).1, (itS X.1 X.2.1 (nI d0) (X.2.2.1, X.2.2.2.1, X.2.2.2.2) (1 + d1)).2.1, (itS X.1 X.2.1 (nI d0) (X.2.2.1, X.2.2.2.1, X.2.2.2.2) (1 + d1)).2.2) k).2.1) : Met l yX8_readBeams wsX8_readBeams ({ frames := 6, cells := 0, slots := 0, locals := 138 } : Room) (va_Pc [.ref o] (LbP G cA A o X n 5 ch)) (va_Qi (fun r (_ : Unit) => r = nI (2 + d1)) (fun _ t => LB G cA A o (X.1, X.2.1, (itS X.1 X.2.1 (nI d2) ((itS X.1 X.2.1 (nI d0) (X.2.2.1, X.2.2.2.1, X.2.2.2.2) (1 + d1)).1, (itS X.1 X.2.1 (nI d0) (X.2.2.1, X.2.2.2.1, X.2.2.2.2) (1 + d1)).2.1, (itS X.1 X.2.1 (nI d0) (X.2.2.1, X.2.2.2.1, X.2.2.2.2) (1 + d1)).2.2) 1).1, (itS X.1 X.2.1 (nI d2) ((itS X.1 X.2.1 (nI d0) (X.2.2.1, X.2.2.2.1, X.2.2.2.2) (1 + d1)).1, (itS X.1 X.2.1 (nI d0) (X.2.2.1, X.2.2.2.1, X.2.2.2.2) (1 + d1)).2.1, (itS X.1 X.2.1 (nI d0) (X.2.2.1, X.2.2.2.1, X.2.2.2.2) (1 + d1)).2.2) 1).2.1, (itS X.1 X.2.1 (nI d2) ((itS X.1 X.2.1 (nI d0) (X.2.2.1, X.2.2.2.1, X.2.2.2.2) (1 + d1)).1, (itS X.1 X.2.1 (nI d0) (X.2.2.1, X.2.2.2.1, X.2.2.2.2) (1 + d1)).2.1, (itS X.1 X.2.1 (nI d0) (X.2.2.1, X.2.2.2.1, X.2.2.2.2) (1 + d1)).2.2) 1).2.2) (recN n) 5 ch t.heap) A) 0 0 A := by
  have x0 : ch 0 - 48 = nI d0 := by rw [e0, show (48 : Int32) = nI 48 from rfl, pk_sub (by omega)]; congr 1; omega
  have x2 : ch 2 - 48 = nI (1 + d1) := by rw [e2, show (48 : Int32) = nI 48 from rfl, pk_sub (by omega)]; congr 1; omega
  have x4 : ch 4 - 48 = nI d2 := by rw [e4, show (48 : Int32) = nI 48 from rfl, pk_sub (by omega)]; congr 1; omega
  exact lift_x5 (As := []) (Bo_it (x := ((itS X.1 X.2.1 (nI d0) (X.2.2.1, X.2.2.2.1, X.2.2.2.2) (1 + d1)).1, (itS X.1 X.2.1 (nI d0) (X.2.2.1, X.2.2.2.1, X.2.2.2.2) (1 + d1)).2.1, (itS X.1 X.2.1 (nI d0) (X.2.2.1, X.2.2.2.1, X.2.2.2.2) (1 + d1)).2.2)) (Bo_it (x := (X.2.2.1, X.2.2.2.1, X.2.2.2.2)) hb (1 + d1)) 1) (fun ad tk0 p0 S bm tk hS hB => by subst hS; exact ⟨2, _, _, cX8_readBeams_ok l G cA o ad tk0 S n hn hB p0 ch bm tk d0 d1 d2 h0 h1 h2 e0 e1 e2 e3 e4 x0 x2 x4 hT hG1 hG2⟩)
set_option maxHeartbeats 4000000 in
set_option maxRecDepth 100000 in
theorem LB_undo (l : Launch) (G : va_G) (cA : Nat → ClassId) (A : Nat → Prop) (o : Nat) (X : CT5) (n K : Nat) (ch : GG) (hn : n ≤ 4) : Met l yX8_undo wsX8_undo ({ frames := 3, cells := 0, slots := 0, locals := 64 } : Room) (va_Pc [.ref o] (LbP G cA A o X n K ch)) (va_Qi (fun r (_ : Unit) => r = if n = 0 then -5 else nI (n - 1)) (fun _ _ => True) A) 0 0 A := by
  rcases (show n = 0 ∨ n = 1 ∨ n = 2 ∨ n = 3 ∨ n = 4 by omega) with rfl | rfl | rfl | rfl | rfl
  · refine met_conseq ?_
    intro av st hP
    refine ⟨_, _, _, lift_i (As := []) (post := fun r => r = -5) (fun ad tk0 p0 S bm tk h0 hB => by subst h0; exact ⟨_, [0, 1, 31, 32], cX8_undo_0 l G cA o ad tk0 S, rfl, rfl⟩), hP, fun oc t h => ?_, fun q h => h.elim⟩
    obtain ⟨⟨r, x, h1, h2, h3⟩, h6, h7⟩ := h
    exact ⟨⟨r, x, h1, h2, trivial⟩, h6, fun q hq hn => h7 q hq (fun h9 => h9)⟩
  · refine met_conseq ?_
    intro av st hP
    refine ⟨_, _, _, lift_wi (As := []) (post := fun r => r = 0) (B' := fun _ => True) (fun ad tk0 p0 S bm tk h0 hB => by subst h0; exact ⟨_, _, [0, 1, 2, 3, 4, 5, 6, 7, 8, 9, 10, 31, 32, 33, 34, 35, 36, 37, 38, 39, 40, 41, 42], cX8_undo_1 l G cA o ad tk0 S hB, rfl, rfl, fun _ _ _ _ _ _ => trivial⟩), hP, fun oc t h => ?_, fun q h => h⟩
    obtain ⟨⟨r, x, h1, h2, h3⟩, h6, h7⟩ := h
    exact ⟨⟨r, x, h1, h2, trivial⟩, h6, h7⟩
  · refine met_conseq ?_
    intro av st hP
    refine ⟨_, _, _, lift_wi (As := []) (post := fun r => r = 1) (B' := fun _ => True) (fun ad tk0 p0 S bm tk h0 hB => by subst h0; exact ⟨_, _, [0, 1, 2, 3, 4, 5, 6, 7, 8, 9, 10, 31, 32, 43, 44, 45, 46, 47, 48, 49, 50, 51, 52], cX8_undo_2 l G cA o ad tk0 S hB, rfl, rfl, fun _ _ _ _ _ _ => trivial⟩), hP, fun oc t h => ?_, fun q h => h⟩
    obtain ⟨⟨r, x, h1, h2, h3⟩, h6, h7⟩ := h
    exact ⟨⟨r, x, h1, h2, trivial⟩, h6, h7⟩
  · refine met_conseq ?_
    intro av st hP
    refine ⟨_, _, _, lift_wi (As := []) (post := fun r => r = 2) (B' := fun _ => True) (fun ad tk0 p0 S bm tk h0 hB => by subst h0; exact ⟨_, _, [0, 1, 2, 3, 4, 5, 6, 7, 8, 9, 10, 31, 32, 53, 54, 55, 56, 57, 58, 59, 60, 61, 62], cX8_undo_3 l G cA o ad tk0 S hB, rfl, rfl, fun _ _ _ _ _ _ => trivial⟩), hP, fun oc t h => ?_, fun q h => h⟩
    obtain ⟨⟨r, x, h1, h2, h3⟩, h6, h7⟩ := h
    exact ⟨⟨r, x, h1, h2, trivial⟩, h6, h7⟩
  · refine met_conseq ?_
    intro av st hP
    refine ⟨_, _, _, lift_wi (As := []) (post := fun r => r = 3) (B' := fun _ => True) (fun ad tk0 p0 S bm tk h0 hB => by subst h0; exact ⟨_, _, [0, 1, 2, 3, 4, 5, 6, 7, 8, 9, 10, 31, 32, 63, 64, 65, 66, 67, 68, 69, 70, 71, 72], cX8_undo_4 l G cA o ad tk0 S hB, rfl, rfl, fun _ _ _ _ _ _ => trivial⟩), hP, fun oc t h => ?_, fun q h => h⟩
    obtain ⟨⟨r, x, h1, h2, h3⟩, h6, h7⟩ := h
    exact ⟨⟨r, x, h1, h2, trivial⟩, h6, h7⟩
