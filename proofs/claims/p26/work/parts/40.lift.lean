/-! The object as a whole: LB says what o is (X the state now, n states to go back to, K characters ch of text), whatever its addresses; contracts over LB out of those over small worlds; calls of them -/
def leastF (k : Nat) : Int32 := if k = 0 then 1 else if k = 4 then 1 else 0
def mostF (k : Nat) : Int32 := if k = 0 then 50 else if k = 4 then 10 else 5
def NumT (A : Nat → Prop) (U : State) (H : Heap) : Prop := ∃ t1 t2 : Nat, va_Z "LiftBeams" "LEAST_NUMBERS" "[I" (.ref t1) A U H ∧ va_T .int t1 5 (fun k => .int (leastF k)) A U H ∧ va_Z "LiftBeams" "GREATEST_NUMBERS" "[I" (.ref t2) A U H ∧ va_T .int t2 5 (fun k => .int (mostF k)) A U H
theorem NumT.moved {A : Nat → Prop} {u U : State} {H : Heap} (hvm : u.vm.Alike U.vm) (h : NumT A u H) : NumT A U H := by
  obtain ⟨t1, t2, h1, h2, h3, h4⟩ := h
  exact ⟨t1, t2, h1.moved hvm, h2.moved hvm, h3.moved hvm, h4.moved hvm⟩
theorem NumT.kept {A : Nat → Prop} {U : State} {H H1 : Heap} (h : NumT A U H) (hq : ∀ a : Nat, a < H.size → ¬ A a → H1[a]? = H[a]?) : NumT A U H1 := by
  obtain ⟨t1, t2, h1, h2, h3, h4⟩ := h
  exact ⟨t1, t2, h1.kept hq, h2.kept hq, h3.kept hq, h4.kept hq⟩
theorem NumT.narrow {A B : Nat → Prop} {U : State} {H : Heap} (h : NumT A U H) (hAB : ∀ q, B q → A q) : NumT B U H := by
  obtain ⟨t1, t2, h1, h2, h3, h4⟩ := h
  exact ⟨t1, t2, h1.narrow hAB, h2.narrow hAB, h3.narrow hAB, h4.narrow hAB⟩
abbrev lbH (o : Nat) (ad : Nat → Nat → Nat) (tk0 : Int32) : Nat × va_E := (o, LbV (ad 0 0) (ad 1 0) (ad 2 0) (ad 7 0) (ad 7 2) tk0)
abbrev txW (cA : Nat → ClassId) (ad : Nat → Nat → Nat) (K p0 : Int32) (ch bm tk : GG) : va_W := [(ad 7 2, TxV (ad 7 3) (ad 7 4) (ad 7 5) K p0), (ad 7 3, .inl (cA 2, 60, .inl ch)), (ad 7 4, .inl (cA 1, 60, .inl bm)), (ad 7 5, .inl (cA 1, 60, .inl tk))]
abbrev lbW (cA : Nat → ClassId) (o : Nat) (ad : Nat → Nat → Nat) (tk0 : Int32) (S : Nat → CT5) (q : Nat → Nat) (n K p0 : Int32) (ch bm tk : GG) : va_W := [lbH o ad tk0] ++ (blk cA ad 0 (S 0) ++ (blk cA ad 1 (S 1) ++ (blk cA ad 2 (S 2) ++ (hsW cA (ad 7 0) (ad 7 1) ad q n S ++ txW cA ad K p0 ch bm tk))))
def LB (G : va_G) (cA : Nat → ClassId) (A : Nat → Prop) (o : Nat) (X : CT5) (n K : Nat) (ch : GG) (H : Heap) : Prop := ∃ (ad : Nat → Nat → Nat) (tk0 p0 : Int32) (S : Nat → CT5) (bm tk : GG), S 0 = X ∧ AllB S ∧ va_P G vwCl (lbW cA o ad tk0 S (heads ad) (nI n) (nI K) p0 ch bm tk) H ∧ va_D A (lbW cA o ad tk0 S (heads ad) (nI n) (nI K) p0 ch bm tk)
def LbP (G : va_G) (cA : Nat → ClassId) (A : Nat → Prop) (o : Nat) (X : CT5) (n K : Nat) (ch : GG) (U : State) : Prop := En G cA U ∧ NumT A U U.heap ∧ LB G cA A o X n K ch U.heap
theorem LB.kept {G : va_G} {cA : Nat → ClassId} {A : Nat → Prop} {o : Nat} {X : CT5} {n K : Nat} {ch : GG} {H H1 : Heap} (h : LB G cA A o X n K ch H) (hk : ∀ q : Nat, q < H.size → H1[q]? = H[q]?) : LB G cA A o X n K ch H1 := by
  obtain ⟨ad, tk0, p0, S, bm, tk, h0, hB, hP, hD⟩ := h
  exact ⟨ad, tk0, p0, S, bm, tk, h0, hB, hP.kept (fun k q h => hk q.1 (hP k q h).lt), hD⟩
theorem lp_calling {G : va_G} {cA : Nat → ClassId} {A : Nat → Prop} {o : Nat} {X : CT5} {n K : Nat} {ch : GG} {av : List Value} : FrameBlind (va_Pc av (LbP G cA A o X n K ch)) := fun a U g mk h => ⟨h.1, h.2.1.calling, NumT.moved (u := U) (U := U.calling g mk a) (Vm.Alike.refl U.vm) h.2.2.1, h.2.2.2⟩
theorem LB.recv {G : va_G} {cA : Nat → ClassId} {A : Nat → Prop} {o : Nat} {X : CT5} {n K : Nat} {ch : GG} {H : Heap} {s : State} (hE : En G cA s) (h : LB G cA A o X n K ch H) : ∃ cell : Cell, H[o]? = some cell ∧ cell.vm.isStatics = false ∧ s.vm.findClass RX8 = some cell.cls := by
  obtain ⟨ad, tk0, p0, S, bm, tk, h0, hB, hP, hD⟩ := h
  exact va_recv (q := (RX8, TX8, 6)) (ci := 8) (q0 := 0) hE.1 hP rfl rfl
/-- what holds at a point of the law's walk -/
def At (G : va_G) (cA : Nat → ClassId) (A : Nat → Prop) (s : State) (H : Heap) (locs : List Loc) : Prop := En G cA s ∧ NumT A s s.heap ∧ va_S A s.heap H locs
section LBC
variable {p : Program} {l : Launch} {e : Env} {R : Room} {s : State} {m : MethodId} {args : Array Value} {below : List Frame} {meth : Method} {c : Code} {H : Heap} {locs : List Loc} {cells slots : Nat} {Q : State → Prop}
variable {pc : Nat} {ls : Array Slot} {rest st0 : List Value} {a : Array Value} {A : Nat → Prop} {G : va_G} {cA : Nat → ClassId} {cc : ByteArray} {nL n0 index : Nat} {Ts wds : List Cond} {own : String} {y : MethodName} {bytes : ByteArray} {maxL : Nat} {ret : Option FieldType} {rm : Room} {Qc : Array Value → State → Outcome → State → Prop} {free : Addr → Prop} {o : Nat} {As : List Value} {X : CT5} {n K : Nat} {ch : GG} {lv : List (Nat × Value)}
theorem pvL (hA : At G cA A s H locs) (hLB : LB G cA A o X n K ch H) : PreV s H RX8 o (va_Pc (.ref o :: As) (LbP G cA A o X n K ch)) As :=
  ⟨lp_calling, hLB.recv hA.1, fun U hU hW => ⟨rfl, hA.1.warm hW, by rw [hU]; exact (hA.2.1.kept hA.2.2.2.1).moved hW.alike, by rw [hU]; exact hLB⟩⟩
theorem psL (hA : At G cA A s H locs) (hLB : LB G cA A o X n K ch H) : PreS s H (va_Pc As (LbP G cA A o X n K ch)) As :=
  ⟨lp_calling, fun U hU hW => ⟨rfl, hA.1.warm hW, by rw [hU]; exact (hA.2.1.kept hA.2.2.2.1).moved hW.alike, by rw [hU]; exact hLB⟩⟩
theorem rL (S : CallFix p m c cc nL s args Ts own) (hM : Met l y wds rm (va_Pc (.ref o :: As) (LbP G cA A o X n K ch)) Qc 0 0 free) (cw : CallW R s args own RX8 index y bytes maxL ret wds rm 0 0 n0) (hA : At G cA A s H locs) (hLB : LB G cA A o X n K ch H) (hn : As.length = n0) (hl : lv_has ls nL lv) (hst : st0 = As.reverse ++ .ref o :: rest) (hr : (rest.map fun v => v.category).sum ≤ 8) (hdg : decode cc pc = .ok (.invokevirtual index, 3)) (hf : cells ≤ R.cells ∧ slots ≤ R.slots) : va_Run p l e R s m args below meth c H locs cells slots 0 0 (F0 m pc ls st0) rest (Qc (Value.ref o :: As).toArray) free :=
  va_runV (As := As) (rest := rest) S hM cw (pvL hA hLB) rfl hn hl.1 hst (lv_room (rest := st0) hr) hdg hf
theorem rLS (S : CallFix p m c cc nL s args Ts own) (hM : Met l y wds rm (va_Pc As (LbP G cA A o X n K ch)) Qc 0 0 free) (cw : CallB R s args own index y bytes maxL ret wds rm 0 0 n0 ∧ (Cond.static y).before args s = true) (hA : At G cA A s H locs) (hLB : LB G cA A o X n K ch H) (hn : As.length = n0) (hl : lv_has ls nL lv) (hst : st0 = As.reverse ++ rest) (hr : (rest.map fun v => v.category).sum ≤ 8) (hdg : decode cc pc = .ok (.invokestatic index, 3)) (hf : cells ≤ R.cells ∧ slots ≤ R.slots) : va_Run p l e R s m args below meth c H locs cells slots 0 0 (F0 m pc ls st0) rest (Qc As.toArray) free :=
  va_runS (As := As) (rest := rest) S hM cw (psL hA hLB) rfl hn hl.1 hst (lv_room (rest := st0) hr) hdg hf
/-- a call that tells alone -/
theorem lr_i {post : Int32 → Prop} (hr : va_Run p l e R s m args below meth c H locs cells slots 0 0 (F0 m pc ls st0) rest (va_Qi (fun r (_ : Unit) => post r) (fun _ _ => True) (fun _ => False) a) (fun _ => False)) (hA : At G cA A s H locs) (hLB : LB G cA A o X n K ch H)
    (kk : ∀ (r : Int32) (H1 : Heap) (locs1 : List Loc), post r → At G cA A s H1 locs1 → LB G cA A o X n K ch H1 → W p l e R s m args below meth c H1 locs1 cells slots Q (F0 m (pc + 3) ls (.int r :: rest))) : W p l e R s m args below meth c H locs cells slots Q (F0 m pc ls st0) :=
  va_calli hr hA.2.2 (fun _ _ h => h.elim) (fun _ h => h.elim) (fun r _ _ H1 locs1 _ _ hw _ _ hk hS1 => kk r H1 locs1 hw ⟨hA.1, hA.2.1, hS1⟩ (hLB.kept (fun q hq => hk q hq (fun x => x))))
theorem lr_f {post : UInt32 → Prop} (hr : va_Run p l e R s m args below meth c H locs cells slots 0 0 (F0 m pc ls st0) rest (va_Qf (fun r (_ : Unit) => post r) (fun _ _ => True) (fun _ => False) a) (fun _ => False)) (hA : At G cA A s H locs) (hLB : LB G cA A o X n K ch H)
    (kk : ∀ (r : UInt32) (H1 : Heap) (locs1 : List Loc), post r → At G cA A s H1 locs1 → LB G cA A o X n K ch H1 → W p l e R s m args below meth c H1 locs1 cells slots Q (F0 m (pc + 3) ls (.float r :: rest))) : W p l e R s m args below meth c H locs cells slots Q (F0 m pc ls st0) :=
  va_callf hr hA.2.2 (fun _ _ h => h.elim) (fun _ h => h.elim) (fun r _ _ H1 locs1 _ _ hw _ _ hk hS1 => kk r H1 locs1 hw ⟨hA.1, hA.2.1, hS1⟩ (hLB.kept (fun q hq => hk q hq (fun x => x))))
/-- a call that changes the object: what it is behind it is B, for some u -/
theorem lw_i {T : Type} {post : Int32 → T → Prop} {B : T → Heap → Prop} (hr : va_Run p l e R s m args below meth c H locs cells slots 0 0 (F0 m pc ls st0) rest (va_Qi post (fun u t => B u t.heap) A a) A) (hA : At G cA A s H locs)
    (kk : ∀ (r : Int32) (u : T) (H1 : Heap) (locs1 : List Loc), post r u → At G cA A s H1 locs1 → B u H1 → W p l e R s m args below meth c H1 locs1 cells slots Q (F0 m (pc + 3) ls (.int r :: rest))) : W p l e R s m args below meth c H locs cells slots Q (F0 m pc ls st0) :=
  va_calli hr hA.2.2 (fun _ _ h => h) (fun _ h => h) (fun r u _ H1 locs1 ht _ hw hB _ hk hS1 => kk r u H1 locs1 hw ⟨hA.1, hA.2.1, hS1⟩ (by rw [← ht]; exact hB))
theorem lw_f {T : Type} {post : UInt32 → T → Prop} {B : T → Heap → Prop} (hr : va_Run p l e R s m args below meth c H locs cells slots 0 0 (F0 m pc ls st0) rest (va_Qf post (fun u t => B u t.heap) A a) A) (hA : At G cA A s H locs)
    (kk : ∀ (r : UInt32) (u : T) (H1 : Heap) (locs1 : List Loc), post r u → At G cA A s H1 locs1 → B u H1 → W p l e R s m args below meth c H1 locs1 cells slots Q (F0 m (pc + 3) ls (.float r :: rest))) : W p l e R s m args below meth c H locs cells slots Q (F0 m pc ls st0) :=
  va_callf hr hA.2.2 (fun _ _ h => h) (fun _ h => h) (fun r u _ H1 locs1 ht _ hw hB _ hk hS1 => kk r u H1 locs1 hw ⟨hA.1, hA.2.1, hS1⟩ (by rw [← ht]; exact hB))
end LBC
/-! contracts over the object out of those over small worlds -/
theorem lift_i {l : Launch} {y : MethodName} {ws : List Cond} {rm : Room} {G : va_G} {cA : Nat → ClassId} {A : Nat → Prop} {o : Nat} {As : List Value} {X : CT5} {n K : Nat} {ch : GG} {post : Int32 → Prop} (h : ∀ (ad : Nat → Nat → Nat) (tk0 p0 : Int32) (S : Nat → CT5) (bm tk : GG), S 0 = X → AllB S → ∃ (w : va_W) (is : List Nat), Ri l y ws rm G cA (.ref o :: As) w post ∧ is.map (fun i => (lbW cA o ad tk0 S (heads ad) (nI n) (nI K) p0 ch bm tk)[i]?) = w.map some ∧ va_nd is = true) : Met l y ws rm (va_Pc (.ref o :: As) (LbP G cA A o X n K ch)) (va_Qi (fun r (_ : Unit) => post r) (fun _ _ => True) (fun _ => False)) 0 0 (fun _ => False) := by
  refine met_conseq ?_
  rintro a st ⟨rfl, hE, hN, ad, tk0, p0, S, bm, tk, h0, hB, hP, hD⟩
  obtain ⟨w, is, hM, h1, h2⟩ := h ad tk0 p0 S bm tk h0 hB
  exact ⟨_, _, _, hM, ⟨rfl, fun k q hq => by obtain ⟨i, -, hi⟩ := at_pl h1 hq; exact hP i q hi, hE, (hD.sub is h2 h1).weaken (fun _ _ _ _ => trivial)⟩, fun _ _ h => h, fun _ h => h⟩
theorem lift_f {l : Launch} {y : MethodName} {ws : List Cond} {rm : Room} {G : va_G} {cA : Nat → ClassId} {A : Nat → Prop} {o : Nat} {As : List Value} {X : CT5} {n K : Nat} {ch : GG} {post : UInt32 → Prop} (h : ∀ (ad : Nat → Nat → Nat) (tk0 p0 : Int32) (S : Nat → CT5) (bm tk : GG), S 0 = X → AllB S → ∃ (w : va_W) (is : List Nat), Rf l y ws rm G cA (.ref o :: As) w post ∧ is.map (fun i => (lbW cA o ad tk0 S (heads ad) (nI n) (nI K) p0 ch bm tk)[i]?) = w.map some ∧ va_nd is = true) : Met l y ws rm (va_Pc (.ref o :: As) (LbP G cA A o X n K ch)) (va_Qf (fun r (_ : Unit) => post r) (fun _ _ => True) (fun _ => False)) 0 0 (fun _ => False) := by
  refine met_conseq ?_
  rintro a st ⟨rfl, hE, hN, ad, tk0, p0, S, bm, tk, h0, hB, hP, hD⟩
  obtain ⟨w, is, hM, h1, h2⟩ := h ad tk0 p0 S bm tk h0 hB
  exact ⟨_, _, _, hM, ⟨rfl, fun k q hq => by obtain ⟨i, -, hi⟩ := at_pl h1 hq; exact hP i q hi, hE, (hD.sub is h2 h1).weaken (fun _ _ _ _ => trivial)⟩, fun _ _ h => h, fun _ h => h⟩
