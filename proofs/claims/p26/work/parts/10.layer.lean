/-! THE LAYER: contracts over a list of cells, nothing made; calls as one row each -/
abbrev tyA (cA : Nat → ClassId) : List (ClassId × FieldType) := [(cA 0, .float), (cA 1, .int), (cA 2, .char), (cA 3, .object RX5)]
/-- what the tables say, that every contract is handed -/
def En (G : va_G) (cA : Nat → ClassId) (U : State) : Prop := va_K G vwCl (tyA cA) U ∧ va_Nw (.methodLinkNest RX4 24 yX8_notANumber RX8) U ∧ va_Nw (.methodLinkNest RX7 54 yX8_oneIf RX8) U
theorem En.warm {G : va_G} {cA : Nat → ClassId} {s U : State} (hW : s.WarmedH U.vm) (h : En G cA s) : En G cA U := ⟨va_K.moved hW.alike h.1, va_Nw.warmM hW h.2.1, va_Nw.warmM hW h.2.2⟩
theorem En.calling {G : va_G} {cA : Nat → ClassId} {U : State} {g : JFrame} {mk : MethodId} {a : Array Value} (h : En G cA U) : En G cA (U.calling g mk a) :=
  ⟨va_K.moved (u := U) (U := U.calling g mk a) (Vm.Alike.refl U.vm) h.1, va_Nw.same (u := U) (U := U.calling g mk a) rfl rfl h.2.1, va_Nw.same (u := U) (U := U.calling g mk a) rfl rfl h.2.2⟩
/-- a contract's start: the cells, the tables -/
def Pr (G : va_G) (cA : Nat → ClassId) (w : va_W) (U : State) : Prop := va_P G vwCl w U.heap ∧ En G cA U ∧ va_D (fun _ => True) w
def inW (w : va_W) (q : Nat) : Prop := ∃ (k : Nat) (e : va_E), w[k]? = some (q, e)
theorem dself {A : Nat → Prop} {w : va_W} (h : va_D A w) : va_D (inW w) w := ⟨h.1, fun k q hk => ⟨k, q.2, hk⟩⟩
theorem pr_calling {G : va_G} {cA : Nat → ClassId} {w : va_W} {av : List Value} : FrameBlind (va_Pc av (Pr G cA w)) := fun a U g mk h => ⟨h.1, h.2.1, h.2.2.1.calling, h.2.2.2⟩
theorem pv_ {G : va_G} {cA : Nat → ClassId} {A : Nat → Prop} {s : State} {H : Heap} {w : va_W} {C : String} {b : Nat} {As : List Value} (hE : En G cA s) (hP : va_P G vwCl w H) (hD : va_D A w) {q0 ci N : Nat} {T : u_T} {fs : List Value} (hc : vwCl[ci]? = some (C, T, N)) (he : w[q0]? = some (b, .inr (ci, fs))) : PreV s H C b (va_Pc (.ref b :: As) (Pr G cA w)) As :=
  ⟨pr_calling, va_recv (q := (C, T, N)) hE.1 hP hc he, fun U hU hW => ⟨rfl, by rw [hU]; exact hP, hE.warm hW, hD.weaken (fun _ _ _ _ => trivial)⟩⟩
theorem ps_ {G : va_G} {cA : Nat → ClassId} {A : Nat → Prop} {s : State} {H : Heap} {w : va_W} {As : List Value} (hE : En G cA s) (hP : va_P G vwCl w H) (hD : va_D A w) : PreS s H (va_Pc As (Pr G cA w)) As :=
  ⟨pr_calling, fun U hU hW => ⟨rfl, by rw [hU]; exact hP, hE.warm hW, hD.weaken (fun _ _ _ _ => trivial)⟩⟩
theorem at_pl {ws w : va_W} {is : List Nat} (hC : is.map (fun i => ws[i]?) = w.map some) {k : Nat} {q : Nat × va_E} (hq : w[k]? = some q) : ∃ i, is[k]? = some i ∧ ws[i]? = some q := by
  have h1 : (is.map (fun i => ws[i]?))[k]? = some (some q) := by rw [hC, List.getElem?_map, hq]; rfl
  rw [List.getElem?_map] at h1
  cases hi : is[k]? with
  | none => rw [hi] at h1; cases h1
  | some i => rw [hi] at h1; exact ⟨i, rfl, Option.some.inj h1⟩
theorem pl_at {ws w : va_W} {is : List Nat} (hC : is.map (fun i => ws[i]?) = w.map some) {k i : Nat} (hi : is[k]? = some i) : ∃ q, w[k]? = some q ∧ ws[i]? = some q := by
  have h1 : (w.map some)[k]? = some (ws[i]?) := by rw [← hC, List.getElem?_map, hi]; rfl
  rw [List.getElem?_map] at h1
  cases hq : w[k]? with
  | none => rw [hq] at h1; cases h1
  | some q => rw [hq] at h1; exact ⟨q, rfl, (Option.some.inj h1).symm⟩
theorem len_pl {ws w : va_W} {is : List Nat} (hC : is.map (fun i => ws[i]?) = w.map some) : w.length = is.length := by
  have h := congrArg List.length hC
  simpa using h.symm
/-- behind a call: the cells at the places 'is' are the callee's, put anew, those at 'ir' stay -/
theorem putJ {G : va_G} {cl : List vw_C} {A : Nat → Prop} {ws ws' w w' : va_W} {H H1 : Heap} (hP : va_P G cl ws H) (hD : va_D A ws) (is ir : List Nat) (hC : is.map (fun i => ws[i]?) = w.map some) (ha : w'.map (·.1) = w.map (·.1)) (hx1 : is.map (fun i => ws'[i]?) = w'.map some) (hx2 : ir.map (fun i => ws'[i]?) = ir.map (fun i => ws[i]?)) (hcov : (List.range ws'.length).all (fun k => is.contains k || ir.contains k) = true) (hk : ∀ q : Nat, q < H.size → ¬ inW w q → H1[q]? = H[q]?) (h1 : va_P G cl w' H1) : va_P G cl ws' H1 ∧ va_D A ws' := by
  have key : ∀ (k : Nat) (q : Nat × va_E), ws'[k]? = some q → (∃ j : Nat, is[j]? = some k ∧ w'[j]? = some q) ∨ (k ∉ is ∧ ws[k]? = some q) := by
    intro k q hq
    by_cases hm : k ∈ is
    · obtain ⟨j, hj⟩ := List.getElem?_of_mem hm
      obtain ⟨q', h3, h4⟩ := pl_at hx1 hj
      rw [hq] at h4
      cases h4
      exact Or.inl ⟨j, hj, h3⟩
    · have hlt : k < ws'.length := (List.getElem?_eq_some_iff.mp hq).1
      have h3 := List.all_eq_true.mp hcov k (List.mem_range.mpr hlt)
      rw [Bool.or_eq_true, List.contains_iff_mem, List.contains_iff_mem] at h3
      rcases h3 with h3 | h3
      · exact absurd h3 hm
      · obtain ⟨j, hj⟩ := List.getElem?_of_mem h3
        have h4 : (ir.map (fun i => ws'[i]?))[j]? = (ir.map (fun i => ws[i]?))[j]? := by rw [hx2]
        rw [List.getElem?_map, List.getElem?_map, hj] at h4
        have h5 : ws'[k]? = ws[k]? := Option.some.inj h4
        rw [hq] at h5
        exact Or.inr ⟨hm, h5.symm⟩
  have adr : ∀ (k : Nat) (q : Nat × va_E), ws'[k]? = some q → ∃ q0, ws[k]? = some q0 ∧ q0.1 = q.1 := by
    intro k q hq
    rcases key k q hq with ⟨j, h3, h4⟩ | ⟨h3, h4⟩
    · obtain ⟨q0, h5, h6⟩ := pl_at hC h3
      refine ⟨q0, h6, ?_⟩
      have h7 : (w'.map (·.1))[j]? = (w.map (·.1))[j]? := by rw [ha]
      rw [List.getElem?_map, List.getElem?_map, h4, h5] at h7
      exact (Option.some.inj h7).symm
    · exact ⟨q, h4, rfl⟩
  refine ⟨fun k q hq => ?_, fun i j x y hi hj hxy => ?_, fun k q hq => ?_⟩
  · rcases key k q hq with ⟨j, h3, h4⟩ | ⟨h3, h4⟩
    · exact h1 j q h4
    · refine (hP k q h4).kept (hk q.1 (hP k q h4).lt (fun hin => ?_))
      obtain ⟨k2, e, h5⟩ := hin
      obtain ⟨i, h6, h7⟩ := at_pl hC h5
      have h8 := hD.1 k i q (q.1, e) h4 h7 rfl
      subst h8
      exact h3 (List.mem_of_getElem? h6)
  · obtain ⟨x0, h2, h3⟩ := adr i x hi
    obtain ⟨y0, h4, h5⟩ := adr j y hj
    exact hD.1 i j x0 y0 h2 h4 (h3.trans (hxy.trans h5.symm))
  · obtain ⟨q0, h2, h3⟩ := adr k q hq
    rw [← h3]
    exact hD.2 k q0 h2
theorem free_in {A0 : Nat → Prop} {ws w : va_W} (hD : va_D A0 ws) (is : List Nat) (hC : is.map (fun i => ws[i]?) = w.map some) : ∀ q, inW w q → A0 q := by
  intro q h
  obtain ⟨k, e, h⟩ := h
  obtain ⟨i, h1, h2⟩ := at_pl hC h
  exact hD.2 i (q, e) h2
/-- the contracts: R reads alone, W writes its own cells; the answer an int, a float, none -/
abbrev Ri (l : Launch) (y : MethodName) (ws : List Cond) (rm : Room) (G : va_G) (cA : Nat → ClassId) (av : List Value) (w : va_W) (post : Int32 → Prop) : Prop := Met l y ws rm (va_Pc av (Pr G cA w)) (va_Qi (fun r (_ : Unit) => post r) (fun _ _ => True) (fun _ => False)) 0 0 (fun _ => False)
abbrev Rf (l : Launch) (y : MethodName) (ws : List Cond) (rm : Room) (G : va_G) (cA : Nat → ClassId) (av : List Value) (w : va_W) (post : UInt32 → Prop) : Prop := Met l y ws rm (va_Pc av (Pr G cA w)) (va_Qf (fun r (_ : Unit) => post r) (fun _ _ => True) (fun _ => False)) 0 0 (fun _ => False)
abbrev Wi (l : Launch) (y : MethodName) (ws : List Cond) (rm : Room) (G : va_G) (cA : Nat → ClassId) (av : List Value) (w : va_W) (post : Int32 → Prop) (w' : va_W) : Prop := Met l y ws rm (va_Pc av (Pr G cA w)) (va_Qi (fun r (_ : Unit) => post r) (fun _ t => va_P G vwCl w' t.heap) (inW w)) 0 0 (inW w)
abbrev Wf (l : Launch) (y : MethodName) (ws : List Cond) (rm : Room) (G : va_G) (cA : Nat → ClassId) (av : List Value) (w : va_W) (post : UInt32 → Prop) (w' : va_W) : Prop := Met l y ws rm (va_Pc av (Pr G cA w)) (va_Qf (fun r (_ : Unit) => post r) (fun _ t => va_P G vwCl w' t.heap) (inW w)) 0 0 (inW w)
abbrev Wv (l : Launch) (y : MethodName) (ws : List Cond) (rm : Room) (G : va_G) (cA : Nat → ClassId) (av : List Value) (w : va_W) (w' : va_W) : Prop := Met l y ws rm (va_Pc av (Pr G cA w)) (va_Qv (fun (_ : Unit) => True) (fun _ t => va_P G vwCl w' t.heap) (inW w)) 0 0 (inW w)
/-- a contract out of the walk of its body -/
theorem ofW2 {l : Launch} {y : MethodName} {ws ws' : List Cond} {rm : Room} {Pc' : State → Prop} {Qc : Array Value → State → Outcome → State → Prop} {mc ms : Nat} {free : Addr → Prop} {cc : ByteArray} {maxL : Nat} {ret : Option FieldType} {own : String} {av : List Value} {lv : List (Nat × Value)} (hy : plainName y.cls = true) (hcls : y.cls = own) (hw : ws = Cond.code y cc maxL ret :: ws') (hle : (lg_sl av).length ≤ maxL) (hlv : lv_args 0 av = lv)
    (body : ∀ (p : Program) (e : Env) (s : State) (m : MethodId) (below : List Frame) (meth : Method) (c : Code) (ls : Array Slot), p.tables.exec = Jvm.exec → c.code = cc → c.maxLocals = maxL → meth.sig.returnType = ret → (∀ w ∈ ws, w.before av.toArray s = true) → s.vm.findClass own = some m.cls → meth.locks = false → Pc' s → lv_has ls maxL lv → W p l e rm s m av.toArray below meth c s.heap [] 0 0 (MQ below Qc av.toArray s mc ms free) (F0 m 0 ls [])) : Met l y ws rm (va_Pc av Pc') Qc mc ms free := by
  refine Met.ofW (cc := cc) (maxL := maxL) (ret := ret) hy hw ?_
  intro p e s m args below meth c s₁ B hml hv
  obtain ⟨rfl, hv⟩ := hv
  rw [lg_entry_eq]
  exact body p e s m below meth c _ B.exec B.bytes hml B.returns (atoms_spec (ws := ws) B.pre) (hcls ▸ findClass_of_methodNamed B.named) B.notSynchronized hv (hlv ▸ lv_entry av hle)
section LAY
variable {p : Program} {l : Launch} {e : Env} {R : Room} {s : State} {m : MethodId} {args : Array Value} {below : List Frame} {meth : Method} {c : Code} {H : Heap} {locs : List Loc} {cells slots : Nat} {Q : State → Prop}
variable {pc : Nat} {ls : Array Slot} {rest st0 : List Value} {a : Array Value} {A0 : Nat → Prop} {H0 : Heap} {G : va_G} {cA : Nat → ClassId} {cc : ByteArray} {nL n index : Nat} {Ts wds : List Cond} {own C host : String} {y : MethodName} {bytes : ByteArray} {maxL : Nat} {ret : Option FieldType} {rm : Room} {Qc : Array Value → State → Outcome → State → Prop} {free : Addr → Prop} {b : Nat} {As : List Value} {w w' ws ws' : va_W} {lv : List (Nat × Value)}
theorem rV (S : CallFix p m c cc nL s args Ts own) (hM : Met l y wds rm (va_Pc (.ref b :: As) (Pr G cA w)) Qc 0 0 free) (cw : CallW R s args own C index y bytes maxL ret wds rm 0 0 n) (hE : En G cA s) (hP : va_P G vwCl w H) (hD : va_D A0 w) {q0 ci N : Nat} {T : u_T} {fs : List Value} (hc : vwCl[ci]? = some (C, T, N)) (he : w[q0]? = some (b, .inr (ci, fs))) (hn : As.length = n) (hl : lv_has ls nL lv) (hst : st0 = As.reverse ++ .ref b :: rest) (hr : (rest.map fun v => v.category).sum ≤ 8) (hdg : decode cc pc = .ok (.invokevirtual index, 3)) (hf : cells ≤ R.cells ∧ slots ≤ R.slots) : va_Run p l e R s m args below meth c H locs cells slots 0 0 (F0 m pc ls st0) rest (Qc (Value.ref b :: As).toArray) free :=
  va_runV (As := As) (rest := rest) S hM cw (pv_ hE hP hD hc he) rfl hn hl.1 hst (lv_room (rest := st0) hr) hdg hf
theorem rVN (S : CallFix p m c cc nL s args Ts own) (hM : Met l y wds rm (va_Pc (.ref b :: As) (Pr G cA w)) Qc 0 0 free) (cw : va_CN R s args own index y host bytes maxL ret wds rm 0 0 n ∧ (Cond.instanceMethod y).before args s = true ∧ (Cond.selects C y y).before args s = true) (hE : En G cA s) (hP : va_P G vwCl w H) (hD : va_D A0 w) {q0 ci N : Nat} {T : u_T} {fs : List Value} (hc : vwCl[ci]? = some (C, T, N)) (he : w[q0]? = some (b, .inr (ci, fs))) (hn : As.length = n) (hl : lv_has ls nL lv) (hst : st0 = As.reverse ++ .ref b :: rest) (hr : (rest.map fun v => v.category).sum ≤ 8) (hdg : decode cc pc = .ok (.invokevirtual index, 3)) (hf : cells ≤ R.cells ∧ slots ≤ R.slots) : va_Run p l e R s m args below meth c H locs cells slots 0 0 (F0 m pc ls st0) rest (Qc (Value.ref b :: As).toArray) free :=
  va_runVN (As := As) (rest := rest) S hM cw (pv_ hE hP hD hc he) rfl hn hl.1 hst (lv_room (rest := st0) hr) hdg hf
theorem rS (S : CallFix p m c cc nL s args Ts own) (hM : Met l y wds rm (va_Pc As (Pr G cA w)) Qc 0 0 free) (cw : CallB R s args own index y bytes maxL ret wds rm 0 0 n ∧ (Cond.static y).before args s = true) (hE : En G cA s) (hP : va_P G vwCl w H) (hD : va_D A0 w) (hn : As.length = n) (hl : lv_has ls nL lv) (hst : st0 = As.reverse ++ rest) (hr : (rest.map fun v => v.category).sum ≤ 8) (hdg : decode cc pc = .ok (.invokestatic index, 3)) (hf : cells ≤ R.cells ∧ slots ≤ R.slots) : va_Run p l e R s m args below meth c H locs cells slots 0 0 (F0 m pc ls st0) rest (Qc As.toArray) free :=
  va_runS (As := As) (rest := rest) S hM cw (ps_ hE hP hD) rfl hn hl.1 hst (lv_room (rest := st0) hr) hdg hf
theorem rSN (S : CallFix p m c cc nL s args Ts own) (hM : Met l y wds rm (va_Pc As (Pr G cA w)) Qc 0 0 free) (cw : va_CN R s args own index y host bytes maxL ret wds rm 0 0 n ∧ (Cond.static y).before args s = true ∧ True) (hE : En G cA s) (hP : va_P G vwCl w H) (hD : va_D A0 w) (hn : As.length = n) (hl : lv_has ls nL lv) (hst : st0 = As.reverse ++ rest) (hr : (rest.map fun v => v.category).sum ≤ 8) (hdg : decode cc pc = .ok (.invokestatic index, 3)) (hf : cells ≤ R.cells ∧ slots ≤ R.slots) : va_Run p l e R s m args below meth c H locs cells slots 0 0 (F0 m pc ls st0) rest (Qc As.toArray) free :=
  va_runSN (As := As) (rest := rest) S hM cw (ps_ hE hP hD) rfl hn hl.1 hst (lv_room (rest := st0) hr) hdg hf
/-- a call that reads alone: the world stays -/
theorem rd_i {post : Int32 → Prop} (hr : va_Run p l e R s m args below meth c H locs cells slots 0 0 (F0 m pc ls st0) rest (va_Qi (fun r (_ : Unit) => post r) (fun _ _ => True) (fun _ => False) a) (fun _ => False)) (hS : va_S A0 H0 H locs) (hP : va_P G vwCl ws H)
    (kk : ∀ (r : Int32) (H1 : Heap) (locs1 : List Loc), post r → va_P G vwCl ws H1 → va_S A0 H0 H1 locs1 → W p l e R s m args below meth c H1 locs1 cells slots Q (F0 m (pc + 3) ls (.int r :: rest))) : W p l e R s m args below meth c H locs cells slots Q (F0 m pc ls st0) :=
  va_calli hr hS (fun _ _ h => h.elim) (fun _ h => h.elim) (fun r _ _ H1 locs1 _ _ hw _ _ hk hS1 => kk r H1 locs1 hw (hP.kept (fun k q h => hk q.1 (hP k q h).lt (fun x => x))) hS1)
theorem rd_f {post : UInt32 → Prop} (hr : va_Run p l e R s m args below meth c H locs cells slots 0 0 (F0 m pc ls st0) rest (va_Qf (fun r (_ : Unit) => post r) (fun _ _ => True) (fun _ => False) a) (fun _ => False)) (hS : va_S A0 H0 H locs) (hP : va_P G vwCl ws H)
    (kk : ∀ (r : UInt32) (H1 : Heap) (locs1 : List Loc), post r → va_P G vwCl ws H1 → va_S A0 H0 H1 locs1 → W p l e R s m args below meth c H1 locs1 cells slots Q (F0 m (pc + 3) ls (.float r :: rest))) : W p l e R s m args below meth c H locs cells slots Q (F0 m pc ls st0) :=
  va_callf hr hS (fun _ _ h => h.elim) (fun _ h => h.elim) (fun r _ _ H1 locs1 _ _ hw _ _ hk hS1 => kk r H1 locs1 hw (hP.kept (fun k q h => hk q.1 (hP k q h).lt (fun x => x))) hS1)
/-- a call that writes its own cells: they are put anew, the others stay -/
theorem wr_i {post : Int32 → Prop} (hr : va_Run p l e R s m args below meth c H locs cells slots 0 0 (F0 m pc ls st0) rest (va_Qi (fun r (_ : Unit) => post r) (fun _ t => va_P G vwCl w' t.heap) (inW w) a) (inW w)) (hS : va_S A0 H0 H locs) (hP : va_P G vwCl ws H) (hD : va_D A0 ws) (is : List Nat) (hC : is.map (fun i => ws[i]?) = w.map some) (ha : w'.map (·.1) = w.map (·.1)) (ir : List Nat) (wr : va_W) (hx1 : is.map (fun i => ws'[i]?) = w'.map some) (hr1 : ir.map (fun i => ws'[i]?) = wr.map some) (hr2 : ir.map (fun i => ws[i]?) = wr.map some) (hcov : (List.range ws'.length).all (fun k => is.contains k || ir.contains k) = true)
    (kk : ∀ (r : Int32) (H1 : Heap) (locs1 : List Loc), post r → va_P G vwCl ws' H1 → va_D A0 ws' → va_S A0 H0 H1 locs1 → W p l e R s m args below meth c H1 locs1 cells slots Q (F0 m (pc + 3) ls (.int r :: rest))) : W p l e R s m args below meth c H locs cells slots Q (F0 m pc ls st0) :=
  va_calli hr hS (fun q _ h => free_in hD is hC q h) (fun q h => free_in hD is hC q h) (fun r _ _ H1 locs1 ht _ hw hB _ hk hS1 => by
    have hj := putJ hP hD is ir hC ha hx1 (hr1.trans hr2.symm) hcov hk (by rw [ht] at hB; exact hB)
    exact kk r H1 locs1 hw hj.1 hj.2 hS1)
theorem wr_f {post : UInt32 → Prop} (hr : va_Run p l e R s m args below meth c H locs cells slots 0 0 (F0 m pc ls st0) rest (va_Qf (fun r (_ : Unit) => post r) (fun _ t => va_P G vwCl w' t.heap) (inW w) a) (inW w)) (hS : va_S A0 H0 H locs) (hP : va_P G vwCl ws H) (hD : va_D A0 ws) (is : List Nat) (hC : is.map (fun i => ws[i]?) = w.map some) (ha : w'.map (·.1) = w.map (·.1)) (ir : List Nat) (wr : va_W) (hx1 : is.map (fun i => ws'[i]?) = w'.map some) (hr1 : ir.map (fun i => ws'[i]?) = wr.map some) (hr2 : ir.map (fun i => ws[i]?) = wr.map some) (hcov : (List.range ws'.length).all (fun k => is.contains k || ir.contains k) = true)
    (kk : ∀ (r : UInt32) (H1 : Heap) (locs1 : List Loc), post r → va_P G vwCl ws' H1 → va_D A0 ws' → va_S A0 H0 H1 locs1 → W p l e R s m args below meth c H1 locs1 cells slots Q (F0 m (pc + 3) ls (.float r :: rest))) : W p l e R s m args below meth c H locs cells slots Q (F0 m pc ls st0) :=
  va_callf hr hS (fun q _ h => free_in hD is hC q h) (fun q h => free_in hD is hC q h) (fun r _ _ H1 locs1 ht _ hw hB _ hk hS1 => by
    have hj := putJ hP hD is ir hC ha hx1 (hr1.trans hr2.symm) hcov hk (by rw [ht] at hB; exact hB)
    exact kk r H1 locs1 hw hj.1 hj.2 hS1)
theorem wr_v (hr : va_Run p l e R s m args below meth c H locs cells slots 0 0 (F0 m pc ls st0) rest (va_Qv (fun (_ : Unit) => True) (fun _ t => va_P G vwCl w' t.heap) (inW w) a) (inW w)) (hS : va_S A0 H0 H locs) (hP : va_P G vwCl ws H) (hD : va_D A0 ws) (is : List Nat) (hC : is.map (fun i => ws[i]?) = w.map some) (ha : w'.map (·.1) = w.map (·.1)) (ir : List Nat) (wr : va_W) (hx1 : is.map (fun i => ws'[i]?) = w'.map some) (hr1 : ir.map (fun i => ws'[i]?) = wr.map some) (hr2 : ir.map (fun i => ws[i]?) = wr.map some) (hcov : (List.range ws'.length).all (fun k => is.contains k || ir.contains k) = true)
    (kk : ∀ (H1 : Heap) (locs1 : List Loc), va_P G vwCl ws' H1 → va_D A0 ws' → va_S A0 H0 H1 locs1 → W p l e R s m args below meth c H1 locs1 cells slots Q (F0 m (pc + 3) ls rest)) : W p l e R s m args below meth c H locs cells slots Q (F0 m pc ls st0) :=
  va_callv hr hS (fun q _ h => free_in hD is hC q h) (fun q h => free_in hD is hC q h) (fun _ _ H1 locs1 ht _ _ hB _ hk hS1 => by
    have hj := putJ hP hD is ir hC ha hx1 (hr1.trans hr2.symm) hcov hk (by rw [ht] at hB; exact hB)
    exact kk H1 locs1 hj.1 hj.2 hS1)
/-- the ends -/
theorem en_ri {post : Int32 → Prop} {v : Int32} {ty : FieldType} (hx : p.tables.exec = Jvm.exec) (hb : c.code = cc) (hr : meth.sig.returnType = some ty) (hn : narrow ty (.int v) = .int v) (hlocks : meth.locks = false) (hS : va_S (fun _ => False) s.heap H locs) (hp : post v) (hdg : decode cc pc = .ok (.ireturn, 1)) : W p l e R s m args below meth c H locs cells slots (MQ below (va_Qi (fun r (_ : Unit) => post r) (fun _ _ => True) (fun _ => False)) args s cells slots (fun _ => False)) (F0 m pc ls [.int v]) :=
  W.zret hx hb hr hn (fun t ht _ => ⟨⟨v, (), rfl, hp, trivial⟩, hS.F ht⟩) hS.2.2 hdg hlocks
theorem en_rf {post : UInt32 → Prop} {v : UInt32} (hx : p.tables.exec = Jvm.exec) (hb : c.code = cc) (hr : meth.sig.returnType = some .float) (hlocks : meth.locks = false) (hS : va_S (fun _ => False) s.heap H locs) (hp : post v) (hdg : decode cc pc = .ok (.freturn, 1)) : W p l e R s m args below meth c H locs cells slots (MQ below (va_Qf (fun r (_ : Unit) => post r) (fun _ _ => True) (fun _ => False)) args s cells slots (fun _ => False)) (F0 m pc ls [.float v]) :=
  W.fret hx hb hr (fun t ht _ => ⟨⟨v, (), rfl, hp, trivial⟩, hS.F ht⟩) hS.2.2 hdg hlocks
theorem en_wi {post : Int32 → Prop} {v : Int32} {ty : FieldType} {A : Nat → Prop} (hx : p.tables.exec = Jvm.exec) (hb : c.code = cc) (hr : meth.sig.returnType = some ty) (hn : narrow ty (.int v) = .int v) (hlocks : meth.locks = false) (hS : va_S A s.heap H locs) (hp : post v) (hP : va_P G vwCl w' H) (hdg : decode cc pc = .ok (.ireturn, 1)) : W p l e R s m args below meth c H locs cells slots (MQ below (va_Qi (fun r (_ : Unit) => post r) (fun _ t => va_P G vwCl w' t.heap) A) args s cells slots A) (F0 m pc ls [.int v]) :=
  W.zret hx hb hr hn (fun t ht _ => ⟨⟨v, (), rfl, hp, by show va_P G vwCl w' t.heap; rw [ht]; exact hP⟩, hS.F ht⟩) hS.2.2 hdg hlocks
theorem en_wf {post : UInt32 → Prop} {v : UInt32} {A : Nat → Prop} (hx : p.tables.exec = Jvm.exec) (hb : c.code = cc) (hr : meth.sig.returnType = some .float) (hlocks : meth.locks = false) (hS : va_S A s.heap H locs) (hp : post v) (hP : va_P G vwCl w' H) (hdg : decode cc pc = .ok (.freturn, 1)) : W p l e R s m args below meth c H locs cells slots (MQ below (va_Qf (fun r (_ : Unit) => post r) (fun _ t => va_P G vwCl w' t.heap) A) args s cells slots A) (F0 m pc ls [.float v]) :=
  W.fret hx hb hr (fun t ht _ => ⟨⟨v, (), rfl, hp, by show va_P G vwCl w' t.heap; rw [ht]; exact hP⟩, hS.F ht⟩) hS.2.2 hdg hlocks
theorem en_wv {A : Nat → Prop} (hx : p.tables.exec = Jvm.exec) (hb : c.code = cc) (hr : meth.sig.returnType = none) (hlocks : meth.locks = false) (hS : va_S A s.heap H locs) (hP : va_P G vwCl w' H) (hdg : decode cc pc = .ok (.return_, 1)) : W p l e R s m args below meth c H locs cells slots (MQ below (va_Qv (fun (_ : Unit) => True) (fun _ t => va_P G vwCl w' t.heap) A) args s cells slots A) (F0 m pc ls []) :=
  W.vret hx hb hr (fun t ht _ => ⟨⟨(), rfl, trivial, by show va_P G vwCl w' t.heap; rw [ht]; exact hP⟩, hS.F ht⟩) hS.2.2 hdg hlocks
end LAY
