/-! Constructors: helpers (by wip/p26/ctor.py) -/
/-- what the tables say, that a constructor is handed -/
def EnC (G : va_G) (cA : Nat → ClassId) (U : State) : Prop := En G cA U ∧ va_AO RX5 U ∧ va_Nw (.methodLinkNest RX8 9 yX5_init RX8) U ∧ va_Nw (.methodLinkNest RX8 31 yX0_init RX8) U ∧ va_Nw (.methodLinkNest RX5 11 yX4_init RX8) U ∧ va_Nw (.methodLinkNest RX5 20 yX7_init RX8) U ∧ va_Nw (.methodLinkNest RX5 27 yX1_init RX8) U ∧ va_Nw (.methodLinkNest RX5 34 yX3_init RX8) U ∧ va_Nw (.methodLinkNest RX5 41 yX6_init RX8) U ∧ va_Nw (.methodLinkNest RX2 15 yX5_init RX8) U
theorem EnC.warm {G : va_G} {cA : Nat → ClassId} {s U : State} (hW : s.WarmedH U.vm) (h : EnC G cA s) : EnC G cA U := by
  obtain ⟨h0, ha, n0, n1, n2, n3, n4, n5, n6, n7⟩ := h
  exact ⟨h0.warm hW, va_AO.moved hW.alike ha, va_Nw.warmM hW n0, va_Nw.warmM hW n1, va_Nw.warmM hW n2, va_Nw.warmM hW n3, va_Nw.warmM hW n4, va_Nw.warmM hW n5, va_Nw.warmM hW n6, va_Nw.warmM hW n7⟩
theorem EnC.calling {G : va_G} {cA : Nat → ClassId} {U : State} {g : JFrame} {mk : MethodId} {a : Array Value} (h : EnC G cA U) : EnC G cA (U.calling g mk a) := by
  obtain ⟨h0, ha, n0, n1, n2, n3, n4, n5, n6, n7⟩ := h
  exact ⟨h0.calling, va_AO.moved (u := U) (U := U.calling g mk a) (Vm.Alike.refl U.vm) ha, va_Nw.same (u := U) (U := U.calling g mk a) rfl rfl n0, va_Nw.same (u := U) (U := U.calling g mk a) rfl rfl n1, va_Nw.same (u := U) (U := U.calling g mk a) rfl rfl n2, va_Nw.same (u := U) (U := U.calling g mk a) rfl rfl n3, va_Nw.same (u := U) (U := U.calling g mk a) rfl rfl n4, va_Nw.same (u := U) (U := U.calling g mk a) rfl rfl n5, va_Nw.same (u := U) (U := U.calling g mk a) rfl rfl n6, va_Nw.same (u := U) (U := U.calling g mk a) rfl rfl n7⟩
def Pn (G : va_G) (cA : Nat → ClassId) (sz : Nat) (w : va_W) (U : State) : Prop := U.heap.size = sz ∧ va_P G vwCl w U.heap ∧ EnC G cA U ∧ va_D (fun _ => True) w
theorem pn_calling {G : va_G} {cA : Nat → ClassId} {sz : Nat} {w : va_W} {av : List Value} : FrameBlind (va_Pc av (Pn G cA sz w)) := fun a U g mk h => ⟨h.1, h.2.1, h.2.2.1, h.2.2.2.1.calling, h.2.2.2.2⟩
/-- a constructor's contract: out of the raw cell e0 at h0, the cells w' a, for some addresses a -/
abbrev Ct {T : Type} (l : Launch) (y : MethodName) (ws : List Cond) (rm : Room) (G : va_G) (cA : Nat → ClassId) (h0 sz : Nat) (e0 : va_E) (mc ms : Nat) (w' : T → va_W) : Prop := Met l y ws rm (va_Pc [.ref h0] (Pn G cA sz [(h0, e0)])) (va_Qv (fun _ : T => True) (fun a t => va_P G vwCl (w' a) t.heap ∧ va_D (va_A [(h0, e0)] sz) (w' a)) (va_A [(h0, e0)] sz)) mc ms (va_A [(h0, e0)] sz)
def u0 : FF := fun k => if k = 0 then 1092616192 else if k = 1 then 1090519040 else if k = 2 then FP.fconst2 else FP.fconst1
def v0 : GG := fun k => if k = 0 then 5 else if k = 1 then 1 else if k = 2 then 2 else if k = 3 then 2 else 3
def f0 : FF := fun _ => 0
def g0 : GG := fun _ => 0
abbrev X00 : CT5 := (u0, v0, f0, g0, g0)
/-- addresses by a list -/
def ads (l : List Nat) : Nat → Nat := fun i => l.getD i 0
abbrev sta (h : Nat) (a : Nat → Nat) : Nat → Nat := fun i => if i = 0 then h else a i
theorem ofWC {l : Launch} {y : MethodName} {ws ws' : List Cond} {rm : Room} {Pc' : State → Prop} {Qc : Array Value → State → Outcome → State → Prop} {mc ms : Nat} {free : Addr → Prop} {cc : ByteArray} {maxL : Nat} {ret : Option FieldType} {own : String} {av : List Value} {lv : List (Nat × Value)} (hy : plainName y.cls = true) (hcls : y.cls = own) (hnm : y.name = "<init>") (hw : ws = Cond.code y cc maxL ret :: ws') (hle : (lg_sl av).length ≤ maxL) (hlv : lv_args 0 av = lv)
    (body : ∀ (p : Program) (e : Env) (s : State) (m : MethodId) (below : List Frame) (meth : Method) (c : Code) (ls : Array Slot), p.tables.exec = Jvm.exec → c.code = cc → c.maxLocals = maxL → meth.sig.returnType = ret → (∀ w ∈ ws, w.before av.toArray s = true) → s.vm.findClass own = some m.cls → meth.locks = false → meth.name = "<init>" → Pc' s → lv_has ls maxL lv → W p l e rm s m av.toArray below meth c s.heap [] 0 0 (MQ below Qc av.toArray s mc ms free) (F0 m 0 ls [])) : Met l y ws rm (va_Pc av Pc') Qc mc ms free := by
  refine Met.ofW (cc := cc) (maxL := maxL) (ret := ret) hy hw ?_
  intro p e s m args below meth c s₁ B hml hv
  obtain ⟨rfl, hv⟩ := hv
  rw [lg_entry_eq]
  exact body p e s m below meth c _ B.exec B.bytes hml B.returns (atoms_spec (ws := ws) B.pre) (hcls ▸ findClass_of_methodNamed B.named) B.notSynchronized ((name_of_methodNamed B.named B.method).1.trans hnm) hv (hlv ▸ lv_entry av hle)
section CTO
variable {p : Program} {l : Launch} {e : Env} {R : Room} {s : State} {m : MethodId} {args : Array Value} {below : List Frame} {meth : Method} {c : Code} {H : Heap} {locs : List Loc} {cells slots : Nat} {Q : State → Prop}
variable {pc : Nat} {ls : Array Slot} {rest st0 : List Value} {A : Nat → Prop} {G : va_G} {cA : Nat → ClassId} {cc : ByteArray} {nL index : Nat} {Ts wds : List Cond} {own host : String} {y : MethodName} {bytes : ByteArray} {maxL : Nat} {rm : Room} {b : Nat} {ws : va_W} {lv : List (Nat × Value)} {T : Type} {w' : T → va_W} {e0 : va_E} {mc ms : Nat}
theorem cnHp (hE : EnC G cA s) (hP : va_P G vwCl ws H) (hD : va_D A ws) (k : Nat) (hk : [k].map (fun i => ws[i]?) = [(b, e0)].map some) : PreS s H (va_Pc [.ref b] (Pn G cA H.size [(b, e0)])) [.ref b] :=
  ⟨pn_calling, fun U hU hW => ⟨rfl, by rw [hU], by rw [hU]; exact fun j q hq => by obtain ⟨i, -, hi⟩ := at_pl hk hq; exact hP i q hi, hE.warm hW, (hD.sub [k] rfl hk).weaken (fun _ _ _ _ => trivial)⟩⟩
/-- a call of a nest mate's constructor -/
theorem cN (S : CallFix p m c cc nL s args Ts own) (hM : Ct l y wds rm G cA b H.size e0 mc ms w') (cw : va_CN R s args own index y host bytes maxL none wds rm mc ms 0 ∧ y.name = "<init>" ∧ (Cond.instanceMethod y).before args s = true) (hE : EnC G cA s) (hP : va_P G vwCl ws H) (hD : va_D A ws) (hS : va_S A s.heap H locs) (hA : ∀ q, s.heap.size ≤ q → A q) (k : Nat) (hk : [k].map (fun i => ws[i]?) = [(b, e0)].map some) (ir : List Nat) (wr : va_W) (hR : ir.map (fun i => ws[i]?) = wr.map some) (hn : va_nd ir = true) (hdis : ∀ i ∈ ir, i ∉ [k]) (hl : lv_has ls nL lv) (hst : st0 = .ref b :: rest) (hr : (rest.map fun v => v.category).sum ≤ 8) (hdg : decode cc pc = .ok (.invokespecial index, 3)) (hf : cells + mc ≤ R.cells ∧ slots + ms ≤ R.slots)
    (kk : ∀ (a : T) (H1 : Heap) (locs1 : List Loc), va_P G vwCl (wr ++ w' a) H1 → va_D A (wr ++ w' a) → va_S A s.heap H1 locs1 → W p l e R s m args below meth c H1 locs1 (cells + mc) (slots + ms) Q (F0 m (pc + 3) ls rest)) : W p l e R s m args below meth c H locs cells slots Q (F0 m pc ls st0) := by
  have hFc := va_free (wc := [(b, e0)]) hD hS hA [k] hk
  refine va_callv (va_runIN (As := []) (rest := rest) S hM cw (cnHp hE hP hD k hk) rfl rfl hl.1 hst (lv_room (rest := st0) hr) hdg hf) hS (fun q _ h => hFc q h) hFc (fun a t H1 locs1 ht hvm _ hB hz1 hk1 hS1 => ?_)
  obtain ⟨hP1, hD1⟩ := hB
  rw [ht] at hP1
  obtain ⟨hP2, hD2⟩ := va_join (wr := wr) (w1 := w' a) hP hD [k] ir hk hR hn hdis hk1 hFc hP1 hD1
  exact kk a H1 locs1 hP2 hD2 hS1
/-- a call of a constructor -/
theorem cI (S : CallFix p m c cc nL s args Ts own) (hM : Ct l y wds rm G cA b H.size e0 mc ms w') (cw : CallB R s args own index y bytes maxL none wds rm mc ms 0 ∧ y.name = "<init>" ∧ (Cond.instanceMethod y).before args s = true) (hE : EnC G cA s) (hP : va_P G vwCl ws H) (hD : va_D A ws) (hS : va_S A s.heap H locs) (hA : ∀ q, s.heap.size ≤ q → A q) (k : Nat) (hk : [k].map (fun i => ws[i]?) = [(b, e0)].map some) (ir : List Nat) (wr : va_W) (hR : ir.map (fun i => ws[i]?) = wr.map some) (hn : va_nd ir = true) (hdis : ∀ i ∈ ir, i ∉ [k]) (hl : lv_has ls nL lv) (hst : st0 = .ref b :: rest) (hr : (rest.map fun v => v.category).sum ≤ 8) (hdg : decode cc pc = .ok (.invokespecial index, 3)) (hf : cells + mc ≤ R.cells ∧ slots + ms ≤ R.slots)
    (kk : ∀ (a : T) (H1 : Heap) (locs1 : List Loc), va_P G vwCl (wr ++ w' a) H1 → va_D A (wr ++ w' a) → va_S A s.heap H1 locs1 → W p l e R s m args below meth c H1 locs1 (cells + mc) (slots + ms) Q (F0 m (pc + 3) ls rest)) : W p l e R s m args below meth c H locs cells slots Q (F0 m pc ls st0) := by
  have hFc := va_free (wc := [(b, e0)]) hD hS hA [k] hk
  refine va_callv (va_runI (As := []) (rest := rest) S hM cw (cnHp hE hP hD k hk) rfl rfl hl.1 hst (lv_room (rest := st0) hr) hdg hf) hS (fun q _ h => hFc q h) hFc (fun a t H1 locs1 ht hvm _ hB hz1 hk1 hS1 => ?_)
  obtain ⟨hP1, hD1⟩ := hB
  rw [ht] at hP1
  obtain ⟨hP2, hD2⟩ := va_join (wr := wr) (w1 := w' a) hP hD [k] ir hk hR hn hdis hk1 hFc hP1 hD1
  exact kk a H1 locs1 hP2 hD2 hS1
/-- a new array of a kind that the tables name -/
theorem cnA (hx : p.tables.exec = Jvm.exec) (hb : c.code = cc) {atype : ArrayType} {ty : FieldType} (hty : newarray.typeOf atype = ty) (k : Nat) (cK : ClassId) (hk : (tyA cA)[k]? = some (cK, ty)) (hprim : ∀ (U : State) (x : ClassId), va_RA U x ty = (U.vm.findClass ("[" ++ ty.toString) = some x)) (harr : (Cond.arrayClass (newarray.typeOf atype)).before args s = true) (hK : va_K G vwCl (tyA cA) s) (hP : va_P G vwCl ws H) (hD : va_D A ws) (hS : va_S A s.heap H locs) (hA : ∀ q, s.heap.size ≤ q → A q) {n : Int32} {N' : Nat} {a0 : vp_A} (ha : ∀ cA : ClassId, vp_cell cA a0 = arrV cA N' (fun _ => defaultValue ty)) (hn : ¬ n < 0) (hN : n.toNatClampNeg = N') (hbytes : N' * componentBytes ty ≤ 536870912) (hcells : cells + 1 ≤ R.cells) (hslots : slots + N' ≤ R.slots) (hdg : decode cc pc = .ok (.newarray atype, 2))
    (kk : ∀ (q : Nat) (H1 : Heap), va_P G vwCl (ws ++ [(q, .inl (cK, a0))]) H1 → va_D A (ws ++ [(q, .inl (cK, a0))]) → va_S A s.heap H1 locs → W p l e R s m args below meth c H1 locs (cells + 1) (slots + N') Q (F0 m (pc + 2) ls (.ref q :: rest))) : W p l e R s m args below meth c H locs cells slots Q (F0 m pc ls (.int n :: rest)) := by
  refine va_newa hx hb harr hty hK hP hD hS hA ha hn hN hbytes hcells hslots hdg (fun q cA' H1 hK' hP' hD' hS' => ?_)
  have h1 := (hK'.2 4 (cA', ty) rfl).2
  have h2 := (hK.2 k (cK, ty) hk).2
  rw [hprim] at h1 h2
  have e9 : cA' = cK := Option.some.inj (h1.symm.trans h2)
  subst e9
  exact kk q H1 hP' hD' hS'
/-- a new array of states -/
theorem cnQ (hx : p.tables.exec = Jvm.exec) (hb : c.code = cc) (hown : s.vm.findClass own = some m.cls) (hclink : (Cond.classLink own index RX5).before args s = true) (hover : va_AO RX5 s) (hK : va_K G vwCl (tyA cA) s) (hP : va_P G vwCl ws H) (hD : va_D A ws) (hS : va_S A s.heap H locs) (hA : ∀ q, s.heap.size ≤ q → A q) {n : Int32} {N' : Nat} (hn : ¬ n < 0) (hN : n.toNatClampNeg = N') (hbytes : N' * 4 ≤ 536870912) (hcells : cells + 1 ≤ R.cells) (hslots : slots + N' ≤ R.slots) (hdg : decode cc pc = .ok (.anewarray index, 3))
    (kk : ∀ (q : Nat) (H1 : Heap), va_P G vwCl (ws ++ [(q, .inl (cA 3, N', .inr (.inr (.inr (.inr (fun _ => none))))))]) H1 → va_D A (ws ++ [(q, .inl (cA 3, N', .inr (.inr (.inr (.inr (fun _ => none))))))]) → va_S A s.heap H1 locs → W p l e R s m args below meth c H1 locs (cells + 1) (slots + N') Q (F0 m (pc + 3) ls (.ref q :: rest))) : W p l e R s m args below meth c H locs cells slots Q (F0 m pc ls (.int n :: rest)) := by
  refine va_newq hx hb hown hclink hover hK hP hD hS hA hn hN hbytes hcells hslots hdg (fun q cA' H1 hK' hP' hD' hS' => ?_)
  have h1 := (hK'.2 4 (cA', .object RX5) rfl).2
  have h2 := (hK.2 3 (cA 3, .object RX5) rfl).2
  obtain ⟨k1, c1, -, -, -, h1⟩ := h1
  obtain ⟨k2, c2, -, -, -, h2⟩ := h2
  have e9 : cA' = cA 3 := Option.some.inj (h1.symm.trans h2)
  subst e9
  exact kk q H1 hP' hD' hS'
end CTO
