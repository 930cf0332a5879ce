/-! The worlds of a LiftBeams object; a contract out of a smaller one's (by wip/p26/lb1.py) -/
theorem met_conseq {l : Launch} {y : MethodName} {ws : List Cond} {rm : Room} {Pc' : Array Value → State → Prop} {Qc' : Array Value → State → Outcome → State → Prop} {mc ms : Nat} {free' : Addr → Prop} (h : ∀ a st, Pc' a st → ∃ (Pc : Array Value → State → Prop) (Qc : Array Value → State → Outcome → State → Prop) (free : Addr → Prop), Met l y ws rm Pc Qc mc ms free ∧ Pc a st ∧ (∀ o t, Qc a st o t → Qc' a st o t) ∧ ∀ q, free q → free' q) : Met l y ws rm Pc' Qc' mc ms free' := by
  intro p e ha hc hk s m args below hf happ hP hK
  obtain ⟨Pc, Qc, free, hM, h1, h2, h3⟩ := h args s hP
  obtain ⟨n, o, g1, g2, g3, g4, L, g5, g6⟩ := hM p e ha hc hk s m args below hf happ h1 hK
  exact ⟨n, o, g1, g2, g3, h2 _ _ g4, L, g5, fun q hq => h3 _ (g6 q hq)⟩
theorem putJ2 {G : va_G} {cl : List vw_C} {A : Nat → Prop} {ws ws' w w' : va_W} {H H1 : Heap} (h1 : va_P G cl w' H1) (hk : ∀ q : Nat, q < H.size → ¬ inW w q → H1[q]? = H[q]?) (hP : va_P G cl ws H) (hD : va_D A ws) (is ir : List Nat) (hC : is.map (fun i => ws[i]?) = w.map some) (ha : w'.map (·.1) = w.map (·.1)) (hx1 : is.map (fun i => ws'[i]?) = w'.map some) (hx2 : ir.map (fun i => ws'[i]?) = ir.map (fun i => ws[i]?)) (hcov : (List.range ws'.length).all (fun k => is.contains k || ir.contains k) = true) : va_P G cl ws' H1 ∧ va_D A ws' := putJ hP hD is ir hC ha hx1 hx2 hcov hk h1
abbrev CT5 : Type := FF × GG × FF × GG × GG
abbrev blk (cA : Nat → ClassId) (ad : Nat → Nat → Nat) (j : Nat) (x : CT5) : va_W := stC cA (ad j) x.1 x.2.1 x.2.2.1 x.2.2.2.1 x.2.2.2.2
abbrev LbV (r1 r2 r3 r4 r5 : Nat) (x : Int32) : va_E := .inr (8, [.ref r1, .ref r2, .ref r3, .ref r4, .ref r5, .int x])
/-- the history and its four states: h its address, ha its row's, q the states in their order -/
abbrev hsW (cA : Nat → ClassId) (h ha : Nat) (ad : Nat → Nat → Nat) (q : Nat → Nat) (n : Int32) (S : Nat → CT5) : va_W := [(h, HiV ha n), (ha, Q4V cA (q 0) (q 1) (q 2) (q 3))] ++ (blk cA ad 3 (S 3) ++ (blk cA ad 4 (S 4) ++ (blk cA ad 5 (S 5) ++ blk cA ad 6 (S 6))))
def heads (ad : Nat → Nat → Nat) : Nat → Nat := fun i => ad (3 + i) 0
/-- the states' order, the same or turned by one -/
def rotOK (ad : Nat → Nat → Nat) (q : Nat → Nat) : Prop := q = heads ad ∨ q = (fun i => if i = 3 then ad 3 0 else ad (4 + i) 0)
def recN (n : Nat) : Nat := if n < 4 then n + 1 else 4
def AllB (S : Nat → CT5) : Prop := ∀ j, Bo (S j).2.2.2.1
/-- a method that writes its own cells, the new ones known but for x -/
abbrev Xv {X : Type} (l : Launch) (y : MethodName) (ws : List Cond) (rm : Room) (G : va_G) (cA : Nat → ClassId) (av : List Value) (w : va_W) (post : X → Prop) (w' : X → va_W) : Prop := Met l y ws rm (va_Pc av (Pr G cA w)) (va_Qv (fun x : X => post x) (fun x t => va_P G vwCl (w' x) t.heap) (inW w)) 0 0 (inW w)
abbrev Xi {X : Type} (l : Launch) (y : MethodName) (ws : List Cond) (rm : Room) (G : va_G) (cA : Nat → ClassId) (av : List Value) (w : va_W) (post : Int32 → X → Prop) (w' : X → va_W) : Prop := Met l y ws rm (va_Pc av (Pr G cA w)) (va_Qi (fun r (x : X) => post r x) (fun x t => va_P G vwCl (w' x) t.heap) (inW w)) 0 0 (inW w)
section XL
variable {p : Program} {l : Launch} {e : Env} {R : Room} {s : State} {m : MethodId} {args : Array Value} {below : List Frame} {meth : Method} {c : Code} {H : Heap} {locs : List Loc} {cells slots : Nat} {Q : State → Prop}
variable {pc : Nat} {ls : Array Slot} {rest st0 : List Value} {a : Array Value} {A0 : Nat → Prop} {H0 : Heap} {G : va_G} {cA : Nat → ClassId} {cc : ByteArray} {w ws : va_W} {X : Type} {w' ws' : X → va_W}
theorem wr_x {post : X → Prop} (hr : va_Run p l e R s m args below meth c H locs cells slots 0 0 (F0 m pc ls st0) rest (va_Qv (fun x : X => post x) (fun x t => va_P G vwCl (w' x) t.heap) (inW w) a) (inW w)) (hS : va_S A0 H0 H locs) (hP : va_P G vwCl ws H) (hD : va_D A0 ws) (is : List Nat) (hC : is.map (fun i => ws[i]?) = w.map some) (ha : ∀ x, (w' x).map (·.1) = w.map (·.1)) (ir : List Nat) (hx1 : ∀ x, is.map (fun i => (ws' x)[i]?) = (w' x).map some) (hx2 : ∀ x, ir.map (fun i => (ws' x)[i]?) = ir.map (fun i => ws[i]?)) (hcov : ∀ x, (List.range (ws' x).length).all (fun k => is.contains k || ir.contains k) = true)
    (kk : ∀ (x : X) (H1 : Heap) (locs1 : List Loc), post x → va_P G vwCl (ws' x) H1 → va_D A0 (ws' x) → va_S A0 H0 H1 locs1 → W p l e R s m args below meth c H1 locs1 cells slots Q (F0 m (pc + 3) ls rest)) : W p l e R s m args below meth c H locs cells slots Q (F0 m pc ls st0) :=
  va_callv hr hS (fun q _ h => free_in hD is hC q h) (fun q h => free_in hD is hC q h) (fun x _ H1 locs1 ht _ hp hB _ hk hS1 => by
    have hj := putJ hP hD is ir hC (ha x) (hx1 x) (hx2 x) (hcov x) hk (by rw [ht] at hB; exact hB)
    exact kk x H1 locs1 hp hj.1 hj.2 hS1)
theorem en_xi {post : Int32 → X → Prop} {v : Int32} {ty : FieldType} {A : Nat → Prop} (x : X) (hx : p.tables.exec = Jvm.exec) (hb : c.code = cc) (hr : meth.sig.returnType = some ty) (hn : narrow ty (.int v) = .int v) (hlocks : meth.locks = false) (hS : va_S A s.heap H locs) (hp : post v x) (hP : va_P G vwCl (w' x) H) (hdg : decode cc pc = .ok (.ireturn, 1)) : W p l e R s m args below meth c H locs cells slots (MQ below (va_Qi (fun r (x : X) => post r x) (fun x t => va_P G vwCl (w' x) t.heap) A) args s cells slots A) (F0 m pc ls [.int v]) :=
  W.zret hx hb hr hn (fun t ht _ => ⟨⟨v, x, rfl, hp, by show va_P G vwCl (w' x) t.heap; rw [ht]; exact hP⟩, hS.F ht⟩) hS.2.2 hdg hlocks
end XL

set_option maxHeartbeats 4000000 in
set_option maxRecDepth 100000 in
/-- History.record(state), whatever is there -/
theorem cX2_record_u (l : Launch) (G : va_G) (cA : Nat → ClassId) (h ha : Nat) (ad : Nat → Nat → Nat) (n : Nat) (hn : n ≤ 4) (S : Nat → CT5) (hB : AllB S) : Xv (X := (Nat → Nat) × (Nat → CT5)) l yX2_record wsX2_record ({ frames := 2, cells := 0, slots := 0, locals := 43 } : Room) G cA [.ref h, .ref (ad 0 0)] (hsW cA h ha ad (heads ad) (nI n) S ++ blk cA ad 0 (S 0)) (fun x => rotOK ad x.1 ∧ AllB x.2) (fun x => hsW cA h ha ad x.1 (nI (recN n)) x.2 ++ blk cA ad 0 (S 0)) := by
  refine met_conseq ?_
  rintro av U ⟨rfl, hP, hE, hD⟩
  have hu : ∀ k, AllB (fun j => if j = k then S 0 else S j) := fun k j => by show Bo (if j = k then S 0 else S j).2.2.2.1; split; exact hB 0; exact hB j
  rcases (show n = 0 ∨ n = 1 ∨ n = 2 ∨ n = 3 ∨ n = 4 by omega) with rfl | rfl | rfl | rfl | rfl
  · refine ⟨_, _, _, cX2_record_0 l G cA h ha (ad 4 0) (ad 5 0) (ad 6 0) (ad 3) (ad 0) (S 3).1 (S 0).1 (S 3).2.1 (S 0).2.1 (S 3).2.2.1 (S 0).2.2.1 (S 3).2.2.2.1 (S 0).2.2.2.1 (S 3).2.2.2.2 (S 0).2.2.2.2 (hB 0), ⟨rfl, hP.sub [0, 1, 2, 3, 4, 5, 6, 7, 8, 9, 10, 11, 42, 43, 44, 45, 46, 47, 48, 49, 50, 51] rfl, hE, hD.sub [0, 1, 2, 3, 4, 5, 6, 7, 8, 9, 10, 11, 42, 43, 44, 45, 46, 47, 48, 49, 50, 51] (by decide) rfl⟩, ?_, ?_⟩
    · rintro oc t ⟨⟨u, h1, h2, h3⟩, h4, h5⟩
      have hj := putJ2 h3 h5 (ws' := hsW cA h ha ad (heads ad) (nI (recN 0)) (fun j => if j = 3 then S 0 else S j) ++ blk cA ad 0 (S 0)) hP hD [0, 1, 2, 3, 4, 5, 6, 7, 8, 9, 10, 11, 42, 43, 44, 45, 46, 47, 48, 49, 50, 51] [12, 13, 14, 15, 16, 17, 18, 19, 20, 21, 22, 23, 24, 25, 26, 27, 28, 29, 30, 31, 32, 33, 34, 35, 36, 37, 38, 39, 40, 41] rfl rfl rfl rfl rfl
      exact ⟨⟨(heads ad, fun j => if j = 3 then S 0 else S j), h1, ⟨Or.inl rfl, hu 3⟩, hj.1⟩, h4, fun q hq hn => h5 q hq (fun hin => hn (free_in (dself hD) [0, 1, 2, 3, 4, 5, 6, 7, 8, 9, 10, 11, 42, 43, 44, 45, 46, 47, 48, 49, 50, 51] rfl q hin))⟩
    · exact fun q hq => free_in (dself hD) [0, 1, 2, 3, 4, 5, 6, 7, 8, 9, 10, 11, 42, 43, 44, 45, 46, 47, 48, 49, 50, 51] rfl q hq
  · refine ⟨_, _, _, cX2_record_1 l G cA h ha (ad 3 0) (ad 5 0) (ad 6 0) (ad 4) (ad 0) (S 4).1 (S 0).1 (S 4).2.1 (S 0).2.1 (S 4).2.2.1 (S 0).2.2.1 (S 4).2.2.2.1 (S 0).2.2.2.1 (S 4).2.2.2.2 (S 0).2.2.2.2 (hB 0), ⟨rfl, hP.sub [0, 1, 12, 13, 14, 15, 16, 17, 18, 19, 20, 21, 42, 43, 44, 45, 46, 47, 48, 49, 50, 51] rfl, hE, hD.sub [0, 1, 12, 13, 14, 15, 16, 17, 18, 19, 20, 21, 42, 43, 44, 45, 46, 47, 48, 49, 50, 51] (by decide) rfl⟩, ?_, ?_⟩
    · rintro oc t ⟨⟨u, h1, h2, h3⟩, h4, h5⟩
      have hj := putJ2 h3 h5 (ws' := hsW cA h ha ad (heads ad) (nI (recN 1)) (fun j => if j = 4 then S 0 else S j) ++ blk cA ad 0 (S 0)) hP hD [0, 1, 12, 13, 14, 15, 16, 17, 18, 19, 20, 21, 42, 43, 44, 45, 46, 47, 48, 49, 50, 51] [2, 3, 4, 5, 6, 7, 8, 9, 10, 11, 22, 23, 24, 25, 26, 27, 28, 29, 30, 31, 32, 33, 34, 35, 36, 37, 38, 39, 40, 41] rfl rfl rfl rfl rfl
      exact ⟨⟨(heads ad, fun j => if j = 4 then S 0 else S j), h1, ⟨Or.inl rfl, hu 4⟩, hj.1⟩, h4, fun q hq hn => h5 q hq (fun hin => hn (free_in (dself hD) [0, 1, 12, 13, 14, 15, 16, 17, 18, 19, 20, 21, 42, 43, 44, 45, 46, 47, 48, 49, 50, 51] rfl q hin))⟩
    · exact fun q hq => free_in (dself hD) [0, 1, 12, 13, 14, 15, 16, 17, 18, 19, 20, 21, 42, 43, 44, 45, 46, 47, 48, 49, 50, 51] rfl q hq
  · refine ⟨_, _, _, cX2_record_2 l G cA h ha (ad 3 0) (ad 4 0) (ad 6 0) (ad 5) (ad 0) (S 5).1 (S 0).1 (S 5).2.1 (S 0).2.1 (S 5).2.2.1 (S 0).2.2.1 (S 5).2.2.2.1 (S 0).2.2.2.1 (S 5).2.2.2.2 (S 0).2.2.2.2 (hB 0), ⟨rfl, hP.sub [0, 1, 22, 23, 24, 25, 26, 27, 28, 29, 30, 31, 42, 43, 44, 45, 46, 47, 48, 49, 50, 51] rfl, hE, hD.sub [0, 1, 22, 23, 24, 25, 26, 27, 28, 29, 30, 31, 42, 43, 44, 45, 46, 47, 48, 49, 50, 51] (by decide) rfl⟩, ?_, ?_⟩
    · rintro oc t ⟨⟨u, h1, h2, h3⟩, h4, h5⟩
      have hj := putJ2 h3 h5 (ws' := hsW cA h ha ad (heads ad) (nI (recN 2)) (fun j => if j = 5 then S 0 else S j) ++ blk cA ad 0 (S 0)) hP hD [0, 1, 22, 23, 24, 25, 26, 27, 28, 29, 30, 31, 42, 43, 44, 45, 46, 47, 48, 49, 50, 51] [2, 3, 4, 5, 6, 7, 8, 9, 10, 11, 12, 13, 14, 15, 16, 17, 18, 19, 20, 21, 32, 33, 34, 35, 36, 37, 38, 39, 40, 41] rfl rfl rfl rfl rfl
      exact ⟨⟨(heads ad, fun j => if j = 5 then S 0 else S j), h1, ⟨Or.inl rfl, hu 5⟩, hj.1⟩, h4, fun q hq hn => h5 q hq (fun hin => hn (free_in (dself hD) [0, 1, 22, 23, 24, 25, 26, 27, 28, 29, 30, 31, 42, 43, 44, 45, 46, 47, 48, 49, 50, 51] rfl q hin))⟩
    · exact fun q hq => free_in (dself hD) [0, 1, 22, 23, 24, 25, 26, 27, 28, 29, 30, 31, 42, 43, 44, 45, 46, 47, 48, 49, 50, 51] rfl q hq
  · refine ⟨_, _, _, cX2_record_3 l G cA h ha (ad 3 0) (ad 4 0) (ad 5 0) (ad 6) (ad 0) (S 6).1 (S 0).1 (S 6).2.1 (S 0).2.1 (S 6).2.2.1 (S 0).2.2.1 (S 6).2.2.2.1 (S 0).2.2.2.1 (S 6).2.2.2.2 (S 0).2.2.2.2 (hB 0), ⟨rfl, hP.sub [0, 1, 32, 33, 34, 35, 36, 37, 38, 39, 40, 41, 42, 43, 44, 45, 46, 47, 48, 49, 50, 51] rfl, hE, hD.sub [0, 1, 32, 33, 34, 35, 36, 37, 38, 39, 40, 41, 42, 43, 44, 45, 46, 47, 48, 49, 50, 51] (by decide) rfl⟩, ?_, ?_⟩
    · rintro oc t ⟨⟨u, h1, h2, h3⟩, h4, h5⟩
      have hj := putJ2 h3 h5 (ws' := hsW cA h ha ad (heads ad) (nI (recN 3)) (fun j => if j = 6 then S 0 else S j) ++ blk cA ad 0 (S 0)) hP hD [0, 1, 32, 33, 34, 35, 36, 37, 38, 39, 40, 41, 42, 43, 44, 45, 46, 47, 48, 49, 50, 51] [2, 3, 4, 5, 6, 7, 8, 9, 10, 11, 12, 13, 14, 15, 16, 17, 18, 19, 20, 21, 22, 23, 24, 25, 26, 27, 28, 29, 30, 31] rfl rfl rfl rfl rfl
      exact ⟨⟨(heads ad, fun j => if j = 6 then S 0 else S j), h1, ⟨Or.inl rfl, hu 6⟩, hj.1⟩, h4, fun q hq hn => h5 q hq (fun hin => hn (free_in (dself hD) [0, 1, 32, 33, 34, 35, 36, 37, 38, 39, 40, 41, 42, 43, 44, 45, 46, 47, 48, 49, 50, 51] rfl q hin))⟩
    · exact fun q hq => free_in (dself hD) [0, 1, 32, 33, 34, 35, 36, 37, 38, 39, 40, 41, 42, 43, 44, 45, 46, 47, 48, 49, 50, 51] rfl q hq
  · refine ⟨_, _, _, cX2_record_4 l G cA h ha (ad 4 0) (ad 5 0) (ad 6 0) (ad 3) (ad 0) (S 3).1 (S 0).1 (S 3).2.1 (S 0).2.1 (S 3).2.2.1 (S 0).2.2.1 (S 3).2.2.2.1 (S 0).2.2.2.1 (S 3).2.2.2.2 (S 0).2.2.2.2 [.ref (ad 4 1), .ref (ad 4 2), .ref (ad 4 3), .ref (ad 4 4), .ref (ad 4 5), .int ((S 4).2.2.2.1 27)] [.ref (ad 5 1), .ref (ad 5 2), .ref (ad 5 3), .ref (ad 5 4), .ref (ad 5 5), .int ((S 5).2.2.2.1 27)] [.ref (ad 6 1), .ref (ad 6 2), .ref (ad 6 3), .ref (ad 6 4), .ref (ad 6 5), .int ((S 6).2.2.2.1 27)] (hB 0), ⟨rfl, hP.sub [0, 1, 2, 3, 4, 5, 6, 7, 8, 9, 10, 11, 12, 22, 32, 42, 43, 44, 45, 46, 47, 48, 49, 50, 51] rfl, hE, hD.sub [0, 1, 2, 3, 4, 5, 6, 7, 8, 9, 10, 11, 12, 22, 32, 42, 43, 44, 45, 46, 47, 48, 49, 50, 51] (by decide) rfl⟩, ?_, ?_⟩
    · rintro oc t ⟨⟨u, h1, h2, h3⟩, h4, h5⟩
      have hj := putJ2 h3 h5 (ws' := hsW cA h ha ad ((fun i => if i = 3 then ad 3 0 else ad (4 + i) 0)) (nI (recN 4)) (fun j => if j = 3 then S 0 else S j) ++ blk cA ad 0 (S 0)) hP hD [0, 1, 2, 3, 4, 5, 6, 7, 8, 9, 10, 11, 12, 22, 32, 42, 43, 44, 45, 46, 47, 48, 49, 50, 51] [13, 14, 15, 16, 17, 18, 19, 20, 21, 23, 24, 25, 26, 27, 28, 29, 30, 31, 33, 34, 35, 36, 37, 38, 39, 40, 41] rfl rfl rfl rfl rfl
      exact ⟨⟨((fun i => if i = 3 then ad 3 0 else ad (4 + i) 0), fun j => if j = 3 then S 0 else S j), h1, ⟨Or.inr rfl, hu 3⟩, hj.1⟩, h4, fun q hq hn => h5 q hq (fun hin => hn (free_in (dself hD) [0, 1, 2, 3, 4, 5, 6, 7, 8, 9, 10, 11, 12, 22, 32, 42, 43, 44, 45, 46, 47, 48, 49, 50, 51] rfl q hin))⟩
    · exact fun q hq => free_in (dself hD) [0, 1, 2, 3, 4, 5, 6, 7, 8, 9, 10, 11, 12, 22, 32, 42, 43, 44, 45, 46, 47, 48, 49, 50, 51] rfl q hq
