/-! THE STATE: u the settings' floats (0..2 speeds, 3..6 weights), v their numbers (0..4), f 7 the place, L the log's cells, g the other ints (thing: 5 there, 6 begun, 7 length, 8 low, 9 middle, 10 high, 11 clear, 12 cause; door: 13 state, 14 waited, 15 stood, 16 reopened, 17 service; 18 rows; tally: 19 leaves, 20 hands, 21 dogs, 22 persons, 23 shuts, 24 reopenings, 25 services, 26 broken; 27 tick) -/
abbrev FF : Type := Nat → UInt32
abbrev GG : Type := Nat → Int32
abbrev DrV (f : FF) (g : GG) : va_E := .inr (1, [.float (f 7), .int (g 13), .int (g 14), .int (g 15), .int (g 16), .int (g 17)])
abbrev ThV (g : GG) : va_E := .inr (7, [.int (g 5), .int (g 6), .int (g 7), .int (g 8), .int (g 9), .int (g 10), .int (g 11), .int (g 12)])
abbrev TaV (g : GG) : va_E := .inr (6, [.int (g 19), .int (g 20), .int (g 21), .int (g 22), .int (g 23), .int (g 24), .int (g 25), .int (g 26)])
abbrev LgV (r : Nat) (g : GG) : va_E := .inr (3, [.ref r, .int (g 18)])
abbrev SeV (r1 r2 r3 : Nat) : va_E := .inr (4, [.ref r1, .ref r2, .ref r3])
abbrev StV (r1 r2 r3 r4 r5 : Nat) (g : GG) : va_E := .inr (5, [.ref r1, .ref r2, .ref r3, .ref r4, .ref r5, .int (g 27)])
abbrev LcV (cA : Nat → ClassId) (L : GG) : va_E := .inl (cA 1, 50, .inl (fun k => L k))
abbrev NuV (cA : Nat → ClassId) (v : GG) : va_E := .inl (cA 1, 5, .inl (fun k => v k))
abbrev SpV (cA : Nat → ClassId) (u : FF) : va_E := .inl (cA 0, 3, .inr (.inr (.inl (fun k => u k))))
abbrev WeV (cA : Nat → ClassId) (u : FF) : va_E := .inl (cA 0, 4, .inr (.inr (.inl (fun k => u (3 + k)))))
/-- a field of a boolean -/
def isB (x : Int32) : Prop := x = 0 ∨ x = 1
theorem nb_ {x : Int32} (h : isB x) : narrow .boolean (.int x) = .int x := by rcases h with rfl | rfl <;> rfl
theorem fb_ {x : Int32} (h : isB x) : fits .boolean (.int x) = true := by rcases h with rfl | rfl <;> rfl
theorem nz_ite {p : Prop} [Decidable p] {x y : Int32} (hx : narrow .boolean (.int x) = .int x) (hy : narrow .boolean (.int y) = .int y) : narrow .boolean (.int (if p then x else y)) = .int (if p then x else y) := by split <;> assumption
def Bo (g : GG) : Prop := isB (g 5) ∧ isB (g 12) ∧ isB (g 17)
/-- an index in range -/
theorem in_of {x : Int32} {n : Nat} (hn : n < 2 ^ 31) (h0 : ¬ x < 0) (h1 : ¬ nI n ≤ x) : vp_in x n := by
  rcases pk_ix x hn with h | h | ⟨j, hj, rfl⟩
  · exact absurd h h0
  · exact absurd h h1
  · exact vp_in_nI hj hn
theorem tab_0_3 {x : Int32} (h0 : ¬ x = 0) (h1 : ¬ x = 1) (h2 : ¬ x = 2) (h3 : ¬ x = 3) : x.toInt < 0 ∨ 3 < x.toInt := by
  have e : ∀ k : Int32, ¬ x = k → ¬ x.toInt = k.toInt := fun k h q => h (Int32.toInt_inj.mp q)
  have a0 := e 0 h0; have a1 := e 1 h1; have a2 := e 2 h2; have a3 := e 3 h3
  simp only [show (0 : Int32).toInt = 0 from rfl, show (1 : Int32).toInt = 1 from rfl, show (2 : Int32).toInt = 2 from rfl, show (3 : Int32).toInt = 3 from rfl] at a0 a1 a2 a3
  omega
/-! what the door's methods do -/
def ltL (x y : UInt32) : Prop := Op.cmpValue (FP.fcmp x y) CmpOp.l < 0
def obeyG (g : GG) : GG := upd (upd g 14 (if g 13 = 2 then 0 else g 14)) 13 (if g 13 = 2 then g 13 else 1)
def openF (f : FF) (s : UInt32) : FF := vf_upd f 7 (if Op.cmpValue (FP.fcmp (FP.fadd (f 7) s) 1120403456) CmpOp.l < 0 then FP.fadd (f 7) s else 1120403456)
def openG (f : FF) (g : GG) (s : UInt32) : GG := upd (upd g 13 (if Op.cmpValue (FP.fcmp (FP.fadd (f 7) s) 1120403456) CmpOp.l < 0 then g 13 else 2)) 14 (if Op.cmpValue (FP.fcmp (FP.fadd (f 7) s) 1120403456) CmpOp.l < 0 then g 14 else 0)
def waitG (g : GG) (b d : Int32) : GG := upd (upd (upd g 14 (if b = 0 then g 14 + 1 else 0)) 13 (if b = 0 then (if g 14 + 1 < d then g 13 else if g 17 = 0 then 3 else g 13) else g 13)) 15 (if b = 0 then (if g 14 + 1 < d then g 15 else if g 17 = 0 then 0 else g 15) else g 15)
def standG (g : GG) : GG := upd g 15 (g 15 + 1)
def standR (g : GG) (p : Int32) : Int32 := if g 15 + 1 ≤ p then 0 else 1
def closeF (f : FF) (s : UInt32) : FF := vf_upd f 7 (if Op.cmpValue (FP.fcmp (FP.fsub (f 7) s) FP.fconst0) CmpOp.l ≤ 0 then FP.fconst0 else FP.fsub (f 7) s)
def closeG (f : FF) (g : GG) (s : UInt32) : GG := upd (upd (upd g 15 0) 13 (if Op.cmpValue (FP.fcmp (FP.fsub (f 7) s) FP.fconst0) CmpOp.l ≤ 0 then 0 else g 13)) 16 (if Op.cmpValue (FP.fcmp (FP.fsub (f 7) s) FP.fconst0) CmpOp.l ≤ 0 then 0 else g 16)
def closeR (f : FF) (s : UInt32) : Int32 := if Op.cmpValue (FP.fcmp (FP.fsub (f 7) s) FP.fconst0) CmpOp.l ≤ 0 then 1 else 0
