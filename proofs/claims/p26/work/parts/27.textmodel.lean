/-! BeamText: what its methods do -/
abbrev TxV (t1 t2 t3 : Nat) (n p : Int32) : va_E := .inr (0, [.ref t1, .int n, .ref t2, .ref t3, .int p])
def ifF (a b c : Int32) : Int32 := if c < a then 0 else if b < c then 0 else 1
def sbP (c : Int32) : Int32 := if c = 44 then 0 else 5
def sb0 (c : Int32) : Int32 := if ifF 48 55 c = 0 then 5 else 1
def sb1 (c : Int32) : Int32 := if c = 42 then 2 else sbP c
def sb2 (c : Int32) : Int32 := if ifF 49 57 c = 0 then 5 else 3
def sb3 (c : Int32) : Int32 := if ifF 48 57 c = 0 then sbP c else 4
def tiF (d : GG) (w : Int32) : Int32 := if w < 0 then 0 else if w < 60 then d w.toNatClampNeg else 0
theorem sb0_ok : ∀ d, d < 8 → sb0 (nI (48 + d)) = 1 := by decide +kernel
theorem sb2_ok : ∀ d, d < 9 → sb2 (nI (49 + d)) = 3 := by decide +kernel
