/-! Thing: what its methods do -/
def beginG (g : GG) (t : Int32) : GG := upd (upd (upd (upd (upd (upd (upd g 5 1) 6 t) 7 0) 8 0) 9 0) 10 0) 12 0
def breakG (g : GG) (b t : Int32) : GG := upd (upd (upd (upd (upd (upd (upd (upd g 5 (if g 5 = 0 then 1 else g 5)) 6 (if g 5 = 0 then t else g 6)) 7 ((if g 5 = 0 then 0 else g 7) + 1)) 8 ((if g 5 = 0 then 0 else g 8) + (b &&& 1))) 9 ((if g 5 = 0 then 0 else g 9) + ((b >>> (1 &&& 31)) &&& 1))) 10 ((if g 5 = 0 then 0 else g 10) + ((b >>> (2 &&& 31)) &&& 1))) 11 0) 12 (if g 5 = 0 then 0 else g 12)
def clearG (g : GG) : GG := upd g 11 (if g 5 = 0 then g 11 else g 11 + 1)
def clearR (g : GG) (p : Int32) : Int32 := if g 5 = 0 then 0 else if g 11 + 1 < p then 0 else 1
def smF (g : GG) : Int32 := (g 8 + g 9) + g 10
def loF (g : GG) : UInt32 := FP.fdiv (FP.i2f (g 8)) (FP.i2f (smF g))
def miF (g : GG) : UInt32 := FP.fdiv (FP.i2f (g 9)) (FP.i2f (smF g))
def hiF (g : GG) : UInt32 := FP.fdiv (FP.i2f (g 10)) (FP.i2f (smF g))
def lsF (g : GG) : UInt32 := if 0 ≤ Op.cmpValue (FP.fcmp (loF g) (miF g)) CmpOp.g then miF g else loF g
def l2F (g : GG) : UInt32 := if 0 ≤ Op.cmpValue (FP.fcmp (hiF g) (lsF g)) CmpOp.g then lsF g else hiF g
def likeF (g : GG) (k : Int32) : UInt32 := if g 7 = 0 then FP.fconst0 else if smF g = 0 then FP.fconst0 else if k = 0 then FP.fdiv FP.fconst1 (FP.i2f (g 7)) else if k = 1 then FP.fmul (FP.fsub FP.fconst1 (loF g)) 1061158912 else if k = 2 then FP.fmul (loF g) (FP.fsub FP.fconst1 (hiF g)) else if k = 3 then FP.fmul 1077936128 (l2F g) else FP.fconst0
/-- no NaN comes in a likeness -/
def LkOk (g : GG) : Prop := ¬ g 7 = 0 → ¬ smF g = 0 → vf_n32 (loF g) ∧ vf_n32 (miF g) ∧ vf_n32 (hiF g) ∧ vf_n32 (FP.fdiv FP.fconst1 (FP.i2f (g 7))) ∧ vf_n32 (FP.fsub FP.fconst1 (loF g)) ∧ vf_n32 (FP.fmul (FP.fsub FP.fconst1 (loF g)) 1061158912) ∧ vf_n32 (FP.fsub FP.fconst1 (hiF g)) ∧ vf_n32 (FP.fmul (loF g) (FP.fsub FP.fconst1 (hiF g))) ∧ vf_n32 (FP.fmul 1077936128 (l2F g))
def prodF (u : FF) (g : GG) (k : Int32) : UInt32 := FP.fmul (likeF g k) (weF u k)
/-- no NaN comes in a product -/
def PrOk (u : FF) (g : GG) : Prop := LkOk g ∧ vf_n32 (prodF u g 0) ∧ vf_n32 (prodF u g 1) ∧ vf_n32 (prodF u g 2) ∧ vf_n32 (prodF u g 3)
/-- the best of the kinds so far, and its product, when the kind k comes -/
def bestS (u : FF) (g : GG) (k : Int32) (x : Int32 × UInt32) : Int32 × UInt32 := if Op.cmpValue (FP.fcmp (prodF u g k) x.2) CmpOp.l ≤ 0 then x else (k, prodF u g k)
def bestK (u : FF) (g : GG) : Int32 := (bestS u g 3 (bestS u g 2 (bestS u g 1 (0, prodF u g 0)))).1
def bbF (g : GG) : Int32 := ((if g 8 ≤ 0 then 0 else 1) + 2 * (if g 9 ≤ 0 then 0 else 1)) + 4 * (if g 10 ≤ 0 then 0 else 1)
def enF (g L : GG) (b w : Int32) : Int32 := if b < 0 then -5 else if g 18 ≤ b then -5 else if 10 ≤ b then -5 else if w < 0 then -5 else if 5 ≤ w then -5 else L (b * 5 + w).toNatClampNeg
def enterG (g : GG) : GG := upd g 18 (if 10 ≤ g 18 then g 18 else g 18 + 1)
def enterL (L g : GG) (kd t : Int32) : GG := fun j => if j = 0 then kd else if j = 1 then g 6 else if j = 2 then g 7 else if j = 3 then bbF g else if j = 4 then t else L (j - 5)
