/-! State: what its methods do -/
def scF (v g : GG) : Int32 := if g 16 ≤ v 2 then 1 else 2
def judgeG (u : FF) (g : GG) : GG := upd (upd (addG (enterG g) (bestK u g)) 16 (if bestK u g = 0 then (if g 12 = 0 then g 16 else if g 16 ≤ 0 then g 16 else g 16 - 1) else g 16)) 5 0
def judgeL (u : FF) (g L : GG) : GG := enterL L g (bestK u g) (g 27)
def oaG (v g : GG) : GG := upd (upd (upd (upd (upd (upd g 13 1) 16 (g 16 + 1)) 24 (g 24 + 1)) 12 1) 17 (if g 16 + 1 ≤ v 2 + v 3 then g 17 else 1)) 25 (if g 16 + 1 ≤ v 2 + v 3 then g 25 else g 25 + 1)
def cosF (u : FF) (v : GG) (f : FF) (g : GG) (b : Int32) : FF := if b = 0 then closeF f (spF u (scF v g)) else f
def cosG (u : FF) (v : GG) (f : FF) (g : GG) (b : Int32) : GG := if b = 0 then upd (closeG f g (spF u (scF v g))) 23 (if closeR f (spF u (scF v g)) = 0 then g 23 else g 23 + 1) else if standR g (v 1) = 0 then standG g else oaG v (standG g)
def mvF (u : FF) (v : GG) (f : FF) (g : GG) (b : Int32) : FF := if g 13 = 1 then openF f (u 0) else if g 13 = 2 then f else if g 13 = 3 then cosF u v f g b else f
def mvG (u : FF) (v : GG) (f : FF) (g : GG) (b : Int32) : GG := if g 13 = 1 then openG f g (u 0) else if g 13 = 2 then waitG g b (v 0) else if g 13 = 3 then cosG u v f g b else g
def preG (u : FF) (v g : GG) (b : Int32) : GG := if b = 0 then (if clearR g (v 4) = 0 then clearG g else judgeG u (clearG g)) else breakG (upd g 26 (g 26 + 1)) b (g 27)
def goF (u : FF) (v : GG) (f : FF) (g : GG) (b : Int32) : FF := mvF u v f (preG u v g b) (oneF b)
def goG (u : FF) (v : GG) (f : FF) (g : GG) (b : Int32) : GG := upd (mvG u v f (preG u v g b) (oneF b)) 27 (mvG u v f (preG u v g b) (oneF b) 27 + 1)
def goL (u : FF) (v g L : GG) (b : Int32) : GG := if b = 0 then (if clearR g (v 4) = 0 then L else judgeL u (clearG g) L) else L
/-- no NaN comes in a tick -/
def GoOk (u : FF) (f : FF) (g : GG) : Prop := PrOk u (clearG g) ∧ vf_n32 (FP.fadd (f 7) (u 0)) ∧ vf_n32 (FP.fsub (f 7) (u 1)) ∧ vf_n32 (FP.fsub (f 7) (u 2))
/-- n ticks -/
def itS (u : FF) (v : GG) (b : Int32) (x : FF × GG × GG) : Nat → FF × GG × GG
  | 0 => x
  | n + 1 => (goF u v (itS u v b x n).1 (itS u v b x n).2.1 b, goG u v (itS u v b x n).1 (itS u v b x n).2.1 b, goL u v (itS u v b x n).2.1 (itS u v b x n).2.2 b)
abbrev stC (cA : Nat → ClassId) (a : Nat → Nat) (u : FF) (v : GG) (f : FF) (g L : GG) : va_W := [(a 0, StV (a 1) (a 2) (a 3) (a 4) (a 5) g), (a 1, SeV (a 6) (a 7) (a 8)), (a 2, ThV g), (a 3, DrV f g), (a 4, LgV (a 9) g), (a 5, TaV g), (a 6, SpV cA u), (a 7, WeV cA u), (a 8, NuV cA v), (a 9, LcV cA L)]
theorem sub_ok {u : FF} {v : GG} {f : FF} {g : GG} (h1 : vf_n32 (FP.fsub (f 7) (u 1))) (h2 : vf_n32 (FP.fsub (f 7) (u 2))) : vf_n32 (FP.fsub (f 7) (spF u (scF v g))) := by
  unfold scF
  split
  · exact h1
  · exact h2
