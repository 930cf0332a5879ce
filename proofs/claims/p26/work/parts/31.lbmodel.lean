/-! LiftBeams: what its methods answer -/
def spdF (u : FF) (v g : GG) (w : Int32) : UInt32 := spF u (if w = 3 then scF v g else w)
def scoF (u : FF) (g : GG) (k : Int32) : UInt32 := if k < 0 then nanF else if 4 ≤ k then nanF else if g 5 = 0 then nanF else FP.fmul (likeF g k) (weF u k)
def doF (f : FF) (g : GG) (w : Int32) : Int32 := if w = 0 then g 13 else if w = 1 then g 16 else if w = 2 then oneF (g 17) else if w = 3 then (if g 13 = 2 then g 14 else 0) else if w = 4 then (if g 13 = 3 then g 15 else 0) else if w = 5 then FP.f2i (f 7) else -2
def thF (u : FF) (g : GG) (w : Int32) : Int32 := if w < 0 then -2 else if w ≤ 7 then (if g 5 = 0 then -5 else if w = 0 then g 7 else if w = 1 then g 8 else if w = 2 then g 9 else if w = 3 then g 10 else if w = 4 then g 6 else if w = 5 then g 11 else if w = 6 then oneF (g 12) else bestK u g) else -2
def juF (g L : GG) (b w : Int32) : Int32 := if b < 0 then -2 else if w < 0 then -2 else if w < 5 then enF g L b w else -2
def cnF (g : GG) (n K w : Int32) : Int32 := if w = 0 then g 27 else if w = 1 then g 19 else if w = 2 then g 20 else if w = 3 then g 21 else if w = 4 then g 22 else if w = 5 then g 23 else if w = 6 then g 24 else if w = 7 then g 25 else if w = 8 then g 26 else if w = 9 then n else if w = 10 then K else -2
