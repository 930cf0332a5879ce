/-! The fields of booleans stay booleans through a tick -/
theorem Bo_judge {u : FF} {g : GG} (h : Bo g) : Bo (judgeG u g) := ⟨Or.inl rfl, h.2.1, h.2.2⟩
theorem Bo_break {g : GG} {b t : Int32} (h : Bo g) : Bo (breakG g b t) := by
  refine ⟨?_, ?_, h.2.2⟩
  · show isB (if g 5 = 0 then 1 else g 5)
    split
    · exact Or.inr rfl
    · exact h.1
  · show isB (if g 5 = 0 then 0 else g 12)
    split
    · exact Or.inl rfl
    · exact h.2.1
theorem Bo_oa {v g : GG} (h : Bo g) : Bo (oaG v g) := by
  refine ⟨h.1, Or.inr rfl, ?_⟩
  show isB (if g 16 + 1 ≤ v 2 + v 3 then g 17 else 1)
  split
  · exact h.2.2
  · exact Or.inr rfl
theorem Bo_cos {u : FF} {v : GG} {f : FF} {g : GG} {b : Int32} (h : Bo g) : Bo (cosG u v f g b) := by
  unfold cosG
  split
  · exact h
  · split
    · exact h
    · exact Bo_oa (g := standG g) h
theorem Bo_mv {u : FF} {v : GG} {f : FF} {g : GG} {b : Int32} (h : Bo g) : Bo (mvG u v f g b) := by
  unfold mvG
  split
  · exact h
  · split
    · exact h
    · split
      · exact Bo_cos h
      · exact h
theorem Bo_pre {u : FF} {v g : GG} {b : Int32} (h : Bo g) : Bo (preG u v g b) := by
  unfold preG
  split
  · split
    · exact h
    · exact Bo_judge (g := clearG g) h
  · exact Bo_break (g := upd g 26 (g 26 + 1)) h
theorem Bo_go {u : FF} {v : GG} {f : FF} {g : GG} {b : Int32} (h : Bo g) : Bo (goG u v f g b) := Bo_mv (Bo_pre h)
theorem Bo_it {u : FF} {v : GG} {b : Int32} {x : FF × GG × GG} (h : Bo x.2.1) : ∀ n, Bo (itS u v b x n).2.1
  | 0 => h
  | n + 1 => Bo_go (Bo_it h n)
