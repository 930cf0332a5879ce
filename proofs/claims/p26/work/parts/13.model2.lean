/-! arrays: two contents that agree make one cell; loops that copy; Settings, Tally, Thing, Log: what their methods do -/
theorem arrV_congr {c : ClassId} {n : Nat} {F F' : Nat → Value} (h : ∀ k, k < n → F k = F' k) : arrV c n F = arrV c n F' := by
  unfold arrV
  congr 1
  apply Array.ext
  · simp
  · intro i h1 h2
    simp at h1
    simp [h i h1]
theorem vp_arrF {c : ClassId} {n : Nat} {F F' : Nat → UInt32} (h : ∀ k, k < n → F k = F' k) : vp_cell c (n, .inr (.inr (.inl F))) = vp_cell c (n, .inr (.inr (.inl F'))) := by
  rw [vp_cell_f, vp_cell_f]
  exact arrV_congr (fun k hk => by rw [h k hk])
theorem vp_arrI {c : ClassId} {n : Nat} {F F' : Nat → Int32} (h : ∀ k, k < n → F k = F' k) : vp_cell c (n, .inl F) = vp_cell c (n, .inl F') := by
  rw [vp_cell_i, vp_cell_i]
  exact arrV_congr (fun k hk => by rw [h k hk])
theorem va_P_setA {G : va_G} {cl : List vw_C} {ws ws' : va_W} {H : Heap} (hP : va_P G cl ws H) (k : Nat) {a : Nat} {c : ClassId} {x x' : vp_A} (hk : ws[k]? = some (a, .inl (c, x))) (e : vp_cell c x = vp_cell c x') (hw : ws.set k (a, .inl (c, x')) = ws') : va_P G cl ws' H := by
  subst hw
  have hl := (List.getElem?_eq_some_iff.mp hk).1
  intro j q hq
  by_cases hj : j = k
  · subst hj
    rw [List.getElem?_set_self hl] at hq
    cases hq
    have h := hP j _ hk
    show H[a]? = some (vp_cell c x')
    rw [← e]
    exact h
  · rw [List.getElem?_set_ne (Ne.symm hj)] at hq
    exact hP j q hq
theorem va_D_setA {A : Nat → Prop} {ws ws' : va_W} (hD : va_D A ws) (k : Nat) {a : Nat} {e e' : va_E} (hk : ws[k]? = some (a, e)) (hw : ws.set k (a, e') = ws') : va_D A ws' := by
  subst hw
  exact hD.set hk
theorem lt_of_nle {i n : Nat} (hi : i ≤ n) (hn : n < 2 ^ 31) (h : ¬ nI n ≤ nI i) : i < n := by
  rcases Nat.lt_or_ge i n with h1 | h1
  · exact h1
  · exact absurd (nI_le h1 (by omega)) h
theorem eq_of_le {i n : Nat} (hi : i ≤ n) (hn : n < 2 ^ 31) (h : nI n ≤ nI i) : i = n := by
  rcases Nat.lt_or_ge i n with h1 | h1
  · exact absurd h (nI_ge h1 hn)
  · omega
theorem cp_step {α : Type} {D S : Nat → α} {i j : Nat} (e : j = i) (h : ∀ k, k < i → D k = S k) : ∀ k, k < i + 1 → (fun q => if q = j then S j else D q) k = S k := by
  subst e
  intro k hk
  by_cases h1 : k = j
  · subst h1; simp
  · simp only [if_neg h1]
    exact h k (by omega)
theorem in_lt {x : Int32} {n : Nat} (hn : n < 2 ^ 31) (h0 : ¬ x < 0) (h1 : x < nI n) : vp_in x n := by
  refine in_of hn h0 (fun h => ?_)
  rcases pk_ix x hn with h2 | h2 | ⟨j, hj, rfl⟩
  · exact h0 h2
  · exact absurd h1 (by rw [Int32.lt_iff_toInt_lt]; rw [Int32.le_iff_toInt_le] at h; omega)
  · exact nI_ge hj hn h
def nanF : UInt32 := 2143289344
def spF (u : FF) (w : Int32) : UInt32 := if w < 0 then nanF else if w < 3 then u w.toNatClampNeg else nanF
def weF (u : FF) (w : Int32) : UInt32 := if w < 0 then nanF else if w < 4 then u (3 + w.toNatClampNeg) else nanF
def nuF (v : GG) (w : Int32) : Int32 := if w < 0 then -1 else if w < 5 then v w.toNatClampNeg else -1
def addG (g : GG) (k : Int32) : GG := upd (upd (upd (upd g 19 (if k = 0 then g 19 + 1 else g 19)) 20 (if k = 1 then g 20 + 1 else g 20)) 21 (if k = 2 then g 21 + 1 else g 21)) 22 (if k = 3 then g 22 + 1 else g 22)
def oneF (x : Int32) : Int32 := if x = 0 then 0 else 1
