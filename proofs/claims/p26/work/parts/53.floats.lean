/-! The floats that come: the place, the speeds, the weights, the scores: no NaN, and in their order -/
theorem vf_of {x : UInt32} (h : Jvm.FP.Core.fIsNaN x = false) : vf_n32 x := by
  have h1 := (Jvm.FP.Core.ne_nan32 x).mp ((Jvm.FP.Core.notNaN_iff32 x).mp h)
  unfold vf_n32
  rw [UInt32.le_iff_toNat_le, Jvm.FP.Core.mask_toNat32]
  exact h1
theorem of_vf {x : UInt32} (h : vf_n32 x) : Jvm.FP.Core.val32 x ≠ .nan := by
  unfold vf_n32 at h
  rw [UInt32.le_iff_toNat_le, Jvm.FP.Core.mask_toNat32] at h
  exact (Jvm.FP.Core.ne_nan32 x).mpr h
/-- a float's value, in units of the least one -/
def zv (x : UInt32) : Int := Jvm.FP.Core.zval Jvm.FP.Core.b32 (Jvm.FP.Core.val32 x)
theorem cmpV {x y : UInt32} (hx : Jvm.FP.Core.val32 x ≠ .nan) (hy : Jvm.FP.Core.val32 y ≠ .nan) (op : CmpOp) : Op.cmpValue (FP.fcmp x y) op = if zv x < zv y then -1 else if zv x = zv y then 0 else 1 := by
  rw [show FP.fcmp x y = some (compare (zv x) (zv y)) from Jvm.FP.Core.fcmp_zval hx hy]
  by_cases h1 : zv x < zv y
  · rw [if_pos h1, (Jvm.FP.Core.compare_lt_iff _ _).mpr h1]; rfl
  · rw [if_neg h1]
    by_cases h2 : zv x = zv y
    · rw [if_pos h2, (Jvm.FP.Core.compare_eq_iff _ _).mpr h2]; rfl
    · rw [if_neg h2, (Jvm.FP.Core.compare_gt_iff _ _).mpr (by omega)]; rfl
theorem cmp_self {x : UInt32} (hx : Jvm.FP.Core.val32 x ≠ .nan) (op : CmpOp) : Op.cmpValue (FP.fcmp x x) op = 0 := by
  rw [cmpV hx hx, if_neg (by omega), if_pos rfl]
theorem cmp_lt0 {x y : UInt32} (hx : Jvm.FP.Core.val32 x ≠ .nan) (hy : Jvm.FP.Core.val32 y ≠ .nan) (op : CmpOp) : Op.cmpValue (FP.fcmp x y) op < 0 ↔ zv x < zv y := by
  rw [cmpV hx hy]
  split
  · rename_i h; exact ⟨fun _ => h, fun _ => by decide⟩
  · rename_i h
    split
    · exact ⟨fun h9 => absurd h9 (by decide), fun h9 => absurd h9 h⟩
    · exact ⟨fun h9 => absurd h9 (by decide), fun h9 => absurd h9 h⟩
theorem cmp_le0 {x y : UInt32} (hx : Jvm.FP.Core.val32 x ≠ .nan) (hy : Jvm.FP.Core.val32 y ≠ .nan) (op : CmpOp) : Op.cmpValue (FP.fcmp x y) op ≤ 0 ↔ zv x ≤ zv y := by
  rw [cmpV hx hy]
  split
  · rename_i h; exact ⟨fun _ => by omega, fun _ => by decide⟩
  · rename_i h
    split
    · rename_i h2; exact ⟨fun _ => by omega, fun _ => by decide⟩
    · rename_i h2; exact ⟨fun h9 => absurd h9 (by decide), fun h9 => by omega⟩
theorem cmp_gt0 {x y : UInt32} (hx : Jvm.FP.Core.val32 x ≠ .nan) (hy : Jvm.FP.Core.val32 y ≠ .nan) (op : CmpOp) : 0 < Op.cmpValue (FP.fcmp x y) op ↔ zv y < zv x := by
  rw [cmpV hx hy]
  split
  · rename_i h; exact ⟨fun h9 => absurd h9 (by decide), fun h9 => by omega⟩
  · rename_i h
    split
    · rename_i h2; exact ⟨fun h9 => absurd h9 (by decide), fun h9 => by omega⟩
    · rename_i h2; exact ⟨fun _ => by omega, fun _ => by decide⟩
theorem cmp_eq0 {x y : UInt32} (hx : Jvm.FP.Core.val32 x ≠ .nan) (hy : Jvm.FP.Core.val32 y ≠ .nan) (op : CmpOp) : Op.cmpValue (FP.fcmp x y) op = 0 ↔ zv x = zv y := by
  rw [cmpV hx hy]
  split
  · rename_i h; exact ⟨fun h9 => absurd h9 (by decide), fun h9 => by omega⟩
  · rename_i h
    split
    · rename_i h2; exact ⟨fun _ => h2, fun _ => rfl⟩
    · rename_i h2; exact ⟨fun h9 => absurd h9 (by decide), fun h9 => absurd h9 h2⟩
/-- the places: from 0 to 100 -/
def okP (x : UInt32) : Prop := Jvm.FP.Core.FFin x ∧ 0 ≤ zv x ∧ zv x ≤ zv 1120403456
/-- the speeds and the weights: above 0 -/
def okS (x : UInt32) : Prop := Jvm.FP.Core.FFin x ∧ 0 < zv x
theorem okP.nn {x : UInt32} (h : okP x) : Jvm.FP.Core.val32 x ≠ .nan := h.1.ne_nan
theorem okS.nn {x : UInt32} (h : okS x) : Jvm.FP.Core.val32 x ≠ .nan := h.1.ne_nan
theorem zv_0 : zv 0 = 0 := Jvm.FP.Core.zval32_zero
theorem fin_c {x : UInt32} (h : x.toNat % 2 ^ 31 < 2139095040) : Jvm.FP.Core.FFin x := (Jvm.FP.Core.fin_bits32 x).mpr h
theorem okP_0 : okP 0 := ⟨fin_c (by decide), by rw [zv_0]; exact Int.le_refl 0, by rw [zv_0]; decide +kernel⟩
theorem okP_100 : okP 1120403456 := ⟨fin_c (by decide), by decide +kernel, Int.le_refl _⟩
theorem okS_half : okS 1056964608 := ⟨fin_c (by decide), by decide +kernel⟩
theorem okS_1 : okS 1065353216 := ⟨fin_c (by decide), by decide +kernel⟩
theorem okS_25 : okS 1075838976 := ⟨fin_c (by decide), by decide +kernel⟩
theorem okS_10 : okS 1092616192 := ⟨fin_c (by decide), by decide +kernel⟩
theorem okS_33 : okS 1079194419 := ⟨fin_c (by decide), by decide +kernel⟩
theorem okS_50 : okS 1112014848 := ⟨fin_c (by decide), by decide +kernel⟩
theorem okS_8 : okS 1090519040 := ⟨fin_c (by decide), by decide +kernel⟩
theorem okS_2 : okS 1073741824 := ⟨fin_c (by decide), by decide +kernel⟩
theorem add_ok {p s : UInt32} (hp : okP p) (hs : okS s) : vf_n32 (FP.fadd p s) ∧ 0 ≤ zv (FP.fadd p s) := by
  refine ⟨vf_of (Jvm.FP.Core.fadd_out ((Jvm.FP.Core.notNaN_iff32 p).mpr hp.nn) hs.1), ?_⟩
  have h := Jvm.FP.Core.sum_ge Jvm.FP.Core.good_b32 hp.1 hs.1 (Jvm.FP.Core.val32_fits p) (Jvm.FP.Core.val32_fits s) (Jvm.FP.Core.val32_fits 0) (by decide +kernel) (by have h1 := hp.2.1; have h2 := hs.2; have h3 := zv_0; unfold zv at h1 h2 h3; omega)
  rw [← Jvm.FP.Core.val32_fadd] at h
  have h3 := zv_0
  unfold zv at h3 ⊢
  rw [h3] at h
  exact h
theorem sub_le {p s : UInt32} (hp : okP p) (hs : okS s) : vf_n32 (FP.fsub p s) ∧ zv (FP.fsub p s) ≤ zv 1120403456 := by
  refine ⟨vf_of (Jvm.FP.Core.fsub_out ((Jvm.FP.Core.notNaN_iff32 p).mpr hp.nn) hs.1), ?_⟩
  obtain ⟨sg, c, q, e⟩ := hs.1
  have h := Jvm.FP.Core.sum_le Jvm.FP.Core.good_b32 hp.1 (y := Jvm.FP.Core.negate (Jvm.FP.Core.val32 s)) ⟨!sg, c, q, by rw [e]; rfl⟩ (Jvm.FP.Core.val32_fits p) (Jvm.FP.Core.negate_fits (Jvm.FP.Core.val32_fits s)) (Jvm.FP.Core.val32_fits 1120403456) okP_100.nn (by rw [Jvm.FP.Core.zval_negate]; have h1 := hp.2.2; have h2 := hs.2; unfold zv at h1 h2; omega)
  rw [← Jvm.FP.Core.val32_fsub] at h
  exact h
