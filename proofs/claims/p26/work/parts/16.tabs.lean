/-! switches: none of the numbers lo .. hi is out of the range (by program) -/
theorem tab_0_4 {x : Int32} (h0 : ¬ x = 0) (h1 : ¬ x = 1) (h2 : ¬ x = 2) (h3 : ¬ x = 3) (h4 : ¬ x = 4) : x.toInt < 0 ∨ 4 < x.toInt := by
  have e : ∀ k : Int32, ¬ x = k → ¬ x.toInt = k.toInt := fun k h q => h (Int32.toInt_inj.mp q)
  have a0 : ¬ x.toInt = 0 := e 0 h0
  have a1 : ¬ x.toInt = 1 := e 1 h1
  have a2 : ¬ x.toInt = 2 := e 2 h2
  have a3 : ¬ x.toInt = 3 := e 3 h3
  have a4 : ¬ x.toInt = 4 := e 4 h4
  omega
theorem tab_0_5 {x : Int32} (h0 : ¬ x = 0) (h1 : ¬ x = 1) (h2 : ¬ x = 2) (h3 : ¬ x = 3) (h4 : ¬ x = 4) (h5 : ¬ x = 5) : x.toInt < 0 ∨ 5 < x.toInt := by
  have e : ∀ k : Int32, ¬ x = k → ¬ x.toInt = k.toInt := fun k h q => h (Int32.toInt_inj.mp q)
  have a0 : ¬ x.toInt = 0 := e 0 h0
  have a1 : ¬ x.toInt = 1 := e 1 h1
  have a2 : ¬ x.toInt = 2 := e 2 h2
  have a3 : ¬ x.toInt = 3 := e 3 h3
  have a4 : ¬ x.toInt = 4 := e 4 h4
  have a5 : ¬ x.toInt = 5 := e 5 h5
  omega
theorem tab_0_6 {x : Int32} (h0 : ¬ x = 0) (h1 : ¬ x = 1) (h2 : ¬ x = 2) (h3 : ¬ x = 3) (h4 : ¬ x = 4) (h5 : ¬ x = 5) (h6 : ¬ x = 6) : x.toInt < 0 ∨ 6 < x.toInt := by
  have e : ∀ k : Int32, ¬ x = k → ¬ x.toInt = k.toInt := fun k h q => h (Int32.toInt_inj.mp q)
  have a0 : ¬ x.toInt = 0 := e 0 h0
  have a1 : ¬ x.toInt = 1 := e 1 h1
  have a2 : ¬ x.toInt = 2 := e 2 h2
  have a3 : ¬ x.toInt = 3 := e 3 h3
  have a4 : ¬ x.toInt = 4 := e 4 h4
  have a5 : ¬ x.toInt = 5 := e 5 h5
  have a6 : ¬ x.toInt = 6 := e 6 h6
  omega
theorem tab_0_8 {x : Int32} (h0 : ¬ x = 0) (h1 : ¬ x = 1) (h2 : ¬ x = 2) (h3 : ¬ x = 3) (h4 : ¬ x = 4) (h5 : ¬ x = 5) (h6 : ¬ x = 6) (h7 : ¬ x = 7) (h8 : ¬ x = 8) : x.toInt < 0 ∨ 8 < x.toInt := by
  have e : ∀ k : Int32, ¬ x = k → ¬ x.toInt = k.toInt := fun k h q => h (Int32.toInt_inj.mp q)
  have a0 : ¬ x.toInt = 0 := e 0 h0
  have a1 : ¬ x.toInt = 1 := e 1 h1
  have a2 : ¬ x.toInt = 2 := e 2 h2
  have a3 : ¬ x.toInt = 3 := e 3 h3
  have a4 : ¬ x.toInt = 4 := e 4 h4
  have a5 : ¬ x.toInt = 5 := e 5 h5
  have a6 : ¬ x.toInt = 6 := e 6 h6
  have a7 : ¬ x.toInt = 7 := e 7 h7
  have a8 : ¬ x.toInt = 8 := e 8 h8
  omega
theorem tab_0_10 {x : Int32} (h0 : ¬ x = 0) (h1 : ¬ x = 1) (h2 : ¬ x = 2) (h3 : ¬ x = 3) (h4 : ¬ x = 4) (h5 : ¬ x = 5) (h6 : ¬ x = 6) (h7 : ¬ x = 7) (h8 : ¬ x = 8) (h9 : ¬ x = 9) (h10 : ¬ x = 10) : x.toInt < 0 ∨ 10 < x.toInt := by
  have e : ∀ k : Int32, ¬ x = k → ¬ x.toInt = k.toInt := fun k h q => h (Int32.toInt_inj.mp q)
  have a0 : ¬ x.toInt = 0 := e 0 h0
  have a1 : ¬ x.toInt = 1 := e 1 h1
  have a2 : ¬ x.toInt = 2 := e 2 h2
  have a3 : ¬ x.toInt = 3 := e 3 h3
  have a4 : ¬ x.toInt = 4 := e 4 h4
  have a5 : ¬ x.toInt = 5 := e 5 h5
  have a6 : ¬ x.toInt = 6 := e 6 h6
  have a7 : ¬ x.toInt = 7 := e 7 h7
  have a8 : ¬ x.toInt = 8 := e 8 h8
  have a9 : ¬ x.toInt = 9 := e 9 h9
  have a10 : ¬ x.toInt = 10 := e 10 h10
  omega
theorem tab_1_3 {x : Int32} (h1 : ¬ x = 1) (h2 : ¬ x = 2) (h3 : ¬ x = 3) : x.toInt < 1 ∨ 3 < x.toInt := by
  have e : ∀ k : Int32, ¬ x = k → ¬ x.toInt = k.toInt := fun k h q => h (Int32.toInt_inj.mp q)
  have a1 : ¬ x.toInt = 1 := e 1 h1
  have a2 : ¬ x.toInt = 2 := e 2 h2
  have a3 : ¬ x.toInt = 3 := e 3 h3
  omega
