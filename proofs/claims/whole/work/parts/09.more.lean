theorem sw_ne {x : Int32} {k : Int32} (h : ¬ x = k) {n : Int} (hn : k.toInt = n) : x.toInt ≠ n := fun q => h (Int32.toInt_inj.mp (by rw [q, hn]))
theorem sw_out0_5 {x : Int32} (h0 : ¬ x = 0) (h1 : ¬ x = 1) (h2 : ¬ x = 2) (h3 : ¬ x = 3) (h4 : ¬ x = 4) (h5 : ¬ x = 5) : x.toInt < 0 ∨ 5 < x.toInt := by
  have a0 := sw_ne h0 (n := 0) (by decide)
  have a1 := sw_ne h1 (n := 1) (by decide)
  have a2 := sw_ne h2 (n := 2) (by decide)
  have a3 := sw_ne h3 (n := 3) (by decide)
  have a4 := sw_ne h4 (n := 4) (by decide)
  have a5 := sw_ne h5 (n := 5) (by decide)
  omega
