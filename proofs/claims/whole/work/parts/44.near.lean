theorem near_Mx (x m : Int32) (hm : 1 ≤ m.toInt) : wp_Model_nearest pc_G x m pc_u (fun r _ => r = nI (pc_nr x m)) := by
  obtain ⟨h1, h2, h3⟩ := near_any (x := x) hm
  refine ⟨fun c1 => ⟨fun c2 => ?_, fun c2 => ?_⟩, fun c1 => ?_⟩
  · exact h3 (Int32.not_lt.mpr c1) (Int32.not_lt.mpr c2)
  · exact h2 (Int32.not_lt.mpr c1) (Int32.not_le.mp c2)
  · exact h1 (Int32.not_le.mp c1)
theorem near_Px (x m : Int32) (hm : 1 ≤ m.toInt) : wp_PI_nearest pc_G x m pc_u (fun r _ => r = nI (pc_nr x m)) := by
  obtain ⟨h1, h2, h3⟩ := near_any (x := x) hm
  have e1 : (1 : Int32).toInt = 1 := by decide
  intro t1 et1 t2 et2
  by_cases c1 : m < x
  · rw [if_pos c1] at et1
    subst et1
    have c2 : ¬ x < 1 := by
      rw [Int32.lt_iff_toInt_lt] at c1 ⊢
      omega
    rw [et2, ← h2 c2 c1]
    by_cases c3 : 1 < t1
    · rw [if_pos c3]
    · rw [if_neg c3]
      rw [Int32.lt_iff_toInt_lt] at c3
      exact Int32.toInt_inj.mp (by omega)
  · rw [if_neg c1] at et1
    subst et1
    by_cases c2 : t1 < 1
    · rw [et2, ← h1 c2, if_neg]
      rw [Int32.lt_iff_toInt_lt] at c2 ⊢
      omega
    · rw [et2, ← h3 c2 c1]
      by_cases c3 : 1 < t1
      · rw [if_pos c3]
      · rw [if_neg c3]
        rw [Int32.lt_iff_toInt_lt] at c3 c2
        exact Int32.toInt_inj.mp (by omega)
theorem near_M20 (x : Int32) : wp_Model_nearest pc_G x 20 pc_u (fun r _ => r = nI (pc_nr x 20)) := near_Mx x 20 (by decide)
theorem near_M8 (x : Int32) : wp_Model_nearest pc_G x 8 pc_u (fun r _ => r = nI (pc_nr x 8)) := near_Mx x 8 (by decide)
theorem near_P20 (x : Int32) : wp_PI_nearest pc_G x 20 pc_u (fun r _ => r = nI (pc_nr x 20)) := near_Px x 20 (by decide)
theorem near_P8 (x : Int32) : wp_PI_nearest pc_G x 8 pc_u (fun r _ => r = nI (pc_nr x 8)) := near_Px x 8 (by decide)
