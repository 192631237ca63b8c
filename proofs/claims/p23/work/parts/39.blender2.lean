theorem i_in10 {n : Int32} (a : ¬ n < 0) (b : ¬ 10 ≤ n) : vp_in n 10 := by
  rw [i_lt] at a
  rw [i_le] at b
  have h0 : (0 : Int32).toInt = 0 := by decide
  have h1 : (10 : Int32).toInt = 10 := by decide
  rw [h0] at a; rw [h1] at b
  exact vp_in_iff.mpr ⟨by omega, by omega⟩
