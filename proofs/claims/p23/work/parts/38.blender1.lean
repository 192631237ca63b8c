/-! the blender: see the rows of the class' blend -/
theorem i0_n1 : ¬ (0 : Int32) = 1 := by decide
