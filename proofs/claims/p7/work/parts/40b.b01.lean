def b01 (b : Bool) : Int32 := if b = true then 1 else 0
theorem b01_no {b : Bool} (h : b01 b = 0) : b = false := by
  cases b
  · rfl
  · exact absurd h (by decide)
theorem b01_yes {b : Bool} (h : ¬ b01 b = 0) : b = true := by
  cases b
  · exact absurd rfl h
  · rfl
