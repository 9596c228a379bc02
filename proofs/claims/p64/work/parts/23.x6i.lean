theorem nI_npos {d : Nat} (h : ¬ 0 < d) : nI d ≤ 0 := by
  obtain rfl : d = 0 := by omega
  decide
theorem nI_npos2 {d : Nat} (h : 0 < d) (h2 : d < 2 ^ 31) : ¬ nI d ≤ 0 := fun z => absurd ((nI_leI (a := d) (b := 0) h2 (by omega)).mp z) (by omega)
/-- a number in tens -/
def zln (n : Nat) : Nat := if n < 10 then 1 else if n < 100 then 2 else 3
theorem zln_le (n : Nat) : zln n ≤ 3 := by
  simp only [zln]
  split
  · omega
  · split <;> omega
