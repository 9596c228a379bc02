theorem z_lt {a b : Nat} (h : Nat.blt a b = true) : a < b := by
  have := Nat.le_of_ble_eq_true h
  exact this
def zpcL (lo ag : Nat → Int32) (wk hd row : Int32) (n : Nat) : Nat → Int32 := (zpc lo ag wk hd row n).1
def zpcA (lo ag : Nat → Int32) (wk hd row : Int32) (n : Nat) : Nat → Int32 := (zpc lo ag wk hd row n).2.1
def zpcD (lo ag : Nat → Int32) (wk hd row : Int32) (n : Nat) : Int32 := (zpc lo ag wk hd row n).2.2
theorem zpcL_0 (lo ag : Nat → Int32) (wk hd row : Int32) : zpcL lo ag wk hd row 0 = lo := rfl
theorem zpcA_0 (lo ag : Nat → Int32) (wk hd row : Int32) : zpcA lo ag wk hd row 0 = ag := rfl
theorem zpcD_0 (lo ag : Nat → Int32) (wk hd row : Int32) : zpcD lo ag wk hd row 0 = 0 := rfl
theorem zpcL_s (lo ag : Nat → Int32) (wk hd row : Int32) (k : Nat) : zpcL lo ag wk hd row (k + 1) = if zkn (zpcL lo ag wk hd row k) wk hd row k = true then upd (zpcL lo ag wk hd row k) k 1 else if zpcL lo ag wk hd row k k ≤ 0 then zpcL lo ag wk hd row k else zgl (zpcL lo ag wk hd row k) (zpcA lo ag wk hd row k) k := by
  unfold zpcL zpcA
  rw [zpc]
  split
  · rfl
  · split <;> rfl
theorem zpcA_s (lo ag : Nat → Int32) (wk hd row : Int32) (k : Nat) : zpcA lo ag wk hd row (k + 1) = if zkn (zpcL lo ag wk hd row k) wk hd row k = true then upd (zpcA lo ag wk hd row k) k 0 else if zpcL lo ag wk hd row k k ≤ 0 then zpcA lo ag wk hd row k else zga (zpcA lo ag wk hd row k) k := by
  unfold zpcL zpcA
  rw [zpc]
  split
  · rfl
  · split <;> rfl
theorem zpcD_s (lo ag : Nat → Int32) (wk hd row : Int32) (k : Nat) : zpcD lo ag wk hd row (k + 1) = if zkn (zpcL lo ag wk hd row k) wk hd row k = true then zpcD lo ag wk hd row k else if zpcL lo ag wk hd row k k ≤ 0 then zpcD lo ag wk hd row k else zpcD lo ag wk hd row k + zgd (zpcL lo ag wk hd row k) (zpcA lo ag wk hd row k) k := by
  unfold zpcL zpcA zpcD
  rw [zpc]
  split
  · rfl
  · split <;> rfl
