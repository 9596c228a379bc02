theorem zdu_v {lo hi x : Int32} (h : zic lo hi x = true) : lo ≤ x ∧ x ≤ hi := by
  simp only [zic, Bool.and_eq_true, Bool.not_eq_true', decide_eq_false_iff_not] at h
  exact ⟨Int32.not_lt.mp h.1, Int32.not_lt.mp h.2⟩
/-- a sign of the text as a byte -/
def zas (x : Int32) : Prop := 0 ≤ x ∧ x ≤ 255 ∧ x.toInt8.toInt32 = x
