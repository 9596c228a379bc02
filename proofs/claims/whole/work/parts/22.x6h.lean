/-- an order as it is written: where it ends, whether it is wrong, its numbers -/
def zcHk (xq : Int32) (tx : Nat → Int32) (en h : Nat) : Nat := if xq = 99 then zbH tx en ((h + 1) + zdN tx en 2 (h + 1)) (decide (zdN tx en 2 (h + 1) = 0)) 45 else if xq = 121 then zbH tx en ((h + 1) + zdN tx en 1 (h + 1)) (decide (zdN tx en 1 (h + 1) = 0)) 61 else if xq = 112 then (h + 1) + zkN tx en 8 (h + 1) else if xq = 120 ∨ xq = 113 then h + 1 else if zid xq = true then (h + 1) + zdN tx en 1 (h + 1) else if zqn xq = true then (h + 1) + zdN tx en 2 (h + 1) else h
def zcWk (xq : Int32) (tx : Nat → Int32) (en h : Nat) : Bool := if xq = 99 then zbW tx en ((h + 1) + zdN tx en 2 (h + 1)) (decide (zdN tx en 2 (h + 1) = 0)) 45 else if xq = 121 then zbW tx en ((h + 1) + zdN tx en 1 (h + 1)) (decide (zdN tx en 1 (h + 1) = 0)) 61 else if xq = 112 then decide (¬ zkN tx en 8 (h + 1) = 8) else if xq = 120 ∨ xq = 113 then false else if zid xq = true then decide (zdN tx en 1 (h + 1) = 0) else if zqn xq = true then decide (zdN tx en 2 (h + 1) = 0) else true
def zcAk (xq : Int32) (tx : Nat → Int32) (en h : Nat) : Int32 := if xq = 99 then zdV tx en 2 (h + 1) 0 else if xq = 121 then zdV tx en 1 (h + 1) 0 else if xq = 112 then zkM tx en 8 (h + 1) 0 0 else if xq = 120 ∨ xq = 113 then 0 else if zid xq = true then zdV tx en 1 (h + 1) 0 else if zqn xq = true then zdV tx en 2 (h + 1) 0 else 0
def zcBk (xq : Int32) (tx : Nat → Int32) (en h : Nat) : Int32 := if xq = 99 then zbV tx en ((h + 1) + zdN tx en 2 (h + 1)) (decide (zdN tx en 2 (h + 1) = 0)) 45 else if xq = 121 then zbV tx en ((h + 1) + zdN tx en 1 (h + 1)) (decide (zdN tx en 1 (h + 1) = 0)) 61 else if xq = 112 then 0 else if xq = 120 ∨ xq = 113 then 0 else if zid xq = true then 0 else if zqn xq = true then 0 else 0
def zcH (tx : Nat → Int32) (en h : Nat) : Nat := zcHk (zqs tx en h) tx en h
def zcW (tx : Nat → Int32) (en h : Nat) : Bool := zcWk (zqs tx en h) tx en h
def zcA (tx : Nat → Int32) (en h : Nat) : Int32 := zcAk (zqs tx en h) tx en h
def zcB (tx : Nat → Int32) (en h : Nat) : Int32 := zcBk (zqs tx en h) tx en h
theorem zcH_99 {tx : Nat → Int32} {en he : Nat} (hc : zqs tx en he = 99) : zcH tx en he = zbH tx en ((he + 1) + zdN tx en 2 (he + 1)) (decide (zdN tx en 2 (he + 1) = 0)) 45 := by rw [zcH, hc, zcHk, if_pos rfl]
theorem zcW_99 {tx : Nat → Int32} {en he : Nat} (hc : zqs tx en he = 99) : zcW tx en he = zbW tx en ((he + 1) + zdN tx en 2 (he + 1)) (decide (zdN tx en 2 (he + 1) = 0)) 45 := by rw [zcW, hc, zcWk, if_pos rfl]
theorem zcA_99 {tx : Nat → Int32} {en he : Nat} (hc : zqs tx en he = 99) : zcA tx en he = zdV tx en 2 (he + 1) 0 := by rw [zcA, hc, zcAk, if_pos rfl]
theorem zcB_99 {tx : Nat → Int32} {en he : Nat} (hc : zqs tx en he = 99) : zcB tx en he = zbV tx en ((he + 1) + zdN tx en 2 (he + 1)) (decide (zdN tx en 2 (he + 1) = 0)) 45 := by rw [zcB, hc, zcBk, if_pos rfl]
theorem zcH_104 {tx : Nat → Int32} {en he : Nat} (hc : zqs tx en he = 104) : zcH tx en he = (he + 1) + zdN tx en 2 (he + 1) := by rw [zcH, hc]; first | rfl | simp [zcHk, zid, zqn]
theorem zcW_104 {tx : Nat → Int32} {en he : Nat} (hc : zqs tx en he = 104) : zcW tx en he = decide (zdN tx en 2 (he + 1) = 0) := by rw [zcW, hc]; first | rfl | simp [zcWk, zid, zqn]
theorem zcA_104 {tx : Nat → Int32} {en he : Nat} (hc : zqs tx en he = 104) : zcA tx en he = zdV tx en 2 (he + 1) 0 := by rw [zcA, hc]; first | rfl | simp [zcAk, zid, zqn]
theorem zcB_104 {tx : Nat → Int32} {en he : Nat} (hc : zqs tx en he = 104) : zcB tx en he = 0 := by rw [zcB, hc]; first | rfl | simp [zcBk, zid, zqn]
theorem zcH_114 {tx : Nat → Int32} {en he : Nat} (hc : zqs tx en he = 114) : zcH tx en he = (he + 1) + zdN tx en 2 (he + 1) := by rw [zcH, hc]; first | rfl | simp [zcHk, zid, zqn]
theorem zcW_114 {tx : Nat → Int32} {en he : Nat} (hc : zqs tx en he = 114) : zcW tx en he = decide (zdN tx en 2 (he + 1) = 0) := by rw [zcW, hc]; first | rfl | simp [zcWk, zid, zqn]
theorem zcA_114 {tx : Nat → Int32} {en he : Nat} (hc : zqs tx en he = 114) : zcA tx en he = zdV tx en 2 (he + 1) 0 := by rw [zcA, hc]; first | rfl | simp [zcAk, zid, zqn]
theorem zcB_114 {tx : Nat → Int32} {en he : Nat} (hc : zqs tx en he = 114) : zcB tx en he = 0 := by rw [zcB, hc]; first | rfl | simp [zcBk, zid, zqn]
theorem zcH_100 {tx : Nat → Int32} {en he : Nat} (hc : zqs tx en he = 100) : zcH tx en he = (he + 1) + zdN tx en 2 (he + 1) := by rw [zcH, hc]; first | rfl | simp [zcHk, zid, zqn]
theorem zcW_100 {tx : Nat → Int32} {en he : Nat} (hc : zqs tx en he = 100) : zcW tx en he = decide (zdN tx en 2 (he + 1) = 0) := by rw [zcW, hc]; first | rfl | simp [zcWk, zid, zqn]
theorem zcA_100 {tx : Nat → Int32} {en he : Nat} (hc : zqs tx en he = 100) : zcA tx en he = zdV tx en 2 (he + 1) 0 := by rw [zcA, hc]; first | rfl | simp [zcAk, zid, zqn]
theorem zcB_100 {tx : Nat → Int32} {en he : Nat} (hc : zqs tx en he = 100) : zcB tx en he = 0 := by rw [zcB, hc]; first | rfl | simp [zcBk, zid, zqn]
theorem zcH_117 {tx : Nat → Int32} {en he : Nat} (hc : zqs tx en he = 117) : zcH tx en he = (he + 1) + zdN tx en 2 (he + 1) := by rw [zcH, hc]; first | rfl | simp [zcHk, zid, zqn]
theorem zcW_117 {tx : Nat → Int32} {en he : Nat} (hc : zqs tx en he = 117) : zcW tx en he = decide (zdN tx en 2 (he + 1) = 0) := by rw [zcW, hc]; first | rfl | simp [zcWk, zid, zqn]
theorem zcA_117 {tx : Nat → Int32} {en he : Nat} (hc : zqs tx en he = 117) : zcA tx en he = zdV tx en 2 (he + 1) 0 := by rw [zcA, hc]; first | rfl | simp [zcAk, zid, zqn]
theorem zcB_117 {tx : Nat → Int32} {en he : Nat} (hc : zqs tx en he = 117) : zcB tx en he = 0 := by rw [zcB, hc]; first | rfl | simp [zcBk, zid, zqn]
theorem zcH_108 {tx : Nat → Int32} {en he : Nat} (hc : zqs tx en he = 108) : zcH tx en he = (he + 1) + zdN tx en 2 (he + 1) := by rw [zcH, hc]; first | rfl | simp [zcHk, zid, zqn]
theorem zcW_108 {tx : Nat → Int32} {en he : Nat} (hc : zqs tx en he = 108) : zcW tx en he = decide (zdN tx en 2 (he + 1) = 0) := by rw [zcW, hc]; first | rfl | simp [zcWk, zid, zqn]
theorem zcA_108 {tx : Nat → Int32} {en he : Nat} (hc : zqs tx en he = 108) : zcA tx en he = zdV tx en 2 (he + 1) 0 := by rw [zcA, hc]; first | rfl | simp [zcAk, zid, zqn]
theorem zcB_108 {tx : Nat → Int32} {en he : Nat} (hc : zqs tx en he = 108) : zcB tx en he = 0 := by rw [zcB, hc]; first | rfl | simp [zcBk, zid, zqn]
theorem zcH_103 {tx : Nat → Int32} {en he : Nat} (hc : zqs tx en he = 103) : zcH tx en he = (he + 1) + zdN tx en 2 (he + 1) := by rw [zcH, hc]; first | rfl | simp [zcHk, zid, zqn]
theorem zcW_103 {tx : Nat → Int32} {en he : Nat} (hc : zqs tx en he = 103) : zcW tx en he = decide (zdN tx en 2 (he + 1) = 0) := by rw [zcW, hc]; first | rfl | simp [zcWk, zid, zqn]
theorem zcA_103 {tx : Nat → Int32} {en he : Nat} (hc : zqs tx en he = 103) : zcA tx en he = zdV tx en 2 (he + 1) 0 := by rw [zcA, hc]; first | rfl | simp [zcAk, zid, zqn]
theorem zcB_103 {tx : Nat → Int32} {en he : Nat} (hc : zqs tx en he = 103) : zcB tx en he = 0 := by rw [zcB, hc]; first | rfl | simp [zcBk, zid, zqn]
theorem zcH_107 {tx : Nat → Int32} {en he : Nat} (hc : zqs tx en he = 107) : zcH tx en he = (he + 1) + zdN tx en 2 (he + 1) := by rw [zcH, hc]; first | rfl | simp [zcHk, zid, zqn]
theorem zcW_107 {tx : Nat → Int32} {en he : Nat} (hc : zqs tx en he = 107) : zcW tx en he = decide (zdN tx en 2 (he + 1) = 0) := by rw [zcW, hc]; first | rfl | simp [zcWk, zid, zqn]
theorem zcA_107 {tx : Nat → Int32} {en he : Nat} (hc : zqs tx en he = 107) : zcA tx en he = zdV tx en 2 (he + 1) 0 := by rw [zcA, hc]; first | rfl | simp [zcAk, zid, zqn]
theorem zcB_107 {tx : Nat → Int32} {en he : Nat} (hc : zqs tx en he = 107) : zcB tx en he = 0 := by rw [zcB, hc]; first | rfl | simp [zcBk, zid, zqn]
theorem zcH_121 {tx : Nat → Int32} {en he : Nat} (hc : zqs tx en he = 121) : zcH tx en he = zbH tx en ((he + 1) + zdN tx en 1 (he + 1)) (decide (zdN tx en 1 (he + 1) = 0)) 61 := by rw [zcH, hc]; first | rfl | simp [zcHk, zid, zqn]
theorem zcW_121 {tx : Nat → Int32} {en he : Nat} (hc : zqs tx en he = 121) : zcW tx en he = zbW tx en ((he + 1) + zdN tx en 1 (he + 1)) (decide (zdN tx en 1 (he + 1) = 0)) 61 := by rw [zcW, hc]; first | rfl | simp [zcWk, zid, zqn]
theorem zcA_121 {tx : Nat → Int32} {en he : Nat} (hc : zqs tx en he = 121) : zcA tx en he = zdV tx en 1 (he + 1) 0 := by rw [zcA, hc]; first | rfl | simp [zcAk, zid, zqn]
theorem zcB_121 {tx : Nat → Int32} {en he : Nat} (hc : zqs tx en he = 121) : zcB tx en he = zbV tx en ((he + 1) + zdN tx en 1 (he + 1)) (decide (zdN tx en 1 (he + 1) = 0)) 61 := by rw [zcB, hc]; first | rfl | simp [zcBk, zid, zqn]
theorem zcH_102 {tx : Nat → Int32} {en he : Nat} (hc : zqs tx en he = 102) : zcH tx en he = (he + 1) + zdN tx en 1 (he + 1) := by rw [zcH, hc]; first | rfl | simp [zcHk, zid, zqn]
theorem zcW_102 {tx : Nat → Int32} {en he : Nat} (hc : zqs tx en he = 102) : zcW tx en he = decide (zdN tx en 1 (he + 1) = 0) := by rw [zcW, hc]; first | rfl | simp [zcWk, zid, zqn]
theorem zcA_102 {tx : Nat → Int32} {en he : Nat} (hc : zqs tx en he = 102) : zcA tx en he = zdV tx en 1 (he + 1) 0 := by rw [zcA, hc]; first | rfl | simp [zcAk, zid, zqn]
theorem zcB_102 {tx : Nat → Int32} {en he : Nat} (hc : zqs tx en he = 102) : zcB tx en he = 0 := by rw [zcB, hc]; first | rfl | simp [zcBk, zid, zqn]
theorem zcH_116 {tx : Nat → Int32} {en he : Nat} (hc : zqs tx en he = 116) : zcH tx en he = (he + 1) + zdN tx en 1 (he + 1) := by rw [zcH, hc]; first | rfl | simp [zcHk, zid, zqn]
theorem zcW_116 {tx : Nat → Int32} {en he : Nat} (hc : zqs tx en he = 116) : zcW tx en he = decide (zdN tx en 1 (he + 1) = 0) := by rw [zcW, hc]; first | rfl | simp [zcWk, zid, zqn]
theorem zcA_116 {tx : Nat → Int32} {en he : Nat} (hc : zqs tx en he = 116) : zcA tx en he = zdV tx en 1 (he + 1) 0 := by rw [zcA, hc]; first | rfl | simp [zcAk, zid, zqn]
theorem zcB_116 {tx : Nat → Int32} {en he : Nat} (hc : zqs tx en he = 116) : zcB tx en he = 0 := by rw [zcB, hc]; first | rfl | simp [zcBk, zid, zqn]
theorem zcH_112 {tx : Nat → Int32} {en he : Nat} (hc : zqs tx en he = 112) : zcH tx en he = (he + 1) + zkN tx en 8 (he + 1) := by rw [zcH, hc]; first | rfl | simp [zcHk, zid, zqn]
theorem zcW_112 {tx : Nat → Int32} {en he : Nat} (hc : zqs tx en he = 112) : zcW tx en he = decide (¬ zkN tx en 8 (he + 1) = 8) := by rw [zcW, hc]; first | rfl | simp [zcWk, zid, zqn]
theorem zcA_112 {tx : Nat → Int32} {en he : Nat} (hc : zqs tx en he = 112) : zcA tx en he = zkM tx en 8 (he + 1) 0 0 := by rw [zcA, hc]; first | rfl | simp [zcAk, zid, zqn]
theorem zcB_112 {tx : Nat → Int32} {en he : Nat} (hc : zqs tx en he = 112) : zcB tx en he = 0 := by rw [zcB, hc]; first | rfl | simp [zcBk, zid, zqn]
theorem zcH_120 {tx : Nat → Int32} {en he : Nat} (hc : zqs tx en he = 120) : zcH tx en he = he + 1 := by rw [zcH, hc]; first | rfl | simp [zcHk, zid, zqn]
theorem zcW_120 {tx : Nat → Int32} {en he : Nat} (hc : zqs tx en he = 120) : zcW tx en he = false := by rw [zcW, hc]; first | rfl | simp [zcWk, zid, zqn]
theorem zcA_120 {tx : Nat → Int32} {en he : Nat} (hc : zqs tx en he = 120) : zcA tx en he = 0 := by rw [zcA, hc]; first | rfl | simp [zcAk, zid, zqn]
theorem zcB_120 {tx : Nat → Int32} {en he : Nat} (hc : zqs tx en he = 120) : zcB tx en he = 0 := by rw [zcB, hc]; first | rfl | simp [zcBk, zid, zqn]
theorem zcH_113 {tx : Nat → Int32} {en he : Nat} (hc : zqs tx en he = 113) : zcH tx en he = he + 1 := by rw [zcH, hc]; first | rfl | simp [zcHk, zid, zqn]
theorem zcW_113 {tx : Nat → Int32} {en he : Nat} (hc : zqs tx en he = 113) : zcW tx en he = false := by rw [zcW, hc]; first | rfl | simp [zcWk, zid, zqn]
theorem zcA_113 {tx : Nat → Int32} {en he : Nat} (hc : zqs tx en he = 113) : zcA tx en he = 0 := by rw [zcA, hc]; first | rfl | simp [zcAk, zid, zqn]
theorem zcB_113 {tx : Nat → Int32} {en he : Nat} (hc : zqs tx en he = 113) : zcB tx en he = 0 := by rw [zcB, hc]; first | rfl | simp [zcBk, zid, zqn]
theorem z99_n {xq : Int32} (h : zqn xq = false) : ¬ xq = 99 := fun z => by subst z; exact absurd h (by decide)
theorem z121_n {xq : Int32} (h : zid xq = false) : ¬ xq = 121 := fun z => by subst z; exact absurd h (by decide)
theorem zcH_bad {tx : Nat → Int32} {en he : Nat} (hn : zqn (zqs tx en he) = false) (hd : zid (zqs tx en he) = false) (h120 : ¬ zqs tx en he = 120) (h112 : ¬ zqs tx en he = 112) (h113 : ¬ zqs tx en he = 113) : zcH tx en he = he := by rw [zcH]; simp only [zcHk, hn, hd, h120, h112, h113, z99_n hn, z121_n hd, or_self, Bool.false_eq_true, ↓reduceIte]
theorem zcW_bad {tx : Nat → Int32} {en he : Nat} (hn : zqn (zqs tx en he) = false) (hd : zid (zqs tx en he) = false) (h120 : ¬ zqs tx en he = 120) (h112 : ¬ zqs tx en he = 112) (h113 : ¬ zqs tx en he = 113) : zcW tx en he = true := by rw [zcW]; simp only [zcWk, hn, hd, h120, h112, h113, z99_n hn, z121_n hd, or_self, Bool.false_eq_true, ↓reduceIte]
theorem zqs_lt {tx : Nat → Int32} {en h : Nat} {x : Int32} (hx : zqs tx en h = x) (h1 : ¬ x = -1) : h < en := by
  simp only [zqs] at hx
  split at hx
  · assumption
  · exact absurd hx.symm h1
theorem zdN_en (tx : Nat → Int32) (en : Nat) : ∀ (F h : Nat), h ≤ en → h + zdN tx en F h ≤ en
  | 0, _, hh => hh
  | F + 1, h, hh => by
    simp only [zdN]
    split
    · rename_i hz
      have h2 : h < en := by
        by_cases hq : h < en
        · exact hq
        · exfalso; simp only [zqs, if_neg hq] at hz; exact absurd hz (by decide)
      have := zdN_en tx en F (h + 1) h2
      omega
    · omega
theorem zkN_en (tx : Nat → Int32) (en : Nat) : ∀ (F h : Nat), h ≤ en → h + zkN tx en F h ≤ en
  | 0, _, hh => hh
  | F + 1, h, hh => by
    simp only [zkN]
    split
    · rename_i hz
      have h2 : h < en := hz.elim (fun z => zqs_lt z (by decide)) (fun z => zqs_lt z (by decide))
      have := zkN_en tx en F (h + 1) h2
      omega
    · omega
theorem zmH_en {tx : Nat → Int32} {en h : Nat} {iw : Bool} {x : Int32} (hx : ¬ x = -1) (hh : h ≤ en) : zmH tx en h iw x ≤ en := by
  simp only [zmH]
  split
  · exact hh
  · rename_i hz
    simp only [zmW, Bool.or_eq_true, Bool.not_eq_true', decide_eq_false_iff_not, not_or, Decidable.not_not] at hz
    exact zqs_lt hz.2 hx
theorem zbH_en {tx : Nat → Int32} {en h : Nat} {iw : Bool} {x : Int32} (hx : ¬ x = -1) (hh : h ≤ en) : zbH tx en h iw x ≤ en := by
  have := zmH_en (tx := tx) (iw := iw) hx hh
  simp only [zbH]
  split
  · exact this
  · exact zdN_en tx en 2 _ this
theorem zmH_ge (tx : Nat → Int32) (en h : Nat) (iw : Bool) (x : Int32) : h ≤ zmH tx en h iw x := by simp only [zmH]; split <;> omega
theorem zbH_ge (tx : Nat → Int32) (en h : Nat) (iw : Bool) (x : Int32) : h ≤ zbH tx en h iw x := by
  have := zmH_ge tx en h iw x
  simp only [zbH]; split <;> omega
theorem zcH_en {tx : Nat → Int32} {en he : Nat} (hh : he ≤ en) : zcH tx en he ≤ en := by
  by_cases h99 : zqs tx en he = 99
  · rw [zcH_99 h99]
    exact zbH_en (by decide) (zdN_en tx en 2 _ (zqs_lt h99 (by decide)))
  by_cases h104 : zqs tx en he = 104
  · rw [zcH_104 h104]
    exact zdN_en tx en 2 _ (zqs_lt h104 (by decide))
  by_cases h114 : zqs tx en he = 114
  · rw [zcH_114 h114]
    exact zdN_en tx en 2 _ (zqs_lt h114 (by decide))
  by_cases h100 : zqs tx en he = 100
  · rw [zcH_100 h100]
    exact zdN_en tx en 2 _ (zqs_lt h100 (by decide))
  by_cases h117 : zqs tx en he = 117
  · rw [zcH_117 h117]
    exact zdN_en tx en 2 _ (zqs_lt h117 (by decide))
  by_cases h108 : zqs tx en he = 108
  · rw [zcH_108 h108]
    exact zdN_en tx en 2 _ (zqs_lt h108 (by decide))
  by_cases h103 : zqs tx en he = 103
  · rw [zcH_103 h103]
    exact zdN_en tx en 2 _ (zqs_lt h103 (by decide))
  by_cases h107 : zqs tx en he = 107
  · rw [zcH_107 h107]
    exact zdN_en tx en 2 _ (zqs_lt h107 (by decide))
  by_cases h121 : zqs tx en he = 121
  · rw [zcH_121 h121]
    exact zbH_en (by decide) (zdN_en tx en 1 _ (zqs_lt h121 (by decide)))
  by_cases h102 : zqs tx en he = 102
  · rw [zcH_102 h102]
    exact zdN_en tx en 1 _ (zqs_lt h102 (by decide))
  by_cases h116 : zqs tx en he = 116
  · rw [zcH_116 h116]
    exact zdN_en tx en 1 _ (zqs_lt h116 (by decide))
  by_cases h112 : zqs tx en he = 112
  · rw [zcH_112 h112]
    exact zkN_en tx en 8 _ (zqs_lt h112 (by decide))
  by_cases h120 : zqs tx en he = 120
  · rw [zcH_120 h120]
    exact zqs_lt h120 (by decide)
  by_cases h113 : zqs tx en he = 113
  · rw [zcH_113 h113]
    exact zqs_lt h113 (by decide)
  have hn : zqn (zqs tx en he) = false := by simp [zqn, h99, h104, h114, h100, h117, h108, h103, h107]
  have hd : zid (zqs tx en he) = false := by simp [zid, h121, h102, h116]
  rw [zcH_bad hn hd h120 h112 h113]; exact hh
theorem zcH_ge (tx : Nat → Int32) (en he : Nat) : he ≤ zcH tx en he := by
  by_cases h99 : zqs tx en he = 99
  · rw [zcH_99 h99]
    exact Nat.le_trans (by omega) (zbH_ge tx en _ _ _)
  by_cases h104 : zqs tx en he = 104
  · rw [zcH_104 h104]
    omega
  by_cases h114 : zqs tx en he = 114
  · rw [zcH_114 h114]
    omega
  by_cases h100 : zqs tx en he = 100
  · rw [zcH_100 h100]
    omega
  by_cases h117 : zqs tx en he = 117
  · rw [zcH_117 h117]
    omega
  by_cases h108 : zqs tx en he = 108
  · rw [zcH_108 h108]
    omega
  by_cases h103 : zqs tx en he = 103
  · rw [zcH_103 h103]
    omega
  by_cases h107 : zqs tx en he = 107
  · rw [zcH_107 h107]
    omega
  by_cases h121 : zqs tx en he = 121
  · rw [zcH_121 h121]
    exact Nat.le_trans (by omega) (zbH_ge tx en _ _ _)
  by_cases h102 : zqs tx en he = 102
  · rw [zcH_102 h102]
    omega
  by_cases h116 : zqs tx en he = 116
  · rw [zcH_116 h116]
    omega
  by_cases h112 : zqs tx en he = 112
  · rw [zcH_112 h112]
    omega
  by_cases h120 : zqs tx en he = 120
  · rw [zcH_120 h120]
    omega
  by_cases h113 : zqs tx en he = 113
  · rw [zcH_113 h113]
    omega
  have hn : zqn (zqs tx en he) = false := by simp [zqn, h99, h104, h114, h100, h117, h108, h103, h107]
  have hd : zid (zqs tx en he) = false := by simp [zid, h121, h102, h116]
  rw [zcH_bad hn hd h120 h112 h113]; exact Nat.le_refl _
set_option maxRecDepth 100000 in
theorem c_X6_command_gp {G : zG} (hg : zGN G) (l : Launch) (D : va_G) (cy : Nat → ClassId) (x9 : Nat) (th : Int32) (ch : Nat) (era : Int32) (why : Int32) (det : Int32) (cau : Int32) (sv : Bool) (rj : Bool) (v9 : Nat) (b9 : Nat) (s9 : Nat) (k9 : Nat) (p9 : Nat) (t9 : Nat) (n9 : Nat) (tn : Nat) (he : Nat) (en : Nat) (ln : Nat) (iw : Bool) (tx : Nat → Int32) (hhe : he ≤ 60) (hen : en ≤ 60) : zM G D vwCl (zT cy) l yX6_command wsX6_command { frames := 3, cells := 0, slots := 0, locals := 66 } [.ref x9] [(x9, .inr (10, [.int th, .int (nI ch), .int era, .int why, .int det, .int cau, .int (zI sv), .int (zI rj), .ref v9, .ref b9, .ref s9, .ref k9, .ref p9, .ref t9, .ref n9, .int (nI tn), .int (nI he), .int (nI en), .int (nI ln), .int (zI iw), .int (zI false)])), (t9, .inl (cy 0, 60, .inl tx))] none [(x9, .inr (10, [.int th, .int (nI ch), .int era, .int why, .int det, .int cau, .int (zI sv), .int (zI rj), .ref v9, .ref b9, .ref s9, .ref k9, .ref p9, .ref t9, .ref n9, .int (nI tn), .int (nI (zcH tx en he)), .int (nI en), .int (nI ln), .int (zI (zcW tx en he)), .int (zI false)])), (t9, .inl (cy 0, 60, .inl tx))] := by
  by_cases h99 : zqs tx en he = 99
  · rw [zcH_99 h99, zcW_99 h99]
    exact c_X6_command_p99 hg l D cy x9 th ch era why det cau sv rj v9 b9 s9 k9 p9 t9 n9 tn he en ln iw tx hhe hen h99
  by_cases h104 : zqs tx en he = 104
  · rw [zcH_104 h104, zcW_104 h104]
    exact c_X6_command_p104 hg l D cy x9 th ch era why det cau sv rj v9 b9 s9 k9 p9 t9 n9 tn he en ln iw tx hhe hen h104
  by_cases h114 : zqs tx en he = 114
  · rw [zcH_114 h114, zcW_114 h114]
    exact c_X6_command_p114 hg l D cy x9 th ch era why det cau sv rj v9 b9 s9 k9 p9 t9 n9 tn he en ln iw tx hhe hen h114
  by_cases h100 : zqs tx en he = 100
  · rw [zcH_100 h100, zcW_100 h100]
    exact c_X6_command_p100 hg l D cy x9 th ch era why det cau sv rj v9 b9 s9 k9 p9 t9 n9 tn he en ln iw tx hhe hen h100
  by_cases h117 : zqs tx en he = 117
  · rw [zcH_117 h117, zcW_117 h117]
    exact c_X6_command_p117 hg l D cy x9 th ch era why det cau sv rj v9 b9 s9 k9 p9 t9 n9 tn he en ln iw tx hhe hen h117
  by_cases h108 : zqs tx en he = 108
  · rw [zcH_108 h108, zcW_108 h108]
    exact c_X6_command_p108 hg l D cy x9 th ch era why det cau sv rj v9 b9 s9 k9 p9 t9 n9 tn he en ln iw tx hhe hen h108
  by_cases h103 : zqs tx en he = 103
  · rw [zcH_103 h103, zcW_103 h103]
    exact c_X6_command_p103 hg l D cy x9 th ch era why det cau sv rj v9 b9 s9 k9 p9 t9 n9 tn he en ln iw tx hhe hen h103
  by_cases h107 : zqs tx en he = 107
  · rw [zcH_107 h107, zcW_107 h107]
    exact c_X6_command_p107 hg l D cy x9 th ch era why det cau sv rj v9 b9 s9 k9 p9 t9 n9 tn he en ln iw tx hhe hen h107
  by_cases h121 : zqs tx en he = 121
  · rw [zcH_121 h121, zcW_121 h121]
    exact c_X6_command_p121 hg l D cy x9 th ch era why det cau sv rj v9 b9 s9 k9 p9 t9 n9 tn he en ln iw tx hhe hen h121
  by_cases h102 : zqs tx en he = 102
  · rw [zcH_102 h102, zcW_102 h102]
    exact c_X6_command_p102 hg l D cy x9 th ch era why det cau sv rj v9 b9 s9 k9 p9 t9 n9 tn he en ln iw tx hhe hen h102
  by_cases h116 : zqs tx en he = 116
  · rw [zcH_116 h116, zcW_116 h116]
    exact c_X6_command_p116 hg l D cy x9 th ch era why det cau sv rj v9 b9 s9 k9 p9 t9 n9 tn he en ln iw tx hhe hen h116
  by_cases h112 : zqs tx en he = 112
  · rw [zcH_112 h112, zcW_112 h112]
    exact c_X6_command_p112 hg l D cy x9 th ch era why det cau sv rj v9 b9 s9 k9 p9 t9 n9 tn he en ln iw tx hhe hen h112
  by_cases h120 : zqs tx en he = 120
  · rw [zcH_120 h120, zcW_120 h120]
    exact c_X6_command_p120 hg l D cy x9 th ch era why det cau sv rj v9 b9 s9 k9 p9 t9 n9 tn he en ln iw tx hhe hen h120
  by_cases h113 : zqs tx en he = 113
  · rw [zcH_113 h113, zcW_113 h113]
    exact c_X6_command_p113 hg l D cy x9 th ch era why det cau sv rj v9 b9 s9 k9 p9 t9 n9 tn he en ln iw tx hhe hen h113
  have hn : zqn (zqs tx en he) = false := by simp [zqn, h99, h104, h114, h100, h117, h108, h103, h107]
  have hd : zid (zqs tx en he) = false := by simp [zid, h121, h102, h116]
  rw [zcH_bad hn hd h120 h112 h113, zcW_bad hn hd h120 h112 h113]
  exact c_X6_command_pbad hg l D cy x9 th ch era why det cau sv rj v9 b9 s9 k9 p9 t9 n9 tn he en ln iw tx hhe hen hn hd h120 h112 h113
set_option maxRecDepth 100000 in
theorem c_X6_command_gd {G : zG} (hg : zGN G) (l : Launch) (D : va_G) (cy : Nat → ClassId) (x9 : Nat) (ch : Nat) (era : Int32) (why : Int32) (det : Int32) (cau : Int32) (sv : Bool) (rj : Bool) (v9 : Nat) (b9 : Nat) (s9 : Nat) (k9 : Nat) (p9 : Nat) (t9 : Nat) (n9 : Nat) (tn : Nat) (he : Nat) (en : Nat) (ln : Nat) (iw : Bool) (tx : Nat → Int32) (v : Nat → Int32) (res2 : Int32) (th2 : Int32) (why2 : Int32) (det2 : Int32) (cau2 : Int32) (rj2 : Bool) (v2 : Nat → Int32) (hhe : he ≤ 60) (hen : en ≤ 60) (hcw : zcW tx en he = false) (hdo : zM G D vwCl (zT cy) l yX6_does wsX6_does { frames := 5, cells := 0, slots := 0, locals := 116 } [.ref x9, .int (zqs tx en he), .int (zcA tx en he), .int (zcB tx en he)] [(x9, .inr (10, [.int 0, .int (nI ch), .int era, .int why, .int det, .int cau, .int (zI sv), .int (zI rj), .ref v9, .ref b9, .ref s9, .ref k9, .ref p9, .ref t9, .ref n9, .int (nI tn), .int (nI (zcH tx en he)), .int (nI en), .int (nI ln), .int (zI false), .int (zI true)])), (v9, .inl (cy 0, 188, .inl v))] (some (.int res2)) [(x9, .inr (10, [.int th2, .int (nI ch), .int era, .int why2, .int det2, .int cau2, .int (zI sv), .int (zI rj2), .ref v9, .ref b9, .ref s9, .ref k9, .ref p9, .ref t9, .ref n9, .int (nI tn), .int (nI (zcH tx en he)), .int (nI en), .int (nI ln), .int (zI false), .int (zI true)])), (v9, .inl (cy 0, 188, .inl v2))]) : zM G D vwCl (zT cy) l yX6_command wsX6_command { frames := 6, cells := 0, slots := 0, locals := 139 } [.ref x9] [(x9, .inr (10, [.int 0, .int (nI ch), .int era, .int why, .int det, .int cau, .int (zI sv), .int (zI rj), .ref v9, .ref b9, .ref s9, .ref k9, .ref p9, .ref t9, .ref n9, .int (nI tn), .int (nI he), .int (nI en), .int (nI ln), .int (zI iw), .int (zI true)])), (t9, .inl (cy 0, 60, .inl tx)), (v9, .inl (cy 0, 188, .inl v))] none [(x9, .inr (10, [.int th2, .int (nI ch), .int era, .int why2, .int det2, .int cau2, .int (zI sv), .int (zI rj2), .ref v9, .ref b9, .ref s9, .ref k9, .ref p9, .ref t9, .ref n9, .int (nI tn), .int (nI (zcH tx en he)), .int (nI en), .int (nI ln), .int (zI false), .int (zI true)])), (t9, .inl (cy 0, 60, .inl tx)), (v9, .inl (cy 0, 188, .inl v2))] := by
  by_cases h99 : zqs tx en he = 99
  · rw [zcA_99 h99, zcB_99 h99, zcH_99 h99, h99] at hdo
    rw [zcW_99 h99] at hcw
    rw [zcH_99 h99]
    exact c_X6_command_d99 hg l D cy x9 ch era why det cau sv rj v9 b9 s9 k9 p9 t9 n9 tn he en ln iw tx v res2 th2 why2 det2 cau2 rj2 v2 hhe hen h99 hcw hdo
  by_cases h104 : zqs tx en he = 104
  · rw [zcA_104 h104, zcB_104 h104, zcH_104 h104, h104] at hdo
    rw [zcW_104 h104] at hcw
    rw [zcH_104 h104]
    exact c_X6_command_d104 hg l D cy x9 ch era why det cau sv rj v9 b9 s9 k9 p9 t9 n9 tn he en ln iw tx v res2 th2 why2 det2 cau2 rj2 v2 hhe hen h104 hcw hdo
  by_cases h114 : zqs tx en he = 114
  · rw [zcA_114 h114, zcB_114 h114, zcH_114 h114, h114] at hdo
    rw [zcW_114 h114] at hcw
    rw [zcH_114 h114]
    exact c_X6_command_d114 hg l D cy x9 ch era why det cau sv rj v9 b9 s9 k9 p9 t9 n9 tn he en ln iw tx v res2 th2 why2 det2 cau2 rj2 v2 hhe hen h114 hcw hdo
  by_cases h100 : zqs tx en he = 100
  · rw [zcA_100 h100, zcB_100 h100, zcH_100 h100, h100] at hdo
    rw [zcW_100 h100] at hcw
    rw [zcH_100 h100]
    exact c_X6_command_d100 hg l D cy x9 ch era why det cau sv rj v9 b9 s9 k9 p9 t9 n9 tn he en ln iw tx v res2 th2 why2 det2 cau2 rj2 v2 hhe hen h100 hcw hdo
  by_cases h117 : zqs tx en he = 117
  · rw [zcA_117 h117, zcB_117 h117, zcH_117 h117, h117] at hdo
    rw [zcW_117 h117] at hcw
    rw [zcH_117 h117]
    exact c_X6_command_d117 hg l D cy x9 ch era why det cau sv rj v9 b9 s9 k9 p9 t9 n9 tn he en ln iw tx v res2 th2 why2 det2 cau2 rj2 v2 hhe hen h117 hcw hdo
  by_cases h108 : zqs tx en he = 108
  · rw [zcA_108 h108, zcB_108 h108, zcH_108 h108, h108] at hdo
    rw [zcW_108 h108] at hcw
    rw [zcH_108 h108]
    exact c_X6_command_d108 hg l D cy x9 ch era why det cau sv rj v9 b9 s9 k9 p9 t9 n9 tn he en ln iw tx v res2 th2 why2 det2 cau2 rj2 v2 hhe hen h108 hcw hdo
  by_cases h103 : zqs tx en he = 103
  · rw [zcA_103 h103, zcB_103 h103, zcH_103 h103, h103] at hdo
    rw [zcW_103 h103] at hcw
    rw [zcH_103 h103]
    exact c_X6_command_d103 hg l D cy x9 ch era why det cau sv rj v9 b9 s9 k9 p9 t9 n9 tn he en ln iw tx v res2 th2 why2 det2 cau2 rj2 v2 hhe hen h103 hcw hdo
  by_cases h107 : zqs tx en he = 107
  · rw [zcA_107 h107, zcB_107 h107, zcH_107 h107, h107] at hdo
    rw [zcW_107 h107] at hcw
    rw [zcH_107 h107]
    exact c_X6_command_d107 hg l D cy x9 ch era why det cau sv rj v9 b9 s9 k9 p9 t9 n9 tn he en ln iw tx v res2 th2 why2 det2 cau2 rj2 v2 hhe hen h107 hcw hdo
  by_cases h121 : zqs tx en he = 121
  · rw [zcA_121 h121, zcB_121 h121, zcH_121 h121, h121] at hdo
    rw [zcW_121 h121] at hcw
    rw [zcH_121 h121]
    exact c_X6_command_d121 hg l D cy x9 ch era why det cau sv rj v9 b9 s9 k9 p9 t9 n9 tn he en ln iw tx v res2 th2 why2 det2 cau2 rj2 v2 hhe hen h121 hcw hdo
  by_cases h102 : zqs tx en he = 102
  · rw [zcA_102 h102, zcB_102 h102, zcH_102 h102, h102] at hdo
    rw [zcW_102 h102] at hcw
    rw [zcH_102 h102]
    exact c_X6_command_d102 hg l D cy x9 ch era why det cau sv rj v9 b9 s9 k9 p9 t9 n9 tn he en ln iw tx v res2 th2 why2 det2 cau2 rj2 v2 hhe hen h102 hcw hdo
  by_cases h116 : zqs tx en he = 116
  · rw [zcA_116 h116, zcB_116 h116, zcH_116 h116, h116] at hdo
    rw [zcW_116 h116] at hcw
    rw [zcH_116 h116]
    exact c_X6_command_d116 hg l D cy x9 ch era why det cau sv rj v9 b9 s9 k9 p9 t9 n9 tn he en ln iw tx v res2 th2 why2 det2 cau2 rj2 v2 hhe hen h116 hcw hdo
  by_cases h112 : zqs tx en he = 112
  · rw [zcA_112 h112, zcB_112 h112, zcH_112 h112, h112] at hdo
    rw [zcW_112 h112] at hcw
    rw [zcH_112 h112]
    exact c_X6_command_d112 hg l D cy x9 ch era why det cau sv rj v9 b9 s9 k9 p9 t9 n9 tn he en ln iw tx v res2 th2 why2 det2 cau2 rj2 v2 hhe hen h112 hcw hdo
  by_cases h120 : zqs tx en he = 120
  · rw [zcA_120 h120, zcB_120 h120, zcH_120 h120, h120] at hdo
    rw [zcW_120 h120] at hcw
    rw [zcH_120 h120]
    exact c_X6_command_d120 hg l D cy x9 ch era why det cau sv rj v9 b9 s9 k9 p9 t9 n9 tn he en ln iw tx v res2 th2 why2 det2 cau2 rj2 v2 hhe hen h120 hdo
  by_cases h113 : zqs tx en he = 113
  · rw [zcA_113 h113, zcB_113 h113, zcH_113 h113, h113] at hdo
    rw [zcW_113 h113] at hcw
    rw [zcH_113 h113]
    exact c_X6_command_d113 hg l D cy x9 ch era why det cau sv rj v9 b9 s9 k9 p9 t9 n9 tn he en ln iw tx v res2 th2 why2 det2 cau2 rj2 v2 hhe hen h113 hdo
  have hn : zqn (zqs tx en he) = false := by simp [zqn, h99, h104, h114, h100, h117, h108, h103, h107]
  have hd : zid (zqs tx en he) = false := by simp [zid, h121, h102, h116]
  exact absurd (zcW_bad hn hd h120 h112 h113) (by rw [hcw]; decide)
/-- all orders of a text -/
def zLH (tx : Nat → Int32) (en : Nat) : Nat → Nat → Bool → Nat
  | 0, h, _ => h
  | F + 1, h, w => if w = true then h else if h < en then (if zqs tx en h = 59 then zLH tx en F (zcH tx en (h + 1)) (zcW tx en (h + 1)) else h) else h
def zLW (tx : Nat → Int32) (en : Nat) : Nat → Nat → Bool → Bool
  | 0, _, w => w
  | F + 1, h, w => if w = true then true else if h < en then (if zqs tx en h = 59 then zLW tx en F (zcH tx en (h + 1)) (zcW tx en (h + 1)) else true) else false
def zLC (tx : Nat → Int32) (en : Nat) : Nat → Nat → Bool → Nat → Nat
  | 0, _, _, n => n
  | F + 1, h, w, n => if w = true then n else if h < en then (if zqs tx en h = 59 then zLC tx en F (zcH tx en (h + 1)) (zcW tx en (h + 1)) (n + 1) else n + 1) else n
def zPH (tx : Nat → Int32) (en : Nat) : Nat := zLH tx en 61 (zcH tx en 0) (zcW tx en 0)
def zPW (tx : Nat → Int32) (en : Nat) : Bool := zLW tx en 61 (zcH tx en 0) (zcW tx en 0)
def zPC (tx : Nat → Int32) (en : Nat) : Nat := zLC tx en 61 (zcH tx en 0) (zcW tx en 0) 1
abbrev rmX6_commands_parse : Room := { frames := 4, cells := 0, slots := 0, locals := 90 }
set_option maxHeartbeats 4000000 in
set_option maxRecDepth 100000 in
theorem c_X6_commands_parse {G : zG} (hg : zGN G) (l : Launch) (D : va_G) (cy : Nat → ClassId) (x9 : Nat) (ch : Nat) (era : Int32) (why : Int32) (det : Int32) (cau : Int32) (sv : Bool) (rj : Bool) (v9 : Nat) (b9 : Nat) (s9 : Nat) (k9 : Nat) (p9 : Nat) (t9 : Nat) (n9 : Nat) (tn : Nat) (he : Nat) (en : Nat) (ln : Nat) (iw : Bool) (tx : Nat → Int32) (hen : en ≤ 60) : zM G D vwCl (zT cy) l yX6_commands wsX6_commands rmX6_commands_parse [.ref x9] [(x9, .inr (10, [.int 0, .int (nI ch), .int era, .int why, .int det, .int cau, .int (zI sv), .int (zI rj), .ref v9, .ref b9, .ref s9, .ref k9, .ref p9, .ref t9, .ref n9, .int (nI tn), .int (nI he), .int (nI en), .int (nI ln), .int (zI iw), .int (zI false)])), (t9, .inl (cy 0, 60, .inl tx))] (some (.int (nI (zPC tx en)))) [(x9, .inr (10, [.int 0, .int (nI ch), .int era, .int why, .int det, .int cau, .int (zI sv), .int (zI rj), .ref v9, .ref b9, .ref s9, .ref k9, .ref p9, .ref t9, .ref n9, .int (nI tn), .int (nI (zPH tx en)), .int (nI en), .int (nI ln), .int (zI (zPW tx en)), .int (zI false)])), (t9, .inl (cy 0, 60, .inl tx))] := by
  refine zM_of (cc := cX6_commands) (maxL := 2) (ret := (some .int)) (by decide) rfl (Nat.le_of_ble_eq_true rfl) ?_
  intro p e s m below meth c A Q hend hx hb hml hr hts hown hlk hG hK hP hD hA hS ls hl
  have hown : s.vm.findClass RX6 = some m.cls := hown
  have in_RX6 : ∀ w ∈ u_ws RX6 TX6 21, w ∈ wsX6_commands := by decide +kernel
  have hl : lv_has ls 2 [(0, .ref x9)] := hl
  refine lv_aload_n hx hb dX6_commands_0 rfl (lv_at hl 0 rfl) ?_
  refine lv_iconst (v := 0) hx hb dX6_commands_1 (by decide) ?_
  refine z_top (y := nI 0) (rfl) ?_
  refine va_put (D := D) (ci := 10) (v := .int (nI 0)) (ty := .int) (C := RX6) (T := TX6) (N := 21) hx hb hts in_RX6 tyX6 tyX6_ok nmX6 hown hK hP hD hS 0 rfl rfl 16 (by decide) (hts _ (List.mem_of_getElem? (i := 1) rfl)) (fun _ h9 => h9) rfl (by decide +kernel) rfl rfl (Nat.le_of_ble_eq_true rfl) dX6_commands_2 (fun H locs hP hD hS => ?_)
  have hP : va_P D vwCl [(x9, .inr (10, [.int 0, .int (nI ch), .int era, .int why, .int det, .int cau, .int (zI sv), .int (zI rj), .ref v9, .ref b9, .ref s9, .ref k9, .ref p9, .ref t9, .ref n9, .int (nI tn), .int (nI 0), .int (nI en), .int (nI ln), .int (zI iw), .int (zI false)])), (t9, .inl (cy 0, 60, .inl tx))] H := hP
  have hD : va_D A [(x9, .inr (10, [.int 0, .int (nI ch), .int era, .int why, .int det, .int cau, .int (zI sv), .int (zI rj), .ref v9, .ref b9, .ref s9, .ref k9, .ref p9, .ref t9, .ref n9, .int (nI tn), .int (nI 0), .int (nI en), .int (nI ln), .int (zI iw), .int (zI false)])), (t9, .inl (cy 0, 60, .inl tx))] := hD
  refine lv_aload_n hx hb dX6_commands_5 rfl (lv_at hl 0 rfl) ?_
  refine lv_iconst (v := 0) hx hb dX6_commands_6 (by decide) ?_
  refine z_top (y := zI false) rfl ?_
  refine va_put (D := D) (ci := 10) (v := .int (zI false)) (ty := .boolean) (C := RX6) (T := TX6) (N := 21) hx hb hts in_RX6 tyX6 tyX6_ok nmX6 hown hK hP hD hS 0 rfl rfl 19 (by decide) (hts _ (List.mem_of_getElem? (i := 2) rfl)) (fun _ h9 => h9) rfl (by decide +kernel) (zI_nar _) (zI_fit _) (Nat.le_of_ble_eq_true rfl) dX6_commands_7 (fun H locs hP hD hS => ?_)
  have hP : va_P D vwCl [(x9, .inr (10, [.int 0, .int (nI ch), .int era, .int why, .int det, .int cau, .int (zI sv), .int (zI rj), .ref v9, .ref b9, .ref s9, .ref k9, .ref p9, .ref t9, .ref n9, .int (nI tn), .int (nI 0), .int (nI en), .int (nI ln), .int (zI false), .int (zI false)])), (t9, .inl (cy 0, 60, .inl tx))] H := hP
  have hD : va_D A [(x9, .inr (10, [.int 0, .int (nI ch), .int era, .int why, .int det, .int cau, .int (zI sv), .int (zI rj), .ref v9, .ref b9, .ref s9, .ref k9, .ref p9, .ref t9, .ref n9, .int (nI tn), .int (nI 0), .int (nI en), .int (nI ln), .int (zI false), .int (zI false)])), (t9, .inl (cy 0, 60, .inl tx))] := hD
  refine lv_iconst (v := 1) hx hb dX6_commands_10 (by decide) ?_
  refine lv_istore_n (lv' := [(1, .int 1), (0, .ref x9)]) hx hb dX6_commands_11 rfl hl (by decide) rfl (fun ls hl => ?_)
  refine lv_aload_n hx hb dX6_commands_12 rfl (lv_at hl 1 rfl) ?_
  refine zcV (As := []) (rest := []) [0, 1] 0 hg.1 ⟨hx, hb, hml, hown, hts⟩ (c_X6_command_gp hg l D cy x9 0 ch era why det cau sv rj v9 b9 s9 k9 p9 t9 n9 tn 0 en ln false tx (by first | assumption | omega) (by first | assumption | omega)) (cwV 0 hts gX6_commands_X6_command rfl rfl rfl (by decide +kernel) ⟨Nat.le_of_ble_eq_true rfl, Nat.le_of_ble_eq_true rfl⟩) hG hK hP hD hS hA rfl rfl (Eq.trans (b := [x9, t9]) rfl rfl) rfl rfl rfl hl.1 rfl (Nat.le_of_ble_eq_true rfl) dX6_commands_13 ⟨Nat.zero_le _, Nat.zero_le _⟩ (fun H locs hP hD hS => ?_)
  have hP : va_P D vwCl [(x9, .inr (10, [.int 0, .int (nI ch), .int era, .int why, .int det, .int cau, .int (zI sv), .int (zI rj), .ref v9, .ref b9, .ref s9, .ref k9, .ref p9, .ref t9, .ref n9, .int (nI tn), .int (nI (zcH tx en 0)), .int (nI en), .int (nI ln), .int (zI (zcW tx en 0)), .int (zI false)])), (t9, .inl (cy 0, 60, .inl tx))] H := hP
  have hD : va_D A [(x9, .inr (10, [.int 0, .int (nI ch), .int era, .int why, .int det, .int cau, .int (zI sv), .int (zI rj), .ref v9, .ref b9, .ref s9, .ref k9, .ref p9, .ref t9, .ref n9, .int (nI tn), .int (nI (zcH tx en 0)), .int (nI en), .int (nI ln), .int (zI (zcW tx en 0)), .int (zI false)])), (t9, .inl (cy 0, 60, .inl tx))] := hD
  have L16 : ∀ (F : Nat) (h : Nat) (w : Bool) (n : Nat) (F2 : Nat) (x16_0 : Int32), en - h < F2 → h ≤ en → zPH tx en = zLH tx en F2 h w → zPW tx en = zLW tx en F2 h w → zPC tx en = zLC tx en F2 h w n → F2 < F → x16_0 = zI w → ∀ (H : Heap) (locs : List Loc), va_P D vwCl [(x9, .inr (10, [.int 0, .int (nI ch), .int era, .int why, .int det, .int cau, .int (zI sv), .int (zI rj), .ref v9, .ref b9, .ref s9, .ref k9, .ref p9, .ref t9, .ref n9, .int (nI tn), .int (nI h), .int (nI en), .int (nI ln), .int x16_0, .int (zI false)])), (t9, .inl (cy 0, 60, .inl tx))] H → va_D A [(x9, .inr (10, [.int 0, .int (nI ch), .int era, .int why, .int det, .int cau, .int (zI sv), .int (zI rj), .ref v9, .ref b9, .ref s9, .ref k9, .ref p9, .ref t9, .ref n9, .int (nI tn), .int (nI h), .int (nI en), .int (nI ln), .int x16_0, .int (zI false)])), (t9, .inl (cy 0, 60, .inl tx))] → va_S A s.heap H locs → ∀ ls : Array Slot, lv_has ls 2 [(0, .ref x9), (1, .int (nI n))] → W p l e rmX6_commands_parse s m ([.ref x9] : List Value).toArray below meth c H locs 0 0 Q (F0 m 16 ls []) := by
    intro F
    induction F with
    | zero =>
      intro h w n F2 x16_0 hF2 hh hH hW hC hF ex16_0 H locs hP hD hS ls hl
      exact absurd hF (Nat.not_lt_zero _)
    | succ F ih16 =>
      intro h w n F2 x16_0 hF2 hh hH hW hC hF ex16_0 H locs hP hD hS ls hl
      subst ex16_0
      obtain ⟨F3, rfl⟩ : ∃ F3, F2 = F3 + 1 := ⟨F2 - 1, by omega⟩
      refine lv_aload_n hx hb dX6_commands_16 rfl (lv_at hl 0 rfl) ?_
      refine va_get (D := D) (ci := 10) (v := .int (zI w)) (C := RX6) (T := TX6) (N := 21) hx hb hts in_RX6 hown hK hP 0 rfl rfl 19 (by decide) (hts _ (List.mem_of_getElem? (i := 2) rfl)) (fun _ h9 => h9) rfl dX6_commands_17 ?_
      refine lv_if_ne (tgt := 64) hx hb dX6_commands_20 (by decide) (fun c_1 => ?_) (fun c_1 => ?_)
      · replace c_1 := zI1 c_1
        subst c_1
        have e1 : zPH tx en = h := by rw [hH, zLH, if_pos rfl]
        have e2 : zPW tx en = true := by rw [hW, zLW, if_pos rfl]
        have e3 : zPC tx en = n := by rw [hC, zLC, if_pos rfl]
        refine lv_iload_n hx hb dX6_commands_64 rfl (lv_at hl 1 rfl) ?_
        exact ziret hend hx hb hr hlk hK hP hD hS dX6_commands_65 (by rw [e3]) (by rw [e1, e2])
      · replace c_1 := zI0 c_1
        subst c_1
        refine lv_aload_n hx hb dX6_commands_23 rfl (lv_at hl 0 rfl) ?_
        refine va_get (D := D) (ci := 10) (v := .int 0) (C := RX6) (T := TX6) (N := 21) hx hb hts in_RX6 hown hK hP 0 rfl rfl 0 (by decide) (hts _ (List.mem_of_getElem? (i := 3) rfl)) (fun _ h9 => h9) rfl dX6_commands_24 ?_
        refine lv_if_ne (tgt := 64) hx hb dX6_commands_27 (by decide) (fun c_2 => ?_) (fun c_2 => ?_)
        · exact absurd c_2 (by decide)
        · refine lv_aload_n hx hb dX6_commands_30 rfl (lv_at hl 0 rfl) ?_
          refine va_get (D := D) (ci := 10) (v := .int (nI h)) (C := RX6) (T := TX6) (N := 21) hx hb hts in_RX6 hown hK hP 0 rfl rfl 16 (by decide) (hts _ (List.mem_of_getElem? (i := 1) rfl)) (fun _ h9 => h9) rfl dX6_commands_31 ?_
          refine lv_aload_n hx hb dX6_commands_34 rfl (lv_at hl 0 rfl) ?_
          refine va_get (D := D) (ci := 10) (v := .int (nI en)) (C := RX6) (T := TX6) (N := 21) hx hb hts in_RX6 hown hK hP 0 rfl rfl 17 (by decide) (hts _ (List.mem_of_getElem? (i := 4) rfl)) (fun _ h9 => h9) rfl dX6_commands_35 ?_
          refine lv_icmp_ge (tgt := 64) hx hb dX6_commands_38 (by decide) (fun c_3 => ?_) (fun c_3 => ?_)
          · have hnl : ¬ h < en := Nat.not_lt.mpr ((nI_leI (by omega) (by omega)).mp c_3)
            have e1 : zPH tx en = h := by rw [hH, zLH, if_neg (by decide), if_neg hnl]
            have e2 : zPW tx en = false := by rw [hW, zLW, if_neg (by decide), if_neg hnl]
            have e3 : zPC tx en = n := by rw [hC, zLC, if_neg (by decide), if_neg hnl]
            refine lv_iload_n hx hb dX6_commands_64 rfl (lv_at hl 1 rfl) ?_
            exact ziret hend hx hb hr hlk hK hP hD hS dX6_commands_65 (by rw [e3]) (by rw [e1, e2])
          · have hlt : h < en := Nat.lt_of_not_le (fun z => c_3 (nI_le z (by omega)))
            refine lv_aload_n hx hb dX6_commands_41 rfl (lv_at hl 0 rfl) ?_
            refine lv_bipush (v := 59) hx hb dX6_commands_42 (by decide) ?_
            refine zcV (As := [.int 59]) (rest := []) [0, 1] 0 hg.1 ⟨hx, hb, hml, hown, hts⟩ (c_X6_mark hg l D cy x9 0 ch era why det cau sv rj v9 b9 s9 k9 p9 t9 n9 tn h en ln false false tx 59 (by first | assumption | omega) (by first | assumption | omega)) (cwV 1 hts gX6_commands_X6_mark rfl rfl rfl (by decide +kernel) ⟨Nat.le_of_ble_eq_true rfl, Nat.le_of_ble_eq_true rfl⟩) hG hK hP hD hS hA rfl rfl (Eq.trans (b := [x9, t9]) rfl rfl) rfl rfl rfl hl.1 rfl (Nat.le_of_ble_eq_true rfl) dX6_commands_44 ⟨Nat.zero_le _, Nat.zero_le _⟩ (fun H locs hP hD hS => ?_)
            have hP : va_P D vwCl [(x9, .inr (10, [.int 0, .int (nI ch), .int era, .int why, .int det, .int cau, .int (zI sv), .int (zI rj), .ref v9, .ref b9, .ref s9, .ref k9, .ref p9, .ref t9, .ref n9, .int (nI tn), .int (nI (zmH tx en h false 59)), .int (nI en), .int (nI ln), .int (zI (zmW tx en h false 59)), .int (zI false)])), (t9, .inl (cy 0, 60, .inl tx))] H := hP
            have hD : va_D A [(x9, .inr (10, [.int 0, .int (nI ch), .int era, .int why, .int det, .int cau, .int (zI sv), .int (zI rj), .ref v9, .ref b9, .ref s9, .ref k9, .ref p9, .ref t9, .ref n9, .int (nI tn), .int (nI (zmH tx en h false 59)), .int (nI en), .int (nI ln), .int (zI (zmW tx en h false 59)), .int (zI false)])), (t9, .inl (cy 0, 60, .inl tx))] := hD
            refine lv_aload_n hx hb dX6_commands_47 rfl (lv_at hl 0 rfl) ?_
            refine va_get (D := D) (ci := 10) (v := .int (zI (zmW tx en h false 59))) (C := RX6) (T := TX6) (N := 21) hx hb hts in_RX6 hown hK hP 0 rfl rfl 19 (by decide) (hts _ (List.mem_of_getElem? (i := 2) rfl)) (fun _ h9 => h9) rfl dX6_commands_48 ?_
            refine lv_if_ne (tgt := 58) hx hb dX6_commands_51 (by decide) (fun c_4 => ?_) (fun c_4 => ?_)
            · replace c_4 := zI1 c_4
              have h59 : ¬ zqs tx en h = 59 := fun z => by simp [zmW, z] at c_4
              have er_5 : zmH tx en h false 59 = h := (by rw [zmH, if_pos c_4])
              rw [er_5] at hP hD
              have er_6 : zmW tx en h false 59 = true := c_4
              rw [er_6] at hP hD
              have e1 : zPH tx en = h := by rw [hH, zLH, if_neg (by decide), if_pos hlt, if_neg h59]
              have e2 : zPW tx en = true := by rw [hW, zLW, if_neg (by decide), if_pos hlt, if_neg h59]
              have e3 : zPC tx en = n + 1 := by rw [hC, zLC, if_neg (by decide), if_pos hlt, if_neg h59]
              refine lv_iinc (v := nI (n + 1)) (lv' := [(1, .int (nI (n + 1))), (0, .ref x9)]) hx hb dX6_commands_58 hl (k := 1) rfl (by rw [show Int32.ofInt 1 = nI 1 from rfl, nI_add]) (by decide) rfl (fun ls hl => ?_)
              refine lv_goto (tgt := 16) hx hb dX6_commands_61 (by decide) ?_
              refine lv_aload_n hx hb dX6_commands_16 rfl (lv_at hl 1 rfl) ?_
              refine va_get (D := D) (ci := 10) (v := .int (zI true)) (C := RX6) (T := TX6) (N := 21) hx hb hts in_RX6 hown hK hP 0 rfl rfl 19 (by decide) (hts _ (List.mem_of_getElem? (i := 2) rfl)) (fun _ h9 => h9) rfl dX6_commands_17 ?_
              refine lv_if_ne (tgt := 64) hx hb dX6_commands_20 (by decide) (fun c_7 => ?_) (fun c_7 => ?_)
              · replace c_7 := zI1 c_7
                refine lv_iload_n hx hb dX6_commands_64 rfl (lv_at hl 0 rfl) ?_
                exact ziret hend hx hb hr hlk hK hP hD hS dX6_commands_65 (by rw [e3]) (by rw [e1, e2])
              · replace c_7 := zI0 c_7
                exact absurd c_7 (by decide)
            · replace c_4 := zI0 c_4
              have h59 : zqs tx en h = 59 := by simpa [zmW] using c_4
              have er_8 : zmH tx en h false 59 = h + 1 := (by rw [zmH, if_neg (by rw [c_4]; decide)])
              rw [er_8] at hP hD
              have er_9 : zmW tx en h false 59 = false := c_4
              rw [er_9] at hP hD
              refine lv_aload_n hx hb dX6_commands_54 rfl (lv_at hl 0 rfl) ?_
              refine zcV (As := []) (rest := []) [0, 1] 0 hg.1 ⟨hx, hb, hml, hown, hts⟩ (c_X6_command_gp hg l D cy x9 0 ch era why det cau sv rj v9 b9 s9 k9 p9 t9 n9 tn (h + 1) en ln false tx (by first | assumption | omega) (by first | assumption | omega)) (cwV 0 hts gX6_commands_X6_command rfl rfl rfl (by decide +kernel) ⟨Nat.le_of_ble_eq_true rfl, Nat.le_of_ble_eq_true rfl⟩) hG hK hP hD hS hA rfl rfl (Eq.trans (b := [x9, t9]) rfl rfl) rfl rfl rfl hl.1 rfl (Nat.le_of_ble_eq_true rfl) dX6_commands_55 ⟨Nat.zero_le _, Nat.zero_le _⟩ (fun H locs hP hD hS => ?_)
              have hP : va_P D vwCl [(x9, .inr (10, [.int 0, .int (nI ch), .int era, .int why, .int det, .int cau, .int (zI sv), .int (zI rj), .ref v9, .ref b9, .ref s9, .ref k9, .ref p9, .ref t9, .ref n9, .int (nI tn), .int (nI (zcH tx en (h + 1))), .int (nI en), .int (nI ln), .int (zI (zcW tx en (h + 1))), .int (zI false)])), (t9, .inl (cy 0, 60, .inl tx))] H := hP
              have hD : va_D A [(x9, .inr (10, [.int 0, .int (nI ch), .int era, .int why, .int det, .int cau, .int (zI sv), .int (zI rj), .ref v9, .ref b9, .ref s9, .ref k9, .ref p9, .ref t9, .ref n9, .int (nI tn), .int (nI (zcH tx en (h + 1))), .int (nI en), .int (nI ln), .int (zI (zcW tx en (h + 1))), .int (zI false)])), (t9, .inl (cy 0, 60, .inl tx))] := hD
              refine lv_iinc (v := nI (n + 1)) (lv' := [(1, .int (nI (n + 1))), (0, .ref x9)]) hx hb dX6_commands_58 hl (k := 1) rfl (by rw [show Int32.ofInt 1 = nI 1 from rfl, nI_add]) (by decide) rfl (fun ls hl => ?_)
              refine lv_goto (tgt := 16) hx hb dX6_commands_61 (by decide) ?_
              exact ih16 (zcH tx en (h + 1)) (zcW tx en (h + 1)) (n + 1) F3 (zI (zcW tx en (h + 1))) (by have := zcH_ge tx en (h + 1); omega) (zcH_en (by omega)) (by rw [hH, zLH, if_neg (by decide), if_pos hlt, if_pos h59]) (by rw [hW, zLW, if_neg (by decide), if_pos hlt, if_pos h59]) (by rw [hC, zLC, if_neg (by decide), if_pos hlt, if_pos h59]) (by omega) rfl H locs hP hD hS ls (lv_sub hl [1, 0] rfl)
  exact L16 (61 + 1) (zcH tx en 0) (zcW tx en 0) 1 61 (zI (zcW tx en 0)) (by omega) (zcH_en (Nat.zero_le _)) rfl rfl rfl (Nat.lt_succ_self _) rfl H locs hP hD hS ls (lv_sub hl [1, 0] rfl)

abbrev rmX6_commands_do : Room := { frames := 7, cells := 0, slots := 0, locals := 163 }
set_option maxHeartbeats 4000000 in
set_option maxRecDepth 100000 in
theorem c_X6_commands_do {G : zG} (hg : zGN G) (l : Launch) (D : va_G) (cy : Nat → ClassId) (x9 : Nat) (ch : Nat) (era : Int32) (why : Int32) (det : Int32) (cau : Int32) (sv : Bool) (rj : Bool) (v9 : Nat) (b9 : Nat) (s9 : Nat) (k9 : Nat) (p9 : Nat) (t9 : Nat) (n9 : Nat) (tn : Nat) (he : Nat) (en : Nat) (ln : Nat) (iw : Bool) (tx : Nat → Int32) (mm : Nat) (hs : Nat → Nat) (vs : Nat → Nat → Int32) (rs : Nat → Int32) (res2 : Int32) (th2 : Int32) (why2 : Int32) (det2 : Int32) (cau2 : Int32) (rj2 : Bool) (v2 : Nat → Int32) (hen : en ≤ 60) (hs0 : hs 0 = 0) (hss : ∀ i, i < mm → hs (i + 1) = zcH tx en (hs i) + 1) (hsw : ∀ i, i ≤ mm → zcW tx en (hs i) = false) (hsg : ∀ i, i < mm → zqs tx en (zcH tx en (hs i)) = 59) (hs6 : ∀ i, i ≤ mm → hs i ≤ en) (hdi : ∀ i, i < mm → zM G D vwCl (zT cy) l yX6_does wsX6_does { frames := 5, cells := 0, slots := 0, locals := 116 } [.ref x9, .int (zqs tx en (hs i)), .int (zcA tx en (hs i)), .int (zcB tx en (hs i))] [(x9, .inr (10, [.int 0, .int (nI ch), .int era, .int why, .int det, .int cau, .int (zI sv), .int (zI rj), .ref v9, .ref b9, .ref s9, .ref k9, .ref p9, .ref t9, .ref n9, .int (nI tn), .int (nI (zcH tx en (hs i))), .int (nI en), .int (nI ln), .int (zI false), .int (zI true)])), (v9, .inl (cy 0, 188, .inl (vs i)))] (some (.int (rs i))) [(x9, .inr (10, [.int 0, .int (nI ch), .int era, .int why, .int det, .int cau, .int (zI sv), .int (zI rj), .ref v9, .ref b9, .ref s9, .ref k9, .ref p9, .ref t9, .ref n9, .int (nI tn), .int (nI (zcH tx en (hs i))), .int (nI en), .int (nI ln), .int (zI false), .int (zI true)])), (v9, .inl (cy 0, 188, .inl (vs (i + 1))))]) (hdm : zM G D vwCl (zT cy) l yX6_does wsX6_does { frames := 5, cells := 0, slots := 0, locals := 116 } [.ref x9, .int (zqs tx en (hs mm)), .int (zcA tx en (hs mm)), .int (zcB tx en (hs mm))] [(x9, .inr (10, [.int 0, .int (nI ch), .int era, .int why, .int det, .int cau, .int (zI sv), .int (zI rj), .ref v9, .ref b9, .ref s9, .ref k9, .ref p9, .ref t9, .ref n9, .int (nI tn), .int (nI (zcH tx en (hs mm))), .int (nI en), .int (nI ln), .int (zI false), .int (zI true)])), (v9, .inl (cy 0, 188, .inl (vs mm)))] (some (.int res2)) [(x9, .inr (10, [.int th2, .int (nI ch), .int era, .int why2, .int det2, .int cau2, .int (zI sv), .int (zI rj2), .ref v9, .ref b9, .ref s9, .ref k9, .ref p9, .ref t9, .ref n9, .int (nI tn), .int (nI (zcH tx en (hs mm))), .int (nI en), .int (nI ln), .int (zI false), .int (zI true)])), (v9, .inl (cy 0, 188, .inl v2))]) (hfe : ¬ th2 = 0 ∨ ¬ zcH tx en (hs mm) < en) : zM G D vwCl (zT cy) l yX6_commands wsX6_commands rmX6_commands_do [.ref x9] [(x9, .inr (10, [.int 0, .int (nI ch), .int era, .int why, .int det, .int cau, .int (zI sv), .int (zI rj), .ref v9, .ref b9, .ref s9, .ref k9, .ref p9, .ref t9, .ref n9, .int (nI tn), .int (nI he), .int (nI en), .int (nI ln), .int (zI iw), .int (zI true)])), (t9, .inl (cy 0, 60, .inl tx)), (v9, .inl (cy 0, 188, .inl (vs 0)))] (some (.int (nI (mm + 1)))) [(x9, .inr (10, [.int th2, .int (nI ch), .int era, .int why2, .int det2, .int cau2, .int (zI sv), .int (zI rj2), .ref v9, .ref b9, .ref s9, .ref k9, .ref p9, .ref t9, .ref n9, .int (nI tn), .int (nI (zcH tx en (hs mm))), .int (nI en), .int (nI ln), .int (zI false), .int (zI true)])), (t9, .inl (cy 0, 60, .inl tx)), (v9, .inl (cy 0, 188, .inl v2))] := by
  refine zM_of (cc := cX6_commands) (maxL := 2) (ret := (some .int)) (by decide) rfl (Nat.le_of_ble_eq_true rfl) ?_
  intro p e s m below meth c A Q hend hx hb hml hr hts hown hlk hG hK hP hD hA hS ls hl
  have hown : s.vm.findClass RX6 = some m.cls := hown
  have in_RX6 : ∀ w ∈ u_ws RX6 TX6 21, w ∈ wsX6_commands := by decide +kernel
  have hl : lv_has ls 2 [(0, .ref x9)] := hl
  refine lv_aload_n hx hb dX6_commands_0 rfl (lv_at hl 0 rfl) ?_
  refine lv_iconst (v := 0) hx hb dX6_commands_1 (by decide) ?_
  refine z_top (y := nI (hs 0)) (by rw [hs0]; rfl) ?_
  refine va_put (D := D) (ci := 10) (v := .int (nI (hs 0))) (ty := .int) (C := RX6) (T := TX6) (N := 21) hx hb hts in_RX6 tyX6 tyX6_ok nmX6 hown hK hP hD hS 0 rfl rfl 16 (by decide) (hts _ (List.mem_of_getElem? (i := 1) rfl)) (fun _ h9 => h9) rfl (by decide +kernel) rfl rfl (Nat.le_of_ble_eq_true rfl) dX6_commands_2 (fun H locs hP hD hS => ?_)
  have hP : va_P D vwCl [(x9, .inr (10, [.int 0, .int (nI ch), .int era, .int why, .int det, .int cau, .int (zI sv), .int (zI rj), .ref v9, .ref b9, .ref s9, .ref k9, .ref p9, .ref t9, .ref n9, .int (nI tn), .int (nI (hs 0)), .int (nI en), .int (nI ln), .int (zI iw), .int (zI true)])), (t9, .inl (cy 0, 60, .inl tx)), (v9, .inl (cy 0, 188, .inl (vs 0)))] H := hP
  have hD : va_D A [(x9, .inr (10, [.int 0, .int (nI ch), .int era, .int why, .int det, .int cau, .int (zI sv), .int (zI rj), .ref v9, .ref b9, .ref s9, .ref k9, .ref p9, .ref t9, .ref n9, .int (nI tn), .int (nI (hs 0)), .int (nI en), .int (nI ln), .int (zI iw), .int (zI true)])), (t9, .inl (cy 0, 60, .inl tx)), (v9, .inl (cy 0, 188, .inl (vs 0)))] := hD
  refine lv_aload_n hx hb dX6_commands_5 rfl (lv_at hl 0 rfl) ?_
  refine lv_iconst (v := 0) hx hb dX6_commands_6 (by decide) ?_
  refine z_top (y := zI false) rfl ?_
  refine va_put (D := D) (ci := 10) (v := .int (zI false)) (ty := .boolean) (C := RX6) (T := TX6) (N := 21) hx hb hts in_RX6 tyX6 tyX6_ok nmX6 hown hK hP hD hS 0 rfl rfl 19 (by decide) (hts _ (List.mem_of_getElem? (i := 2) rfl)) (fun _ h9 => h9) rfl (by decide +kernel) (zI_nar _) (zI_fit _) (Nat.le_of_ble_eq_true rfl) dX6_commands_7 (fun H locs hP hD hS => ?_)
  have hP : va_P D vwCl [(x9, .inr (10, [.int 0, .int (nI ch), .int era, .int why, .int det, .int cau, .int (zI sv), .int (zI rj), .ref v9, .ref b9, .ref s9, .ref k9, .ref p9, .ref t9, .ref n9, .int (nI tn), .int (nI (hs 0)), .int (nI en), .int (nI ln), .int (zI false), .int (zI true)])), (t9, .inl (cy 0, 60, .inl tx)), (v9, .inl (cy 0, 188, .inl (vs 0)))] H := hP
  have hD : va_D A [(x9, .inr (10, [.int 0, .int (nI ch), .int era, .int why, .int det, .int cau, .int (zI sv), .int (zI rj), .ref v9, .ref b9, .ref s9, .ref k9, .ref p9, .ref t9, .ref n9, .int (nI tn), .int (nI (hs 0)), .int (nI en), .int (nI ln), .int (zI false), .int (zI true)])), (t9, .inl (cy 0, 60, .inl tx)), (v9, .inl (cy 0, 188, .inl (vs 0)))] := hD
  refine lv_iconst (v := 1) hx hb dX6_commands_10 (by decide) ?_
  refine lv_istore_n (lv' := [(1, .int 1), (0, .ref x9)]) hx hb dX6_commands_11 rfl hl (by decide) rfl (fun ls hl => ?_)
  refine lv_aload_n hx hb dX6_commands_12 rfl (lv_at hl 1 rfl) ?_
  by_cases hm0 : mm = 0
  · subst hm0
    refine zcV (As := []) (rest := []) [0, 1, 2] 0 hg.1 ⟨hx, hb, hml, hown, hts⟩ (c_X6_command_gd hg l D cy x9 ch era why det cau sv rj v9 b9 s9 k9 p9 t9 n9 tn (hs 0) en ln false tx (vs 0) res2 th2 why2 det2 cau2 rj2 v2 (by rw [hs0]; omega) (by first | assumption | omega) (hsw 0 (by omega)) hdm) (cwV 0 hts gX6_commands_X6_command rfl rfl rfl (by decide +kernel) ⟨Nat.le_of_ble_eq_true rfl, Nat.le_of_ble_eq_true rfl⟩) hG hK hP hD hS hA rfl rfl (Eq.trans (b := [x9, t9, v9]) rfl rfl) rfl rfl rfl hl.1 rfl (Nat.le_of_ble_eq_true rfl) dX6_commands_13 ⟨Nat.zero_le _, Nat.zero_le _⟩ (fun H locs hP hD hS => ?_)
    have hP : va_P D vwCl [(x9, .inr (10, [.int th2, .int (nI ch), .int era, .int why2, .int det2, .int cau2, .int (zI sv), .int (zI rj2), .ref v9, .ref b9, .ref s9, .ref k9, .ref p9, .ref t9, .ref n9, .int (nI tn), .int (nI (zcH tx en (hs 0))), .int (nI en), .int (nI ln), .int (zI false), .int (zI true)])), (t9, .inl (cy 0, 60, .inl tx)), (v9, .inl (cy 0, 188, .inl v2))] H := hP
    have hD : va_D A [(x9, .inr (10, [.int th2, .int (nI ch), .int era, .int why2, .int det2, .int cau2, .int (zI sv), .int (zI rj2), .ref v9, .ref b9, .ref s9, .ref k9, .ref p9, .ref t9, .ref n9, .int (nI tn), .int (nI (zcH tx en (hs 0))), .int (nI en), .int (nI ln), .int (zI false), .int (zI true)])), (t9, .inl (cy 0, 60, .inl tx)), (v9, .inl (cy 0, 188, .inl v2))] := hD
    refine lv_aload_n hx hb dX6_commands_16 rfl (lv_at hl 1 rfl) ?_
    refine va_get (D := D) (ci := 10) (v := .int (zI false)) (C := RX6) (T := TX6) (N := 21) hx hb hts in_RX6 hown hK hP 0 rfl rfl 19 (by decide) (hts _ (List.mem_of_getElem? (i := 2) rfl)) (fun _ h9 => h9) rfl dX6_commands_17 ?_
    refine lv_if_ne (tgt := 64) hx hb dX6_commands_20 (by decide) (fun c_1 => ?_) (fun c_1 => ?_)
    · replace c_1 := zI1 c_1
      exact absurd c_1 (by decide)
    · replace c_1 := zI0 c_1
      refine lv_aload_n hx hb dX6_commands_23 rfl (lv_at hl 1 rfl) ?_
      refine va_get (D := D) (ci := 10) (v := .int th2) (C := RX6) (T := TX6) (N := 21) hx hb hts in_RX6 hown hK hP 0 rfl rfl 0 (by decide) (hts _ (List.mem_of_getElem? (i := 3) rfl)) (fun _ h9 => h9) rfl dX6_commands_24 ?_
      refine lv_if_ne (tgt := 64) hx hb dX6_commands_27 (by decide) (fun c_2 => ?_) (fun c_2 => ?_)
      · refine lv_iload_n hx hb dX6_commands_64 rfl (lv_at hl 0 rfl) ?_
        exact ziret hend hx hb hr hlk hK hP hD hS dX6_commands_65 (by rfl) (by rfl)
      · have c_th := c_2
        refine lv_aload_n hx hb dX6_commands_30 rfl (lv_at hl 1 rfl) ?_
        refine va_get (D := D) (ci := 10) (v := .int (nI (zcH tx en (hs 0)))) (C := RX6) (T := TX6) (N := 21) hx hb hts in_RX6 hown hK hP 0 rfl rfl 16 (by decide) (hts _ (List.mem_of_getElem? (i := 1) rfl)) (fun _ h9 => h9) rfl dX6_commands_31 ?_
        refine lv_aload_n hx hb dX6_commands_34 rfl (lv_at hl 1 rfl) ?_
        refine va_get (D := D) (ci := 10) (v := .int (nI en)) (C := RX6) (T := TX6) (N := 21) hx hb hts in_RX6 hown hK hP 0 rfl rfl 17 (by decide) (hts _ (List.mem_of_getElem? (i := 4) rfl)) (fun _ h9 => h9) rfl dX6_commands_35 ?_
        refine lv_icmp_ge (tgt := 64) hx hb dX6_commands_38 (by decide) (fun c_3 => ?_) (fun c_3 => ?_)
        · refine lv_iload_n hx hb dX6_commands_64 rfl (lv_at hl 0 rfl) ?_
          exact ziret hend hx hb hr hlk hK hP hD hS dX6_commands_65 (by rfl) (by rfl)
        · have hbd := zcH_en (tx := tx) (hs6 0 (by omega))
          exact (hfe.elim (fun z => z (by simpa using c_th)) (fun z => z (Nat.lt_of_not_le (fun y => c_3 (nI_le y (by omega)))))).elim
  · refine zcV (As := []) (rest := []) [0, 1, 2] 0 hg.1 ⟨hx, hb, hml, hown, hts⟩ (c_X6_command_gd hg l D cy x9 ch era why det cau sv rj v9 b9 s9 k9 p9 t9 n9 tn (hs 0) en ln false tx (vs 0) (rs 0) 0 why det cau rj (vs (0 + 1)) (by rw [hs0]; omega) (by first | assumption | omega) (hsw 0 (by omega)) (hdi 0 (by omega))) (cwV 0 hts gX6_commands_X6_command rfl rfl rfl (by decide +kernel) ⟨Nat.le_of_ble_eq_true rfl, Nat.le_of_ble_eq_true rfl⟩) hG hK hP hD hS hA rfl rfl (Eq.trans (b := [x9, t9, v9]) rfl rfl) rfl rfl rfl hl.1 rfl (Nat.le_of_ble_eq_true rfl) dX6_commands_13 ⟨Nat.zero_le _, Nat.zero_le _⟩ (fun H locs hP hD hS => ?_)
    have hP : va_P D vwCl [(x9, .inr (10, [.int 0, .int (nI ch), .int era, .int why, .int det, .int cau, .int (zI sv), .int (zI rj), .ref v9, .ref b9, .ref s9, .ref k9, .ref p9, .ref t9, .ref n9, .int (nI tn), .int (nI (zcH tx en (hs 0))), .int (nI en), .int (nI ln), .int (zI false), .int (zI true)])), (t9, .inl (cy 0, 60, .inl tx)), (v9, .inl (cy 0, 188, .inl (vs (0 + 1))))] H := hP
    have hD : va_D A [(x9, .inr (10, [.int 0, .int (nI ch), .int era, .int why, .int det, .int cau, .int (zI sv), .int (zI rj), .ref v9, .ref b9, .ref s9, .ref k9, .ref p9, .ref t9, .ref n9, .int (nI tn), .int (nI (zcH tx en (hs 0))), .int (nI en), .int (nI ln), .int (zI false), .int (zI true)])), (t9, .inl (cy 0, 60, .inl tx)), (v9, .inl (cy 0, 188, .inl (vs (0 + 1))))] := hD
    have L16 : ∀ (F : Nat) (i : Nat) (x16_0 : Int32) (x16_1 : Int32) (x16_2 : Nat → Int32), i < mm → mm - i < F → x16_0 = nI (i + 1) → x16_1 = nI (zcH tx en (hs i)) → x16_2 = vs (i + 1) → ∀ (H : Heap) (locs : List Loc), va_P D vwCl [(x9, .inr (10, [.int 0, .int (nI ch), .int era, .int why, .int det, .int cau, .int (zI sv), .int (zI rj), .ref v9, .ref b9, .ref s9, .ref k9, .ref p9, .ref t9, .ref n9, .int (nI tn), .int x16_1, .int (nI en), .int (nI ln), .int (zI false), .int (zI true)])), (t9, .inl (cy 0, 60, .inl tx)), (v9, .inl (cy 0, 188, .inl x16_2))] H → va_D A [(x9, .inr (10, [.int 0, .int (nI ch), .int era, .int why, .int det, .int cau, .int (zI sv), .int (zI rj), .ref v9, .ref b9, .ref s9, .ref k9, .ref p9, .ref t9, .ref n9, .int (nI tn), .int x16_1, .int (nI en), .int (nI ln), .int (zI false), .int (zI true)])), (t9, .inl (cy 0, 60, .inl tx)), (v9, .inl (cy 0, 188, .inl x16_2))] → va_S A s.heap H locs → ∀ ls : Array Slot, lv_has ls 2 [(0, .ref x9), (1, .int x16_0)] → W p l e rmX6_commands_do s m ([.ref x9] : List Value).toArray below meth c H locs 0 0 Q (F0 m 16 ls []) := by
      intro F
      induction F with
      | zero =>
        intro i x16_0 x16_1 x16_2 hi hF ex16_0 ex16_1 ex16_2 H locs hP hD hS ls hl
        exact absurd hF (Nat.not_lt_zero _)
      | succ F ih16 =>
        intro i x16_0 x16_1 x16_2 hi hF ex16_0 ex16_1 ex16_2 H locs hP hD hS ls hl
        subst ex16_0
        subst ex16_1
        subst ex16_2
        refine lv_aload_n hx hb dX6_commands_16 rfl (lv_at hl 0 rfl) ?_
        refine va_get (D := D) (ci := 10) (v := .int (zI false)) (C := RX6) (T := TX6) (N := 21) hx hb hts in_RX6 hown hK hP 0 rfl rfl 19 (by decide) (hts _ (List.mem_of_getElem? (i := 2) rfl)) (fun _ h9 => h9) rfl dX6_commands_17 ?_
        refine lv_if_ne (tgt := 64) hx hb dX6_commands_20 (by decide) (fun c_4 => ?_) (fun c_4 => ?_)
        · replace c_4 := zI1 c_4
          exact absurd c_4 (by decide)
        · replace c_4 := zI0 c_4
          refine lv_aload_n hx hb dX6_commands_23 rfl (lv_at hl 0 rfl) ?_
          refine va_get (D := D) (ci := 10) (v := .int 0) (C := RX6) (T := TX6) (N := 21) hx hb hts in_RX6 hown hK hP 0 rfl rfl 0 (by decide) (hts _ (List.mem_of_getElem? (i := 3) rfl)) (fun _ h9 => h9) rfl dX6_commands_24 ?_
          refine lv_if_ne (tgt := 64) hx hb dX6_commands_27 (by decide) (fun c_5 => ?_) (fun c_5 => ?_)
          · exact absurd c_5 (by decide)
          · have c_th := c_5
            refine lv_aload_n hx hb dX6_commands_30 rfl (lv_at hl 0 rfl) ?_
            refine va_get (D := D) (ci := 10) (v := .int (nI (zcH tx en (hs i)))) (C := RX6) (T := TX6) (N := 21) hx hb hts in_RX6 hown hK hP 0 rfl rfl 16 (by decide) (hts _ (List.mem_of_getElem? (i := 1) rfl)) (fun _ h9 => h9) rfl dX6_commands_31 ?_
            refine lv_aload_n hx hb dX6_commands_34 rfl (lv_at hl 0 rfl) ?_
            refine va_get (D := D) (ci := 10) (v := .int (nI en)) (C := RX6) (T := TX6) (N := 21) hx hb hts in_RX6 hown hK hP 0 rfl rfl 17 (by decide) (hts _ (List.mem_of_getElem? (i := 4) rfl)) (fun _ h9 => h9) rfl dX6_commands_35 ?_
            refine lv_icmp_ge (tgt := 64) hx hb dX6_commands_38 (by decide) (fun c_6 => ?_) (fun c_6 => ?_)
            · exact absurd ((nI_leI (by omega) (by have := zqs_lt (hsg i hi) (by decide); omega)).mp c_6) (Nat.not_le.mpr (zqs_lt (hsg i hi) (by decide)))
            · refine lv_aload_n hx hb dX6_commands_41 rfl (lv_at hl 0 rfl) ?_
              refine lv_bipush (v := 59) hx hb dX6_commands_42 (by decide) ?_
              refine zcV (As := [.int 59]) (rest := []) [0, 1] 0 hg.1 ⟨hx, hb, hml, hown, hts⟩ (c_X6_mark hg l D cy x9 0 ch era why det cau sv rj v9 b9 s9 k9 p9 t9 n9 tn (zcH tx en (hs i)) en ln false true tx 59 (by have := zqs_lt (hsg i hi) (by decide); omega) (by first | assumption | omega)) (cwV 1 hts gX6_commands_X6_mark rfl rfl rfl (by decide +kernel) ⟨Nat.le_of_ble_eq_true rfl, Nat.le_of_ble_eq_true rfl⟩) hG hK hP hD hS hA rfl rfl (Eq.trans (b := [x9, t9]) rfl rfl) rfl rfl rfl hl.1 rfl (Nat.le_of_ble_eq_true rfl) dX6_commands_44 ⟨Nat.zero_le _, Nat.zero_le _⟩ (fun H locs hP hD hS => ?_)
              have hP : va_P D vwCl [(x9, .inr (10, [.int 0, .int (nI ch), .int era, .int why, .int det, .int cau, .int (zI sv), .int (zI rj), .ref v9, .ref b9, .ref s9, .ref k9, .ref p9, .ref t9, .ref n9, .int (nI tn), .int (nI (zmH tx en (zcH tx en (hs i)) false 59)), .int (nI en), .int (nI ln), .int (zI (zmW tx en (zcH tx en (hs i)) false 59)), .int (zI true)])), (t9, .inl (cy 0, 60, .inl tx)), (v9, .inl (cy 0, 188, .inl (vs (i + 1))))] H := hP
              have hD : va_D A [(x9, .inr (10, [.int 0, .int (nI ch), .int era, .int why, .int det, .int cau, .int (zI sv), .int (zI rj), .ref v9, .ref b9, .ref s9, .ref k9, .ref p9, .ref t9, .ref n9, .int (nI tn), .int (nI (zmH tx en (zcH tx en (hs i)) false 59)), .int (nI en), .int (nI ln), .int (zI (zmW tx en (zcH tx en (hs i)) false 59)), .int (zI true)])), (t9, .inl (cy 0, 60, .inl tx)), (v9, .inl (cy 0, 188, .inl (vs (i + 1))))] := hD
              refine lv_aload_n hx hb dX6_commands_47 rfl (lv_at hl 0 rfl) ?_
              refine va_get (D := D) (ci := 10) (v := .int (zI (zmW tx en (zcH tx en (hs i)) false 59))) (C := RX6) (T := TX6) (N := 21) hx hb hts in_RX6 hown hK hP 0 rfl rfl 19 (by decide) (hts _ (List.mem_of_getElem? (i := 2) rfl)) (fun _ h9 => h9) rfl dX6_commands_48 ?_
              refine lv_if_ne (tgt := 58) hx hb dX6_commands_51 (by decide) (fun c_7 => ?_) (fun c_7 => ?_)
              · replace c_7 := zI1 c_7
                have hz1 := c_7
                exact absurd hz1 (by simp [zmW, hsg i hi])
              · replace c_7 := zI0 c_7
                have er_8 : zmH tx en (zcH tx en (hs i)) false 59 = hs (i + 1) := (by rw [zmH, if_neg (by rw [c_7]; decide), hss i hi])
                rw [er_8] at hP hD
                have er_9 : zmW tx en (zcH tx en (hs i)) false 59 = false := c_7
                rw [er_9] at hP hD
                refine lv_aload_n hx hb dX6_commands_54 rfl (lv_at hl 0 rfl) ?_
                by_cases hmi : mm = i + 1
                · subst hmi
                  refine zcV (As := []) (rest := []) [0, 1, 2] 0 hg.1 ⟨hx, hb, hml, hown, hts⟩ (c_X6_command_gd hg l D cy x9 ch era why det cau sv rj v9 b9 s9 k9 p9 t9 n9 tn (hs (i + 1)) en ln false tx (vs (i + 1)) res2 th2 why2 det2 cau2 rj2 v2 (Nat.le_trans (hs6 (i + 1) (by omega)) hen) (by first | assumption | omega) (hsw (i + 1) (by omega)) hdm) (cwV 0 hts gX6_commands_X6_command rfl rfl rfl (by decide +kernel) ⟨Nat.le_of_ble_eq_true rfl, Nat.le_of_ble_eq_true rfl⟩) hG hK hP hD hS hA rfl rfl (Eq.trans (b := [x9, t9, v9]) rfl rfl) rfl rfl rfl hl.1 rfl (Nat.le_of_ble_eq_true rfl) dX6_commands_55 ⟨Nat.zero_le _, Nat.zero_le _⟩ (fun H locs hP hD hS => ?_)
                  have hP : va_P D vwCl [(x9, .inr (10, [.int th2, .int (nI ch), .int era, .int why2, .int det2, .int cau2, .int (zI sv), .int (zI rj2), .ref v9, .ref b9, .ref s9, .ref k9, .ref p9, .ref t9, .ref n9, .int (nI tn), .int (nI (zcH tx en (hs (i + 1)))), .int (nI en), .int (nI ln), .int (zI false), .int (zI true)])), (t9, .inl (cy 0, 60, .inl tx)), (v9, .inl (cy 0, 188, .inl v2))] H := hP
                  have hD : va_D A [(x9, .inr (10, [.int th2, .int (nI ch), .int era, .int why2, .int det2, .int cau2, .int (zI sv), .int (zI rj2), .ref v9, .ref b9, .ref s9, .ref k9, .ref p9, .ref t9, .ref n9, .int (nI tn), .int (nI (zcH tx en (hs (i + 1)))), .int (nI en), .int (nI ln), .int (zI false), .int (zI true)])), (t9, .inl (cy 0, 60, .inl tx)), (v9, .inl (cy 0, 188, .inl v2))] := hD
                  refine lv_iinc (v := nI ((i + 1) + 1)) (lv' := [(1, .int (nI ((i + 1) + 1))), (0, .ref x9)]) hx hb dX6_commands_58 hl (k := 1) rfl (by rw [show Int32.ofInt 1 = nI 1 from rfl, nI_add]) (by decide) rfl (fun ls hl => ?_)
                  refine lv_goto (tgt := 16) hx hb dX6_commands_61 (by decide) ?_
                  refine lv_aload_n hx hb dX6_commands_16 rfl (lv_at hl 1 rfl) ?_
                  refine va_get (D := D) (ci := 10) (v := .int (zI false)) (C := RX6) (T := TX6) (N := 21) hx hb hts in_RX6 hown hK hP 0 rfl rfl 19 (by decide) (hts _ (List.mem_of_getElem? (i := 2) rfl)) (fun _ h9 => h9) rfl dX6_commands_17 ?_
                  refine lv_if_ne (tgt := 64) hx hb dX6_commands_20 (by decide) (fun c_10 => ?_) (fun c_10 => ?_)
                  · replace c_10 := zI1 c_10
                    exact absurd c_10 (by decide)
                  · replace c_10 := zI0 c_10
                    refine lv_aload_n hx hb dX6_commands_23 rfl (lv_at hl 1 rfl) ?_
                    refine va_get (D := D) (ci := 10) (v := .int th2) (C := RX6) (T := TX6) (N := 21) hx hb hts in_RX6 hown hK hP 0 rfl rfl 0 (by decide) (hts _ (List.mem_of_getElem? (i := 3) rfl)) (fun _ h9 => h9) rfl dX6_commands_24 ?_
                    refine lv_if_ne (tgt := 64) hx hb dX6_commands_27 (by decide) (fun c_11 => ?_) (fun c_11 => ?_)
                    · refine lv_iload_n hx hb dX6_commands_64 rfl (lv_at hl 0 rfl) ?_
                      exact ziret hend hx hb hr hlk hK hP hD hS dX6_commands_65 (by rfl) (by rfl)
                    · have c_th := c_11
                      refine lv_aload_n hx hb dX6_commands_30 rfl (lv_at hl 1 rfl) ?_
                      refine va_get (D := D) (ci := 10) (v := .int (nI (zcH tx en (hs (i + 1))))) (C := RX6) (T := TX6) (N := 21) hx hb hts in_RX6 hown hK hP 0 rfl rfl 16 (by decide) (hts _ (List.mem_of_getElem? (i := 1) rfl)) (fun _ h9 => h9) rfl dX6_commands_31 ?_
                      refine lv_aload_n hx hb dX6_commands_34 rfl (lv_at hl 1 rfl) ?_
                      refine va_get (D := D) (ci := 10) (v := .int (nI en)) (C := RX6) (T := TX6) (N := 21) hx hb hts in_RX6 hown hK hP 0 rfl rfl 17 (by decide) (hts _ (List.mem_of_getElem? (i := 4) rfl)) (fun _ h9 => h9) rfl dX6_commands_35 ?_
                      refine lv_icmp_ge (tgt := 64) hx hb dX6_commands_38 (by decide) (fun c_12 => ?_) (fun c_12 => ?_)
                      · refine lv_iload_n hx hb dX6_commands_64 rfl (lv_at hl 0 rfl) ?_
                        exact ziret hend hx hb hr hlk hK hP hD hS dX6_commands_65 (by rfl) (by rfl)
                      · have hbd := zcH_en (tx := tx) (hs6 (i + 1) (by omega))
                        exact (hfe.elim (fun z => z (by simpa using c_th)) (fun z => z (Nat.lt_of_not_le (fun y => c_12 (nI_le y (by omega)))))).elim
                · refine zcV (As := []) (rest := []) [0, 1, 2] 0 hg.1 ⟨hx, hb, hml, hown, hts⟩ (c_X6_command_gd hg l D cy x9 ch era why det cau sv rj v9 b9 s9 k9 p9 t9 n9 tn (hs (i + 1)) en ln false tx (vs (i + 1)) (rs (i + 1)) 0 why det cau rj (vs (i + 1 + 1)) (Nat.le_trans (hs6 (i + 1) (by omega)) hen) (by first | assumption | omega) (hsw (i + 1) (by omega)) (hdi (i + 1) (by omega))) (cwV 0 hts gX6_commands_X6_command rfl rfl rfl (by decide +kernel) ⟨Nat.le_of_ble_eq_true rfl, Nat.le_of_ble_eq_true rfl⟩) hG hK hP hD hS hA rfl rfl (Eq.trans (b := [x9, t9, v9]) rfl rfl) rfl rfl rfl hl.1 rfl (Nat.le_of_ble_eq_true rfl) dX6_commands_55 ⟨Nat.zero_le _, Nat.zero_le _⟩ (fun H locs hP hD hS => ?_)
                  have hP : va_P D vwCl [(x9, .inr (10, [.int 0, .int (nI ch), .int era, .int why, .int det, .int cau, .int (zI sv), .int (zI rj), .ref v9, .ref b9, .ref s9, .ref k9, .ref p9, .ref t9, .ref n9, .int (nI tn), .int (nI (zcH tx en (hs (i + 1)))), .int (nI en), .int (nI ln), .int (zI false), .int (zI true)])), (t9, .inl (cy 0, 60, .inl tx)), (v9, .inl (cy 0, 188, .inl (vs (i + 1 + 1))))] H := hP
                  have hD : va_D A [(x9, .inr (10, [.int 0, .int (nI ch), .int era, .int why, .int det, .int cau, .int (zI sv), .int (zI rj), .ref v9, .ref b9, .ref s9, .ref k9, .ref p9, .ref t9, .ref n9, .int (nI tn), .int (nI (zcH tx en (hs (i + 1)))), .int (nI en), .int (nI ln), .int (zI false), .int (zI true)])), (t9, .inl (cy 0, 60, .inl tx)), (v9, .inl (cy 0, 188, .inl (vs (i + 1 + 1))))] := hD
                  refine lv_iinc (v := nI ((i + 1) + 1)) (lv' := [(1, .int (nI ((i + 1) + 1))), (0, .ref x9)]) hx hb dX6_commands_58 hl (k := 1) rfl (by rw [show Int32.ofInt 1 = nI 1 from rfl, nI_add]) (by decide) rfl (fun ls hl => ?_)
                  refine lv_goto (tgt := 16) hx hb dX6_commands_61 (by decide) ?_
                  exact ih16 (i + 1) (nI ((i + 1) + 1)) (nI (zcH tx en (hs (i + 1)))) (vs (i + 1 + 1)) (by omega) (by omega) rfl rfl (by rfl) H locs hP hD hS ls (lv_sub hl [1, 0] rfl)
    exact L16 (mm - 0 + 1) 0 1 (nI (zcH tx en (hs 0))) (vs (0 + 1)) (by omega) (Nat.lt_succ_self _) (by rfl) rfl rfl H locs hP hD hS ls (lv_sub hl [1, 0] rfl)

abbrev rmX6_execute_wrong : Room := { frames := 5, cells := 0, slots := 0, locals := 111 }
set_option maxHeartbeats 4000000 in
set_option maxRecDepth 100000 in
theorem c_X6_execute_wrong {G : zG} (hg : zGN G) (l : Launch) (D : va_G) (cy : Nat → ClassId) (x9 : Nat) (th : Int32) (ch : Nat) (era : Int32) (why : Int32) (det : Int32) (cau : Int32) (sv : Bool) (rj : Bool) (v9 : Nat) (b9 : Nat) (s9 : Nat) (k9 : Nat) (p9 : Nat) (t9 : Nat) (n9 : Nat) (tn : Nat) (he : Nat) (en : Nat) (ln : Nat) (iw : Bool) (dg : Bool) (tx : Nat → Int32) (v : Nat → Int32) (bf : Nat → Int32) (htn : tn ≤ 60) (hw : zPW tx tn = true) : zM G D vwCl (zT cy) l yX6_execute wsX6_execute rmX6_execute_wrong [.ref x9] [(x9, .inr (10, [.int th, .int (nI ch), .int era, .int why, .int det, .int cau, .int (zI sv), .int (zI rj), .ref v9, .ref b9, .ref s9, .ref k9, .ref p9, .ref t9, .ref n9, .int (nI tn), .int (nI he), .int (nI en), .int (nI ln), .int (zI iw), .int (zI dg)])), (t9, .inl (cy 0, 60, .inl tx)), (v9, .inl (cy 0, 188, .inl v)), (b9, .inl (cy 0, 188, .inl bf))] (some (.int 0)) [(x9, .inr (10, [.int 1, .int (nI ch), .int (nI (zPH tx tn)), .int why, .int det, .int cau, .int (zI sv), .int (zI false), .ref v9, .ref b9, .ref s9, .ref k9, .ref p9, .ref t9, .ref n9, .int (nI 0), .int (nI (zPH tx tn)), .int (nI tn), .int (nI ln), .int (zI true), .int (zI false)])), (t9, .inl (cy 0, 60, .inl tx)), (v9, .inl (cy 0, 188, .inl v)), (b9, .inl (cy 0, 188, .inl v))] := by
  refine zM_of (cc := cX6_execute) (maxL := 4) (ret := (some .int)) (by decide) rfl (Nat.le_of_ble_eq_true rfl) ?_
  intro p e s m below meth c A Q hend hx hb hml hr hts hown hlk hG hK hP hD hA hS ls hl
  have hown : s.vm.findClass RX6 = some m.cls := hown
  have in_RX6 : ∀ w ∈ u_ws RX6 TX6 21, w ∈ wsX6_execute := by decide +kernel
  have hl : lv_has ls 4 [(0, .ref x9)] := hl
  refine lv_aload_n hx hb dX6_execute_0 rfl (lv_at hl 0 rfl) ?_
  refine zcV (As := []) (rest := []) [0, 2, 3] 0 hg.1 ⟨hx, hb, hml, hown, hts⟩ (c_X6_begins hg l D cy x9 th ch era why det cau sv rj v9 b9 s9 k9 p9 t9 n9 tn he en ln iw dg v bf) (cwV 0 hts gX6_execute_X6_begins rfl rfl rfl (by decide +kernel) ⟨Nat.le_of_ble_eq_true rfl, Nat.le_of_ble_eq_true rfl⟩) hG hK hP hD hS hA rfl rfl (Eq.trans (b := [x9, v9, b9]) rfl rfl) rfl rfl rfl hl.1 rfl (Nat.le_of_ble_eq_true rfl) dX6_execute_1 ⟨Nat.zero_le _, Nat.zero_le _⟩ (fun H locs hP hD hS => ?_)
  have hP : va_P D vwCl [(x9, .inr (10, [.int 0, .int (nI ch), .int era, .int why, .int det, .int cau, .int (zI sv), .int (zI false), .ref v9, .ref b9, .ref s9, .ref k9, .ref p9, .ref t9, .ref n9, .int (nI tn), .int (nI he), .int (nI en), .int (nI ln), .int (zI iw), .int (zI dg)])), (t9, .inl (cy 0, 60, .inl tx)), (v9, .inl (cy 0, 188, .inl v)), (b9, .inl (cy 0, 188, .inl v))] H := hP
  have hD : va_D A [(x9, .inr (10, [.int 0, .int (nI ch), .int era, .int why, .int det, .int cau, .int (zI sv), .int (zI false), .ref v9, .ref b9, .ref s9, .ref k9, .ref p9, .ref t9, .ref n9, .int (nI tn), .int (nI he), .int (nI en), .int (nI ln), .int (zI iw), .int (zI dg)])), (t9, .inl (cy 0, 60, .inl tx)), (v9, .inl (cy 0, 188, .inl v)), (b9, .inl (cy 0, 188, .inl v))] := hD
  refine lv_aload_n hx hb dX6_execute_4 rfl (lv_at hl 0 rfl) ?_
  refine lv_aload_n hx hb dX6_execute_5 rfl (lv_at hl 0 rfl) ?_
  refine va_get (D := D) (ci := 10) (v := .int (nI tn)) (C := RX6) (T := TX6) (N := 21) hx hb hts in_RX6 hown hK hP 0 rfl rfl 15 (by decide) (hts _ (List.mem_of_getElem? (i := 1) rfl)) (fun _ h9 => h9) rfl dX6_execute_6 ?_
  refine va_put (D := D) (ci := 10) (v := .int (nI tn)) (ty := .int) (C := RX6) (T := TX6) (N := 21) hx hb hts in_RX6 tyX6 tyX6_ok nmX6 hown hK hP hD hS 0 rfl rfl 17 (by decide) (hts _ (List.mem_of_getElem? (i := 2) rfl)) (fun _ h9 => h9) rfl (by decide +kernel) rfl rfl (Nat.le_of_ble_eq_true rfl) dX6_execute_9 (fun H locs hP hD hS => ?_)
  have hP : va_P D vwCl [(x9, .inr (10, [.int 0, .int (nI ch), .int era, .int why, .int det, .int cau, .int (zI sv), .int (zI false), .ref v9, .ref b9, .ref s9, .ref k9, .ref p9, .ref t9, .ref n9, .int (nI tn), .int (nI he), .int (nI tn), .int (nI ln), .int (zI iw), .int (zI dg)])), (t9, .inl (cy 0, 60, .inl tx)), (v9, .inl (cy 0, 188, .inl v)), (b9, .inl (cy 0, 188, .inl v))] H := hP
  have hD : va_D A [(x9, .inr (10, [.int 0, .int (nI ch), .int era, .int why, .int det, .int cau, .int (zI sv), .int (zI false), .ref v9, .ref b9, .ref s9, .ref k9, .ref p9, .ref t9, .ref n9, .int (nI tn), .int (nI he), .int (nI tn), .int (nI ln), .int (zI iw), .int (zI dg)])), (t9, .inl (cy 0, 60, .inl tx)), (v9, .inl (cy 0, 188, .inl v)), (b9, .inl (cy 0, 188, .inl v))] := hD
  refine lv_aload_n hx hb dX6_execute_12 rfl (lv_at hl 0 rfl) ?_
  refine lv_iconst (v := 0) hx hb dX6_execute_13 (by decide) ?_
  refine z_top (y := nI 0) (rfl) ?_
  refine va_put (D := D) (ci := 10) (v := .int (nI 0)) (ty := .int) (C := RX6) (T := TX6) (N := 21) hx hb hts in_RX6 tyX6 tyX6_ok nmX6 hown hK hP hD hS 0 rfl rfl 15 (by decide) (hts _ (List.mem_of_getElem? (i := 1) rfl)) (fun _ h9 => h9) rfl (by decide +kernel) rfl rfl (Nat.le_of_ble_eq_true rfl) dX6_execute_14 (fun H locs hP hD hS => ?_)
  have hP : va_P D vwCl [(x9, .inr (10, [.int 0, .int (nI ch), .int era, .int why, .int det, .int cau, .int (zI sv), .int (zI false), .ref v9, .ref b9, .ref s9, .ref k9, .ref p9, .ref t9, .ref n9, .int (nI 0), .int (nI he), .int (nI tn), .int (nI ln), .int (zI iw), .int (zI dg)])), (t9, .inl (cy 0, 60, .inl tx)), (v9, .inl (cy 0, 188, .inl v)), (b9, .inl (cy 0, 188, .inl v))] H := hP
  have hD : va_D A [(x9, .inr (10, [.int 0, .int (nI ch), .int era, .int why, .int det, .int cau, .int (zI sv), .int (zI false), .ref v9, .ref b9, .ref s9, .ref k9, .ref p9, .ref t9, .ref n9, .int (nI 0), .int (nI he), .int (nI tn), .int (nI ln), .int (zI iw), .int (zI dg)])), (t9, .inl (cy 0, 60, .inl tx)), (v9, .inl (cy 0, 188, .inl v)), (b9, .inl (cy 0, 188, .inl v))] := hD
  refine lv_aload_n hx hb dX6_execute_17 rfl (lv_at hl 0 rfl) ?_
  refine lv_iconst (v := 0) hx hb dX6_execute_18 (by decide) ?_
  refine z_top (y := zI false) rfl ?_
  refine va_put (D := D) (ci := 10) (v := .int (zI false)) (ty := .boolean) (C := RX6) (T := TX6) (N := 21) hx hb hts in_RX6 tyX6 tyX6_ok nmX6 hown hK hP hD hS 0 rfl rfl 20 (by decide) (hts _ (List.mem_of_getElem? (i := 3) rfl)) (fun _ h9 => h9) rfl (by decide +kernel) (zI_nar _) (zI_fit _) (Nat.le_of_ble_eq_true rfl) dX6_execute_19 (fun H locs hP hD hS => ?_)
  have hP : va_P D vwCl [(x9, .inr (10, [.int 0, .int (nI ch), .int era, .int why, .int det, .int cau, .int (zI sv), .int (zI false), .ref v9, .ref b9, .ref s9, .ref k9, .ref p9, .ref t9, .ref n9, .int (nI 0), .int (nI he), .int (nI tn), .int (nI ln), .int (zI iw), .int (zI false)])), (t9, .inl (cy 0, 60, .inl tx)), (v9, .inl (cy 0, 188, .inl v)), (b9, .inl (cy 0, 188, .inl v))] H := hP
  have hD : va_D A [(x9, .inr (10, [.int 0, .int (nI ch), .int era, .int why, .int det, .int cau, .int (zI sv), .int (zI false), .ref v9, .ref b9, .ref s9, .ref k9, .ref p9, .ref t9, .ref n9, .int (nI 0), .int (nI he), .int (nI tn), .int (nI ln), .int (zI iw), .int (zI false)])), (t9, .inl (cy 0, 60, .inl tx)), (v9, .inl (cy 0, 188, .inl v)), (b9, .inl (cy 0, 188, .inl v))] := hD
  refine lv_aload_n hx hb dX6_execute_22 rfl (lv_at hl 0 rfl) ?_
  refine zcV (As := []) (rest := []) [0, 1] 0 hg.1 ⟨hx, hb, hml, hown, hts⟩ (c_X6_commands_parse hg l D cy x9 ch era why det cau sv false v9 b9 s9 k9 p9 t9 n9 0 he tn ln iw tx htn) (cwV 0 hts gX6_execute_X6_commands rfl rfl rfl (by decide +kernel) ⟨Nat.le_of_ble_eq_true rfl, Nat.le_of_ble_eq_true rfl⟩) hG hK hP hD hS hA rfl rfl (Eq.trans (b := [x9, t9]) rfl rfl) rfl rfl rfl hl.1 rfl (Nat.le_of_ble_eq_true rfl) dX6_execute_23 ⟨Nat.zero_le _, Nat.zero_le _⟩ (fun H locs hP hD hS => ?_)
  have hP : va_P D vwCl [(x9, .inr (10, [.int 0, .int (nI ch), .int era, .int why, .int det, .int cau, .int (zI sv), .int (zI false), .ref v9, .ref b9, .ref s9, .ref k9, .ref p9, .ref t9, .ref n9, .int (nI 0), .int (nI (zPH tx tn)), .int (nI tn), .int (nI ln), .int (zI (zPW tx tn)), .int (zI false)])), (t9, .inl (cy 0, 60, .inl tx)), (v9, .inl (cy 0, 188, .inl v)), (b9, .inl (cy 0, 188, .inl v))] H := hP
  have hD : va_D A [(x9, .inr (10, [.int 0, .int (nI ch), .int era, .int why, .int det, .int cau, .int (zI sv), .int (zI false), .ref v9, .ref b9, .ref s9, .ref k9, .ref p9, .ref t9, .ref n9, .int (nI 0), .int (nI (zPH tx tn)), .int (nI tn), .int (nI ln), .int (zI (zPW tx tn)), .int (zI false)])), (t9, .inl (cy 0, 60, .inl tx)), (v9, .inl (cy 0, 188, .inl v)), (b9, .inl (cy 0, 188, .inl v))] := hD
  refine lv_istore_n (lv' := [(1, .int (nI (zPC tx tn))), (0, .ref x9)]) hx hb dX6_execute_26 rfl hl (by decide) rfl (fun ls hl => ?_)
  refine lv_aload_n hx hb dX6_execute_27 rfl (lv_at hl 1 rfl) ?_
  refine va_get (D := D) (ci := 10) (v := .int (zI (zPW tx tn))) (C := RX6) (T := TX6) (N := 21) hx hb hts in_RX6 hown hK hP 0 rfl rfl 19 (by decide) (hts _ (List.mem_of_getElem? (i := 4) rfl)) (fun _ h9 => h9) rfl dX6_execute_28 ?_
  refine lv_if_eq (tgt := 48) hx hb dX6_execute_31 (by decide) (fun c_1 => ?_) (fun c_1 => ?_)
  · replace c_1 := zI0 c_1
    exact absurd (hw.symm.trans c_1) (by decide)
  · replace c_1 := zI1 c_1
    have er_2 : zPW tx tn = true := c_1
    rw [er_2] at hP hD
    refine lv_aload_n hx hb dX6_execute_34 rfl (lv_at hl 1 rfl) ?_
    refine lv_aload_n hx hb dX6_execute_35 rfl (lv_at hl 1 rfl) ?_
    refine va_get (D := D) (ci := 10) (v := .int (nI (zPH tx tn))) (C := RX6) (T := TX6) (N := 21) hx hb hts in_RX6 hown hK hP 0 rfl rfl 16 (by decide) (hts _ (List.mem_of_getElem? (i := 5) rfl)) (fun _ h9 => h9) rfl dX6_execute_36 ?_
    refine va_put (D := D) (ci := 10) (v := .int (nI (zPH tx tn))) (ty := .int) (C := RX6) (T := TX6) (N := 21) hx hb hts in_RX6 tyX6 tyX6_ok nmX6 hown hK hP hD hS 0 rfl rfl 2 (by decide) (hts _ (List.mem_of_getElem? (i := 6) rfl)) (fun _ h9 => h9) rfl (by decide +kernel) rfl rfl (Nat.le_of_ble_eq_true rfl) dX6_execute_39 (fun H locs hP hD hS => ?_)
    have hP : va_P D vwCl [(x9, .inr (10, [.int 0, .int (nI ch), .int (nI (zPH tx tn)), .int why, .int det, .int cau, .int (zI sv), .int (zI false), .ref v9, .ref b9, .ref s9, .ref k9, .ref p9, .ref t9, .ref n9, .int (nI 0), .int (nI (zPH tx tn)), .int (nI tn), .int (nI ln), .int (zI true), .int (zI false)])), (t9, .inl (cy 0, 60, .inl tx)), (v9, .inl (cy 0, 188, .inl v)), (b9, .inl (cy 0, 188, .inl v))] H := hP
    have hD : va_D A [(x9, .inr (10, [.int 0, .int (nI ch), .int (nI (zPH tx tn)), .int why, .int det, .int cau, .int (zI sv), .int (zI false), .ref v9, .ref b9, .ref s9, .ref k9, .ref p9, .ref t9, .ref n9, .int (nI 0), .int (nI (zPH tx tn)), .int (nI tn), .int (nI ln), .int (zI true), .int (zI false)])), (t9, .inl (cy 0, 60, .inl tx)), (v9, .inl (cy 0, 188, .inl v)), (b9, .inl (cy 0, 188, .inl v))] := hD
    refine lv_aload_n hx hb dX6_execute_42 rfl (lv_at hl 1 rfl) ?_
    refine lv_iconst (v := 1) hx hb dX6_execute_43 (by decide) ?_
    refine zcV (As := [.int 1]) (rest := []) [0] 0 hg.1 ⟨hx, hb, hml, hown, hts⟩ (c_X6_fail hg l D cy x9 0 ch (nI (zPH tx tn)) why det cau sv false v9 b9 s9 k9 p9 t9 n9 0 (zPH tx tn) tn ln true false 1) (cwV 1 hts gX6_execute_X6_fail rfl rfl rfl (by decide +kernel) ⟨Nat.le_of_ble_eq_true rfl, Nat.le_of_ble_eq_true rfl⟩) hG hK hP hD hS hA rfl rfl (Eq.trans (b := [x9]) rfl rfl) rfl rfl rfl hl.1 rfl (Nat.le_of_ble_eq_true rfl) dX6_execute_44 ⟨Nat.zero_le _, Nat.zero_le _⟩ (fun H locs hP hD hS => ?_)
    have hP : va_P D vwCl [(x9, .inr (10, [.int 1, .int (nI ch), .int (nI (zPH tx tn)), .int why, .int det, .int cau, .int (zI sv), .int (zI false), .ref v9, .ref b9, .ref s9, .ref k9, .ref p9, .ref t9, .ref n9, .int (nI 0), .int (nI (zPH tx tn)), .int (nI tn), .int (nI ln), .int (zI true), .int (zI false)])), (t9, .inl (cy 0, 60, .inl tx)), (v9, .inl (cy 0, 188, .inl v)), (b9, .inl (cy 0, 188, .inl v))] H := hP
    have hD : va_D A [(x9, .inr (10, [.int 1, .int (nI ch), .int (nI (zPH tx tn)), .int why, .int det, .int cau, .int (zI sv), .int (zI false), .ref v9, .ref b9, .ref s9, .ref k9, .ref p9, .ref t9, .ref n9, .int (nI 0), .int (nI (zPH tx tn)), .int (nI tn), .int (nI ln), .int (zI true), .int (zI false)])), (t9, .inl (cy 0, 60, .inl tx)), (v9, .inl (cy 0, 188, .inl v)), (b9, .inl (cy 0, 188, .inl v))] := hD
    exact ziret hend hx hb hr hlk hK hP hD hS dX6_execute_47 rfl rfl

abbrev rmX6_execute_ok : Room := { frames := 8, cells := 0, slots := 0, locals := 184 }
set_option maxHeartbeats 4000000 in
set_option maxRecDepth 100000 in
theorem c_X6_execute_ok {G : zG} (hg : zGN G) (l : Launch) (D : va_G) (cy : Nat → ClassId) (x9 : Nat) (th : Int32) (ch : Nat) (era : Int32) (why : Int32) (det : Int32) (cau : Int32) (sv : Bool) (rj : Bool) (v9 : Nat) (b9 : Nat) (s9 : Nat) (k9 : Nat) (p9 : Nat) (t9 : Nat) (n9 : Nat) (tn : Nat) (he : Nat) (en : Nat) (ln : Nat) (iw : Bool) (dg : Bool) (tx : Nat → Int32) (bf : Nat → Int32) (hq : Nat → Nat → Int32) (mm : Nat) (hs : Nat → Nat) (vs : Nat → Nat → Int32) (rs : Nat → Int32) (res2 : Int32) (v2 : Nat → Int32) (htn : tn ≤ 60) (hw : zPW tx tn = false) (hs0 : hs 0 = 0) (hss : ∀ i, i < mm → hs (i + 1) = zcH tx tn (hs i) + 1) (hsw : ∀ i, i ≤ mm → zcW tx tn (hs i) = false) (hsg : ∀ i, i < mm → zqs tx tn (zcH tx tn (hs i)) = 59) (hs6 : ∀ i, i ≤ mm → hs i ≤ tn) (hdi : ∀ i, i < mm → zM G D vwCl (zT cy) l yX6_does wsX6_does { frames := 5, cells := 0, slots := 0, locals := 116 } [.ref x9, .int (zqs tx tn (hs i)), .int (zcA tx tn (hs i)), .int (zcB tx tn (hs i))] [(x9, .inr (10, [.int 0, .int (nI ch), .int era, .int why, .int det, .int cau, .int (zI sv), .int (zI false), .ref v9, .ref b9, .ref s9, .ref k9, .ref p9, .ref t9, .ref n9, .int (nI 0), .int (nI (zcH tx tn (hs i))), .int (nI tn), .int (nI ln), .int (zI false), .int (zI true)])), (v9, .inl (cy 0, 188, .inl (vs i)))] (some (.int (rs i))) [(x9, .inr (10, [.int 0, .int (nI ch), .int era, .int why, .int det, .int cau, .int (zI sv), .int (zI false), .ref v9, .ref b9, .ref s9, .ref k9, .ref p9, .ref t9, .ref n9, .int (nI 0), .int (nI (zcH tx tn (hs i))), .int (nI tn), .int (nI ln), .int (zI false), .int (zI true)])), (v9, .inl (cy 0, 188, .inl (vs (i + 1))))]) (hdm : zM G D vwCl (zT cy) l yX6_does wsX6_does { frames := 5, cells := 0, slots := 0, locals := 116 } [.ref x9, .int (zqs tx tn (hs mm)), .int (zcA tx tn (hs mm)), .int (zcB tx tn (hs mm))] [(x9, .inr (10, [.int 0, .int (nI ch), .int era, .int why, .int det, .int cau, .int (zI sv), .int (zI false), .ref v9, .ref b9, .ref s9, .ref k9, .ref p9, .ref t9, .ref n9, .int (nI 0), .int (nI (zcH tx tn (hs mm))), .int (nI tn), .int (nI ln), .int (zI false), .int (zI true)])), (v9, .inl (cy 0, 188, .inl (vs mm)))] (some (.int res2)) [(x9, .inr (10, [.int 0, .int (nI ch), .int era, .int why, .int det, .int cau, .int (zI sv), .int (zI false), .ref v9, .ref b9, .ref s9, .ref k9, .ref p9, .ref t9, .ref n9, .int (nI 0), .int (nI (zcH tx tn (hs mm))), .int (nI tn), .int (nI ln), .int (zI false), .int (zI true)])), (v9, .inl (cy 0, 188, .inl v2))]) (hfe : ¬ 0 = 0 ∨ ¬ zcH tx tn (hs mm) < tn) (hch : ch ≤ 8) : zM G D vwCl (zT cy) l yX6_execute wsX6_execute rmX6_execute_ok [.ref x9] [(x9, .inr (10, [.int th, .int (nI ch), .int era, .int why, .int det, .int cau, .int (zI sv), .int (zI rj), .ref v9, .ref b9, .ref s9, .ref k9, .ref p9, .ref t9, .ref n9, .int (nI tn), .int (nI he), .int (nI en), .int (nI ln), .int (zI iw), .int (zI dg)])), (t9, .inl (cy 0, 60, .inl tx)), (v9, .inl (cy 0, 188, .inl (vs 0))), (b9, .inl (cy 0, 188, .inl bf)), (p9, .inl (cy 0, 1504, .inl (zpk hq)))] (some (.int (nI (mm + 1)))) [(x9, .inr (10, [.int 0, .int (nI (min (ch + 1) 8)), .int era, .int why, .int det, .int cau, .int (zI sv), .int (zI false), .ref v9, .ref b9, .ref s9, .ref k9, .ref p9, .ref t9, .ref n9, .int (nI 0), .int (nI (zcH tx tn (hs mm))), .int (nI tn), .int (nI ln), .int (zI false), .int (zI true)])), (t9, .inl (cy 0, 60, .inl tx)), (v9, .inl (cy 0, 188, .inl v2)), (b9, .inl (cy 0, 188, .inl (vs 0))), (p9, .inl (cy 0, 1504, .inl (zpk (zph hq ch (vs 0)))))] := by
  refine zM_of (cc := cX6_execute) (maxL := 4) (ret := (some .int)) (by decide) rfl (Nat.le_of_ble_eq_true rfl) ?_
  intro p e s m below meth c A Q hend hx hb hml hr hts hown hlk hG hK hP hD hA hS ls hl
  have hown : s.vm.findClass RX6 = some m.cls := hown
  have in_RX6 : ∀ w ∈ u_ws RX6 TX6 21, w ∈ wsX6_execute := by decide +kernel
  have hl : lv_has ls 4 [(0, .ref x9)] := hl
  refine lv_aload_n hx hb dX6_execute_0 rfl (lv_at hl 0 rfl) ?_
  refine zcV (As := []) (rest := []) [0, 2, 3] 0 hg.1 ⟨hx, hb, hml, hown, hts⟩ (c_X6_begins hg l D cy x9 th ch era why det cau sv rj v9 b9 s9 k9 p9 t9 n9 tn he en ln iw dg (vs 0) bf) (cwV 0 hts gX6_execute_X6_begins rfl rfl rfl (by decide +kernel) ⟨Nat.le_of_ble_eq_true rfl, Nat.le_of_ble_eq_true rfl⟩) hG hK hP hD hS hA rfl rfl (Eq.trans (b := [x9, v9, b9]) rfl rfl) rfl rfl rfl hl.1 rfl (Nat.le_of_ble_eq_true rfl) dX6_execute_1 ⟨Nat.zero_le _, Nat.zero_le _⟩ (fun H locs hP hD hS => ?_)
  have hP : va_P D vwCl [(x9, .inr (10, [.int 0, .int (nI ch), .int era, .int why, .int det, .int cau, .int (zI sv), .int (zI false), .ref v9, .ref b9, .ref s9, .ref k9, .ref p9, .ref t9, .ref n9, .int (nI tn), .int (nI he), .int (nI en), .int (nI ln), .int (zI iw), .int (zI dg)])), (t9, .inl (cy 0, 60, .inl tx)), (v9, .inl (cy 0, 188, .inl (vs 0))), (b9, .inl (cy 0, 188, .inl (vs 0))), (p9, .inl (cy 0, 1504, .inl (zpk hq)))] H := hP
  have hD : va_D A [(x9, .inr (10, [.int 0, .int (nI ch), .int era, .int why, .int det, .int cau, .int (zI sv), .int (zI false), .ref v9, .ref b9, .ref s9, .ref k9, .ref p9, .ref t9, .ref n9, .int (nI tn), .int (nI he), .int (nI en), .int (nI ln), .int (zI iw), .int (zI dg)])), (t9, .inl (cy 0, 60, .inl tx)), (v9, .inl (cy 0, 188, .inl (vs 0))), (b9, .inl (cy 0, 188, .inl (vs 0))), (p9, .inl (cy 0, 1504, .inl (zpk hq)))] := hD
  refine lv_aload_n hx hb dX6_execute_4 rfl (lv_at hl 0 rfl) ?_
  refine lv_aload_n hx hb dX6_execute_5 rfl (lv_at hl 0 rfl) ?_
  refine va_get (D := D) (ci := 10) (v := .int (nI tn)) (C := RX6) (T := TX6) (N := 21) hx hb hts in_RX6 hown hK hP 0 rfl rfl 15 (by decide) (hts _ (List.mem_of_getElem? (i := 1) rfl)) (fun _ h9 => h9) rfl dX6_execute_6 ?_
  refine va_put (D := D) (ci := 10) (v := .int (nI tn)) (ty := .int) (C := RX6) (T := TX6) (N := 21) hx hb hts in_RX6 tyX6 tyX6_ok nmX6 hown hK hP hD hS 0 rfl rfl 17 (by decide) (hts _ (List.mem_of_getElem? (i := 2) rfl)) (fun _ h9 => h9) rfl (by decide +kernel) rfl rfl (Nat.le_of_ble_eq_true rfl) dX6_execute_9 (fun H locs hP hD hS => ?_)
  have hP : va_P D vwCl [(x9, .inr (10, [.int 0, .int (nI ch), .int era, .int why, .int det, .int cau, .int (zI sv), .int (zI false), .ref v9, .ref b9, .ref s9, .ref k9, .ref p9, .ref t9, .ref n9, .int (nI tn), .int (nI he), .int (nI tn), .int (nI ln), .int (zI iw), .int (zI dg)])), (t9, .inl (cy 0, 60, .inl tx)), (v9, .inl (cy 0, 188, .inl (vs 0))), (b9, .inl (cy 0, 188, .inl (vs 0))), (p9, .inl (cy 0, 1504, .inl (zpk hq)))] H := hP
  have hD : va_D A [(x9, .inr (10, [.int 0, .int (nI ch), .int era, .int why, .int det, .int cau, .int (zI sv), .int (zI false), .ref v9, .ref b9, .ref s9, .ref k9, .ref p9, .ref t9, .ref n9, .int (nI tn), .int (nI he), .int (nI tn), .int (nI ln), .int (zI iw), .int (zI dg)])), (t9, .inl (cy 0, 60, .inl tx)), (v9, .inl (cy 0, 188, .inl (vs 0))), (b9, .inl (cy 0, 188, .inl (vs 0))), (p9, .inl (cy 0, 1504, .inl (zpk hq)))] := hD
  refine lv_aload_n hx hb dX6_execute_12 rfl (lv_at hl 0 rfl) ?_
  refine lv_iconst (v := 0) hx hb dX6_execute_13 (by decide) ?_
  refine z_top (y := nI 0) (rfl) ?_
  refine va_put (D := D) (ci := 10) (v := .int (nI 0)) (ty := .int) (C := RX6) (T := TX6) (N := 21) hx hb hts in_RX6 tyX6 tyX6_ok nmX6 hown hK hP hD hS 0 rfl rfl 15 (by decide) (hts _ (List.mem_of_getElem? (i := 1) rfl)) (fun _ h9 => h9) rfl (by decide +kernel) rfl rfl (Nat.le_of_ble_eq_true rfl) dX6_execute_14 (fun H locs hP hD hS => ?_)
  have hP : va_P D vwCl [(x9, .inr (10, [.int 0, .int (nI ch), .int era, .int why, .int det, .int cau, .int (zI sv), .int (zI false), .ref v9, .ref b9, .ref s9, .ref k9, .ref p9, .ref t9, .ref n9, .int (nI 0), .int (nI he), .int (nI tn), .int (nI ln), .int (zI iw), .int (zI dg)])), (t9, .inl (cy 0, 60, .inl tx)), (v9, .inl (cy 0, 188, .inl (vs 0))), (b9, .inl (cy 0, 188, .inl (vs 0))), (p9, .inl (cy 0, 1504, .inl (zpk hq)))] H := hP
  have hD : va_D A [(x9, .inr (10, [.int 0, .int (nI ch), .int era, .int why, .int det, .int cau, .int (zI sv), .int (zI false), .ref v9, .ref b9, .ref s9, .ref k9, .ref p9, .ref t9, .ref n9, .int (nI 0), .int (nI he), .int (nI tn), .int (nI ln), .int (zI iw), .int (zI dg)])), (t9, .inl (cy 0, 60, .inl tx)), (v9, .inl (cy 0, 188, .inl (vs 0))), (b9, .inl (cy 0, 188, .inl (vs 0))), (p9, .inl (cy 0, 1504, .inl (zpk hq)))] := hD
  refine lv_aload_n hx hb dX6_execute_17 rfl (lv_at hl 0 rfl) ?_
  refine lv_iconst (v := 0) hx hb dX6_execute_18 (by decide) ?_
  refine z_top (y := zI false) rfl ?_
  refine va_put (D := D) (ci := 10) (v := .int (zI false)) (ty := .boolean) (C := RX6) (T := TX6) (N := 21) hx hb hts in_RX6 tyX6 tyX6_ok nmX6 hown hK hP hD hS 0 rfl rfl 20 (by decide) (hts _ (List.mem_of_getElem? (i := 3) rfl)) (fun _ h9 => h9) rfl (by decide +kernel) (zI_nar _) (zI_fit _) (Nat.le_of_ble_eq_true rfl) dX6_execute_19 (fun H locs hP hD hS => ?_)
  have hP : va_P D vwCl [(x9, .inr (10, [.int 0, .int (nI ch), .int era, .int why, .int det, .int cau, .int (zI sv), .int (zI false), .ref v9, .ref b9, .ref s9, .ref k9, .ref p9, .ref t9, .ref n9, .int (nI 0), .int (nI he), .int (nI tn), .int (nI ln), .int (zI iw), .int (zI false)])), (t9, .inl (cy 0, 60, .inl tx)), (v9, .inl (cy 0, 188, .inl (vs 0))), (b9, .inl (cy 0, 188, .inl (vs 0))), (p9, .inl (cy 0, 1504, .inl (zpk hq)))] H := hP
  have hD : va_D A [(x9, .inr (10, [.int 0, .int (nI ch), .int era, .int why, .int det, .int cau, .int (zI sv), .int (zI false), .ref v9, .ref b9, .ref s9, .ref k9, .ref p9, .ref t9, .ref n9, .int (nI 0), .int (nI he), .int (nI tn), .int (nI ln), .int (zI iw), .int (zI false)])), (t9, .inl (cy 0, 60, .inl tx)), (v9, .inl (cy 0, 188, .inl (vs 0))), (b9, .inl (cy 0, 188, .inl (vs 0))), (p9, .inl (cy 0, 1504, .inl (zpk hq)))] := hD
  refine lv_aload_n hx hb dX6_execute_22 rfl (lv_at hl 0 rfl) ?_
  refine zcV (As := []) (rest := []) [0, 1] 0 hg.1 ⟨hx, hb, hml, hown, hts⟩ (c_X6_commands_parse hg l D cy x9 ch era why det cau sv false v9 b9 s9 k9 p9 t9 n9 0 he tn ln iw tx htn) (cwV 0 hts gX6_execute_X6_commands rfl rfl rfl (by decide +kernel) ⟨Nat.le_of_ble_eq_true rfl, Nat.le_of_ble_eq_true rfl⟩) hG hK hP hD hS hA rfl rfl (Eq.trans (b := [x9, t9]) rfl rfl) rfl rfl rfl hl.1 rfl (Nat.le_of_ble_eq_true rfl) dX6_execute_23 ⟨Nat.zero_le _, Nat.zero_le _⟩ (fun H locs hP hD hS => ?_)
  have hP : va_P D vwCl [(x9, .inr (10, [.int 0, .int (nI ch), .int era, .int why, .int det, .int cau, .int (zI sv), .int (zI false), .ref v9, .ref b9, .ref s9, .ref k9, .ref p9, .ref t9, .ref n9, .int (nI 0), .int (nI (zPH tx tn)), .int (nI tn), .int (nI ln), .int (zI (zPW tx tn)), .int (zI false)])), (t9, .inl (cy 0, 60, .inl tx)), (v9, .inl (cy 0, 188, .inl (vs 0))), (b9, .inl (cy 0, 188, .inl (vs 0))), (p9, .inl (cy 0, 1504, .inl (zpk hq)))] H := hP
  have hD : va_D A [(x9, .inr (10, [.int 0, .int (nI ch), .int era, .int why, .int det, .int cau, .int (zI sv), .int (zI false), .ref v9, .ref b9, .ref s9, .ref k9, .ref p9, .ref t9, .ref n9, .int (nI 0), .int (nI (zPH tx tn)), .int (nI tn), .int (nI ln), .int (zI (zPW tx tn)), .int (zI false)])), (t9, .inl (cy 0, 60, .inl tx)), (v9, .inl (cy 0, 188, .inl (vs 0))), (b9, .inl (cy 0, 188, .inl (vs 0))), (p9, .inl (cy 0, 1504, .inl (zpk hq)))] := hD
  refine lv_istore_n (lv' := [(1, .int (nI (zPC tx tn))), (0, .ref x9)]) hx hb dX6_execute_26 rfl hl (by decide) rfl (fun ls hl => ?_)
  refine lv_aload_n hx hb dX6_execute_27 rfl (lv_at hl 1 rfl) ?_
  refine va_get (D := D) (ci := 10) (v := .int (zI (zPW tx tn))) (C := RX6) (T := TX6) (N := 21) hx hb hts in_RX6 hown hK hP 0 rfl rfl 19 (by decide) (hts _ (List.mem_of_getElem? (i := 4) rfl)) (fun _ h9 => h9) rfl dX6_execute_28 ?_
  refine lv_if_eq (tgt := 48) hx hb dX6_execute_31 (by decide) (fun c_1 => ?_) (fun c_1 => ?_)
  · replace c_1 := zI0 c_1
    have er_2 : zPW tx tn = false := c_1
    rw [er_2] at hP hD
    refine lv_aload_n hx hb dX6_execute_48 rfl (lv_at hl 1 rfl) ?_
    refine lv_iconst (v := 1) hx hb dX6_execute_49 (by decide) ?_
    refine z_top (y := zI true) rfl ?_
    refine va_put (D := D) (ci := 10) (v := .int (zI true)) (ty := .boolean) (C := RX6) (T := TX6) (N := 21) hx hb hts in_RX6 tyX6 tyX6_ok nmX6 hown hK hP hD hS 0 rfl rfl 20 (by decide) (hts _ (List.mem_of_getElem? (i := 3) rfl)) (fun _ h9 => h9) rfl (by decide +kernel) (zI_nar _) (zI_fit _) (Nat.le_of_ble_eq_true rfl) dX6_execute_50 (fun H locs hP hD hS => ?_)
    have hP : va_P D vwCl [(x9, .inr (10, [.int 0, .int (nI ch), .int era, .int why, .int det, .int cau, .int (zI sv), .int (zI false), .ref v9, .ref b9, .ref s9, .ref k9, .ref p9, .ref t9, .ref n9, .int (nI 0), .int (nI (zPH tx tn)), .int (nI tn), .int (nI ln), .int (zI false), .int (zI true)])), (t9, .inl (cy 0, 60, .inl tx)), (v9, .inl (cy 0, 188, .inl (vs 0))), (b9, .inl (cy 0, 188, .inl (vs 0))), (p9, .inl (cy 0, 1504, .inl (zpk hq)))] H := hP
    have hD : va_D A [(x9, .inr (10, [.int 0, .int (nI ch), .int era, .int why, .int det, .int cau, .int (zI sv), .int (zI false), .ref v9, .ref b9, .ref s9, .ref k9, .ref p9, .ref t9, .ref n9, .int (nI 0), .int (nI (zPH tx tn)), .int (nI tn), .int (nI ln), .int (zI false), .int (zI true)])), (t9, .inl (cy 0, 60, .inl tx)), (v9, .inl (cy 0, 188, .inl (vs 0))), (b9, .inl (cy 0, 188, .inl (vs 0))), (p9, .inl (cy 0, 1504, .inl (zpk hq)))] := hD
    refine lv_aload_n hx hb dX6_execute_53 rfl (lv_at hl 1 rfl) ?_
    refine zcV (As := []) (rest := []) [0, 1, 2] 0 hg.1 ⟨hx, hb, hml, hown, hts⟩ (c_X6_commands_do hg l D cy x9 ch era why det cau sv false v9 b9 s9 k9 p9 t9 n9 0 (zPH tx tn) tn ln false tx mm hs vs rs res2 0 why det cau false v2 htn (by first | assumption | omega) (by first | assumption | omega) (by first | assumption | omega) (by first | assumption | omega) (by first | assumption | omega) (by first | assumption | omega) (by first | assumption | omega) (by first | assumption | omega)) (cwV 0 hts gX6_execute_X6_commands rfl rfl rfl (by decide +kernel) ⟨Nat.le_of_ble_eq_true rfl, Nat.le_of_ble_eq_true rfl⟩) hG hK hP hD hS hA rfl rfl (Eq.trans (b := [x9, t9, v9]) rfl rfl) rfl rfl rfl hl.1 rfl (Nat.le_of_ble_eq_true rfl) dX6_execute_54 ⟨Nat.zero_le _, Nat.zero_le _⟩ (fun H locs hP hD hS => ?_)
    have hP : va_P D vwCl [(x9, .inr (10, [.int 0, .int (nI ch), .int era, .int why, .int det, .int cau, .int (zI sv), .int (zI false), .ref v9, .ref b9, .ref s9, .ref k9, .ref p9, .ref t9, .ref n9, .int (nI 0), .int (nI (zcH tx tn (hs mm))), .int (nI tn), .int (nI ln), .int (zI false), .int (zI true)])), (t9, .inl (cy 0, 60, .inl tx)), (v9, .inl (cy 0, 188, .inl v2)), (b9, .inl (cy 0, 188, .inl (vs 0))), (p9, .inl (cy 0, 1504, .inl (zpk hq)))] H := hP
    have hD : va_D A [(x9, .inr (10, [.int 0, .int (nI ch), .int era, .int why, .int det, .int cau, .int (zI sv), .int (zI false), .ref v9, .ref b9, .ref s9, .ref k9, .ref p9, .ref t9, .ref n9, .int (nI 0), .int (nI (zcH tx tn (hs mm))), .int (nI tn), .int (nI ln), .int (zI false), .int (zI true)])), (t9, .inl (cy 0, 60, .inl tx)), (v9, .inl (cy 0, 188, .inl v2)), (b9, .inl (cy 0, 188, .inl (vs 0))), (p9, .inl (cy 0, 1504, .inl (zpk hq)))] := hD
    refine lv_istore_n (lv' := [(1, .int (nI (mm + 1))), (0, .ref x9)]) hx hb dX6_execute_57 rfl hl (by decide) rfl (fun ls hl => ?_)
    refine lv_aload_n hx hb dX6_execute_58 rfl (lv_at hl 1 rfl) ?_
    refine va_get (D := D) (ci := 10) (v := .int 0) (C := RX6) (T := TX6) (N := 21) hx hb hts in_RX6 hown hK hP 0 rfl rfl 0 (by decide) (hts _ (List.mem_of_getElem? (i := 7) rfl)) (fun _ h9 => h9) rfl dX6_execute_59 ?_
    refine lv_if_ne (tgt := 71) hx hb dX6_execute_62 (by decide) (fun c_3 => ?_) (fun c_3 => ?_)
    · exact absurd c_3 (by decide)
    · refine lv_aload_n hx hb dX6_execute_65 rfl (lv_at hl 1 rfl) ?_
      refine lv_iload_n hx hb dX6_execute_66 rfl (lv_at hl 0 rfl) ?_
      refine zcV (As := [.int (nI (mm + 1))]) (rest := []) [0, 2, 3, 4] 0 hg.1 ⟨hx, hb, hml, hown, hts⟩ (c_X6_ends_ok hg l D cy x9 ch era why det cau sv false v9 b9 s9 k9 p9 t9 n9 0 (zcH tx tn (hs mm)) tn ln false true v2 (vs 0) hq (nI (mm + 1)) (by first | assumption | omega)) (cwV 1 hts gX6_execute_X6_ends rfl rfl rfl (by decide +kernel) ⟨Nat.le_of_ble_eq_true rfl, Nat.le_of_ble_eq_true rfl⟩) hG hK hP hD hS hA rfl rfl (Eq.trans (b := [x9, v9, b9, p9]) rfl rfl) rfl rfl rfl hl.1 rfl (Nat.le_of_ble_eq_true rfl) dX6_execute_67 ⟨Nat.zero_le _, Nat.zero_le _⟩ (fun H locs hP hD hS => ?_)
      have hP : va_P D vwCl [(x9, .inr (10, [.int 0, .int (nI (min (ch + 1) 8)), .int era, .int why, .int det, .int cau, .int (zI sv), .int (zI false), .ref v9, .ref b9, .ref s9, .ref k9, .ref p9, .ref t9, .ref n9, .int (nI 0), .int (nI (zcH tx tn (hs mm))), .int (nI tn), .int (nI ln), .int (zI false), .int (zI true)])), (t9, .inl (cy 0, 60, .inl tx)), (v9, .inl (cy 0, 188, .inl v2)), (b9, .inl (cy 0, 188, .inl (vs 0))), (p9, .inl (cy 0, 1504, .inl (zpk (zph hq ch (vs 0)))))] H := hP
      have hD : va_D A [(x9, .inr (10, [.int 0, .int (nI (min (ch + 1) 8)), .int era, .int why, .int det, .int cau, .int (zI sv), .int (zI false), .ref v9, .ref b9, .ref s9, .ref k9, .ref p9, .ref t9, .ref n9, .int (nI 0), .int (nI (zcH tx tn (hs mm))), .int (nI tn), .int (nI ln), .int (zI false), .int (zI true)])), (t9, .inl (cy 0, 60, .inl tx)), (v9, .inl (cy 0, 188, .inl v2)), (b9, .inl (cy 0, 188, .inl (vs 0))), (p9, .inl (cy 0, 1504, .inl (zpk (zph hq ch (vs 0)))))] := hD
      exact ziret hend hx hb hr hlk hK hP hD hS dX6_execute_70 rfl rfl
  · replace c_1 := zI1 c_1
    exact absurd (hw.symm.trans c_1) (by decide)

abbrev rmX6_execute_rej : Room := { frames := 8, cells := 0, slots := 0, locals := 184 }
set_option maxHeartbeats 4000000 in
set_option maxRecDepth 100000 in
theorem c_X6_execute_rej {G : zG} (hg : zGN G) (l : Launch) (D : va_G) (cy : Nat → ClassId) (x9 : Nat) (th : Int32) (ch : Nat) (era : Int32) (why : Int32) (det : Int32) (cau : Int32) (sv : Bool) (rj : Bool) (v9 : Nat) (b9 : Nat) (s9 : Nat) (k9 : Nat) (p9 : Nat) (t9 : Nat) (n9 : Nat) (tn : Nat) (he : Nat) (en : Nat) (ln : Nat) (iw : Bool) (dg : Bool) (tx : Nat → Int32) (bf : Nat → Int32) (hq : Nat → Nat → Int32) (mm : Nat) (hs : Nat → Nat) (vs : Nat → Nat → Int32) (rs : Nat → Int32) (res2 : Int32) (th2 : Int32) (why2 : Int32) (det2 : Int32) (cau2 : Int32) (v2 : Nat → Int32) (htn : tn ≤ 60) (hw : zPW tx tn = false) (hs0 : hs 0 = 0) (hss : ∀ i, i < mm → hs (i + 1) = zcH tx tn (hs i) + 1) (hsw : ∀ i, i ≤ mm → zcW tx tn (hs i) = false) (hsg : ∀ i, i < mm → zqs tx tn (zcH tx tn (hs i)) = 59) (hs6 : ∀ i, i ≤ mm → hs i ≤ tn) (hdi : ∀ i, i < mm → zM G D vwCl (zT cy) l yX6_does wsX6_does { frames := 5, cells := 0, slots := 0, locals := 116 } [.ref x9, .int (zqs tx tn (hs i)), .int (zcA tx tn (hs i)), .int (zcB tx tn (hs i))] [(x9, .inr (10, [.int 0, .int (nI ch), .int era, .int why, .int det, .int cau, .int (zI sv), .int (zI false), .ref v9, .ref b9, .ref s9, .ref k9, .ref p9, .ref t9, .ref n9, .int (nI 0), .int (nI (zcH tx tn (hs i))), .int (nI tn), .int (nI ln), .int (zI false), .int (zI true)])), (v9, .inl (cy 0, 188, .inl (vs i)))] (some (.int (rs i))) [(x9, .inr (10, [.int 0, .int (nI ch), .int era, .int why, .int det, .int cau, .int (zI sv), .int (zI false), .ref v9, .ref b9, .ref s9, .ref k9, .ref p9, .ref t9, .ref n9, .int (nI 0), .int (nI (zcH tx tn (hs i))), .int (nI tn), .int (nI ln), .int (zI false), .int (zI true)])), (v9, .inl (cy 0, 188, .inl (vs (i + 1))))]) (hdm : zM G D vwCl (zT cy) l yX6_does wsX6_does { frames := 5, cells := 0, slots := 0, locals := 116 } [.ref x9, .int (zqs tx tn (hs mm)), .int (zcA tx tn (hs mm)), .int (zcB tx tn (hs mm))] [(x9, .inr (10, [.int 0, .int (nI ch), .int era, .int why, .int det, .int cau, .int (zI sv), .int (zI false), .ref v9, .ref b9, .ref s9, .ref k9, .ref p9, .ref t9, .ref n9, .int (nI 0), .int (nI (zcH tx tn (hs mm))), .int (nI tn), .int (nI ln), .int (zI false), .int (zI true)])), (v9, .inl (cy 0, 188, .inl (vs mm)))] (some (.int res2)) [(x9, .inr (10, [.int th2, .int (nI ch), .int era, .int why2, .int det2, .int cau2, .int (zI sv), .int (zI true), .ref v9, .ref b9, .ref s9, .ref k9, .ref p9, .ref t9, .ref n9, .int (nI 0), .int (nI (zcH tx tn (hs mm))), .int (nI tn), .int (nI ln), .int (zI false), .int (zI true)])), (v9, .inl (cy 0, 188, .inl v2))]) (hfe : ¬ th2 = 0 ∨ ¬ zcH tx tn (hs mm) < tn) (ht2 : ¬ th2 = 0) : zM G D vwCl (zT cy) l yX6_execute wsX6_execute rmX6_execute_rej [.ref x9] [(x9, .inr (10, [.int th, .int (nI ch), .int era, .int why, .int det, .int cau, .int (zI sv), .int (zI rj), .ref v9, .ref b9, .ref s9, .ref k9, .ref p9, .ref t9, .ref n9, .int (nI tn), .int (nI he), .int (nI en), .int (nI ln), .int (zI iw), .int (zI dg)])), (t9, .inl (cy 0, 60, .inl tx)), (v9, .inl (cy 0, 188, .inl (vs 0))), (b9, .inl (cy 0, 188, .inl bf)), (p9, .inl (cy 0, 1504, .inl (zpk hq)))] (some (.int 0)) [(x9, .inr (10, [.int 3, .int (nI ch), .int era, .int 15, .int (nI mm), .int why2, .int (zI sv), .int (zI true), .ref v9, .ref b9, .ref s9, .ref k9, .ref p9, .ref t9, .ref n9, .int (nI 0), .int (nI (zcH tx tn (hs mm))), .int (nI tn), .int (nI ln), .int (zI false), .int (zI true)])), (t9, .inl (cy 0, 60, .inl tx)), (v9, .inl (cy 0, 188, .inl (vs 0))), (b9, .inl (cy 0, 188, .inl (vs 0))), (p9, .inl (cy 0, 1504, .inl (zpk hq)))] := by
  refine zM_of (cc := cX6_execute) (maxL := 4) (ret := (some .int)) (by decide) rfl (Nat.le_of_ble_eq_true rfl) ?_
  intro p e s m below meth c A Q hend hx hb hml hr hts hown hlk hG hK hP hD hA hS ls hl
  have hown : s.vm.findClass RX6 = some m.cls := hown
  have in_RX6 : ∀ w ∈ u_ws RX6 TX6 21, w ∈ wsX6_execute := by decide +kernel
  have hl : lv_has ls 4 [(0, .ref x9)] := hl
  refine lv_aload_n hx hb dX6_execute_0 rfl (lv_at hl 0 rfl) ?_
  refine zcV (As := []) (rest := []) [0, 2, 3] 0 hg.1 ⟨hx, hb, hml, hown, hts⟩ (c_X6_begins hg l D cy x9 th ch era why det cau sv rj v9 b9 s9 k9 p9 t9 n9 tn he en ln iw dg (vs 0) bf) (cwV 0 hts gX6_execute_X6_begins rfl rfl rfl (by decide +kernel) ⟨Nat.le_of_ble_eq_true rfl, Nat.le_of_ble_eq_true rfl⟩) hG hK hP hD hS hA rfl rfl (Eq.trans (b := [x9, v9, b9]) rfl rfl) rfl rfl rfl hl.1 rfl (Nat.le_of_ble_eq_true rfl) dX6_execute_1 ⟨Nat.zero_le _, Nat.zero_le _⟩ (fun H locs hP hD hS => ?_)
  have hP : va_P D vwCl [(x9, .inr (10, [.int 0, .int (nI ch), .int era, .int why, .int det, .int cau, .int (zI sv), .int (zI false), .ref v9, .ref b9, .ref s9, .ref k9, .ref p9, .ref t9, .ref n9, .int (nI tn), .int (nI he), .int (nI en), .int (nI ln), .int (zI iw), .int (zI dg)])), (t9, .inl (cy 0, 60, .inl tx)), (v9, .inl (cy 0, 188, .inl (vs 0))), (b9, .inl (cy 0, 188, .inl (vs 0))), (p9, .inl (cy 0, 1504, .inl (zpk hq)))] H := hP
  have hD : va_D A [(x9, .inr (10, [.int 0, .int (nI ch), .int era, .int why, .int det, .int cau, .int (zI sv), .int (zI false), .ref v9, .ref b9, .ref s9, .ref k9, .ref p9, .ref t9, .ref n9, .int (nI tn), .int (nI he), .int (nI en), .int (nI ln), .int (zI iw), .int (zI dg)])), (t9, .inl (cy 0, 60, .inl tx)), (v9, .inl (cy 0, 188, .inl (vs 0))), (b9, .inl (cy 0, 188, .inl (vs 0))), (p9, .inl (cy 0, 1504, .inl (zpk hq)))] := hD
  refine lv_aload_n hx hb dX6_execute_4 rfl (lv_at hl 0 rfl) ?_
  refine lv_aload_n hx hb dX6_execute_5 rfl (lv_at hl 0 rfl) ?_
  refine va_get (D := D) (ci := 10) (v := .int (nI tn)) (C := RX6) (T := TX6) (N := 21) hx hb hts in_RX6 hown hK hP 0 rfl rfl 15 (by decide) (hts _ (List.mem_of_getElem? (i := 1) rfl)) (fun _ h9 => h9) rfl dX6_execute_6 ?_
  refine va_put (D := D) (ci := 10) (v := .int (nI tn)) (ty := .int) (C := RX6) (T := TX6) (N := 21) hx hb hts in_RX6 tyX6 tyX6_ok nmX6 hown hK hP hD hS 0 rfl rfl 17 (by decide) (hts _ (List.mem_of_getElem? (i := 2) rfl)) (fun _ h9 => h9) rfl (by decide +kernel) rfl rfl (Nat.le_of_ble_eq_true rfl) dX6_execute_9 (fun H locs hP hD hS => ?_)
  have hP : va_P D vwCl [(x9, .inr (10, [.int 0, .int (nI ch), .int era, .int why, .int det, .int cau, .int (zI sv), .int (zI false), .ref v9, .ref b9, .ref s9, .ref k9, .ref p9, .ref t9, .ref n9, .int (nI tn), .int (nI he), .int (nI tn), .int (nI ln), .int (zI iw), .int (zI dg)])), (t9, .inl (cy 0, 60, .inl tx)), (v9, .inl (cy 0, 188, .inl (vs 0))), (b9, .inl (cy 0, 188, .inl (vs 0))), (p9, .inl (cy 0, 1504, .inl (zpk hq)))] H := hP
  have hD : va_D A [(x9, .inr (10, [.int 0, .int (nI ch), .int era, .int why, .int det, .int cau, .int (zI sv), .int (zI false), .ref v9, .ref b9, .ref s9, .ref k9, .ref p9, .ref t9, .ref n9, .int (nI tn), .int (nI he), .int (nI tn), .int (nI ln), .int (zI iw), .int (zI dg)])), (t9, .inl (cy 0, 60, .inl tx)), (v9, .inl (cy 0, 188, .inl (vs 0))), (b9, .inl (cy 0, 188, .inl (vs 0))), (p9, .inl (cy 0, 1504, .inl (zpk hq)))] := hD
  refine lv_aload_n hx hb dX6_execute_12 rfl (lv_at hl 0 rfl) ?_
  refine lv_iconst (v := 0) hx hb dX6_execute_13 (by decide) ?_
  refine z_top (y := nI 0) (rfl) ?_
  refine va_put (D := D) (ci := 10) (v := .int (nI 0)) (ty := .int) (C := RX6) (T := TX6) (N := 21) hx hb hts in_RX6 tyX6 tyX6_ok nmX6 hown hK hP hD hS 0 rfl rfl 15 (by decide) (hts _ (List.mem_of_getElem? (i := 1) rfl)) (fun _ h9 => h9) rfl (by decide +kernel) rfl rfl (Nat.le_of_ble_eq_true rfl) dX6_execute_14 (fun H locs hP hD hS => ?_)
  have hP : va_P D vwCl [(x9, .inr (10, [.int 0, .int (nI ch), .int era, .int why, .int det, .int cau, .int (zI sv), .int (zI false), .ref v9, .ref b9, .ref s9, .ref k9, .ref p9, .ref t9, .ref n9, .int (nI 0), .int (nI he), .int (nI tn), .int (nI ln), .int (zI iw), .int (zI dg)])), (t9, .inl (cy 0, 60, .inl tx)), (v9, .inl (cy 0, 188, .inl (vs 0))), (b9, .inl (cy 0, 188, .inl (vs 0))), (p9, .inl (cy 0, 1504, .inl (zpk hq)))] H := hP
  have hD : va_D A [(x9, .inr (10, [.int 0, .int (nI ch), .int era, .int why, .int det, .int cau, .int (zI sv), .int (zI false), .ref v9, .ref b9, .ref s9, .ref k9, .ref p9, .ref t9, .ref n9, .int (nI 0), .int (nI he), .int (nI tn), .int (nI ln), .int (zI iw), .int (zI dg)])), (t9, .inl (cy 0, 60, .inl tx)), (v9, .inl (cy 0, 188, .inl (vs 0))), (b9, .inl (cy 0, 188, .inl (vs 0))), (p9, .inl (cy 0, 1504, .inl (zpk hq)))] := hD
  refine lv_aload_n hx hb dX6_execute_17 rfl (lv_at hl 0 rfl) ?_
  refine lv_iconst (v := 0) hx hb dX6_execute_18 (by decide) ?_
  refine z_top (y := zI false) rfl ?_
  refine va_put (D := D) (ci := 10) (v := .int (zI false)) (ty := .boolean) (C := RX6) (T := TX6) (N := 21) hx hb hts in_RX6 tyX6 tyX6_ok nmX6 hown hK hP hD hS 0 rfl rfl 20 (by decide) (hts _ (List.mem_of_getElem? (i := 3) rfl)) (fun _ h9 => h9) rfl (by decide +kernel) (zI_nar _) (zI_fit _) (Nat.le_of_ble_eq_true rfl) dX6_execute_19 (fun H locs hP hD hS => ?_)
  have hP : va_P D vwCl [(x9, .inr (10, [.int 0, .int (nI ch), .int era, .int why, .int det, .int cau, .int (zI sv), .int (zI false), .ref v9, .ref b9, .ref s9, .ref k9, .ref p9, .ref t9, .ref n9, .int (nI 0), .int (nI he), .int (nI tn), .int (nI ln), .int (zI iw), .int (zI false)])), (t9, .inl (cy 0, 60, .inl tx)), (v9, .inl (cy 0, 188, .inl (vs 0))), (b9, .inl (cy 0, 188, .inl (vs 0))), (p9, .inl (cy 0, 1504, .inl (zpk hq)))] H := hP
  have hD : va_D A [(x9, .inr (10, [.int 0, .int (nI ch), .int era, .int why, .int det, .int cau, .int (zI sv), .int (zI false), .ref v9, .ref b9, .ref s9, .ref k9, .ref p9, .ref t9, .ref n9, .int (nI 0), .int (nI he), .int (nI tn), .int (nI ln), .int (zI iw), .int (zI false)])), (t9, .inl (cy 0, 60, .inl tx)), (v9, .inl (cy 0, 188, .inl (vs 0))), (b9, .inl (cy 0, 188, .inl (vs 0))), (p9, .inl (cy 0, 1504, .inl (zpk hq)))] := hD
  refine lv_aload_n hx hb dX6_execute_22 rfl (lv_at hl 0 rfl) ?_
  refine zcV (As := []) (rest := []) [0, 1] 0 hg.1 ⟨hx, hb, hml, hown, hts⟩ (c_X6_commands_parse hg l D cy x9 ch era why det cau sv false v9 b9 s9 k9 p9 t9 n9 0 he tn ln iw tx htn) (cwV 0 hts gX6_execute_X6_commands rfl rfl rfl (by decide +kernel) ⟨Nat.le_of_ble_eq_true rfl, Nat.le_of_ble_eq_true rfl⟩) hG hK hP hD hS hA rfl rfl (Eq.trans (b := [x9, t9]) rfl rfl) rfl rfl rfl hl.1 rfl (Nat.le_of_ble_eq_true rfl) dX6_execute_23 ⟨Nat.zero_le _, Nat.zero_le _⟩ (fun H locs hP hD hS => ?_)
  have hP : va_P D vwCl [(x9, .inr (10, [.int 0, .int (nI ch), .int era, .int why, .int det, .int cau, .int (zI sv), .int (zI false), .ref v9, .ref b9, .ref s9, .ref k9, .ref p9, .ref t9, .ref n9, .int (nI 0), .int (nI (zPH tx tn)), .int (nI tn), .int (nI ln), .int (zI (zPW tx tn)), .int (zI false)])), (t9, .inl (cy 0, 60, .inl tx)), (v9, .inl (cy 0, 188, .inl (vs 0))), (b9, .inl (cy 0, 188, .inl (vs 0))), (p9, .inl (cy 0, 1504, .inl (zpk hq)))] H := hP
  have hD : va_D A [(x9, .inr (10, [.int 0, .int (nI ch), .int era, .int why, .int det, .int cau, .int (zI sv), .int (zI false), .ref v9, .ref b9, .ref s9, .ref k9, .ref p9, .ref t9, .ref n9, .int (nI 0), .int (nI (zPH tx tn)), .int (nI tn), .int (nI ln), .int (zI (zPW tx tn)), .int (zI false)])), (t9, .inl (cy 0, 60, .inl tx)), (v9, .inl (cy 0, 188, .inl (vs 0))), (b9, .inl (cy 0, 188, .inl (vs 0))), (p9, .inl (cy 0, 1504, .inl (zpk hq)))] := hD
  refine lv_istore_n (lv' := [(1, .int (nI (zPC tx tn))), (0, .ref x9)]) hx hb dX6_execute_26 rfl hl (by decide) rfl (fun ls hl => ?_)
  refine lv_aload_n hx hb dX6_execute_27 rfl (lv_at hl 1 rfl) ?_
  refine va_get (D := D) (ci := 10) (v := .int (zI (zPW tx tn))) (C := RX6) (T := TX6) (N := 21) hx hb hts in_RX6 hown hK hP 0 rfl rfl 19 (by decide) (hts _ (List.mem_of_getElem? (i := 4) rfl)) (fun _ h9 => h9) rfl dX6_execute_28 ?_
  refine lv_if_eq (tgt := 48) hx hb dX6_execute_31 (by decide) (fun c_1 => ?_) (fun c_1 => ?_)
  · replace c_1 := zI0 c_1
    have er_2 : zPW tx tn = false := c_1
    rw [er_2] at hP hD
    refine lv_aload_n hx hb dX6_execute_48 rfl (lv_at hl 1 rfl) ?_
    refine lv_iconst (v := 1) hx hb dX6_execute_49 (by decide) ?_
    refine z_top (y := zI true) rfl ?_
    refine va_put (D := D) (ci := 10) (v := .int (zI true)) (ty := .boolean) (C := RX6) (T := TX6) (N := 21) hx hb hts in_RX6 tyX6 tyX6_ok nmX6 hown hK hP hD hS 0 rfl rfl 20 (by decide) (hts _ (List.mem_of_getElem? (i := 3) rfl)) (fun _ h9 => h9) rfl (by decide +kernel) (zI_nar _) (zI_fit _) (Nat.le_of_ble_eq_true rfl) dX6_execute_50 (fun H locs hP hD hS => ?_)
    have hP : va_P D vwCl [(x9, .inr (10, [.int 0, .int (nI ch), .int era, .int why, .int det, .int cau, .int (zI sv), .int (zI false), .ref v9, .ref b9, .ref s9, .ref k9, .ref p9, .ref t9, .ref n9, .int (nI 0), .int (nI (zPH tx tn)), .int (nI tn), .int (nI ln), .int (zI false), .int (zI true)])), (t9, .inl (cy 0, 60, .inl tx)), (v9, .inl (cy 0, 188, .inl (vs 0))), (b9, .inl (cy 0, 188, .inl (vs 0))), (p9, .inl (cy 0, 1504, .inl (zpk hq)))] H := hP
    have hD : va_D A [(x9, .inr (10, [.int 0, .int (nI ch), .int era, .int why, .int det, .int cau, .int (zI sv), .int (zI false), .ref v9, .ref b9, .ref s9, .ref k9, .ref p9, .ref t9, .ref n9, .int (nI 0), .int (nI (zPH tx tn)), .int (nI tn), .int (nI ln), .int (zI false), .int (zI true)])), (t9, .inl (cy 0, 60, .inl tx)), (v9, .inl (cy 0, 188, .inl (vs 0))), (b9, .inl (cy 0, 188, .inl (vs 0))), (p9, .inl (cy 0, 1504, .inl (zpk hq)))] := hD
    refine lv_aload_n hx hb dX6_execute_53 rfl (lv_at hl 1 rfl) ?_
    refine zcV (As := []) (rest := []) [0, 1, 2] 0 hg.1 ⟨hx, hb, hml, hown, hts⟩ (c_X6_commands_do hg l D cy x9 ch era why det cau sv false v9 b9 s9 k9 p9 t9 n9 0 (zPH tx tn) tn ln false tx mm hs vs rs res2 th2 why2 det2 cau2 true v2 htn (by first | assumption | omega) (by first | assumption | omega) (by first | assumption | omega) (by first | assumption | omega) (by first | assumption | omega) (by first | assumption | omega) (by first | assumption | omega) (by first | assumption | omega)) (cwV 0 hts gX6_execute_X6_commands rfl rfl rfl (by decide +kernel) ⟨Nat.le_of_ble_eq_true rfl, Nat.le_of_ble_eq_true rfl⟩) hG hK hP hD hS hA rfl rfl (Eq.trans (b := [x9, t9, v9]) rfl rfl) rfl rfl rfl hl.1 rfl (Nat.le_of_ble_eq_true rfl) dX6_execute_54 ⟨Nat.zero_le _, Nat.zero_le _⟩ (fun H locs hP hD hS => ?_)
    have hP : va_P D vwCl [(x9, .inr (10, [.int th2, .int (nI ch), .int era, .int why2, .int det2, .int cau2, .int (zI sv), .int (zI true), .ref v9, .ref b9, .ref s9, .ref k9, .ref p9, .ref t9, .ref n9, .int (nI 0), .int (nI (zcH tx tn (hs mm))), .int (nI tn), .int (nI ln), .int (zI false), .int (zI true)])), (t9, .inl (cy 0, 60, .inl tx)), (v9, .inl (cy 0, 188, .inl v2)), (b9, .inl (cy 0, 188, .inl (vs 0))), (p9, .inl (cy 0, 1504, .inl (zpk hq)))] H := hP
    have hD : va_D A [(x9, .inr (10, [.int th2, .int (nI ch), .int era, .int why2, .int det2, .int cau2, .int (zI sv), .int (zI true), .ref v9, .ref b9, .ref s9, .ref k9, .ref p9, .ref t9, .ref n9, .int (nI 0), .int (nI (zcH tx tn (hs mm))), .int (nI tn), .int (nI ln), .int (zI false), .int (zI true)])), (t9, .inl (cy 0, 60, .inl tx)), (v9, .inl (cy 0, 188, .inl v2)), (b9, .inl (cy 0, 188, .inl (vs 0))), (p9, .inl (cy 0, 1504, .inl (zpk hq)))] := hD
    refine lv_istore_n (lv' := [(1, .int (nI (mm + 1))), (0, .ref x9)]) hx hb dX6_execute_57 rfl hl (by decide) rfl (fun ls hl => ?_)
    refine lv_aload_n hx hb dX6_execute_58 rfl (lv_at hl 1 rfl) ?_
    refine va_get (D := D) (ci := 10) (v := .int th2) (C := RX6) (T := TX6) (N := 21) hx hb hts in_RX6 hown hK hP 0 rfl rfl 0 (by decide) (hts _ (List.mem_of_getElem? (i := 7) rfl)) (fun _ h9 => h9) rfl dX6_execute_59 ?_
    refine lv_if_ne (tgt := 71) hx hb dX6_execute_62 (by decide) (fun c_3 => ?_) (fun c_3 => ?_)
    · refine lv_aload_n hx hb dX6_execute_71 rfl (lv_at hl 1 rfl) ?_
      refine va_get (D := D) (ci := 10) (v := .int (zI true)) (C := RX6) (T := TX6) (N := 21) hx hb hts in_RX6 hown hK hP 0 rfl rfl 7 (by decide) (hts _ (List.mem_of_getElem? (i := 8) rfl)) (fun _ h9 => h9) rfl dX6_execute_72 ?_
      refine lv_if_ne (tgt := 89) hx hb dX6_execute_75 (by decide) (fun c_4 => ?_) (fun c_4 => ?_)
      · replace c_4 := zI1 c_4
        refine lv_aload_n hx hb dX6_execute_89 rfl (lv_at hl 1 rfl) ?_
        refine va_get (D := D) (ci := 10) (v := .int why2) (C := RX6) (T := TX6) (N := 21) hx hb hts in_RX6 hown hK hP 0 rfl rfl 3 (by decide) (hts _ (List.mem_of_getElem? (i := 9) rfl)) (fun _ h9 => h9) rfl dX6_execute_90 ?_
        refine lv_istore_n (lv' := [(2, .int why2), (1, .int (nI (mm + 1))), (0, .ref x9)]) hx hb dX6_execute_93 rfl hl (by decide) rfl (fun ls hl => ?_)
        refine lv_aload_n hx hb dX6_execute_94 rfl (lv_at hl 2 rfl) ?_
        refine lv_iconst (v := 3) hx hb dX6_execute_95 (by decide) ?_
        refine lv_bipush (v := 15) hx hb dX6_execute_96 (by decide) ?_
        refine lv_iload_n hx hb dX6_execute_98 rfl (lv_at hl 1 rfl) ?_
        refine lv_iconst (v := 1) hx hb dX6_execute_99 (by decide) ?_
        refine lv_isub hx hb dX6_execute_100 ?_
        refine z_top (y := nI mm) (nI_pred mm) ?_
        refine zcV (As := [.int 3, .int 15, .int (nI mm)]) (rest := []) [0] 0 hg.1 ⟨hx, hb, hml, hown, hts⟩ (c_X6_rejects hg l D cy x9 th2 ch era why2 det2 cau2 sv true v9 b9 s9 k9 p9 t9 n9 0 (zcH tx tn (hs mm)) tn ln false true 3 15 (nI mm)) (cwV 3 hts gX6_execute_X6_rejects rfl rfl rfl (by decide +kernel) ⟨Nat.le_of_ble_eq_true rfl, Nat.le_of_ble_eq_true rfl⟩) hG hK hP hD hS hA rfl rfl (Eq.trans (b := [x9]) rfl rfl) rfl rfl rfl hl.1 rfl (Nat.le_of_ble_eq_true rfl) dX6_execute_101 ⟨Nat.zero_le _, Nat.zero_le _⟩ (fun H locs hP hD hS => ?_)
        have hP : va_P D vwCl [(x9, .inr (10, [.int 3, .int (nI ch), .int era, .int 15, .int (nI mm), .int 0, .int (zI sv), .int (zI true), .ref v9, .ref b9, .ref s9, .ref k9, .ref p9, .ref t9, .ref n9, .int (nI 0), .int (nI (zcH tx tn (hs mm))), .int (nI tn), .int (nI ln), .int (zI false), .int (zI true)])), (t9, .inl (cy 0, 60, .inl tx)), (v9, .inl (cy 0, 188, .inl v2)), (b9, .inl (cy 0, 188, .inl (vs 0))), (p9, .inl (cy 0, 1504, .inl (zpk hq)))] H := hP
        have hD : va_D A [(x9, .inr (10, [.int 3, .int (nI ch), .int era, .int 15, .int (nI mm), .int 0, .int (zI sv), .int (zI true), .ref v9, .ref b9, .ref s9, .ref k9, .ref p9, .ref t9, .ref n9, .int (nI 0), .int (nI (zcH tx tn (hs mm))), .int (nI tn), .int (nI ln), .int (zI false), .int (zI true)])), (t9, .inl (cy 0, 60, .inl tx)), (v9, .inl (cy 0, 188, .inl v2)), (b9, .inl (cy 0, 188, .inl (vs 0))), (p9, .inl (cy 0, 1504, .inl (zpk hq)))] := hD
        refine lv_istore_n (lv' := [(3, .int 0), (2, .int why2), (1, .int (nI (mm + 1))), (0, .ref x9)]) hx hb dX6_execute_104 rfl hl (by decide) rfl (fun ls hl => ?_)
        refine lv_aload_n hx hb dX6_execute_105 rfl (lv_at hl 3 rfl) ?_
        refine lv_iload_n hx hb dX6_execute_106 rfl (lv_at hl 1 rfl) ?_
        refine va_put (D := D) (ci := 10) (v := .int why2) (ty := .int) (C := RX6) (T := TX6) (N := 21) hx hb hts in_RX6 tyX6 tyX6_ok nmX6 hown hK hP hD hS 0 rfl rfl 5 (by decide) (hts _ (List.mem_of_getElem? (i := 10) rfl)) (fun _ h9 => h9) rfl (by decide +kernel) rfl rfl (Nat.le_of_ble_eq_true rfl) dX6_execute_107 (fun H locs hP hD hS => ?_)
        have hP : va_P D vwCl [(x9, .inr (10, [.int 3, .int (nI ch), .int era, .int 15, .int (nI mm), .int why2, .int (zI sv), .int (zI true), .ref v9, .ref b9, .ref s9, .ref k9, .ref p9, .ref t9, .ref n9, .int (nI 0), .int (nI (zcH tx tn (hs mm))), .int (nI tn), .int (nI ln), .int (zI false), .int (zI true)])), (t9, .inl (cy 0, 60, .inl tx)), (v9, .inl (cy 0, 188, .inl v2)), (b9, .inl (cy 0, 188, .inl (vs 0))), (p9, .inl (cy 0, 1504, .inl (zpk hq)))] H := hP
        have hD : va_D A [(x9, .inr (10, [.int 3, .int (nI ch), .int era, .int 15, .int (nI mm), .int why2, .int (zI sv), .int (zI true), .ref v9, .ref b9, .ref s9, .ref k9, .ref p9, .ref t9, .ref n9, .int (nI 0), .int (nI (zcH tx tn (hs mm))), .int (nI tn), .int (nI ln), .int (zI false), .int (zI true)])), (t9, .inl (cy 0, 60, .inl tx)), (v9, .inl (cy 0, 188, .inl v2)), (b9, .inl (cy 0, 188, .inl (vs 0))), (p9, .inl (cy 0, 1504, .inl (zpk hq)))] := hD
        refine lv_aload_n hx hb dX6_execute_110 rfl (lv_at hl 3 rfl) ?_
        refine lv_iload_n hx hb dX6_execute_111 rfl (lv_at hl 0 rfl) ?_
        refine zcV (As := [.int 0]) (rest := []) [0, 2, 3, 4] 0 hg.1 ⟨hx, hb, hml, hown, hts⟩ (c_X6_ends_bad hg l D cy x9 3 ch era 15 (nI mm) why2 sv true v9 b9 s9 k9 p9 t9 n9 0 (zcH tx tn (hs mm)) tn ln false true v2 (vs 0) hq 0 (by decide)) (cwV 1 hts gX6_execute_X6_ends rfl rfl rfl (by decide +kernel) ⟨Nat.le_of_ble_eq_true rfl, Nat.le_of_ble_eq_true rfl⟩) hG hK hP hD hS hA rfl rfl (Eq.trans (b := [x9, v9, b9, p9]) rfl rfl) rfl rfl rfl hl.1 rfl (Nat.le_of_ble_eq_true rfl) dX6_execute_112 ⟨Nat.zero_le _, Nat.zero_le _⟩ (fun H locs hP hD hS => ?_)
        have hP : va_P D vwCl [(x9, .inr (10, [.int 3, .int (nI ch), .int era, .int 15, .int (nI mm), .int why2, .int (zI sv), .int (zI true), .ref v9, .ref b9, .ref s9, .ref k9, .ref p9, .ref t9, .ref n9, .int (nI 0), .int (nI (zcH tx tn (hs mm))), .int (nI tn), .int (nI ln), .int (zI false), .int (zI true)])), (t9, .inl (cy 0, 60, .inl tx)), (v9, .inl (cy 0, 188, .inl (vs 0))), (b9, .inl (cy 0, 188, .inl (vs 0))), (p9, .inl (cy 0, 1504, .inl (zpk hq)))] H := hP
        have hD : va_D A [(x9, .inr (10, [.int 3, .int (nI ch), .int era, .int 15, .int (nI mm), .int why2, .int (zI sv), .int (zI true), .ref v9, .ref b9, .ref s9, .ref k9, .ref p9, .ref t9, .ref n9, .int (nI 0), .int (nI (zcH tx tn (hs mm))), .int (nI tn), .int (nI ln), .int (zI false), .int (zI true)])), (t9, .inl (cy 0, 60, .inl tx)), (v9, .inl (cy 0, 188, .inl (vs 0))), (b9, .inl (cy 0, 188, .inl (vs 0))), (p9, .inl (cy 0, 1504, .inl (zpk hq)))] := hD
        exact ziret hend hx hb hr hlk hK hP hD hS dX6_execute_115 rfl rfl
      · replace c_4 := zI0 c_4
        exact absurd c_4 (by decide)
    · exact absurd c_3 ht2
  · replace c_1 := zI1 c_1
    exact absurd (hw.symm.trans c_1) (by decide)

abbrev rmX6_execute_f : Room := { frames := 8, cells := 0, slots := 0, locals := 184 }
set_option maxHeartbeats 4000000 in
set_option maxRecDepth 100000 in
theorem c_X6_execute_f {G : zG} (hg : zGN G) (l : Launch) (D : va_G) (cy : Nat → ClassId) (x9 : Nat) (th : Int32) (ch : Nat) (era : Int32) (why : Int32) (det : Int32) (cau : Int32) (sv : Bool) (rj : Bool) (v9 : Nat) (b9 : Nat) (s9 : Nat) (k9 : Nat) (p9 : Nat) (t9 : Nat) (n9 : Nat) (tn : Nat) (he : Nat) (en : Nat) (ln : Nat) (iw : Bool) (dg : Bool) (tx : Nat → Int32) (bf : Nat → Int32) (hq : Nat → Nat → Int32) (mm : Nat) (hs : Nat → Nat) (vs : Nat → Nat → Int32) (rs : Nat → Int32) (res2 : Int32) (th2 : Int32) (why2 : Int32) (det2 : Int32) (cau2 : Int32) (v2 : Nat → Int32) (htn : tn ≤ 60) (hw : zPW tx tn = false) (hs0 : hs 0 = 0) (hss : ∀ i, i < mm → hs (i + 1) = zcH tx tn (hs i) + 1) (hsw : ∀ i, i ≤ mm → zcW tx tn (hs i) = false) (hsg : ∀ i, i < mm → zqs tx tn (zcH tx tn (hs i)) = 59) (hs6 : ∀ i, i ≤ mm → hs i ≤ tn) (hdi : ∀ i, i < mm → zM G D vwCl (zT cy) l yX6_does wsX6_does { frames := 5, cells := 0, slots := 0, locals := 116 } [.ref x9, .int (zqs tx tn (hs i)), .int (zcA tx tn (hs i)), .int (zcB tx tn (hs i))] [(x9, .inr (10, [.int 0, .int (nI ch), .int era, .int why, .int det, .int cau, .int (zI sv), .int (zI false), .ref v9, .ref b9, .ref s9, .ref k9, .ref p9, .ref t9, .ref n9, .int (nI 0), .int (nI (zcH tx tn (hs i))), .int (nI tn), .int (nI ln), .int (zI false), .int (zI true)])), (v9, .inl (cy 0, 188, .inl (vs i)))] (some (.int (rs i))) [(x9, .inr (10, [.int 0, .int (nI ch), .int era, .int why, .int det, .int cau, .int (zI sv), .int (zI false), .ref v9, .ref b9, .ref s9, .ref k9, .ref p9, .ref t9, .ref n9, .int (nI 0), .int (nI (zcH tx tn (hs i))), .int (nI tn), .int (nI ln), .int (zI false), .int (zI true)])), (v9, .inl (cy 0, 188, .inl (vs (i + 1))))]) (hdm : zM G D vwCl (zT cy) l yX6_does wsX6_does { frames := 5, cells := 0, slots := 0, locals := 116 } [.ref x9, .int (zqs tx tn (hs mm)), .int (zcA tx tn (hs mm)), .int (zcB tx tn (hs mm))] [(x9, .inr (10, [.int 0, .int (nI ch), .int era, .int why, .int det, .int cau, .int (zI sv), .int (zI false), .ref v9, .ref b9, .ref s9, .ref k9, .ref p9, .ref t9, .ref n9, .int (nI 0), .int (nI (zcH tx tn (hs mm))), .int (nI tn), .int (nI ln), .int (zI false), .int (zI true)])), (v9, .inl (cy 0, 188, .inl (vs mm)))] (some (.int res2)) [(x9, .inr (10, [.int th2, .int (nI ch), .int era, .int why2, .int det2, .int cau2, .int (zI sv), .int (zI false), .ref v9, .ref b9, .ref s9, .ref k9, .ref p9, .ref t9, .ref n9, .int (nI 0), .int (nI (zcH tx tn (hs mm))), .int (nI tn), .int (nI ln), .int (zI false), .int (zI true)])), (v9, .inl (cy 0, 188, .inl v2))]) (hfe : ¬ th2 = 0 ∨ ¬ zcH tx tn (hs mm) < tn) (ht2 : ¬ th2 = 0) : zM G D vwCl (zT cy) l yX6_execute wsX6_execute rmX6_execute_f [.ref x9] [(x9, .inr (10, [.int th, .int (nI ch), .int era, .int why, .int det, .int cau, .int (zI sv), .int (zI rj), .ref v9, .ref b9, .ref s9, .ref k9, .ref p9, .ref t9, .ref n9, .int (nI tn), .int (nI he), .int (nI en), .int (nI ln), .int (zI iw), .int (zI dg)])), (t9, .inl (cy 0, 60, .inl tx)), (v9, .inl (cy 0, 188, .inl (vs 0))), (b9, .inl (cy 0, 188, .inl bf)), (p9, .inl (cy 0, 1504, .inl (zpk hq)))] (some (.int 0)) [(x9, .inr (10, [.int 2, .int (nI ch), .int era, .int why2, .int det2, .int cau2, .int (zI sv), .int (zI false), .ref v9, .ref b9, .ref s9, .ref k9, .ref p9, .ref t9, .ref n9, .int (nI 0), .int (nI (zcH tx tn (hs mm))), .int (nI tn), .int (nI ln), .int (zI false), .int (zI true)])), (t9, .inl (cy 0, 60, .inl tx)), (v9, .inl (cy 0, 188, .inl (vs 0))), (b9, .inl (cy 0, 188, .inl (vs 0))), (p9, .inl (cy 0, 1504, .inl (zpk hq)))] := by
  refine zM_of (cc := cX6_execute) (maxL := 4) (ret := (some .int)) (by decide) rfl (Nat.le_of_ble_eq_true rfl) ?_
  intro p e s m below meth c A Q hend hx hb hml hr hts hown hlk hG hK hP hD hA hS ls hl
  have hown : s.vm.findClass RX6 = some m.cls := hown
  have in_RX6 : ∀ w ∈ u_ws RX6 TX6 21, w ∈ wsX6_execute := by decide +kernel
  have hl : lv_has ls 4 [(0, .ref x9)] := hl
  refine lv_aload_n hx hb dX6_execute_0 rfl (lv_at hl 0 rfl) ?_
  refine zcV (As := []) (rest := []) [0, 2, 3] 0 hg.1 ⟨hx, hb, hml, hown, hts⟩ (c_X6_begins hg l D cy x9 th ch era why det cau sv rj v9 b9 s9 k9 p9 t9 n9 tn he en ln iw dg (vs 0) bf) (cwV 0 hts gX6_execute_X6_begins rfl rfl rfl (by decide +kernel) ⟨Nat.le_of_ble_eq_true rfl, Nat.le_of_ble_eq_true rfl⟩) hG hK hP hD hS hA rfl rfl (Eq.trans (b := [x9, v9, b9]) rfl rfl) rfl rfl rfl hl.1 rfl (Nat.le_of_ble_eq_true rfl) dX6_execute_1 ⟨Nat.zero_le _, Nat.zero_le _⟩ (fun H locs hP hD hS => ?_)
  have hP : va_P D vwCl [(x9, .inr (10, [.int 0, .int (nI ch), .int era, .int why, .int det, .int cau, .int (zI sv), .int (zI false), .ref v9, .ref b9, .ref s9, .ref k9, .ref p9, .ref t9, .ref n9, .int (nI tn), .int (nI he), .int (nI en), .int (nI ln), .int (zI iw), .int (zI dg)])), (t9, .inl (cy 0, 60, .inl tx)), (v9, .inl (cy 0, 188, .inl (vs 0))), (b9, .inl (cy 0, 188, .inl (vs 0))), (p9, .inl (cy 0, 1504, .inl (zpk hq)))] H := hP
  have hD : va_D A [(x9, .inr (10, [.int 0, .int (nI ch), .int era, .int why, .int det, .int cau, .int (zI sv), .int (zI false), .ref v9, .ref b9, .ref s9, .ref k9, .ref p9, .ref t9, .ref n9, .int (nI tn), .int (nI he), .int (nI en), .int (nI ln), .int (zI iw), .int (zI dg)])), (t9, .inl (cy 0, 60, .inl tx)), (v9, .inl (cy 0, 188, .inl (vs 0))), (b9, .inl (cy 0, 188, .inl (vs 0))), (p9, .inl (cy 0, 1504, .inl (zpk hq)))] := hD
  refine lv_aload_n hx hb dX6_execute_4 rfl (lv_at hl 0 rfl) ?_
  refine lv_aload_n hx hb dX6_execute_5 rfl (lv_at hl 0 rfl) ?_
  refine va_get (D := D) (ci := 10) (v := .int (nI tn)) (C := RX6) (T := TX6) (N := 21) hx hb hts in_RX6 hown hK hP 0 rfl rfl 15 (by decide) (hts _ (List.mem_of_getElem? (i := 1) rfl)) (fun _ h9 => h9) rfl dX6_execute_6 ?_
  refine va_put (D := D) (ci := 10) (v := .int (nI tn)) (ty := .int) (C := RX6) (T := TX6) (N := 21) hx hb hts in_RX6 tyX6 tyX6_ok nmX6 hown hK hP hD hS 0 rfl rfl 17 (by decide) (hts _ (List.mem_of_getElem? (i := 2) rfl)) (fun _ h9 => h9) rfl (by decide +kernel) rfl rfl (Nat.le_of_ble_eq_true rfl) dX6_execute_9 (fun H locs hP hD hS => ?_)
  have hP : va_P D vwCl [(x9, .inr (10, [.int 0, .int (nI ch), .int era, .int why, .int det, .int cau, .int (zI sv), .int (zI false), .ref v9, .ref b9, .ref s9, .ref k9, .ref p9, .ref t9, .ref n9, .int (nI tn), .int (nI he), .int (nI tn), .int (nI ln), .int (zI iw), .int (zI dg)])), (t9, .inl (cy 0, 60, .inl tx)), (v9, .inl (cy 0, 188, .inl (vs 0))), (b9, .inl (cy 0, 188, .inl (vs 0))), (p9, .inl (cy 0, 1504, .inl (zpk hq)))] H := hP
  have hD : va_D A [(x9, .inr (10, [.int 0, .int (nI ch), .int era, .int why, .int det, .int cau, .int (zI sv), .int (zI false), .ref v9, .ref b9, .ref s9, .ref k9, .ref p9, .ref t9, .ref n9, .int (nI tn), .int (nI he), .int (nI tn), .int (nI ln), .int (zI iw), .int (zI dg)])), (t9, .inl (cy 0, 60, .inl tx)), (v9, .inl (cy 0, 188, .inl (vs 0))), (b9, .inl (cy 0, 188, .inl (vs 0))), (p9, .inl (cy 0, 1504, .inl (zpk hq)))] := hD
  refine lv_aload_n hx hb dX6_execute_12 rfl (lv_at hl 0 rfl) ?_
  refine lv_iconst (v := 0) hx hb dX6_execute_13 (by decide) ?_
  refine z_top (y := nI 0) (rfl) ?_
  refine va_put (D := D) (ci := 10) (v := .int (nI 0)) (ty := .int) (C := RX6) (T := TX6) (N := 21) hx hb hts in_RX6 tyX6 tyX6_ok nmX6 hown hK hP hD hS 0 rfl rfl 15 (by decide) (hts _ (List.mem_of_getElem? (i := 1) rfl)) (fun _ h9 => h9) rfl (by decide +kernel) rfl rfl (Nat.le_of_ble_eq_true rfl) dX6_execute_14 (fun H locs hP hD hS => ?_)
  have hP : va_P D vwCl [(x9, .inr (10, [.int 0, .int (nI ch), .int era, .int why, .int det, .int cau, .int (zI sv), .int (zI false), .ref v9, .ref b9, .ref s9, .ref k9, .ref p9, .ref t9, .ref n9, .int (nI 0), .int (nI he), .int (nI tn), .int (nI ln), .int (zI iw), .int (zI dg)])), (t9, .inl (cy 0, 60, .inl tx)), (v9, .inl (cy 0, 188, .inl (vs 0))), (b9, .inl (cy 0, 188, .inl (vs 0))), (p9, .inl (cy 0, 1504, .inl (zpk hq)))] H := hP
  have hD : va_D A [(x9, .inr (10, [.int 0, .int (nI ch), .int era, .int why, .int det, .int cau, .int (zI sv), .int (zI false), .ref v9, .ref b9, .ref s9, .ref k9, .ref p9, .ref t9, .ref n9, .int (nI 0), .int (nI he), .int (nI tn), .int (nI ln), .int (zI iw), .int (zI dg)])), (t9, .inl (cy 0, 60, .inl tx)), (v9, .inl (cy 0, 188, .inl (vs 0))), (b9, .inl (cy 0, 188, .inl (vs 0))), (p9, .inl (cy 0, 1504, .inl (zpk hq)))] := hD
  refine lv_aload_n hx hb dX6_execute_17 rfl (lv_at hl 0 rfl) ?_
  refine lv_iconst (v := 0) hx hb dX6_execute_18 (by decide) ?_
  refine z_top (y := zI false) rfl ?_
  refine va_put (D := D) (ci := 10) (v := .int (zI false)) (ty := .boolean) (C := RX6) (T := TX6) (N := 21) hx hb hts in_RX6 tyX6 tyX6_ok nmX6 hown hK hP hD hS 0 rfl rfl 20 (by decide) (hts _ (List.mem_of_getElem? (i := 3) rfl)) (fun _ h9 => h9) rfl (by decide +kernel) (zI_nar _) (zI_fit _) (Nat.le_of_ble_eq_true rfl) dX6_execute_19 (fun H locs hP hD hS => ?_)
  have hP : va_P D vwCl [(x9, .inr (10, [.int 0, .int (nI ch), .int era, .int why, .int det, .int cau, .int (zI sv), .int (zI false), .ref v9, .ref b9, .ref s9, .ref k9, .ref p9, .ref t9, .ref n9, .int (nI 0), .int (nI he), .int (nI tn), .int (nI ln), .int (zI iw), .int (zI false)])), (t9, .inl (cy 0, 60, .inl tx)), (v9, .inl (cy 0, 188, .inl (vs 0))), (b9, .inl (cy 0, 188, .inl (vs 0))), (p9, .inl (cy 0, 1504, .inl (zpk hq)))] H := hP
  have hD : va_D A [(x9, .inr (10, [.int 0, .int (nI ch), .int era, .int why, .int det, .int cau, .int (zI sv), .int (zI false), .ref v9, .ref b9, .ref s9, .ref k9, .ref p9, .ref t9, .ref n9, .int (nI 0), .int (nI he), .int (nI tn), .int (nI ln), .int (zI iw), .int (zI false)])), (t9, .inl (cy 0, 60, .inl tx)), (v9, .inl (cy 0, 188, .inl (vs 0))), (b9, .inl (cy 0, 188, .inl (vs 0))), (p9, .inl (cy 0, 1504, .inl (zpk hq)))] := hD
  refine lv_aload_n hx hb dX6_execute_22 rfl (lv_at hl 0 rfl) ?_
  refine zcV (As := []) (rest := []) [0, 1] 0 hg.1 ⟨hx, hb, hml, hown, hts⟩ (c_X6_commands_parse hg l D cy x9 ch era why det cau sv false v9 b9 s9 k9 p9 t9 n9 0 he tn ln iw tx htn) (cwV 0 hts gX6_execute_X6_commands rfl rfl rfl (by decide +kernel) ⟨Nat.le_of_ble_eq_true rfl, Nat.le_of_ble_eq_true rfl⟩) hG hK hP hD hS hA rfl rfl (Eq.trans (b := [x9, t9]) rfl rfl) rfl rfl rfl hl.1 rfl (Nat.le_of_ble_eq_true rfl) dX6_execute_23 ⟨Nat.zero_le _, Nat.zero_le _⟩ (fun H locs hP hD hS => ?_)
  have hP : va_P D vwCl [(x9, .inr (10, [.int 0, .int (nI ch), .int era, .int why, .int det, .int cau, .int (zI sv), .int (zI false), .ref v9, .ref b9, .ref s9, .ref k9, .ref p9, .ref t9, .ref n9, .int (nI 0), .int (nI (zPH tx tn)), .int (nI tn), .int (nI ln), .int (zI (zPW tx tn)), .int (zI false)])), (t9, .inl (cy 0, 60, .inl tx)), (v9, .inl (cy 0, 188, .inl (vs 0))), (b9, .inl (cy 0, 188, .inl (vs 0))), (p9, .inl (cy 0, 1504, .inl (zpk hq)))] H := hP
  have hD : va_D A [(x9, .inr (10, [.int 0, .int (nI ch), .int era, .int why, .int det, .int cau, .int (zI sv), .int (zI false), .ref v9, .ref b9, .ref s9, .ref k9, .ref p9, .ref t9, .ref n9, .int (nI 0), .int (nI (zPH tx tn)), .int (nI tn), .int (nI ln), .int (zI (zPW tx tn)), .int (zI false)])), (t9, .inl (cy 0, 60, .inl tx)), (v9, .inl (cy 0, 188, .inl (vs 0))), (b9, .inl (cy 0, 188, .inl (vs 0))), (p9, .inl (cy 0, 1504, .inl (zpk hq)))] := hD
  refine lv_istore_n (lv' := [(1, .int (nI (zPC tx tn))), (0, .ref x9)]) hx hb dX6_execute_26 rfl hl (by decide) rfl (fun ls hl => ?_)
  refine lv_aload_n hx hb dX6_execute_27 rfl (lv_at hl 1 rfl) ?_
  refine va_get (D := D) (ci := 10) (v := .int (zI (zPW tx tn))) (C := RX6) (T := TX6) (N := 21) hx hb hts in_RX6 hown hK hP 0 rfl rfl 19 (by decide) (hts _ (List.mem_of_getElem? (i := 4) rfl)) (fun _ h9 => h9) rfl dX6_execute_28 ?_
  refine lv_if_eq (tgt := 48) hx hb dX6_execute_31 (by decide) (fun c_1 => ?_) (fun c_1 => ?_)
  · replace c_1 := zI0 c_1
    have er_2 : zPW tx tn = false := c_1
    rw [er_2] at hP hD
    refine lv_aload_n hx hb dX6_execute_48 rfl (lv_at hl 1 rfl) ?_
    refine lv_iconst (v := 1) hx hb dX6_execute_49 (by decide) ?_
    refine z_top (y := zI true) rfl ?_
    refine va_put (D := D) (ci := 10) (v := .int (zI true)) (ty := .boolean) (C := RX6) (T := TX6) (N := 21) hx hb hts in_RX6 tyX6 tyX6_ok nmX6 hown hK hP hD hS 0 rfl rfl 20 (by decide) (hts _ (List.mem_of_getElem? (i := 3) rfl)) (fun _ h9 => h9) rfl (by decide +kernel) (zI_nar _) (zI_fit _) (Nat.le_of_ble_eq_true rfl) dX6_execute_50 (fun H locs hP hD hS => ?_)
    have hP : va_P D vwCl [(x9, .inr (10, [.int 0, .int (nI ch), .int era, .int why, .int det, .int cau, .int (zI sv), .int (zI false), .ref v9, .ref b9, .ref s9, .ref k9, .ref p9, .ref t9, .ref n9, .int (nI 0), .int (nI (zPH tx tn)), .int (nI tn), .int (nI ln), .int (zI false), .int (zI true)])), (t9, .inl (cy 0, 60, .inl tx)), (v9, .inl (cy 0, 188, .inl (vs 0))), (b9, .inl (cy 0, 188, .inl (vs 0))), (p9, .inl (cy 0, 1504, .inl (zpk hq)))] H := hP
    have hD : va_D A [(x9, .inr (10, [.int 0, .int (nI ch), .int era, .int why, .int det, .int cau, .int (zI sv), .int (zI false), .ref v9, .ref b9, .ref s9, .ref k9, .ref p9, .ref t9, .ref n9, .int (nI 0), .int (nI (zPH tx tn)), .int (nI tn), .int (nI ln), .int (zI false), .int (zI true)])), (t9, .inl (cy 0, 60, .inl tx)), (v9, .inl (cy 0, 188, .inl (vs 0))), (b9, .inl (cy 0, 188, .inl (vs 0))), (p9, .inl (cy 0, 1504, .inl (zpk hq)))] := hD
    refine lv_aload_n hx hb dX6_execute_53 rfl (lv_at hl 1 rfl) ?_
    refine zcV (As := []) (rest := []) [0, 1, 2] 0 hg.1 ⟨hx, hb, hml, hown, hts⟩ (c_X6_commands_do hg l D cy x9 ch era why det cau sv false v9 b9 s9 k9 p9 t9 n9 0 (zPH tx tn) tn ln false tx mm hs vs rs res2 th2 why2 det2 cau2 false v2 htn (by first | assumption | omega) (by first | assumption | omega) (by first | assumption | omega) (by first | assumption | omega) (by first | assumption | omega) (by first | assumption | omega) (by first | assumption | omega) (by first | assumption | omega)) (cwV 0 hts gX6_execute_X6_commands rfl rfl rfl (by decide +kernel) ⟨Nat.le_of_ble_eq_true rfl, Nat.le_of_ble_eq_true rfl⟩) hG hK hP hD hS hA rfl rfl (Eq.trans (b := [x9, t9, v9]) rfl rfl) rfl rfl rfl hl.1 rfl (Nat.le_of_ble_eq_true rfl) dX6_execute_54 ⟨Nat.zero_le _, Nat.zero_le _⟩ (fun H locs hP hD hS => ?_)
    have hP : va_P D vwCl [(x9, .inr (10, [.int th2, .int (nI ch), .int era, .int why2, .int det2, .int cau2, .int (zI sv), .int (zI false), .ref v9, .ref b9, .ref s9, .ref k9, .ref p9, .ref t9, .ref n9, .int (nI 0), .int (nI (zcH tx tn (hs mm))), .int (nI tn), .int (nI ln), .int (zI false), .int (zI true)])), (t9, .inl (cy 0, 60, .inl tx)), (v9, .inl (cy 0, 188, .inl v2)), (b9, .inl (cy 0, 188, .inl (vs 0))), (p9, .inl (cy 0, 1504, .inl (zpk hq)))] H := hP
    have hD : va_D A [(x9, .inr (10, [.int th2, .int (nI ch), .int era, .int why2, .int det2, .int cau2, .int (zI sv), .int (zI false), .ref v9, .ref b9, .ref s9, .ref k9, .ref p9, .ref t9, .ref n9, .int (nI 0), .int (nI (zcH tx tn (hs mm))), .int (nI tn), .int (nI ln), .int (zI false), .int (zI true)])), (t9, .inl (cy 0, 60, .inl tx)), (v9, .inl (cy 0, 188, .inl v2)), (b9, .inl (cy 0, 188, .inl (vs 0))), (p9, .inl (cy 0, 1504, .inl (zpk hq)))] := hD
    refine lv_istore_n (lv' := [(1, .int (nI (mm + 1))), (0, .ref x9)]) hx hb dX6_execute_57 rfl hl (by decide) rfl (fun ls hl => ?_)
    refine lv_aload_n hx hb dX6_execute_58 rfl (lv_at hl 1 rfl) ?_
    refine va_get (D := D) (ci := 10) (v := .int th2) (C := RX6) (T := TX6) (N := 21) hx hb hts in_RX6 hown hK hP 0 rfl rfl 0 (by decide) (hts _ (List.mem_of_getElem? (i := 7) rfl)) (fun _ h9 => h9) rfl dX6_execute_59 ?_
    refine lv_if_ne (tgt := 71) hx hb dX6_execute_62 (by decide) (fun c_3 => ?_) (fun c_3 => ?_)
    · refine lv_aload_n hx hb dX6_execute_71 rfl (lv_at hl 1 rfl) ?_
      refine va_get (D := D) (ci := 10) (v := .int (zI false)) (C := RX6) (T := TX6) (N := 21) hx hb hts in_RX6 hown hK hP 0 rfl rfl 7 (by decide) (hts _ (List.mem_of_getElem? (i := 8) rfl)) (fun _ h9 => h9) rfl dX6_execute_72 ?_
      refine lv_if_ne (tgt := 89) hx hb dX6_execute_75 (by decide) (fun c_4 => ?_) (fun c_4 => ?_)
      · replace c_4 := zI1 c_4
        exact absurd c_4 (by decide)
      · replace c_4 := zI0 c_4
        refine lv_aload_n hx hb dX6_execute_78 rfl (lv_at hl 1 rfl) ?_
        refine lv_iconst (v := 2) hx hb dX6_execute_79 (by decide) ?_
        refine va_put (D := D) (ci := 10) (v := .int 2) (ty := .int) (C := RX6) (T := TX6) (N := 21) hx hb hts in_RX6 tyX6 tyX6_ok nmX6 hown hK hP hD hS 0 rfl rfl 0 (by decide) (hts _ (List.mem_of_getElem? (i := 7) rfl)) (fun _ h9 => h9) rfl (by decide +kernel) rfl rfl (Nat.le_of_ble_eq_true rfl) dX6_execute_80 (fun H locs hP hD hS => ?_)
        have hP : va_P D vwCl [(x9, .inr (10, [.int 2, .int (nI ch), .int era, .int why2, .int det2, .int cau2, .int (zI sv), .int (zI false), .ref v9, .ref b9, .ref s9, .ref k9, .ref p9, .ref t9, .ref n9, .int (nI 0), .int (nI (zcH tx tn (hs mm))), .int (nI tn), .int (nI ln), .int (zI false), .int (zI true)])), (t9, .inl (cy 0, 60, .inl tx)), (v9, .inl (cy 0, 188, .inl v2)), (b9, .inl (cy 0, 188, .inl (vs 0))), (p9, .inl (cy 0, 1504, .inl (zpk hq)))] H := hP
        have hD : va_D A [(x9, .inr (10, [.int 2, .int (nI ch), .int era, .int why2, .int det2, .int cau2, .int (zI sv), .int (zI false), .ref v9, .ref b9, .ref s9, .ref k9, .ref p9, .ref t9, .ref n9, .int (nI 0), .int (nI (zcH tx tn (hs mm))), .int (nI tn), .int (nI ln), .int (zI false), .int (zI true)])), (t9, .inl (cy 0, 60, .inl tx)), (v9, .inl (cy 0, 188, .inl v2)), (b9, .inl (cy 0, 188, .inl (vs 0))), (p9, .inl (cy 0, 1504, .inl (zpk hq)))] := hD
        refine lv_aload_n hx hb dX6_execute_83 rfl (lv_at hl 1 rfl) ?_
        refine lv_iconst (v := 0) hx hb dX6_execute_84 (by decide) ?_
        refine zcV (As := [.int 0]) (rest := []) [0, 2, 3, 4] 0 hg.1 ⟨hx, hb, hml, hown, hts⟩ (c_X6_ends_bad hg l D cy x9 2 ch era why2 det2 cau2 sv false v9 b9 s9 k9 p9 t9 n9 0 (zcH tx tn (hs mm)) tn ln false true v2 (vs 0) hq 0 (by decide)) (cwV 1 hts gX6_execute_X6_ends rfl rfl rfl (by decide +kernel) ⟨Nat.le_of_ble_eq_true rfl, Nat.le_of_ble_eq_true rfl⟩) hG hK hP hD hS hA rfl rfl (Eq.trans (b := [x9, v9, b9, p9]) rfl rfl) rfl rfl rfl hl.1 rfl (Nat.le_of_ble_eq_true rfl) dX6_execute_85 ⟨Nat.zero_le _, Nat.zero_le _⟩ (fun H locs hP hD hS => ?_)
        have hP : va_P D vwCl [(x9, .inr (10, [.int 2, .int (nI ch), .int era, .int why2, .int det2, .int cau2, .int (zI sv), .int (zI false), .ref v9, .ref b9, .ref s9, .ref k9, .ref p9, .ref t9, .ref n9, .int (nI 0), .int (nI (zcH tx tn (hs mm))), .int (nI tn), .int (nI ln), .int (zI false), .int (zI true)])), (t9, .inl (cy 0, 60, .inl tx)), (v9, .inl (cy 0, 188, .inl (vs 0))), (b9, .inl (cy 0, 188, .inl (vs 0))), (p9, .inl (cy 0, 1504, .inl (zpk hq)))] H := hP
        have hD : va_D A [(x9, .inr (10, [.int 2, .int (nI ch), .int era, .int why2, .int det2, .int cau2, .int (zI sv), .int (zI false), .ref v9, .ref b9, .ref s9, .ref k9, .ref p9, .ref t9, .ref n9, .int (nI 0), .int (nI (zcH tx tn (hs mm))), .int (nI tn), .int (nI ln), .int (zI false), .int (zI true)])), (t9, .inl (cy 0, 60, .inl tx)), (v9, .inl (cy 0, 188, .inl (vs 0))), (b9, .inl (cy 0, 188, .inl (vs 0))), (p9, .inl (cy 0, 1504, .inl (zpk hq)))] := hD
        exact ziret hend hx hb hr hlk hK hP hD hS dX6_execute_88 rfl rfl
    · exact absurd c_3 ht2
  · replace c_1 := zI1 c_1
    exact absurd (hw.symm.trans c_1) (by decide)
