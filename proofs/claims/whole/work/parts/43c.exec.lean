/-! the text read, on both sides -/
/-- the same signs, the same reading -/
theorem cg_N {tx bx : Nat → Int32} {en : Nat} (hq : ∀ h, zqs tx en h = zqs bx en h) : ∀ F h, zdN tx en F h = zdN bx en F h
  | 0, _ => rfl
  | F + 1, h => by simp only [zdN]; rw [hq, cg_N hq F (h + 1)]
theorem cg_V {tx bx : Nat → Int32} {en : Nat} (hq : ∀ h, zqs tx en h = zqs bx en h) : ∀ F h a, zdV tx en F h a = zdV bx en F h a
  | 0, _, _ => rfl
  | F + 1, h, a => by simp only [zdV]; rw [hq, cg_V hq F (h + 1)]
theorem cg_K {tx bx : Nat → Int32} {en : Nat} (hq : ∀ h, zqs tx en h = zqs bx en h) : ∀ F h, zkN tx en F h = zkN bx en F h
  | 0, _ => rfl
  | F + 1, h => by simp only [zkN]; rw [hq, cg_K hq F (h + 1)]
theorem cg_M {tx bx : Nat → Int32} {en : Nat} (hq : ∀ h, zqs tx en h = zqs bx en h) : ∀ F h k a, zkM tx en F h k a = zkM bx en F h k a
  | 0, _, _, _ => rfl
  | F + 1, h, k, a => by simp only [zkM]; rw [hq, cg_M hq F (h + 1)]
theorem cg_mW {tx bx : Nat → Int32} {en : Nat} (hq : ∀ h, zqs tx en h = zqs bx en h) (h : Nat) (iw : Bool) (x : Int32) : zmW tx en h iw x = zmW bx en h iw x := by unfold zmW; rw [hq]
theorem cg_mH {tx bx : Nat → Int32} {en : Nat} (hq : ∀ h, zqs tx en h = zqs bx en h) (h : Nat) (iw : Bool) (x : Int32) : zmH tx en h iw x = zmH bx en h iw x := by unfold zmH; rw [cg_mW hq]
theorem cg_bW {tx bx : Nat → Int32} {en : Nat} (hq : ∀ h, zqs tx en h = zqs bx en h) (h : Nat) (iw : Bool) (x : Int32) : zbW tx en h iw x = zbW bx en h iw x := by unfold zbW; rw [cg_mW hq, cg_mH hq, cg_N hq]
theorem cg_bH {tx bx : Nat → Int32} {en : Nat} (hq : ∀ h, zqs tx en h = zqs bx en h) (h : Nat) (iw : Bool) (x : Int32) : zbH tx en h iw x = zbH bx en h iw x := by unfold zbH; rw [cg_mW hq, cg_mH hq, cg_N hq]
theorem cg_bV {tx bx : Nat → Int32} {en : Nat} (hq : ∀ h, zqs tx en h = zqs bx en h) (h : Nat) (iw : Bool) (x : Int32) : zbV tx en h iw x = zbV bx en h iw x := by unfold zbV; rw [cg_mW hq, cg_mH hq, cg_V hq]
theorem cg_cH {tx bx : Nat → Int32} {en : Nat} (hq : ∀ h, zqs tx en h = zqs bx en h) (h : Nat) : zcH tx en h = zcH bx en h := by
  unfold zcH zcHk; simp only [hq, cg_N hq, cg_K hq, cg_bH hq]
theorem cg_cW {tx bx : Nat → Int32} {en : Nat} (hq : ∀ h, zqs tx en h = zqs bx en h) (h : Nat) : zcW tx en h = zcW bx en h := by
  unfold zcW zcWk; simp only [hq, cg_N hq, cg_K hq, cg_bW hq]
theorem cg_cA {tx bx : Nat → Int32} {en : Nat} (hq : ∀ h, zqs tx en h = zqs bx en h) (h : Nat) : zcA tx en h = zcA bx en h := by
  unfold zcA zcAk; simp only [hq, cg_V hq, cg_M hq]
theorem cg_cB {tx bx : Nat → Int32} {en : Nat} (hq : ∀ h, zqs tx en h = zqs bx en h) (h : Nat) : zcB tx en h = zcB bx en h := by
  unfold zcB zcBk; simp only [hq, cg_N hq, cg_bV hq]
theorem cg_LH {tx bx : Nat → Int32} {en : Nat} (hq : ∀ h, zqs tx en h = zqs bx en h) : ∀ F h w, zLH tx en F h w = zLH bx en F h w
  | 0, _, _ => rfl
  | F + 1, h, w => by simp only [zLH]; rw [hq, cg_cH hq, cg_cW hq, cg_LH hq F]
theorem cg_LW {tx bx : Nat → Int32} {en : Nat} (hq : ∀ h, zqs tx en h = zqs bx en h) : ∀ F h w, zLW tx en F h w = zLW bx en F h w
  | 0, _, _ => rfl
  | F + 1, h, w => by simp only [zLW]; rw [hq, cg_cH hq, cg_cW hq, cg_LW hq F]
theorem cg_PH {tx bx : Nat → Int32} {en : Nat} (hq : ∀ h, zqs tx en h = zqs bx en h) : zPH tx en = zPH bx en := by unfold zPH; rw [cg_cH hq, cg_cW hq, cg_LH hq]
theorem cg_PW {tx bx : Nat → Int32} {en : Nat} (hq : ∀ h, zqs tx en h = zqs bx en h) : zPW tx en = zPW bx en := by unfold zPW; rw [cg_cH hq, cg_cW hq, cg_LW hq]
theorem cg_q {tx bx : Nat → Int32} {en : Nat} (h : ∀ j, j < en → tx j = bx j) (k : Nat) : zqs tx en k = zqs bx en k := by
  unfold zqs
  by_cases q : k < en
  · rw [if_pos q, if_pos q, h k q]
  · rw [if_neg q, if_neg q]
theorem zq_lt {bx : Nat → Int32} {en h : Nat} {x : Int32} (e : zqs bx en h = x) (n : ¬ x = -1) : h < en := by
  by_cases q : h < en
  · exact q
  · exact absurd (e.symm.trans (if_neg q)) n
theorem bH_ge {bx : Nat → Int32} {en h : Nat} {iw : Bool} {x : Int32} : h ≤ zbH bx en h iw x := by
  unfold zbH zmH
  split <;> (try split) <;> omega
/-- what a command says: one of the signs, its numbers there -/
def zOp (bx : Nat → Int32) (en h : Nat) (x : Int32) : Prop :=
  (h < zcH bx en h) ∧
  (∀ k f, zgO bx en h k f = upd f k x) ∧
  (∀ k f, zgF bx en h k f = upd f k (zcA bx en h)) ∧
  (∀ k f, zgS bx en h k f = upd f k (zcB bx en h))
theorem zOp.gt {bx : Nat → Int32} {en h : Nat} {x : Int32} (hS9 : zOp bx en h x) : h < zcH bx en h := hS9.1
theorem zOp.o {bx : Nat → Int32} {en h : Nat} {x : Int32} (hS9 : zOp bx en h x) : ∀ k f, zgO bx en h k f = upd f k x := hS9.2.1
theorem zOp.f {bx : Nat → Int32} {en h : Nat} {x : Int32} (hS9 : zOp bx en h x) : ∀ k f, zgF bx en h k f = upd f k (zcA bx en h) := hS9.2.2.1
theorem zOp.s {bx : Nat → Int32} {en h : Nat} {x : Int32} (hS9 : zOp bx en h x) : ∀ k f, zgS bx en h k f = upd f k (zcB bx en h) := hS9.2.2.2
theorem zNu_V {bx : Nat → Int32} {en N h : Nat} (n : ¬ zdN bx en N h = 0) : zNu bx en N h = zdV bx en N h 0 := by
  unfold zNu zn0; rw [if_neg n]
theorem bW_f {bx : Nat → Int32} {en h : Nat} {iw : Bool} {x : Int32} (e : zbW bx en h iw x = false) : iw = false ∧ zs2 bx en h iw x = zbV bx en h iw x := by
  unfold zbW at e
  rw [Bool.or_eq_false_iff, decide_eq_false_iff_not] at e
  refine ⟨?_, ?_⟩
  · have := e.1
    unfold zmW at this
    rw [Bool.or_eq_false_iff] at this
    exact this.1
  · unfold zs2 zbV
    rw [e.1, zNu_V e.2]

theorem zop_of {bx : Nat → Int32} {en h : Nat} (hw : zcW bx en h = false) : ∃ x, zqs bx en h = x ∧ zOp bx en h x ∧ (x = 99 ∨ x = 120 ∨ x = 104 ∨ x = 114 ∨ x = 100 ∨ x = 117 ∨ x = 108 ∨ x = 103 ∨ x = 121 ∨ x = 102 ∨ x = 116 ∨ (x = 112 ∧ zcA bx en h = zkM bx en 8 (h + 1) 0 0) ∨ x = 113 ∨ x = 107) := by
  generalize e : zqs bx en h = x
  refine ⟨x, rfl, ?_⟩
  unfold zcW at hw
  rw [e] at hw
  have mk : (h < zcHk x bx en h) → (∀ k f, zgOk x k f = upd f k x) → (∀ k f, zgFk x bx en h k f = upd f k (zcAk x bx en h)) → (∀ k f, zgSk x bx en h k f = upd f k (zcBk x bx en h)) → zOp bx en h x := fun h1 h2 h3 h4 =>
    ⟨by unfold zcH; rw [e]; exact h1, fun k f => by unfold zgO; rw [e]; exact h2 k f, fun k f => by unfold zgF zcA; rw [e]; exact h3 k f, fun k f => by unfold zgS zcB; rw [e]; exact h4 k f⟩
  have eA : zcA bx en h = zcAk x bx en h := by unfold zcA; rw [e]
  rw [eA]
  unfold zcHk zgOk zgFk zgSk zcAk zcBk at *
  unfold zcWk at hw
  by_cases q1 : x = 99
  · simp only [if_pos q1] at hw mk ⊢
    obtain ⟨w1, w2⟩ := bW_f hw
    refine ⟨mk (Nat.lt_of_lt_of_le (show h < (h + 1) + zdN bx en 2 (h + 1) by omega) bH_ge) (fun _ _ => by trivial) (fun _ _ => by rw [zNu_V (of_decide_eq_false w1)]) (fun _ _ => by rw [w2]), Or.inl q1⟩
  · simp only [if_neg q1] at hw mk ⊢
    by_cases q2 : x = 121
    · simp only [if_pos q2] at hw mk ⊢
      obtain ⟨w1, w2⟩ := bW_f hw
      refine ⟨mk (Nat.lt_of_lt_of_le (show h < (h + 1) + zdN bx en 1 (h + 1) by omega) bH_ge) (fun _ _ => by trivial) (fun _ _ => by rw [zNu_V (of_decide_eq_false w1)]) (fun _ _ => by rw [w2]), by simp [q2]⟩
    · simp only [if_neg q2] at hw mk ⊢
      by_cases q3 : x = 112
      · simp only [if_pos q3] at hw mk ⊢
        exact ⟨mk (by omega) (fun _ _ => by trivial) (fun _ _ => by trivial) (fun _ _ => by trivial), by simp [q3]⟩
      · simp only [if_neg q3] at hw mk ⊢
        by_cases q4 : x = 120 ∨ x = 113
        · simp only [if_pos q4] at hw mk ⊢
          exact ⟨mk (by omega) (fun _ _ => by trivial) (fun _ _ => by trivial) (fun _ _ => by trivial), by rcases q4 with q | q <;> simp [q]⟩
        · simp only [if_neg q4] at hw mk ⊢
          by_cases q5 : zid x = true
          · simp only [if_pos q5] at hw mk ⊢
            refine ⟨mk (by omega) (fun _ _ => by trivial) (fun _ _ => by rw [zNu_V (of_decide_eq_false hw)]) (fun _ _ => by trivial), ?_⟩
            simp only [zid, Bool.or_eq_true, decide_eq_true_eq] at q5
            rcases q5 with (q | q) | q <;> simp [q]
          · simp only [if_neg q5] at hw mk ⊢
            by_cases q6 : zqn x = true
            · simp only [if_pos q6] at hw mk ⊢
              refine ⟨mk (by omega) (fun _ _ => by trivial) (fun _ _ => by rw [zNu_V (of_decide_eq_false hw)]) (fun _ _ => by trivial), ?_⟩
              simp only [zqn, Bool.or_eq_true, decide_eq_true_eq] at q6
              rcases q6 with ((((((q | q) | q) | q) | q) | q) | q) | q <;> simp [q]
            · simp only [if_neg q6] at hw
              exact absurd hw (by decide)
theorem zgO_n {bx : Nat → Int32} {en h k j : Nat} {f : Nat → Int32} (n : ¬ j = k) : zgO bx en h k f j = f j := by
  unfold zgO zgOk; split <;> (try exact un n) <;> split <;> (try exact un n) <;> split <;> (try exact un n) <;> split <;> (try exact un n) <;> split <;> (try exact un n) <;> split <;> (try exact un n) <;> rfl
theorem zgF_n {bx : Nat → Int32} {en h k j : Nat} {f : Nat → Int32} (n : ¬ j = k) : zgF bx en h k f j = f j := by
  unfold zgF zgFk; split <;> (try exact un n) <;> split <;> (try exact un n) <;> split <;> (try exact un n) <;> split <;> (try exact un n) <;> split <;> (try exact un n) <;> split <;> (try exact un n) <;> rfl
theorem zgS_n {bx : Nat → Int32} {en h k j : Nat} {f : Nat → Int32} (n : ¬ j = k) : zgS bx en h k f j = f j := by
  unfold zgS zgSk; split <;> (try exact un n) <;> split <;> (try exact un n) <;> split <;> (try exact un n) <;> split <;> (try exact un n) <;> split <;> (try exact un n) <;> split <;> (try exact un n) <;> rfl
theorem zaO_at {f bx : Nat → Int32} {en k : Nat} {x : Int32} (o : zOp bx en (zhs bx en k) x) : ∀ {n : Nat}, k < n → zaO f bx en n k = x
  | n + 1, h => by
    simp only [zaO]
    by_cases q : k = n
    · subst q; rw [o.o, upd_s]
    · rw [zgO_n q]; exact zaO_at o (by omega)
theorem zaF_at {f bx : Nat → Int32} {en k : Nat} {x : Int32} (o : zOp bx en (zhs bx en k) x) : ∀ {n : Nat}, k < n → zaF f bx en n k = zcA bx en (zhs bx en k)
  | n + 1, h => by
    simp only [zaF]
    by_cases q : k = n
    · subst q; rw [o.f, upd_s]
    · rw [zgF_n q]; exact zaF_at o (by omega)
theorem zaS_at {f bx : Nat → Int32} {en k : Nat} {x : Int32} (o : zOp bx en (zhs bx en k) x) : ∀ {n : Nat}, k < n → zaS f bx en n k = zcB bx en (zhs bx en k)
  | n + 1, h => by
    simp only [zaS]
    by_cases q : k = n
    · subst q; rw [o.s, upd_s]
    · rw [zgS_n q]; exact zaS_at o (by omega)
theorem zkM_pm {bx : Nat → Int32} {en : Nat} : ∀ (F h k : Nat) (a : Int32), k + F ≤ 8 → (∀ i, 8 ≤ i → i < 32 → bt a i = false) → ∀ i, 8 ≤ i → i < 32 → bt (zkM bx en F h k a) i = false
  | 0, _, _, _, _, ha => ha
  | F + 1, h, k, a, hk, ha => fun i h1 h2 => by
    simp only [zkM]
    by_cases q : zqs bx en h = 48 ∨ zqs bx en h = 49
    · rw [if_pos q]
      refine zkM_pm F (h + 1) (k + 1) _ (by omega) (fun j j1 j2 => ?_) i h1 h2
      rw [b_or, ha j j1 j2, Bool.false_or]
      by_cases r : zqs bx en h = 49
      · rw [if_pos r, bt_one (by omega) j2]; exact decide_eq_false (by omega)
      · rw [if_neg r, b_0]
    · rw [if_neg q]; exact ha i h1 h2
theorem zkM_255 {bx : Nat → Int32} {en h : Nat} : zic 0 255 (zkM bx en 8 h 0 0) = true := by
  have hp := zkM_pm (bx := bx) (en := en) 8 h 0 0 (by decide) (fun i _ _ => b_0 i)
  generalize zkM bx en 8 h 0 0 = m at hp
  obtain ⟨n, hn, rfl⟩ := pm_nat (m := m) (fun i i1 i2 => hp i (by omega) i2)
  have h8 : n < 256 := Nat.lt_pow_two_of_testBit (n := 8) n (fun i hi => by
    by_cases i32 : i < 32
    · rw [← bt_nI n i32]; exact hp i hi i32
    · exact Nat.testBit_lt_two_pow (Nat.lt_of_lt_of_le (show n < 2 ^ 24 from hn) (Nat.pow_le_pow_right (by decide) (by omega))))
  have h1 : ¬ nI n < 0 := fun z => by have := (fa_lt _ _).mp z; rw [nI_toInt (by omega)] at this; have h0 : (0 : Int32).toInt = 0 := rfl; omega
  have h2 : ¬ 255 < nI n := fun z => by
    have := (nI_ltI (a := 255) (b := n) (by decide) (by omega)).mp z; omega
  simp [zic, h1, h2]
/-- the first place where something doesn't hold -/
theorem zfirst {p : Nat → Prop} : ∀ n, (∀ i, i < n → p i) ∨ ∃ m, m < n ∧ (∀ i, i < m → p i) ∧ ¬ p m
  | 0 => Or.inl fun i h => absurd h (Nat.not_lt_zero i)
  | n + 1 => by
    rcases zfirst (p := p) n with h | ⟨m, h1, h2, h3⟩
    · by_cases q : p n
      · exact Or.inl fun i hi => by
          by_cases r : i = n
          · rw [r]; exact q
          · exact h i (by omega)
      · exact Or.inr ⟨n, by omega, h, q⟩
    · exact Or.inr ⟨m, by omega, h2, h3⟩
def zPa (bx : Nat → Int32) (en mq : Nat) : Prop :=
  (mq < 60) ∧
  (∀ i, i < mq → zcW bx en (zhs bx en i) = false ∧ zqs bx en (zcH bx en (zhs bx en i)) = 59) ∧
  (∀ i, i ≤ mq → zhs bx en i ≤ en) ∧
  (zPW bx en = zLW bx en (61 - mq) (zcH bx en (zhs bx en mq)) (zcW bx en (zhs bx en mq))) ∧
  (zPH bx en = zLH bx en (61 - mq) (zcH bx en (zhs bx en mq)) (zcW bx en (zhs bx en mq)))
theorem zPa.lt {bx : Nat → Int32} {en mq : Nat} (hS9 : zPa bx en mq) : mq < 60 := hS9.1
theorem zPa.ok {bx : Nat → Int32} {en mq : Nat} (hS9 : zPa bx en mq) : ∀ i, i < mq → zcW bx en (zhs bx en i) = false ∧ zqs bx en (zcH bx en (zhs bx en i)) = 59 := hS9.2.1
theorem zPa.le {bx : Nat → Int32} {en mq : Nat} (hS9 : zPa bx en mq) : ∀ i, i ≤ mq → zhs bx en i ≤ en := hS9.2.2.1
theorem zPa.lw {bx : Nat → Int32} {en mq : Nat} (hS9 : zPa bx en mq) : zPW bx en = zLW bx en (61 - mq) (zcH bx en (zhs bx en mq)) (zcW bx en (zhs bx en mq)) := hS9.2.2.2.1
theorem zPa.lh {bx : Nat → Int32} {en mq : Nat} (hS9 : zPa bx en mq) : zPH bx en = zLH bx en (61 - mq) (zcH bx en (zhs bx en mq)) (zcW bx en (zhs bx en mq)) := hS9.2.2.2.2
theorem zPa_of {bx : Nat → Int32} {en : Nat} (hen : en ≤ 60) : ∃ mq, zPa bx en mq ∧ ¬ (zcW bx en (zhs bx en mq) = false ∧ zqs bx en (zcH bx en (zhs bx en mq)) = 59) := by
  have ge : ∀ m, (∀ i, i < m → zcW bx en (zhs bx en i) = false ∧ zqs bx en (zcH bx en (zhs bx en i)) = 59) → m ≤ zhs bx en m := by
    intro m
    induction m with
    | zero => intro _; exact Nat.zero_le _
    | succ m ih =>
      intro h
      have h1 := ih (fun i hi => h i (by omega))
      obtain ⟨x, -, o, -⟩ := zop_of (h m (by omega)).1
      have := o.gt
      show m + 1 ≤ zcH bx en (zhs bx en m) + 1
      omega
  rcases zfirst (p := fun i => zcW bx en (zhs bx en i) = false ∧ zqs bx en (zcH bx en (zhs bx en i)) = 59) 60 with h | ⟨mq, h1, h2, h3⟩
  · exfalso
    have a1 := ge 59 (fun i hi => h i (by omega))
    obtain ⟨x, -, o, -⟩ := zop_of (h 59 (by omega)).1
    have := o.gt
    have := zq_lt (h 59 (by omega)).2 (by decide)
    omega
  · refine ⟨mq, ⟨h1, h2, fun i hi => ?_, ?_, ?_⟩, h3⟩
    · cases i with
      | zero => exact Nat.zero_le _
      | succ j => exact zq_lt (h2 j (by omega)).2 (by decide)
    · have key : ∀ i, i ≤ mq → zPW bx en = zLW bx en (61 - i) (zcH bx en (zhs bx en i)) (zcW bx en (zhs bx en i)) := by
        intro i
        induction i with
        | zero => intro _; rfl
        | succ i ih =>
          intro hi
          rw [ih (by omega), show 61 - i = (61 - (i + 1)) + 1 by omega]
          obtain ⟨w1, w2⟩ := h2 i (by omega)
          simp only [zLW]
          rw [w1, if_neg (by decide), if_pos (zq_lt w2 (by decide)), if_pos w2]
          rfl
      exact key mq (Nat.le_refl _)
    · have key : ∀ i, i ≤ mq → zPH bx en = zLH bx en (61 - i) (zcH bx en (zhs bx en i)) (zcW bx en (zhs bx en i)) := by
        intro i
        induction i with
        | zero => intro _; rfl
        | succ i ih =>
          intro hi
          rw [ih (by omega), show 61 - i = (61 - (i + 1)) + 1 by omega]
          obtain ⟨w1, w2⟩ := h2 i (by omega)
          simp only [zLH]
          rw [w1, if_neg (by decide), if_pos (zq_lt w2 (by decide)), if_pos w2]
          rfl
      exact key mq (Nat.le_refl _)
