/-! numbers and bits -/
theorem p_zus {n j : Nat} (hn : n < 2 ^ 31) (hj : j < 31) : zus (nI n) (nI j) = nI (n / 2 ^ j) := by
  apply b_ext
  intro i hi
  unfold zus
  rw [b_ushr j (by omega) (nI n) i]
  unfold bt
  rw [show (nI n).toBitVec = BitVec.ofNat 32 n from rfl, show (nI (n / 2 ^ j)).toBitVec = BitVec.ofNat 32 (n / 2 ^ j) from rfl]
  rw [BitVec.getLsbD_ofNat, BitVec.getLsbD_ofNat, Nat.testBit_div_two_pow]
  by_cases h : j + i < 32
  · simp [h, hi, Nat.add_comm]
  · have h2 : n.testBit (i + j) = false := Nat.testBit_lt_two_pow (Nat.lt_of_lt_of_le hn (Nat.pow_le_pow_right (by decide) (by omega)))
    simp [h, h2]
theorem pn_and {x y u v : Nat} (hx : x < 256) (hu : u < 256) : (x + 256 * y) &&& (u + 256 * v) = (x &&& u) + 256 * (y &&& v) := by
  have h1 := Nat.and_mod_two_pow (a := x + 256 * y) (b := u + 256 * v) (n := 8)
  have h2 := Nat.and_div_two_pow (a := x + 256 * y) (b := u + 256 * v) (n := 8)
  rw [show (x + 256 * y) % 2 ^ 8 = x by omega, show (u + 256 * v) % 2 ^ 8 = u by omega] at h1
  rw [show (x + 256 * y) / 2 ^ 8 = y by omega, show (u + 256 * v) / 2 ^ 8 = v by omega] at h2
  omega
theorem pn_and3 {x y z u v w : Nat} (hx : x < 256) (hu : u < 256) (hy : y < 256) (hv : v < 256) (hz : z < 256) (hw : w < 256) (t : Nat) : (x + 256 * y + 65536 * z) &&& (u + 256 * v + 65536 * w + 16777216 * t) = (x &&& u) + 256 * (y &&& v) + 65536 * (z &&& w) := by
  rw [show x + 256 * y + 65536 * z = x + 256 * (y + 256 * (z + 256 * 0)) by omega, show u + 256 * v + 65536 * w + 16777216 * t = u + 256 * (v + 256 * (w + 256 * t)) by omega]
  rw [pn_and hx hu, pn_and hy hv, pn_and hz hw, Nat.zero_and]
  omega
theorem pn_85 {x y z : Nat} (hx : x < 256) (hy : y < 256) (hz : z < 256) : (x + 256 * y + 65536 * z) &&& 1431655765 = (x &&& 85) + 256 * (y &&& 85) + 65536 * (z &&& 85) := pn_and3 (u := 85) (v := 85) (w := 85) hx (by decide) hy (by decide) hz (by decide) 85
theorem pn_51 {x y z : Nat} (hx : x < 256) (hy : y < 256) (hz : z < 256) : (x + 256 * y + 65536 * z) &&& 858993459 = (x &&& 51) + 256 * (y &&& 51) + 65536 * (z &&& 51) := pn_and3 (u := 51) (v := 51) (w := 51) hx (by decide) hy (by decide) hz (by decide) 51
theorem pn_15 {x y z : Nat} (hx : x < 256) (hy : y < 256) (hz : z < 256) : (x + 256 * y + 65536 * z) &&& 252645135 = (x &&& 15) + 256 * (y &&& 15) + 65536 * (z &&& 15) := pn_and3 (u := 15) (v := 15) (w := 15) hx (by decide) hy (by decide) hz (by decide) 15
def ps1 (n : Nat) : Nat := n - ((n / 2) &&& 1431655765)
def ps2 (n : Nat) : Nat := (n &&& 858993459) + ((n / 4) &&& 858993459)
def ps3 (n : Nat) : Nat := (n + n / 16) &&& 252645135
theorem pb1 : ∀ a, a < 256 → ∀ e, e < 2 → (a / 2 + 128 * e) &&& 85 = (a / 2) &&& 85 := by decide +kernel
theorem pb2 : ∀ a, a < 256 → ∀ e, e < 4 → (a / 4 + 64 * e) &&& 51 = (a / 4) &&& 51 := by decide +kernel
def pa1 (a : Nat) : Nat := a - ((a / 2) &&& 85)
def pa2 (a : Nat) : Nat := (a &&& 51) + ((a / 4) &&& 51)
theorem pa1_lt {a : Nat} (h : a < 256) : pa1 a < 256 := by unfold pa1; omega
theorem pa2_lt {a : Nat} : pa2 a < 256 := by
  have h1 : a &&& 51 ≤ 51 := Nat.and_le_right
  have h2 : (a / 4) &&& 51 ≤ 51 := Nat.and_le_right
  unfold pa2; omega
theorem p1_le (a : Nat) : (a / 2) &&& 85 ≤ a := Nat.le_trans Nat.and_le_left (Nat.div_le_self a 2)
theorem ps1_3 {a b c : Nat} (ha : a < 256) (hb : b < 256) (hc : c < 256) : ps1 (a + 256 * b + 65536 * c) = pa1 a + 256 * pa1 b + 65536 * pa1 c := by
  have e : (a + 256 * b + 65536 * c) / 2 = (a / 2 + 128 * (b % 2)) + 256 * (b / 2 + 128 * (c % 2)) + 65536 * (c / 2) := by omega
  unfold ps1 pa1
  rw [e, pn_85 (by omega) (by omega) (by omega)]
  rw [pb1 a ha _ (Nat.mod_lt _ (by decide)), pb1 b hb _ (Nat.mod_lt _ (by decide))]
  have h1 := p1_le a
  have h2 := p1_le b
  have h3 := p1_le c
  omega
theorem ps2_3 {a b c : Nat} (ha : a < 256) (hb : b < 256) (hc : c < 256) : ps2 (a + 256 * b + 65536 * c) = pa2 a + 256 * pa2 b + 65536 * pa2 c := by
  have e : (a + 256 * b + 65536 * c) / 4 = (a / 4 + 64 * (b % 4)) + 256 * (b / 4 + 64 * (c % 4)) + 65536 * (c / 4) := by omega
  unfold ps2 pa2
  rw [e, pn_51 (x := a / 4 + 64 * (b % 4)) (by omega) (by omega) (by omega), pn_51 ha hb hc]
  rw [pb2 a ha _ (Nat.mod_lt _ (by decide)), pb2 b hb _ (Nat.mod_lt _ (by decide))]
  omega
def pa3 (a : Nat) : Nat := a % 16 + a / 16
theorem pb3 : ∀ x, x < 5 → ∀ y, y < 5 → ∀ z, z < 5 → (16 * (y + z) + (x + y)) &&& 15 = x + y := by decide +kernel
theorem ps3_3 {a b c : Nat} (ha : a % 16 < 5) (ha2 : a / 16 < 5) (hb : b % 16 < 5) (hb2 : b / 16 < 5) (hc : c % 16 < 5) (hc2 : c / 16 < 5) : ps3 (a + 256 * b + 65536 * c) = pa3 a + 256 * pa3 b + 65536 * pa3 c := by
  have e : (a + 256 * b + 65536 * c) + (a + 256 * b + 65536 * c) / 16 = (16 * (a / 16 + b % 16) + (a % 16 + a / 16)) + 256 * (16 * (b / 16 + c % 16) + (b % 16 + b / 16)) + 65536 * (16 * (c / 16 + 0) + (c % 16 + c / 16)) := by omega
  unfold ps3 pa3
  rw [e, pn_15 (by omega) (by omega) (by omega)]
  rw [pb3 _ ha _ ha2 _ hb, pb3 _ hb _ hb2 _ hc, pb3 _ hc _ hc2 _ (by decide)]
def pct (n : Nat) : Nat := n % 2 + n / 2 % 2 + n / 4 % 2 + n / 8 % 2 + n / 16 % 2 + n / 32 % 2 + n / 64 % 2 + n / 128 % 2
theorem pb4 : ∀ a, a < 256 → pa2 (pa1 a) % 16 < 5 ∧ pa2 (pa1 a) / 16 < 5 ∧ pa3 (pa2 (pa1 a)) = pct a := by decide +kernel
theorem pct_le (a : Nat) : pct a ≤ 8 := by unfold pct; omega
/-- bits of a number, from below -/
def pcF : Nat → Nat → Nat
  | 0, _ => 0
  | f + 1, n => n % 2 + pcF f (n / 2)
theorem pcF_8 (f n : Nat) : pcF (f + 8) n = pct (n % 256) + pcF f (n / 256) := by
  have e : pcF (f + 8) n = n % 2 + (n / 2 % 2 + (n / 2 / 2 % 2 + (n / 2 / 2 / 2 % 2 + (n / 2 / 2 / 2 / 2 % 2 + (n / 2 / 2 / 2 / 2 / 2 % 2 + (n / 2 / 2 / 2 / 2 / 2 / 2 % 2 + (n / 2 / 2 / 2 / 2 / 2 / 2 / 2 % 2 + pcF f (n / 2 / 2 / 2 / 2 / 2 / 2 / 2 / 2)))))))) := rfl
  have e2 : n / 2 / 2 / 2 / 2 / 2 / 2 / 2 / 2 = n / 256 := by omega
  rw [e, e2]
  generalize pcF f (n / 256) = X
  unfold pct
  omega
theorem pcF_24 (n : Nat) : pcF 24 n = pct (n % 256) + pct (n / 256 % 256) + pct (n / 65536 % 256) := by
  have h1 := pcF_8 16 n
  have h2 := pcF_8 8 (n / 256)
  have h3 := pcF_8 0 (n / 256 / 256)
  rw [show n / 256 / 256 = n / 65536 by omega] at h2 h3
  have h4 : pcF 0 (n / 65536 / 256) = 0 := rfl
  rw [h4] at h3
  have e1 : pcF 24 n = pct (n % 256) + pcF 16 (n / 256) := h1
  have e2 : pcF 16 (n / 256) = pct (n / 256 % 256) + pcF 8 (n / 65536) := h2
  have e3 : pcF 8 (n / 65536) = pct (n / 65536 % 256) + 0 := h3
  omega
theorem p_lit (n : Nat) : (OfNat.ofNat n : Int32) = nI n := rfl
theorem pcF_0 : ∀ f, pcF f 0 = 0
  | 0 => rfl
  | f + 1 => by simp [pcF, pcF_0 f]
theorem pn_and2 {x y u v : Nat} (hx : x < 2) (hu : u < 2) : (x + 2 * y) &&& (u + 2 * v) = (x &&& u) + 2 * (y &&& v) := by
  have h1 := Nat.and_mod_two_pow (a := x + 2 * y) (b := u + 2 * v) (n := 1)
  have h2 := Nat.and_div_two_pow (a := x + 2 * y) (b := u + 2 * v) (n := 1)
  rw [show (x + 2 * y) % 2 ^ 1 = x by omega, show (u + 2 * v) % 2 ^ 1 = u by omega] at h1
  rw [show (x + 2 * y) / 2 ^ 1 = y by omega, show (u + 2 * v) / 2 ^ 1 = v by omega] at h2
  omega
theorem pcF_k : ∀ (f n : Nat), n ≠ 0 → n < 2 ^ f → pcF f (n &&& (n - 1)) + 1 = pcF f n
  | 0, n, h0, h => by simp at h; exact absurd h h0
  | f + 1, n, h0, h => by
    rw [Nat.pow_succ] at h
    by_cases ho : n % 2 = 1
    · obtain ⟨k, rfl⟩ : ∃ k, n = 1 + 2 * k := ⟨n / 2, by omega⟩
      rw [show 1 + 2 * k - 1 = 0 + 2 * k by omega, pn_and2 (by decide) (by decide), Nat.and_self]
      simp only [pcF]
      rw [show (1 &&& 0) + 2 * k = 2 * k by simp, show 2 * k % 2 = 0 by omega, show 2 * k / 2 = k by omega, show (1 + 2 * k) % 2 = 1 by omega, show (1 + 2 * k) / 2 = k by omega]
      omega
    · obtain ⟨k, rfl⟩ : ∃ k, n = 0 + 2 * k := ⟨n / 2, by omega⟩
      have hk : k ≠ 0 := by omega
      rw [show 0 + 2 * k - 1 = 1 + 2 * (k - 1) by omega, pn_and2 (by decide) (by decide)]
      simp only [pcF]
      have ih := pcF_k f k hk (by omega)
      rw [show (0 &&& 1) + 2 * (k &&& (k - 1)) = 2 * (k &&& (k - 1)) by simp, show 2 * (k &&& (k - 1)) % 2 = 0 by omega, show 2 * (k &&& (k - 1)) / 2 = (k &&& (k - 1)) by omega, show (0 + 2 * k) % 2 = 0 by omega, show (0 + 2 * k) / 2 = k by omega]
      omega
theorem p_dec {n : Nat} (h : n ≠ 0) : nI n - 1 = nI (n - 1) := by
  obtain ⟨m, rfl⟩ : ∃ m, n = m + 1 := ⟨n - 1, by omega⟩
  exact nI_pred m
theorem pcF_le : ∀ (f n : Nat), pcF f n ≤ f
  | 0, _ => Nat.le_refl 0
  | f + 1, n => by have := pcF_le f (n / 2); simp only [pcF]; omega
theorem pcF_ct : ∀ (f n : Nat), pcF f n = fb_ct (fun i => n.testBit i) f
  | 0, _ => rfl
  | f + 1, n => by
    rw [show f + 1 = 1 + f by omega, fb_ct_split, show 1 + f = f + 1 by omega]
    simp only [pcF]
    rw [pcF_ct f (n / 2)]
    congr 1
    · simp only [fb_ct, Nat.testBit_zero]
      have : n % 2 = 0 ∨ n % 2 = 1 := by omega
      rcases this with h | h <;> simp [h]
    · apply fb_ct_cong
      intro k _
      rw [Nat.add_comm 1 k, Nat.testBit_succ]
theorem zpop_pcP (P : Nat → Nat) (hP : ∀ n, P n = pct (n % 256) + pct (n / 256 % 256) + pct (n / 65536 % 256)) {n : Nat} (h : n < 16777216) : zpop (nI n) = nI (P n) := by
  obtain ⟨a, b, c, ha, hb, hc, rfl⟩ : ∃ a b c, a < 256 ∧ b < 256 ∧ c < 256 ∧ n = a + 256 * b + 65536 * c := ⟨n % 256, n / 256 % 256, n / 65536, by omega, by omega, by omega, by omega⟩
  have e1 : zp1 (nI (a + 256 * b + 65536 * c)) = nI (ps1 (a + 256 * b + 65536 * c)) := by
    unfold zp1
    rw [p_lit 1, p_zus (by omega) (by decide), p_lit 1431655765, fa_and, pk_sub]
    · rfl
    · exact Nat.le_trans Nat.and_le_left (by omega)
  have e2 : ∀ m, m < 2 ^ 24 → zp2 (nI m) = nI (ps2 m) := by
    intro m hm
    unfold zp2
    rw [p_lit 2, p_zus (by omega) (by decide), p_lit 858993459, fa_and, fa_and, nI_add]
    rfl
  have e3 : ∀ m, m < 2 ^ 24 → zp3 (nI m) = nI (ps3 m) := by
    intro m hm
    unfold zp3
    rw [p_lit 4, p_zus (by omega) (by decide), nI_add, p_lit 252645135, fa_and]
    rfl
  unfold zpop
  have l1 := pa1_lt ha
  have l2 := pa1_lt hb
  have l3 := pa1_lt hc
  rw [e1, ps1_3 ha hb hc, e2 _ (by omega), ps2_3 l1 l2 l3]
  have m1 := pa2_lt (a := pa1 a)
  have m2 := pa2_lt (a := pa1 b)
  have m3 := pa2_lt (a := pa1 c)
  obtain ⟨a1, a2, a3⟩ := pb4 a ha
  obtain ⟨b1, b2, b3⟩ := pb4 b hb
  obtain ⟨c1, c2, c3⟩ := pb4 c hc
  rw [e3 _ (by omega), ps3_3 a1 a2 b1 b2 c1 c2, a3, b3, c3]
  have k1 := pct_le a
  have k2 := pct_le b
  have k3 := pct_le c
  unfold zp4 zp5
  rw [p_lit 8, p_zus (by omega) (by decide), nI_add, p_lit 16, p_zus (by omega) (by decide), nI_add, p_lit 63, fa_and]
  congr 1
  rw [show (63 : Nat) = 2 ^ 6 - 1 by decide, Nat.and_two_pow_sub_one_eq_mod, hP]
  rw [show (a + 256 * b + 65536 * c) % 256 = a by omega, show (a + 256 * b + 65536 * c) / 256 % 256 = b by omega, show (a + 256 * b + 65536 * c) / 65536 % 256 = c by omega]
  generalize pct a = A at *
  generalize pct b = B at *
  generalize pct c = C at *
  have t1 : (A + 256 * B + 65536 * C) / 2 ^ 8 = B + 256 * C := by omega
  rw [t1]
  have t2 : (A + 256 * B + 65536 * C + (B + 256 * C)) / 2 ^ 16 = C := by omega
  rw [t2]
  omega
theorem zpop_pc {n : Nat} (h : n < 16777216) : zpop (nI n) = nI (pcF 24 n) := zpop_pcP (pcF 24) pcF_24 h
theorem zbc_pcP (P : Nat → Nat) (hP0 : P 0 = 0) (hPk : ∀ n, n ≠ 0 → n < 2 ^ 24 → P (n &&& (n - 1)) + 1 = P n) : ∀ (F n k : Nat), n < 2 ^ 24 → P n ≤ F → zbc F (nI n) (nI k) = nI (k + P n) ∧ zbok F (nI n)
  | 0, n, k, h, hF => by
    have h0 : n = 0 := by
      by_cases h0 : n = 0
      · exact h0
      · have := hPk n h0 h; omega
    subst h0
    exact ⟨by simp [zbc, hP0], rfl⟩
  | F + 1, n, k, h, hF => by
    by_cases h0 : n = 0
    · subst h0
      exact ⟨by rw [zbc, if_pos (show nI 0 = 0 from rfl), hP0]; rfl, Or.inl rfl⟩
    · have h1 : ¬ nI n = 0 := fun z => h0 ((nI_eq (a := n) (b := 0) (by omega) (by decide)).mp z)
      have h2 := hPk n h0 h
      have hlt : n &&& (n - 1) < 2 ^ 24 := Nat.lt_of_le_of_lt Nat.and_le_left h
      obtain ⟨i1, i2⟩ := zbc_pcP P hP0 hPk F (n &&& (n - 1)) (k + 1) hlt (by omega)
      have e : nI n &&& (nI n - 1) = nI (n &&& (n - 1)) := by rw [p_dec h0, fa_and]
      refine ⟨?_, Or.inr (by rw [e]; exact i2)⟩
      rw [zbc, if_neg h1, e, nI_1, i1]
      congr 1
      omega
theorem zbc_pc (F n k : Nat) (h : n < 2 ^ 24) (hF : pcF 24 n ≤ F) : zbc F (nI n) (nI k) = nI (k + pcF 24 n) ∧ zbok F (nI n) := zbc_pcP (pcF 24) (pcF_0 24) (pcF_k 24) F n k h hF
/-- both ways to count bits agree -/
theorem zbc_pop {n : Nat} (h : n < 16777216) : zbc 40 (nI n) 0 = zpop (nI n) := by
  rw [zpop_pc h]
  have := (zbc_pc 40 n 0 h (Nat.le_trans (pcF_le 24 n) (by decide))).1
  rw [Nat.zero_add] at this
  exact this
theorem zbok_40 {n : Nat} (h : n < 16777216) : zbok 40 (nI n) := (zbc_pc 40 n 0 h (Nat.le_trans (pcF_le 24 n) (by decide))).2
theorem bt_nI (n : Nat) {i : Nat} (hi : i < 32) : bt (nI n) i = n.testBit i := by
  unfold bt
  rw [show (nI n).toBitVec = BitVec.ofNat 32 n from rfl, BitVec.getLsbD_ofNat]
  simp [hi]
/-- a bit, asked by a shift -/
theorem zb_bt (m : Int32) {k : Nat} (hk : k < 32) : zb m (nI k) = bt m k := by
  unfold zb
  have h1 : ((m >>> (nI k &&& 31)) &&& 1 = 1) ↔ bt m k = true := by
    constructor
    · intro h
      have := congrArg (fun x => bt x 0) h
      simp only [b_and] at this
      rw [b_sshr k hk m (by decide : 0 < 32), if_pos (by omega)] at this
      have e1 : bt (1 : Int32) 0 = true := by decide
      rw [e1] at this
      simpa using this
    · intro h
      apply b_ext
      intro i hi
      rw [b_and, b_sshr k hk m hi]
      by_cases h0 : i = 0
      · subst h0
        rw [if_pos (by omega), Nat.add_zero, h]
        decide
      · have : bt (1 : Int32) i = false := by
          rw [p_lit 1, bt_nI 1 hi]
          exact Nat.testBit_lt_two_pow (by calc 1 < 2 ^ 1 := by decide
                                             _ ≤ 2 ^ i := Nat.pow_le_pow_right (by decide) (by omega))
        rw [this, Bool.and_false]
  by_cases h : bt m k = true
  · rw [h]; exact decide_eq_true (h1.mpr h)
  · rw [Bool.eq_false_iff.mpr h]; exact decide_eq_false (fun z => h (h1.mp z))
/-- the single bits -/
theorem bt_one {k i : Nat} (hk : k < 32) (hi : i < 32) : bt ((1 : Int32) <<< (nI k &&& 31)) i = decide (i = k) := by
  rw [b_shl k hk 1 hi]
  by_cases h : k ≤ i
  · have : bt (1 : Int32) (i - k) = decide (i - k = 0) := by
      rw [p_lit 1, bt_nI 1 (by omega)]
      by_cases h0 : i - k = 0
      · rw [h0]; decide
      · rw [Nat.testBit_lt_two_pow (by calc 1 < 2 ^ 1 := by decide
                                          _ ≤ 2 ^ (i - k) := Nat.pow_le_pow_right (by decide) (by omega))]
        simp [h0]
    rw [this]
    by_cases e : i = k
    · subst e; simp
    · simp [h, e]; omega
  · simp [h]; omega
theorem bt_not (m : Int32) {i : Nat} (hi : i < 32) : bt (m ^^^ (-1)) i = !bt m i := by
  rw [b_xor, b_m1 i hi, Bool.xor_true]
/-- masks of twenty-four bits -/
def pm (m : Int32) : Prop := ∀ i, 24 ≤ i → i < 32 → bt m i = false
theorem pm_nat {m : Int32} (h : pm m) : ∃ n, n < 16777216 ∧ m = nI n := by
  refine ⟨m.toBitVec.toNat, ?_, Int32.toBitVec_inj.mp (by show _ = BitVec.ofNat 32 _; simp)⟩
  apply Nat.lt_pow_two_of_testBit (n := 24)
  intro i hi
  by_cases h2 : i < 32
  · have := h i hi h2
    unfold bt at this
    rw [BitVec.getLsbD] at this
    exact this
  · exact Nat.testBit_lt_two_pow (Nat.lt_of_lt_of_le m.toBitVec.isLt (Nat.pow_le_pow_right (by decide) (by omega)))
theorem pm_pop {m : Int32} (h : pm m) : zpop m = nI (fb_ct (fun i => zb m (nI i)) 24) := by
  obtain ⟨n, hn, rfl⟩ := pm_nat h
  rw [zpop_pc hn, pcF_ct]
  congr 1
  apply fb_ct_cong
  intro k hk
  rw [zb_bt _ (by omega), bt_nI n (by omega)]
theorem pm_bc {m : Int32} (h : pm m) : zbc 40 m 0 = zpop m := by
  obtain ⟨n, hn, rfl⟩ := pm_nat h
  exact zbc_pop hn
theorem pm_ok {m : Int32} (h : pm m) : zbok 40 m := by
  obtain ⟨n, hn, rfl⟩ := pm_nat h
  exact zbok_40 hn
theorem pm_0 : pm 0 := fun i _ _ => b_0 i
