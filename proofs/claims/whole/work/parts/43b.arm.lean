/-! the arms, second part -/
theorem tr_l : ∀ a, a < 24 → (zin 0 24 (nI a - 1) = true → nI a - 1 = nI (a - 1) ∧ a - 1 < 24) ∧ zic 0 23 (nI a - 1) = zin 0 24 (nI a - 1) ∧ (zin 0 24 (nI a - 1) = true → 0 < a) ∧ nI a + (-1) = nI a - 1 := by decide +kernel
theorem tr_r : ∀ a, a < 24 → (zin 0 24 (nI a + 1) = true → nI a + 1 = nI (a + 1) ∧ a + 1 < 24) ∧ zic 0 23 (nI a + 1) = zin 0 24 (nI a + 1) := by decide +kernel
theorem zrT_eq {mu : Nat → Nat → Int32} {nu : Nat → Nat} {v : Nat → Int32} (h : zSt mu nu v) {a : Nat} (ha : a < 24) : zrT (zlo v) (v 0) a = zrT (mu 0) (mu 8 0) a := by
  unfold zrT zlo
  rw [h.v0, h.lo a ha]
theorem zrR_eq {mu : Nat → Nat → Int32} {nu : Nat → Nat} {v : Nat → Int32} (h : zSt mu nu v) {a j : Nat} (ha : a < 24) {bs : Int32} (hj : zin 0 24 bs = true → j < 24) (e : zic 0 23 bs = zin 0 24 bs) : zrR6 v a bs j = zrR (mu 0) (mu 8 0) a bs j := by
  unfold zrR6 zrR
  rw [zrT_eq h ha, e, h.v0]
  by_cases q : zin 0 24 bs = true
  · rw [h.lo a ha, h.lo j (hj q)]
  · rw [if_neg q, if_neg q]
theorem zdR_eq {mu : Nat → Nat → Int32} {nu : Nat → Nat} {v : Nat → Int32} (h : zSt mu nu v) {a j : Nat} (ha : a < 24) {bs : Int32} (hj : zin 0 24 bs = true → j < 24) (e : zic 0 23 bs = zin 0 24 bs) : zdR6 v a bs j = zdR (mu 0) (mu 8 0) a bs j := by
  unfold zdR6 zdR
  have ed : zdT6 v a = zdT (mu 8 0) a := by
    unfold zdT6 zdT
    rw [h.v0, pm_bc h.gd.wk]
  rw [zrT_eq h ha, e, ed, h.v0]
  by_cases q : zin 0 24 bs = true
  · rw [h.lo a ha, h.lo j (hj q)]
  · rw [if_neg q, if_neg q]
theorem zrR_15 {lo : Nat → Int32} {wk bs : Int32} {a j : Nat} : ¬ zrR lo wk a bs j = 15 := by
  unfold zrR
  by_cases q : zrT lo wk a = 0
  · rw [if_pos q]; split <;> (try split) <;> (try split) <;> decide
  · rw [if_neg q]; exact zrT_15
theorem zrR_0 {lo : Nat → Int32} {wk bs : Int32} {a j : Nat} (h : zrR lo wk a bs j = 0) : zrT lo wk a = 0 ∧ zin 0 24 bs = true ∧ zb wk (nI j) = true ∧ lo a + lo j ≤ 3 := by
  unfold zrR at h
  by_cases q : zrT lo wk a = 0
  · rw [if_pos q] at h
    by_cases r : zin 0 24 bs = true
    · rw [if_pos r] at h
      by_cases t : zb wk (nI j) = true
      · rw [if_pos t] at h
        by_cases u : lo a + lo j ≤ 3
        · exact ⟨q, r, t, u⟩
        · rw [if_neg u] at h; exact absurd h (by decide)
      · rw [if_neg t] at h; exact absurd h (by decide)
    · rw [if_neg r] at h; exact absurd h (by decide)
  · rw [if_neg q] at h; exact absurd h q
theorem upd_comm {f : Nat → Int32} {a j : Nat} {x y : Int32} (n : a ≠ j) : upd (upd f a x) j y = upd (upd f j y) a x := by
  funext k
  by_cases p : k = a
  · subst p; rw [un n, upd_s, upd_s]
  · by_cases q : k = j
    · subst q; rw [upd_s, un p, upd_s]
    · rw [un q, un p, un p, un q]
theorem zBd.out {wk : Int32} {lo ag : Nat → Int32} (b : zBd wk lo ag) {a : Nat} (ha : a < 24) (e : lo a = 0) : zBd (wk &&& (((1 : Int32) <<< (nI a &&& 31)) ^^^ (-1))) lo ag := ⟨b.lk, fun j hj z => by
  by_cases q : j = a
  · rw [q]; exact e
  · rw [zb_an1 _ ha hj, decide_eq_false q] at z
    exact b.lw j hj (by simpa using z), b.ak, b.al⟩
theorem hd_out {mu : Nat → Nat → Int32} {nu : Nat → Nat} (g : zGd mu nu) {a : Nat} (ha : a < 24) (j : Nat) (hj : j < 24) (z : zb (mu 8 1 &&& (((1 : Int32) <<< (nI a &&& 31)) ^^^ (-1))) (nI j) = true) : zb (mu 8 0 &&& (((1 : Int32) <<< (nI a &&& 31)) ^^^ (-1))) (nI j) = true := by
  rw [zb_an1 _ ha hj, Bool.and_eq_true] at z ⊢
  exact ⟨g.hd j hj z.1, z.2⟩
theorem ag_max (x y : Int32) : (if x ≤ y then y else x) = if x < y then y else x := by
  by_cases q : x < y
  · rw [if_pos q, if_pos (fa_of_lt q).1]
  · rw [if_neg q]
    by_cases r : x ≤ y
    · rw [if_pos r]
      exact (fa_eq _ _).mpr (by have h1 := (fa_le _ _).mp r; have h2 := (fa_le _ _).mp (fa_of_nlt q); omega)
    · rw [if_neg r]

theorem st_transfer {mu : Nat → Nat → Int32} {nu : Nat → Nat} {v : Nat → Int32} (h : zSt mu nu v) {a j : Nat} (ha : a < 24) (hj : j < 24) (haj : a ≠ j) {bs : Int32} (hr0 : zrR (mu 0) (mu 8 0) a bs j = 0) : zSt (zmk (upd (upd (mu 0) a 0) j ((mu 0) j + (mu 0) a)) (upd (upd (mu 1) j (if (mu 1) a < (mu 1) j then (mu 1) j else (mu 1) a)) a 0) (mu 2) (mu 3) (mu 4) (mu 5) (mu 6) (mu 7) ((mu 8 0) &&& ((1 <<< (nI a &&& 31)) ^^^ (-1))) ((mu 8 1) &&& ((1 <<< (nI a &&& 31)) ^^^ (-1))) (mu 8 2) (mu 8 3) (mu 8 4) (mu 8 5) (mu 8 6)) nu (zmv v a j) :=
  by
  obtain ⟨h0, -, hw, h3⟩ := zrR_0 hr0
  obtain ⟨p, hp, e1⟩ := h.gd.lk a ha
  obtain ⟨q, hq, e2⟩ := h.gd.lk j hj
  have p0 : p ≠ 0 := fun z => (zrT_0 h0).2 (by rw [e1, z]; rfl)
  have es : mu 0 j + mu 0 a = nI (q + p) := by rw [e1, e2, nI_add]
  have h33 : q + p ≤ 3 := by
    rw [Int32.add_comm, es] at h3
    exact (nI_leI (a := q + p) (b := 3) (by omega) (by decide)).mp h3
  have es6 : v (10 + a) + v (10 + j) = nI (q + p) := by rw [h.lo a ha, h.lo j hj, Int32.add_comm, es]
  have n0 : ¬ nI (q + p) = 0 := fun z => by
    have := (nI_eq (a := q + p) (b := 0) (by omega) (by decide)).mp z; omega
  obtain ⟨m, hm, em⟩ : ∃ m : Nat, m ≤ 5 ∧ (if mu 1 a < mu 1 j then mu 1 j else mu 1 a) = nI m := by
    by_cases r : mu 1 a < mu 1 j
    · rw [if_pos r]; exact h.gd.ak j hj
    · rw [if_neg r]; exact h.gd.ak a ha
  have eg : (if nI (q + p) = 0 then (0 : Int32) else if v (34 + a) ≤ v (34 + j) then v (34 + j) else v (34 + a)) = nI m := by
    rw [if_neg n0, h.ag a ha, h.ag j hj, ag_max, em]
  have b := ((h.gd.bd.set (a := j) (k := q + p) (m := m) h33 hm (fun z => by rw [hw] at z; exact absurd z (by decide)) (fun z => by omega)).set (a := a) (k := 0) (m := 0) (by decide) (by decide) (fun _ => rfl) (fun _ => rfl)).out ha upd_s
  rw [upd_comm haj, es, em]
  unfold zmv
  rw [es6]
  exact ⟨⟨h.gd.n0, h.gd.n1, h.gd.n2, pm_an1 h.gd.wk _, pm_an1 h.gd.hk _, fun k hk z => hd_out h.gd ha k hk z, b.lk, b.lw, b.ak, b.al, h.gd.yk, h.gd.rk, h.gd.cw, h.gd.cy, h.gd.cf, h.gd.cd, h.gd.tk⟩, (un (by omega)).trans (upd_s.trans (congrArg (· &&& _) ((un (by omega)).trans ((un (by omega)).trans ((un (by omega)).trans ((un (by omega)).trans h.v0)))))), upd_s.trans (congrArg (· &&& _) ((un (by omega)).trans ((un (by omega)).trans ((un (by omega)).trans ((un (by omega)).trans ((un (by omega)).trans h.v1)))))), (un (by omega)).trans ((un (by omega)).trans ((un (by omega)).trans ((un (by omega)).trans ((un (by omega)).trans ((un (by omega)).trans (h.v2)))))), (un (by omega)).trans ((un (by omega)).trans ((un (by omega)).trans ((un (by omega)).trans ((un (by omega)).trans ((un (by omega)).trans (h.v3)))))), (un (by omega)).trans ((un (by omega)).trans ((un (by omega)).trans ((un (by omega)).trans ((un (by omega)).trans ((un (by omega)).trans (h.v4)))))), (un (by omega)).trans ((un (by omega)).trans ((un (by omega)).trans ((un (by omega)).trans ((un (by omega)).trans ((un (by omega)).trans (h.v5)))))), (un (by omega)).trans ((un (by omega)).trans ((un (by omega)).trans ((un (by omega)).trans ((un (by omega)).trans ((un (by omega)).trans (h.v6)))))), (un (by omega)).trans ((un (by omega)).trans ((un (by omega)).trans ((un (by omega)).trans ((un (by omega)).trans ((un (by omega)).trans (h.v7)))))), (un (by omega)).trans ((un (by omega)).trans ((un (by omega)).trans ((un (by omega)).trans ((un (by omega)).trans ((un (by omega)).trans (h.v8)))))), (un (by omega)).trans ((un (by omega)).trans ((un (by omega)).trans ((un (by omega)).trans ((un (by omega)).trans ((un (by omega)).trans (h.v9)))))), fun k hk => (un (by omega)).trans ((un (by omega)).trans ((un (by omega)).trans (lo_up (v := zpt v j (nI (q + p)) _) (fun k hk => (un (by omega)).trans (lo_up h.lo rfl k hk)) rfl k hk))), fun k hk => (un (by omega)).trans ((un (by omega)).trans (lo_up (v := upd (zpt v j (nI (q + p)) _) (10 + a) 0) (fun k hk => (un (by omega)).trans (lo_up (v := upd v (10 + j) (nI (q + p))) (fun k hk => (un (by omega)).trans (h.ag k hk)) eg k hk)) (ite_self _) k hk)), fun j hj => (un (by omega)).trans ((un (by omega)).trans ((un (by omega)).trans ((un (by omega)).trans ((un (by omega)).trans ((un (by omega)).trans (h.yn j hj)))))), fun j hj => (un (by omega)).trans ((un (by omega)).trans ((un (by omega)).trans ((un (by omega)).trans ((un (by omega)).trans ((un (by omega)).trans (h.ro j hj)))))), fun j hj => (un (by omega)).trans ((un (by omega)).trans ((un (by omega)).trans ((un (by omega)).trans ((un (by omega)).trans ((un (by omega)).trans (h.cw j hj)))))), fun j hj => (un (by omega)).trans ((un (by omega)).trans ((un (by omega)).trans ((un (by omega)).trans ((un (by omega)).trans ((un (by omega)).trans (h.cf j hj)))))), fun j hj => (un (by omega)).trans ((un (by omega)).trans ((un (by omega)).trans ((un (by omega)).trans ((un (by omega)).trans ((un (by omega)).trans (h.cy j hj)))))), fun j hj => (un (by omega)).trans ((un (by omega)).trans ((un (by omega)).trans ((un (by omega)).trans ((un (by omega)).trans ((un (by omega)).trans (h.cd j hj))))))⟩

theorem arm_transfer {G : zG} (hg : zGW G) {l : Launch} (hfl : l.stackTraces = false) {D : va_G} {cy : Nat → ClassId} {ad qn qt qs : Nat → Nat} {qh : Nat → Nat → Nat} {bd : Nat → Nat} {xs : Nat → Int32} {i : Nat} {A : zPX} {B : zPM} (h : zRI A B) : ∀ t : Int32, (t = 0 ∨ t = 1) → zArmS G D cy l (zIn cy ad qn qt qs qh bd) (bd 0) yL_transfer wsL_transfer [.ref (ad 0), .int (xs (i + 1)), .int t, .ref (ad 12)] yX6_transfer wsX6_transfer [.ref (bd 0), .int (xs (i + 1)), .int t] (fun w' b => zOut (ad 12) cy w' b.toInt64) (A.w cy ad qn qt qs qh) (B.w cy bd) := by
  intro t ht
  rcases zin_of (n := 24) (by decide) (xs (i + 1)) with ⟨a, ha, ea⟩ | ⟨hq, hq2⟩
  · rw [ea]
    rcases ht with rfl | rfl
    · obtain ⟨t1, t2, t3, t4⟩ := tr_l a ha
      by_cases h0 : zrR (A.mu 0) (A.mu 8 0) a (nI a - 1) (a - 1) = 0
      · have z0 := (zrR_0 h0).2.1
        exact zAS (C_L_transfer_lok hg l hfl D cy ad qn qt qs qh _ _ _ _ _ _ _ _ _ _ _ _ _ _ _ _ _ _ _ _ _ _ _ _ _ _ _ _ _ _ _ _ _ _ _ _ _ _ _ _ _ _ _ _ _ ha t1 (t1 z0).2 (show a ≠ a - 1 by have := t3 z0; omega) (t1 z0).1 h0 h.his.nl h.his.hl (by decide)) (C_X6_transfer_lok hg.1.1.1.1 l D cy bd _ _ _ _ _ _ _ _ _ _ _ _ _ _ _ _ _ _ _ _ _ _ _ _ ha t4 (fun z => t1 (t2 ▸ z)) ((zrR_eq h.cur ha (fun z => (t1 z).2) t2).trans h0) (by rw [h.his.ce]; exact h.his.hl)) (C_X6_thrown hg.1.1.1.1 l D cy bd _ _ _ _ _ _ _ _ _ _ _ _ _ _ _ _ _ _ _ _ _) (fun _ => zo1 (congrArg Int32.toInt64 (by rw [h.cur.lo a ha, h.cur.lo _ (t1 z0).2, Int32.add_comm]))) (zIn.mk' ⟨(st_transfer h.cur ha (t1 z0).2 (show a ≠ a - 1 by have := t3 z0; omega) h0), h.sno, h.sns, h.his.push h.cur, h.rea, h.txt, h.out⟩)
      · exact zAS (C_L_transfer_lbad hg l hfl D cy ad qn qt qs qh _ _ _ _ _ _ _ _ _ _ _ _ _ _ _ _ _ _ _ _ _ _ _ _ _ _ _ _ _ _ _ _ _ _ _ _ _ _ _ _ _ _ _ _ _ ha t1 h0 (by decide)) (C_X6_transfer_lrej hg.1.1.1.1 l D cy bd _ _ _ _ _ _ _ _ _ _ _ _ _ _ _ _ _ _ _ _ _ _ _ _ ha t4 (fun z => t1 (t2 ▸ z)) (fun z => h0 ((zrR_eq h.cur ha (fun z => (t1 z).2) t2).symm.trans z)) (by rw [h.cur.v0]; exact pm_ok h.cur.gd.wk)) (C_X6_thrown hg.1.1.1.1 l D cy bd _ _ _ _ _ _ _ _ _ _ _ _ _ _ _ _ _ _ _ _ _) (fun z => absurd z (by decide)) (zIn.mk' ⟨h.cur, h.sno, h.sns, h.his, h.rea.rej (zrR_eq h.cur ha (fun z => (t1 z).2) t2) (zdR_eq h.cur ha (fun z => (t1 z).2) t2) zrR_15, h.txt, h.out⟩)
    · obtain ⟨t1, t2⟩ := tr_r a ha
      by_cases h0 : zrR (A.mu 0) (A.mu 8 0) a (nI a + 1) (a + 1) = 0
      · have z0 := (zrR_0 h0).2.1
        exact zAS (C_L_transfer_rok hg l hfl D cy ad qn qt qs qh _ _ _ _ _ _ _ _ _ _ _ _ _ _ _ _ _ _ _ _ _ _ _ _ _ _ _ _ _ _ _ _ _ _ _ _ _ _ _ _ _ _ _ _ _ ha t1 (t1 z0).2 (show a ≠ a + 1 by omega) (t1 z0).1 h0 h.his.nl h.his.hl (by decide)) (C_X6_transfer_rok hg.1.1.1.1 l D cy bd _ _ _ _ _ _ _ _ _ _ _ _ _ _ _ _ _ _ _ _ _ _ _ _ ha rfl (fun z => t1 (t2 ▸ z)) ((zrR_eq h.cur ha (fun z => (t1 z).2) t2).trans h0) (by rw [h.his.ce]; exact h.his.hl)) (C_X6_thrown hg.1.1.1.1 l D cy bd _ _ _ _ _ _ _ _ _ _ _ _ _ _ _ _ _ _ _ _ _) (fun _ => zo1 (congrArg Int32.toInt64 (by rw [h.cur.lo a ha, h.cur.lo _ (t1 z0).2, Int32.add_comm]))) (zIn.mk' ⟨(st_transfer h.cur ha (t1 z0).2 (show a ≠ a + 1 by omega) h0), h.sno, h.sns, h.his.push h.cur, h.rea, h.txt, h.out⟩)
      · exact zAS (C_L_transfer_rbad hg l hfl D cy ad qn qt qs qh _ _ _ _ _ _ _ _ _ _ _ _ _ _ _ _ _ _ _ _ _ _ _ _ _ _ _ _ _ _ _ _ _ _ _ _ _ _ _ _ _ _ _ _ _ ha t1 h0 (by decide)) (C_X6_transfer_rrej hg.1.1.1.1 l D cy bd _ _ _ _ _ _ _ _ _ _ _ _ _ _ _ _ _ _ _ _ _ _ _ _ ha rfl (fun z => t1 (t2 ▸ z)) (fun z => h0 ((zrR_eq h.cur ha (fun z => (t1 z).2) t2).symm.trans z)) (by rw [h.cur.v0]; exact pm_ok h.cur.gd.wk)) (C_X6_thrown hg.1.1.1.1 l D cy bd _ _ _ _ _ _ _ _ _ _ _ _ _ _ _ _ _ _ _ _ _) (fun z => absurd z (by decide)) (zIn.mk' ⟨h.cur, h.sno, h.sns, h.his, h.rea.rej (zrR_eq h.cur ha (fun z => (t1 z).2) t2) (zdR_eq h.cur ha (fun z => (t1 z).2) t2) zrR_15, h.txt, h.out⟩)
  · rcases ht with rfl | rfl
    · exact zAS (C_L_transfer_inv hg l hfl D cy ad qn qt qs qh _ _ _ _ _ _ _ _ _ _ _ _ _ _ _ _ _ _ _ _ _ _ _ _ _ _ _ _ _ _ _ _ _ _ _ _ _ _ _ _ _ _ _ _ hq) (C_X6_transfer_lf1 hg.1.1.1.1 l D cy bd _ _ _ _ _ _ _ _ _ _ _ _ _ _ _ _ _ _ _ _ _ _ hq2) (C_X6_thrown hg.1.1.1.1 l D cy bd _ _ _ _ _ _ _ _ _ _ _ _ _ _ _ _ _ _ _ _ _) (fun z => absurd z (by decide)) (zIn.mk' ⟨h.cur, h.sno, h.sns, h.his, h.rea, h.txt, h.out⟩)
    · exact zAS (C_L_transfer_inv hg l hfl D cy ad qn qt qs qh _ _ _ _ _ _ _ _ _ _ _ _ _ _ _ _ _ _ _ _ _ _ _ _ _ _ _ _ _ _ _ _ _ _ _ _ _ _ _ _ _ _ _ _ hq) (C_X6_transfer_rf1 hg.1.1.1.1 l D cy bd _ _ _ _ _ _ _ _ _ _ _ _ _ _ _ _ _ _ _ _ _ _ hq2) (C_X6_thrown hg.1.1.1.1 l D cy bd _ _ _ _ _ _ _ _ _ _ _ _ _ _ _ _ _ _ _ _ _) (fun z => absurd z (by decide)) (zIn.mk' ⟨h.cur, h.sno, h.sns, h.his, h.rea, h.txt, h.out⟩)

theorem zlm_bt {lo : Nat → Int32} {i : Nat} (hi : i < 32) : ∀ n, n ≤ 24 → bt (zlm lo n) i = (decide (i < n) && !decide (lo i ≤ 0))
  | 0, _ => by
    simp only [zlm]
    rw [b_0]; simp
  | n + 1, hn => by
    simp only [zlm]
    by_cases q : lo n ≤ 0
    · rw [if_pos q, zlm_bt hi n (by omega)]
      by_cases r : i = n
      · subst r; simp [q]
      · rw [show decide (i < n + 1) = decide (i < n) from decide_eq_decide.mpr (by omega)]
    · rw [if_neg q, b_or, bt_one (by omega) hi, zlm_bt hi n (by omega)]
      by_cases r : i = n
      · subst r; simp [q]
      · rw [show decide (i < n + 1) = decide (i < n) from decide_eq_decide.mpr (by omega), decide_eq_false r, Bool.or_false]
theorem zkm_bt {k : Nat} (hk : k ≤ 255) {i : Nat} (hi : i < 24) : bt (zkm (nI k) 3) i = bt (nI k) (i % 8) := by
  have h8 : ∀ j, 8 ≤ j → j < 32 → bt (nI k) j = false := fun j h1 h2 => by
    rw [bt_nI k h2]
    exact Nat.testBit_lt_two_pow (Nat.lt_of_lt_of_le (show k < 2 ^ 8 by omega) (Nat.pow_le_pow_right (by decide) h1))
  show bt (((0 ||| (nI k <<< (nI (8 * 0) &&& 31))) ||| (nI k <<< (nI (8 * 1) &&& 31))) ||| (nI k <<< (nI (8 * 2) &&& 31))) i = _
  rw [b_or, b_or, b_or, b_0, b_shl (8 * 0) (by omega) _ (by omega), b_shl (8 * 1) (by omega) _ (by omega), b_shl (8 * 2) (by omega) _ (by omega), Bool.false_or]
  by_cases q : i < 8
  · rw [show i % 8 = i by omega, decide_eq_false (show ¬ 8 * 1 ≤ i by omega), decide_eq_false (show ¬ 8 * 2 ≤ i by omega)]
    simp
  · by_cases r : i < 16
    · rw [decide_eq_true (show 8 * 0 ≤ i by omega), h8 (i - 8 * 0) (by omega) (by omega), decide_eq_true (show 8 * 1 ≤ i by omega), decide_eq_false (show ¬ 8 * 2 ≤ i by omega), show i - 8 * 1 = i % 8 by omega]
      simp
    · rw [decide_eq_true (show 8 * 0 ≤ i by omega), h8 (i - 8 * 0) (by omega) (by omega), h8 (i - 8 * 1) (by omega) (by omega), decide_eq_true (show 8 * 2 ≤ i by omega), show i - 8 * 2 = i % 8 by omega]
      simp
theorem zrow_k {pa : Nat → Int32} {rw : Nat} (h : ∀ j, j < rw → ∃ k : Nat, k ≤ 255 ∧ pa j = nI k) (c : Nat) : ∃ k : Nat, k ≤ 255 ∧ zrow pa rw c = nI k := by
  unfold zrow
  by_cases q : rw = 0
  · rw [if_pos q]; exact ⟨255, by decide, rfl⟩
  · rw [if_neg q]; exact h _ (Nat.mod_lt _ (Nat.pos_of_ne_zero q))
theorem zwd_ct {lo : Nat → Int32} {wk hd row : Int32} : ∀ n, zwd lo wk hd row n = nI (fb_ct (zkn lo wk hd row) n)
  | 0 => rfl
  | n + 1 => by
    simp only [zwd]
    rw [fb_ct_succ, zwd_ct n]
    by_cases q : zkn lo wk hd row n = true
    · rw [if_pos q, if_pos q, ← nI_add]; rfl
    · rw [if_neg q, if_neg q, Nat.add_zero]
theorem nwm_eq {lo : Nat → Int32} {wk hd row : Int32} (hw : pm wk) {k : Nat} (hk : k ≤ 255) (e : row = nI k) : zpop (wk &&& (hd ^^^ (-1)) &&& zlm lo 24 &&& zkm row 3) = zwd lo wk hd row 24 := by
  rw [zwd_ct 24, pm_pop (pm_an1 (pm_an1 (pm_an1 hw _) _) _)]
  congr 1
  refine fb_ct_cong fun i hi => ?_
  unfold zkn
  rw [zb_bt _ (by omega), zb_bt _ (by omega), k_mod8 i hi, zb_bt _ (by omega), b_and, b_and, zlm_bt (by omega) 24 (Nat.le_refl 24), e, zkm_bt hk hi, decide_eq_true hi, Bool.true_and]
  generalize bt (wk &&& (hd ^^^ (-1))) i = x
  generalize (!decide (lo i ≤ 0)) = y
  generalize bt (nI k) (i % 8) = z
  cases x <;> cases y <;> cases z <;> rfl
def rnN (p : Nat → Bool) : Nat → Nat
  | 0 => 0
  | n + 1 => if p n = true then rnN p n + 1 else 0
def rlN (p : Nat → Bool) : Nat → Nat
  | 0 => 0
  | n + 1 => max (rlN p n) (rnN p (n + 1))
theorem rnN_le {p : Nat → Bool} : ∀ n, rnN p n ≤ n
  | 0 => Nat.le_refl 0
  | n + 1 => by
    have := rnN_le (p := p) n
    simp only [rnN]; split <;> omega
theorem rlN_le {p : Nat → Bool} : ∀ n, rlN p n ≤ n
  | 0 => Nat.le_refl 0
  | n + 1 => by
    have h1 := rlN_le (p := p) n
    have h2 := rnN_le (p := p) (n + 1)
    simp only [rlN]; omega
theorem rlN_iff {p : Nat → Bool} {t : Nat} : ∀ n, rlN p n ≤ t ↔ ∀ i, i < n → rnN p (i + 1) ≤ t
  | 0 => ⟨fun _ i hi => absurd hi (Nat.not_lt_zero i), fun _ => Nat.zero_le t⟩
  | n + 1 => by
    have h := rlN_iff (p := p) (t := t) n
    have e : rlN p (n + 1) = max (rlN p n) (rnN p (n + 1)) := rfl
    rw [e]
    constructor
    · intro z i hi
      by_cases q : i = n
      · rw [q]; omega
      · exact h.mp (by omega) i (by omega)
    · intro z
      have h1 := h.mpr (fun i hi => z i (by omega))
      have h2 := z n (by omega)
      omega
theorem zrn_N {lo : Nat → Int32} : ∀ n, zrn lo n = nI (rnN (fun j => !decide (lo j ≤ 0)) n)
  | 0 => rfl
  | n + 1 => by
    simp only [zrn, rnN]
    by_cases q : lo n ≤ 0
    · rw [if_pos q, if_neg (by simp [q])]; rfl
    · rw [if_neg q, if_pos (by simp [q]), zrn_N n, ← nI_add]; rfl
theorem zrl_N {lo : Nat → Int32} : ∀ n, n ≤ 24 → zrl lo n = nI (rlN (fun j => !decide (lo j ≤ 0)) n)
  | 0, _ => rfl
  | n + 1, hn => by
    have h1 := rlN_le (p := fun j => !decide (lo j ≤ 0)) n
    have h2 := rnN_le (p := fun j => !decide (lo j ≤ 0)) (n + 1)
    simp only [zrl, rlN]
    rw [zrl_N n (by omega), zrn_N (n + 1)]
    by_cases q : rlN (fun j => !decide (lo j ≤ 0)) n < rnN (fun j => !decide (lo j ≤ 0)) (n + 1)
    · rw [if_pos ((nI_ltI (by omega) (by omega)).mpr q), Nat.max_eq_right (by omega)]
    · rw [if_neg (fun z => q ((nI_ltI (by omega) (by omega)).mp z)), Nat.max_eq_left (by omega)]
theorem zrs_run {p : Nat → Bool} : ∀ (n t : Nat) (m : Int32), n + t = 24 → t ≤ rlN p 24 → (∀ i, i < 32 → bt m i = (decide (i < 24) && decide (t < rnN p (i + 1)))) → zrs n m t = nI (rlN p 24)
  | 0, t, m, e, hl, _ => by
    have := rlN_le (p := p) 24
    have e2 : rlN p 24 = 24 := by omega
    rw [e2]; rfl
  | n + 1, t, m, e, hl, hm => by
    have h0 : m = 0 ↔ rlN p 24 ≤ t := by
      rw [rlN_iff]
      constructor
      · intro z i hi
        have h1 := hm i (by omega)
        rw [z, b_0, decide_eq_true hi, Bool.true_and] at h1
        have := of_decide_eq_false h1.symm
        omega
      · intro z
        refine b_ext fun i hi => ?_
        rw [b_0, hm i hi]
        by_cases q : i < 24
        · rw [decide_eq_false (show ¬ t < rnN p (i + 1) by have := z i q; omega), Bool.and_false]
        · rw [decide_eq_false q, Bool.false_and]
    simp only [zrs]
    by_cases q : m = 0
    · rw [if_pos q, show rlN p 24 = t by have := h0.mp q; omega]
    · rw [if_neg q]
      refine zrs_run n (t + 1) _ (by omega) (by have h9 : ¬ rlN p 24 ≤ t := fun z => q (h0.mpr z); omega) fun i hi => ?_
      rw [b_and, show (1 : Int32) = nI 1 from rfl, b_shl 1 (by omega) m hi, hm i hi, hm (i - 1) (by omega)]
      by_cases r : i < 24
      · rw [decide_eq_true r, Bool.true_and, Bool.true_and]
        by_cases s : 1 ≤ i
        · obtain ⟨j, rfl⟩ : ∃ j, i = j + 1 := ⟨i - 1, by omega⟩
          rw [decide_eq_true s, Bool.true_and, show j + 1 - 1 = j by omega, decide_eq_true (show j < 24 by omega), Bool.true_and]
          have e3 : rnN p (j + 1 + 1) = if p (j + 1) = true then rnN p (j + 1) + 1 else 0 := rfl
          rw [e3]
          by_cases u : p (j + 1) = true
          · rw [if_pos u, ← Bool.decide_and]; exact decide_eq_decide.mpr (by omega)
          · rw [if_neg u]; simp
        · have e4 : i = 0 := by omega
          subst e4
          have := rnN_le (p := p) (0 + 1)
          rw [decide_eq_false s, Bool.false_and, Bool.and_false, decide_eq_false (by omega)]
      · rw [decide_eq_false r, Bool.false_and, Bool.false_and, Bool.false_and]
theorem lrm_eq {lo : Nat → Int32} : zrs 24 (zlm lo 24) 0 = zrl lo 24 := by
  rw [zrl_N 24 (Nat.le_refl 24)]
  refine zrs_run 24 0 _ rfl (Nat.zero_le _) fun i hi => ?_
  rw [zlm_bt hi 24 (Nat.le_refl 24)]
  congr 1
  show _ = decide (0 < if (!decide (lo i ≤ 0)) = true then _ + 1 else 0)
  by_cases q : lo i ≤ 0
  · simp [q]
  · simp [q]

theorem arm_longestRunByMask {G : zG} (hg : zGW G) {l : Launch} (hfl : l.stackTraces = false) {D : va_G} {cy : Nat → ClassId} {ad qn qt qs : Nat → Nat} {qh : Nat → Nat → Nat} {bd : Nat → Nat} {xs : Nat → Int32} {i : Nat} {A : zPX} {B : zPM} (h : zRI A B) : zArmD G D cy l (zIn cy ad qn qt qs qh bd) yX5_longestRunByMask wsX5_longestRunByMask [.ref (ad 0)] yX6_longestRunByMask wsX6_longestRunByMask [.ref (bd 0)] (A.w cy ad qn qt qs qh) (B.w cy bd) := by
  exact zAD (C_X5_longestRunByMask hg.1.1.1.1 l D cy ad qn qt qs qh _ _ _ _ _ _ _ _ _ _ _ _ _ _ _ _ _ _ _ _ _ _ _ _ _ _ _ _ _ _ _ _ _ _ _ _ _ _ _ _ _ _) (C_X6_longestRunByMask hg.1.1.1.1 l D cy bd _ _ _ _ _ _ _ _ _ _ _ _ _ _ _ _ _ _ _ _ _) (lrm_eq.trans (zrl_cong 24 fun j hj => (h.cur.lo j hj).symm)) (zIn.mk' ⟨h.cur, h.sno, h.sns, h.his, h.rea, h.txt, h.out⟩)

theorem arm_nextWidthByMask {G : zG} (hg : zGW G) {l : Launch} (hfl : l.stackTraces = false) {D : va_G} {cy : Nat → ClassId} {ad qn qt qs : Nat → Nat} {qh : Nat → Nat → Nat} {bd : Nat → Nat} {xs : Nat → Int32} {i : Nat} {A : zPX} {B : zPM} (h : zRI A B) : zArmD G D cy l (zIn cy ad qn qt qs qh bd) yX5_nextWidthByMask wsX5_nextWidthByMask [.ref (ad 0)] yX6_nextWidthByMask wsX6_nextWidthByMask [.ref (bd 0)] (A.w cy ad qn qt qs qh) (B.w cy bd) := by
  obtain ⟨k, hk, e⟩ := zrow_k h.cur.gd.rk (A.nu 2)
  exact zAD (C_X5_nextWidthByMask hg.1.1.1.1 l D cy ad qn qt qs qh _ _ _ _ _ _ _ _ _ _ _ _ _ _ _ _ _ _ _ _ _ _ _ _ _ _ _ _ _ _ _ _ _ _ _ _ _ _ _ _ _ _ h.cur.gd.n1 h.cur.gd.n2) (C_X6_nextWidthByMask hg.1.1.1.1 l D cy bd _ _ _ _ _ _ _ _ _ _ _ _ _ _ _ _ _ _ _ _ _ _ _ h.cur.v4 h.cur.gd.n1 h.cur.v5 h.cur.gd.n2) ((nwm_eq h.cur.gd.wk hk e).trans (zwd_eq h.cur 24 (Nat.le_refl 24)).symm) (zIn.mk' ⟨h.cur, h.sno, h.sns, h.his, h.rea, h.txt, h.out⟩)

theorem zys_eq {mu : Nat → Nat → Int32} {nu : Nat → Nat} {v : Nat → Int32} (h : zSt mu nu v) : ∀ n, n ≤ 4 → zys6 v n = zsum (mu 6) n + mu 8 5
  | 0, _ => h.v8.trans (Int32.zero_add _).symm
  | n + 1, hn => by
    simp only [zys6, zsum]
    rw [zys_eq h n (by omega), h.yn n (by omega), Int32.add_assoc, Int32.add_comm (mu 8 5), ← Int32.add_assoc]
theorem icn_eq {mu : Nat → Nat → Int32} {nu : Nat → Nat} {v : Nat → Int32} (h : zSt mu nu v) : zcs (mu 0) (mu 8 0) (mu 8 1) (zrow (mu 7) (nu 1) (nu 2)) (mu 6) (mu 8 4) (mu 8 5) = (decide (zys6 v 4 = v 7) && decide (v 1 &&& (v 0 ^^^ (-1)) = 0)) := by
  obtain ⟨k, hk, e⟩ := zrow_k h.gd.rk (nu 2)
  unfold zcs
  rw [decide_eq_true lrm_eq.symm, decide_eq_true (nwm_eq h.gd.wk hk e).symm, h.v0, h.v1, h.v7]
  have e1 : (zlm (mu 0) 24 ||| mu 8 1) &&& (mu 8 0 ^^^ (-1)) = mu 8 1 &&& (mu 8 0 ^^^ (-1)) := b_ext fun i hi => by
    rw [b_and, b_and, b_or, bt_not _ hi, zlm_bt hi 24 (Nat.le_refl 24)]
    by_cases q : i < 24
    · cases r : bt (mu 8 0) i
      · have := h.gd.lw i q (by rw [zb_bt _ hi]; exact r)
        rw [this]; simp
      · simp
    · simp [q]
  rw [e1]
  simp only [Bool.true_and]
  congr 1
  have e2 : zys6 v 4 = zsum (mu 6) 4 + mu 8 5 := zys_eq h 4 (Nat.le_refl 4)
  rw [e2]
  exact decide_eq_decide.mpr ⟨fun z => z.symm, fun z => z.symm⟩

theorem arm_isConsistent {G : zG} (hg : zGW G) {l : Launch} (hfl : l.stackTraces = false) {D : va_G} {cy : Nat → ClassId} {ad qn qt qs : Nat → Nat} {qh : Nat → Nat → Nat} {bd : Nat → Nat} {xs : Nat → Int32} {i : Nat} {A : zPX} {B : zPM} (h : zRI A B) : zArmD G D cy l (zIn cy ad qn qt qs qh bd) yX5_isConsistent wsX5_isConsistent [.ref (ad 0)] yX6_isConsistent wsX6_isConsistent [.ref (bd 0)] (A.w cy ad qn qt qs qh) (B.w cy bd) := by
  exact zAD (C_X5_isConsistent hg.1.1.1.1 l D cy ad qn qt qs qh _ _ _ _ _ _ _ _ _ _ _ _ _ _ _ _ _ _ _ _ _ _ _ _ _ _ _ _ _ _ _ _ _ _ _ _ _ _ _ _ _ _ h.cur.gd.n1 h.cur.gd.n2) (C_X6_isConsistent hg.1.1.1.1 l D cy bd _ _ _ _ _ _ _ _ _ _ _ _ _ _ _ _ _ _ _ _ _) (congrArg zI (icn_eq h.cur)) (zIn.mk' ⟨h.cur, h.sno, h.sns, h.his, h.rea, h.txt, h.out⟩)

theorem zS0 (m : Int32) {k : Nat} (hk : k < 32) : decide ((m >>> (nI k &&& 31)) &&& 1 = 0) = !zb m (nI k) := by
  have h : ∀ y : Int32, (y &&& 1 = 0) ↔ ¬ (y &&& 1 = 1) := fun y => by
    constructor
    · intro z w; rw [z] at w; exact absurd w (by decide)
    · intro z
      refine b_ext fun i hi => ?_
      rw [b_0]
      cases q : bt (y &&& 1) i
      · rfl
      · exfalso
        apply z
        refine b_ext fun j hj => ?_
        rw [b_and] at q
        have h1 : ∀ j, j < 32 → bt (1 : Int32) j = decide (j = 0) := fun j hj => by
          have := bt_one (k := 0) (i := j) (by decide) hj
          exact this
        rw [h1 i hi, Bool.and_eq_true, decide_eq_true_eq] at q
        obtain ⟨q1, rfl⟩ := q
        rw [b_and, h1 j hj]
        by_cases r : j = 0
        · subst r; rw [q1]; rfl
        · simp [r]
  unfold zb
  rw [← decide_not]
  exact decide_eq_decide.mpr (h _)
theorem zst6_bt {v : Nat → Int32} {rw cq i : Nat} (hi : i < 32) : ∀ n, n ≤ 24 → bt (zst6 v rw cq n) i = (decide (i < n) && zkn6 v rw cq i)
  | 0, _ => by
    simp only [zst6]
    rw [b_0]; simp
  | n + 1, hn => by
    simp only [zst6]
    rw [b_or, zst6_bt hi n (by omega)]
    by_cases q : zkn6 v rw cq n = true
    · rw [if_pos q, bt_one (by omega) hi]
      by_cases r : i = n
      · subst r; simp [q]
      · rw [decide_eq_false r, Bool.or_false, show decide (i < n + 1) = decide (i < n) from decide_eq_decide.mpr (by omega)]
    · rw [if_neg q, b_0, Bool.or_false]
      by_cases r : i = n
      · subst r; rw [Bool.eq_false_iff.mpr q, Bool.and_false, Bool.and_false]
      · rw [show decide (i < n + 1) = decide (i < n) from decide_eq_decide.mpr (by omega)]
/-- the bed alone, on both sides -/
def zBv (pa : Nat → Int32) (rw : Nat) (wk hd : Int32) (lo ag v : Nat → Int32) : Prop :=
  (zBd wk lo ag) ∧
  (v 0 = wk) ∧
  (v 1 = hd) ∧
  (∀ j, j < 24 → v (10 + j) = lo j) ∧
  (∀ j, j < 24 → v (34 + j) = ag j) ∧
  (∀ j, j < rw → v (62 + j) = pa j)
theorem zBv.b {pa : Nat → Int32} {rw : Nat} {wk hd : Int32} {lo ag v : Nat → Int32} (hS9 : zBv pa rw wk hd lo ag v) : zBd wk lo ag := hS9.1
theorem zBv.v0 {pa : Nat → Int32} {rw : Nat} {wk hd : Int32} {lo ag v : Nat → Int32} (hS9 : zBv pa rw wk hd lo ag v) : v 0 = wk := hS9.2.1
theorem zBv.v1 {pa : Nat → Int32} {rw : Nat} {wk hd : Int32} {lo ag v : Nat → Int32} (hS9 : zBv pa rw wk hd lo ag v) : v 1 = hd := hS9.2.2.1
theorem zBv.lo {pa : Nat → Int32} {rw : Nat} {wk hd : Int32} {lo ag v : Nat → Int32} (hS9 : zBv pa rw wk hd lo ag v) : ∀ j, j < 24 → v (10 + j) = lo j := hS9.2.2.2.1
theorem zBv.ag {pa : Nat → Int32} {rw : Nat} {wk hd : Int32} {lo ag v : Nat → Int32} (hS9 : zBv pa rw wk hd lo ag v) : ∀ j, j < 24 → v (34 + j) = ag j := hS9.2.2.2.2.1
theorem zBv.ro {pa : Nat → Int32} {rw : Nat} {wk hd : Int32} {lo ag v : Nat → Int32} (hS9 : zBv pa rw wk hd lo ag v) : ∀ j, j < rw → v (62 + j) = pa j := hS9.2.2.2.2.2
theorem zSt.bv {mu : Nat → Nat → Int32} {nu : Nat → Nat} {v : Nat → Int32} (h : zSt mu nu v) : zBv (mu 7) (nu 1) (mu 8 0) (mu 8 1) (mu 0) (mu 1) v := ⟨h.gd.bd, h.v0, h.v1, h.lo, h.ag, h.ro⟩
theorem zBv.kn {pa : Nat → Int32} {rw : Nat} {wk hd : Int32} {lo ag v : Nat → Int32} (h : zBv pa rw wk hd lo ag v) (cq : Nat) {k : Nat} (hk : k < 24) : zkn6 v rw cq k = zkn lo wk hd (zrow pa rw cq) k := by
  have e1 : zb (wk &&& (hd ^^^ (-1))) (nI k) = (zb wk (nI k) && !zb hd (nI k)) := by
    rw [zb_bt _ (by omega), zb_bt _ (by omega), zb_bt _ (by omega), b_and, bt_not _ (by omega)]
  have e2 : zb (zrow pa rw cq) (nI k - nI k / 8 * 8) = (decide (rw = 0) || zb (v (62 + cq % rw)) (nI k - nI k / 8 * 8)) := by
    unfold zrow
    by_cases q : rw = 0
    · rw [if_pos q, k_mod8 k hk, zb_255 _ (by omega)]; simp [q]
    · rw [if_neg q, h.ro _ (Nat.mod_lt _ (Nat.pos_of_ne_zero q))]; simp [q]
  unfold zkn6 zkn
  rw [e1, e2, h.v0, h.v1, h.lo k hk]
  generalize zb wk (nI k) = x
  generalize zb hd (nI k) = y
  generalize (decide (rw = 0) || zb (v (62 + cq % rw)) (nI k - nI k / 8 * 8)) = z
  generalize decide (lo k ≤ 0) = t
  cases x <;> cases y <;> cases z <;> cases t <;> rfl
theorem zBv.wd {pa : Nat → Int32} {rw : Nat} {wk hd : Int32} {lo ag v : Nat → Int32} (h : zBv pa rw wk hd lo ag v) (cq : Nat) : ∀ n, n ≤ 24 → zwd6 v rw cq n = zwd lo wk hd (zrow pa rw cq) n
  | 0, _ => rfl
  | n + 1, hn => by
    simp only [zwd6, zwd]
    rw [h.kn cq (by omega), h.wd cq n (by omega)]
theorem upd_same {f : Nat → Int32} {a : Nat} : upd f a (f a) = f := by
  funext j
  by_cases q : j = a
  · subst q; rw [upd_s]
  · rw [un q]
theorem upd_upd {f : Nat → Int32} {a : Nat} {x y : Int32} : upd (upd f a x) a y = upd f a y := by
  funext j
  by_cases q : j = a
  · subst q; rw [upd_s, upd_s]
  · rw [un q, un q, un q]
theorem ps_step {L A y : Nat → Int32} (hL : ∀ j, j < 24 → y (10 + j) = L j) (hA : ∀ j, j < 24 → y (34 + j) = A j) {n : Nat} (hn : n < 24) {l a0 a : Int32} (e : (if l = 0 then 0 else a0) = a) : (∀ j, j < 24 → zpt y n l a0 (10 + j) = upd L n l j) ∧ (∀ j, j < 24 → zpt y n l a0 (34 + j) = upd A n a j) :=
  ⟨fun j hj => (un (by omega)).trans (lo_up hL rfl j hj), fun j hj => lo_up (v := upd y (10 + n) l) (fun j hj => (un (by omega)).trans (hA j hj)) e j hj⟩
def zPs (wk hd row : Int32) (lo ag v : Nat → Int32) (st : Int32) (n : Nat) : Prop :=
  (zBd wk (zpcL lo ag wk hd row n) (zpcA lo ag wk hd row n)) ∧
  (∀ j, j < 24 → zpsV st v n (10 + j) = zpcL lo ag wk hd row n j) ∧
  (∀ j, j < 24 → zpsV st v n (34 + j) = zpcA lo ag wk hd row n j) ∧
  (zpsD st v n = zpcD lo ag wk hd row n) ∧
  (∃ k : Nat, k ≤ 3 * n ∧ zpcD lo ag wk hd row n = nI k) ∧
  (∀ j, n ≤ j → zpcL lo ag wk hd row n j = lo j) ∧
  (∀ j, n ≤ j → zpcA lo ag wk hd row n j = ag j)
theorem zPs.b {wk hd row : Int32} {lo ag v : Nat → Int32} {st : Int32} {n : Nat} (hS9 : zPs wk hd row lo ag v st n) : zBd wk (zpcL lo ag wk hd row n) (zpcA lo ag wk hd row n) := hS9.1
theorem zPs.lo {wk hd row : Int32} {lo ag v : Nat → Int32} {st : Int32} {n : Nat} (hS9 : zPs wk hd row lo ag v st n) : ∀ j, j < 24 → zpsV st v n (10 + j) = zpcL lo ag wk hd row n j := hS9.2.1
theorem zPs.ag {wk hd row : Int32} {lo ag v : Nat → Int32} {st : Int32} {n : Nat} (hS9 : zPs wk hd row lo ag v st n) : ∀ j, j < 24 → zpsV st v n (34 + j) = zpcA lo ag wk hd row n j := hS9.2.2.1
theorem zPs.d {wk hd row : Int32} {lo ag v : Nat → Int32} {st : Int32} {n : Nat} (hS9 : zPs wk hd row lo ag v st n) : zpsD st v n = zpcD lo ag wk hd row n := hS9.2.2.2.1
theorem zPs.dk {wk hd row : Int32} {lo ag v : Nat → Int32} {st : Int32} {n : Nat} (hS9 : zPs wk hd row lo ag v st n) : ∃ k : Nat, k ≤ 3 * n ∧ zpcD lo ag wk hd row n = nI k := hS9.2.2.2.2.1
theorem zPs.l0 {wk hd row : Int32} {lo ag v : Nat → Int32} {st : Int32} {n : Nat} (hS9 : zPs wk hd row lo ag v st n) : ∀ j, n ≤ j → zpcL lo ag wk hd row n j = lo j := hS9.2.2.2.2.2.1
theorem zPs.a0 {wk hd row : Int32} {lo ag v : Nat → Int32} {st : Int32} {n : Nat} (hS9 : zPs wk hd row lo ag v st n) : ∀ j, n ≤ j → zpcA lo ag wk hd row n j = ag j := hS9.2.2.2.2.2.2
theorem zPs.step {wk hd row : Int32} {lo ag v : Nat → Int32} {st : Int32} {n : Nat} (h : zPs wk hd row lo ag v st n) (hn : n < 24) {k m kd : Nat} {a0 : Int32} (hk : k ≤ 3) (hm : m ≤ 5) (hw : zb wk (nI n) = false → k = 0) (h0 : k = 0 → m = 0) (hd3 : kd ≤ 3)
    (eL : zpcL lo ag wk hd row (n + 1) = upd (zpcL lo ag wk hd row n) n (nI k)) (eA : zpcA lo ag wk hd row (n + 1) = upd (zpcA lo ag wk hd row n) n (nI m)) (eD : zpcD lo ag wk hd row (n + 1) = zpcD lo ag wk hd row n + nI kd) (eV : zpsV st v (n + 1) = zpt (zpsV st v n) n (nI k) a0) (ea : (if nI k = 0 then 0 else a0) = nI m) (ed : zpsD st v (n + 1) = zpsD st v n + nI kd) : zPs wk hd row lo ag v st (n + 1) := by
  obtain ⟨p1, p2⟩ := ps_step h.lo h.ag hn ea
  obtain ⟨dk, hdk, edk⟩ := h.dk
  refine ⟨?_, ?_, ?_, ?_, ⟨dk + kd, by omega, ?_⟩, ?_, ?_⟩
  · rw [eL, eA]; exact h.b.set hk hm hw h0
  · rw [eL, eV]; exact p1
  · rw [eA, eV]; exact p2
  · rw [eD, ed, h.d]
  · rw [eD, edk, nI_add]
  · intro j hj; rw [eL, un (by omega)]; exact h.l0 j (by omega)
  · intro j hj; rw [eA, un (by omega)]; exact h.a0 j (by omega)
theorem zPs.mk' {pa : Nat → Int32} {rw : Nat} {wk hd : Int32} {lo ag v : Nat → Int32} (h : zBv pa rw wk hd lo ag v) (cq : Nat) : ∀ n, n ≤ 24 → zPs wk hd (zrow pa rw cq) lo ag v (zst6 v rw cq 24) n
  | 0, _ => ⟨h.b, h.lo, h.ag, rfl, ⟨0, Nat.le_refl 0, rfl⟩, fun _ _ => rfl, fun _ _ => rfl⟩
  | n + 1, hn => by
    have ih := zPs.mk' h cq n (by omega)
    have hn4 : n < 24 := by omega
    have hb : zb (zst6 v rw cq 24) (nI n) = zkn lo wk hd (zrow pa rw cq) n := by
      rw [zb_bt _ (by omega), zst6_bt (by omega) 24 (Nat.le_refl 24), decide_eq_true hn4, Bool.true_and, h.kn cq hn4]
    have hbi : ((zst6 v rw cq 24 >>> (nI n &&& 31)) &&& 1 = 1) ↔ zkn lo wk hd (zrow pa rw cq) n = true := by
      rw [← hb]; unfold zb; exact decide_eq_true_iff.symm
    have ek : zkn (zpcL lo ag wk hd (zrow pa rw cq) n) wk hd (zrow pa rw cq) n = zkn lo wk hd (zrow pa rw cq) n := by
      unfold zkn; rw [ih.l0 n (Nat.le_refl n)]
    have sX : zpsX (zst6 v rw cq 24) (zpsV (zst6 v rw cq 24) v n) n = (!zkn lo wk hd (zrow pa rw cq) n && decide (ag n + 1 = 6) && !decide (lo n ≤ 0)) := by
      unfold zpsX
      rw [zS0 _ (by omega), hb, ih.lo n hn4, ih.ag n hn4, ih.l0 n (Nat.le_refl n), ih.a0 n (Nat.le_refl n)]
    have sC : zpc lo ag wk hd (zrow pa rw cq) (n + 1) = if zkn lo wk hd (zrow pa rw cq) n = true then (upd (zpcL lo ag wk hd (zrow pa rw cq) n) n 1, upd (zpcA lo ag wk hd (zrow pa rw cq) n) n 0, zpcD lo ag wk hd (zrow pa rw cq) n) else if lo n ≤ 0 then (zpcL lo ag wk hd (zrow pa rw cq) n, zpcA lo ag wk hd (zrow pa rw cq) n, zpcD lo ag wk hd (zrow pa rw cq) n) else if ag n + 1 < 6 then (zpcL lo ag wk hd (zrow pa rw cq) n, upd (zpcA lo ag wk hd (zrow pa rw cq) n) n (ag n + 1), zpcD lo ag wk hd (zrow pa rw cq) n + 0) else (upd (zpcL lo ag wk hd (zrow pa rw cq) n) n 0, upd (zpcA lo ag wk hd (zrow pa rw cq) n) n 0, zpcD lo ag wk hd (zrow pa rw cq) n + lo n) := by
      rw [zpc]
      show (if zkn (zpcL lo ag wk hd (zrow pa rw cq) n) wk hd (zrow pa rw cq) n = true then _ else if zpcL lo ag wk hd (zrow pa rw cq) n n ≤ 0 then _ else (zgl (zpcL lo ag wk hd (zrow pa rw cq) n) (zpcA lo ag wk hd (zrow pa rw cq) n) n, zga (zpcA lo ag wk hd (zrow pa rw cq) n) n, zpcD lo ag wk hd (zrow pa rw cq) n + zgd (zpcL lo ag wk hd (zrow pa rw cq) n) (zpcA lo ag wk hd (zrow pa rw cq) n) n)) = _
      unfold zgl zga zgd
      rw [ek, upd_s, upd_upd, ih.l0 n (Nat.le_refl n), ih.a0 n (Nat.le_refl n)]
      by_cases q1 : zkn lo wk hd (zrow pa rw cq) n = true
      · rw [if_pos q1, if_pos q1]; rfl
      · rw [if_neg q1, if_neg q1]
        by_cases q2 : lo n ≤ 0
        · rw [if_pos q2, if_pos q2]; rfl
        · rw [if_neg q2, if_neg q2]
          by_cases q3 : ag n + 1 < 6
          · rw [if_pos q3, if_pos q3, if_pos q3, if_pos q3]
          · rw [if_neg q3, if_neg q3, if_neg q3, if_neg q3]
    obtain ⟨k, hk, el⟩ := h.b.lk n hn4
    obtain ⟨m, hm, ea⟩ := h.b.ak n hn4
    have el' : zpcL lo ag wk hd (zrow pa rw cq) n n = nI k := (ih.l0 n (Nat.le_refl n)).trans el
    have ea' : zpcA lo ag wk hd (zrow pa rw cq) n n = nI m := (ih.a0 n (Nat.le_refl n)).trans ea
    have evl : zpsV (zst6 v rw cq 24) v n (10 + n) = nI k := (ih.lo n hn4).trans el'
    have eva : zpsV (zst6 v rw cq 24) v n (34 + n) = nI m := (ih.ag n hn4).trans ea'
    have hlw : zb wk (nI n) = false → k = 0 := fun z => by
      have := h.b.lw n hn4 z
      rw [el] at this
      exact (nI_eq (a := k) (b := 0) (by omega) (by decide)).mp this
    have k0 : (nI k ≤ 0) ↔ k = 0 := by
      rw [show (0 : Int32) = nI 0 from rfl, nI_leI (by omega) (by decide)]; omega
    by_cases q1 : zkn lo wk hd (zrow pa rw cq) n = true
    · rw [if_pos q1] at sC
      refine ih.step hn4 (k := 1) (m := 0) (kd := 0) (a0 := 0) (by decide) (by decide) (fun z => ?_) (fun z => absurd z (by decide)) (by decide) (congrArg (·.1) sC) (congrArg (·.2.1) sC) ((congrArg (·.2.2) sC).trans (Int32.add_zero _).symm) ?_ (by decide) ?_
      · unfold zkn at q1
        rw [zb_bt _ (by omega), b_and, ← zb_bt _ (by omega), z] at q1
        simp at q1
      · simp only [zpsV]; rw [if_pos (hbi.mpr q1)]; rfl
      · simp only [zpsD]; rw [if_neg (by rw [sX, q1]; simp)]; rfl
    · have nb := fun z => q1 (hbi.mp z)
      have nq : zkn lo wk hd (zrow pa rw cq) n = false := Bool.eq_false_iff.mpr q1
      rw [if_neg q1] at sC
      by_cases q2 : k = 0
      · subst q2
        have a0 : m = 0 := by
          have := h.b.al n hn4 el
          rw [ea] at this
          exact (nI_eq (a := m) (b := 0) (by omega) (by decide)).mp this
        subst a0
        rw [if_pos (by rw [el]; decide)] at sC
        have sX0 : ¬ zpsX (zst6 v rw cq 24) (zpsV (zst6 v rw cq 24) v n) n = true := by
          rw [sX, el, decide_eq_true (show nI 0 ≤ 0 by decide)]; simp
        refine ih.step hn4 (k := 0) (m := 0) (kd := 0) (a0 := nI 0 + 1) (by decide) (by decide) (fun _ => rfl) (fun _ => rfl) (by decide) ((congrArg (·.1) sC).trans ?_) ((congrArg (·.2.1) sC).trans ?_) ((congrArg (·.2.2) sC).trans (Int32.add_zero _).symm) ?_ (by decide) ?_
        · rw [← el']; exact upd_same.symm
        · rw [← ea']; exact upd_same.symm
        · simp only [zpsV]; rw [if_neg nb, if_neg sX0, evl, eva]
        · simp only [zpsD]; rw [if_neg sX0]; rfl
      · have nl : ¬ lo n ≤ 0 := by rw [el, k0]; exact q2
        rw [if_neg nl] at sC
        have nk : ¬ nI k = 0 := fun z => q2 ((nI_eq (a := k) (b := 0) (by omega) (by decide)).mp z)
        have e6 : ag n + 1 = nI (m + 1) := by rw [ea, ← nI_add]; rfl
        by_cases q3 : m = 5
        · subst q3
          rw [e6, if_neg (by decide)] at sC
          have sX1 : zpsX (zst6 v rw cq 24) (zpsV (zst6 v rw cq 24) v n) n = true := by
            rw [sX, nq, e6, decide_eq_false nl]; decide
          refine ih.step hn4 (k := 0) (m := 0) (kd := k) (a0 := nI 5 + 1) (by decide) (by decide) (fun _ => rfl) (fun _ => rfl) hk (congrArg (·.1) sC) (congrArg (·.2.1) sC) ((congrArg (·.2.2) sC).trans (by rw [el])) ?_ (by decide) ?_
          · simp only [zpsV]; rw [if_neg nb, if_pos sX1, eva]; rfl
          · simp only [zpsD]; rw [if_pos sX1, evl]
        · have lt6 : ag n + 1 < 6 := by
            rw [e6]; exact (nI_ltI (a := m + 1) (b := 6) (by omega) (by decide)).mpr (by omega)
          rw [if_pos lt6] at sC
          have sX0 : ¬ zpsX (zst6 v rw cq 24) (zpsV (zst6 v rw cq 24) v n) n = true := by
            rw [sX, decide_eq_false (show ¬ ag n + 1 = 6 from fun z => absurd (z ▸ lt6) (by decide))]; simp
          refine ih.step hn4 (k := k) (m := m + 1) (kd := 0) (a0 := nI m + 1) hk (by omega) hlw (fun z => absurd z q2) (by decide) ((congrArg (·.1) sC).trans ?_) ((congrArg (·.2.1) sC).trans (by rw [e6])) (congrArg (·.2.2) sC) ?_ ?_ ?_
          · rw [← el']; exact upd_same.symm
          · simp only [zpsV]; rw [if_neg nb, if_neg sX0, evl, eva]
          · rw [if_neg nk, ← nI_add]; rfl
          · simp only [zpsD]; rw [if_neg sX0]; rfl
theorem zBv.course {pa : Nat → Int32} {rw : Nat} {wk hd : Int32} {lo ag v : Nat → Int32} (h : zBv pa rw wk hd lo ag v) (hr : rw ≤ 6) (cq : Nat) : zBv pa rw wk hd (zpcL lo ag wk hd (zrow pa rw cq) 24) (zpcA lo ag wk hd (zrow pa rw cq) 24) (zpsV (zst6 v rw cq 24) v 24) := by
  have s := zPs.mk' h cq 24 (Nat.le_refl 24)
  exact ⟨s.b, (zpsV_n (by omega) (Nat.le_refl 24)).trans h.v0, (zpsV_n (by omega) (Nat.le_refl 24)).trans h.v1, s.lo, s.ag, fun j hj => (zpsV_n (by omega) (Nat.le_refl 24)).trans (h.ro j hj)⟩
theorem zSt.ahead {mu : Nat → Nat → Int32} {nu : Nat → Nat} {v : Nat → Int32} (h : zSt mu nu v) : ∀ k, zBv (mu 7) (nu 1) (mu 8 0) (mu 8 1) (zahL (zrf (mu 7) (nu 1) (nu 2)) (mu 0) (mu 1) (mu 8 0) (mu 8 1) k) (zahA (zrf (mu 7) (nu 1) (nu 2)) (mu 0) (mu 1) (mu 8 0) (mu 8 1) k) (zco6 v (nu 1) (nu 2) k)
  | 0 => h.bv
  | k + 1 => by
    rw [zahL_s, zahA_s]
    exact (h.ahead k).course h.gd.n1 (nu 2 + k)
theorem zcoS_eq {mu : Nat → Nat → Int32} {nu : Nat → Nat} {v : Nat → Int32} (h : zSt mu nu v) : ∀ k, zcoS v (nu 1) (nu 2) k = zst (zrf (mu 7) (nu 1) (nu 2)) (mu 0) (mu 1) (mu 8 0) (mu 8 1) k
  | 0 => rfl
  | k + 1 => by
    simp only [zcoS, zst]
    rw [zcoS_eq h k, (h.ahead k).wd (nu 2 + k) 24 (Nat.le_refl 24)]
    rfl
theorem zcoD_eq {mu : Nat → Nat → Int32} {nu : Nat → Nat} {v : Nat → Int32} (h : zSt mu nu v) : ∀ k, zcoD v (nu 1) (nu 2) k = zdr (zrf (mu 7) (nu 1) (nu 2)) (mu 0) (mu 1) (mu 8 0) (mu 8 1) k
  | 0 => rfl
  | k + 1 => by
    simp only [zcoD, zdr]
    rw [zcoD_eq h k, (zPs.mk' (h.ahead k) (nu 2 + k) 24 (Nat.le_refl 24)).d]
    rfl
theorem q10 {u : Int32} (h : zic 1 10 u = true) : ∃ n : Nat, 1 ≤ n ∧ n ≤ 10 ∧ u = nI n := zic_nat (lo := 1) (hi := 10) (by decide) (by decide) h

theorem arm_stitchesIn {G : zG} (hg : zGW G) {l : Launch} (hfl : l.stackTraces = false) {D : va_G} {cy : Nat → ClassId} {ad qn qt qs : Nat → Nat} {qh : Nat → Nat → Nat} {bd : Nat → Nat} {xs : Nat → Int32} {i : Nat} {A : zPX} {B : zPM} (h : zRI A B) : zArmS G D cy l (zIn cy ad qn qt qs qh bd) (bd 0) yL_stitchesIn wsL_stitchesIn [.ref (ad 0), .int (xs (i + 1)), .ref (ad 12)] yX6_stitchesIn wsX6_stitchesIn [.ref (bd 0), .int (xs (i + 1))] (fun w' b => zOut (ad 12) cy w' b.toInt64) (A.w cy ad qn qt qs qh) (B.w cy bd) := by
  cases hu : zic 1 10 (xs (i + 1))
  · exact zAS (C_L_stitchesIn_bad hg l hfl D cy ad qn qt qs qh _ _ _ _ _ _ _ _ _ _ _ _ _ _ _ _ _ _ _ _ _ _ _ _ _ _ _ _ _ _ _ _ _ _ _ _ _ _ _ _ _ _ _ hu) (C_X6_stitchesIn_f1 hg.1.1.1.1 l D cy bd _ _ _ _ _ _ _ _ _ _ _ _ _ _ _ _ _ _ _ _ _ _ hu) (C_X6_thrown hg.1.1.1.1 l D cy bd _ _ _ _ _ _ _ _ _ _ _ _ _ _ _ _ _ _ _ _ _) (fun z => absurd z (by decide)) (zIn.mk' ⟨h.cur, h.sno, h.sns, h.his, h.rea, h.txt, h.out⟩)
  · obtain ⟨q, h1, h2, eq⟩ := q10 hu
    rw [eq]
    exact zAS (C_L_stitchesIn_ok hg l hfl D cy ad qn qt qs qh _ _ _ _ _ _ _ _ _ _ _ _ _ _ _ _ _ _ _ _ _ _ _ _ _ _ _ _ _ _ _ _ _ _ _ _ _ _ _ _ _ _ _ h.cur.gd.n1 h.cur.gd.n2 h2 h1) (C_X6_stitchesIn_ok hg.1.1.1.1 l D cy bd _ _ _ _ _ _ _ _ _ _ _ _ _ _ _ _ _ _ _ _ _ _ _ _ h.cur.v4 h.cur.gd.n1 h.cur.v5 h.cur.gd.n2 h1 h2) (C_X6_thrown hg.1.1.1.1 l D cy bd _ _ _ _ _ _ _ _ _ _ _ _ _ _ _ _ _ _ _ _ _) (fun _ => zo1 (congrArg Int32.toInt64 (zcoS_eq h.cur q).symm)) (zIn.mk' ⟨h.cur, h.sno, h.sns, h.his, h.rea, h.txt, h.out⟩)

theorem arm_dropsIn {G : zG} (hg : zGW G) {l : Launch} (hfl : l.stackTraces = false) {D : va_G} {cy : Nat → ClassId} {ad qn qt qs : Nat → Nat} {qh : Nat → Nat → Nat} {bd : Nat → Nat} {xs : Nat → Int32} {i : Nat} {A : zPX} {B : zPM} (h : zRI A B) : zArmS G D cy l (zIn cy ad qn qt qs qh bd) (bd 0) yL_dropsIn wsL_dropsIn [.ref (ad 0), .int (xs (i + 1)), .ref (ad 12)] yX6_dropsIn wsX6_dropsIn [.ref (bd 0), .int (xs (i + 1))] (fun w' b => zOut (ad 12) cy w' b.toInt64) (A.w cy ad qn qt qs qh) (B.w cy bd) := by
  cases hu : zic 1 10 (xs (i + 1))
  · exact zAS (C_L_dropsIn_bad hg l hfl D cy ad qn qt qs qh _ _ _ _ _ _ _ _ _ _ _ _ _ _ _ _ _ _ _ _ _ _ _ _ _ _ _ _ _ _ _ _ _ _ _ _ _ _ _ _ _ _ _ hu) (C_X6_dropsIn_f1 hg.1.1.1.1 l D cy bd _ _ _ _ _ _ _ _ _ _ _ _ _ _ _ _ _ _ _ _ _ _ hu) (C_X6_thrown hg.1.1.1.1 l D cy bd _ _ _ _ _ _ _ _ _ _ _ _ _ _ _ _ _ _ _ _ _) (fun z => absurd z (by decide)) (zIn.mk' ⟨h.cur, h.sno, h.sns, h.his, h.rea, h.txt, h.out⟩)
  · obtain ⟨q, h1, h2, eq⟩ := q10 hu
    rw [eq]
    exact zAS (C_L_dropsIn_ok hg l hfl D cy ad qn qt qs qh _ _ _ _ _ _ _ _ _ _ _ _ _ _ _ _ _ _ _ _ _ _ _ _ _ _ _ _ _ _ _ _ _ _ _ _ _ _ _ _ _ _ _ h.cur.gd.n1 h.cur.gd.n2 h2 h1) (C_X6_dropsIn_ok hg.1.1.1.1 l D cy bd _ _ _ _ _ _ _ _ _ _ _ _ _ _ _ _ _ _ _ _ _ _ _ _ h.cur.v4 h.cur.gd.n1 h.cur.v5 h.cur.gd.n2 h1 h2) (C_X6_thrown hg.1.1.1.1 l D cy bd _ _ _ _ _ _ _ _ _ _ _ _ _ _ _ _ _ _ _ _ _) (fun _ => zo1 (congrArg Int32.toInt64 (zcoD_eq h.cur q).symm)) (zIn.mk' ⟨h.cur, h.sno, h.sns, h.his, h.rea, h.txt, h.out⟩)

theorem wd_k {lo : Nat → Int32} {wk hd row : Int32} : ∃ k : Nat, k ≤ 24 ∧ zwd lo wk hd row 24 = nI k := ⟨_, fb_ct_le _ 24, zwd_ct 24⟩
theorem nI_mul (a b : Nat) : nI a * nI b = nI (a * b) := (Int32.ofNat_mul a b).symm
/-- what a course takes of yarn -/
theorem nd_k {W T : Int32} (hW : ∃ k : Nat, k ≤ 24 ∧ W = nI k) (hT : ∃ k : Nat, 1 ≤ k ∧ k ≤ 9 ∧ T = nI k) : ∃ k : Nat, k ≤ 216 ∧ W * T = nI k ∧ (k = 0 ↔ W = 0) := by
  obtain ⟨a, ha, rfl⟩ := hW
  obtain ⟨b, hb1, hb2, rfl⟩ := hT
  refine ⟨a * b, ?_, nI_mul a b, ?_⟩
  · exact Nat.le_trans (Nat.mul_le_mul ha hb2) (by decide)
  · rw [show (0 : Int32) = nI 0 from rfl, nI_eq (by omega) (by decide)]
    constructor
    · intro z
      rcases Nat.mul_eq_zero.mp z with z | z
      · exact z
      · omega
    · intro z; rw [z, Nat.zero_mul]
theorem zrc_0 {c : Nat} {nd yl : Int32} (h : zrc c nd yl = 0) : c < 30 ∧ ¬ nd = 0 ∧ nd ≤ yl := by
  unfold zrc at h
  by_cases q : 30 ≤ c
  · rw [if_pos q] at h; exact absurd h (by decide)
  · rw [if_neg q] at h
    by_cases r : nd = 0
    · rw [if_pos r] at h; exact absurd h (by decide)
    · rw [if_neg r] at h
      by_cases t : nd ≤ yl
      · exact ⟨by omega, r, t⟩
      · rw [if_neg t] at h; exact absurd h (by decide)
theorem zrc_15 {c : Nat} {nd yl : Int32} : ¬ zrc c nd yl = 15 := by unfold zrc; split <;> (try split) <;> (try split) <;> decide
theorem cyd_up {f : Nat → Int32} {n b : Nat} (h : ∀ c, c < n → ∃ k : Nat, k ≤ b ∧ f c = nI k) {x : Int32} (hx : ∃ k : Nat, k ≤ b ∧ x = nI k) (c : Nat) (hc : c < n + 1) : ∃ k : Nat, k ≤ b ∧ upd f n x c = nI k := by
  by_cases q : c = n
  · subst q; rw [upd_s]; exact hx
  · rw [un q]; exact h c (by omega)
theorem cyf_up {f : Nat → Int32} {n b : Nat} (h : ∀ c, c < n → ∃ k : Nat, k < b ∧ f c = nI k) {x : Int32} (hx : ∃ k : Nat, k < b ∧ x = nI k) (c : Nat) (hc : c < n + 1) : ∃ k : Nat, k < b ∧ upd f n x c = nI k := by
  by_cases q : c = n
  · subst q; rw [upd_s]; exact hx
  · rw [un q]; exact h c (by omega)
theorem co_up {v f : Nat → Int32} {n d : Nat} (h : ∀ c, c < n → v (68 + 4 * c + d) = f c) {x : Int32} (e : v (68 + 4 * n + d) = x) (c : Nat) (hc : c < n + 1) : v (68 + 4 * c + d) = upd f n x c := by
  by_cases q : c = n
  · subst q; rw [upd_s]; exact e
  · rw [un q]; exact h c (by omega)

theorem zkc1_bv {mu : Nat → Nat → Int32} {nu : Nat → Nat} {v : Nat → Int32} (h : zSt mu nu v) : zBv (mu 7) (nu 1) (mu 8 0) (mu 8 1) (mu 0) (mu 1) (zkc1 v (nu 0) (nu 1) (nu 2)) := by
  have n0 := h.gd.n0
  have n1 := h.gd.n1
  exact ⟨h.gd.bd, (zkc1_n (by omega) (by omega) (by omega)).trans h.v0, (zkc1_n (by omega) (by omega) (by omega)).trans h.v1, fun j hj => (zkc1_n (by omega) (by omega) (by omega)).trans (h.lo j hj), fun j hj => (zkc1_n (by omega) (by omega) (by omega)).trans (h.ag j hj), fun j hj => (zkc1_n (by omega) (by omega) (by omega)).trans (h.ro j hj)⟩

theorem st_course {mu : Nat → Nat → Int32} {nu : Nat → Nat} {v : Nat → Int32} (h : zSt mu nu v) (hr : zrc (nu 2) ((zwd (mu 0) (mu 8 0) (mu 8 1) (zrow (mu 7) (nu 1) (nu 2)) 24) * mu 8 2) (mu 6 (nu 0)) = 0) : zSt (zmk (zpcL (mu 0) (mu 1) (mu 8 0) (mu 8 1) (zrow (mu 7) (nu 1) (nu 2)) 24) (zpcA (mu 0) (mu 1) (mu 8 0) (mu 8 1) (zrow (mu 7) (nu 1) (nu 2)) 24) (upd (mu 2) (nu 2) (zwd (mu 0) (mu 8 0) (mu 8 1) (zrow (mu 7) (nu 1) (nu 2)) 24)) (upd (mu 3) (nu 2) ((zwd (mu 0) (mu 8 0) (mu 8 1) (zrow (mu 7) (nu 1) (nu 2)) 24) * mu 8 2)) (upd (mu 4) (nu 2) (nI (nu 0))) (upd (mu 5) (nu 2) (zpcD (mu 0) (mu 1) (mu 8 0) (mu 8 1) (zrow (mu 7) (nu 1) (nu 2)) 24)) (upd (mu 6) (nu 0) (mu 6 (nu 0) - ((zwd (mu 0) (mu 8 0) (mu 8 1) (zrow (mu 7) (nu 1) (nu 2)) 24) * mu 8 2))) (mu 7) (mu 8 0) (mu 8 1) (mu 8 2) (mu 8 3) (mu 8 4) (mu 8 5 + ((zwd (mu 0) (mu 8 0) (mu 8 1) (zrow (mu 7) (nu 1) (nu 2)) 24) * mu 8 2)) (mu 8 6 + (zpcD (mu 0) (mu 1) (mu 8 0) (mu 8 1) (zrow (mu 7) (nu 1) (nu 2)) 24))) (znk (nu 0) (nu 1) (nu 2 + 1)) (zkcV v (nu 0) (nu 1) (nu 2)) := by
  obtain ⟨h30, hnd0, hle⟩ := zrc_0 hr
  have n0 := h.gd.n0
  have n1 := h.gd.n1
  have s := zPs.mk' (zkc1_bv h) (nu 2) 24 (Nat.le_refl 24)
  have eW : zwd6 v (nu 1) (nu 2) 24 = (zwd (mu 0) (mu 8 0) (mu 8 1) (zrow (mu 7) (nu 1) (nu 2)) 24) := zwd_eq h 24 (Nat.le_refl 24)
  have eN : zwd6 v (nu 1) (nu 2) 24 * v 3 = ((zwd (mu 0) (mu 8 0) (mu 8 1) (zrow (mu 7) (nu 1) (nu 2)) 24) * mu 8 2) := by rw [eW, h.v3]
  obtain ⟨kn, hkn, ekn, -⟩ := nd_k (wd_k (lo := mu 0) (wk := mu 8 0) (hd := mu 8 1) (row := zrow (mu 7) (nu 1) (nu 2))) h.gd.tk
  obtain ⟨ky, hky, eky⟩ := h.gd.yk _ n0
  have hle2 : kn ≤ ky := by
    rw [ekn, eky] at hle
    exact (nI_leI (by omega) (by omega)).mp hle
  have yk : ∀ j, j < 4 → ∃ k : Nat, k ≤ 200 ∧ upd (mu 6) (nu 0) (mu 6 (nu 0) - ((zwd (mu 0) (mu 8 0) (mu 8 1) (zrow (mu 7) (nu 1) (nu 2)) 24) * mu 8 2)) j = nI k := fun j hj => by
    by_cases q : j = nu 0
    · subst q
      rw [upd_s, ekn, eky]
      exact ⟨ky - kn, by omega, pk_sub hle2⟩
    · rw [un q]; exact h.gd.yk j hj
  have hW := wd_k (lo := mu 0) (wk := mu 8 0) (hd := mu 8 1) (row := zrow (mu 7) (nu 1) (nu 2))
  have out3 : ∀ j, ¬ j = 5 → ¬ j = 9 → j < 68 + 4 * nu 2 + 3 → zkcV v (nu 0) (nu 1) (nu 2) j = zpsV (zst6 (zkc1 v (nu 0) (nu 1) (nu 2)) (nu 1) (nu 2) 24) (zkc1 v (nu 0) (nu 1) (nu 2)) 24 j := fun j h5 h9 h3 => by
    simp only [zkcV, zkc3, zkc2]
    rw [un h5, un h9, un (by omega)]
  have bed : ∀ j, 10 ≤ j → j < 58 → zkcV v (nu 0) (nu 1) (nu 2) j = zpsV (zst6 (zkc1 v (nu 0) (nu 1) (nu 2)) (nu 1) (nu 2) 24) (zkc1 v (nu 0) (nu 1) (nu 2)) 24 j := fun j h1 h2 => out3 j (by omega) (by omega) (by omega)
  have low : ∀ j, (j < 10 ∨ 57 < j) → ¬ j = 5 → ¬ j = 9 → j < 68 + 4 * nu 2 + 3 → zkcV v (nu 0) (nu 1) (nu 2) j = zkc1 v (nu 0) (nu 1) (nu 2) j := fun j h1 h5 h9 h3 => (out3 j h5 h9 h3).trans (zpsV_n h1 (Nat.le_refl 24))
  have ke : ∀ j, ¬ j = 58 + nu 0 → ¬ j = 8 → ¬ j = 9 → ¬ j = 5 → (j < 10 ∨ 57 < j ∧ j < 68) → zkcV v (nu 0) (nu 1) (nu 2) j = v j := fun j h1 h2 h3 h4 h5 => zkcV_n h1 h2 h3 h4 h5
  have oldc : ∀ j, 68 ≤ j → j < 68 + 4 * nu 2 → zkcV v (nu 0) (nu 1) (nu 2) j = v j := fun j h1 h2 => by
    rw [low j (by omega) (by omega) (by omega) (by omega)]
    simp only [zkc1, zkc0]
    rw [un (by omega), un (by omega), un (by omega), un (by omega), un (by omega)]
  have c0 : zkcV v (nu 0) (nu 1) (nu 2) (68 + 4 * nu 2) = (zwd (mu 0) (mu 8 0) (mu 8 1) (zrow (mu 7) (nu 1) (nu 2)) 24) := by
    rw [low _ (by omega) (by omega) (by omega) (by omega)]
    simp only [zkc1, zkc0]
    rw [un (by omega), un (by omega), upd_s, eW]
  have c1 : zkcV v (nu 0) (nu 1) (nu 2) (68 + 4 * nu 2 + 1) = nI (nu 0) := by
    rw [low _ (by omega) (by omega) (by omega) (by omega)]
    simp only [zkc1]
    rw [un (by omega), upd_s]
  have c2 : zkcV v (nu 0) (nu 1) (nu 2) (68 + 4 * nu 2 + 2) = ((zwd (mu 0) (mu 8 0) (mu 8 1) (zrow (mu 7) (nu 1) (nu 2)) 24) * mu 8 2) := by
    rw [low _ (by omega) (by omega) (by omega) (by omega)]
    simp only [zkc1]
    rw [upd_s, eN]
  have c3 : zkcV v (nu 0) (nu 1) (nu 2) (68 + 4 * nu 2 + 3) = (zpcD (mu 0) (mu 1) (mu 8 0) (mu 8 1) (zrow (mu 7) (nu 1) (nu 2)) 24) := by
    simp only [zkcV, zkc3, zkc2]
    rw [un (by omega), un (by omega), upd_s]
    exact s.d
  have e8 : zkcV v (nu 0) (nu 1) (nu 2) 8 = mu 8 5 + ((zwd (mu 0) (mu 8 0) (mu 8 1) (zrow (mu 7) (nu 1) (nu 2)) 24) * mu 8 2) := by
    rw [low _ (by omega) (by omega) (by omega) (by omega)]
    simp only [zkc1, zkc0]
    rw [un (by omega), un (by omega), un (by omega), upd_s, un (by omega), eN, h.v8]
  have e9 : zkcV v (nu 0) (nu 1) (nu 2) 9 = mu 8 6 + (zpcD (mu 0) (mu 1) (mu 8 0) (mu 8 1) (zrow (mu 7) (nu 1) (nu 2)) 24) := by
    have e9a : zkc2 v (nu 0) (nu 1) (nu 2) 9 = mu 8 6 := by
      simp only [zkc2]
      rw [un (by omega), zpsV_n (by omega) (Nat.le_refl 24), zkc1_n (by omega) (by omega) (by omega), h.v9]
    have e9b : zkc2 v (nu 0) (nu 1) (nu 2) (68 + 4 * nu 2 + 3) = (zpcD (mu 0) (mu 1) (mu 8 0) (mu 8 1) (zrow (mu 7) (nu 1) (nu 2)) 24) := by
      simp only [zkc2]
      rw [upd_s]
      exact s.d
    simp only [zkcV, zkc3]
    rw [un (by omega), upd_s, e9a, e9b]
  have yn : ∀ j, j < 4 → zkcV v (nu 0) (nu 1) (nu 2) (58 + j) = upd (mu 6) (nu 0) (mu 6 (nu 0) - ((zwd (mu 0) (mu 8 0) (mu 8 1) (zrow (mu 7) (nu 1) (nu 2)) 24) * mu 8 2)) j := fun j hj => by
    rw [low _ (by omega) (by omega) (by omega) (by omega)]
    simp only [zkc1, zkc0]
    rw [un (by omega), un (by omega), un (by omega), un (by omega)]
    by_cases q : j = nu 0
    · rw [q, upd_s, upd_s, eN, h.yn _ n0]
    · rw [un (by omega), un q]; exact h.yn j hj
  exact ⟨⟨h.gd.n0, h.gd.n1, h30, h.gd.wk, h.gd.hk, h.gd.hd, s.b.lk, s.b.lw, s.b.ak, s.b.al, yk, h.gd.rk, cyd_up h.gd.cw hW, cyd_up h.gd.cy ⟨kn, by omega, ekn⟩, cyf_up h.gd.cf ⟨nu 0, n0, rfl⟩, cyd_up h.gd.cd s.dk, h.gd.tk⟩, (ke _ (by omega) (by omega) (by omega) (by omega) (by omega)).trans h.v0, (ke _ (by omega) (by omega) (by omega) (by omega) (by omega)).trans h.v1, (ke _ (by omega) (by omega) (by omega) (by omega) (by omega)).trans h.v2, (ke _ (by omega) (by omega) (by omega) (by omega) (by omega)).trans h.v3, (ke _ (by omega) (by omega) (by omega) (by omega) (by omega)).trans h.v4, upd_s, (ke _ (by omega) (by omega) (by omega) (by omega) (by omega)).trans h.v6, (ke _ (by omega) (by omega) (by omega) (by omega) (by omega)).trans h.v7, e8, e9, fun j hj => (bed _ (by omega) (by omega)).trans (s.lo j hj), fun j hj => (bed _ (by omega) (by omega)).trans (s.ag j hj), yn, fun j hj => have hj : j < nu 1 := hj; (ke _ (by omega) (by omega) (by omega) (by omega) (by omega)).trans (h.ro j hj), co_up (d := 0) (fun c hc => (oldc _ (by omega) (by omega)).trans (h.cw c hc)) c0, co_up (d := 1) (fun c hc => (oldc _ (by omega) (by omega)).trans (h.cf c hc)) c1, co_up (d := 2) (fun c hc => (oldc _ (by omega) (by omega)).trans (h.cy c hc)) c2, co_up (d := 3) (fun c hc => (oldc _ (by omega) (by omega)).trans (h.cd c hc)) c3⟩

theorem zyu_ac {mu : Nat → Nat → Int32} {nu : Nat → Nat} : ∀ k, zyu (mu 6) (nu 0) (znd (zrf (mu 7) (nu 1) (nu 2)) (mu 0) (mu 1) (mu 8 0) (mu 8 1) (mu 8 2)) k (nu 0) = zyl (zrf (mu 7) (nu 1) (nu 2)) (mu 0) (mu 1) (mu 8 0) (mu 8 1) (mu 8 2) ((mu 6) (nu 0)) k
  | 0 => rfl
  | k + 1 => by
    simp only [zyu, zyl]
    rw [upd_s, zyu_ac k]
set_option maxRecDepth 100000 in
theorem st_courses {mu : Nat → Nat → Int32} {nu : Nat → Nat} {v : Nat → Int32} (h : zSt mu nu v) : ∀ k, (∀ j, j < k → (fun j => zrc ((nu 2) + j) (znd (zrf (mu 7) (nu 1) (nu 2)) (mu 0) (mu 1) (mu 8 0) (mu 8 1) (mu 8 2) j) (zyl (zrf (mu 7) (nu 1) (nu 2)) (mu 0) (mu 1) (mu 8 0) (mu 8 1) (mu 8 2) ((mu 6) (nu 0)) j)) j = 0) → zSt (zmk (zahL (zrf (mu 7) (nu 1) (nu 2)) (mu 0) (mu 1) (mu 8 0) (mu 8 1) k) (zahA (zrf (mu 7) (nu 1) (nu 2)) (mu 0) (mu 1) (mu 8 0) (mu 8 1) k) (zup (mu 2) (nu 2) (zwi (zrf (mu 7) (nu 1) (nu 2)) (mu 0) (mu 1) (mu 8 0) (mu 8 1)) k) (zup (mu 3) (nu 2) (znd (zrf (mu 7) (nu 1) (nu 2)) (mu 0) (mu 1) (mu 8 0) (mu 8 1) (mu 8 2)) k) (zup (mu 4) (nu 2) (fun _ => nI (nu 0)) k) (zup (mu 5) (nu 2) (zdi (zrf (mu 7) (nu 1) (nu 2)) (mu 0) (mu 1) (mu 8 0) (mu 8 1)) k) (zyu (mu 6) (nu 0) (znd (zrf (mu 7) (nu 1) (nu 2)) (mu 0) (mu 1) (mu 8 0) (mu 8 1) (mu 8 2)) k) (mu 7) (mu 8 0) (mu 8 1) (mu 8 2) (mu 8 3) (mu 8 4) (zac (mu 8 5) (znd (zrf (mu 7) (nu 1) (nu 2)) (mu 0) (mu 1) (mu 8 0) (mu 8 1) (mu 8 2)) k) (zac (mu 8 6) (zdi (zrf (mu 7) (nu 1) (nu 2)) (mu 0) (mu 1) (mu 8 0) (mu 8 1)) k)) (znk (nu 0) (nu 1) (nu 2 + k)) (zkV6 v (nu 0) (nu 1) (nu 2) k)
  | 0, _ => ⟨⟨h.gd.n0, h.gd.n1, h.gd.n2, h.gd.wk, h.gd.hk, h.gd.hd, h.gd.lk, h.gd.lw, h.gd.ak, h.gd.al, h.gd.yk, h.gd.rk, h.gd.cw, h.gd.cy, h.gd.cf, h.gd.cd, h.gd.tk⟩, h.v0, h.v1, h.v2, h.v3, h.v4, h.v5, h.v6, h.v7, h.v8, h.v9, h.lo, h.ag, h.yn, h.ro, h.cw, h.cf, h.cy, h.cd⟩
  | k + 1, hk => by
    have ih := st_courses h k (fun j hj => hk j (by omega))
    have hz := hk k (by omega)
    have hr : zrc (nu 2 + k) (znd (zrf (mu 7) (nu 1) (nu 2)) (mu 0) (mu 1) (mu 8 0) (mu 8 1) (mu 8 2) k) (zyu (mu 6) (nu 0) (znd (zrf (mu 7) (nu 1) (nu 2)) (mu 0) (mu 1) (mu 8 0) (mu 8 1) (mu 8 2)) k (nu 0)) = 0 := by
      rw [zyu_ac k]
      exact hz
    have r := st_course ih hr
    rw [zahL_s, zahA_s]
    simp only [zup, zyu, zac, zkV6]
    exact r
theorem zrc6_eq {mu : Nat → Nat → Int32} {nu : Nat → Nat} {v : Nat → Int32} (h : zSt mu nu v) {k : Nat} (hk : ∀ j, j < k → (fun j => zrc ((nu 2) + j) (znd (zrf (mu 7) (nu 1) (nu 2)) (mu 0) (mu 1) (mu 8 0) (mu 8 1) (mu 8 2) j) (zyl (zrf (mu 7) (nu 1) (nu 2)) (mu 0) (mu 1) (mu 8 0) (mu 8 1) (mu 8 2) ((mu 6) (nu 0)) j)) j = 0) (h30 : nu 2 + k ≤ 30) : zrc6 (zkV6 v (nu 0) (nu 1) (nu 2) k) (nu 0) (nu 1) (nu 2 + k) = (fun j => zrc ((nu 2) + j) (znd (zrf (mu 7) (nu 1) (nu 2)) (mu 0) (mu 1) (mu 8 0) (mu 8 1) (mu 8 2) j) (zyl (zrf (mu 7) (nu 1) (nu 2)) (mu 0) (mu 1) (mu 8 0) (mu 8 1) (mu 8 2) ((mu 6) (nu 0)) j)) k ∧ (¬ (fun j => zrc ((nu 2) + j) (znd (zrf (mu 7) (nu 1) (nu 2)) (mu 0) (mu 1) (mu 8 0) (mu 8 1) (mu 8 2) j) (zyl (zrf (mu 7) (nu 1) (nu 2)) (mu 0) (mu 1) (mu 8 0) (mu 8 1) (mu 8 2) ((mu 6) (nu 0)) j)) k = 0 → zdc6 (zkV6 v (nu 0) (nu 1) (nu 2) k) (nu 1) (nu 2 + k) = zrcd (nu 2 + k) (znd (zrf (mu 7) (nu 1) (nu 2)) (mu 0) (mu 1) (mu 8 0) (mu 8 1) (mu 8 2) k) (zyl (zrf (mu 7) (nu 1) (nu 2)) (mu 0) (mu 1) (mu 8 0) (mu 8 1) (mu 8 2) ((mu 6) (nu 0)) k) 0) ∧ zwd6 (zkV6 v (nu 0) (nu 1) (nu 2) k) (nu 1) (nu 2 + k) 24 = zwi (zrf (mu 7) (nu 1) (nu 2)) (mu 0) (mu 1) (mu 8 0) (mu 8 1) k := by
  have s := st_courses h k hk
  have eW : zwd6 (zkV6 v (nu 0) (nu 1) (nu 2) k) (nu 1) (nu 2 + k) 24 = zwi (zrf (mu 7) (nu 1) (nu 2)) (mu 0) (mu 1) (mu 8 0) (mu 8 1) k := zwd_eq s 24 (Nat.le_refl 24)
  have e3 : zkV6 v (nu 0) (nu 1) (nu 2) k 3 = mu 8 2 := s.v3
  have ey : zkV6 v (nu 0) (nu 1) (nu 2) k (58 + nu 0) = zyl (zrf (mu 7) (nu 1) (nu 2)) (mu 0) (mu 1) (mu 8 0) (mu 8 1) (mu 8 2) ((mu 6) (nu 0)) k := (s.yn _ h.gd.n0).trans (zyu_ac k)
  have eN : zwi (zrf (mu 7) (nu 1) (nu 2)) (mu 0) (mu 1) (mu 8 0) (mu 8 1) k * mu 8 2 = znd (zrf (mu 7) (nu 1) (nu 2)) (mu 0) (mu 1) (mu 8 0) (mu 8 1) (mu 8 2) k := rfl
  obtain ⟨kn, hkn, ekn, kz⟩ := nd_k (wd_k (lo := zahL (zrf (mu 7) (nu 1) (nu 2)) (mu 0) (mu 1) (mu 8 0) (mu 8 1) k) (wk := mu 8 0) (hd := mu 8 1) (row := zrow (mu 7) (nu 1) (nu 2 + k))) h.gd.tk
  have nz : zwi (zrf (mu 7) (nu 1) (nu 2)) (mu 0) (mu 1) (mu 8 0) (mu 8 1) k = 0 ↔ znd (zrf (mu 7) (nu 1) (nu 2)) (mu 0) (mu 1) (mu 8 0) (mu 8 1) (mu 8 2) k = 0 := by
    refine kz.symm.trans ?_
    rw [show znd (zrf (mu 7) (nu 1) (nu 2)) (mu 0) (mu 1) (mu 8 0) (mu 8 1) (mu 8 2) k = nI kn from ekn]
    exact (nI_eq (a := kn) (b := 0) (by omega) (by decide)).symm
  have e1 : zrc6 (zkV6 v (nu 0) (nu 1) (nu 2) k) (nu 0) (nu 1) (nu 2 + k) = (fun j => zrc ((nu 2) + j) (znd (zrf (mu 7) (nu 1) (nu 2)) (mu 0) (mu 1) (mu 8 0) (mu 8 1) (mu 8 2) j) (zyl (zrf (mu 7) (nu 1) (nu 2)) (mu 0) (mu 1) (mu 8 0) (mu 8 1) (mu 8 2) ((mu 6) (nu 0)) j)) k := by
    show _ = zrc _ _ _
    unfold zrc6 zrc
    rw [eW, e3, ey, eN]
    by_cases q : nu 2 + k = 30
    · rw [if_pos q, if_pos (show 30 ≤ nu 2 + k by omega)]
    · rw [if_neg q, if_neg (show ¬ 30 ≤ nu 2 + k by omega)]
      by_cases r : zwi (zrf (mu 7) (nu 1) (nu 2)) (mu 0) (mu 1) (mu 8 0) (mu 8 1) k = 0
      · rw [if_pos r, if_pos (nz.mp r)]
      · rw [if_neg r, if_neg (fun z => r (nz.mpr z))]
  refine ⟨e1, fun n => ?_, eW⟩
  have n : ¬ zrc (nu 2 + k) (znd (zrf (mu 7) (nu 1) (nu 2)) (mu 0) (mu 1) (mu 8 0) (mu 8 1) (mu 8 2) k) (zyl (zrf (mu 7) (nu 1) (nu 2)) (mu 0) (mu 1) (mu 8 0) (mu 8 1) (mu 8 2) ((mu 6) (nu 0)) k) = 0 := n
  unfold zdc6 zrcd
  unfold zrc at n
  rw [eW, e3, eN]
  by_cases q : nu 2 + k = 30
  · rw [if_pos q, if_pos (show 30 ≤ nu 2 + k by omega)]
  · rw [if_neg (show ¬ 30 ≤ nu 2 + k by omega)] at n
    rw [if_neg q, if_neg (show ¬ 30 ≤ nu 2 + k by omega)]
    by_cases r : zwi (zrf (mu 7) (nu 1) (nu 2)) (mu 0) (mu 1) (mu 8 0) (mu 8 1) k = 0
    · rw [if_pos r, if_pos (nz.mp r)]
    · rw [if_neg (fun z => r (nz.mpr z))] at n
      rw [if_neg r, if_neg (fun z => r (nz.mpr z))]
      by_cases t : znd (zrf (mu 7) (nu 1) (nu 2)) (mu 0) (mu 1) (mu 8 0) (mu 8 1) (mu 8 2) k ≤ zyl (zrf (mu 7) (nu 1) (nu 2)) (mu 0) (mu 1) (mu 8 0) (mu 8 1) (mu 8 2) ((mu 6) (nu 0)) k
      · rw [if_pos t] at n; exact absurd rfl n
      · rw [if_neg t]
theorem zca_spec {f : Nat → Int32} : ∀ n k, k ≤ zca f n k ∧ zca f n k ≤ k + n ∧ (∀ i, k ≤ i → i < zca f n k → f i = 0) ∧ (zca f n k < k + n → ¬ f (zca f n k) = 0)
  | 0, k => ⟨Nat.le_refl k, Nat.le_refl k, fun i h1 h2 => by have h2 : i < k := h2; omega, fun z => absurd z (by show ¬ k < k + 0; omega)⟩
  | n + 1, k => by
    by_cases q : f k = 0
    · have e : zca f (n + 1) k = zca f n (k + 1) := by simp only [zca]; rw [if_pos q]
      obtain ⟨h1, h2, h3, h4⟩ := zca_spec (f := f) n (k + 1)
      rw [e]
      refine ⟨by omega, by omega, fun i i1 i2 => ?_, fun z => h4 (by omega)⟩
      by_cases r : i = k
      · rw [r]; exact q
      · exact h3 i (by omega) i2
    · have e : zca f (n + 1) k = k := by simp only [zca]; rw [if_neg q]
      rw [e]
      exact ⟨Nat.le_refl k, by omega, fun i i1 i2 => by omega, fun _ => q⟩
theorem zkW6_eq {mu : Nat → Nat → Int32} {nu : Nat → Nat} {v : Nat → Int32} (h : zSt mu nu v) : ∀ k, (∀ j, j < k → (fun j => zrc ((nu 2) + j) (znd (zrf (mu 7) (nu 1) (nu 2)) (mu 0) (mu 1) (mu 8 0) (mu 8 1) (mu 8 2) j) (zyl (zrf (mu 7) (nu 1) (nu 2)) (mu 0) (mu 1) (mu 8 0) (mu 8 1) (mu 8 2) ((mu 6) (nu 0)) j)) j = 0) → nu 2 + k ≤ 30 → zkW6 v (nu 0) (nu 1) (nu 2) k = zst (zrf (mu 7) (nu 1) (nu 2)) (mu 0) (mu 1) (mu 8 0) (mu 8 1) k
  | 0, _, _ => rfl
  | k + 1, hk, h3 => by
    simp only [zkW6, zst]
    rw [zkW6_eq h k (fun j hj => hk j (by omega)) (by omega), (zrc6_eq h (k := k) (fun j hj => hk j (by omega)) (by omega)).2.2]
    rfl

theorem arm_coursesPossible {G : zG} (hg : zGW G) {l : Launch} (hfl : l.stackTraces = false) {D : va_G} {cy : Nat → ClassId} {ad qn qt qs : Nat → Nat} {qh : Nat → Nat → Nat} {bd : Nat → Nat} {xs : Nat → Int32} {i : Nat} {A : zPX} {B : zPM} (h : zRI A B) : zArmD G D cy l (zIn cy ad qn qt qs qh bd) yX5_coursesPossible wsX5_coursesPossible [.ref (ad 0)] yX6_coursesPossible wsX6_coursesPossible [.ref (bd 0)] (A.w cy ad qn qt qs qh) (B.w cy bd) := by
  obtain ⟨z1, z2, z3, z4⟩ := zca_spec (f := (fun j => zrc ((A.nu 2) + j) (znd (zrf (A.mu 7) (A.nu 1) (A.nu 2)) (A.mu 0) (A.mu 1) (A.mu 8 0) (A.mu 8 1) (A.mu 8 2) j) (zyl (zrf (A.mu 7) (A.nu 1) (A.nu 2)) (A.mu 0) (A.mu 1) (A.mu 8 0) (A.mu 8 1) (A.mu 8 2) ((A.mu 6) (A.nu 0)) j))) 30 0
  generalize ez : zca (fun j => zrc ((A.nu 2) + j) (znd (zrf (A.mu 7) (A.nu 1) (A.nu 2)) (A.mu 0) (A.mu 1) (A.mu 8 0) (A.mu 8 1) (A.mu 8 2) j) (zyl (zrf (A.mu 7) (A.nu 1) (A.nu 2)) (A.mu 0) (A.mu 1) (A.mu 8 0) (A.mu 8 1) (A.mu 8 2) ((A.mu 6) (A.nu 0)) j)) 30 0 = z at z1 z2 z3 z4
  have hn2 := h.cur.gd.n2
  have h30 : A.nu 2 + z ≤ 30 := by
    by_cases q : z = 0
    · omega
    · have := (zrc_0 (z3 (z - 1) (Nat.zero_le _) (by omega))).1
      omega
  have e1 := zrc6_eq h.cur (k := z) (fun j hj => z3 j (Nat.zero_le j) hj) h30
  have hz : ¬ (fun j => zrc ((A.nu 2) + j) (znd (zrf (A.mu 7) (A.nu 1) (A.nu 2)) (A.mu 0) (A.mu 1) (A.mu 8 0) (A.mu 8 1) (A.mu 8 2) j) (zyl (zrf (A.mu 7) (A.nu 1) (A.nu 2)) (A.mu 0) (A.mu 1) (A.mu 8 0) (A.mu 8 1) (A.mu 8 2) ((A.mu 6) (A.nu 0)) j)) z = 0 := by
    by_cases q : z < 30
    · exact z4 (by omega)
    · show ¬ zrc _ _ _ = 0
      intro w
      have := (zrc_0 w).1
      omega
  exact zAD (C_X5_coursesPossible hg.1.1.1.1 l D cy ad qn qt qs qh _ _ _ _ _ _ _ _ _ _ _ _ _ _ _ _ _ _ _ _ _ _ _ _ _ _ _ _ _ _ _ _ _ _ _ _ _ _ _ _ _ _ h.cur.gd.n1 h.cur.gd.n0 h.cur.gd.n2) (C_X6_coursesPossible hg.1.1.1.1 l D cy bd _ _ _ _ _ _ _ _ _ _ _ _ _ _ _ _ _ _ _ _ _ _ _ _ _ h.cur.v2 h.cur.v4 h.cur.v5 h.cur.gd.n1 h.cur.gd.n0 h.cur.gd.n2 h30 (fun i hi => (zrc6_eq h.cur (k := i) (fun j hj => z3 j (Nat.zero_le j) (by omega)) (by omega)).1.trans (z3 i (Nat.zero_le i) hi)) (fun w => hz (e1.1.symm.trans w))) (congrArg nI ez) (zIn.mk' ⟨h.cur, h.sno, h.sns, h.his, h.rea, h.txt, h.out⟩)

theorem arm_knit {G : zG} (hg : zGW G) {l : Launch} (hfl : l.stackTraces = false) {D : va_G} {cy : Nat → ClassId} {ad qn qt qs : Nat → Nat} {qh : Nat → Nat → Nat} {bd : Nat → Nat} {xs : Nat → Int32} {i : Nat} {A : zPX} {B : zPM} (h : zRI A B) : zArmS G D cy l (zIn cy ad qn qt qs qh bd) (bd 0) yL_knit wsL_knit [.ref (ad 0), .int (xs (i + 1)), .ref (ad 12)] yX6_knit wsX6_knit [.ref (bd 0), .int (xs (i + 1))] (fun w' b => zOut (ad 12) cy w' b.toInt64) (A.w cy ad qn qt qs qh) (B.w cy bd) := by
  cases hu : zic 1 10 (xs (i + 1))
  · exact zAS (C_L_knit_inv hg l hfl D cy ad qn qt qs qh _ _ _ _ _ _ _ _ _ _ _ _ _ _ _ _ _ _ _ _ _ _ _ _ _ _ _ _ _ _ _ _ _ _ _ _ _ _ _ _ _ _ _ hu) (C_X6_knit_f1 hg.1.1.1.1 l D cy bd _ _ _ _ _ _ _ _ _ _ _ _ _ _ _ _ _ _ _ _ _ _ hu) (C_X6_thrown hg.1.1.1.1 l D cy bd _ _ _ _ _ _ _ _ _ _ _ _ _ _ _ _ _ _ _ _ _) (fun z => absurd z (by decide)) (zIn.mk' ⟨h.cur, h.sno, h.sns, h.his, h.rea, h.txt, h.out⟩)
  · obtain ⟨q, h1, h2, eq⟩ := q10 hu
    rw [eq]
    obtain ⟨z1, z2, z3, z4⟩ := zca_spec (f := (fun j => zrc ((A.nu 2) + j) (znd (zrf (A.mu 7) (A.nu 1) (A.nu 2)) (A.mu 0) (A.mu 1) (A.mu 8 0) (A.mu 8 1) (A.mu 8 2) j) (zyl (zrf (A.mu 7) (A.nu 1) (A.nu 2)) (A.mu 0) (A.mu 1) (A.mu 8 0) (A.mu 8 1) (A.mu 8 2) ((A.mu 6) (A.nu 0)) j))) q 0
    have hn2 := h.cur.gd.n2
    have h30 : A.nu 2 + zca (fun j => zrc ((A.nu 2) + j) (znd (zrf (A.mu 7) (A.nu 1) (A.nu 2)) (A.mu 0) (A.mu 1) (A.mu 8 0) (A.mu 8 1) (A.mu 8 2) j) (zyl (zrf (A.mu 7) (A.nu 1) (A.nu 2)) (A.mu 0) (A.mu 1) (A.mu 8 0) (A.mu 8 1) (A.mu 8 2) ((A.mu 6) (A.nu 0)) j)) q 0 ≤ 30 := by
      by_cases qz : zca (fun j => zrc ((A.nu 2) + j) (znd (zrf (A.mu 7) (A.nu 1) (A.nu 2)) (A.mu 0) (A.mu 1) (A.mu 8 0) (A.mu 8 1) (A.mu 8 2) j) (zyl (zrf (A.mu 7) (A.nu 1) (A.nu 2)) (A.mu 0) (A.mu 1) (A.mu 8 0) (A.mu 8 1) (A.mu 8 2) ((A.mu 6) (A.nu 0)) j)) q 0 = 0
      · omega
      · have := (zrc_0 (z3 (zca (fun j => zrc ((A.nu 2) + j) (znd (zrf (A.mu 7) (A.nu 1) (A.nu 2)) (A.mu 0) (A.mu 1) (A.mu 8 0) (A.mu 8 1) (A.mu 8 2) j) (zyl (zrf (A.mu 7) (A.nu 1) (A.nu 2)) (A.mu 0) (A.mu 1) (A.mu 8 0) (A.mu 8 1) (A.mu 8 2) ((A.mu 6) (A.nu 0)) j)) q 0 - 1) (Nat.zero_le _) (by omega))).1
        omega
    have hr : ∀ k, k ≤ zca (fun j => zrc ((A.nu 2) + j) (znd (zrf (A.mu 7) (A.nu 1) (A.nu 2)) (A.mu 0) (A.mu 1) (A.mu 8 0) (A.mu 8 1) (A.mu 8 2) j) (zyl (zrf (A.mu 7) (A.nu 1) (A.nu 2)) (A.mu 0) (A.mu 1) (A.mu 8 0) (A.mu 8 1) (A.mu 8 2) ((A.mu 6) (A.nu 0)) j)) q 0 → ∀ i, i < k → zrc6 (zkV6 B.v (A.nu 0) (A.nu 1) (A.nu 2) i) (A.nu 0) (A.nu 1) (A.nu 2 + i) = 0 := fun k hk i hi => (zrc6_eq h.cur (k := i) (fun j hj => z3 j (Nat.zero_le j) (by omega)) (by omega)).1.trans (z3 i (Nat.zero_le i) (by omega))
    by_cases hz : zca (fun j => zrc ((A.nu 2) + j) (znd (zrf (A.mu 7) (A.nu 1) (A.nu 2)) (A.mu 0) (A.mu 1) (A.mu 8 0) (A.mu 8 1) (A.mu 8 2) j) (zyl (zrf (A.mu 7) (A.nu 1) (A.nu 2)) (A.mu 0) (A.mu 1) (A.mu 8 0) (A.mu 8 1) (A.mu 8 2) ((A.mu 6) (A.nu 0)) j)) q 0 < q
    · have n0 := z4 (by omega)
      have e0 := zrc6_eq h.cur (k := zca (fun j => zrc ((A.nu 2) + j) (znd (zrf (A.mu 7) (A.nu 1) (A.nu 2)) (A.mu 0) (A.mu 1) (A.mu 8 0) (A.mu 8 1) (A.mu 8 2) j) (zyl (zrf (A.mu 7) (A.nu 1) (A.nu 2)) (A.mu 0) (A.mu 1) (A.mu 8 0) (A.mu 8 1) (A.mu 8 2) ((A.mu 6) (A.nu 0)) j)) q 0) (fun j hj => z3 j (Nat.zero_le j) hj) h30
      have ek : zrK (A.nu 2) q (zca (fun j => zrc ((A.nu 2) + j) (znd (zrf (A.mu 7) (A.nu 1) (A.nu 2)) (A.mu 0) (A.mu 1) (A.mu 8 0) (A.mu 8 1) (A.mu 8 2) j) (zyl (zrf (A.mu 7) (A.nu 1) (A.nu 2)) (A.mu 0) (A.mu 1) (A.mu 8 0) (A.mu 8 1) (A.mu 8 2) ((A.mu 6) (A.nu 0)) j)) q 0) (znd (zrf (A.mu 7) (A.nu 1) (A.nu 2)) (A.mu 0) (A.mu 1) (A.mu 8 0) (A.mu 8 1) (A.mu 8 2) (zca (fun j => zrc ((A.nu 2) + j) (znd (zrf (A.mu 7) (A.nu 1) (A.nu 2)) (A.mu 0) (A.mu 1) (A.mu 8 0) (A.mu 8 1) (A.mu 8 2) j) (zyl (zrf (A.mu 7) (A.nu 1) (A.nu 2)) (A.mu 0) (A.mu 1) (A.mu 8 0) (A.mu 8 1) (A.mu 8 2) ((A.mu 6) (A.nu 0)) j)) q 0)) (zyl (zrf (A.mu 7) (A.nu 1) (A.nu 2)) (A.mu 0) (A.mu 1) (A.mu 8 0) (A.mu 8 1) (A.mu 8 2) ((A.mu 6) (A.nu 0)) (zca (fun j => zrc ((A.nu 2) + j) (znd (zrf (A.mu 7) (A.nu 1) (A.nu 2)) (A.mu 0) (A.mu 1) (A.mu 8 0) (A.mu 8 1) (A.mu 8 2) j) (zyl (zrf (A.mu 7) (A.nu 1) (A.nu 2)) (A.mu 0) (A.mu 1) (A.mu 8 0) (A.mu 8 1) (A.mu 8 2) ((A.mu 6) (A.nu 0)) j)) q 0)) = (fun j => zrc ((A.nu 2) + j) (znd (zrf (A.mu 7) (A.nu 1) (A.nu 2)) (A.mu 0) (A.mu 1) (A.mu 8 0) (A.mu 8 1) (A.mu 8 2) j) (zyl (zrf (A.mu 7) (A.nu 1) (A.nu 2)) (A.mu 0) (A.mu 1) (A.mu 8 0) (A.mu 8 1) (A.mu 8 2) ((A.mu 6) (A.nu 0)) j)) (zca (fun j => zrc ((A.nu 2) + j) (znd (zrf (A.mu 7) (A.nu 1) (A.nu 2)) (A.mu 0) (A.mu 1) (A.mu 8 0) (A.mu 8 1) (A.mu 8 2) j) (zyl (zrf (A.mu 7) (A.nu 1) (A.nu 2)) (A.mu 0) (A.mu 1) (A.mu 8 0) (A.mu 8 1) (A.mu 8 2) ((A.mu 6) (A.nu 0)) j)) q 0) := if_pos hz
      exact zAS (C_L_knit_bad hg l hfl D cy ad qn qt qs qh _ _ _ _ _ _ _ _ _ _ _ _ _ _ _ _ _ _ _ _ _ _ _ _ _ _ _ _ _ _ _ _ _ _ _ _ _ _ _ _ _ _ _ h.cur.gd.n1 h.cur.gd.n0 h.cur.gd.n2 (by omega) (fun z => n0 (ek.symm.trans z)) h1 h2) (C_X6_knit_rej hg.1.1.1.1 l D cy bd _ _ _ _ _ _ _ _ _ _ _ _ _ _ _ _ _ _ _ _ _ _ _ _ _ _ h.cur.v2 h.cur.v4 h.cur.v5 h.cur.gd.n1 h.cur.gd.n0 h.cur.gd.n2 h1 h2 hz h30 (hr _ (Nat.le_refl _)) (fun z => n0 (e0.1.symm.trans z))) (C_X6_thrown hg.1.1.1.1 l D cy bd _ _ _ _ _ _ _ _ _ _ _ _ _ _ _ _ _ _ _ _ _) (fun z => absurd z (by decide)) (zIn.mk' ⟨h.cur, h.sno, h.sns, h.his, h.rea.rej (e0.1.trans ek.symm) (e0.2.1 n0) (fun z => zrc_15 (ek.symm.trans z)), h.txt, h.out⟩)
    · have e9 : zca (fun j => zrc ((A.nu 2) + j) (znd (zrf (A.mu 7) (A.nu 1) (A.nu 2)) (A.mu 0) (A.mu 1) (A.mu 8 0) (A.mu 8 1) (A.mu 8 2) j) (zyl (zrf (A.mu 7) (A.nu 1) (A.nu 2)) (A.mu 0) (A.mu 1) (A.mu 8 0) (A.mu 8 1) (A.mu 8 2) ((A.mu 6) (A.nu 0)) j)) q 0 = q := by omega
      rw [e9] at h30 z3
      exact zAS (C_L_knit_ok hg l hfl D cy ad qn qt qs qh _ _ _ _ _ _ _ _ _ _ _ _ _ _ _ _ _ _ _ _ _ _ _ _ _ _ _ _ _ _ _ _ _ _ _ _ _ _ _ _ _ _ _ h.cur.gd.n1 h.cur.gd.n0 h.cur.gd.n2 (by omega) h30 (if_neg hz) h.his.nl h.his.hl h1 h2) (C_X6_knit_ok hg.1.1.1.1 l D cy bd _ _ _ _ _ _ _ _ _ _ _ _ _ _ _ _ _ _ _ _ _ _ _ _ _ h.cur.v2 h.cur.v4 h.cur.v5 h.cur.gd.n1 h.cur.gd.n0 h.cur.gd.n2 h1 h2 h30 (hr q (by omega)) (by rw [h.his.ce]; exact h.his.hl)) (C_X6_thrown hg.1.1.1.1 l D cy bd _ _ _ _ _ _ _ _ _ _ _ _ _ _ _ _ _ _ _ _ _) (fun _ => zo1 (congrArg Int32.toInt64 (zkW6_eq h.cur q (fun j hj => z3 j (Nat.zero_le j) hj) h30).symm)) (zIn.mk' ⟨(st_courses h.cur q (fun j hj => z3 j (Nat.zero_le j) hj)), h.sno, h.sns, h.his.push h.cur, h.rea, h.txt, h.out⟩)

theorem zo2 {cy : Nat → ClassId} {ad qn qt qs : Nat → Nat} {qh : Nat → Nat → Nat} {mu : Nat → Nat → Int32} {nu : Nat → Nat} {rdt : Int32} {rrs : Int32} {tm : Nat → Nat → Int32} {tn : Nat → Nat} {trd : Int32} {trr : Int32} {sm : Nat → Nat → Int32} {sn : Nat → Nat} {srd : Int32} {srr : Int32} {alo : Nat → Int32} {aag : Nat → Int32} {awk : Int32} {ahd : Int32} {nx : Nat} {hc : Nat} {hm : Nat → Nat → Nat → Int32} {hn : Nat → Nat → Nat} {ss : Int32} {lse : Int32} {lre : Int32} {lde : Int32} {lca : Int32} {kc : Nat} {he : Nat} {oo : Nat → Int32} {fi : Nat → Int32} {se : Nat → Int32} {b8 : Nat} {mm : Nat} {ml : Int32} {nn : Nat} {bx : Nat → Int32} {c8 : Nat} {om : Nat} {oml : Int32} {on : Nat} {ox : Nat → Int32} {lo1 : Nat → Int64} {lo2 : Nat → UInt64} {z : UInt64} {P : UInt64 → Prop} (hp : P z) : zOutD (ad 13) cy (wX cy ad qn qt qs qh mu nu rdt rrs tm tn trd trr sm sn srd srr alo aag awk ahd nx hc hm hn ss lse lre lde lca kc he oo fi se b8 mm ml nn bx c8 om oml on ox lo1 (vf_upd lo2 (0 : Int32).toNatClampNeg z)) P := ⟨_, rfl, by rw [show vf_upd lo2 (0 : Int32).toNatClampNeg z (0 : Int32).toNatClampNeg = z from if_pos rfl]; exact hp⟩
theorem zADb {G : zG} {D : va_G} {cy : Nat → ClassId} {l : Launch} {I : va_W → va_W → Prop} {x9 : Nat} {yL : MethodName} {wsL : List Cond} {asL : List Value} {yM : MethodName} {wsM : List Cond} {asM : List Value} {Out : va_W → UInt64 → Prop} {w m W2 M2 : va_W} {k0 : Int32} {b0 : UInt64}
    (hL : zC G D vwCl (zT cy) l yL wsL rmBX asL w (fun w2 o2 => w2 = W2 ∧ o2 = some (.int k0)) 2 96) (hM : zC G D vwCl (zT cy) l yM wsM rmBM asM m (fun m2 o2 => m2 = M2 ∧ o2 = some (.double b0)) 0 0) (ht : zThr G D cy l x9 M2 k0) (ho : k0 = 0 → Out W2 b0) (hI : I W2 M2) : zArmDb G D cy l I x9 yL wsL asL yM wsM asM Out w m :=
  ⟨fun w' k => w' = W2 ∧ k = k0, fun m' b => m' = M2 ∧ b = b0, hL.mono (fun w2 o2 h => ⟨w2, ⟨k0, h.2, h.1, rfl⟩, .rf⟩) (Nat.le_refl _) (Nat.le_refl _) (Nat.le_refl _) (Nat.le_refl _) (Nat.le_refl _) (Nat.le_refl _), hM.mono (fun m2 o2 h => ⟨m2, ⟨b0, h.2, h.1, rfl⟩, .rf⟩) (Nat.le_refl _) (Nat.le_refl _) (Nat.le_refl _) (Nat.le_refl _) (Nat.le_refl _) (Nat.le_refl _), fun w' k m' b h1 h2 => by
    obtain ⟨rfl, rfl⟩ := h1
    obtain ⟨rfl, rfl⟩ := h2
    exact ⟨ht, ho, hI⟩⟩
theorem zAFl {G : zG} {D : va_G} {cy : Nat → ClassId} {l : Launch} {I : va_W → va_W → Prop} {x9 : Nat} {yL : MethodName} {wsL : List Cond} {asL : List Value} {yM : MethodName} {wsM : List Cond} {asM : List Value} {Out : va_W → UInt32 → Prop} {w m W2 M2 : va_W} {k0 : Int32} {b0 : UInt32}
    (hL : zC G D vwCl (zT cy) l yL wsL rmBX asL w (fun w2 o2 => w2 = W2 ∧ o2 = some (.int k0)) 2 96) (hM : zC G D vwCl (zT cy) l yM wsM rmBM asM m (fun m2 o2 => m2 = M2 ∧ o2 = some (.float b0)) 0 0) (ht : zThr G D cy l x9 M2 k0) (ho : k0 = 0 → Out W2 b0) (hI : I W2 M2) : zArmFl G D cy l I x9 yL wsL asL yM wsM asM Out w m :=
  ⟨fun w' k => w' = W2 ∧ k = k0, fun m' b => m' = M2 ∧ b = b0, hL.mono (fun w2 o2 h => ⟨w2, ⟨k0, h.2, h.1, rfl⟩, .rf⟩) (Nat.le_refl _) (Nat.le_refl _) (Nat.le_refl _) (Nat.le_refl _) (Nat.le_refl _) (Nat.le_refl _), hM.mono (fun m2 o2 h => ⟨m2, ⟨b0, h.2, h.1, rfl⟩, .rf⟩) (Nat.le_refl _) (Nat.le_refl _) (Nat.le_refl _) (Nat.le_refl _) (Nat.le_refl _) (Nat.le_refl _), fun w' k m' b h1 h2 => by
    obtain ⟨rfl, rfl⟩ := h1
    obtain ⟨rfl, rfl⟩ := h2
    exact ⟨ht, ho, hI⟩⟩

theorem fp_md : ∀ c, c < 31 → ∀ k, k < 24 * c + 1 → c = 0 ∨ ((FP.ddiv (FP.i2d (nI k)) (FP.i2d (nI c))) &&& 0x7fffffffffffffff ≤ 0x7ff0000000000000 ∧ Op.cmpValue (FP.dcmp (FP.ddiv (FP.i2d (nI k)) (FP.i2d (nI c))) (FP.ddiv (FP.i2d (nI k)) (FP.i2d (nI c)))) .l = 0) := by decide +kernel
theorem fp_ds : ∀ c, c < 25 → ∀ k, k < 25 → c = 0 ∨ ((FP.fdiv (FP.i2f (nI k)) (FP.i2f (nI c))) &&& 0x7fffffff ≤ 0x7f800000 ∧ (FP.f2d (FP.fdiv (FP.i2f (nI k)) (FP.i2f (nI c)))) &&& 0x7fffffffffffffff ≤ 0x7ff0000000000000 ∧ Op.cmpValue (FP.dcmp (FP.f2d (FP.fdiv (FP.i2f (nI k)) (FP.i2f (nI c)))) (FP.f2d (FP.fdiv (FP.i2f (nI k)) (FP.i2f (nI c))))) .l = 0) := by decide +kernel
theorem zsum_k {f : Nat → Int32} : ∀ n, (∀ c, c < n → ∃ k : Nat, k ≤ 24 ∧ f c = nI k) → ∃ k : Nat, k ≤ 24 * n ∧ zsum f n = nI k
  | 0, _ => ⟨0, Nat.le_refl _, rfl⟩
  | n + 1, h => by
    obtain ⟨a, ha, ea⟩ := zsum_k n (fun c hc => h c (by omega))
    obtain ⟨b, hb, eb⟩ := h n (by omega)
    refine ⟨a + b, by omega, ?_⟩
    simp only [zsum]
    rw [ea, eb, nI_add]
theorem zne6_ct {v : Nat → Int32} : ∀ n, zne6 v n = nI (fb_ct (fun k => zb (v 0) (nI k) && decide (v (10 + k) = 0)) n)
  | 0 => rfl
  | n + 1 => by
    simp only [zne6]
    rw [fb_ct_succ, zne6_ct n]
    by_cases q : (zb (v 0) (nI n) && decide (v (10 + n) = 0)) = true
    · rw [if_pos q, if_pos q, ← nI_add]; rfl
    · rw [if_neg q, if_neg q, Int32.add_zero, Nat.add_zero]
theorem wk_0 {m : Int32} (h : pm m) : zpop m = 0 ↔ m = 0 := by
  rw [pm_pop h]
  have h24 := fb_ct_le (fun i => zb m (nI i)) 24
  constructor
  · intro z
    have z0 := (nI_eq (a := fb_ct (fun i => zb m (nI i)) 24) (b := 0) (by omega) (by decide)).mp z
    refine b_ext fun i hi => ?_
    rw [b_0]
    by_cases q : i < 24
    · have := fb_ct_zero.mp z0 i q
      rw [zb_bt _ hi] at this; exact this
    · exact h i (by omega) hi
  · intro z
    have : fb_ct (fun i => zb m (nI i)) 24 = 0 := fb_ct_zero.mpr fun k hk => by
      rw [zb_bt _ (by omega), z, b_0]
    rw [this]; rfl
theorem dsh_eq {mu : Nat → Nat → Int32} {nu : Nat → Nat} {v : Nat → Int32} (h : zSt mu nu v) : zpop (mu 8 0 &&& (zlm (mu 0) 24 ^^^ (-1))) = zne6 v 24 := by
  rw [zne6_ct 24, pm_pop (pm_an1 h.gd.wk _)]
  congr 1
  refine fb_ct_cong fun i hi => ?_
  rw [h.v0, h.lo i hi, zb_bt _ (by omega), zb_bt _ (by omega), b_and, bt_not _ (by omega), zlm_bt (by omega) 24 (Nat.le_refl 24), decide_eq_true hi, Bool.true_and, Bool.not_not]
  congr 1
  obtain ⟨k, hk, e⟩ := h.gd.lk i hi
  rw [e]
  have h0 : (nI k ≤ 0) ↔ k ≤ 0 := nI_leI (a := k) (b := 0) (by omega) (by decide)
  have h1 : (nI k = 0) ↔ k = 0 := nI_eq (a := k) (b := 0) (by omega) (by decide)
  exact decide_eq_decide.mpr (by rw [h0, h1]; omega)

theorem arm_meanWidth {G : zG} (hg : zGW G) {l : Launch} (hfl : l.stackTraces = false) {D : va_G} {cy : Nat → ClassId} {ad qn qt qs : Nat → Nat} {qh : Nat → Nat → Nat} {bd : Nat → Nat} {xs : Nat → Int32} {i : Nat} {A : zPX} {B : zPM} (h : zRI A B) : zArmDb G D cy l (zIn cy ad qn qt qs qh bd) (bd 0) yL_meanWidth wsL_meanWidth [.ref (ad 0), .ref (ad 13)] yX6_meanWidth wsX6_meanWidth [.ref (bd 0)] (fun w' b => zOutD (ad 13) cy w' (fun x => x = b ∧ Op.cmpValue (FP.dcmp b b) .l = 0)) (A.w cy ad qn qt qs qh) (B.w cy bd) := by
  by_cases h0 : A.nu 2 = 0
  · exact zADb (C_L_meanWidth_bad hg l hfl D cy ad qn qt qs qh _ _ _ _ _ _ _ _ _ _ _ _ _ _ _ _ _ _ _ _ _ _ _ _ _ _ _ _ _ _ _ _ _ _ _ _ _ _ _ _ _ _ h0) (C_X6_meanWidth_bad hg.1.1.1.1 l D cy bd _ _ _ _ _ _ _ _ _ _ _ _ _ _ _ _ _ _ _ _ _ (by rw [h.cur.v5, h0]; rfl)) (C_X6_thrown hg.1.1.1.1 l D cy bd _ _ _ _ _ _ _ _ _ _ _ _ _ _ _ _ _ _ _ _ _) (fun z => absurd z (by decide)) (zIn.mk' ⟨h.cur, h.sno, h.sns, h.his, h.rea, h.txt, h.out⟩)
  · have e := zsc6_sum _ h.cur.cw
    obtain ⟨k, hk, ek⟩ := zsum_k _ h.cur.gd.cw
    have hn := h.cur.gd.n2
    have fp := (fp_md (A.nu 2) (by omega) k (by omega)).resolve_left h0
    rw [← ek] at fp
    exact zADb (C_L_meanWidth_ok hg l hfl D cy ad qn qt qs qh _ _ _ _ _ _ _ _ _ _ _ _ _ _ _ _ _ _ _ _ _ _ _ _ _ _ _ _ _ _ _ _ _ _ _ _ _ _ _ _ _ _ h.cur.gd.n2 (Nat.pos_of_ne_zero h0) fp.1) (C_X6_meanWidth_ok hg.1.1.1.1 l D cy bd _ _ _ _ _ _ _ _ _ _ _ _ _ _ _ _ _ _ _ _ _ _ h.cur.v5 h.cur.gd.n2 (Nat.pos_of_ne_zero h0) (by rw [e]; exact fp.1)) (C_X6_thrown hg.1.1.1.1 l D cy bd _ _ _ _ _ _ _ _ _ _ _ _ _ _ _ _ _ _ _ _ _) (fun _ => zo2 (by rw [e]; exact ⟨rfl, fp.2⟩)) (zIn.mk' ⟨h.cur, h.sno, h.sns, h.his, h.rea, h.txt, h.out⟩)

theorem arm_droppedShare {G : zG} (hg : zGW G) {l : Launch} (hfl : l.stackTraces = false) {D : va_G} {cy : Nat → ClassId} {ad qn qt qs : Nat → Nat} {qh : Nat → Nat → Nat} {bd : Nat → Nat} {xs : Nat → Int32} {i : Nat} {A : zPX} {B : zPM} (h : zRI A B) : zArmFl G D cy l (zIn cy ad qn qt qs qh bd) (bd 0) yL_droppedShare wsL_droppedShare [.ref (ad 0), .ref (ad 13)] yX6_droppedShare wsX6_droppedShare [.ref (bd 0)] (fun w' b => zOutD (ad 13) cy w' (fun x => vf_n64 (FP.f2d b) ∧ x = FP.f2d b ∧ Op.cmpValue (FP.dcmp (FP.f2d b) (FP.f2d b)) .l = 0)) (A.w cy ad qn qt qs qh) (B.w cy bd) := by
  have hw := wk_0 h.cur.gd.wk
  by_cases h0 : zpop (A.mu 8 0) = 0
  · exact zAFl (C_L_droppedShare_bad hg l hfl D cy ad qn qt qs qh _ _ _ _ _ _ _ _ _ _ _ _ _ _ _ _ _ _ _ _ _ _ _ _ _ _ _ _ _ _ _ _ _ _ _ _ _ _ _ _ _ _ h0) (C_X6_droppedShare_bad hg.1.1.1.1 l D cy bd _ _ _ _ _ _ _ _ _ _ _ _ _ _ _ _ _ _ _ _ _ (h.cur.v0.trans (hw.mp h0))) (C_X6_thrown hg.1.1.1.1 l D cy bd _ _ _ _ _ _ _ _ _ _ _ _ _ _ _ _ _ _ _ _ _) (fun z => absurd z (by decide)) (zIn.mk' ⟨h.cur, h.sno, h.sns, h.his, h.rea, h.txt, h.out⟩)
  · have e1 : zbc 40 (B.v 0) 0 = zpop (A.mu 8 0) := by rw [h.cur.v0]; exact pm_bc h.cur.gd.wk
    have e2 := dsh_eq h.cur
    have e3 := zne6_ct (v := B.v) 24
    have e4 := pm_pop h.cur.gd.wk
    have l1 := fb_ct_le (fun k => zb (B.v 0) (nI k) && decide (B.v (10 + k) = 0)) 24
    have l2 := fb_ct_le (fun i => zb (A.mu 8 0) (nI i)) 24
    have fp := (fp_ds (fb_ct (fun i => zb (A.mu 8 0) (nI i)) 24) (by omega) (fb_ct (fun k => zb (B.v 0) (nI k) && decide (B.v (10 + k) = 0)) 24) (by omega)).resolve_left (fun z => h0 (e4.trans (congrArg nI z)))
    rw [← e3, ← e4] at fp
    exact zAFl (C_L_droppedShare_ok hg l hfl D cy ad qn qt qs qh _ _ _ _ _ _ _ _ _ _ _ _ _ _ _ _ _ _ _ _ _ _ _ _ _ _ _ _ _ _ _ _ _ _ _ _ _ _ _ _ _ _ h0 (by rw [e2]; exact fp.1) (by rw [e2]; exact fp.2.1)) (C_X6_droppedShare_ok hg.1.1.1.1 l D cy bd _ _ _ _ _ _ _ _ _ _ _ _ _ _ _ _ _ _ _ _ _ (by rw [h.cur.v0]; exact pm_ok h.cur.gd.wk) (fun z => h0 (hw.mpr (h.cur.v0.symm.trans z))) (by rw [e1]; exact fp.1)) (C_X6_thrown hg.1.1.1.1 l D cy bd _ _ _ _ _ _ _ _ _ _ _ _ _ _ _ _ _ _ _ _ _) (fun _ => zo2 (by rw [e1, e2]; exact ⟨fp.2.1, rfl, fp.2.2⟩)) (zIn.mk' ⟨h.cur, h.sno, h.sns, h.his, h.rea, h.txt, h.out⟩)

theorem zADx {G : zG} {D : va_G} {cy : Nat → ClassId} {l : Launch} {I : va_W → va_W → Prop} {yL : MethodName} {wsL : List Cond} {asL : List Value} {yM : MethodName} {wsM : List Cond} {asM : List Value} {w m M2 : va_W} {W2 : Nat → va_W} {k0 b0 : Int32}
    (hL : zC G D vwCl (zT cy) l yL wsL rmBX asL w (fun w2 o2 => ∃ q9 : Nat, w2 = W2 q9 ∧ o2 = some (.int k0)) 2 96) (hM : zC G D vwCl (zT cy) l yM wsM rmBM asM m (fun m2 o2 => m2 = M2 ∧ o2 = some (.int b0)) 0 0) (he : k0 = b0) (hI : ∀ q, I (W2 q) M2) : zArmD G D cy l I yL wsL asL yM wsM asM w m :=
  ⟨fun w' k => (∃ q, w' = W2 q) ∧ k = k0, fun m' b => m' = M2 ∧ b = b0, hL.mono (fun w2 o2 h => by
    obtain ⟨q, h1, h2⟩ := h
    exact ⟨w2, ⟨k0, h2, ⟨q, h1⟩, rfl⟩, .rf⟩) (Nat.le_refl _) (Nat.le_refl _) (Nat.le_refl _) (Nat.le_refl _) (Nat.le_refl _) (Nat.le_refl _), hM.mono (fun m2 o2 h => ⟨m2, ⟨b0, h.2, h.1, rfl⟩, .rf⟩) (Nat.le_refl _) (Nat.le_refl _) (Nat.le_refl _) (Nat.le_refl _) (Nat.le_refl _) (Nat.le_refl _), fun w' k m' b h1 h2 => by
    obtain ⟨⟨q, rfl⟩, rfl⟩ := h1
    obtain ⟨rfl, rfl⟩ := h2
    exact ⟨he, hI q⟩⟩
theorem zASx {G : zG} {D : va_G} {cy : Nat → ClassId} {l : Launch} {I : va_W → va_W → Prop} {x9 : Nat} {yL : MethodName} {wsL : List Cond} {asL : List Value} {yM : MethodName} {wsM : List Cond} {asM : List Value} {Out : va_W → Int32 → Prop} {w m M2 : va_W} {W2 : Nat → va_W} {k0 b0 : Int32}
    (hL : zC G D vwCl (zT cy) l yL wsL rmBX asL w (fun w2 o2 => ∃ q9 : Nat, w2 = W2 q9 ∧ o2 = some (.int k0)) 2 96) (hM : zC G D vwCl (zT cy) l yM wsM rmBM asM m (fun m2 o2 => m2 = M2 ∧ o2 = some (.int b0)) 0 0) (ht : zThr G D cy l x9 M2 k0) (ho : ∀ q, k0 = 0 → Out (W2 q) b0) (hI : ∀ q, I (W2 q) M2) : zArmS G D cy l I x9 yL wsL asL yM wsM asM Out w m :=
  ⟨fun w' k => (∃ q, w' = W2 q) ∧ k = k0, fun m' b => m' = M2 ∧ b = b0, hL.mono (fun w2 o2 h => by
    obtain ⟨q, h1, h2⟩ := h
    exact ⟨w2, ⟨k0, h2, ⟨q, h1⟩, rfl⟩, .rf⟩) (Nat.le_refl _) (Nat.le_refl _) (Nat.le_refl _) (Nat.le_refl _) (Nat.le_refl _) (Nat.le_refl _), hM.mono (fun m2 o2 h => ⟨m2, ⟨b0, h.2, h.1, rfl⟩, .rf⟩) (Nat.le_refl _) (Nat.le_refl _) (Nat.le_refl _) (Nat.le_refl _) (Nat.le_refl _) (Nat.le_refl _), fun w' k m' b h1 h2 => by
    obtain ⟨⟨q, rfl⟩, rfl⟩ := h1
    obtain ⟨rfl, rfl⟩ := h2
    exact ⟨ht, ho q, hI q⟩⟩
theorem sg_k : ∀ k, k < 4 → ∀ w h : Bool, (if w = true then (if nI k = 0 then (if h = true then (104 : Int32) else 111) else (((if h = true then (97 : Int32) else 49) + nI k - 1).toUInt32 % 65536).toInt32) else 46) = (if w = true then (if h = true then (if nI k = 0 then (104 : Int32) else 97 + nI k - 1) else (if nI k = 0 then 111 else 48 + nI k)) else 46) ∧ zic 32 126 (if w = true then (if nI k = 0 then (if h = true then (104 : Int32) else 111) else (((if h = true then (97 : Int32) else 49) + nI k - 1).toUInt32 % 65536).toInt32) else 46) = true ∧ (if w = true then (if nI k = 0 then (if h = true then (104 : Int32) else 111) else (((if h = true then (97 : Int32) else 49) + nI k - 1).toUInt32 % 65536).toInt32) else 46) ≤ 255 ∧ vp_nar .byte (if w = true then (if nI k = 0 then (if h = true then (104 : Int32) else 111) else (((if h = true then (97 : Int32) else 49) + nI k - 1).toUInt32 % 65536).toInt32) else 46).toInt8.toInt32 = (if w = true then (if nI k = 0 then (if h = true then (104 : Int32) else 111) else (((if h = true then (97 : Int32) else 49) + nI k - 1).toUInt32 % 65536).toInt32) else 46) ∧ fits .byte (.int (if w = true then (if nI k = 0 then (if h = true then (104 : Int32) else 111) else (((if h = true then (97 : Int32) else 49) + nI k - 1).toUInt32 % 65536).toInt32) else 46)) = true := by decide +kernel
theorem sg_eq {mu : Nat → Nat → Int32} {nu : Nat → Nat} {v : Nat → Int32} (h : zSt mu nu v) {j : Nat} (hj : j < 24) : zsg (mu 0) (mu 8 0) (mu 8 1) j = zsn6 v j ∧ zic 32 126 (zsg (mu 0) (mu 8 0) (mu 8 1) j) = true ∧ zasb (zsg (mu 0) (mu 8 0) (mu 8 1) j) ∧ fits .byte (.int (zsg (mu 0) (mu 8 0) (mu 8 1) j)) = true := by
  obtain ⟨k, hk, e⟩ := h.gd.lk j hj
  obtain ⟨h1, h2, h3, h4, h5⟩ := sg_k k (by omega) (zb (mu 8 0) (nI j)) (zb (mu 8 1) (nI j))
  unfold zasb zsg zsn6
  rw [h.v0, h.v1, h.lo j hj, e]
  exact ⟨h1, h2, ⟨h3, h4⟩, h5⟩
theorem zwb6_at {v lx : Nat → Int32} {i : Nat} : ∀ {k : Nat}, i < k → zwb6 v lx k i = zsn6 v i
  | k + 1, h => by
    simp only [zwb6]
    by_cases q : i = k
    · subst q; rw [upd_s]
    · rw [un q]; exact zwb6_at (by omega)
theorem zwbG_at {lo : Nat → Int32} {wk hd : Int32} {bx : Nat → Int32} {j : Nat} (hj : j < 24) : zwbG lo wk hd bx j = zsg lo wk hd j := by
  unfold zwbG
  by_cases q7 : j = 23
  · subst q7; exact upd_s
  rw [un q7]
  by_cases q6 : j = 22
  · subst q6; exact upd_s
  rw [un q6]
  by_cases q5 : j = 21
  · subst q5; exact upd_s
  rw [un q5]
  by_cases q4 : j = 20
  · subst q4; exact upd_s
  rw [un q4]
  by_cases q3 : j = 19
  · subst q3; exact upd_s
  rw [un q3]
  by_cases q2 : j = 18
  · subst q2; exact upd_s
  rw [un q2]
  by_cases q1 : j = 17
  · subst q1; exact upd_s
  rw [un q1]
  by_cases q0 : j = 16
  · subst q0; exact upd_s
  rw [un q0]
  unfold va_cpy
  rw [if_pos (by omega), show 0 + (j - 0) = j by omega, zwbC_at (by omega)]

theorem C_X5_writeBed_m16' {G : zG} (hg : zGJ G) (l : Launch) (D : va_G) (cy : Nat → ClassId) (ad qn qt qs : Nat → Nat) (qh : Nat → Nat → Nat) (mu : Nat → Nat → Int32) (nu : Nat → Nat) (rdt : Int32) (rrs : Int32) (tm : Nat → Nat → Int32) (tn : Nat → Nat) (trd : Int32) (trr : Int32) (sm : Nat → Nat → Int32) (sn : Nat → Nat) (srd : Int32) (srr : Int32) (alo : Nat → Int32) (aag : Nat → Int32) (awk : Int32) (ahd : Int32) (nx : Nat) (hc : Nat) (hm : Nat → Nat → Nat → Int32) (hn : Nat → Nat → Nat) (ss : Int32) (lse : Int32) (lre : Int32) (lde : Int32) (lca : Int32) (kc : Nat) (he : Nat) (oo : Nat → Int32) (fi : Nat → Int32) (se : Nat → Int32) (b8 : Nat) (mm : Nat) (ml : Int32) (nn : Nat) (bx : Nat → Int32) (c8 : Nat) (oml : Int32) (on : Nat) (ox : Nat → Int32) (lo1 : Nat → Int64) (lo2 : Nat → UInt64) (hnm : on ≤ 16) (hab : ∀ j, j < 24 → zasb (zsg (mu 0) (mu 8 0) (mu 8 1) j)) (hfb0 : ∀ j, j < 24 → fits .byte (.int (zsg (mu 0) (mu 8 0) (mu 8 1) j)) = true) (f9 : Nat → Int32) (hf9 : (zwbG (mu 0) (mu 8 0) (mu 8 1) ox) = f9) : zC G D vwCl (zT cy) l yX5_writeBed wsX5_writeBed rmBX [.ref (ad 0)] (wX cy ad qn qt qs qh mu nu rdt rrs tm tn trd trr sm sn srd srr alo aag awk ahd nx hc hm hn ss lse lre lde lca kc he oo fi se b8 mm ml nn bx c8 16 oml on ox lo1 lo2) (fun w2 o2 => ∃ q9 : Nat, w2 = wX cy ad qn qt qs qh mu nu rdt rrs tm tn trd trr sm sn srd srr alo aag awk ahd nx hc hm hn ss lse lre lde lca kc he oo fi se b8 mm ml nn bx q9 34 (zml on oml) 24 f9 lo1 lo2 ∧ o2 = (some (.int (nI 24)))) 2 96 := by
  subst hf9
  exact C_X5_writeBed_m16 hg l D cy ad qn qt qs qh mu nu rdt rrs tm tn trd trr sm sn srd srr alo aag awk ahd nx hc hm hn ss lse lre lde lca kc he oo fi se b8 mm ml nn bx c8 oml on ox lo1 lo2 hnm hab hfb0

theorem C_X5_writeBed_m34' {G : zG} (hg : zGJ G) (l : Launch) (D : va_G) (cy : Nat → ClassId) (ad qn qt qs : Nat → Nat) (qh : Nat → Nat → Nat) (mu : Nat → Nat → Int32) (nu : Nat → Nat) (rdt : Int32) (rrs : Int32) (tm : Nat → Nat → Int32) (tn : Nat → Nat) (trd : Int32) (trr : Int32) (sm : Nat → Nat → Int32) (sn : Nat → Nat) (srd : Int32) (srr : Int32) (alo : Nat → Int32) (aag : Nat → Int32) (awk : Int32) (ahd : Int32) (nx : Nat) (hc : Nat) (hm : Nat → Nat → Nat → Int32) (hn : Nat → Nat → Nat) (ss : Int32) (lse : Int32) (lre : Int32) (lde : Int32) (lca : Int32) (kc : Nat) (he : Nat) (oo : Nat → Int32) (fi : Nat → Int32) (se : Nat → Int32) (b8 : Nat) (mm : Nat) (ml : Int32) (nn : Nat) (bx : Nat → Int32) (c8 : Nat) (oml : Int32) (on : Nat) (ox : Nat → Int32) (lo1 : Nat → Int64) (lo2 : Nat → UInt64) (hnm : on ≤ 34) (hab : ∀ j, j < 24 → zasb (zsg (mu 0) (mu 8 0) (mu 8 1) j)) (f9 : Nat → Int32) (hf9 : (zwbC (mu 0) (mu 8 0) (mu 8 1) ox 24) = f9) : zC G D vwCl (zT cy) l yX5_writeBed wsX5_writeBed rmBX [.ref (ad 0)] (wX cy ad qn qt qs qh mu nu rdt rrs tm tn trd trr sm sn srd srr alo aag awk ahd nx hc hm hn ss lse lre lde lca kc he oo fi se b8 mm ml nn bx c8 34 oml on ox lo1 lo2) (fun w2 o2 => w2 = wX cy ad qn qt qs qh mu nu rdt rrs tm tn trd trr sm sn srd srr alo aag awk ahd nx hc hm hn ss lse lre lde lca kc he oo fi se b8 mm ml nn bx c8 34 (zml on oml) 24 f9 lo1 lo2 ∧ o2 = (some (.int (nI 24)))) 2 96 := by
  subst hf9
  exact C_X5_writeBed_m34 hg l D cy ad qn qt qs qh mu nu rdt rrs tm tn trd trr sm sn srd srr alo aag awk ahd nx hc hm hn ss lse lre lde lca kc he oo fi se b8 mm ml nn bx c8 oml on ox lo1 lo2 hnm hab

theorem C_X6_writeBed' {G : zG} (hg : zGN G) (l : Launch) (D : va_G) (cy : Nat → ClassId) (bd : Nat → Nat) (th : Int32) (ch : Nat) (era : Int32) (why : Int32) (det : Int32) (cau : Int32) (sv : Bool) (rj : Bool) (tn : Nat) (he : Nat) (en : Nat) (ln : Nat) (iw : Bool) (dg : Bool) (v : Nat → Int32) (bf : Nat → Int32) (sf : Nat → Int32) (kf : Nat → Int32) (pq : Nat → Nat → Int32) (tx : Nat → Int32) (lx : Nat → Int32) (f9 : Nat → Int32) (hf9 : (zwb6 v lx 24) = f9) : zC G D vwCl (zT cy) l yX6_writeBed wsX6_writeBed rmBM [.ref (bd 0)] (wM cy bd th ch era why det cau sv rj tn he en ln iw dg v bf sf kf pq tx lx) (fun w2 o2 => w2 = wM cy bd 0 ch era why det cau sv rj tn he en 24 iw dg v bf sf kf pq tx f9 ∧ o2 = (some (.int (nI 24)))) 0 0 := by
  subst hf9
  exact C_X6_writeBed hg l D cy bd th ch era why det cau sv rj tn he en ln iw dg v bf sf kf pq tx lx

theorem ou_bed16 {mu : Nat → Nat → Int32} {nu : Nat → Nat} {v : Nat → Int32} (h : zSt mu nu v) (ox lx : Nat → Int32) : zOu 34 24 (zwbG (mu 0) (mu 8 0) (mu 8 1) ox) 24 (zwb6 v lx 24) :=
  ⟨Or.inr rfl, by decide, Nat.le_refl 24, rfl, fun j hj => (zwb6_at hj).trans ((sg_eq h hj).1.symm.trans (zwbG_at hj).symm), fun j hj => by rw [zwbG_at hj]; exact (sg_eq h hj).2.1⟩
theorem ou_bed34 {mu : Nat → Nat → Int32} {nu : Nat → Nat} {v : Nat → Int32} (h : zSt mu nu v) (ox lx : Nat → Int32) : zOu 34 24 (zwbC (mu 0) (mu 8 0) (mu 8 1) ox 24) 24 (zwb6 v lx 24) :=
  ⟨Or.inr rfl, by decide, Nat.le_refl 24, rfl, fun j hj => (zwb6_at hj).trans ((sg_eq h hj).1.symm.trans (zwbC_at hj).symm), fun j hj => by rw [zwbC_at hj]; exact (sg_eq h hj).2.1⟩

theorem arm_writeBed {G : zG} (hg : zGW G) {l : Launch} (hfl : l.stackTraces = false) {D : va_G} {cy : Nat → ClassId} {ad qn qt qs : Nat → Nat} {qh : Nat → Nat → Nat} {bd : Nat → Nat} {xs : Nat → Int32} {i : Nat} {A : zPX} {B : zPM} (h : zRI A B) : zArmD G D cy l (zIn cy ad qn qt qs qh bd) yX5_writeBed wsX5_writeBed [.ref (ad 0)] yX6_writeBed wsX6_writeBed [.ref (bd 0)] (A.w cy ad qn qt qs qh) (B.w cy bd) := by
  have cur := h.cur
  have ho := h.out.m
  have hn0 := h.out.n
  obtain ⟨l9, hl9⟩ : ∃ f, zwb6 B.v B.lx 24 = f := ⟨_, rfl⟩
  rcases ho with ho | ho
  · have b16 := ou_bed16 cur A.ox B.lx
    rw [hl9] at b16
    obtain ⟨mu, nu, rdt, rrs, tm, tn, trd, trr, sm, sn, srd, srr, alo, aag, awk, ahd, nx, hc, hm, hn, ss, lse, lre, lde, lca, kc, he, oo, fi, se, b8, mm, ml, nn, bx, c8, om, oml, on, ox, lo1, lo2⟩ := A
    have cur : zSt mu nu B.v := h.cur
    have sno : ss = zI B.sv := h.sno
    have sns : B.sv = true → zSt sm sn B.sf := h.sns
    have his : zHi nx hc hm hn B.ch B.pq := h.his
    have rea : zRe lse lre lde lca B.era B.why B.det B.cau := h.rea
    have txt : zTx mm nn bx B.tn B.tx := h.txt
    have out : zOu om on ox B.ln B.lx := h.out
    have ho : om = 16 := ho
    subst ho
    obtain ⟨f9, hf9⟩ : ∃ f, zwbG (mu 0) (mu 8 0) (mu 8 1) ox = f := ⟨_, rfl⟩
    have b17 : zOu 34 24 f9 24 l9 := by rw [← hf9]; exact b16
    exact zADx (C_X5_writeBed_m16' hg.1.1.J l D cy ad qn qt qs qh _ _ _ _ _ _ _ _ _ _ _ _ _ _ _ _ _ _ _ _ _ _ _ _ _ _ _ _ _ _ _ _ _ _ _ _ _ _ _ _ _ hn0 (fun j hj => (sg_eq cur hj).2.2.1) (fun j hj => (sg_eq cur hj).2.2.2) f9 hf9) (C_X6_writeBed' hg.1.1.1.1 l D cy bd _ _ _ _ _ _ _ _ _ _ _ _ _ _ _ _ _ _ _ _ _ l9 hl9) rfl (fun q => zIn.mk' ⟨cur, sno, sns, his, rea, txt, b17⟩)
  · have b16 := ou_bed34 cur A.ox B.lx
    rw [hl9] at b16
    obtain ⟨mu, nu, rdt, rrs, tm, tn, trd, trr, sm, sn, srd, srr, alo, aag, awk, ahd, nx, hc, hm, hn, ss, lse, lre, lde, lca, kc, he, oo, fi, se, b8, mm, ml, nn, bx, c8, om, oml, on, ox, lo1, lo2⟩ := A
    have cur : zSt mu nu B.v := h.cur
    have sno : ss = zI B.sv := h.sno
    have sns : B.sv = true → zSt sm sn B.sf := h.sns
    have his : zHi nx hc hm hn B.ch B.pq := h.his
    have rea : zRe lse lre lde lca B.era B.why B.det B.cau := h.rea
    have txt : zTx mm nn bx B.tn B.tx := h.txt
    have out : zOu om on ox B.ln B.lx := h.out
    have ho : om = 34 := ho
    subst ho
    obtain ⟨f9, hf9⟩ : ∃ f, zwbC (mu 0) (mu 8 0) (mu 8 1) ox 24 = f := ⟨_, rfl⟩
    have b17 : zOu 34 24 f9 24 l9 := by rw [← hf9]; exact b16
    exact zAD (C_X5_writeBed_m34' hg.1.1.J l D cy ad qn qt qs qh _ _ _ _ _ _ _ _ _ _ _ _ _ _ _ _ _ _ _ _ _ _ _ _ _ _ _ _ _ _ _ _ _ _ _ _ _ _ _ _ _ hn0 (fun j hj => (sg_eq cur hj).2.2.1) f9 hf9) (C_X6_writeBed' hg.1.1.1.1 l D cy bd _ _ _ _ _ _ _ _ _ _ _ _ _ _ _ _ _ _ _ _ _ l9 hl9) rfl (zIn.mk' ⟨cur, sno, sns, his, rea, txt, b17⟩)

/-- the same text on both sides, so far -/
def zQt (n : Nat) (f g : Nat → Int32) : Prop := ∀ j, j < n → g j = f j ∧ zic 32 126 (f j) = true
theorem zQt.up {n : Nat} {f g : Nat → Int32} (h : zQt n f g) {x : Int32} (hx : zic 32 126 x = true) : zQt (n + 1) (upd f n x) (upd g n x) := fun j hj => by
  by_cases q : j = n
  · subst q; rw [upd_s, upd_s]; exact ⟨rfl, hx⟩
  · rw [un q, un q]; exact h j (by omega)
theorem dg_ok : ∀ d, d < 10 → zic 32 126 (nI (48 + d)) = true := by decide
theorem zQt.num {n : Nat} {f g : Nat → Int32} (h : zQt n f g) {k : Nat} (hk : k < 1000) : zQt (n + zln k) (zjw f n k) (zlw g n k) := by
  unfold zjw zlw zln
  by_cases q : k < 10
  · rw [if_pos q, if_pos q, if_pos q, show k / 1 % 10 = k % 10 by omega]
    exact h.up (dg_ok _ (by omega))
  · rw [if_neg q, if_neg q, if_neg q]
    by_cases r : k < 100
    · rw [if_pos r, if_pos r, if_pos r, show k / 1 % 10 = k % 10 by omega, show k / 10 % 10 = k / 10 by omega, upd_comm (a := n + 1) (j := n + 0) (by omega)]
      exact (h.up (dg_ok _ (by omega))).up (dg_ok _ (by omega))
    · rw [if_neg r, if_neg r, if_neg r, show k / 1 % 10 = k % 100 % 10 by omega, show k / 10 % 10 = k % 100 / 10 by omega]
      rw [upd_comm (a := n + 1) (j := n + 0) (by omega), upd_comm (a := n + 2) (j := n + 0) (by omega), upd_comm (a := n + 2) (j := n + 1) (by omega)]
      exact ((h.up (dg_ok _ (by omega))).up (dg_ok _ (by omega))).up (dg_ok _ (by omega))
theorem zln_2' {n : Nat} (h : n < 100) : zln n ≤ 2 := zln_2 h

theorem arm_writeCourse {G : zG} (hg : zGW G) {l : Launch} (hfl : l.stackTraces = false) {D : va_G} {cy : Nat → ClassId} {ad qn qt qs : Nat → Nat} {qh : Nat → Nat → Nat} {bd : Nat → Nat} {xs : Nat → Int32} {i : Nat} {A : zPX} {B : zPM} (h : zRI A B) : zArmS G D cy l (zIn cy ad qn qt qs qh bd) (bd 0) yL_writeCourse wsL_writeCourse [.ref (ad 0), .int (xs (i + 1)), .ref (ad 12)] yX6_writeCourse wsX6_writeCourse [.ref (bd 0), .int (xs (i + 1))] (fun w' b => zOut (ad 12) cy w' b.toInt64) (A.w cy ad qn qt qs qh) (B.w cy bd) := by
  have ho := h.out.m
  have h24 := h.out.n24
  have hn2 := h.cur.gd.n2
  rcases zin_of (n := A.nu 2) (by omega) (xs (i + 1)) with ⟨k, hk, ek⟩ | ⟨hq, hq2⟩
  · rw [ek]
    obtain ⟨w9, hw, ew⟩ := h.cur.gd.cw k hk
    obtain ⟨f9, hf, ef⟩ := h.cur.gd.cf k hk
    obtain ⟨y9, hy, ey⟩ := h.cur.gd.cy k hk
    obtain ⟨d9, hd, ed⟩ := h.cur.gd.cd k hk
    have q0 : zQt 0 A.ox B.lx := fun j hj => absurd hj (Nat.not_lt_zero j)
    have q9 := ((((((q0.num (k := k) (by omega)).up (x := 58) (by decide)).num (k := w9) (by omega)).up (x := 102) (by decide)).num (k := f9) (by omega)).up (x := 121) (by decide)).num (k := y9) (by omega)
    have l1 := zln_2 (n := k) (by omega)
    have l2 := zln_2 (n := w9) (by omega)
    have l3 := zln_1 (n := f9) (by omega)
    have l4 := zln_le y9
    have l5 := zln_2 (n := d9) (by omega)
    by_cases h0 : 0 < d9
    · exact zAS (C_L_writeCourse_d hg l hfl D cy ad qn qt qs qh _ _ _ _ _ _ _ _ _ _ _ _ _ _ _ _ _ _ _ _ _ _ _ _ _ _ _ _ _ _ _ _ _ _ _ _ _ _ _ _ _ _ _ _ _ _ _ h.cur.gd.n2 hk ew ef ey ed (by omega) (by omega) (by omega) (by omega) h.out.n (by omega) (by omega) h0) (C_X6_writeCourse_d hg.1.1.1.1 l D cy bd _ _ _ _ _ _ _ _ _ _ _ _ _ _ _ _ _ _ _ _ _ _ _ _ _ _ _ h.cur.v5 h.cur.gd.n2 hk ((h.cur.cw k hk).trans ew) ((h.cur.cf k hk).trans ef) ((h.cur.cy k hk).trans ey) ((h.cur.cd k hk).trans ed) (by omega) (by omega) (by omega) (by omega) h0) (C_X6_thrown hg.1.1.1.1 l D cy bd _ _ _ _ _ _ _ _ _ _ _ _ _ _ _ _ _ _ _ _ _) (fun _ => zo1 rfl) (zIn.mk' ⟨h.cur, h.sno, h.sns, h.his, h.rea, h.txt, ⟨h.out.m, by show (0 + zln k + 1 + zln w9 + 1 + zln f9 + 1 + zln y9 + 1 + zln d9) ≤ A.om; omega, by show (0 + zln k + 1 + zln w9 + 1 + zln f9 + 1 + zln y9 + 1 + zln d9) ≤ 24; omega, rfl, fun j hj => (((q9.up (x := 33) (by decide)).num (k := d9) (by omega)) j hj).1, fun j hj => (((q9.up (x := 33) (by decide)).num (k := d9) (by omega)) j hj).2⟩⟩)
    · exact zAS (C_L_writeCourse_n hg l hfl D cy ad qn qt qs qh _ _ _ _ _ _ _ _ _ _ _ _ _ _ _ _ _ _ _ _ _ _ _ _ _ _ _ _ _ _ _ _ _ _ _ _ _ _ _ _ _ _ _ _ _ _ _ h.cur.gd.n2 hk ew ef ey ed (by omega) (by omega) (by omega) (by omega) h.out.n (by omega) (by omega) h0) (C_X6_writeCourse_n hg.1.1.1.1 l D cy bd _ _ _ _ _ _ _ _ _ _ _ _ _ _ _ _ _ _ _ _ _ _ _ _ _ _ _ h.cur.v5 h.cur.gd.n2 hk ((h.cur.cw k hk).trans ew) ((h.cur.cf k hk).trans ef) ((h.cur.cy k hk).trans ey) ((h.cur.cd k hk).trans ed) (by omega) (by omega) (by omega) (by omega) h0) (C_X6_thrown hg.1.1.1.1 l D cy bd _ _ _ _ _ _ _ _ _ _ _ _ _ _ _ _ _ _ _ _ _) (fun _ => zo1 rfl) (zIn.mk' ⟨h.cur, h.sno, h.sns, h.his, h.rea, h.txt, ⟨h.out.m, by show (0 + zln k + 1 + zln w9 + 1 + zln f9 + 1 + zln y9) ≤ A.om; omega, by show (0 + zln k + 1 + zln w9 + 1 + zln f9 + 1 + zln y9) ≤ 24; omega, rfl, fun j hj => (q9 j hj).1, fun j hj => (q9 j hj).2⟩⟩)
  · exact zAS (C_L_writeCourse_bad hg l hfl D cy ad qn qt qs qh _ _ _ _ _ _ _ _ _ _ _ _ _ _ _ _ _ _ _ _ _ _ _ _ _ _ _ _ _ _ _ _ _ _ _ _ _ _ _ _ _ _ _ hq) (C_X6_writeCourse_bad hg.1.1.1.1 l D cy bd _ _ _ _ _ _ _ _ _ _ _ _ _ _ _ _ _ _ _ _ _ _ (by rw [h.cur.v5]; exact hq2)) (C_X6_thrown hg.1.1.1.1 l D cy bd _ _ _ _ _ _ _ _ _ _ _ _ _ _ _ _ _ _ _ _ _) (fun z => absurd z (by decide)) (zIn.mk' ⟨h.cur, h.sno, h.sns, h.his, h.rea, h.txt, h.out⟩)

theorem ch_b : ∀ n, n < 127 → fits .byte (.int (nI n)) = true := by decide +kernel
theorem zic_b {x : Int32} (h : zic 32 126 x = true) : fits .byte (.int x) = true := by
  obtain ⟨n, -, h2, rfl⟩ := zic_nat (lo := 32) (hi := 126) (by decide) (by decide) h
  exact ch_b n (by omega)
theorem zTx.add {mm nn : Nat} {bx : Nat → Int32} {tn : Nat} {tx : Nat → Int32} (h : zTx mm nn bx tn tx) {x : Int32} (hx : zic 32 126 x = true) (h1 : nn < mm) (h6 : nn < 60) : zTx mm (nn + 1) (upd bx nn x) (tn + 1) (upd tx tn x) := by
  have e := h.e
  subst e
  refine ⟨h.m, h1, h6, rfl, fun j hj => ?_, fun j hj => ?_, fun j hj => ?_⟩
  · by_cases q : j = tn
    · subst q; rw [upd_s, upd_s]
    · rw [un q, un q]; exact h.x j (by omega)
  · by_cases q : j = tn
    · subst q; rw [upd_s]; exact hx
    · rw [un q]; exact h.c j (by omega)
  · by_cases q : j = tn
    · subst q; rw [upd_s]; exact zic_b hx
    · rw [un q]; exact h.b j hj
theorem zTx.grow {mm : Nat} {bx : Nat → Int32} {tn : Nat} {tx : Nat → Int32} (h : zTx mm mm bx tn tx) {m2 : Nat} (h2 : m2 = 34 ∨ m2 = 70) (h3 : mm < m2) (h6 : mm < 60) : zTx m2 mm (va_cpy bx (fun _ => 0) 0 0 mm) tn tx := by
  have e := h.e
  subst e
  have at1 : ∀ j, j < tn → va_cpy bx (fun _ => (0 : Int32)) 0 0 tn j = bx j := fun j hj => by
    unfold va_cpy
    rw [if_pos (by omega), show 0 + (j - 0) = j by omega]
  refine ⟨Or.inr h2, by omega, by omega, rfl, fun j hj => ?_, fun j hj => ?_, fun j hj => ?_⟩
  · rw [at1 j hj]; exact h.x j hj
  · rw [at1 j hj]; exact h.c j hj
  · by_cases q : j < tn
    · rw [at1 j q]; exact h.b j q
    · rw [show va_cpy bx (fun _ => (0 : Int32)) 0 0 tn j = 0 from if_neg (by omega)]; decide

theorem arm_appendInput {G : zG} (hg : zGW G) {l : Launch} (hfl : l.stackTraces = false) {D : va_G} {cy : Nat → ClassId} {ad qn qt qs : Nat → Nat} {qh : Nat → Nat → Nat} {bd : Nat → Nat} {xs : Nat → Int32} {i : Nat} {A : zPX} {B : zPM} (h : zRI A B) : zArmS G D cy l (zIn cy ad qn qt qs qh bd) (bd 0) yL_appendInput wsL_appendInput [.ref (ad 0), .int ((xs (i + 1)).toUInt32 % 65536).toInt32, .ref (ad 12)] yX6_appendInput wsX6_appendInput [.ref (bd 0), .int ((xs (i + 1)).toUInt32 % 65536).toInt32] (fun w' b => zOut (ad 12) cy w' b.toInt64) (A.w cy ad qn qt qs qh) (B.w cy bd) := by
  have ht := h.txt
  cases hu : zic 32 126 ((xs (i + 1)).toUInt32 % 65536).toInt32
  · exact zAS (C_L_appendInput_bad hg l hfl D cy ad qn qt qs qh _ _ _ _ _ _ _ _ _ _ _ _ _ _ _ _ _ _ _ _ _ _ _ _ _ _ _ _ _ _ _ _ _ _ _ _ _ _ _ _ _ _ _ hu) (C_X6_appendInput_bad hg.1.1.1.1 l D cy bd _ _ _ _ _ _ _ _ _ _ _ _ _ _ _ _ _ _ _ _ _ _ hu) (C_X6_thrown hg.1.1.1.1 l D cy bd _ _ _ _ _ _ _ _ _ _ _ _ _ _ _ _ _ _ _ _ _) (fun z => absurd z (by decide)) (zIn.mk' ⟨h.cur, h.sno, h.sns, h.his, h.rea, h.txt, h.out⟩)
  · by_cases h6 : A.nn = 60
    · have e6 := ht.e.trans h6
      obtain ⟨mu, nu, rdt, rrs, tm, tn, trd, trr, sm, sn, srd, srr, alo, aag, awk, ahd, nx, hc, hm, hn, ss, lse, lre, lde, lca, kc, he, oo, fi, se, b8, mm, ml, nn, bx, c8, om, oml, on, ox, lo1, lo2⟩ := A
      obtain ⟨th', ch', era', why', det', cau', sv', rj', tn', he', en', ln', iw', dg', v', bf', sf', kf', pq', tx', lx'⟩ := B
      have cur : zSt mu nu v' := h.cur
      have sno : ss = zI sv' := h.sno
      have sns : sv' = true → zSt sm sn sf' := h.sns
      have his : zHi nx hc hm hn ch' pq' := h.his
      have rea : zRe lse lre lde lca era' why' det' cau' := h.rea
      have txt : zTx mm nn bx tn' tx' := h.txt
      have out : zOu om on ox ln' lx' := h.out
      have h6 : nn = 60 := h6
      have e6 : tn' = 60 := e6
      subst h6
      subst e6
      exact zAS (C_L_appendInput_bad2 hg l hfl D cy ad qn qt qs qh _ _ _ _ _ _ _ _ _ _ _ _ _ _ _ _ _ _ _ _ _ _ _ _ _ _ _ _ _ _ _ _ _ _ _ _ _ _ _ _ _ _ hu) (C_X6_appendInput_bad2 hg.1.1.1.1 l D cy bd _ _ _ _ _ _ _ _ _ _ _ _ _ _ _ _ _ _ _ _ _ hu) (C_X6_thrown hg.1.1.1.1 l D cy bd _ _ _ _ _ _ _ _ _ _ _ _ _ _ _ _ _ _ _ _ _) (fun z => absurd z (by decide)) (zIn.mk' ⟨cur, sno, sns, his, rea, txt, out⟩)
    · have hlt : A.nn < 60 := by have := ht.n60; omega
      by_cases hr : A.nn < A.mm
      · exact zAS (C_L_appendInput_in hg l hfl D cy ad qn qt qs qh _ _ _ _ _ _ _ _ _ _ _ _ _ _ _ _ _ _ _ _ _ _ _ _ _ _ _ _ _ _ _ _ _ _ _ _ _ _ _ _ _ _ _ hu hlt hr (by have := ht.m; omega)) (C_X6_appendInput_ok hg.1.1.1.1 l D cy bd _ _ _ _ _ _ _ _ _ _ _ _ _ _ _ _ _ _ _ _ _ _ hu (by rw [ht.e]; exact hlt)) (C_X6_thrown hg.1.1.1.1 l D cy bd _ _ _ _ _ _ _ _ _ _ _ _ _ _ _ _ _ _ _ _ _) (fun _ => zo1 (congrArg (fun n => (nI n).toInt64) (congrArg (· + 1) ht.e.symm))) (zIn.mk' ⟨h.cur, h.sno, h.sns, h.his, h.rea, (ht.add hu hr hlt), h.out⟩)
      · rcases ht.m with hm0 | hm0 | hm0
        · obtain ⟨mu, nu, rdt, rrs, tm, tn, trd, trr, sm, sn, srd, srr, alo, aag, awk, ahd, nx, hc, hm, hn, ss, lse, lre, lde, lca, kc, he, oo, fi, se, b8, mm, ml, nn, bx, c8, om, oml, on, ox, lo1, lo2⟩ := A
          have cur : zSt mu nu B.v := h.cur
          have sno : ss = zI B.sv := h.sno
          have sns : B.sv = true → zSt sm sn B.sf := h.sns
          have his : zHi nx hc hm hn B.ch B.pq := h.his
          have rea : zRe lse lre lde lca B.era B.why B.det B.cau := h.rea
          have txt : zTx mm nn bx B.tn B.tx := h.txt
          have out : zOu om on ox B.ln B.lx := h.out
          have e1 : mm = 16 := hm0
          have e2 : nn = 16 := by have a1 : ¬ nn < mm := hr; have a2 : nn ≤ mm := ht.n; omega
          subst e1
          subst e2
          have t1 : zTx 16 16 bx B.tn B.tx := ht
          have t2 : zTx 34 17 (upd (va_cpy bx (fun _ => 0) 0 0 16) 16 ((xs (i + 1)).toUInt32 % 65536).toInt32) (B.tn + 1) (upd B.tx B.tn ((xs (i + 1)).toUInt32 % 65536).toInt32) := (t1.grow (m2 := 34) (by decide) (by decide) (by decide)).add hu (by decide) (by decide)
          exact zASx (C_L_appendInput_g16 hg l hfl D cy ad qn qt qs qh _ _ _ _ _ _ _ _ _ _ _ _ _ _ _ _ _ _ _ _ _ _ _ _ _ _ _ _ _ _ _ _ _ _ _ _ _ _ _ _ _ hu (fun j hj => ht.b j hj)) (C_X6_appendInput_ok hg.1.1.1.1 l D cy bd _ _ _ _ _ _ _ _ _ _ _ _ _ _ _ _ _ _ _ _ _ _ hu (by have := ht.e; have h9 : B.tn = 16 := this; omega)) (C_X6_thrown hg.1.1.1.1 l D cy bd _ _ _ _ _ _ _ _ _ _ _ _ _ _ _ _ _ _ _ _ _) (fun q _ => zo1 (congrArg (fun n => (nI n).toInt64) (show 17 = B.tn + 1 from (congrArg (· + 1) ht.e).symm))) (fun q => zIn.mk' ⟨cur, sno, sns, his, rea, t2, out⟩)
        · obtain ⟨mu, nu, rdt, rrs, tm, tn, trd, trr, sm, sn, srd, srr, alo, aag, awk, ahd, nx, hc, hm, hn, ss, lse, lre, lde, lca, kc, he, oo, fi, se, b8, mm, ml, nn, bx, c8, om, oml, on, ox, lo1, lo2⟩ := A
          have cur : zSt mu nu B.v := h.cur
          have sno : ss = zI B.sv := h.sno
          have sns : B.sv = true → zSt sm sn B.sf := h.sns
          have his : zHi nx hc hm hn B.ch B.pq := h.his
          have rea : zRe lse lre lde lca B.era B.why B.det B.cau := h.rea
          have txt : zTx mm nn bx B.tn B.tx := h.txt
          have out : zOu om on ox B.ln B.lx := h.out
          have e1 : mm = 34 := hm0
          have e2 : nn = 34 := by have a1 : ¬ nn < mm := hr; have a2 : nn ≤ mm := ht.n; omega
          subst e1
          subst e2
          have t1 : zTx 34 34 bx B.tn B.tx := ht
          have t2 : zTx 70 35 (upd (va_cpy bx (fun _ => 0) 0 0 34) 34 ((xs (i + 1)).toUInt32 % 65536).toInt32) (B.tn + 1) (upd B.tx B.tn ((xs (i + 1)).toUInt32 % 65536).toInt32) := (t1.grow (m2 := 70) (by decide) (by decide) (by decide)).add hu (by decide) (by decide)
          exact zASx (C_L_appendInput_g34 hg l hfl D cy ad qn qt qs qh _ _ _ _ _ _ _ _ _ _ _ _ _ _ _ _ _ _ _ _ _ _ _ _ _ _ _ _ _ _ _ _ _ _ _ _ _ _ _ _ _ hu (fun j hj => ht.b j hj)) (C_X6_appendInput_ok hg.1.1.1.1 l D cy bd _ _ _ _ _ _ _ _ _ _ _ _ _ _ _ _ _ _ _ _ _ _ hu (by have := ht.e; have h9 : B.tn = 34 := this; omega)) (C_X6_thrown hg.1.1.1.1 l D cy bd _ _ _ _ _ _ _ _ _ _ _ _ _ _ _ _ _ _ _ _ _) (fun q _ => zo1 (congrArg (fun n => (nI n).toInt64) (show 35 = B.tn + 1 from (congrArg (· + 1) ht.e).symm))) (fun q => zIn.mk' ⟨cur, sno, sns, his, rea, t2, out⟩)
        · exact absurd ht.n (by omega)
