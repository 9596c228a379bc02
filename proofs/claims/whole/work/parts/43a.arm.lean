/-! the arms -/
theorem yn_up {v f : Nat → Int32} (h : ∀ j, j < 4 → v (58 + j) = f j) {a : Nat} (ha : a < 4) {x y : Int32} (e : x = y) (j : Nat) (hj : j < 4) : upd v (58 + a) x (58 + j) = upd f a y j := by
  by_cases q : j = a
  · subst q; rw [upd_s, upd_s, e]
  · rw [un (by omega), un q]; exact h j hj
theorem zic_nat {lo hi : Nat} (hl : lo < 2 ^ 31) (hh : hi < 2 ^ 31) {u : Int32} (h : zic (nI lo) (nI hi) u = true) : ∃ n : Nat, lo ≤ n ∧ n ≤ hi ∧ u = nI n := by
  simp only [zic, Bool.and_eq_true, Bool.not_eq_true', decide_eq_false_iff_not] at h
  have h0 : ¬ u < 0 := fun z => h.1 (fa_trans z (nI_pos' hl))
  obtain ⟨j, hj, rfl⟩ := nI_of h0
  exact ⟨j, Nat.le_of_not_lt (fun z => h.1 ((nI_ltI hj hl).mpr z)), Nat.le_of_not_lt (fun z => h.2 ((nI_ltI hh hj).mpr z)), rfl⟩
theorem yk_add {mu : Nat → Nat → Int32} {nu : Nat → Nat} (g : zGd mu nu) {a : Nat} (ha : a < 4) {u : Int32} (hu : zic 1 99 u = true) (hr0 : zrY (mu 6) a u = 0) (j : Nat) (hj : j < 4) : ∃ k : Nat, k ≤ 200 ∧ upd (mu 6) a (mu 6 a + u) j = nI k := by
  by_cases q : j = a
  · subst q
    obtain ⟨n, h1, h2, rfl⟩ := zic_nat (lo := 1) (hi := 99) (by decide) (by decide) hu
    obtain ⟨k, h3, e⟩ := g.yk j hj
    rw [upd_s]
    unfold zrY at hr0
    rw [e, nI_add] at hr0 ⊢
    refine ⟨k + n, ?_, rfl⟩
    by_cases z : nI (k + n) ≤ 200
    · exact (nI_leI (a := k + n) (b := 200) (by omega) (by decide)).mp z
    · rw [if_neg z] at hr0; exact absurd hr0 (by decide)
  · rw [un q]; exact g.yk j hj
theorem zrH_0 {wk hd : Int32} {a : Nat} (h : zrH wk hd a = 0) : zb wk (nI a) = true ∧ zb hd (nI a) = false := by
  unfold zrH at h
  by_cases q : zb wk (nI a) = true
  · rw [if_pos q] at h
    by_cases r : zb hd (nI a) = true
    · rw [if_pos r] at h; exact absurd h (by decide)
    · exact ⟨q, Bool.eq_false_iff.mpr r⟩
  · rw [if_neg q] at h; exact absurd h (by decide)
theorem zrH_15 {wk hd : Int32} {a : Nat} : ¬ zrH wk hd a = 15 := by unfold zrH; split <;> (try split) <;> decide
theorem zrL_15 {hd : Int32} {a : Nat} : ¬ zrL hd a = 15 := by unfold zrL; split <;> (try split) <;> decide
theorem zrY_15 {f : Nat → Int32} {u : Int32} {a : Nat} : ¬ zrY f a u = 15 := by unfold zrY; split <;> (try split) <;> decide
theorem zRe.rej {lse lre lde lca era why det cau r d r' d' : Int32} (h : zRe lse lre lde lca era why det cau) (er : r' = r) (ed : d' = d) (n : ¬ r = 15) : zRe lse r d 0 era r' d' 0 := ⟨h.se, h.sn, er, ed, rfl, ⟨fun _ => n, fun _ => rfl⟩⟩
theorem zrQ_15 {n : Nat} : ¬ zrQ n = 15 := by unfold zrQ; split <;> (try split) <;> decide
theorem ro_up {v f : Nat → Int32} {n : Nat} (h : ∀ j, j < n → v (62 + j) = f j) {u : Int32} (j : Nat) (hj : j < n + 1) : upd v (62 + n) u (62 + j) = upd f n u j := by
  by_cases q : j = n
  · subst q; rw [upd_s, upd_s]
  · rw [un (by omega), un q]; exact h j (by omega)
theorem rk_up {mu : Nat → Nat → Int32} {nu : Nat → Nat} (g : zGd mu nu) {u : Int32} (hu : zic 0 255 u = true) (j : Nat) (hj : j < nu 1 + 1) : ∃ k : Nat, k ≤ 255 ∧ upd (mu 7) (nu 1) u j = nI k := by
  by_cases q : j = nu 1
  · subst q
    obtain ⟨n, -, h2, rfl⟩ := zic_nat (lo := 0) (hi := 255) (by decide) (by decide) hu
    exact ⟨n, h2, upd_s⟩
  · rw [un q]; exact g.rk j (by omega)
theorem zrz_n {v : Nat → Int32} {j : Nat} : ∀ {n : Nat}, (j < 62 ∨ 62 + n ≤ j) → zrz v n j = v j
  | 0, _ => rfl
  | n + 1, h => (un (by omega)).trans (zrz_n (n := n) (by omega))
theorem zrL_0 {hd : Int32} {a : Nat} (h : zrL hd a = 0) : zb hd (nI a) = true := by
  unfold zrL at h
  by_cases r : zb hd (nI a) = true
  · exact r
  · rw [if_neg r] at h; exact absurd h (by decide)
theorem hd_hold {mu : Nat → Nat → Int32} {nu : Nat → Nat} (g : zGd mu nu) {a : Nat} (ha : a < 24) (hr0 : zrH (mu 8 0) (mu 8 1) a = 0) (j : Nat) (hj : j < 24) (z : zb (mu 8 1 ||| (1 <<< (nI a &&& 31))) (nI j) = true) : zb (mu 8 0) (nI j) = true := by
  rw [zb_or1 _ ha hj, Bool.or_eq_true, decide_eq_true_eq] at z
  rcases z with z | z
  · exact g.hd j hj z
  · subst z; exact (zrH_0 hr0).1
theorem zb_and1 {m : Int32} {a j : Nat} (ha : a < 24) (hj : j < 24) (z : zb (m &&& ((1 <<< (nI a &&& 31)) ^^^ (-1))) (nI j) = true) : zb m (nI j) = true := by
  rw [zb_an1 _ ha hj, Bool.and_eq_true] at z; exact z.1
theorem arm_activeFeeder {G : zG} (hg : zGW G) {l : Launch} (hfl : l.stackTraces = false) {D : va_G} {cy : Nat → ClassId} {ad qn qt qs : Nat → Nat} {qh : Nat → Nat → Nat} {bd : Nat → Nat} {xs : Nat → Int32} {i : Nat} {A : zPX} {B : zPM} (h : zRI A B) : zArmD G D cy l (zIn cy ad qn qt qs qh bd) yX5_activeFeeder wsX5_activeFeeder [.ref (ad 0)] yX6_activeFeeder wsX6_activeFeeder [.ref (bd 0)] (A.w cy ad qn qt qs qh) (B.w cy bd) := by
  exact zAD (C_X5_activeFeeder hg.1.1.1.1 l D cy ad qn qt qs qh _ _ _ _ _ _ _ _ _ _ _ _ _ _ _ _ _ _ _ _ _ _ _ _ _ _ _ _ _ _ _ _ _ _ _ _ _ _ _ _ _ _) (C_X6_activeFeeder hg.1.1.1.1 l D cy bd _ _ _ _ _ _ _ _ _ _ _ _ _ _ _ _ _ _ _ _ _) (h.cur.v2.symm) (zIn.mk' ⟨h.cur, h.sno, h.sns, h.his, h.rea, h.txt, h.out⟩)

theorem arm_tension {G : zG} (hg : zGW G) {l : Launch} (hfl : l.stackTraces = false) {D : va_G} {cy : Nat → ClassId} {ad qn qt qs : Nat → Nat} {qh : Nat → Nat → Nat} {bd : Nat → Nat} {xs : Nat → Int32} {i : Nat} {A : zPX} {B : zPM} (h : zRI A B) : zArmD G D cy l (zIn cy ad qn qt qs qh bd) yX5_tension wsX5_tension [.ref (ad 0)] yX6_tension wsX6_tension [.ref (bd 0)] (A.w cy ad qn qt qs qh) (B.w cy bd) := by
  exact zAD (C_X5_tension hg.1.1.1.1 l D cy ad qn qt qs qh _ _ _ _ _ _ _ _ _ _ _ _ _ _ _ _ _ _ _ _ _ _ _ _ _ _ _ _ _ _ _ _ _ _ _ _ _ _ _ _ _ _) (C_X6_tension hg.1.1.1.1 l D cy bd _ _ _ _ _ _ _ _ _ _ _ _ _ _ _ _ _ _ _ _ _) (h.cur.v3.symm) (zIn.mk' ⟨h.cur, h.sno, h.sns, h.his, h.rea, h.txt, h.out⟩)

theorem arm_patternRows {G : zG} (hg : zGW G) {l : Launch} (hfl : l.stackTraces = false) {D : va_G} {cy : Nat → ClassId} {ad qn qt qs : Nat → Nat} {qh : Nat → Nat → Nat} {bd : Nat → Nat} {xs : Nat → Int32} {i : Nat} {A : zPX} {B : zPM} (h : zRI A B) : zArmD G D cy l (zIn cy ad qn qt qs qh bd) yX5_patternRows wsX5_patternRows [.ref (ad 0)] yX6_patternRows wsX6_patternRows [.ref (bd 0)] (A.w cy ad qn qt qs qh) (B.w cy bd) := by
  exact zAD (C_X5_patternRows hg.1.1.1.1 l D cy ad qn qt qs qh _ _ _ _ _ _ _ _ _ _ _ _ _ _ _ _ _ _ _ _ _ _ _ _ _ _ _ _ _ _ _ _ _ _ _ _ _ _ _ _ _ _) (C_X6_patternRows hg.1.1.1.1 l D cy bd _ _ _ _ _ _ _ _ _ _ _ _ _ _ _ _ _ _ _ _ _) (h.cur.v4.symm) (zIn.mk' ⟨h.cur, h.sno, h.sns, h.his, h.rea, h.txt, h.out⟩)

theorem arm_courseCount {G : zG} (hg : zGW G) {l : Launch} (hfl : l.stackTraces = false) {D : va_G} {cy : Nat → ClassId} {ad qn qt qs : Nat → Nat} {qh : Nat → Nat → Nat} {bd : Nat → Nat} {xs : Nat → Int32} {i : Nat} {A : zPX} {B : zPM} (h : zRI A B) : zArmD G D cy l (zIn cy ad qn qt qs qh bd) yX5_courseCount wsX5_courseCount [.ref (ad 0)] yX6_courseCount wsX6_courseCount [.ref (bd 0)] (A.w cy ad qn qt qs qh) (B.w cy bd) := by
  exact zAD (C_X5_courseCount hg.1.1.1.1 l D cy ad qn qt qs qh _ _ _ _ _ _ _ _ _ _ _ _ _ _ _ _ _ _ _ _ _ _ _ _ _ _ _ _ _ _ _ _ _ _ _ _ _ _ _ _ _ _) (C_X6_courseCount hg.1.1.1.1 l D cy bd _ _ _ _ _ _ _ _ _ _ _ _ _ _ _ _ _ _ _ _ _) (h.cur.v5.symm) (zIn.mk' ⟨h.cur, h.sno, h.sns, h.his, h.rea, h.txt, h.out⟩)

theorem arm_finishedShawls {G : zG} (hg : zGW G) {l : Launch} (hfl : l.stackTraces = false) {D : va_G} {cy : Nat → ClassId} {ad qn qt qs : Nat → Nat} {qh : Nat → Nat → Nat} {bd : Nat → Nat} {xs : Nat → Int32} {i : Nat} {A : zPX} {B : zPM} (h : zRI A B) : zArmD G D cy l (zIn cy ad qn qt qs qh bd) yX5_finishedShawls wsX5_finishedShawls [.ref (ad 0)] yX6_finishedShawls wsX6_finishedShawls [.ref (bd 0)] (A.w cy ad qn qt qs qh) (B.w cy bd) := by
  exact zAD (C_X5_finishedShawls hg.1.1.1.1 l D cy ad qn qt qs qh _ _ _ _ _ _ _ _ _ _ _ _ _ _ _ _ _ _ _ _ _ _ _ _ _ _ _ _ _ _ _ _ _ _ _ _ _ _ _ _ _ _) (C_X6_finishedShawls hg.1.1.1.1 l D cy bd _ _ _ _ _ _ _ _ _ _ _ _ _ _ _ _ _ _ _ _ _) (h.cur.v6.symm) (zIn.mk' ⟨h.cur, h.sno, h.sns, h.his, h.rea, h.txt, h.out⟩)

theorem arm_yarnAdded {G : zG} (hg : zGW G) {l : Launch} (hfl : l.stackTraces = false) {D : va_G} {cy : Nat → ClassId} {ad qn qt qs : Nat → Nat} {qh : Nat → Nat → Nat} {bd : Nat → Nat} {xs : Nat → Int32} {i : Nat} {A : zPX} {B : zPM} (h : zRI A B) : zArmD G D cy l (zIn cy ad qn qt qs qh bd) yX5_yarnAdded wsX5_yarnAdded [.ref (ad 0)] yX6_yarnAdded wsX6_yarnAdded [.ref (bd 0)] (A.w cy ad qn qt qs qh) (B.w cy bd) := by
  exact zAD (C_X5_yarnAdded hg.1.1.1.1 l D cy ad qn qt qs qh _ _ _ _ _ _ _ _ _ _ _ _ _ _ _ _ _ _ _ _ _ _ _ _ _ _ _ _ _ _ _ _ _ _ _ _ _ _ _ _ _ _) (C_X6_yarnAdded hg.1.1.1.1 l D cy bd _ _ _ _ _ _ _ _ _ _ _ _ _ _ _ _ _ _ _ _ _) (h.cur.v7.symm) (zIn.mk' ⟨h.cur, h.sno, h.sns, h.his, h.rea, h.txt, h.out⟩)

theorem arm_yarnUsed {G : zG} (hg : zGW G) {l : Launch} (hfl : l.stackTraces = false) {D : va_G} {cy : Nat → ClassId} {ad qn qt qs : Nat → Nat} {qh : Nat → Nat → Nat} {bd : Nat → Nat} {xs : Nat → Int32} {i : Nat} {A : zPX} {B : zPM} (h : zRI A B) : zArmD G D cy l (zIn cy ad qn qt qs qh bd) yX5_yarnUsed wsX5_yarnUsed [.ref (ad 0)] yX6_yarnUsed wsX6_yarnUsed [.ref (bd 0)] (A.w cy ad qn qt qs qh) (B.w cy bd) := by
  exact zAD (C_X5_yarnUsed hg.1.1.1.1 l D cy ad qn qt qs qh _ _ _ _ _ _ _ _ _ _ _ _ _ _ _ _ _ _ _ _ _ _ _ _ _ _ _ _ _ _ _ _ _ _ _ _ _ _ _ _ _ _) (C_X6_yarnUsed hg.1.1.1.1 l D cy bd _ _ _ _ _ _ _ _ _ _ _ _ _ _ _ _ _ _ _ _ _) (h.cur.v8.symm) (zIn.mk' ⟨h.cur, h.sno, h.sns, h.his, h.rea, h.txt, h.out⟩)

theorem arm_droppedLoops {G : zG} (hg : zGW G) {l : Launch} (hfl : l.stackTraces = false) {D : va_G} {cy : Nat → ClassId} {ad qn qt qs : Nat → Nat} {qh : Nat → Nat → Nat} {bd : Nat → Nat} {xs : Nat → Int32} {i : Nat} {A : zPX} {B : zPM} (h : zRI A B) : zArmD G D cy l (zIn cy ad qn qt qs qh bd) yX5_droppedLoops wsX5_droppedLoops [.ref (ad 0)] yX6_droppedLoops wsX6_droppedLoops [.ref (bd 0)] (A.w cy ad qn qt qs qh) (B.w cy bd) := by
  exact zAD (C_X5_droppedLoops hg.1.1.1.1 l D cy ad qn qt qs qh _ _ _ _ _ _ _ _ _ _ _ _ _ _ _ _ _ _ _ _ _ _ _ _ _ _ _ _ _ _ _ _ _ _ _ _ _ _ _ _ _ _) (C_X6_droppedLoops hg.1.1.1.1 l D cy bd _ _ _ _ _ _ _ _ _ _ _ _ _ _ _ _ _ _ _ _ _) (h.cur.v9.symm) (zIn.mk' ⟨h.cur, h.sno, h.sns, h.his, h.rea, h.txt, h.out⟩)

theorem arm_isInWork {G : zG} (hg : zGW G) {l : Launch} (hfl : l.stackTraces = false) {D : va_G} {cy : Nat → ClassId} {ad qn qt qs : Nat → Nat} {qh : Nat → Nat → Nat} {bd : Nat → Nat} {xs : Nat → Int32} {i : Nat} {A : zPX} {B : zPM} (h : zRI A B) : zArmS G D cy l (zIn cy ad qn qt qs qh bd) (bd 0) yL_isInWork wsL_isInWork [.ref (ad 0), .int (xs (i + 1)), .ref (ad 12)] yX6_isInWork wsX6_isInWork [.ref (bd 0), .int (xs (i + 1))] (fun w' b => zOut (ad 12) cy w' (if b = 0 then 0 else 1)) (A.w cy ad qn qt qs qh) (B.w cy bd) := by
  rcases zin_of (n := 24) (by decide) (xs (i + 1)) with ⟨k, hk, ek⟩ | ⟨hq, hq2⟩
  · rw [ek]
    exact zAS (C_L_isInWork_ok hg l hfl D cy ad qn qt qs qh _ _ _ _ _ _ _ _ _ _ _ _ _ _ _ _ _ _ _ _ _ _ _ _ _ _ _ _ _ _ _ _ _ _ _ _ _ _ _ _ _ _ _ hk) (C_X6_isInWork_ok hg.1.1.1.1 l D cy bd _ _ _ _ _ _ _ _ _ _ _ _ _ _ _ _ _ _ _ _ _ _ hk) (C_X6_thrown hg.1.1.1.1 l D cy bd _ _ _ _ _ _ _ _ _ _ _ _ _ _ _ _ _ _ _ _ _) (fun _ => zo1 (by rw [h.cur.v0]; cases zb _ _ <;> rfl)) (zIn.mk' ⟨h.cur, h.sno, h.sns, h.his, h.rea, h.txt, h.out⟩)
  · exact zAS (C_L_isInWork_bad hg l hfl D cy ad qn qt qs qh _ _ _ _ _ _ _ _ _ _ _ _ _ _ _ _ _ _ _ _ _ _ _ _ _ _ _ _ _ _ _ _ _ _ _ _ _ _ _ _ _ _ _ hq) (C_X6_isInWork_bad hg.1.1.1.1 l D cy bd _ _ _ _ _ _ _ _ _ _ _ _ _ _ _ _ _ _ _ _ _ _ hq2) (C_X6_thrown hg.1.1.1.1 l D cy bd _ _ _ _ _ _ _ _ _ _ _ _ _ _ _ _ _ _ _ _ _) (fun z => absurd z (by decide)) (zIn.mk' ⟨h.cur, h.sno, h.sns, h.his, h.rea, h.txt, h.out⟩)

theorem arm_isOnHold {G : zG} (hg : zGW G) {l : Launch} (hfl : l.stackTraces = false) {D : va_G} {cy : Nat → ClassId} {ad qn qt qs : Nat → Nat} {qh : Nat → Nat → Nat} {bd : Nat → Nat} {xs : Nat → Int32} {i : Nat} {A : zPX} {B : zPM} (h : zRI A B) : zArmS G D cy l (zIn cy ad qn qt qs qh bd) (bd 0) yL_isOnHold wsL_isOnHold [.ref (ad 0), .int (xs (i + 1)), .ref (ad 12)] yX6_isOnHold wsX6_isOnHold [.ref (bd 0), .int (xs (i + 1))] (fun w' b => zOut (ad 12) cy w' (if b = 0 then 0 else 1)) (A.w cy ad qn qt qs qh) (B.w cy bd) := by
  rcases zin_of (n := 24) (by decide) (xs (i + 1)) with ⟨k, hk, ek⟩ | ⟨hq, hq2⟩
  · rw [ek]
    exact zAS (C_L_isOnHold_ok hg l hfl D cy ad qn qt qs qh _ _ _ _ _ _ _ _ _ _ _ _ _ _ _ _ _ _ _ _ _ _ _ _ _ _ _ _ _ _ _ _ _ _ _ _ _ _ _ _ _ _ _ hk) (C_X6_isOnHold_ok hg.1.1.1.1 l D cy bd _ _ _ _ _ _ _ _ _ _ _ _ _ _ _ _ _ _ _ _ _ _ hk) (C_X6_thrown hg.1.1.1.1 l D cy bd _ _ _ _ _ _ _ _ _ _ _ _ _ _ _ _ _ _ _ _ _) (fun _ => zo1 (by rw [h.cur.v1]; cases zb _ _ <;> rfl)) (zIn.mk' ⟨h.cur, h.sno, h.sns, h.his, h.rea, h.txt, h.out⟩)
  · exact zAS (C_L_isOnHold_bad hg l hfl D cy ad qn qt qs qh _ _ _ _ _ _ _ _ _ _ _ _ _ _ _ _ _ _ _ _ _ _ _ _ _ _ _ _ _ _ _ _ _ _ _ _ _ _ _ _ _ _ _ hq) (C_X6_isOnHold_bad hg.1.1.1.1 l D cy bd _ _ _ _ _ _ _ _ _ _ _ _ _ _ _ _ _ _ _ _ _ _ hq2) (C_X6_thrown hg.1.1.1.1 l D cy bd _ _ _ _ _ _ _ _ _ _ _ _ _ _ _ _ _ _ _ _ _) (fun z => absurd z (by decide)) (zIn.mk' ⟨h.cur, h.sno, h.sns, h.his, h.rea, h.txt, h.out⟩)

theorem arm_loopsOn {G : zG} (hg : zGW G) {l : Launch} (hfl : l.stackTraces = false) {D : va_G} {cy : Nat → ClassId} {ad qn qt qs : Nat → Nat} {qh : Nat → Nat → Nat} {bd : Nat → Nat} {xs : Nat → Int32} {i : Nat} {A : zPX} {B : zPM} (h : zRI A B) : zArmS G D cy l (zIn cy ad qn qt qs qh bd) (bd 0) yL_loopsOn wsL_loopsOn [.ref (ad 0), .int (xs (i + 1)), .ref (ad 12)] yX6_loopsOn wsX6_loopsOn [.ref (bd 0), .int (xs (i + 1))] (fun w' b => zOut (ad 12) cy w' b.toInt64) (A.w cy ad qn qt qs qh) (B.w cy bd) := by
  rcases zin_of (n := 24) (by decide) (xs (i + 1)) with ⟨k, hk, ek⟩ | ⟨hq, hq2⟩
  · rw [ek]
    exact zAS (C_L_loopsOn_ok hg l hfl D cy ad qn qt qs qh _ _ _ _ _ _ _ _ _ _ _ _ _ _ _ _ _ _ _ _ _ _ _ _ _ _ _ _ _ _ _ _ _ _ _ _ _ _ _ _ _ _ _ hk) (C_X6_loopsOn_ok hg.1.1.1.1 l D cy bd _ _ _ _ _ _ _ _ _ _ _ _ _ _ _ _ _ _ _ _ _ _ hk) (C_X6_thrown hg.1.1.1.1 l D cy bd _ _ _ _ _ _ _ _ _ _ _ _ _ _ _ _ _ _ _ _ _) (fun _ => zo1 (by rw [h.cur.lo _ hk])) (zIn.mk' ⟨h.cur, h.sno, h.sns, h.his, h.rea, h.txt, h.out⟩)
  · exact zAS (C_L_loopsOn_bad hg l hfl D cy ad qn qt qs qh _ _ _ _ _ _ _ _ _ _ _ _ _ _ _ _ _ _ _ _ _ _ _ _ _ _ _ _ _ _ _ _ _ _ _ _ _ _ _ _ _ _ _ hq) (C_X6_loopsOn_bad hg.1.1.1.1 l D cy bd _ _ _ _ _ _ _ _ _ _ _ _ _ _ _ _ _ _ _ _ _ _ hq2) (C_X6_thrown hg.1.1.1.1 l D cy bd _ _ _ _ _ _ _ _ _ _ _ _ _ _ _ _ _ _ _ _ _) (fun z => absurd z (by decide)) (zIn.mk' ⟨h.cur, h.sno, h.sns, h.his, h.rea, h.txt, h.out⟩)

theorem arm_yarnIn {G : zG} (hg : zGW G) {l : Launch} (hfl : l.stackTraces = false) {D : va_G} {cy : Nat → ClassId} {ad qn qt qs : Nat → Nat} {qh : Nat → Nat → Nat} {bd : Nat → Nat} {xs : Nat → Int32} {i : Nat} {A : zPX} {B : zPM} (h : zRI A B) : zArmS G D cy l (zIn cy ad qn qt qs qh bd) (bd 0) yL_yarnIn wsL_yarnIn [.ref (ad 0), .int (xs (i + 1)), .ref (ad 12)] yX6_yarnIn wsX6_yarnIn [.ref (bd 0), .int (xs (i + 1))] (fun w' b => zOut (ad 12) cy w' b.toInt64) (A.w cy ad qn qt qs qh) (B.w cy bd) := by
  rcases zin_of (n := 4) (by decide) (xs (i + 1)) with ⟨k, hk, ek⟩ | ⟨hq, hq2⟩
  · rw [ek]
    exact zAS (C_L_yarnIn_ok hg l hfl D cy ad qn qt qs qh _ _ _ _ _ _ _ _ _ _ _ _ _ _ _ _ _ _ _ _ _ _ _ _ _ _ _ _ _ _ _ _ _ _ _ _ _ _ _ _ _ _ _ hk) (C_X6_yarnIn_ok hg.1.1.1.1 l D cy bd _ _ _ _ _ _ _ _ _ _ _ _ _ _ _ _ _ _ _ _ _ _ hk) (C_X6_thrown hg.1.1.1.1 l D cy bd _ _ _ _ _ _ _ _ _ _ _ _ _ _ _ _ _ _ _ _ _) (fun _ => zo1 (by rw [h.cur.yn _ hk])) (zIn.mk' ⟨h.cur, h.sno, h.sns, h.his, h.rea, h.txt, h.out⟩)
  · exact zAS (C_L_yarnIn_bad hg l hfl D cy ad qn qt qs qh _ _ _ _ _ _ _ _ _ _ _ _ _ _ _ _ _ _ _ _ _ _ _ _ _ _ _ _ _ _ _ _ _ _ _ _ _ _ _ _ _ _ _ hq) (C_X6_yarnIn_bad hg.1.1.1.1 l D cy bd _ _ _ _ _ _ _ _ _ _ _ _ _ _ _ _ _ _ _ _ _ _ hq2) (C_X6_thrown hg.1.1.1.1 l D cy bd _ _ _ _ _ _ _ _ _ _ _ _ _ _ _ _ _ _ _ _ _) (fun z => absurd z (by decide)) (zIn.mk' ⟨h.cur, h.sno, h.sns, h.his, h.rea, h.txt, h.out⟩)

theorem arm_widthOf {G : zG} (hg : zGW G) {l : Launch} (hfl : l.stackTraces = false) {D : va_G} {cy : Nat → ClassId} {ad qn qt qs : Nat → Nat} {qh : Nat → Nat → Nat} {bd : Nat → Nat} {xs : Nat → Int32} {i : Nat} {A : zPX} {B : zPM} (h : zRI A B) : zArmS G D cy l (zIn cy ad qn qt qs qh bd) (bd 0) yL_widthOf wsL_widthOf [.ref (ad 0), .int (xs (i + 1)), .ref (ad 12)] yX6_widthOf wsX6_widthOf [.ref (bd 0), .int (xs (i + 1))] (fun w' b => zOut (ad 12) cy w' b.toInt64) (A.w cy ad qn qt qs qh) (B.w cy bd) := by
  rcases zin_of (n := A.nu 2) (by have := h.cur.gd.n2; omega) (xs (i + 1)) with ⟨k, hk, ek⟩ | ⟨hq, hq2⟩
  · rw [ek]
    exact zAS (C_L_widthOf_ok hg l hfl D cy ad qn qt qs qh _ _ _ _ _ _ _ _ _ _ _ _ _ _ _ _ _ _ _ _ _ _ _ _ _ _ _ _ _ _ _ _ _ _ _ _ _ _ _ _ _ _ _ hk h.cur.gd.n2) (C_X6_widthOf_ok hg.1.1.1.1 l D cy bd _ _ _ _ _ _ _ _ _ _ _ _ _ _ _ _ _ _ _ _ _ _ _ h.cur.v5 h.cur.gd.n2 hk) (C_X6_thrown hg.1.1.1.1 l D cy bd _ _ _ _ _ _ _ _ _ _ _ _ _ _ _ _ _ _ _ _ _) (fun _ => zo1 (congrArg Int32.toInt64 (h.cur.cw _ hk).symm)) (zIn.mk' ⟨h.cur, h.sno, h.sns, h.his, h.rea, h.txt, h.out⟩)
  · exact zAS (C_L_widthOf_bad hg l hfl D cy ad qn qt qs qh _ _ _ _ _ _ _ _ _ _ _ _ _ _ _ _ _ _ _ _ _ _ _ _ _ _ _ _ _ _ _ _ _ _ _ _ _ _ _ _ _ _ _ hq) (C_X6_widthOf_bad hg.1.1.1.1 l D cy bd _ _ _ _ _ _ _ _ _ _ _ _ _ _ _ _ _ _ _ _ _ _ (by rw [h.cur.v5]; exact hq2)) (C_X6_thrown hg.1.1.1.1 l D cy bd _ _ _ _ _ _ _ _ _ _ _ _ _ _ _ _ _ _ _ _ _) (fun z => absurd z (by decide)) (zIn.mk' ⟨h.cur, h.sno, h.sns, h.his, h.rea, h.txt, h.out⟩)

theorem arm_yarnOf {G : zG} (hg : zGW G) {l : Launch} (hfl : l.stackTraces = false) {D : va_G} {cy : Nat → ClassId} {ad qn qt qs : Nat → Nat} {qh : Nat → Nat → Nat} {bd : Nat → Nat} {xs : Nat → Int32} {i : Nat} {A : zPX} {B : zPM} (h : zRI A B) : zArmS G D cy l (zIn cy ad qn qt qs qh bd) (bd 0) yL_yarnOf wsL_yarnOf [.ref (ad 0), .int (xs (i + 1)), .ref (ad 12)] yX6_yarnOf wsX6_yarnOf [.ref (bd 0), .int (xs (i + 1))] (fun w' b => zOut (ad 12) cy w' b.toInt64) (A.w cy ad qn qt qs qh) (B.w cy bd) := by
  rcases zin_of (n := A.nu 2) (by have := h.cur.gd.n2; omega) (xs (i + 1)) with ⟨k, hk, ek⟩ | ⟨hq, hq2⟩
  · rw [ek]
    exact zAS (C_L_yarnOf_ok hg l hfl D cy ad qn qt qs qh _ _ _ _ _ _ _ _ _ _ _ _ _ _ _ _ _ _ _ _ _ _ _ _ _ _ _ _ _ _ _ _ _ _ _ _ _ _ _ _ _ _ _ hk h.cur.gd.n2) (C_X6_yarnOf_ok hg.1.1.1.1 l D cy bd _ _ _ _ _ _ _ _ _ _ _ _ _ _ _ _ _ _ _ _ _ _ _ h.cur.v5 h.cur.gd.n2 hk) (C_X6_thrown hg.1.1.1.1 l D cy bd _ _ _ _ _ _ _ _ _ _ _ _ _ _ _ _ _ _ _ _ _) (fun _ => zo1 (congrArg Int32.toInt64 (h.cur.cy _ hk).symm)) (zIn.mk' ⟨h.cur, h.sno, h.sns, h.his, h.rea, h.txt, h.out⟩)
  · exact zAS (C_L_yarnOf_bad hg l hfl D cy ad qn qt qs qh _ _ _ _ _ _ _ _ _ _ _ _ _ _ _ _ _ _ _ _ _ _ _ _ _ _ _ _ _ _ _ _ _ _ _ _ _ _ _ _ _ _ _ hq) (C_X6_yarnOf_bad hg.1.1.1.1 l D cy bd _ _ _ _ _ _ _ _ _ _ _ _ _ _ _ _ _ _ _ _ _ _ (by rw [h.cur.v5]; exact hq2)) (C_X6_thrown hg.1.1.1.1 l D cy bd _ _ _ _ _ _ _ _ _ _ _ _ _ _ _ _ _ _ _ _ _) (fun z => absurd z (by decide)) (zIn.mk' ⟨h.cur, h.sno, h.sns, h.his, h.rea, h.txt, h.out⟩)

theorem arm_feederOf {G : zG} (hg : zGW G) {l : Launch} (hfl : l.stackTraces = false) {D : va_G} {cy : Nat → ClassId} {ad qn qt qs : Nat → Nat} {qh : Nat → Nat → Nat} {bd : Nat → Nat} {xs : Nat → Int32} {i : Nat} {A : zPX} {B : zPM} (h : zRI A B) : zArmS G D cy l (zIn cy ad qn qt qs qh bd) (bd 0) yL_feederOf wsL_feederOf [.ref (ad 0), .int (xs (i + 1)), .ref (ad 12)] yX6_feederOf wsX6_feederOf [.ref (bd 0), .int (xs (i + 1))] (fun w' b => zOut (ad 12) cy w' b.toInt64) (A.w cy ad qn qt qs qh) (B.w cy bd) := by
  rcases zin_of (n := A.nu 2) (by have := h.cur.gd.n2; omega) (xs (i + 1)) with ⟨k, hk, ek⟩ | ⟨hq, hq2⟩
  · rw [ek]
    exact zAS (C_L_feederOf_ok hg l hfl D cy ad qn qt qs qh _ _ _ _ _ _ _ _ _ _ _ _ _ _ _ _ _ _ _ _ _ _ _ _ _ _ _ _ _ _ _ _ _ _ _ _ _ _ _ _ _ _ _ hk h.cur.gd.n2) (C_X6_feederOf_ok hg.1.1.1.1 l D cy bd _ _ _ _ _ _ _ _ _ _ _ _ _ _ _ _ _ _ _ _ _ _ _ h.cur.v5 h.cur.gd.n2 hk) (C_X6_thrown hg.1.1.1.1 l D cy bd _ _ _ _ _ _ _ _ _ _ _ _ _ _ _ _ _ _ _ _ _) (fun _ => zo1 (congrArg Int32.toInt64 (h.cur.cf _ hk).symm)) (zIn.mk' ⟨h.cur, h.sno, h.sns, h.his, h.rea, h.txt, h.out⟩)
  · exact zAS (C_L_feederOf_bad hg l hfl D cy ad qn qt qs qh _ _ _ _ _ _ _ _ _ _ _ _ _ _ _ _ _ _ _ _ _ _ _ _ _ _ _ _ _ _ _ _ _ _ _ _ _ _ _ _ _ _ _ hq) (C_X6_feederOf_bad hg.1.1.1.1 l D cy bd _ _ _ _ _ _ _ _ _ _ _ _ _ _ _ _ _ _ _ _ _ _ (by rw [h.cur.v5]; exact hq2)) (C_X6_thrown hg.1.1.1.1 l D cy bd _ _ _ _ _ _ _ _ _ _ _ _ _ _ _ _ _ _ _ _ _) (fun z => absurd z (by decide)) (zIn.mk' ⟨h.cur, h.sno, h.sns, h.his, h.rea, h.txt, h.out⟩)

theorem arm_dropsOf {G : zG} (hg : zGW G) {l : Launch} (hfl : l.stackTraces = false) {D : va_G} {cy : Nat → ClassId} {ad qn qt qs : Nat → Nat} {qh : Nat → Nat → Nat} {bd : Nat → Nat} {xs : Nat → Int32} {i : Nat} {A : zPX} {B : zPM} (h : zRI A B) : zArmS G D cy l (zIn cy ad qn qt qs qh bd) (bd 0) yL_dropsOf wsL_dropsOf [.ref (ad 0), .int (xs (i + 1)), .ref (ad 12)] yX6_dropsOf wsX6_dropsOf [.ref (bd 0), .int (xs (i + 1))] (fun w' b => zOut (ad 12) cy w' b.toInt64) (A.w cy ad qn qt qs qh) (B.w cy bd) := by
  rcases zin_of (n := A.nu 2) (by have := h.cur.gd.n2; omega) (xs (i + 1)) with ⟨k, hk, ek⟩ | ⟨hq, hq2⟩
  · rw [ek]
    exact zAS (C_L_dropsOf_ok hg l hfl D cy ad qn qt qs qh _ _ _ _ _ _ _ _ _ _ _ _ _ _ _ _ _ _ _ _ _ _ _ _ _ _ _ _ _ _ _ _ _ _ _ _ _ _ _ _ _ _ _ hk h.cur.gd.n2) (C_X6_dropsOf_ok hg.1.1.1.1 l D cy bd _ _ _ _ _ _ _ _ _ _ _ _ _ _ _ _ _ _ _ _ _ _ _ h.cur.v5 h.cur.gd.n2 hk) (C_X6_thrown hg.1.1.1.1 l D cy bd _ _ _ _ _ _ _ _ _ _ _ _ _ _ _ _ _ _ _ _ _) (fun _ => zo1 (congrArg Int32.toInt64 (h.cur.cd _ hk).symm)) (zIn.mk' ⟨h.cur, h.sno, h.sns, h.his, h.rea, h.txt, h.out⟩)
  · exact zAS (C_L_dropsOf_bad hg l hfl D cy ad qn qt qs qh _ _ _ _ _ _ _ _ _ _ _ _ _ _ _ _ _ _ _ _ _ _ _ _ _ _ _ _ _ _ _ _ _ _ _ _ _ _ _ _ _ _ _ hq) (C_X6_dropsOf_bad hg.1.1.1.1 l D cy bd _ _ _ _ _ _ _ _ _ _ _ _ _ _ _ _ _ _ _ _ _ _ (by rw [h.cur.v5]; exact hq2)) (C_X6_thrown hg.1.1.1.1 l D cy bd _ _ _ _ _ _ _ _ _ _ _ _ _ _ _ _ _ _ _ _ _) (fun z => absurd z (by decide)) (zIn.mk' ⟨h.cur, h.sno, h.sns, h.his, h.rea, h.txt, h.out⟩)

theorem arm_ageOn {G : zG} (hg : zGW G) {l : Launch} (hfl : l.stackTraces = false) {D : va_G} {cy : Nat → ClassId} {ad qn qt qs : Nat → Nat} {qh : Nat → Nat → Nat} {bd : Nat → Nat} {xs : Nat → Int32} {i : Nat} {A : zPX} {B : zPM} (h : zRI A B) : zArmS G D cy l (zIn cy ad qn qt qs qh bd) (bd 0) yL_ageOn wsL_ageOn [.ref (ad 0), .int (xs (i + 1)), .ref (ad 12)] yX6_ageOn wsX6_ageOn [.ref (bd 0), .int (xs (i + 1))] (fun w' b => zOut (ad 12) cy w' b.toInt64) (A.w cy ad qn qt qs qh) (B.w cy bd) := by
  rcases zin_of (n := 24) (by decide) (xs (i + 1)) with ⟨k, hk, ek⟩ | ⟨hq, hq2⟩
  · rw [ek]
    by_cases h0 : A.mu 0 k = 0
    · exact zAS (C_L_ageOn_bad2 hg l hfl D cy ad qn qt qs qh _ _ _ _ _ _ _ _ _ _ _ _ _ _ _ _ _ _ _ _ _ _ _ _ _ _ _ _ _ _ _ _ _ _ _ _ _ _ _ _ _ _ _ hk h0) (C_X6_ageOn_bad2 hg.1.1.1.1 l D cy bd _ _ _ _ _ _ _ _ _ _ _ _ _ _ _ _ _ _ _ _ _ _ hk (by rw [h.cur.lo _ hk]; exact h0)) (C_X6_thrown hg.1.1.1.1 l D cy bd _ _ _ _ _ _ _ _ _ _ _ _ _ _ _ _ _ _ _ _ _) (fun z => absurd z (by decide)) (zIn.mk' ⟨h.cur, h.sno, h.sns, h.his, h.rea, h.txt, h.out⟩)
    · exact zAS (C_L_ageOn_ok hg l hfl D cy ad qn qt qs qh _ _ _ _ _ _ _ _ _ _ _ _ _ _ _ _ _ _ _ _ _ _ _ _ _ _ _ _ _ _ _ _ _ _ _ _ _ _ _ _ _ _ _ hk h0) (C_X6_ageOn_ok hg.1.1.1.1 l D cy bd _ _ _ _ _ _ _ _ _ _ _ _ _ _ _ _ _ _ _ _ _ _ hk (by rw [h.cur.lo _ hk]; exact h0)) (C_X6_thrown hg.1.1.1.1 l D cy bd _ _ _ _ _ _ _ _ _ _ _ _ _ _ _ _ _ _ _ _ _) (fun _ => zo1 (congrArg Int32.toInt64 (h.cur.ag _ hk).symm)) (zIn.mk' ⟨h.cur, h.sno, h.sns, h.his, h.rea, h.txt, h.out⟩)
  · exact zAS (C_L_ageOn_bad hg l hfl D cy ad qn qt qs qh _ _ _ _ _ _ _ _ _ _ _ _ _ _ _ _ _ _ _ _ _ _ _ _ _ _ _ _ _ _ _ _ _ _ _ _ _ _ _ _ _ _ _ hq) (C_X6_ageOn_bad hg.1.1.1.1 l D cy bd _ _ _ _ _ _ _ _ _ _ _ _ _ _ _ _ _ _ _ _ _ _ hq2) (C_X6_thrown hg.1.1.1.1 l D cy bd _ _ _ _ _ _ _ _ _ _ _ _ _ _ _ _ _ _ _ _ _) (fun z => absurd z (by decide)) (zIn.mk' ⟨h.cur, h.sno, h.sns, h.his, h.rea, h.txt, h.out⟩)

theorem arm_nextDropped {G : zG} (hg : zGW G) {l : Launch} (hfl : l.stackTraces = false) {D : va_G} {cy : Nat → ClassId} {ad qn qt qs : Nat → Nat} {qh : Nat → Nat → Nat} {bd : Nat → Nat} {xs : Nat → Int32} {i : Nat} {A : zPX} {B : zPM} (h : zRI A B) : zArmS G D cy l (zIn cy ad qn qt qs qh bd) (bd 0) yL_nextDropped wsL_nextDropped [.ref (ad 0), .int (xs (i + 1)), .ref (ad 12)] yX6_nextDropped wsX6_nextDropped [.ref (bd 0), .int (xs (i + 1))] (fun w' b => zOut (ad 12) cy w' b.toInt64) (A.w cy ad qn qt qs qh) (B.w cy bd) := by
  rcases zin_of (n := 24) (by decide) (xs (i + 1)) with ⟨k, hk, ek⟩ | ⟨hq, hq2⟩
  · rw [ek]
    have e : zfi (fun j => zb (B.v 0) (nI j) && decide (B.v (10 + j) = 0)) (24 - k) k = zfi (fun j => zb (A.mu 8 0) (nI j) && decide (A.mu 0 j = 0)) (24 - k) k := zfi_cong _ _ fun j _ h2 => by
      show (_ && _) = (_ && _)
      rw [h.cur.v0, h.cur.lo j (by omega)]
    by_cases h0 : zfi (fun j => zb (A.mu 8 0) (nI j) && decide (A.mu 0 j = 0)) (24 - k) k = -1
    · exact zAS (C_L_nextDropped_bad2 hg l hfl D cy ad qn qt qs qh _ _ _ _ _ _ _ _ _ _ _ _ _ _ _ _ _ _ _ _ _ _ _ _ _ _ _ _ _ _ _ _ _ _ _ _ _ _ _ _ _ _ _ hk h0) (C_X6_nextDropped_f2 hg.1.1.1.1 l D cy bd _ _ _ _ _ _ _ _ _ _ _ _ _ _ _ _ _ _ _ _ _ _ hk (by rw [e]; exact h0)) (C_X6_thrown hg.1.1.1.1 l D cy bd _ _ _ _ _ _ _ _ _ _ _ _ _ _ _ _ _ _ _ _ _) (fun z => absurd z (by decide)) (zIn.mk' ⟨h.cur, h.sno, h.sns, h.his, h.rea, h.txt, h.out⟩)
    · exact zAS (C_L_nextDropped_ok hg l hfl D cy ad qn qt qs qh _ _ _ _ _ _ _ _ _ _ _ _ _ _ _ _ _ _ _ _ _ _ _ _ _ _ _ _ _ _ _ _ _ _ _ _ _ _ _ _ _ _ _ hk h0) (C_X6_nextDropped_ok hg.1.1.1.1 l D cy bd _ _ _ _ _ _ _ _ _ _ _ _ _ _ _ _ _ _ _ _ _ _ hk (by rw [e]; exact h0)) (C_X6_thrown hg.1.1.1.1 l D cy bd _ _ _ _ _ _ _ _ _ _ _ _ _ _ _ _ _ _ _ _ _) (fun _ => zo1 (congrArg Int32.toInt64 e.symm)) (zIn.mk' ⟨h.cur, h.sno, h.sns, h.his, h.rea, h.txt, h.out⟩)
  · exact zAS (C_L_nextDropped_bad hg l hfl D cy ad qn qt qs qh _ _ _ _ _ _ _ _ _ _ _ _ _ _ _ _ _ _ _ _ _ _ _ _ _ _ _ _ _ _ _ _ _ _ _ _ _ _ _ _ _ _ _ hq) (C_X6_nextDropped_bad hg.1.1.1.1 l D cy bd _ _ _ _ _ _ _ _ _ _ _ _ _ _ _ _ _ _ _ _ _ _ hq2) (C_X6_thrown hg.1.1.1.1 l D cy bd _ _ _ _ _ _ _ _ _ _ _ _ _ _ _ _ _ _ _ _ _) (fun z => absurd z (by decide)) (zIn.mk' ⟨h.cur, h.sno, h.sns, h.his, h.rea, h.txt, h.out⟩)

theorem arm_isKnit {G : zG} (hg : zGW G) {l : Launch} (hfl : l.stackTraces = false) {D : va_G} {cy : Nat → ClassId} {ad qn qt qs : Nat → Nat} {qh : Nat → Nat → Nat} {bd : Nat → Nat} {xs : Nat → Int32} {i : Nat} {A : zPX} {B : zPM} (h : zRI A B) : zArmS G D cy l (zIn cy ad qn qt qs qh bd) (bd 0) yL_isKnit wsL_isKnit [.ref (ad 0), .int (xs (i + 1)), .int (xs (i + 2)), .ref (ad 12)] yX6_isKnit wsX6_isKnit [.ref (bd 0), .int (xs (i + 1)), .int (xs (i + 2))] (fun w' b => zOut (ad 12) cy w' (if b = 0 then 0 else 1)) (A.w cy ad qn qt qs qh) (B.w cy bd) := by
  rcases zin_of (n := A.nu 1) (by have := h.cur.gd.n1; omega) (xs (i + 1)) with ⟨r, hr, er⟩ | ⟨hq, hq2⟩
  · rcases zin_of (n := 8) (by decide) (xs (i + 2)) with ⟨k, hk, ek⟩ | ⟨hq, hq2⟩
    · rw [er, ek]
      exact zAS (C_L_isKnit_ok hg l hfl D cy ad qn qt qs qh _ _ _ _ _ _ _ _ _ _ _ _ _ _ _ _ _ _ _ _ _ _ _ _ _ _ _ _ _ _ _ _ _ _ _ _ _ _ _ _ _ _ _ _ h.cur.gd.n1 hr hk) (C_X6_isKnit_ok hg.1.1.1.1 l D cy bd _ _ _ _ _ _ _ _ _ _ _ _ _ _ _ _ _ _ _ _ _ _ _ _ h.cur.v4 h.cur.gd.n1 hr hk) (C_X6_thrown hg.1.1.1.1 l D cy bd _ _ _ _ _ _ _ _ _ _ _ _ _ _ _ _ _ _ _ _ _) (fun _ => zo1 (by rw [h.cur.ro _ hr]; cases zb _ _ <;> rfl)) (zIn.mk' ⟨h.cur, h.sno, h.sns, h.his, h.rea, h.txt, h.out⟩)
    · exact zAS (C_L_isKnit_bad hg l hfl D cy ad qn qt qs qh _ _ _ _ _ _ _ _ _ _ _ _ _ _ _ _ _ _ _ _ _ _ _ _ _ _ _ _ _ _ _ _ _ _ _ _ _ _ _ _ _ _ _ _ (by rw [show zin 0 8 (xs (i + 2)) = false from hq, Bool.and_false])) (C_X6_isKnit_bad hg.1.1.1.1 l D cy bd _ _ _ _ _ _ _ _ _ _ _ _ _ _ _ _ _ _ _ _ _ _ _ (by rw [show zic 0 7 (xs (i + 2)) = false from hq2, Bool.and_false])) (C_X6_thrown hg.1.1.1.1 l D cy bd _ _ _ _ _ _ _ _ _ _ _ _ _ _ _ _ _ _ _ _ _) (fun z => absurd z (by decide)) (zIn.mk' ⟨h.cur, h.sno, h.sns, h.his, h.rea, h.txt, h.out⟩)
  · exact zAS (C_L_isKnit_bad hg l hfl D cy ad qn qt qs qh _ _ _ _ _ _ _ _ _ _ _ _ _ _ _ _ _ _ _ _ _ _ _ _ _ _ _ _ _ _ _ _ _ _ _ _ _ _ _ _ _ _ _ _ (by rw [hq, Bool.false_and])) (C_X6_isKnit_bad hg.1.1.1.1 l D cy bd _ _ _ _ _ _ _ _ _ _ _ _ _ _ _ _ _ _ _ _ _ _ _ (by rw [h.cur.v4, hq2, Bool.false_and])) (C_X6_thrown hg.1.1.1.1 l D cy bd _ _ _ _ _ _ _ _ _ _ _ _ _ _ _ _ _ _ _ _ _) (fun z => absurd z (by decide)) (zIn.mk' ⟨h.cur, h.sno, h.sns, h.his, h.rea, h.txt, h.out⟩)

theorem arm_rejectionReason {G : zG} (hg : zGW G) {l : Launch} (hfl : l.stackTraces = false) {D : va_G} {cy : Nat → ClassId} {ad qn qt qs : Nat → Nat} {qh : Nat → Nat → Nat} {bd : Nat → Nat} {xs : Nat → Int32} {i : Nat} {A : zPX} {B : zPM} (h : zRI A B) : zArmS G D cy l (zIn cy ad qn qt qs qh bd) (bd 0) yL_rejectionReason wsL_rejectionReason [.ref (ad 0), .ref (ad 12)] yX6_rejectionReason wsX6_rejectionReason [.ref (bd 0)] (fun w' b => zOut (ad 12) cy w' b.toInt64) (A.w cy ad qn qt qs qh) (B.w cy bd) := by
  by_cases h0 : A.lre = 0
  · exact zAS (C_L_rejectionReason_bad hg l hfl D cy ad qn qt qs qh _ _ _ _ _ _ _ _ _ _ _ _ _ _ _ _ _ _ _ _ _ _ _ _ _ _ _ _ _ _ _ _ _ _ _ _ _ _ _ _ _ _ h0) (C_X6_rejectionReason_bad hg.1.1.1.1 l D cy bd _ _ _ _ _ _ _ _ _ _ _ _ _ _ _ _ _ _ _ _ _ (by rw [h.rea.re]; exact h0)) (C_X6_thrown hg.1.1.1.1 l D cy bd _ _ _ _ _ _ _ _ _ _ _ _ _ _ _ _ _ _ _ _ _) (fun z => absurd z (by decide)) (zIn.mk' ⟨h.cur, h.sno, h.sns, h.his, h.rea, h.txt, h.out⟩)
  · exact zAS (C_L_rejectionReason_ok hg l hfl D cy ad qn qt qs qh _ _ _ _ _ _ _ _ _ _ _ _ _ _ _ _ _ _ _ _ _ _ _ _ _ _ _ _ _ _ _ _ _ _ _ _ _ _ _ _ _ _ h0) (C_X6_rejectionReason_ok hg.1.1.1.1 l D cy bd _ _ _ _ _ _ _ _ _ _ _ _ _ _ _ _ _ _ _ _ _ (by rw [h.rea.re]; exact h0)) (C_X6_thrown hg.1.1.1.1 l D cy bd _ _ _ _ _ _ _ _ _ _ _ _ _ _ _ _ _ _ _ _ _) (fun _ => zo1 (congrArg Int32.toInt64 h.rea.re.symm)) (zIn.mk' ⟨h.cur, h.sno, h.sns, h.his, h.rea, h.txt, h.out⟩)

theorem arm_rejectionDetail {G : zG} (hg : zGW G) {l : Launch} (hfl : l.stackTraces = false) {D : va_G} {cy : Nat → ClassId} {ad qn qt qs : Nat → Nat} {qh : Nat → Nat → Nat} {bd : Nat → Nat} {xs : Nat → Int32} {i : Nat} {A : zPX} {B : zPM} (h : zRI A B) : zArmS G D cy l (zIn cy ad qn qt qs qh bd) (bd 0) yL_rejectionDetail wsL_rejectionDetail [.ref (ad 0), .ref (ad 12)] yX6_rejectionDetail wsX6_rejectionDetail [.ref (bd 0)] (fun w' b => zOut (ad 12) cy w' b.toInt64) (A.w cy ad qn qt qs qh) (B.w cy bd) := by
  by_cases h0 : A.lre = 0
  · exact zAS (C_L_rejectionDetail_bad hg l hfl D cy ad qn qt qs qh _ _ _ _ _ _ _ _ _ _ _ _ _ _ _ _ _ _ _ _ _ _ _ _ _ _ _ _ _ _ _ _ _ _ _ _ _ _ _ _ _ _ h0) (C_X6_rejectionDetail_bad hg.1.1.1.1 l D cy bd _ _ _ _ _ _ _ _ _ _ _ _ _ _ _ _ _ _ _ _ _ (by rw [h.rea.re]; exact h0)) (C_X6_thrown hg.1.1.1.1 l D cy bd _ _ _ _ _ _ _ _ _ _ _ _ _ _ _ _ _ _ _ _ _) (fun z => absurd z (by decide)) (zIn.mk' ⟨h.cur, h.sno, h.sns, h.his, h.rea, h.txt, h.out⟩)
  · exact zAS (C_L_rejectionDetail_ok hg l hfl D cy ad qn qt qs qh _ _ _ _ _ _ _ _ _ _ _ _ _ _ _ _ _ _ _ _ _ _ _ _ _ _ _ _ _ _ _ _ _ _ _ _ _ _ _ _ _ _ h0) (C_X6_rejectionDetail_ok hg.1.1.1.1 l D cy bd _ _ _ _ _ _ _ _ _ _ _ _ _ _ _ _ _ _ _ _ _ (by rw [h.rea.re]; exact h0)) (C_X6_thrown hg.1.1.1.1 l D cy bd _ _ _ _ _ _ _ _ _ _ _ _ _ _ _ _ _ _ _ _ _) (fun _ => zo1 (congrArg Int32.toInt64 h.rea.de.symm)) (zIn.mk' ⟨h.cur, h.sno, h.sns, h.his, h.rea, h.txt, h.out⟩)

theorem arm_causeReason {G : zG} (hg : zGW G) {l : Launch} (hfl : l.stackTraces = false) {D : va_G} {cy : Nat → ClassId} {ad qn qt qs : Nat → Nat} {qh : Nat → Nat → Nat} {bd : Nat → Nat} {xs : Nat → Int32} {i : Nat} {A : zPX} {B : zPM} (h : zRI A B) : zArmS G D cy l (zIn cy ad qn qt qs qh bd) (bd 0) yL_causeReason wsL_causeReason [.ref (ad 0), .ref (ad 12)] yX6_causeReason wsX6_causeReason [.ref (bd 0)] (fun w' b => zOut (ad 12) cy w' b.toInt64) (A.w cy ad qn qt qs qh) (B.w cy bd) := by
  by_cases h0 : A.lre = 15
  · exact zAS (C_L_causeReason_ok hg l hfl D cy ad qn qt qs qh _ _ _ _ _ _ _ _ _ _ _ _ _ _ _ _ _ _ _ _ _ _ _ _ _ _ _ _ _ _ _ _ _ _ _ _ _ _ _ _ _ _ h0) (C_X6_causeReason_ok hg.1.1.1.1 l D cy bd _ _ _ _ _ _ _ _ _ _ _ _ _ _ _ _ _ _ _ _ _ (fun z => h.rea.cn.mp z h0)) (C_X6_thrown hg.1.1.1.1 l D cy bd _ _ _ _ _ _ _ _ _ _ _ _ _ _ _ _ _ _ _ _ _) (fun _ => zo1 (congrArg Int32.toInt64 h.rea.ca.symm)) (zIn.mk' ⟨h.cur, h.sno, h.sns, h.his, h.rea, h.txt, h.out⟩)
  · exact zAS (C_L_causeReason_bad hg l hfl D cy ad qn qt qs qh _ _ _ _ _ _ _ _ _ _ _ _ _ _ _ _ _ _ _ _ _ _ _ _ _ _ _ _ _ _ _ _ _ _ _ _ _ _ _ _ _ _ h0) (C_X6_causeReason_bad hg.1.1.1.1 l D cy bd _ _ _ _ _ _ _ _ _ _ _ _ _ _ _ _ _ _ _ _ _ (h.rea.cn.mpr h0)) (C_X6_thrown hg.1.1.1.1 l D cy bd _ _ _ _ _ _ _ _ _ _ _ _ _ _ _ _ _ _ _ _ _) (fun z => absurd z (by decide)) (zIn.mk' ⟨h.cur, h.sno, h.sns, h.his, h.rea, h.txt, h.out⟩)

theorem arm_syntaxErrorOffset {G : zG} (hg : zGW G) {l : Launch} (hfl : l.stackTraces = false) {D : va_G} {cy : Nat → ClassId} {ad qn qt qs : Nat → Nat} {qh : Nat → Nat → Nat} {bd : Nat → Nat} {xs : Nat → Int32} {i : Nat} {A : zPX} {B : zPM} (h : zRI A B) : zArmS G D cy l (zIn cy ad qn qt qs qh bd) (bd 0) yL_syntaxErrorOffset wsL_syntaxErrorOffset [.ref (ad 0), .ref (ad 12)] yX6_syntaxErrorOffset wsX6_syntaxErrorOffset [.ref (bd 0)] (fun w' b => zOut (ad 12) cy w' b.toInt64) (A.w cy ad qn qt qs qh) (B.w cy bd) := by
  by_cases h0 : A.lse = -1
  · exact zAS (C_L_syntaxErrorOffset_bad hg l hfl D cy ad qn qt qs qh _ _ _ _ _ _ _ _ _ _ _ _ _ _ _ _ _ _ _ _ _ _ _ _ _ _ _ _ _ _ _ _ _ _ _ _ _ _ _ _ _ _ h0) (C_X6_syntaxErrorOffset_bad hg.1.1.1.1 l D cy bd _ _ _ _ _ _ _ _ _ _ _ _ _ _ _ _ _ _ _ _ _ (by rw [h.rea.se, h0]; decide)) (C_X6_thrown hg.1.1.1.1 l D cy bd _ _ _ _ _ _ _ _ _ _ _ _ _ _ _ _ _ _ _ _ _) (fun z => absurd z (by decide)) (zIn.mk' ⟨h.cur, h.sno, h.sns, h.his, h.rea, h.txt, h.out⟩)
  · exact zAS (C_L_syntaxErrorOffset_ok hg l hfl D cy ad qn qt qs qh _ _ _ _ _ _ _ _ _ _ _ _ _ _ _ _ _ _ _ _ _ _ _ _ _ _ _ _ _ _ _ _ _ _ _ _ _ _ _ _ _ _ h0) (C_X6_syntaxErrorOffset_ok hg.1.1.1.1 l D cy bd _ _ _ _ _ _ _ _ _ _ _ _ _ _ _ _ _ _ _ _ _ (h.rea.sn.resolve_left (fun z => h0 (h.rea.se.symm.trans z)))) (C_X6_thrown hg.1.1.1.1 l D cy bd _ _ _ _ _ _ _ _ _ _ _ _ _ _ _ _ _ _ _ _ _) (fun _ => zo1 (congrArg Int32.toInt64 h.rea.se.symm)) (zIn.mk' ⟨h.cur, h.sno, h.sns, h.his, h.rea, h.txt, h.out⟩)

theorem st_selectFeeder {mu : Nat → Nat → Int32} {nu : Nat → Nat} {v : Nat → Int32} (h : zSt mu nu v) {k : Nat} (hk : k < 4) : zSt mu (znk k (nu 1) (nu 2)) (upd v 2 (nI k)) :=
  ⟨⟨hk, h.gd.n1, h.gd.n2, h.gd.wk, h.gd.hk, h.gd.hd, h.gd.lk, h.gd.lw, h.gd.ak, h.gd.al, h.gd.yk, h.gd.rk, h.gd.cw, h.gd.cy, h.gd.cf, h.gd.cd, h.gd.tk⟩, (un (by omega)).trans (h.v0), (un (by omega)).trans (h.v1), upd_s, (un (by omega)).trans (h.v3), (un (by omega)).trans (h.v4), (un (by omega)).trans (h.v5), (un (by omega)).trans (h.v6), (un (by omega)).trans (h.v7), (un (by omega)).trans (h.v8), (un (by omega)).trans (h.v9), fun j hj => (un (by omega)).trans (h.lo j hj), fun j hj => (un (by omega)).trans (h.ag j hj), fun j hj => (un (by omega)).trans (h.yn j hj), fun j hj => (un (by omega)).trans (h.ro j hj), fun j hj => (un (by omega)).trans (h.cw j hj), fun j hj => (un (by omega)).trans (h.cf j hj), fun j hj => (un (by omega)).trans (h.cy j hj), fun j hj => (un (by omega)).trans (h.cd j hj)⟩

theorem st_setTension {mu : Nat → Nat → Int32} {nu : Nat → Nat} {v : Nat → Int32} (h : zSt mu nu v) {u : Int32} (hu : zic 1 9 u = true) : zSt (zmk (mu 0) (mu 1) (mu 2) (mu 3) (mu 4) (mu 5) (mu 6) (mu 7) (mu 8 0) (mu 8 1) u (mu 8 3) (mu 8 4) (mu 8 5) (mu 8 6)) nu (upd v 3 u) :=
  ⟨⟨h.gd.n0, h.gd.n1, h.gd.n2, h.gd.wk, h.gd.hk, h.gd.hd, h.gd.lk, h.gd.lw, h.gd.ak, h.gd.al, h.gd.yk, h.gd.rk, h.gd.cw, h.gd.cy, h.gd.cf, h.gd.cd, zic_nat (lo := 1) (hi := 9) (by decide) (by decide) hu⟩, (un (by omega)).trans (h.v0), (un (by omega)).trans (h.v1), (un (by omega)).trans (h.v2), upd_s, (un (by omega)).trans (h.v4), (un (by omega)).trans (h.v5), (un (by omega)).trans (h.v6), (un (by omega)).trans (h.v7), (un (by omega)).trans (h.v8), (un (by omega)).trans (h.v9), fun j hj => (un (by omega)).trans (h.lo j hj), fun j hj => (un (by omega)).trans (h.ag j hj), fun j hj => (un (by omega)).trans (h.yn j hj), fun j hj => (un (by omega)).trans (h.ro j hj), fun j hj => (un (by omega)).trans (h.cw j hj), fun j hj => (un (by omega)).trans (h.cf j hj), fun j hj => (un (by omega)).trans (h.cy j hj), fun j hj => (un (by omega)).trans (h.cd j hj)⟩

theorem arm_selectFeeder {G : zG} (hg : zGW G) {l : Launch} (hfl : l.stackTraces = false) {D : va_G} {cy : Nat → ClassId} {ad qn qt qs : Nat → Nat} {qh : Nat → Nat → Nat} {bd : Nat → Nat} {xs : Nat → Int32} {i : Nat} {A : zPX} {B : zPM} (h : zRI A B) : zArmS G D cy l (zIn cy ad qn qt qs qh bd) (bd 0) yL_selectFeeder wsL_selectFeeder [.ref (ad 0), .int (xs (i + 1)), .ref (ad 12)] yX6_selectFeeder wsX6_selectFeeder [.ref (bd 0), .int (xs (i + 1))] (fun w' b => zOut (ad 12) cy w' b.toInt64) (A.w cy ad qn qt qs qh) (B.w cy bd) := by
  rcases zin_of (n := 4) (by decide) (xs (i + 1)) with ⟨k, hk, ek⟩ | ⟨hq, hq2⟩
  · rw [ek]
    exact zAS (C_L_selectFeeder_ok hg l hfl D cy ad qn qt qs qh _ _ _ _ _ _ _ _ _ _ _ _ _ _ _ _ _ _ _ _ _ _ _ _ _ _ _ _ _ _ _ _ _ _ _ _ _ _ _ _ _ _ _ h.his.nl h.his.hl hk) (C_X6_selectFeeder_ok hg.1.1.1.1 l D cy bd _ _ _ _ _ _ _ _ _ _ _ _ _ _ _ _ _ _ _ _ _ _ hk (by rw [h.his.ce]; exact h.his.hl)) (C_X6_thrown hg.1.1.1.1 l D cy bd _ _ _ _ _ _ _ _ _ _ _ _ _ _ _ _ _ _ _ _ _) (fun _ => zo1 (congrArg Int32.toInt64 h.cur.v2.symm)) (zIn.mk' ⟨st_selectFeeder h.cur hk, h.sno, h.sns, h.his.push h.cur, h.rea, h.txt, h.out⟩)
  · exact zAS (C_L_selectFeeder_inv hg l hfl D cy ad qn qt qs qh _ _ _ _ _ _ _ _ _ _ _ _ _ _ _ _ _ _ _ _ _ _ _ _ _ _ _ _ _ _ _ _ _ _ _ _ _ _ _ _ _ _ _ hq) (C_X6_selectFeeder_f1 hg.1.1.1.1 l D cy bd _ _ _ _ _ _ _ _ _ _ _ _ _ _ _ _ _ _ _ _ _ _ hq2) (C_X6_thrown hg.1.1.1.1 l D cy bd _ _ _ _ _ _ _ _ _ _ _ _ _ _ _ _ _ _ _ _ _) (fun z => absurd z (by decide)) (zIn.mk' ⟨h.cur, h.sno, h.sns, h.his, h.rea, h.txt, h.out⟩)

theorem arm_setTension {G : zG} (hg : zGW G) {l : Launch} (hfl : l.stackTraces = false) {D : va_G} {cy : Nat → ClassId} {ad qn qt qs : Nat → Nat} {qh : Nat → Nat → Nat} {bd : Nat → Nat} {xs : Nat → Int32} {i : Nat} {A : zPX} {B : zPM} (h : zRI A B) : zArmS G D cy l (zIn cy ad qn qt qs qh bd) (bd 0) yL_setTension wsL_setTension [.ref (ad 0), .int (xs (i + 1)), .ref (ad 12)] yX6_setTension wsX6_setTension [.ref (bd 0), .int (xs (i + 1))] (fun w' b => zOut (ad 12) cy w' b.toInt64) (A.w cy ad qn qt qs qh) (B.w cy bd) := by
  cases hu : zic 1 9 (xs (i + 1))
  · exact zAS (C_L_setTension_inv hg l hfl D cy ad qn qt qs qh _ _ _ _ _ _ _ _ _ _ _ _ _ _ _ _ _ _ _ _ _ _ _ _ _ _ _ _ _ _ _ _ _ _ _ _ _ _ _ _ _ _ _ hu) (C_X6_setTension_f1 hg.1.1.1.1 l D cy bd _ _ _ _ _ _ _ _ _ _ _ _ _ _ _ _ _ _ _ _ _ _ hu) (C_X6_thrown hg.1.1.1.1 l D cy bd _ _ _ _ _ _ _ _ _ _ _ _ _ _ _ _ _ _ _ _ _) (fun z => absurd z (by decide)) (zIn.mk' ⟨h.cur, h.sno, h.sns, h.his, h.rea, h.txt, h.out⟩)
  · exact zAS (C_L_setTension_ok hg l hfl D cy ad qn qt qs qh _ _ _ _ _ _ _ _ _ _ _ _ _ _ _ _ _ _ _ _ _ _ _ _ _ _ _ _ _ _ _ _ _ _ _ _ _ _ _ _ _ _ _ h.his.nl h.his.hl hu) (C_X6_setTension_ok hg.1.1.1.1 l D cy bd _ _ _ _ _ _ _ _ _ _ _ _ _ _ _ _ _ _ _ _ _ _ hu (by rw [h.his.ce]; exact h.his.hl)) (C_X6_thrown hg.1.1.1.1 l D cy bd _ _ _ _ _ _ _ _ _ _ _ _ _ _ _ _ _ _ _ _ _) (fun _ => zo1 (congrArg Int32.toInt64 h.cur.v3.symm)) (zIn.mk' ⟨(st_setTension h.cur hu), h.sno, h.sns, h.his.push h.cur, h.rea, h.txt, h.out⟩)

theorem arm_saveSnapshot {G : zG} (hg : zGW G) {l : Launch} (hfl : l.stackTraces = false) {D : va_G} {cy : Nat → ClassId} {ad qn qt qs : Nat → Nat} {qh : Nat → Nat → Nat} {bd : Nat → Nat} {xs : Nat → Int32} {i : Nat} {A : zPX} {B : zPM} (h : zRI A B) : zArmD G D cy l (zIn cy ad qn qt qs qh bd) yX5_saveSnapshot wsX5_saveSnapshot [.ref (ad 0)] yX6_saveSnapshot wsX6_saveSnapshot [.ref (bd 0)] (A.w cy ad qn qt qs qh) (B.w cy bd) := by
  exact zAD (C_X5_saveSnapshot hg.1.1.1.1 l D cy ad qn qt qs qh _ _ _ _ _ _ _ _ _ _ _ _ _ _ _ _ _ _ _ _ _ _ _ _ _ _ _ _ _ _ _ _ _ _ _ _ _ _ _ _ _ _) (C_X6_saveSnapshot hg.1.1.1.1 l D cy bd _ _ _ _ _ _ _ _ _ _ _ _ _ _ _ _ _ _ _ _ _) h.cur.v5.symm (zIn.mk' ⟨h.cur, rfl, fun _ => h.cur, h.his, h.rea, h.txt, h.out⟩)

theorem arm_needlesInWork {G : zG} (hg : zGW G) {l : Launch} (hfl : l.stackTraces = false) {D : va_G} {cy : Nat → ClassId} {ad qn qt qs : Nat → Nat} {qh : Nat → Nat → Nat} {bd : Nat → Nat} {xs : Nat → Int32} {i : Nat} {A : zPX} {B : zPM} (h : zRI A B) : zArmD G D cy l (zIn cy ad qn qt qs qh bd) yX5_needlesInWork wsX5_needlesInWork [.ref (ad 0)] yX6_needlesInWork wsX6_needlesInWork [.ref (bd 0)] (A.w cy ad qn qt qs qh) (B.w cy bd) := by
  exact zAD (C_X5_needlesInWork hg.1.1.1.1 l D cy ad qn qt qs qh _ _ _ _ _ _ _ _ _ _ _ _ _ _ _ _ _ _ _ _ _ _ _ _ _ _ _ _ _ _ _ _ _ _ _ _ _ _ _ _ _ _) (C_X6_needlesInWork hg.1.1.1.1 l D cy bd _ _ _ _ _ _ _ _ _ _ _ _ _ _ _ _ _ _ _ _ _ (by rw [h.cur.v0]; exact pm_ok h.cur.gd.wk)) ((by rw [h.cur.v0]; exact (pm_bc h.cur.gd.wk).symm)) (zIn.mk' ⟨h.cur, h.sno, h.sns, h.his, h.rea, h.txt, h.out⟩)

theorem arm_needlesOnHold {G : zG} (hg : zGW G) {l : Launch} (hfl : l.stackTraces = false) {D : va_G} {cy : Nat → ClassId} {ad qn qt qs : Nat → Nat} {qh : Nat → Nat → Nat} {bd : Nat → Nat} {xs : Nat → Int32} {i : Nat} {A : zPX} {B : zPM} (h : zRI A B) : zArmD G D cy l (zIn cy ad qn qt qs qh bd) yX5_needlesOnHold wsX5_needlesOnHold [.ref (ad 0)] yX6_needlesOnHold wsX6_needlesOnHold [.ref (bd 0)] (A.w cy ad qn qt qs qh) (B.w cy bd) := by
  exact zAD (C_X5_needlesOnHold hg.1.1.1.1 l D cy ad qn qt qs qh _ _ _ _ _ _ _ _ _ _ _ _ _ _ _ _ _ _ _ _ _ _ _ _ _ _ _ _ _ _ _ _ _ _ _ _ _ _ _ _ _ _) (C_X6_needlesOnHold hg.1.1.1.1 l D cy bd _ _ _ _ _ _ _ _ _ _ _ _ _ _ _ _ _ _ _ _ _ (by rw [h.cur.v1]; exact pm_ok h.cur.gd.hk)) ((by rw [h.cur.v1]; exact (pm_bc h.cur.gd.hk).symm)) (zIn.mk' ⟨h.cur, h.sno, h.sns, h.his, h.rea, h.txt, h.out⟩)

theorem arm_loopCount {G : zG} (hg : zGW G) {l : Launch} (hfl : l.stackTraces = false) {D : va_G} {cy : Nat → ClassId} {ad qn qt qs : Nat → Nat} {qh : Nat → Nat → Nat} {bd : Nat → Nat} {xs : Nat → Int32} {i : Nat} {A : zPX} {B : zPM} (h : zRI A B) : zArmD G D cy l (zIn cy ad qn qt qs qh bd) yX5_loopCount wsX5_loopCount [.ref (ad 0)] yX6_loopCount wsX6_loopCount [.ref (bd 0)] (A.w cy ad qn qt qs qh) (B.w cy bd) := by
  exact zAD (C_X5_loopCount hg.1.1.1.1 l D cy ad qn qt qs qh _ _ _ _ _ _ _ _ _ _ _ _ _ _ _ _ _ _ _ _ _ _ _ _ _ _ _ _ _ _ _ _ _ _ _ _ _ _ _ _ _ _) (C_X6_loopCount hg.1.1.1.1 l D cy bd _ _ _ _ _ _ _ _ _ _ _ _ _ _ _ _ _ _ _ _ _) (zsum_cong 24 fun j hj => (h.cur.lo j hj).symm) (zIn.mk' ⟨h.cur, h.sno, h.sns, h.his, h.rea, h.txt, h.out⟩)

theorem arm_longestRun {G : zG} (hg : zGW G) {l : Launch} (hfl : l.stackTraces = false) {D : va_G} {cy : Nat → ClassId} {ad qn qt qs : Nat → Nat} {qh : Nat → Nat → Nat} {bd : Nat → Nat} {xs : Nat → Int32} {i : Nat} {A : zPX} {B : zPM} (h : zRI A B) : zArmD G D cy l (zIn cy ad qn qt qs qh bd) yX5_longestRun wsX5_longestRun [.ref (ad 0)] yX6_longestRun wsX6_longestRun [.ref (bd 0)] (A.w cy ad qn qt qs qh) (B.w cy bd) := by
  exact zAD (C_X5_longestRun hg.1.1.1.1 l D cy ad qn qt qs qh _ _ _ _ _ _ _ _ _ _ _ _ _ _ _ _ _ _ _ _ _ _ _ _ _ _ _ _ _ _ _ _ _ _ _ _ _ _ _ _ _ _) (C_X6_longestRun hg.1.1.1.1 l D cy bd _ _ _ _ _ _ _ _ _ _ _ _ _ _ _ _ _ _ _ _ _) (zrl_cong 24 fun j hj => (h.cur.lo j hj).symm) (zIn.mk' ⟨h.cur, h.sno, h.sns, h.his, h.rea, h.txt, h.out⟩)

theorem st_addYarn {mu : Nat → Nat → Int32} {nu : Nat → Nat} {v : Nat → Int32} (h : zSt mu nu v) {a : Nat} (ha : a < 4) {u : Int32} (hu : zic 1 99 u = true) (hr0 : zrY (mu 6) a u = 0) : zSt (zmk (mu 0) (mu 1) (mu 2) (mu 3) (mu 4) (mu 5) (upd (mu 6) a ((mu 6) a + u)) (mu 7) (mu 8 0) (mu 8 1) (mu 8 2) (mu 8 3) ((mu 8 4) + u) (mu 8 5) (mu 8 6)) nu (upd (upd v (58 + a) (v (58 + a) + u)) 7 ((upd v (58 + a) (v (58 + a) + u)) 7 + u)) :=
  ⟨⟨h.gd.n0, h.gd.n1, h.gd.n2, h.gd.wk, h.gd.hk, h.gd.hd, h.gd.lk, h.gd.lw, h.gd.ak, h.gd.al, yk_add h.gd ha hu hr0, h.gd.rk, h.gd.cw, h.gd.cy, h.gd.cf, h.gd.cd, h.gd.tk⟩, (un (by omega)).trans ((un (by omega)).trans (h.v0)), (un (by omega)).trans ((un (by omega)).trans (h.v1)), (un (by omega)).trans ((un (by omega)).trans (h.v2)), (un (by omega)).trans ((un (by omega)).trans (h.v3)), (un (by omega)).trans ((un (by omega)).trans (h.v4)), (un (by omega)).trans ((un (by omega)).trans (h.v5)), (un (by omega)).trans ((un (by omega)).trans (h.v6)), upd_s.trans (by rw [un (by omega), h.v7]; rfl), (un (by omega)).trans ((un (by omega)).trans (h.v8)), (un (by omega)).trans ((un (by omega)).trans (h.v9)), fun j hj => (un (by omega)).trans ((un (by omega)).trans (h.lo j hj)), fun j hj => (un (by omega)).trans ((un (by omega)).trans (h.ag j hj)), fun j hj => (un (by omega)).trans (yn_up h.yn ha (by rw [h.yn a ha]) j hj), fun j hj => (un (by omega)).trans ((un (by omega)).trans (h.ro j hj)), fun j hj => (un (by omega)).trans ((un (by omega)).trans (h.cw j hj)), fun j hj => (un (by omega)).trans ((un (by omega)).trans (h.cf j hj)), fun j hj => (un (by omega)).trans ((un (by omega)).trans (h.cy j hj)), fun j hj => (un (by omega)).trans ((un (by omega)).trans (h.cd j hj))⟩

theorem st_hold {mu : Nat → Nat → Int32} {nu : Nat → Nat} {v : Nat → Int32} (h : zSt mu nu v) {a : Nat} (ha : a < 24) (hr0 : zrH (mu 8 0) (mu 8 1) a = 0) : zSt (zmk (mu 0) (mu 1) (mu 2) (mu 3) (mu 4) (mu 5) (mu 6) (mu 7) (mu 8 0) ((mu 8 1) ||| (1 <<< (nI a &&& 31))) (mu 8 2) (mu 8 3) (mu 8 4) (mu 8 5) (mu 8 6)) nu (upd v 1 (v 1 ||| (1 <<< (nI a &&& 31)))) :=
  ⟨⟨h.gd.n0, h.gd.n1, h.gd.n2, h.gd.wk, pm_or1 h.gd.hk ha, fun j hj z => hd_hold h.gd ha hr0 j hj z, h.gd.lk, h.gd.lw, h.gd.ak, h.gd.al, h.gd.yk, h.gd.rk, h.gd.cw, h.gd.cy, h.gd.cf, h.gd.cd, h.gd.tk⟩, (un (by omega)).trans (h.v0), upd_s.trans (by rw [h.v1]; rfl), (un (by omega)).trans (h.v2), (un (by omega)).trans (h.v3), (un (by omega)).trans (h.v4), (un (by omega)).trans (h.v5), (un (by omega)).trans (h.v6), (un (by omega)).trans (h.v7), (un (by omega)).trans (h.v8), (un (by omega)).trans (h.v9), fun j hj => (un (by omega)).trans (h.lo j hj), fun j hj => (un (by omega)).trans (h.ag j hj), fun j hj => (un (by omega)).trans (h.yn j hj), fun j hj => (un (by omega)).trans (h.ro j hj), fun j hj => (un (by omega)).trans (h.cw j hj), fun j hj => (un (by omega)).trans (h.cf j hj), fun j hj => (un (by omega)).trans (h.cy j hj), fun j hj => (un (by omega)).trans (h.cd j hj)⟩

theorem st_release {mu : Nat → Nat → Int32} {nu : Nat → Nat} {v : Nat → Int32} (h : zSt mu nu v) {a : Nat} (ha : a < 24) (hr0 : zrL (mu 8 1) a = 0) : zSt (zmk (mu 0) (mu 1) (mu 2) (mu 3) (mu 4) (mu 5) (mu 6) (mu 7) (mu 8 0) ((mu 8 1) &&& ((1 <<< (nI a &&& 31)) ^^^ (-1))) (mu 8 2) (mu 8 3) (mu 8 4) (mu 8 5) (mu 8 6)) nu (upd v 1 (v 1 ^^^ (1 <<< (nI a &&& 31)))) :=
  ⟨⟨h.gd.n0, h.gd.n1, h.gd.n2, h.gd.wk, pm_an1 h.gd.hk _, fun j hj z => h.gd.hd j hj (zb_and1 ha hj z), h.gd.lk, h.gd.lw, h.gd.ak, h.gd.al, h.gd.yk, h.gd.rk, h.gd.cw, h.gd.cy, h.gd.cf, h.gd.cd, h.gd.tk⟩, (un (by omega)).trans (h.v0), upd_s.trans (by rw [h.v1]; exact (an_xor ha (zrL_0 hr0)).symm), (un (by omega)).trans (h.v2), (un (by omega)).trans (h.v3), (un (by omega)).trans (h.v4), (un (by omega)).trans (h.v5), (un (by omega)).trans (h.v6), (un (by omega)).trans (h.v7), (un (by omega)).trans (h.v8), (un (by omega)).trans (h.v9), fun j hj => (un (by omega)).trans (h.lo j hj), fun j hj => (un (by omega)).trans (h.ag j hj), fun j hj => (un (by omega)).trans (h.yn j hj), fun j hj => (un (by omega)).trans (h.ro j hj), fun j hj => (un (by omega)).trans (h.cw j hj), fun j hj => (un (by omega)).trans (h.cf j hj), fun j hj => (un (by omega)).trans (h.cy j hj), fun j hj => (un (by omega)).trans (h.cd j hj)⟩

theorem arm_hold {G : zG} (hg : zGW G) {l : Launch} (hfl : l.stackTraces = false) {D : va_G} {cy : Nat → ClassId} {ad qn qt qs : Nat → Nat} {qh : Nat → Nat → Nat} {bd : Nat → Nat} {xs : Nat → Int32} {i : Nat} {A : zPX} {B : zPM} (h : zRI A B) : zArmS G D cy l (zIn cy ad qn qt qs qh bd) (bd 0) yL_hold wsL_hold [.ref (ad 0), .int (xs (i + 1)), .ref (ad 12)] yX6_hold wsX6_hold [.ref (bd 0), .int (xs (i + 1))] (fun w' b => zOut (ad 12) cy w' b.toInt64) (A.w cy ad qn qt qs qh) (B.w cy bd) := by
  rcases zin_of (n := 24) (by decide) (xs (i + 1)) with ⟨k, hk, ek⟩ | ⟨hq, hq2⟩
  · rw [ek]
    by_cases h0 : zrH (A.mu 8 0) (A.mu 8 1) k = 0
    · exact zAS (C_L_hold_ok hg l hfl D cy ad qn qt qs qh _ _ _ _ _ _ _ _ _ _ _ _ _ _ _ _ _ _ _ _ _ _ _ _ _ _ _ _ _ _ _ _ _ _ _ _ _ _ _ _ _ _ _ hk h0 h.his.nl h.his.hl) (C_X6_hold_ok hg.1.1.1.1 l D cy bd _ _ _ _ _ _ _ _ _ _ _ _ _ _ _ _ _ _ _ _ _ _ hk (by rw [h.cur.v0, h.cur.v1]; exact h0) (by rw [h.cur.v1]; exact pm_ok (pm_or1 h.cur.gd.hk hk)) (by rw [h.his.ce]; exact h.his.hl)) (C_X6_thrown hg.1.1.1.1 l D cy bd _ _ _ _ _ _ _ _ _ _ _ _ _ _ _ _ _ _ _ _ _) (fun _ => zo1 (congrArg Int32.toInt64 (by rw [h.cur.v1]; exact (pm_bc (pm_or1 h.cur.gd.hk hk)).symm))) (zIn.mk' ⟨(st_hold h.cur hk h0), h.sno, h.sns, h.his.push h.cur, h.rea, h.txt, h.out⟩)
    · exact zAS (C_L_hold_bad hg l hfl D cy ad qn qt qs qh _ _ _ _ _ _ _ _ _ _ _ _ _ _ _ _ _ _ _ _ _ _ _ _ _ _ _ _ _ _ _ _ _ _ _ _ _ _ _ _ _ _ _ hk h0) (C_X6_hold_rej hg.1.1.1.1 l D cy bd _ _ _ _ _ _ _ _ _ _ _ _ _ _ _ _ _ _ _ _ _ _ hk (by rw [h.cur.v0, h.cur.v1]; exact h0)) (C_X6_thrown hg.1.1.1.1 l D cy bd _ _ _ _ _ _ _ _ _ _ _ _ _ _ _ _ _ _ _ _ _) (fun z => absurd z (by decide)) (zIn.mk' ⟨h.cur, h.sno, h.sns, h.his, h.rea.rej (by rw [h.cur.v0, h.cur.v1]) rfl zrH_15, h.txt, h.out⟩)
  · exact zAS (C_L_hold_inv hg l hfl D cy ad qn qt qs qh _ _ _ _ _ _ _ _ _ _ _ _ _ _ _ _ _ _ _ _ _ _ _ _ _ _ _ _ _ _ _ _ _ _ _ _ _ _ _ _ _ _ _ hq) (C_X6_hold_f1 hg.1.1.1.1 l D cy bd _ _ _ _ _ _ _ _ _ _ _ _ _ _ _ _ _ _ _ _ _ _ hq2) (C_X6_thrown hg.1.1.1.1 l D cy bd _ _ _ _ _ _ _ _ _ _ _ _ _ _ _ _ _ _ _ _ _) (fun z => absurd z (by decide)) (zIn.mk' ⟨h.cur, h.sno, h.sns, h.his, h.rea, h.txt, h.out⟩)

theorem arm_release {G : zG} (hg : zGW G) {l : Launch} (hfl : l.stackTraces = false) {D : va_G} {cy : Nat → ClassId} {ad qn qt qs : Nat → Nat} {qh : Nat → Nat → Nat} {bd : Nat → Nat} {xs : Nat → Int32} {i : Nat} {A : zPX} {B : zPM} (h : zRI A B) : zArmS G D cy l (zIn cy ad qn qt qs qh bd) (bd 0) yL_release wsL_release [.ref (ad 0), .int (xs (i + 1)), .ref (ad 12)] yX6_release wsX6_release [.ref (bd 0), .int (xs (i + 1))] (fun w' b => zOut (ad 12) cy w' b.toInt64) (A.w cy ad qn qt qs qh) (B.w cy bd) := by
  rcases zin_of (n := 24) (by decide) (xs (i + 1)) with ⟨k, hk, ek⟩ | ⟨hq, hq2⟩
  · rw [ek]
    by_cases h0 : zrL (A.mu 8 1) k = 0
    · exact zAS (C_L_release_ok hg l hfl D cy ad qn qt qs qh _ _ _ _ _ _ _ _ _ _ _ _ _ _ _ _ _ _ _ _ _ _ _ _ _ _ _ _ _ _ _ _ _ _ _ _ _ _ _ _ _ _ _ hk h0 h.his.nl h.his.hl) (C_X6_release_ok hg.1.1.1.1 l D cy bd _ _ _ _ _ _ _ _ _ _ _ _ _ _ _ _ _ _ _ _ _ _ hk (by rw [h.cur.v1]; exact h0) (by rw [h.cur.v1, ← an_xor hk (zrL_0 h0)]; exact pm_ok (pm_an1 h.cur.gd.hk _)) (by rw [h.his.ce]; exact h.his.hl)) (C_X6_thrown hg.1.1.1.1 l D cy bd _ _ _ _ _ _ _ _ _ _ _ _ _ _ _ _ _ _ _ _ _) (fun _ => zo1 (congrArg Int32.toInt64 (by rw [h.cur.v1, ← an_xor hk (zrL_0 h0)]; exact (pm_bc (pm_an1 h.cur.gd.hk _)).symm))) (zIn.mk' ⟨(st_release h.cur hk h0), h.sno, h.sns, h.his.push h.cur, h.rea, h.txt, h.out⟩)
    · exact zAS (C_L_release_bad hg l hfl D cy ad qn qt qs qh _ _ _ _ _ _ _ _ _ _ _ _ _ _ _ _ _ _ _ _ _ _ _ _ _ _ _ _ _ _ _ _ _ _ _ _ _ _ _ _ _ _ _ hk h0) (C_X6_release_rej hg.1.1.1.1 l D cy bd _ _ _ _ _ _ _ _ _ _ _ _ _ _ _ _ _ _ _ _ _ _ hk (by rw [h.cur.v1]; exact h0)) (C_X6_thrown hg.1.1.1.1 l D cy bd _ _ _ _ _ _ _ _ _ _ _ _ _ _ _ _ _ _ _ _ _) (fun z => absurd z (by decide)) (zIn.mk' ⟨h.cur, h.sno, h.sns, h.his, h.rea.rej (by rw [h.cur.v1]) rfl zrL_15, h.txt, h.out⟩)
  · exact zAS (C_L_release_inv hg l hfl D cy ad qn qt qs qh _ _ _ _ _ _ _ _ _ _ _ _ _ _ _ _ _ _ _ _ _ _ _ _ _ _ _ _ _ _ _ _ _ _ _ _ _ _ _ _ _ _ _ hq) (C_X6_release_f1 hg.1.1.1.1 l D cy bd _ _ _ _ _ _ _ _ _ _ _ _ _ _ _ _ _ _ _ _ _ _ hq2) (C_X6_thrown hg.1.1.1.1 l D cy bd _ _ _ _ _ _ _ _ _ _ _ _ _ _ _ _ _ _ _ _ _) (fun z => absurd z (by decide)) (zIn.mk' ⟨h.cur, h.sno, h.sns, h.his, h.rea, h.txt, h.out⟩)

theorem arm_addYarn {G : zG} (hg : zGW G) {l : Launch} (hfl : l.stackTraces = false) {D : va_G} {cy : Nat → ClassId} {ad qn qt qs : Nat → Nat} {qh : Nat → Nat → Nat} {bd : Nat → Nat} {xs : Nat → Int32} {i : Nat} {A : zPX} {B : zPM} (h : zRI A B) : zArmS G D cy l (zIn cy ad qn qt qs qh bd) (bd 0) yL_addYarn wsL_addYarn [.ref (ad 0), .int (xs (i + 1)), .int (xs (i + 2)), .ref (ad 12)] yX6_addYarn wsX6_addYarn [.ref (bd 0), .int (xs (i + 1)), .int (xs (i + 2))] (fun w' b => zOut (ad 12) cy w' b.toInt64) (A.w cy ad qn qt qs qh) (B.w cy bd) := by
  rcases zin_of (n := 4) (by decide) (xs (i + 1)) with ⟨k, hk, ek⟩ | ⟨hq, hq2⟩
  · rw [ek]
    cases hu : zic 1 99 (xs (i + 2))
    · exact zAS (C_L_addYarn_inv2 hg l hfl D cy ad qn qt qs qh _ _ _ _ _ _ _ _ _ _ _ _ _ _ _ _ _ _ _ _ _ _ _ _ _ _ _ _ _ _ _ _ _ _ _ _ _ _ _ _ _ _ _ _ hk hu) (C_X6_addYarn_f2 hg.1.1.1.1 l D cy bd _ _ _ _ _ _ _ _ _ _ _ _ _ _ _ _ _ _ _ _ _ _ _ hk hu) (C_X6_thrown hg.1.1.1.1 l D cy bd _ _ _ _ _ _ _ _ _ _ _ _ _ _ _ _ _ _ _ _ _) (fun z => absurd z (by decide)) (zIn.mk' ⟨h.cur, h.sno, h.sns, h.his, h.rea, h.txt, h.out⟩)
    · have ey : zrY (zya B.v) k (xs (i + 2)) = zrY (A.mu 6) k (xs (i + 2)) := by
        unfold zrY zya
        rw [h.cur.yn k hk]
      by_cases h0 : zrY (A.mu 6) k (xs (i + 2)) = 0
      · exact zAS (C_L_addYarn_ok hg l hfl D cy ad qn qt qs qh _ _ _ _ _ _ _ _ _ _ _ _ _ _ _ _ _ _ _ _ _ _ _ _ _ _ _ _ _ _ _ _ _ _ _ _ _ _ _ _ _ _ _ _ hk h0 h.his.nl h.his.hl hu) (C_X6_addYarn_ok hg.1.1.1.1 l D cy bd _ _ _ _ _ _ _ _ _ _ _ _ _ _ _ _ _ _ _ _ _ _ _ hk hu (ey.trans h0) (by rw [h.his.ce]; exact h.his.hl)) (C_X6_thrown hg.1.1.1.1 l D cy bd _ _ _ _ _ _ _ _ _ _ _ _ _ _ _ _ _ _ _ _ _) (fun _ => zo1 (congrArg Int32.toInt64 (by rw [upd_s, un (by omega), upd_s, h.cur.yn k hk]))) (zIn.mk' ⟨(st_addYarn h.cur hk hu h0), h.sno, h.sns, h.his.push h.cur, h.rea, h.txt, h.out⟩)
      · exact zAS (C_L_addYarn_bad hg l hfl D cy ad qn qt qs qh _ _ _ _ _ _ _ _ _ _ _ _ _ _ _ _ _ _ _ _ _ _ _ _ _ _ _ _ _ _ _ _ _ _ _ _ _ _ _ _ _ _ _ _ hk h0 hu) (C_X6_addYarn_rej hg.1.1.1.1 l D cy bd _ _ _ _ _ _ _ _ _ _ _ _ _ _ _ _ _ _ _ _ _ _ _ hk hu (fun z => h0 (ey.symm.trans z))) (C_X6_thrown hg.1.1.1.1 l D cy bd _ _ _ _ _ _ _ _ _ _ _ _ _ _ _ _ _ _ _ _ _) (fun z => absurd z (by decide)) (zIn.mk' ⟨h.cur, h.sno, h.sns, h.his, h.rea.rej ey (h.cur.yn k hk) zrY_15, h.txt, h.out⟩)
  · exact zAS (C_L_addYarn_inv1 hg l hfl D cy ad qn qt qs qh _ _ _ _ _ _ _ _ _ _ _ _ _ _ _ _ _ _ _ _ _ _ _ _ _ _ _ _ _ _ _ _ _ _ _ _ _ _ _ _ _ _ _ _ hq) (C_X6_addYarn_f1 hg.1.1.1.1 l D cy bd _ _ _ _ _ _ _ _ _ _ _ _ _ _ _ _ _ _ _ _ _ _ _ hq2) (C_X6_thrown hg.1.1.1.1 l D cy bd _ _ _ _ _ _ _ _ _ _ _ _ _ _ _ _ _ _ _ _ _) (fun z => absurd z (by decide)) (zIn.mk' ⟨h.cur, h.sno, h.sns, h.his, h.rea, h.txt, h.out⟩)

theorem st_addPatternRow {mu : Nat → Nat → Int32} {nu : Nat → Nat} {v : Nat → Int32} (h : zSt mu nu v) {u : Int32} (hu : zic 0 255 u = true) (hr : nu 1 < 6) : zSt (zmk (mu 0) (mu 1) (mu 2) (mu 3) (mu 4) (mu 5) (mu 6) (upd (mu 7) (nu 1) u) (mu 8 0) (mu 8 1) (mu 8 2) (mu 8 3) (mu 8 4) (mu 8 5) (mu 8 6)) (znk (nu 0) ((nu 1) + 1) (nu 2)) (upd (upd v (62 + nu 1) u) 4 (nI (nu 1 + 1))) :=
  ⟨⟨h.gd.n0, hr, h.gd.n2, h.gd.wk, h.gd.hk, h.gd.hd, h.gd.lk, h.gd.lw, h.gd.ak, h.gd.al, h.gd.yk, fun j hj => rk_up h.gd hu j hj, h.gd.cw, h.gd.cy, h.gd.cf, h.gd.cd, h.gd.tk⟩, (un (by omega)).trans ((un (by omega)).trans (h.v0)), (un (by omega)).trans ((un (by omega)).trans (h.v1)), (un (by omega)).trans ((un (by omega)).trans (h.v2)), (un (by omega)).trans ((un (by omega)).trans (h.v3)), upd_s, (un (by omega)).trans ((un (by omega)).trans (h.v5)), (un (by omega)).trans ((un (by omega)).trans (h.v6)), (un (by omega)).trans ((un (by omega)).trans (h.v7)), (un (by omega)).trans ((un (by omega)).trans (h.v8)), (un (by omega)).trans ((un (by omega)).trans (h.v9)), fun j hj => (un (by omega)).trans ((un (by omega)).trans (h.lo j hj)), fun j hj => (un (by omega)).trans ((un (by omega)).trans (h.ag j hj)), fun j hj => (un (by omega)).trans ((un (by omega)).trans (h.yn j hj)), fun j hj => (un (by omega)).trans (ro_up h.ro j hj), fun j hj => (un (by omega)).trans ((un (by omega)).trans (h.cw j hj)), fun j hj => (un (by omega)).trans ((un (by omega)).trans (h.cf j hj)), fun j hj => (un (by omega)).trans ((un (by omega)).trans (h.cy j hj)), fun j hj => (un (by omega)).trans ((un (by omega)).trans (h.cd j hj))⟩

theorem arm_addPatternRow {G : zG} (hg : zGW G) {l : Launch} (hfl : l.stackTraces = false) {D : va_G} {cy : Nat → ClassId} {ad qn qt qs : Nat → Nat} {qh : Nat → Nat → Nat} {bd : Nat → Nat} {xs : Nat → Int32} {i : Nat} {A : zPX} {B : zPM} (h : zRI A B) : zArmS G D cy l (zIn cy ad qn qt qs qh bd) (bd 0) yL_addPatternRow wsL_addPatternRow [.ref (ad 0), .int (xs (i + 1)), .ref (ad 12)] yX6_addPatternRow wsX6_addPatternRow [.ref (bd 0), .int (xs (i + 1))] (fun w' b => zOut (ad 12) cy w' b.toInt64) (A.w cy ad qn qt qs qh) (B.w cy bd) := by
  cases hu : zic 0 255 (xs (i + 1))
  · exact zAS (C_L_addPatternRow_inv hg l hfl D cy ad qn qt qs qh _ _ _ _ _ _ _ _ _ _ _ _ _ _ _ _ _ _ _ _ _ _ _ _ _ _ _ _ _ _ _ _ _ _ _ _ _ _ _ _ _ _ _ (by simp only [zic, Bool.and_eq_false_iff, Bool.not_eq_false', decide_eq_true_eq] at hu; exact hu.imp id (fun z => fun y => (fa_of_lt z).2.1 y))) (C_X6_addPatternRow_f1 hg.1.1.1.1 l D cy bd _ _ _ _ _ _ _ _ _ _ _ _ _ _ _ _ _ _ _ _ _ _ hu) (C_X6_thrown hg.1.1.1.1 l D cy bd _ _ _ _ _ _ _ _ _ _ _ _ _ _ _ _ _ _ _ _ _) (fun z => absurd z (by decide)) (zIn.mk' ⟨h.cur, h.sno, h.sns, h.his, h.rea, h.txt, h.out⟩)
  · have hu1 : ¬ xs (i + 1) < 0 := by
      simp only [zic, Bool.and_eq_true, Bool.not_eq_true', decide_eq_false_iff_not] at hu; exact hu.1
    have hu2 : xs (i + 1) ≤ 255 := by
      simp only [zic, Bool.and_eq_true, Bool.not_eq_true', decide_eq_false_iff_not] at hu; exact fa_of_nlt hu.2
    by_cases h0 : A.nu 1 < 6
    · exact zAS (C_L_addPatternRow_ok hg l hfl D cy ad qn qt qs qh _ _ _ _ _ _ _ _ _ _ _ _ _ _ _ _ _ _ _ _ _ _ _ _ _ _ _ _ _ _ _ _ _ _ _ _ _ _ _ _ _ _ _ h.cur.gd.n1 h0 (if_neg (Nat.not_le.mpr h0)) h.his.nl h.his.hl hu1 hu2) (C_X6_addPatternRow_ok hg.1.1.1.1 l D cy bd _ _ _ _ _ _ _ _ _ _ _ _ _ _ _ _ _ _ _ _ _ _ _ h.cur.v4 h0 hu (by rw [h.his.ce]; exact h.his.hl)) (C_X6_thrown hg.1.1.1.1 l D cy bd _ _ _ _ _ _ _ _ _ _ _ _ _ _ _ _ _ _ _ _ _) (fun _ => zo1 rfl) (zIn.mk' ⟨(st_addPatternRow h.cur hu h0), h.sno, h.sns, h.his.push h.cur, h.rea, h.txt, h.out⟩)
    · have h6 : A.nu 1 = 6 := by have := h.cur.gd.n1; omega
      exact zAS (C_L_addPatternRow_bad hg l hfl D cy ad qn qt qs qh _ _ _ _ _ _ _ _ _ _ _ _ _ _ _ _ _ _ _ _ _ _ _ _ _ _ _ _ _ _ _ _ _ _ _ _ _ _ _ _ _ _ _ h.cur.gd.n1 (by rw [show zrQ (A.nu 1) = 12 from if_pos (by omega)]; decide) hu1 hu2) (C_X6_addPatternRow_rej hg.1.1.1.1 l D cy bd _ _ _ _ _ _ _ _ _ _ _ _ _ _ _ _ _ _ _ _ _ _ _ h.cur.v4 h6 hu) (C_X6_thrown hg.1.1.1.1 l D cy bd _ _ _ _ _ _ _ _ _ _ _ _ _ _ _ _ _ _ _ _ _) (fun z => absurd z (by decide)) (zIn.mk' ⟨h.cur, h.sno, h.sns, h.his, h.rea.rej (show (12 : Int32) = zrQ (A.nu 1) from (if_pos (by omega)).symm) rfl zrQ_15, h.txt, h.out⟩)

theorem st_clearPattern {mu : Nat → Nat → Int32} {nu : Nat → Nat} {v : Nat → Int32} (h : zSt mu nu v)  : zSt mu (znk (nu 0) 0 (nu 2)) (upd (zrz v 6) 4 0) :=
  ⟨⟨h.gd.n0, Nat.zero_le 6, h.gd.n2, h.gd.wk, h.gd.hk, h.gd.hd, h.gd.lk, h.gd.lw, h.gd.ak, h.gd.al, h.gd.yk, fun j hj => absurd hj (Nat.not_lt_zero j), h.gd.cw, h.gd.cy, h.gd.cf, h.gd.cd, h.gd.tk⟩, (un (by omega)).trans ((zrz_n (by omega)).trans h.v0), (un (by omega)).trans ((zrz_n (by omega)).trans h.v1), (un (by omega)).trans ((zrz_n (by omega)).trans h.v2), (un (by omega)).trans ((zrz_n (by omega)).trans h.v3), upd_s, (un (by omega)).trans ((zrz_n (by omega)).trans h.v5), (un (by omega)).trans ((zrz_n (by omega)).trans h.v6), (un (by omega)).trans ((zrz_n (by omega)).trans h.v7), (un (by omega)).trans ((zrz_n (by omega)).trans h.v8), (un (by omega)).trans ((zrz_n (by omega)).trans h.v9), fun j hj => (un (by omega)).trans ((zrz_n (by omega)).trans (h.lo j hj)), fun j hj => (un (by omega)).trans ((zrz_n (by omega)).trans (h.ag j hj)), fun j hj => (un (by omega)).trans ((zrz_n (by omega)).trans (h.yn j hj)), fun j hj => absurd hj (Nat.not_lt_zero j), fun j hj => (un (by omega)).trans ((zrz_n (by omega)).trans (h.cw j hj)), fun j hj => (un (by omega)).trans ((zrz_n (by omega)).trans (h.cf j hj)), fun j hj => (un (by omega)).trans ((zrz_n (by omega)).trans (h.cy j hj)), fun j hj => (un (by omega)).trans ((zrz_n (by omega)).trans (h.cd j hj))⟩

theorem arm_clearPattern {G : zG} (hg : zGW G) {l : Launch} (hfl : l.stackTraces = false) {D : va_G} {cy : Nat → ClassId} {ad qn qt qs : Nat → Nat} {qh : Nat → Nat → Nat} {bd : Nat → Nat} {xs : Nat → Int32} {i : Nat} {A : zPX} {B : zPM} (h : zRI A B) : zArmD G D cy l (zIn cy ad qn qt qs qh bd) yX5_clearPattern wsX5_clearPattern [.ref (ad 0)] yX6_clearPattern wsX6_clearPattern [.ref (bd 0)] (A.w cy ad qn qt qs qh) (B.w cy bd) := by
  exact zAD (C_X5_clearPattern_ok hg.1.1.1.1 l D cy ad qn qt qs qh _ _ _ _ _ _ _ _ _ _ _ _ _ _ _ _ _ _ _ _ _ _ _ _ _ _ _ _ _ _ _ _ _ _ _ _ _ _ _ _ _ _ h.his.nl h.his.hl) (C_X6_clearPattern_ok hg.1.1.1.1 l D cy bd _ _ _ _ _ _ _ _ _ _ _ _ _ _ _ _ _ _ _ _ _ (by rw [h.his.ce]; exact h.his.hl)) h.cur.v4.symm (zIn.mk' ⟨(st_clearPattern h.cur), h.sno, h.sns, h.his.push h.cur, h.rea, h.txt, h.out⟩)

theorem arm_undo {G : zG} (hg : zGW G) {l : Launch} (hfl : l.stackTraces = false) {D : va_G} {cy : Nat → ClassId} {ad qn qt qs : Nat → Nat} {qh : Nat → Nat → Nat} {bd : Nat → Nat} {xs : Nat → Int32} {i : Nat} {A : zPX} {B : zPM} (h : zRI A B) : zArmS G D cy l (zIn cy ad qn qt qs qh bd) (bd 0) yL_undo wsL_undo [.ref (ad 0), .ref (ad 12)] yX6_undo wsX6_undo [.ref (bd 0)] (fun w' b => zOut (ad 12) cy w' b.toInt64) (A.w cy ad qn qt qs qh) (B.w cy bd) := by
  obtain ⟨th, ch, era, why, det, cau, sv, rj, tn, he, en, ln, iw, dg, v, bf, sf, kf, pq, tx, lx⟩ := B
  by_cases h0 : A.hc = 0
  · have e : ch = 0 := h.his.ce.trans h0
    subst e
    exact zAS (C_L_undo_bad hg l hfl D cy ad qn qt qs qh _ _ _ _ _ _ _ _ _ _ _ _ _ _ _ _ _ _ _ _ _ _ _ _ _ _ _ _ _ _ _ _ _ _ _ _ _ _ _ _ _ _ h0) (C_X6_undo_bad hg.1.1.1.1 l D cy bd _ _ _ _ _ _ _ _ _ _ _ _ _ _ _ _ _ _ _ _) (C_X6_thrown hg.1.1.1.1 l D cy bd _ _ _ _ _ _ _ _ _ _ _ _ _ _ _ _ _ _ _ _ _) (fun z => absurd z (by decide)) (zIn.mk' ⟨h.cur, h.sno, h.sns, h.his, h.rea, h.txt, h.out⟩)
  · obtain ⟨cx, e⟩ : ∃ cx, ch = cx + 1 := ⟨A.hc - 1, by have := h.his.ce; have e : ch = A.hc := this; omega⟩
    subst e
    have e2 : cx + 1 = A.hc := h.his.ce
    have hp := zHi.pop h.his
    exact zAS (C_L_undo_ok hg l hfl D cy ad qn qt qs qh _ _ _ _ _ _ _ _ _ _ _ _ _ _ _ _ _ _ _ _ _ _ _ _ _ _ _ _ _ _ _ _ _ _ _ _ _ _ _ _ _ _ _ h.his.nl h.his.hl (Nat.pos_of_ne_zero h0) rfl) (C_X6_undo_ok hg.1.1.1.1 l D cy bd _ _ _ _ _ _ _ _ _ _ _ _ _ _ _ _ _ _ _ _ _ (by have := h.his.hl; omega)) (C_X6_thrown hg.1.1.1.1 l D cy bd _ _ _ _ _ _ _ _ _ _ _ _ _ _ _ _ _ _ _ _ _) (fun _ => zo1 (congrArg (fun n => (nI n).toInt64) (show A.hc - 1 = cx by omega))) (zIn.mk' ⟨hp.2, h.sno, h.sns, hp.1, h.rea, h.txt, h.out⟩)

theorem arm_restoreSnapshot {G : zG} (hg : zGW G) {l : Launch} (hfl : l.stackTraces = false) {D : va_G} {cy : Nat → ClassId} {ad qn qt qs : Nat → Nat} {qh : Nat → Nat → Nat} {bd : Nat → Nat} {xs : Nat → Int32} {i : Nat} {A : zPX} {B : zPM} (h : zRI A B) : zArmS G D cy l (zIn cy ad qn qt qs qh bd) (bd 0) yL_restoreSnapshot wsL_restoreSnapshot [.ref (ad 0), .ref (ad 12)] yX6_restoreSnapshot wsX6_restoreSnapshot [.ref (bd 0)] (fun w' b => zOut (ad 12) cy w' b.toInt64) (A.w cy ad qn qt qs qh) (B.w cy bd) := by
  obtain ⟨th, ch, era, why, det, cau, sv, rj, tn, he, en, ln, iw, dg, v, bf, sf, kf, pq, tx, lx⟩ := B
  cases sv
  · exact zAS (C_L_restoreSnapshot_bad hg l hfl D cy ad qn qt qs qh _ _ _ _ _ _ _ _ _ _ _ _ _ _ _ _ _ _ _ _ _ _ _ _ _ _ _ _ _ _ _ _ _ _ _ _ _ _ _ _ _ _ h.sno) (C_X6_restoreSnapshot_bad hg.1.1.1.1 l D cy bd _ _ _ _ _ _ _ _ _ _ _ _ _ _ _ _ _ _ _ _) (C_X6_thrown hg.1.1.1.1 l D cy bd _ _ _ _ _ _ _ _ _ _ _ _ _ _ _ _ _ _ _ _ _) (fun z => absurd z (by decide)) (zIn.mk' ⟨h.cur, h.sno, h.sns, h.his, h.rea, h.txt, h.out⟩)
  · have hs := h.sns rfl
    exact zAS (C_L_restoreSnapshot_ok hg l hfl D cy ad qn qt qs qh _ _ _ _ _ _ _ _ _ _ _ _ _ _ _ _ _ _ _ _ _ _ _ _ _ _ _ _ _ _ _ _ _ _ _ _ _ _ _ _ _ _ (fun z => absurd (show zI true = 0 from h.sno.symm.trans z) (by decide))) (C_X6_restoreSnapshot_ok hg.1.1.1.1 l D cy bd _ _ _ _ _ _ _ _ _ _ _ _ _ _ _ _ _ _ _ _) (C_X6_thrown hg.1.1.1.1 l D cy bd _ _ _ _ _ _ _ _ _ _ _ _ _ _ _ _ _ _ _ _ _) (fun _ => zo1 (congrArg Int32.toInt64 hs.v5.symm)) (zIn.mk' ⟨hs, h.sno, h.sns, ⟨h.his.nl, Nat.zero_le 8, rfl, fun i hi => absurd hi (Nat.not_lt_zero i)⟩, h.rea, h.txt, h.out⟩)

theorem zsc6_sum {v f : Nat → Int32} : ∀ n, (∀ c, c < n → v (68 + 4 * c) = f c) → zsc6 v n = zsum f n
  | 0, _ => rfl
  | n + 1, h => by
    simp only [zsc6, zsum]
    rw [zsc6_sum n (fun c hc => h c (by omega)), h n (by omega)]
theorem k_mod8 : ∀ k, k < 24 → nI k - nI k / 8 * 8 = nI (k % 8) := by decide +kernel
theorem zb_255 : ∀ k, k < 8 → zb 255 (nI k) = true := by decide +kernel
theorem zkn_eq {mu : Nat → Nat → Int32} {nu : Nat → Nat} {v : Nat → Int32} (h : zSt mu nu v) {k : Nat} (hk : k < 24) : zkn6 v (nu 1) (nu 2) k = zkn (mu 0) (mu 8 0) (mu 8 1) (zrow (mu 7) (nu 1) (nu 2)) k := by
  have e1 : zb (mu 8 0 &&& (mu 8 1 ^^^ (-1))) (nI k) = (zb (mu 8 0) (nI k) && !zb (mu 8 1) (nI k)) := by
    rw [zb_bt _ (by omega), zb_bt _ (by omega), zb_bt _ (by omega), b_and, bt_not _ (by omega)]
  have e2 : zb (zrow (mu 7) (nu 1) (nu 2)) (nI k - nI k / 8 * 8) = (decide (nu 1 = 0) || zb (v (62 + nu 2 % nu 1)) (nI k - nI k / 8 * 8)) := by
    unfold zrow
    by_cases q : nu 1 = 0
    · rw [if_pos q, k_mod8 k hk, zb_255 _ (by omega)]; simp [q]
    · rw [if_neg q, h.ro _ (Nat.mod_lt _ (Nat.pos_of_ne_zero q))]; simp [q]
  unfold zkn6 zkn
  rw [e1, e2, h.v0, h.v1, h.lo k hk]
  generalize zb (mu 8 0) (nI k) = x
  generalize zb (mu 8 1) (nI k) = y
  generalize (decide (nu 1 = 0) || zb (v (62 + nu 2 % nu 1)) (nI k - nI k / 8 * 8)) = z
  generalize decide (mu 0 k ≤ 0) = t
  cases x <;> cases y <;> cases z <;> cases t <;> rfl
theorem zwd_eq {mu : Nat → Nat → Int32} {nu : Nat → Nat} {v : Nat → Int32} (h : zSt mu nu v) : ∀ n, n ≤ 24 → zwd6 v (nu 1) (nu 2) n = zwd (mu 0) (mu 8 0) (mu 8 1) (zrow (mu 7) (nu 1) (nu 2)) n
  | 0, _ => rfl
  | n + 1, hn => by
    simp only [zwd6, zwd]
    rw [zkn_eq h (by omega), zwd_eq h n (by omega)]
def zBd (wk : Int32) (lo ag : Nat → Int32) : Prop :=
  (∀ j, j < 24 → ∃ k : Nat, k ≤ 3 ∧ lo j = nI k) ∧
  (∀ j, j < 24 → zb wk (nI j) = false → lo j = 0) ∧
  (∀ j, j < 24 → ∃ k : Nat, k ≤ 5 ∧ ag j = nI k) ∧
  (∀ j, j < 24 → lo j = 0 → ag j = 0)
theorem zBd.lk {wk : Int32} {lo ag : Nat → Int32} (hS9 : zBd wk lo ag) : ∀ j, j < 24 → ∃ k : Nat, k ≤ 3 ∧ lo j = nI k := hS9.1
theorem zBd.lw {wk : Int32} {lo ag : Nat → Int32} (hS9 : zBd wk lo ag) : ∀ j, j < 24 → zb wk (nI j) = false → lo j = 0 := hS9.2.1
theorem zBd.ak {wk : Int32} {lo ag : Nat → Int32} (hS9 : zBd wk lo ag) : ∀ j, j < 24 → ∃ k : Nat, k ≤ 5 ∧ ag j = nI k := hS9.2.2.1
theorem zBd.al {wk : Int32} {lo ag : Nat → Int32} (hS9 : zBd wk lo ag) : ∀ j, j < 24 → lo j = 0 → ag j = 0 := hS9.2.2.2
theorem zGd.bd {mu : Nat → Nat → Int32} {nu : Nat → Nat} (g : zGd mu nu) : zBd (mu 8 0) (mu 0) (mu 1) := ⟨g.lk, g.lw, g.ak, g.al⟩
theorem zBd.set {wk : Int32} {lo ag : Nat → Int32} (b : zBd wk lo ag) {a k m : Nat} (h3 : k ≤ 3) (h5 : m ≤ 5) (hw : zb wk (nI a) = false → k = 0) (hl : k = 0 → m = 0) : zBd wk (upd lo a (nI k)) (upd ag a (nI m)) := by
  refine ⟨fun j hj => ?_, fun j hj z => ?_, fun j hj => ?_, fun j hj z => ?_⟩ <;> by_cases q : j = a
  · subst q; exact ⟨k, h3, upd_s⟩
  · rw [un q]; exact b.lk j hj
  · subst q; rw [upd_s, hw z]; rfl
  · rw [un q]; exact b.lw j hj z
  · subst q; exact ⟨m, h5, upd_s⟩
  · rw [un q]; exact b.ak j hj
  · subst q
    rw [upd_s] at z ⊢
    rw [hl ((nI_eq (a := k) (b := 0) (by omega) (by decide)).mp z)]; rfl
  · rw [un q] at z ⊢; exact b.al j hj z
theorem lo_up {v f : Nat → Int32} {B N : Nat} (h : ∀ j, j < N → v (B + j) = f j) {a : Nat} {x y : Int32} (e : x = y) (j : Nat) (hj : j < N) : upd v (B + a) x (B + j) = upd f a y j := by
  by_cases q : j = a
  · subst q; rw [upd_s, upd_s, e]
  · rw [un (by omega), un q]; exact h j hj
theorem zrT_0 {lo : Nat → Int32} {wk : Int32} {a : Nat} (h : zrT lo wk a = 0) : zb wk (nI a) = true ∧ ¬ lo a = 0 := by
  unfold zrT at h
  by_cases q : zb wk (nI a) = true
  · rw [if_pos q] at h
    by_cases r : lo a = 0
    · rw [if_pos r] at h; exact absurd h (by decide)
    · exact ⟨q, r⟩
  · rw [if_neg q] at h; exact absurd h (by decide)
theorem zrT_15 {lo : Nat → Int32} {wk : Int32} {a : Nat} : ¬ zrT lo wk a = 15 := by unfold zrT; split <;> (try split) <;> decide

theorem arm_stitchCount {G : zG} (hg : zGW G) {l : Launch} (hfl : l.stackTraces = false) {D : va_G} {cy : Nat → ClassId} {ad qn qt qs : Nat → Nat} {qh : Nat → Nat → Nat} {bd : Nat → Nat} {xs : Nat → Int32} {i : Nat} {A : zPX} {B : zPM} (h : zRI A B) : zArmD G D cy l (zIn cy ad qn qt qs qh bd) yX5_stitchCount wsX5_stitchCount [.ref (ad 0)] yX6_stitchCount wsX6_stitchCount [.ref (bd 0)] (A.w cy ad qn qt qs qh) (B.w cy bd) := by
  exact zAD (C_X5_stitchCount hg.1.1.1.1 l D cy ad qn qt qs qh _ _ _ _ _ _ _ _ _ _ _ _ _ _ _ _ _ _ _ _ _ _ _ _ _ _ _ _ _ _ _ _ _ _ _ _ _ _ _ _ _ _ h.cur.gd.n2) (C_X6_stitchCount hg.1.1.1.1 l D cy bd _ _ _ _ _ _ _ _ _ _ _ _ _ _ _ _ _ _ _ _ _ _ h.cur.v5 h.cur.gd.n2) ((zsc6_sum _ h.cur.cw).symm) (zIn.mk' ⟨h.cur, h.sno, h.sns, h.his, h.rea, h.txt, h.out⟩)

theorem arm_nextWidth {G : zG} (hg : zGW G) {l : Launch} (hfl : l.stackTraces = false) {D : va_G} {cy : Nat → ClassId} {ad qn qt qs : Nat → Nat} {qh : Nat → Nat → Nat} {bd : Nat → Nat} {xs : Nat → Int32} {i : Nat} {A : zPX} {B : zPM} (h : zRI A B) : zArmD G D cy l (zIn cy ad qn qt qs qh bd) yX5_nextWidth wsX5_nextWidth [.ref (ad 0)] yX6_nextWidth wsX6_nextWidth [.ref (bd 0)] (A.w cy ad qn qt qs qh) (B.w cy bd) := by
  exact zAD (C_X5_nextWidth hg.1.1.1.1 l D cy ad qn qt qs qh _ _ _ _ _ _ _ _ _ _ _ _ _ _ _ _ _ _ _ _ _ _ _ _ _ _ _ _ _ _ _ _ _ _ _ _ _ _ _ _ _ _ h.cur.gd.n1 h.cur.gd.n2) (C_X6_nextWidth hg.1.1.1.1 l D cy bd _ _ _ _ _ _ _ _ _ _ _ _ _ _ _ _ _ _ _ _ _ _ _ h.cur.v4 h.cur.gd.n1 h.cur.v5 h.cur.gd.n2) ((zwd_eq h.cur 24 (Nat.le_refl 24)).symm) (zIn.mk' ⟨h.cur, h.sno, h.sns, h.his, h.rea, h.txt, h.out⟩)

theorem arm_willKnit {G : zG} (hg : zGW G) {l : Launch} (hfl : l.stackTraces = false) {D : va_G} {cy : Nat → ClassId} {ad qn qt qs : Nat → Nat} {qh : Nat → Nat → Nat} {bd : Nat → Nat} {xs : Nat → Int32} {i : Nat} {A : zPX} {B : zPM} (h : zRI A B) : zArmS G D cy l (zIn cy ad qn qt qs qh bd) (bd 0) yL_willKnit wsL_willKnit [.ref (ad 0), .int (xs (i + 1)), .ref (ad 12)] yX6_willKnit wsX6_willKnit [.ref (bd 0), .int (xs (i + 1))] (fun w' b => zOut (ad 12) cy w' (if b = 0 then 0 else 1)) (A.w cy ad qn qt qs qh) (B.w cy bd) := by
  rcases zin_of (n := 24) (by decide) (xs (i + 1)) with ⟨k, hk, ek⟩ | ⟨hq, hq2⟩
  · rw [ek]
    exact zAS (C_L_willKnit_ok hg l hfl D cy ad qn qt qs qh _ _ _ _ _ _ _ _ _ _ _ _ _ _ _ _ _ _ _ _ _ _ _ _ _ _ _ _ _ _ _ _ _ _ _ _ _ _ _ _ _ _ _ hk h.cur.gd.n1 h.cur.gd.n2) (C_X6_willKnit_ok hg.1.1.1.1 l D cy bd _ _ _ _ _ _ _ _ _ _ _ _ _ _ _ _ _ _ _ _ _ _ _ _ hk h.cur.v4 h.cur.gd.n1 h.cur.v5 h.cur.gd.n2) (C_X6_thrown hg.1.1.1.1 l D cy bd _ _ _ _ _ _ _ _ _ _ _ _ _ _ _ _ _ _ _ _ _) (fun _ => zo1 (by rw [zkn_eq h.cur hk]; cases zkn _ _ _ _ _ <;> rfl)) (zIn.mk' ⟨h.cur, h.sno, h.sns, h.his, h.rea, h.txt, h.out⟩)
  · exact zAS (C_L_willKnit_bad hg l hfl D cy ad qn qt qs qh _ _ _ _ _ _ _ _ _ _ _ _ _ _ _ _ _ _ _ _ _ _ _ _ _ _ _ _ _ _ _ _ _ _ _ _ _ _ _ _ _ _ _ hq) (C_X6_willKnit_bad hg.1.1.1.1 l D cy bd _ _ _ _ _ _ _ _ _ _ _ _ _ _ _ _ _ _ _ _ _ _ hq2) (C_X6_thrown hg.1.1.1.1 l D cy bd _ _ _ _ _ _ _ _ _ _ _ _ _ _ _ _ _ _ _ _ _) (fun z => absurd z (by decide)) (zIn.mk' ⟨h.cur, h.sno, h.sns, h.his, h.rea, h.txt, h.out⟩)

theorem st_dropStitch {mu : Nat → Nat → Int32} {nu : Nat → Nat} {v : Nat → Int32} (h : zSt mu nu v) {a : Nat} (ha : a < 24) : zSt (zmk (upd (mu 0) a 0) (upd (mu 1) a 0) (mu 2) (mu 3) (mu 4) (mu 5) (mu 6) (mu 7) (mu 8 0) (mu 8 1) (mu 8 2) (mu 8 3) (mu 8 4) (mu 8 5) ((mu 8 6) + (mu 0) a)) nu (upd (zpt v a 0 0) 9 (zpt v a 0 0 9 + v (10 + a))) :=
  have b := h.gd.bd.set (a := a) (k := 0) (m := 0) (by decide) (by decide) (fun _ => rfl) (fun _ => rfl)
  ⟨⟨h.gd.n0, h.gd.n1, h.gd.n2, h.gd.wk, h.gd.hk, h.gd.hd, b.lk, b.lw, b.ak, b.al, h.gd.yk, h.gd.rk, h.gd.cw, h.gd.cy, h.gd.cf, h.gd.cd, h.gd.tk⟩, (un (by omega)).trans ((un (by omega)).trans ((un (by omega)).trans (h.v0))), (un (by omega)).trans ((un (by omega)).trans ((un (by omega)).trans (h.v1))), (un (by omega)).trans ((un (by omega)).trans ((un (by omega)).trans (h.v2))), (un (by omega)).trans ((un (by omega)).trans ((un (by omega)).trans (h.v3))), (un (by omega)).trans ((un (by omega)).trans ((un (by omega)).trans (h.v4))), (un (by omega)).trans ((un (by omega)).trans ((un (by omega)).trans (h.v5))), (un (by omega)).trans ((un (by omega)).trans ((un (by omega)).trans (h.v6))), (un (by omega)).trans ((un (by omega)).trans ((un (by omega)).trans (h.v7))), (un (by omega)).trans ((un (by omega)).trans ((un (by omega)).trans (h.v8))), upd_s.trans (by rw [show zpt v a 0 0 9 = mu 8 6 from (un (by omega)).trans ((un (by omega)).trans h.v9), h.lo a ha]; rfl), fun j hj => (un (by omega)).trans ((un (by omega)).trans (lo_up h.lo rfl j hj)), fun j hj => (un (by omega)).trans (lo_up (v := upd v (10 + a) 0) (fun j hj => (un (by omega)).trans (h.ag j hj)) (if_pos rfl) j hj), fun j hj => (un (by omega)).trans ((un (by omega)).trans ((un (by omega)).trans (h.yn j hj))), fun j hj => (un (by omega)).trans ((un (by omega)).trans ((un (by omega)).trans (h.ro j hj))), fun j hj => (un (by omega)).trans ((un (by omega)).trans ((un (by omega)).trans (h.cw j hj))), fun j hj => (un (by omega)).trans ((un (by omega)).trans ((un (by omega)).trans (h.cf j hj))), fun j hj => (un (by omega)).trans ((un (by omega)).trans ((un (by omega)).trans (h.cy j hj))), fun j hj => (un (by omega)).trans ((un (by omega)).trans ((un (by omega)).trans (h.cd j hj)))⟩

theorem arm_dropStitch {G : zG} (hg : zGW G) {l : Launch} (hfl : l.stackTraces = false) {D : va_G} {cy : Nat → ClassId} {ad qn qt qs : Nat → Nat} {qh : Nat → Nat → Nat} {bd : Nat → Nat} {xs : Nat → Int32} {i : Nat} {A : zPX} {B : zPM} (h : zRI A B) : zArmS G D cy l (zIn cy ad qn qt qs qh bd) (bd 0) yL_dropStitch wsL_dropStitch [.ref (ad 0), .int (xs (i + 1)), .ref (ad 12)] yX6_dropStitch wsX6_dropStitch [.ref (bd 0), .int (xs (i + 1))] (fun w' b => zOut (ad 12) cy w' b.toInt64) (A.w cy ad qn qt qs qh) (B.w cy bd) := by
  rcases zin_of (n := 24) (by decide) (xs (i + 1)) with ⟨k, hk, ek⟩ | ⟨hq, hq2⟩
  · rw [ek]
    have et : zrT (zlo B.v) (B.v 0) k = zrT (A.mu 0) (A.mu 8 0) k := by
      unfold zrT zlo
      rw [h.cur.v0, h.cur.lo k hk]
    have ed : zdT6 B.v k = zdT (A.mu 8 0) k := by
      unfold zdT6 zdT
      rw [h.cur.v0, pm_bc h.cur.gd.wk]
    by_cases h0 : zrT (A.mu 0) (A.mu 8 0) k = 0
    · exact zAS (C_L_dropStitch_ok hg l hfl D cy ad qn qt qs qh _ _ _ _ _ _ _ _ _ _ _ _ _ _ _ _ _ _ _ _ _ _ _ _ _ _ _ _ _ _ _ _ _ _ _ _ _ _ _ _ _ _ _ hk h0 h.his.nl h.his.hl) (C_X6_dropStitch_ok hg.1.1.1.1 l D cy bd _ _ _ _ _ _ _ _ _ _ _ _ _ _ _ _ _ _ _ _ _ _ hk (et.trans h0) (by rw [h.his.ce]; exact h.his.hl)) (C_X6_thrown hg.1.1.1.1 l D cy bd _ _ _ _ _ _ _ _ _ _ _ _ _ _ _ _ _ _ _ _ _) (fun _ => zo1 (congrArg Int32.toInt64 (h.cur.lo k hk).symm)) (zIn.mk' ⟨(st_dropStitch h.cur hk), h.sno, h.sns, h.his.push h.cur, h.rea, h.txt, h.out⟩)
    · exact zAS (C_L_dropStitch_bad hg l hfl D cy ad qn qt qs qh _ _ _ _ _ _ _ _ _ _ _ _ _ _ _ _ _ _ _ _ _ _ _ _ _ _ _ _ _ _ _ _ _ _ _ _ _ _ _ _ _ _ _ hk h0) (C_X6_dropStitch_rej hg.1.1.1.1 l D cy bd _ _ _ _ _ _ _ _ _ _ _ _ _ _ _ _ _ _ _ _ _ _ hk (fun z => h0 (et.symm.trans z)) (by rw [h.cur.v0]; exact pm_ok h.cur.gd.wk)) (C_X6_thrown hg.1.1.1.1 l D cy bd _ _ _ _ _ _ _ _ _ _ _ _ _ _ _ _ _ _ _ _ _) (fun z => absurd z (by decide)) (zIn.mk' ⟨h.cur, h.sno, h.sns, h.his, h.rea.rej et ed zrT_15, h.txt, h.out⟩)
  · exact zAS (C_L_dropStitch_inv hg l hfl D cy ad qn qt qs qh _ _ _ _ _ _ _ _ _ _ _ _ _ _ _ _ _ _ _ _ _ _ _ _ _ _ _ _ _ _ _ _ _ _ _ _ _ _ _ _ _ _ _ hq) (C_X6_dropStitch_f1 hg.1.1.1.1 l D cy bd _ _ _ _ _ _ _ _ _ _ _ _ _ _ _ _ _ _ _ _ _ _ hq2) (C_X6_thrown hg.1.1.1.1 l D cy bd _ _ _ _ _ _ _ _ _ _ _ _ _ _ _ _ _ _ _ _ _) (fun z => absurd z (by decide)) (zIn.mk' ⟨h.cur, h.sno, h.sns, h.his, h.rea, h.txt, h.out⟩)

theorem zBd.wk {wk wk' : Int32} {lo ag : Nat → Int32} (b : zBd wk lo ag) (h : ∀ j, j < 24 → zb wk' (nI j) = false → zb wk (nI j) = false) : zBd wk' lo ag := ⟨b.lk, fun j hj z => b.lw j hj (h j hj z), b.ak, b.al⟩
theorem zrC_0 {wk : Int32} {a b : Nat} : zrC wk a b = 0 ↔ zfi (fun j => zb wk (nI j)) (b + 1 - a) a = -1 := by
  unfold zrC
  by_cases q : zfi (fun j => zb wk (nI j)) (b + 1 - a) a = -1
  · rw [if_pos q]; exact ⟨fun _ => q, fun _ => rfl⟩
  · rw [if_neg q]; exact ⟨fun z => absurd z (by decide), fun z => absurd z q⟩
theorem zrC_1 {wk : Int32} {a b : Nat} (h : ¬ zrC wk a b = 0) : zrC wk a b = 1 := if_neg (fun z => h (zrC_0.mpr z))

theorem st_cast1 {mu : Nat → Nat → Int32} {nu : Nat → Nat} {v : Nat → Int32} (h : zSt mu nu v) {a : Nat} (ha : a < 24) : zSt (zmk (upd (mu 0) a 1) (upd (mu 1) a 0) (mu 2) (mu 3) (mu 4) (mu 5) (mu 6) (mu 7) (mu 8 0 ||| (1 <<< (nI a &&& 31))) (mu 8 1) (mu 8 2) (mu 8 3) (mu 8 4) (mu 8 5) (mu 8 6)) nu (zpt (upd v 0 (v 0 ||| (1 <<< (nI a &&& 31)))) a 1 0) :=
  have b := (h.gd.bd.wk (wk' := mu 8 0 ||| (1 <<< (nI a &&& 31))) (fun j hj z => by rw [zb_or1 _ ha hj, Bool.or_eq_false_iff] at z; exact z.1)).set (a := a) (k := 1) (m := 0) (by decide) (by decide) (fun z => by rw [zb_or1 _ ha ha] at z; simp at z) (fun z => absurd z (by decide))
  ⟨⟨h.gd.n0, h.gd.n1, h.gd.n2, pm_or1 h.gd.wk ha, h.gd.hk, fun j hj z => by have := h.gd.hd j hj z; show zb (mu 8 0 ||| (1 <<< (nI a &&& 31))) (nI j) = true; rw [zb_or1 _ ha hj, this, Bool.true_or], b.lk, b.lw, b.ak, b.al, h.gd.yk, h.gd.rk, h.gd.cw, h.gd.cy, h.gd.cf, h.gd.cd, h.gd.tk⟩, (un (by omega)).trans ((un (by omega)).trans (upd_s.trans (by rw [h.v0]; rfl))), (un (by omega)).trans ((un (by omega)).trans ((un (by omega)).trans (h.v1))), (un (by omega)).trans ((un (by omega)).trans ((un (by omega)).trans (h.v2))), (un (by omega)).trans ((un (by omega)).trans ((un (by omega)).trans (h.v3))), (un (by omega)).trans ((un (by omega)).trans ((un (by omega)).trans (h.v4))), (un (by omega)).trans ((un (by omega)).trans ((un (by omega)).trans (h.v5))), (un (by omega)).trans ((un (by omega)).trans ((un (by omega)).trans (h.v6))), (un (by omega)).trans ((un (by omega)).trans ((un (by omega)).trans (h.v7))), (un (by omega)).trans ((un (by omega)).trans ((un (by omega)).trans (h.v8))), (un (by omega)).trans ((un (by omega)).trans ((un (by omega)).trans (h.v9))), fun j hj => (un (by omega)).trans (lo_up (v := upd v 0 (v 0 ||| (1 <<< (nI a &&& 31)))) (fun j hj => (un (by omega)).trans (h.lo j hj)) rfl j hj), fun j hj => lo_up (v := upd (upd v 0 (v 0 ||| (1 <<< (nI a &&& 31)))) (10 + a) 1) (fun j hj => (un (by omega)).trans ((un (by omega)).trans (h.ag j hj))) (ite_self _) j hj, fun j hj => (un (by omega)).trans ((un (by omega)).trans ((un (by omega)).trans (h.yn j hj))), fun j hj => (un (by omega)).trans ((un (by omega)).trans ((un (by omega)).trans (h.ro j hj))), fun j hj => (un (by omega)).trans ((un (by omega)).trans ((un (by omega)).trans (h.cw j hj))), fun j hj => (un (by omega)).trans ((un (by omega)).trans ((un (by omega)).trans (h.cf j hj))), fun j hj => (un (by omega)).trans ((un (by omega)).trans ((un (by omega)).trans (h.cy j hj))), fun j hj => (un (by omega)).trans ((un (by omega)).trans ((un (by omega)).trans (h.cd j hj)))⟩

theorem st_castN {mu : Nat → Nat → Int32} {nu : Nat → Nat} {v : Nat → Int32} (h : zSt mu nu v) {a : Nat} : ∀ n, a + n ≤ 24 → zSt (zmk (zpf (mu 0) a 1 n) (zpf (mu 1) a 0 n) (mu 2) (mu 3) (mu 4) (mu 5) (mu 6) (mu 7) (zpw (mu 8 0) a n) (mu 8 1) (mu 8 2) (mu 8 3) (mu 8 4) (mu 8 5) (mu 8 6)) nu (zpv v a n)
  | 0, _ => ⟨⟨h.gd.n0, h.gd.n1, h.gd.n2, h.gd.wk, h.gd.hk, h.gd.hd, h.gd.lk, h.gd.lw, h.gd.ak, h.gd.al, h.gd.yk, h.gd.rk, h.gd.cw, h.gd.cy, h.gd.cf, h.gd.cd, h.gd.tk⟩, h.v0, h.v1, h.v2, h.v3, h.v4, h.v5, h.v6, h.v7, h.v8, h.v9, h.lo, h.ag, h.yn, h.ro, h.cw, h.cf, h.cy, h.cd⟩
  | n + 1, hn => st_cast1 (st_castN h n (by omega)) (a := a + n) (by omega)

theorem arm_castOn {G : zG} (hg : zGW G) {l : Launch} (hfl : l.stackTraces = false) {D : va_G} {cy : Nat → ClassId} {ad qn qt qs : Nat → Nat} {qh : Nat → Nat → Nat} {bd : Nat → Nat} {xs : Nat → Int32} {i : Nat} {A : zPX} {B : zPM} (h : zRI A B) : zArmS G D cy l (zIn cy ad qn qt qs qh bd) (bd 0) yL_castOn wsL_castOn [.ref (ad 0), .int (xs (i + 1)), .int (xs (i + 2)), .ref (ad 12)] yX6_castOn wsX6_castOn [.ref (bd 0), .int (xs (i + 1)), .int (xs (i + 2))] (fun w' b => zOut (ad 12) cy w' b.toInt64) (A.w cy ad qn qt qs qh) (B.w cy bd) := by
  rcases zin_of (n := 24) (by decide) (xs (i + 1)) with ⟨a, ha, ea⟩ | ⟨hq, hq2⟩
  · rcases zin_of (n := 24) (by decide) (xs (i + 2)) with ⟨b, hb, eb⟩ | ⟨hq, hq2⟩
    · rw [ea, eb]
      by_cases hba : b < a
      · exact zAS (C_L_castOn_inv3 hg l hfl D cy ad qn qt qs qh _ _ _ _ _ _ _ _ _ _ _ _ _ _ _ _ _ _ _ _ _ _ _ _ _ _ _ _ _ _ _ _ _ _ _ _ _ _ _ _ _ _ _ _ ha hba) (C_X6_castOn_f2 hg.1.1.1.1 l D cy bd _ _ _ _ _ _ _ _ _ _ _ _ _ _ _ _ _ _ _ _ _ _ _ ha hba) (C_X6_thrown hg.1.1.1.1 l D cy bd _ _ _ _ _ _ _ _ _ _ _ _ _ _ _ _ _ _ _ _ _) (fun z => absurd z (by decide)) (zIn.mk' ⟨h.cur, h.sno, h.sns, h.his, h.rea, h.txt, h.out⟩)
      · have hab : a ≤ b := Nat.le_of_not_lt hba
        have st := st_castN h.cur (a := a) (b + 1 - a) (by omega)
        have e0 : (fun j => zb (B.v 0) (nI j)) = (fun j => zb (A.mu 8 0) (nI j)) := by rw [h.cur.v0]
        by_cases h0 : zrC (A.mu 8 0) a b = 0
        · exact zAS (C_L_castOn_ok hg l hfl D cy ad qn qt qs qh _ _ _ _ _ _ _ _ _ _ _ _ _ _ _ _ _ _ _ _ _ _ _ _ _ _ _ _ _ _ _ _ _ _ _ _ _ _ _ _ _ _ _ _ hab hb h0 h.his.nl h.his.hl) (C_X6_castOn_ok hg.1.1.1.1 l D cy bd _ _ _ _ _ _ _ _ _ _ _ _ _ _ _ _ _ _ _ _ _ _ _ hab hb (by rw [e0]; exact zrC_0.mp h0) (by rw [st.v0]; exact pm_ok st.gd.wk) (by rw [h.his.ce]; exact h.his.hl)) (C_X6_thrown hg.1.1.1.1 l D cy bd _ _ _ _ _ _ _ _ _ _ _ _ _ _ _ _ _ _ _ _ _) (fun _ => zo1 (congrArg Int32.toInt64 (by rw [st.v0]; exact (pm_bc st.gd.wk).symm))) (zIn.mk' ⟨st, h.sno, h.sns, h.his.push h.cur, h.rea, h.txt, h.out⟩)
        · exact zAS (C_L_castOn_bad hg l hfl D cy ad qn qt qs qh _ _ _ _ _ _ _ _ _ _ _ _ _ _ _ _ _ _ _ _ _ _ _ _ _ _ _ _ _ _ _ _ _ _ _ _ _ _ _ _ _ _ _ _ hab hb h0) (C_X6_castOn_rej hg.1.1.1.1 l D cy bd _ _ _ _ _ _ _ _ _ _ _ _ _ _ _ _ _ _ _ _ _ _ _ hab hb (by rw [e0]; exact fun z => h0 (zrC_0.mpr z))) (C_X6_thrown hg.1.1.1.1 l D cy bd _ _ _ _ _ _ _ _ _ _ _ _ _ _ _ _ _ _ _ _ _) (fun z => absurd z (by decide)) (zIn.mk' ⟨h.cur, h.sno, h.sns, h.his, h.rea.rej (zrC_1 h0).symm (by rw [e0]) (fun z => absurd (show (1 : Int32) = 15 from (zrC_1 h0).symm.trans z) (by decide)), h.txt, h.out⟩)
    · rw [ea]
      exact zAS (C_L_castOn_inv2 hg l hfl D cy ad qn qt qs qh _ _ _ _ _ _ _ _ _ _ _ _ _ _ _ _ _ _ _ _ _ _ _ _ _ _ _ _ _ _ _ _ _ _ _ _ _ _ _ _ _ _ _ _ ha hq) (C_X6_castOn_f1 hg.1.1.1.1 l D cy bd _ _ _ _ _ _ _ _ _ _ _ _ _ _ _ _ _ _ _ _ _ _ _ (by rw [show zic 0 23 (xs (i + 2)) = false from hq2, Bool.and_false])) (C_X6_thrown hg.1.1.1.1 l D cy bd _ _ _ _ _ _ _ _ _ _ _ _ _ _ _ _ _ _ _ _ _) (fun z => absurd z (by decide)) (zIn.mk' ⟨h.cur, h.sno, h.sns, h.his, h.rea, h.txt, h.out⟩)
  · exact zAS (C_L_castOn_inv1 hg l hfl D cy ad qn qt qs qh _ _ _ _ _ _ _ _ _ _ _ _ _ _ _ _ _ _ _ _ _ _ _ _ _ _ _ _ _ _ _ _ _ _ _ _ _ _ _ _ _ _ _ _ hq) (C_X6_castOn_f1 hg.1.1.1.1 l D cy bd _ _ _ _ _ _ _ _ _ _ _ _ _ _ _ _ _ _ _ _ _ _ _ (by rw [show zic 0 23 (xs (i + 1)) = false from hq2, Bool.false_and])) (C_X6_thrown hg.1.1.1.1 l D cy bd _ _ _ _ _ _ _ _ _ _ _ _ _ _ _ _ _ _ _ _ _) (fun z => absurd z (by decide)) (zIn.mk' ⟨h.cur, h.sno, h.sns, h.his, h.rea, h.txt, h.out⟩)

theorem zpy_eq {v f : Nat → Int32} (h : ∀ j, j < 4 → v (58 + j) = f j) {i : Nat} (hi : i < 4) : ∀ n, n ≤ 4 → zpy6 v i n = zpy f i n
  | 0, _ => rfl
  | n + 1, hn => by
    have e : zyb6 v n i = zyb f n i := by
      unfold zyb6 zyb
      rw [h n (by omega), h i hi]
      congr 1
      by_cases q : f n ≤ f i
      · rw [decide_eq_true q, decide_eq_false (fun z => (fa_of_lt z).2.1 q)]; rfl
      · rw [decide_eq_false q, decide_eq_true (fa_of_nle q)]; rfl
    simp only [zpy6, zpy]
    rw [e, zpy_eq h hi n (by omega)]
    by_cases q : zyb f n i = true
    · rw [if_pos q, if_pos q]
    · rw [if_neg q, if_neg q, Int32.add_zero]

theorem arm_feederByYarn {G : zG} (hg : zGW G) {l : Launch} (hfl : l.stackTraces = false) {D : va_G} {cy : Nat → ClassId} {ad qn qt qs : Nat → Nat} {qh : Nat → Nat → Nat} {bd : Nat → Nat} {xs : Nat → Int32} {i : Nat} {A : zPX} {B : zPM} (h : zRI A B) : zArmS G D cy l (zIn cy ad qn qt qs qh bd) (bd 0) yL_feederByYarn wsL_feederByYarn [.ref (ad 0), .int (xs (i + 1)), .ref (ad 12)] yX6_feederByYarn wsX6_feederByYarn [.ref (bd 0), .int (xs (i + 1))] (fun w' b => zOut (ad 12) cy w' b.toInt64) (A.w cy ad qn qt qs qh) (B.w cy bd) := by
  have e : zfi (fun q => decide (zpy6 B.v q 4 = xs (i + 1))) 4 0 = zfi (fun q => decide (zpy (A.mu 6) q 4 = xs (i + 1))) 4 0 := zfi_cong _ _ fun j _ h2 => by
    show decide _ = decide _
    rw [zpy_eq h.cur.yn (by omega) 4 (Nat.le_refl 4)]
  by_cases h0 : zfi (fun q => decide (zpy (A.mu 6) q 4 = xs (i + 1))) 4 0 = -1
  · exact zAS (C_L_feederByYarn_bad hg l hfl D cy ad qn qt qs qh _ _ _ _ _ _ _ _ _ _ _ _ _ _ _ _ _ _ _ _ _ _ _ _ _ _ _ _ _ _ _ _ _ _ _ _ _ _ _ _ _ _ _ h0) (C_X6_feederByYarn_bad hg.1.1.1.1 l D cy bd _ _ _ _ _ _ _ _ _ _ _ _ _ _ _ _ _ _ _ _ _ _ (e.trans h0)) (C_X6_thrown hg.1.1.1.1 l D cy bd _ _ _ _ _ _ _ _ _ _ _ _ _ _ _ _ _ _ _ _ _) (fun z => absurd z (by decide)) (zIn.mk' ⟨h.cur, h.sno, h.sns, h.his, h.rea, h.txt, h.out⟩)
  · exact zAS (C_L_feederByYarn_ok hg l hfl D cy ad qn qt qs qh _ _ _ _ _ _ _ _ _ _ _ _ _ _ _ _ _ _ _ _ _ _ _ _ _ _ _ _ _ _ _ _ _ _ _ _ _ _ _ _ _ _ _ h0) (C_X6_feederByYarn_ok hg.1.1.1.1 l D cy bd _ _ _ _ _ _ _ _ _ _ _ _ _ _ _ _ _ _ _ _ _ _ (fun z => h0 (e.symm.trans z))) (C_X6_thrown hg.1.1.1.1 l D cy bd _ _ _ _ _ _ _ _ _ _ _ _ _ _ _ _ _ _ _ _ _) (fun _ => zo1 (congrArg Int32.toInt64 e.symm)) (zIn.mk' ⟨h.cur, h.sno, h.sns, h.his, h.rea, h.txt, h.out⟩)

theorem yk_le {k : Nat} (h : k ≤ 200) : (1 ≤ nI k) ↔ ¬ nI k = 0 := by
  rw [show (1 : Int32) = nI 1 from rfl, show (0 : Int32) = nI 0 from rfl, nI_leI (by decide) (by omega), nI_eq (by omega) (by decide)]
  omega
theorem zrP_eq {mu : Nat → Nat → Int32} {nu : Nat → Nat} {v : Nat → Int32} (h : zSt mu nu v) {a : Nat} (ha : a < 24) : zrP6 v (nu 0) a = zrP (mu 0) (mu 8 0) (mu 6) (nu 0) a := by
  unfold zrP6 zrP
  rw [h.v0, h.lo a ha, h.yn _ h.gd.n0]
  obtain ⟨k, hk, e⟩ := h.gd.yk _ h.gd.n0
  rw [e]
  by_cases q : nI k = 0
  · rw [if_pos q, if_neg (fun z => (yk_le hk).mp z q)]
  · rw [if_neg q, if_pos ((yk_le hk).mpr q)]
theorem zdP_eq {mu : Nat → Nat → Int32} {nu : Nat → Nat} {v : Nat → Int32} (h : zSt mu nu v) {a : Nat} (ha : a < 24) : zdP6 v a = zdP (mu 0) (mu 8 0) a := by
  unfold zdP6 zdP
  rw [h.v0, h.lo a ha]
theorem zrP_0 {lo : Nat → Int32} {wk : Int32} {ya : Nat → Int32} {ac a : Nat} (h : zrP lo wk ya ac a = 0) : zb wk (nI a) = true ∧ 1 ≤ ya ac := by
  unfold zrP at h
  by_cases q : zb wk (nI a) = true
  · rw [if_pos q] at h
    by_cases r : lo a ≤ 0
    · rw [if_pos r] at h
      by_cases t : 1 ≤ ya ac
      · exact ⟨q, t⟩
      · rw [if_neg t] at h; exact absurd h (by decide)
    · rw [if_neg r] at h; exact absurd h (by decide)
  · rw [if_neg q] at h; exact absurd h (by decide)
theorem zrP_15 {lo : Nat → Int32} {wk : Int32} {ya : Nat → Int32} {ac a : Nat} : ¬ zrP lo wk ya ac a = 15 := by
  unfold zrP; split <;> (try split) <;> (try split) <;> decide
theorem yk_sub {mu : Nat → Nat → Int32} {nu : Nat → Nat} (g : zGd mu nu) (h1 : 1 ≤ mu 6 (nu 0)) (j : Nat) (hj : j < 4) : ∃ k : Nat, k ≤ 200 ∧ upd (mu 6) (nu 0) (mu 6 (nu 0) - 1) j = nI k := by
  by_cases q : j = nu 0
  · subst q
    obtain ⟨k, hk, e⟩ := g.yk _ hj
    rw [upd_s]
    rw [e] at h1 ⊢
    have h2 : k ≠ 0 := fun z => (yk_le hk).mp h1 (by rw [z]; rfl)
    exact ⟨k - 1, by omega, p_dec h2⟩
  · rw [un q]; exact g.yk j hj

theorem st_pickUp {mu : Nat → Nat → Int32} {nu : Nat → Nat} {v : Nat → Int32} (h : zSt mu nu v) {a : Nat} (ha : a < 24) (hr0 : zrP (mu 0) (mu 8 0) (mu 6) (nu 0) a = 0) : zSt (zmk (upd (mu 0) a 1) (upd (mu 1) a 0) (mu 2) (mu 3) (mu 4) (mu 5) (upd (mu 6) (nu 0) ((mu 6) (nu 0) - 1)) (mu 7) (mu 8 0) (mu 8 1) (mu 8 2) (mu 8 3) (mu 8 4) ((mu 8 5) + 1) (mu 8 6)) nu (upd (upd (zpt v a 1 0) (58 + nu 0) (zpt v a 1 0 (58 + nu 0) - 1)) 8 ((upd (zpt v a 1 0) (58 + nu 0) (zpt v a 1 0 (58 + nu 0) - 1)) 8 + 1)) :=
  have b := h.gd.bd.set (a := a) (k := 1) (m := 0) (by decide) (by decide) (fun z => by rw [(zrP_0 hr0).1] at z; exact absurd z (by decide)) (fun z => absurd z (by decide))
  have hn := h.gd.n0
  have ey : ∀ j, j < 4 → zpt v a 1 0 (58 + j) = mu 6 j := fun j hj => (un (by omega)).trans ((un (by omega)).trans (h.yn j hj))
  ⟨⟨h.gd.n0, h.gd.n1, h.gd.n2, h.gd.wk, h.gd.hk, h.gd.hd, b.lk, b.lw, b.ak, b.al, yk_sub h.gd (zrP_0 hr0).2, h.gd.rk, h.gd.cw, h.gd.cy, h.gd.cf, h.gd.cd, h.gd.tk⟩, (un (by omega)).trans ((un (by omega)).trans ((un (by omega)).trans ((un (by omega)).trans (h.v0)))), (un (by omega)).trans ((un (by omega)).trans ((un (by omega)).trans ((un (by omega)).trans (h.v1)))), (un (by omega)).trans ((un (by omega)).trans ((un (by omega)).trans ((un (by omega)).trans (h.v2)))), (un (by omega)).trans ((un (by omega)).trans ((un (by omega)).trans ((un (by omega)).trans (h.v3)))), (un (by omega)).trans ((un (by omega)).trans ((un (by omega)).trans ((un (by omega)).trans (h.v4)))), (un (by omega)).trans ((un (by omega)).trans ((un (by omega)).trans ((un (by omega)).trans (h.v5)))), (un (by omega)).trans ((un (by omega)).trans ((un (by omega)).trans ((un (by omega)).trans (h.v6)))), (un (by omega)).trans ((un (by omega)).trans ((un (by omega)).trans ((un (by omega)).trans (h.v7)))), upd_s.trans (by rw [show (upd (zpt v a 1 0) (58 + nu 0) (zpt v a 1 0 (58 + nu 0) - 1)) 8 = mu 8 5 from (un (by omega)).trans ((un (by omega)).trans ((un (by omega)).trans h.v8))]; rfl), (un (by omega)).trans ((un (by omega)).trans ((un (by omega)).trans ((un (by omega)).trans (h.v9)))), fun j hj => (un (by omega)).trans ((un (by omega)).trans ((un (by omega)).trans (lo_up h.lo rfl j hj))), fun j hj => (un (by omega)).trans ((un (by omega)).trans (lo_up (v := upd v (10 + a) 1) (fun j hj => (un (by omega)).trans (h.ag j hj)) (ite_self _) j hj)), fun j hj => (un (by omega)).trans (lo_up ey (by rw [ey _ hn]) j hj), fun j hj => (un (by omega)).trans ((un (by omega)).trans ((un (by omega)).trans ((un (by omega)).trans (h.ro j hj)))), fun j hj => (un (by omega)).trans ((un (by omega)).trans ((un (by omega)).trans ((un (by omega)).trans (h.cw j hj)))), fun j hj => (un (by omega)).trans ((un (by omega)).trans ((un (by omega)).trans ((un (by omega)).trans (h.cf j hj)))), fun j hj => (un (by omega)).trans ((un (by omega)).trans ((un (by omega)).trans ((un (by omega)).trans (h.cy j hj)))), fun j hj => (un (by omega)).trans ((un (by omega)).trans ((un (by omega)).trans ((un (by omega)).trans (h.cd j hj))))⟩

theorem arm_pickUp {G : zG} (hg : zGW G) {l : Launch} (hfl : l.stackTraces = false) {D : va_G} {cy : Nat → ClassId} {ad qn qt qs : Nat → Nat} {qh : Nat → Nat → Nat} {bd : Nat → Nat} {xs : Nat → Int32} {i : Nat} {A : zPX} {B : zPM} (h : zRI A B) : zArmS G D cy l (zIn cy ad qn qt qs qh bd) (bd 0) yL_pickUp wsL_pickUp [.ref (ad 0), .int (xs (i + 1)), .ref (ad 12)] yX6_pickUp wsX6_pickUp [.ref (bd 0), .int (xs (i + 1))] (fun w' b => zOut (ad 12) cy w' b.toInt64) (A.w cy ad qn qt qs qh) (B.w cy bd) := by
  rcases zin_of (n := 24) (by decide) (xs (i + 1)) with ⟨k, hk, ek⟩ | ⟨hq, hq2⟩
  · rw [ek]
    have et := zrP_eq h.cur hk
    by_cases h0 : zrP (A.mu 0) (A.mu 8 0) (A.mu 6) (A.nu 0) k = 0
    · have st := st_pickUp h.cur hk h0
      have hn := h.cur.gd.n0
      exact zAS (C_L_pickUp_ok hg l hfl D cy ad qn qt qs qh _ _ _ _ _ _ _ _ _ _ _ _ _ _ _ _ _ _ _ _ _ _ _ _ _ _ _ _ _ _ _ _ _ _ _ _ _ _ _ _ _ _ _ hk h.cur.gd.n0 h0 h.his.nl h.his.hl) (C_X6_pickUp_ok hg.1.1.1.1 l D cy bd _ _ _ _ _ _ _ _ _ _ _ _ _ _ _ _ _ _ _ _ _ _ _ hk h.cur.v2 h.cur.gd.n0 (et.trans h0) (by rw [h.his.ce]; exact h.his.hl)) (C_X6_thrown hg.1.1.1.1 l D cy bd _ _ _ _ _ _ _ _ _ _ _ _ _ _ _ _ _ _ _ _ _) (fun _ => zo1 (congrArg Int32.toInt64 (st.yn _ hn).symm)) (zIn.mk' ⟨st, h.sno, h.sns, h.his.push h.cur, h.rea, h.txt, h.out⟩)
    · exact zAS (C_L_pickUp_bad hg l hfl D cy ad qn qt qs qh _ _ _ _ _ _ _ _ _ _ _ _ _ _ _ _ _ _ _ _ _ _ _ _ _ _ _ _ _ _ _ _ _ _ _ _ _ _ _ _ _ _ _ hk h.cur.gd.n0 h0) (C_X6_pickUp_rej hg.1.1.1.1 l D cy bd _ _ _ _ _ _ _ _ _ _ _ _ _ _ _ _ _ _ _ _ _ _ _ hk h.cur.v2 h.cur.gd.n0 (fun z => h0 (et.symm.trans z))) (C_X6_thrown hg.1.1.1.1 l D cy bd _ _ _ _ _ _ _ _ _ _ _ _ _ _ _ _ _ _ _ _ _) (fun z => absurd z (by decide)) (zIn.mk' ⟨h.cur, h.sno, h.sns, h.his, h.rea.rej et (zdP_eq h.cur hk) zrP_15, h.txt, h.out⟩)
  · exact zAS (C_L_pickUp_inv hg l hfl D cy ad qn qt qs qh _ _ _ _ _ _ _ _ _ _ _ _ _ _ _ _ _ _ _ _ _ _ _ _ _ _ _ _ _ _ _ _ _ _ _ _ _ _ _ _ _ _ _ hq) (C_X6_pickUp_f1 hg.1.1.1.1 l D cy bd _ _ _ _ _ _ _ _ _ _ _ _ _ _ _ _ _ _ _ _ _ _ hq2) (C_X6_thrown hg.1.1.1.1 l D cy bd _ _ _ _ _ _ _ _ _ _ _ _ _ _ _ _ _ _ _ _ _) (fun z => absurd z (by decide)) (zIn.mk' ⟨h.cur, h.sno, h.sns, h.his, h.rea, h.txt, h.out⟩)

theorem ch_dec : ∀ n, n < 127 → ((nI n &&& 255).toUInt32 % 65536).toInt32 = nI n ∧ ((nI n).toUInt32 % 65536).toInt32 = nI n := by decide +kernel
theorem ch_of {x : Int32} (h : zic 32 126 x = true) : zch x ∧ (x.toUInt32 % 65536).toInt32 = x := by
  obtain ⟨n, -, h2, rfl⟩ := zic_nat (lo := 32) (hi := 126) (by decide) (by decide) h
  exact ch_dec n (by omega)

theorem arm_outputAt {G : zG} (hg : zGW G) {l : Launch} (hfl : l.stackTraces = false) {D : va_G} {cy : Nat → ClassId} {ad qn qt qs : Nat → Nat} {qh : Nat → Nat → Nat} {bd : Nat → Nat} {xs : Nat → Int32} {i : Nat} {A : zPX} {B : zPM} (h : zRI A B) : zArmS G D cy l (zIn cy ad qn qt qs qh bd) (bd 0) yL_outputAt wsL_outputAt [.ref (ad 0), .int (xs (i + 1)), .ref (ad 12)] yX6_outputAt wsX6_outputAt [.ref (bd 0), .int (xs (i + 1))] (fun w' b => zOut (ad 12) cy w' b.toInt64) (A.w cy ad qn qt qs qh) (B.w cy bd) := by
  have ho := h.out.m
  have h24 := h.out.n24
  rcases zin_of (n := A.on) (by omega) (xs (i + 1)) with ⟨k, hk, ek⟩ | ⟨hq, hq2⟩
  · rw [ek]
    exact zAS (C_L_outputAt_ok hg l hfl D cy ad qn qt qs qh _ _ _ _ _ _ _ _ _ _ _ _ _ _ _ _ _ _ _ _ _ _ _ _ _ _ _ _ _ _ _ _ _ _ _ _ _ _ _ _ _ _ _ h.out.n (by omega) hk (fun j hj => (ch_of (h.out.c j hj)).1)) (C_X6_outputAt_ok hg.1.1.1.1 l D cy bd _ _ _ _ _ _ _ _ _ _ _ _ _ _ _ _ _ _ _ _ _ _ (by rw [h.out.e]; exact hk) (by rw [h.out.e]; omega)) (C_X6_thrown hg.1.1.1.1 l D cy bd _ _ _ _ _ _ _ _ _ _ _ _ _ _ _ _ _ _ _ _ _) (fun _ => zo1 (congrArg Int32.toInt64 (by rw [h.out.x k hk, (ch_of (h.out.c k hk)).2]))) (zIn.mk' ⟨h.cur, h.sno, h.sns, h.his, h.rea, h.txt, h.out⟩)
  · exact zAS (C_L_outputAt_bad hg l hfl D cy ad qn qt qs qh _ _ _ _ _ _ _ _ _ _ _ _ _ _ _ _ _ _ _ _ _ _ _ _ _ _ _ _ _ _ _ _ _ _ _ _ _ _ _ _ _ _ _ h.out.n (by omega) hq) (C_X6_outputAt_bad hg.1.1.1.1 l D cy bd _ _ _ _ _ _ _ _ _ _ _ _ _ _ _ _ _ _ _ _ _ _ (by rw [h.out.e]; exact hq2)) (C_X6_thrown hg.1.1.1.1 l D cy bd _ _ _ _ _ _ _ _ _ _ _ _ _ _ _ _ _ _ _ _ _) (fun z => absurd z (by decide)) (zIn.mk' ⟨h.cur, h.sno, h.sns, h.his, h.rea, h.txt, h.out⟩)

theorem sub_int {a b : Nat} (ha : a < 2 ^ 20) (hb : b < 2 ^ 20) : (nI a - nI b).toInt = (a : Int) - b := by
  rw [Int32.toInt_sub, nI_toInt (by omega), nI_toInt (by omega)]
  exact Int.bmod_eq_of_le (by omega) (by omega)
theorem sub_le0 {a b : Nat} (ha : a < 2 ^ 20) (hb : b < 2 ^ 20) : nI a - nI b ≤ 0 ↔ a ≤ b := by
  rw [fa_le, sub_int ha hb, show (0 : Int32).toInt = 0 from rfl]; omega
theorem sub_eq0 {a b : Nat} (ha : a < 2 ^ 20) (hb : b < 2 ^ 20) : nI a - nI b = 0 ↔ a = b := by
  rw [fa_eq, sub_int ha hb, show (0 : Int32).toInt = 0 from rfl]; omega
theorem zcb_eq {mu : Nat → Nat → Int32} {nu : Nat → Nat} {v : Nat → Int32} (h : zSt mu nu v) {o i : Nat} (ho : o < nu 2) (hi : i < nu 2) : zcb6 v o i = zcb (mu 2) (mu 5) o i := by
  unfold zcb6 zcb
  rw [h.cw o ho, h.cw i hi, h.cd o ho, h.cd i hi]
  obtain ⟨a, ha, e1⟩ := h.gd.cw o ho
  obtain ⟨b, hb, e2⟩ := h.gd.cw i hi
  obtain ⟨c, hc, e3⟩ := h.gd.cd o ho
  obtain ⟨d, hd, e4⟩ := h.gd.cd i hi
  rw [e1, e2, e3, e4]
  generalize decide (nI i ≤ nI o) = P
  by_cases q : a = b
  · subst q
    have e5 : nI a - nI a = 0 := (sub_eq0 (by omega) (by omega)).mpr rfl
    simp only [e5, if_true, if_pos]
    by_cases r : c = d
    · subst r
      have e6 : nI c - nI c = 0 := (sub_eq0 (by omega) (by omega)).mpr rfl
      simp [e6]
    · have e6 : ¬ nI d - nI c = 0 := fun z => r ((sub_eq0 (by omega) (by omega)).mp z).symm
      have e7 : ¬ nI c = nI d := fun z => r ((nI_eq (by omega) (by omega)).mp z)
      simp [e6, e7, sub_le0 (a := d) (b := c) (by omega) (by omega), nI_leI (a := d) (b := c) (by omega) (by omega)]
  · have e6 : ¬ nI a - nI b = 0 := fun z => q ((sub_eq0 (by omega) (by omega)).mp z)
    have e7 : ¬ nI a = nI b := fun z => q ((nI_eq (by omega) (by omega)).mp z)
    simp [e6, e7, sub_le0 (a := a) (b := b) (by omega) (by omega), nI_leI (a := a) (b := b) (by omega) (by omega)]
theorem zps_eq {mu : Nat → Nat → Int32} {nu : Nat → Nat} {v : Nat → Int32} (h : zSt mu nu v) {i : Nat} (hi : i < nu 2) : ∀ n, n ≤ nu 2 → zps6 v i n = zps (mu 2) (mu 5) i n
  | 0, _ => rfl
  | n + 1, hn => by
    simp only [zps6, zps]
    rw [zcb_eq h (by omega) hi, zps_eq h hi n (by omega)]
    by_cases q : zcb (mu 2) (mu 5) n i = true
    · rw [if_pos q, if_pos q]
    · rw [if_neg q, if_neg q, Int32.add_zero]

theorem arm_courseByWidth {G : zG} (hg : zGW G) {l : Launch} (hfl : l.stackTraces = false) {D : va_G} {cy : Nat → ClassId} {ad qn qt qs : Nat → Nat} {qh : Nat → Nat → Nat} {bd : Nat → Nat} {xs : Nat → Int32} {i : Nat} {A : zPX} {B : zPM} (h : zRI A B) : zArmS G D cy l (zIn cy ad qn qt qs qh bd) (bd 0) yL_courseByWidth wsL_courseByWidth [.ref (ad 0), .int (xs (i + 1)), .ref (ad 12)] yX6_courseByWidth wsX6_courseByWidth [.ref (bd 0), .int (xs (i + 1))] (fun w' b => zOut (ad 12) cy w' b.toInt64) (A.w cy ad qn qt qs qh) (B.w cy bd) := by
  have e : zfi (fun q => decide (zps6 B.v q (A.nu 2) = xs (i + 1))) (A.nu 2) 0 = zfi (fun q => decide (zps (A.mu 2) (A.mu 5) q (A.nu 2) = xs (i + 1))) (A.nu 2) 0 := zfi_cong _ _ fun j _ h2 => by
    show decide _ = decide _
    rw [zps_eq h.cur (by omega) _ (Nat.le_refl _)]
  by_cases h0 : zfi (fun q => decide (zps (A.mu 2) (A.mu 5) q (A.nu 2) = xs (i + 1))) (A.nu 2) 0 = -1
  · exact zAS (C_L_courseByWidth_bad hg l hfl D cy ad qn qt qs qh _ _ _ _ _ _ _ _ _ _ _ _ _ _ _ _ _ _ _ _ _ _ _ _ _ _ _ _ _ _ _ _ _ _ _ _ _ _ _ _ _ _ _ h.cur.gd.n2 h0) (C_X6_courseByWidth_bad hg.1.1.1.1 l D cy bd _ _ _ _ _ _ _ _ _ _ _ _ _ _ _ _ _ _ _ _ _ _ _ h.cur.v5 h.cur.gd.n2 (e.trans h0)) (C_X6_thrown hg.1.1.1.1 l D cy bd _ _ _ _ _ _ _ _ _ _ _ _ _ _ _ _ _ _ _ _ _) (fun z => absurd z (by decide)) (zIn.mk' ⟨h.cur, h.sno, h.sns, h.his, h.rea, h.txt, h.out⟩)
  · exact zAS (C_L_courseByWidth_ok hg l hfl D cy ad qn qt qs qh _ _ _ _ _ _ _ _ _ _ _ _ _ _ _ _ _ _ _ _ _ _ _ _ _ _ _ _ _ _ _ _ _ _ _ _ _ _ _ _ _ _ _ h.cur.gd.n2 h0) (C_X6_courseByWidth_ok hg.1.1.1.1 l D cy bd _ _ _ _ _ _ _ _ _ _ _ _ _ _ _ _ _ _ _ _ _ _ _ h.cur.v5 h.cur.gd.n2 (fun z => h0 (e.symm.trans z))) (C_X6_thrown hg.1.1.1.1 l D cy bd _ _ _ _ _ _ _ _ _ _ _ _ _ _ _ _ _ _ _ _ _) (fun _ => zo1 (congrArg Int32.toInt64 e.symm)) (zIn.mk' ⟨h.cur, h.sno, h.sns, h.his, h.rea, h.txt, h.out⟩)

theorem zclr_at {f : Nat → Int32} {j : Nat} : ∀ n, zclr f n j = if j < n then 0 else f j
  | 0 => (if_neg (by omega)).symm
  | n + 1 => by
    simp only [zclr]
    by_cases q : j = n
    · subst q; rw [upd_s, if_pos (by omega)]
    · rw [un q, zclr_at n]
      by_cases r : j < n
      · rw [if_pos r, if_pos (by omega)]
      · rw [if_neg r, if_neg (by omega)]
theorem zta_sum {f : Nat → Int32} : ∀ n, zta f n = zsum f n
  | 0 => rfl
  | n + 1 => by
    simp only [zta, zsum]
    rw [zta_sum n, zclr_at, if_neg (by omega)]
theorem zcm_bt {w : Int32} {i : Nat} (hi : i < 32) : ∀ n, n ≤ 24 → bt (zcm w n) i = (bt w i && decide (n ≤ i))
  | 0, _ => by simp [zcm]
  | n + 1, hn => by
    simp only [zcm]
    rw [b_and, bt_not _ hi, bt_one (by omega) hi, zcm_bt hi n (by omega), Bool.and_assoc]
    congr 1
    by_cases q : n ≤ i <;> by_cases r : i = n <;> by_cases t : n + 1 ≤ i <;> simp [q, r, t] <;> omega
theorem zcm_0 {w : Int32} (h : pm w) : zcm w 24 = 0 := b_ext fun i hi => by
  rw [zcm_bt hi 24 (Nat.le_refl 24), b_0]
  by_cases q : 24 ≤ i
  · rw [h i q hi, Bool.false_and]
  · simp [q]
theorem zp0_n {v : Nat → Int32} {j : Nat} : ∀ {n : Nat}, n ≤ 24 → (j < 10 ∨ 58 ≤ j) → zp0 v n j = v j
  | 0, _, _ => rfl
  | n + 1, hn, h => (un (by omega)).trans ((un (by omega)).trans (zp0_n (n := n) (by omega) h))
theorem zp0_l {v : Nat → Int32} {j : Nat} (hj : j < 24) : ∀ {n : Nat}, n ≤ 24 → j < n → zp0 v n (10 + j) = 0
  | 0, _, h => absurd h (Nat.not_lt_zero j)
  | n + 1, hn, h => by
    by_cases q : j = n
    · subst q; exact (un (by omega)).trans upd_s
    · exact (un (by omega)).trans ((un (by omega)).trans (zp0_l hj (n := n) (by omega) (by omega)))
theorem zp0_a {v : Nat → Int32} {j : Nat} (hj : j < 24) : ∀ {n : Nat}, n ≤ 24 → j < n → zp0 v n (34 + j) = 0
  | 0, _, h => absurd h (Nat.not_lt_zero j)
  | n + 1, hn, h => by
    by_cases q : j = n
    · subst q; exact upd_s.trans (ite_self _)
    · exact (un (by omega)).trans ((un (by omega)).trans (zp0_a hj (n := n) (by omega) (by omega)))
theorem zzr_n {v : Nat → Int32} {j : Nat} (h : j < 68) : zzr v 120 j = v j := if_neg (by omega)

theorem st_castOff {mu : Nat → Nat → Int32} {nu : Nat → Nat} {v : Nat → Int32} (h : zSt mu nu v)  : zSt (zmk (zclr (mu 0) 24) (zclr (mu 1) 24) (mu 2) (mu 3) (mu 4) (mu 5) (mu 6) (mu 7) (zcm (mu 8 0) 24) (zcm (mu 8 1) 24) (mu 8 2) ((mu 8 3) + 1) (mu 8 4) (mu 8 5) (mu 8 6)) (znk (nu 0) (nu 1) 0) (zfin v) :=
  have e0 := zcm_0 h.gd.wk
  have e1 := zcm_0 h.gd.hk
  have n1 := h.gd.n1
  ⟨⟨h.gd.n0, h.gd.n1, Nat.zero_le 30, by show pm (zcm (mu 8 0) 24); rw [e0]; exact pm_0, by show pm (zcm (mu 8 1) 24); rw [e1]; exact pm_0, fun j hj z => by exfalso; have z : zb (zcm (mu 8 1) 24) (nI j) = true := z; rw [e1, zb_bt _ (by omega), b_0] at z; exact absurd z (by decide), fun j hj => ⟨0, by decide, (zclr_at 24).trans (if_pos hj)⟩, fun j hj _ => (zclr_at 24).trans (if_pos hj), fun j hj => ⟨0, by decide, (zclr_at 24).trans (if_pos hj)⟩, fun j hj _ => (zclr_at 24).trans (if_pos hj), h.gd.yk, h.gd.rk, fun j hj => absurd hj (Nat.not_lt_zero j), fun j hj => absurd hj (Nat.not_lt_zero j), fun j hj => absurd hj (Nat.not_lt_zero j), fun j hj => absurd hj (Nat.not_lt_zero j), h.gd.tk⟩, (un (by omega)).trans ((un (by omega)).trans ((un (by omega)).trans (upd_s.trans e0.symm))), (un (by omega)).trans ((un (by omega)).trans (upd_s.trans e1.symm)), (un (by omega)).trans ((un (by omega)).trans ((un (by omega)).trans ((un (by omega)).trans ((zzr_n (by omega)).trans ((zp0_n (by omega) (by omega)).trans h.v2))))), (un (by omega)).trans ((un (by omega)).trans ((un (by omega)).trans ((un (by omega)).trans ((zzr_n (by omega)).trans ((zp0_n (by omega) (by omega)).trans h.v3))))), (un (by omega)).trans ((un (by omega)).trans ((un (by omega)).trans ((un (by omega)).trans ((zzr_n (by omega)).trans ((zp0_n (by omega) (by omega)).trans h.v4))))), (un (by omega)).trans upd_s, upd_s.trans (congrArg (· + 1) ((un (by omega)).trans ((un (by omega)).trans ((un (by omega)).trans ((zzr_n (by omega)).trans ((zp0_n (by omega) (by omega)).trans h.v6)))))), (un (by omega)).trans ((un (by omega)).trans ((un (by omega)).trans ((un (by omega)).trans ((zzr_n (by omega)).trans ((zp0_n (by omega) (by omega)).trans h.v7))))), (un (by omega)).trans ((un (by omega)).trans ((un (by omega)).trans ((un (by omega)).trans ((zzr_n (by omega)).trans ((zp0_n (by omega) (by omega)).trans h.v8))))), (un (by omega)).trans ((un (by omega)).trans ((un (by omega)).trans ((un (by omega)).trans ((zzr_n (by omega)).trans ((zp0_n (by omega) (by omega)).trans h.v9))))), fun j hj => ((un (by omega)).trans ((un (by omega)).trans ((un (by omega)).trans ((un (by omega)).trans ((zzr_n (by omega)).trans (zp0_l hj (Nat.le_refl 24) hj)))))).trans ((zclr_at 24).trans (if_pos hj)).symm, fun j hj => ((un (by omega)).trans ((un (by omega)).trans ((un (by omega)).trans ((un (by omega)).trans ((zzr_n (by omega)).trans (zp0_a hj (Nat.le_refl 24) hj)))))).trans ((zclr_at 24).trans (if_pos hj)).symm, fun j hj => (un (by omega)).trans ((un (by omega)).trans ((un (by omega)).trans ((un (by omega)).trans ((zzr_n (by omega)).trans ((zp0_n (by omega) (by omega)).trans (h.yn j hj)))))), fun j hj => have hj : j < nu 1 := hj; (un (by omega)).trans ((un (by omega)).trans ((un (by omega)).trans ((un (by omega)).trans ((zzr_n (by omega)).trans ((zp0_n (by omega) (by omega)).trans (h.ro j hj)))))), fun j hj => absurd hj (Nat.not_lt_zero j), fun j hj => absurd hj (Nat.not_lt_zero j), fun j hj => absurd hj (Nat.not_lt_zero j), fun j hj => absurd hj (Nat.not_lt_zero j)⟩

theorem arm_castOff {G : zG} (hg : zGW G) {l : Launch} (hfl : l.stackTraces = false) {D : va_G} {cy : Nat → ClassId} {ad qn qt qs : Nat → Nat} {qh : Nat → Nat → Nat} {bd : Nat → Nat} {xs : Nat → Int32} {i : Nat} {A : zPX} {B : zPM} (h : zRI A B) : zArmS G D cy l (zIn cy ad qn qt qs qh bd) (bd 0) yL_castOff wsL_castOff [.ref (ad 0), .ref (ad 12)] yX6_castOff wsX6_castOff [.ref (bd 0)] (fun w' b => zOut (ad 12) cy w' b.toInt64) (A.w cy ad qn qt qs qh) (B.w cy bd) := by
  have e : zsum (zlo B.v) 24 = zsum (A.mu 0) 24 := zsum_cong 24 fun j hj => h.cur.lo j hj
  by_cases h0 : zsum (A.mu 0) 24 = 0
  · have hx : zrX (A.mu 0) = 3 := if_pos h0
    exact zAS (C_L_castOff_bad hg l hfl D cy ad qn qt qs qh _ _ _ _ _ _ _ _ _ _ _ _ _ _ _ _ _ _ _ _ _ _ _ _ _ _ _ _ _ _ _ _ _ _ _ _ _ _ _ _ _ _ (by rw [hx]; decide)) (C_X6_castOff_rej hg.1.1.1.1 l D cy bd _ _ _ _ _ _ _ _ _ _ _ _ _ _ _ _ _ _ _ _ _ (e.trans h0) (by rw [h.cur.v0]; exact pm_ok h.cur.gd.wk)) (C_X6_thrown hg.1.1.1.1 l D cy bd _ _ _ _ _ _ _ _ _ _ _ _ _ _ _ _ _ _ _ _ _) (fun z => absurd z (by decide)) (zIn.mk' ⟨h.cur, h.sno, h.sns, h.his, h.rea.rej hx.symm (by rw [h.cur.v0]; exact pm_bc h.cur.gd.wk) (fun z => absurd (show (3 : Int32) = 15 from hx.symm.trans z) (by decide)), h.txt, h.out⟩)
  · exact zAS (C_L_castOff_ok hg l hfl D cy ad qn qt qs qh _ _ _ _ _ _ _ _ _ _ _ _ _ _ _ _ _ _ _ _ _ _ _ _ _ _ _ _ _ _ _ _ _ _ _ _ _ _ _ _ _ _ (if_neg h0) h.his.nl h.his.hl) (C_X6_castOff_ok hg.1.1.1.1 l D cy bd _ _ _ _ _ _ _ _ _ _ _ _ _ _ _ _ _ _ _ _ _ (fun z => h0 (e.symm.trans z)) (by rw [h.his.ce]; exact h.his.hl)) (C_X6_thrown hg.1.1.1.1 l D cy bd _ _ _ _ _ _ _ _ _ _ _ _ _ _ _ _ _ _ _ _ _) (fun _ => zo1 (congrArg Int32.toInt64 ((zta_sum 24).trans e.symm))) (zIn.mk' ⟨(st_castOff h.cur), h.sno, h.sns, h.his.push h.cur, h.rea, h.txt, h.out⟩)
