/-! the commands in a row; execute -/
/-- what a chain of commands carries on -/
def zTS : Type :=
  (Nat → Nat → Int32) ×
  (Nat → Nat) ×
  (Int32) ×
  (Int32) ×
  (Nat → Int32) ×
  (Nat → Int32) ×
  (Int32) ×
  (Int32) ×
  (Nat → Int32) ×
  (Int32)
abbrev zTS.mu (A : zTS) : Nat → Nat → Int32 := A.1
abbrev zTS.nu (A : zTS) : Nat → Nat := A.2.1
abbrev zTS.f1 (A : zTS) : Int32 := A.2.2.1
abbrev zTS.f2 (A : zTS) : Int32 := A.2.2.2.1
abbrev zTS.aL (A : zTS) : Nat → Int32 := A.2.2.2.2.1
abbrev zTS.aA (A : zTS) : Nat → Int32 := A.2.2.2.2.2.1
abbrev zTS.aW (A : zTS) : Int32 := A.2.2.2.2.2.2.1
abbrev zTS.aH (A : zTS) : Int32 := A.2.2.2.2.2.2.2.1
abbrev zTS.v (A : zTS) : Nat → Int32 := A.2.2.2.2.2.2.2.2.1
abbrev zTS.r (A : zTS) : Int32 := A.2.2.2.2.2.2.2.2.2
def zsq {σ : Type} (s0 : σ) (T : Nat → σ) : Nat → σ
  | 0 => s0
  | j + 1 => T j
theorem chain {σ : Type} {Rel : Nat → σ → σ → Prop} {Inv : σ → Prop} {Stop : Nat → σ → Prop} {n : Nat} (step : ∀ i s, i ≤ n → Inv s → (∃ s', Rel i s s' ∧ Inv s') ∨ Stop i s) {s0 : σ} (h0 : Inv s0) : ∀ k, k ≤ n + 1 → (∃ T : Nat → σ, (∀ i, i < k → Rel i (zsq s0 T i) (zsq s0 T (i + 1))) ∧ Inv (zsq s0 T k)) ∨ (∃ (m : Nat) (T : Nat → σ), m < k ∧ (∀ i, i < m → Rel i (zsq s0 T i) (zsq s0 T (i + 1))) ∧ Stop m (zsq s0 T m))
  | 0, _ => Or.inl ⟨fun _ => s0, fun i hi => absurd hi (Nat.not_lt_zero i), h0⟩
  | k + 1, hk => by
    rcases chain step h0 k (by omega) with ⟨T, hR, hI⟩ | ⟨m, T, hm, hR, hS⟩
    · rcases step k _ (by omega) hI with ⟨s', r, i'⟩ | st
      · have eq : ∀ i, i ≤ k → zsq s0 (fun j => if j < k then T j else s') i = zsq s0 T i := fun i hi => by
          cases i with
          | zero => rfl
          | succ j => exact if_pos hi
        have el : zsq s0 (fun j => if j < k then T j else s') (k + 1) = s' := if_neg (Nat.lt_irrefl k)
        refine Or.inl ⟨fun j => if j < k then T j else s', fun i hi => ?_, ?_⟩
        · by_cases q : i = k
          · subst q; rw [eq i (Nat.le_refl _), el]; exact r
          · rw [eq i (by omega), eq (i + 1) (by omega)]; exact hR i (by omega)
        · rw [el]; exact i'
      · exact Or.inr ⟨k, T, by omega, hR, st⟩
    · exact Or.inr ⟨m, T, by omega, hR, hS⟩
theorem as_dec : ∀ n, n < 127 → (0 : Int32) ≤ nI n ∧ nI n ≤ 255 ∧ (nI n).toInt8.toInt32 = nI n := by decide +kernel
theorem as_of {x : Int32} (h : zic 32 126 x = true) : zas x := by
  obtain ⟨n, -, h2, rfl⟩ := zic_nat (lo := 32) (hi := 126) (by decide) (by decide) h
  exact as_dec n (by omega)
theorem zTx.clr {mm nn : Nat} {bx : Nat → Int32} {tn : Nat} {tx : Nat → Int32} (h : zTx mm nn bx tn tx) : zTx mm 0 bx 0 tx := ⟨h.m, Nat.zero_le _, Nat.zero_le _, rfl, fun j hj => absurd hj (Nat.not_lt_zero j), fun j hj => absurd hj (Nat.not_lt_zero j), h.b⟩
theorem LW_0 {tx : Nat → Int32} {en h : Nat} {F : Nat} (n : ¬ h < en) : zLW tx en (F + 1) h false = false := by simp only [zLW]; rw [if_neg (by decide), if_neg n]
theorem LW_1 {tx : Nat → Int32} {en h : Nat} {F : Nat} : zLW tx en (F + 1) h true = true ∧ zLH tx en (F + 1) h true = h := by simp only [zLW, zLH]; exact ⟨if_pos trivial, if_pos trivial⟩
theorem LW_2 {tx : Nat → Int32} {en h : Nat} {F : Nat} (l : h < en) (n : ¬ zqs tx en h = 59) : zLW tx en (F + 1) h false = true ∧ zLH tx en (F + 1) h false = h := by simp only [zLW, zLH]; rw [if_neg (by decide), if_pos l, if_neg n, if_neg (by decide), if_pos l, if_neg n]; exact ⟨rfl, rfl⟩

theorem cmd_all {G : zG} (hg : zGW G) {D : va_G} {l : Launch} (hfl : l.stackTraces = false) {cy : Nat → ClassId} {ad qn qt qs : Nat → Nat} {ss lse : Int32} {oo fi se : Nat → Int32} {lre lde lca : Int32} {bd : Nat → Nat} {ch : Nat} {era why det cau : Int32} {sv : Bool} {ln nn mq : Nat} {bx tx : Nat → Int32} (hq : ∀ k, zqs tx nn k = zqs bx nn k) (hmq : mq < 60) (hW : ∀ i, i ≤ mq → zcW bx nn (zhs bx nn i) = false) (i : Nat) (s : zTS) (hi : i ≤ mq) (h : zSt s.mu s.nu s.v) : zStp G D l cy ad qn qt qs ss lse (mq + 1) (zcH bx nn (zhs bx nn mq)) (zaO oo bx nn (mq + 1)) (zaF fi bx nn (mq + 1)) (zaS se bx nn (mq + 1)) lre lde lca bd ch era why det cau sv (zcH tx nn (zhs bx nn i)) nn ln i (zqs tx nn (zhs bx nn i)) (zcA tx nn (zhs bx nn i)) (zcB tx nn (zhs bx nn i)) s.mu s.nu s.f1 s.f2 s.aL s.aA s.aW s.aH s.v := by
  obtain ⟨x, ex, o, hx⟩ := zop_of (hW i hi)
  rw [hq, cg_cA hq, cg_cB hq, ex]
  have hk : i < 60 := by omega
  have e0 := zaO_at (f := oo) o (n := mq + 1) (by omega)
  have e1 := zaF_at (f := fi) o (n := mq + 1) (by omega)
  have e2 := zaS_at (f := se) o (n := mq + 1) (by omega)
  rcases hx with rfl | rfl | rfl | rfl | rfl | rfl | rfl | rfl | rfl | rfl | rfl | ⟨rfl, em⟩ | rfl | rfl
  · exact cmd_99 hg hfl h hk e0 e1 e2
  · exact cmd_120 hg hfl h hk e0 e1 e2
  · exact cmd_104 hg hfl h hk e0 e1 e2
  · exact cmd_114 hg hfl h hk e0 e1 e2
  · exact cmd_100 hg hfl h hk e0 e1 e2
  · exact cmd_117 hg hfl h hk e0 e1 e2
  · exact cmd_108 hg hfl h hk e0 e1 e2
  · exact cmd_103 hg hfl h hk e0 e1 e2
  · exact cmd_121 hg hfl h hk e0 e1 e2
  · exact cmd_102 hg hfl h hk e0 e1 e2
  · exact cmd_116 hg hfl h hk e0 e1 e2
  · exact cmd_112 hg hfl h hk e0 e1 e2 (by rw [em]; exact zkM_255)
  · exact cmd_113 hg hfl h hk e0 e1 e2
  · exact cmd_107 hg hfl h hk e0 e1 e2

theorem cmd_chain {G : zG} (hg : zGW G) {D : va_G} {l : Launch} (hfl : l.stackTraces = false) {cy : Nat → ClassId} {ad qn qt qs : Nat → Nat} {ss lse : Int32} {oo fi se : Nat → Int32} {lre lde lca : Int32} {bd : Nat → Nat} {ch : Nat} {era why det cau : Int32} {sv : Bool} {ln nn mq : Nat} {bx tx : Nat → Int32} (hq : ∀ k, zqs tx nn k = zqs bx nn k) (hmq : mq < 60) (hW : ∀ i, i ≤ mq → zcW bx nn (zhs bx nn i) = false) (s0 : zTS) (h : zSt s0.mu s0.nu s0.v) :
    (∃ T : Nat → zTS, (∀ i, i < mq + 1 → (fun (i : Nat) (s s' : zTS) => zStO G D l cy ad qn qt qs ss lse (mq + 1) (zcH bx nn (zhs bx nn mq)) (zaO oo bx nn (mq + 1)) (zaF fi bx nn (mq + 1)) (zaS se bx nn (mq + 1)) lre lde lca bd ch era why det cau sv (zcH tx nn (zhs bx nn i)) nn ln i (zqs tx nn (zhs bx nn i)) (zcA tx nn (zhs bx nn i)) (zcB tx nn (zhs bx nn i)) s.mu s.nu s.f1 s.f2 s.aL s.aA s.aW s.aH s.v s'.mu s'.nu s'.f1 s'.f2 s'.aL s'.aA s'.aW s'.aH s'.v s'.r) i (zsq s0 T i) (zsq s0 T (i + 1))) ∧ (fun s : zTS => zSt s.mu s.nu s.v) (zsq s0 T (mq + 1))) ∨
    (∃ (m : Nat) (T : Nat → zTS), m < mq + 1 ∧ (∀ i, i < m → (fun (i : Nat) (s s' : zTS) => zStO G D l cy ad qn qt qs ss lse (mq + 1) (zcH bx nn (zhs bx nn mq)) (zaO oo bx nn (mq + 1)) (zaF fi bx nn (mq + 1)) (zaS se bx nn (mq + 1)) lre lde lca bd ch era why det cau sv (zcH tx nn (zhs bx nn i)) nn ln i (zqs tx nn (zhs bx nn i)) (zcA tx nn (zhs bx nn i)) (zcB tx nn (zhs bx nn i)) s.mu s.nu s.f1 s.f2 s.aL s.aA s.aW s.aH s.v s'.mu s'.nu s'.f1 s'.f2 s'.aL s'.aA s'.aW s'.aH s'.v s'.r) i (zsq s0 T i) (zsq s0 T (i + 1))) ∧ (fun (i : Nat) (s : zTS) => zStB G D l cy ad qn qt qs ss lse (mq + 1) (zcH bx nn (zhs bx nn mq)) (zaO oo bx nn (mq + 1)) (zaF fi bx nn (mq + 1)) (zaS se bx nn (mq + 1)) lre lde lca bd ch era why det cau sv (zcH tx nn (zhs bx nn i)) nn ln i (zqs tx nn (zhs bx nn i)) (zcA tx nn (zhs bx nn i)) (zcB tx nn (zhs bx nn i)) s.mu s.nu s.f1 s.f2 s.aL s.aA s.aW s.aH s.v ∨ zStI G D l cy ad qn qt qs ss lse (mq + 1) (zcH bx nn (zhs bx nn mq)) (zaO oo bx nn (mq + 1)) (zaF fi bx nn (mq + 1)) (zaS se bx nn (mq + 1)) lre lde lca bd ch era why det cau sv (zcH tx nn (zhs bx nn i)) nn ln i (zqs tx nn (zhs bx nn i)) (zcA tx nn (zhs bx nn i)) (zcB tx nn (zhs bx nn i)) s.mu s.nu s.f1 s.f2 s.aL s.aA s.aW s.aH s.v) m (zsq s0 T m)) :=
  chain (σ := zTS) (Rel := fun (i : Nat) (s s' : zTS) => zStO G D l cy ad qn qt qs ss lse (mq + 1) (zcH bx nn (zhs bx nn mq)) (zaO oo bx nn (mq + 1)) (zaF fi bx nn (mq + 1)) (zaS se bx nn (mq + 1)) lre lde lca bd ch era why det cau sv (zcH tx nn (zhs bx nn i)) nn ln i (zqs tx nn (zhs bx nn i)) (zcA tx nn (zhs bx nn i)) (zcB tx nn (zhs bx nn i)) s.mu s.nu s.f1 s.f2 s.aL s.aA s.aW s.aH s.v s'.mu s'.nu s'.f1 s'.f2 s'.aL s'.aA s'.aW s'.aH s'.v s'.r) (Inv := fun s : zTS => zSt s.mu s.nu s.v) (Stop := fun (i : Nat) (s : zTS) => zStB G D l cy ad qn qt qs ss lse (mq + 1) (zcH bx nn (zhs bx nn mq)) (zaO oo bx nn (mq + 1)) (zaF fi bx nn (mq + 1)) (zaS se bx nn (mq + 1)) lre lde lca bd ch era why det cau sv (zcH tx nn (zhs bx nn i)) nn ln i (zqs tx nn (zhs bx nn i)) (zcA tx nn (zhs bx nn i)) (zcB tx nn (zhs bx nn i)) s.mu s.nu s.f1 s.f2 s.aL s.aA s.aW s.aH s.v ∨ zStI G D l cy ad qn qt qs ss lse (mq + 1) (zcH bx nn (zhs bx nn mq)) (zaO oo bx nn (mq + 1)) (zaF fi bx nn (mq + 1)) (zaS se bx nn (mq + 1)) lre lde lca bd ch era why det cau sv (zcH tx nn (zhs bx nn i)) nn ln i (zqs tx nn (zhs bx nn i)) (zcA tx nn (zhs bx nn i)) (zcB tx nn (zhs bx nn i)) s.mu s.nu s.f1 s.f2 s.aL s.aA s.aW s.aH s.v) (n := mq) (s0 := s0) (fun i s hi hs => by
    rcases cmd_all hg hfl hq hmq hW i s hi hs with ⟨mu2, nu2, g1, g2, bL, bA, bW, bH, v2, r, h1, h2⟩ | h1
    · exact Or.inl ⟨⟨mu2, nu2, g1, g2, bL, bA, bW, bH, v2, r⟩, h1, h2⟩
    · exact Or.inr h1) h (mq + 1) (Nat.le_refl _)

theorem arm_execute {G : zG} (hg : zGW G) {l : Launch} (hfl : l.stackTraces = false) {D : va_G} {cy : Nat → ClassId} {ad qn qt qs : Nat → Nat} {qh : Nat → Nat → Nat} {bd : Nat → Nat} {ak av : Nat} (hgl : ∀ (A : Nat → Prop) (U : State), G A U → zLit ak av A U) {xs : Nat → Int32} {i : Nat} {A : zPX} {B : zPM} (h : zRI A B) : zArmS G D cy l (zIn cy ad qn qt qs qh bd) (bd 0) yL_execute wsL_execute [.ref (ad 0), .ref (ad 12)] yX6_execute wsX6_execute [.ref (bd 0)] (fun w' b => zOut (ad 12) cy w' b.toInt64) (A.w cy ad qn qt qs qh) (B.w cy bd) := by
  obtain ⟨mu, nu, rdt, rrs, tm, tn, trd, trr, sm, sn, srd, srr, alo, aag, awk, ahd, nx, hc, hm, hn, ss, lse, lre, lde, lca, kc, he, oo, fi, se, b8, mm, ml, nn, bx, c8, om, oml, on, ox, lo1, lo2⟩ := A
  obtain ⟨th, ch, era, why, det, cau, sv, rj, tn', he', en, ln, iw, dg, v, bf, sf, kf, pq, tx, lx⟩ := B
  have ht : zTx mm nn bx tn' tx := h.txt
  have et : tn' = nn := ht.e
  subst et
  have cur : zSt mu nu v := h.cur
  have sno : ss = zI sv := h.sno
  have sns : sv = true → zSt sm sn sf := h.sns
  have his : zHi nx hc hm hn ch pq := h.his
  have rea : zRe lse lre lde lca era why det cau := h.rea
  have txt : zTx mm tn' bx tn' tx := h.txt
  have out : zOu om on ox ln lx := h.out
  have hq : ∀ k, zqs tx tn' k = zqs bx tn' k := cg_q ht.x
  obtain ⟨mq, pa, hst⟩ := zPa_of (bx := bx) ht.n60
  have hF : 61 - mq = (60 - mq) + 1 := by have := pa.lt; omega
  have zb9 : zcH bx tn' (zhs bx tn' mq) ≤ tn' := zcH_en (pa.le mq (Nat.le_refl _))
  have h60 := ht.n60
  have hmm9 : mm ≤ 100 := by have := txt.m; omega
  have hch8 : ch ≤ 8 := by rw [his.ce]; exact his.hl
  cases hW0 : zcW bx tn' (zhs bx tn' mq)
  · have hW : ∀ i, i ≤ mq → zcW bx tn' (zhs bx tn' i) = false := fun i hi => by
      by_cases q : i = mq
      · rw [q]; exact hW0
      · exact (pa.ok i (by omega)).1
    have hS9 : ¬ zqs bx tn' (zcH bx tn' (zhs bx tn' mq)) = 59 := fun z => hst ⟨hW0, z⟩
    by_cases hE : zcH bx tn' (zhs bx tn' mq) < tn'
    · have l2 := LW_2 (F := 60 - mq) hE hS9
      have zPb : zPH tx tn' ≤ tn' := by rw [cg_PH hq, pa.lh, hF, hW0, l2.2]; exact zb9
      have zPp : 0 ≤ nI (zPH tx tn') := nI_pos' (by omega)
      exact zAS (C_L_execute_bs hg l hfl D cy ad qn qt qs qh _ _ _ _ _ _ _ _ _ _ _ _ _ _ _ _ _ _ _ _ _ _ _ _ _ _ _ _ _ _ _ _ _ _ _ _ _ _ _ _ _ _ ak av mq hgl ht.n hmm9 (fun j hj => (ch_of (ht.c j hj)).1) ht.n60 (fun j hj => as_of (ht.c j hj)) pa.lt pa.le (fun i hi => (pa.ok i hi).1) (fun i hi => (pa.ok i hi).2) hW hE hS9) (C_X6_execute_wrong hg.1.1.1.1 l D cy bd _ _ _ _ _ _ _ _ _ _ _ _ _ _ _ _ _ _ _ _ _ ht.n60 ((cg_PW hq).trans (pa.lw.trans (by rw [hF, hW0]; exact l2.1)))) (C_X6_thrown hg.1.1.1.1 l D cy bd _ _ _ _ _ _ _ _ _ _ _ _ _ _ _ _ _ _ _ _ _) (fun z => absurd z (by decide)) (zIn.mk' ⟨cur, sno, sns, his, ⟨(congrArg nI ((cg_PH hq).trans (pa.lh.trans (by rw [hF, hW0]; exact l2.2)))), Or.inr zPp, rea.re, rea.de, rea.ca, rea.cn⟩, txt.clr, out⟩)
    · have hPW : zPW tx tn' = false := by rw [cg_PW hq, pa.lw, hF, hW0]; exact LW_0 hE
      have hE2 : ¬ zcH tx tn' (zhs bx tn' mq) < tn' := by rw [cg_cH hq]; exact hE
      rcases cmd_chain hg hfl (D := D) (cy := cy) (ad := ad) (qn := qn) (qt := qt) (qs := qs) (ss := ss) (lse := lse) (oo := oo) (fi := fi) (se := se) (lre := lre) (lde := lde) (lca := lca) (bd := bd) (ch := ch) (era := era) (why := why) (det := det) (cau := cau) (sv := sv) (ln := ln) hq pa.lt hW ⟨mu, nu, trd, trr, alo, aag, awk, ahd, v, 0⟩ cur with ⟨T, hR, hI⟩ | ⟨m, T, hm, hR, hS⟩
      · skip
        exact zAS (C_L_execute_ok hg l hfl D cy ad qn qt qs qh _ _ _ _ _ _ _ _ _ _ _ _ _ _ _ _ _ _ _ _ _ _ _ _ _ _ _ _ _ _ _ _ _ _ (fun i => (zsq (σ := zTS) ⟨mu, nu, trd, trr, alo, aag, awk, ahd, v, 0⟩ T i).mu) (fun i => (zsq (σ := zTS) ⟨mu, nu, trd, trr, alo, aag, awk, ahd, v, 0⟩ T i).nu) (fun i => (zsq (σ := zTS) ⟨mu, nu, trd, trr, alo, aag, awk, ahd, v, 0⟩ T i).f1) (fun i => (zsq (σ := zTS) ⟨mu, nu, trd, trr, alo, aag, awk, ahd, v, 0⟩ T i).f2) (fun i => (zsq (σ := zTS) ⟨mu, nu, trd, trr, alo, aag, awk, ahd, v, 0⟩ T i).aL) (fun i => (zsq (σ := zTS) ⟨mu, nu, trd, trr, alo, aag, awk, ahd, v, 0⟩ T i).aA) (fun i => (zsq (σ := zTS) ⟨mu, nu, trd, trr, alo, aag, awk, ahd, v, 0⟩ T i).aW) (fun i => (zsq (σ := zTS) ⟨mu, nu, trd, trr, alo, aag, awk, ahd, v, 0⟩ T i).aH) ak av mq hgl ht.n hmm9 (fun j hj => (ch_of (ht.c j hj)).1) ht.n60 (fun j hj => as_of (ht.c j hj)) pa.lt pa.le (fun i hi => (pa.ok i hi).1) (fun i hi => (pa.ok i hi).2) hW hE his.nl his.hl (fun i hi => (hR i hi).1)) (C_X6_execute_ok hg.1.1.1.1 l D cy bd _ _ _ _ _ _ _ _ _ _ _ _ _ _ _ _ _ _ _ _ mq (zhs bx tn') (fun i => (zsq (σ := zTS) ⟨mu, nu, trd, trr, alo, aag, awk, ahd, v, 0⟩ T i).v) (fun i => (zsq (σ := zTS) ⟨mu, nu, trd, trr, alo, aag, awk, ahd, v, 0⟩ T (i + 1)).r) (zsq (σ := zTS) ⟨mu, nu, trd, trr, alo, aag, awk, ahd, v, 0⟩ T (mq + 1)).r (zsq (σ := zTS) ⟨mu, nu, trd, trr, alo, aag, awk, ahd, v, 0⟩ T (mq + 1)).v ht.n60 hPW rfl (fun i _ => congrArg (· + 1) (cg_cH hq _).symm) (fun i hi => (cg_cW hq _).trans (hW i (by omega))) (fun i hi => (by rw [cg_cH hq, hq]; exact (pa.ok i (by omega)).2)) (fun i hi => pa.le i (by omega)) (fun i hi => (hR i (by omega)).2) (hR mq (by omega)).2 (Or.inr hE2) hch8) (C_X6_thrown hg.1.1.1.1 l D cy bd _ _ _ _ _ _ _ _ _ _ _ _ _ _ _ _ _ _ _ _ _) (fun _ => zo1 rfl) (zIn.mk' ⟨hI, sno, sns, his.push cur, rea, txt.clr, out⟩)
      · rcases hS with ⟨mu2, nu2, g1, g2, bL, bA, bW, bH, v2, r, R, d, R2, t2, er, ne, t0, hL, hM⟩ | ⟨r, t2, t0, hL, hM⟩
        · exact zAS (C_L_execute_xu hg l hfl D cy ad qn qt qs qh _ _ _ _ _ _ _ _ _ _ _ _ _ _ _ _ _ _ _ _ _ _ _ _ _ _ _ _ _ _ _ _ _ _ (fun i => (zsq (σ := zTS) ⟨mu, nu, trd, trr, alo, aag, awk, ahd, v, 0⟩ T i).mu) (fun i => (zsq (σ := zTS) ⟨mu, nu, trd, trr, alo, aag, awk, ahd, v, 0⟩ T i).nu) (fun i => (zsq (σ := zTS) ⟨mu, nu, trd, trr, alo, aag, awk, ahd, v, 0⟩ T i).f1) (fun i => (zsq (σ := zTS) ⟨mu, nu, trd, trr, alo, aag, awk, ahd, v, 0⟩ T i).f2) (fun i => (zsq (σ := zTS) ⟨mu, nu, trd, trr, alo, aag, awk, ahd, v, 0⟩ T i).aL) (fun i => (zsq (σ := zTS) ⟨mu, nu, trd, trr, alo, aag, awk, ahd, v, 0⟩ T i).aA) (fun i => (zsq (σ := zTS) ⟨mu, nu, trd, trr, alo, aag, awk, ahd, v, 0⟩ T i).aW) (fun i => (zsq (σ := zTS) ⟨mu, nu, trd, trr, alo, aag, awk, ahd, v, 0⟩ T i).aH) ak av mq m mu2 nu2 g1 g2 bL bA bW bH 15 (nI m) R hgl ht.n hmm9 (fun j hj => (ch_of (ht.c j hj)).1) ht.n60 (fun j hj => as_of (ht.c j hj)) pa.lt pa.le (fun i hi => (pa.ok i hi).1) (fun i hi => (pa.ok i hi).2) hW hE (by omega) (fun i hi => (hR i hi).1) hL) (C_X6_execute_rej hg.1.1.1.1 l D cy bd _ _ _ _ _ _ _ _ _ _ _ _ _ _ _ _ _ _ _ _ m (zhs bx tn') (fun i => (zsq (σ := zTS) ⟨mu, nu, trd, trr, alo, aag, awk, ahd, v, 0⟩ T i).v) (fun i => (zsq (σ := zTS) ⟨mu, nu, trd, trr, alo, aag, awk, ahd, v, 0⟩ T (i + 1)).r) r t2 R2 d 0 v2 ht.n60 hPW rfl (fun i _ => congrArg (· + 1) (cg_cH hq _).symm) (fun i hi => (cg_cW hq _).trans (hW i (by omega))) (fun i hi => (by rw [cg_cH hq, hq]; exact (pa.ok i (by omega)).2)) (fun i hi => pa.le i (by omega)) (fun i hi => (hR i hi).2) hM (Or.inl t0) t0) (C_X6_thrown hg.1.1.1.1 l D cy bd _ _ _ _ _ _ _ _ _ _ _ _ _ _ _ _ _ _ _ _ _) (fun z => absurd z (by decide)) (zIn.mk' ⟨cur, sno, sns, his, ⟨rea.se, rea.sn, rfl, rfl, er, ⟨fun z => absurd (er.symm.trans z) ne, fun z => absurd rfl z⟩⟩, txt.clr, out⟩)
        · exact zAS (C_L_execute_xs hg l hfl D cy ad qn qt qs qh _ _ _ _ _ _ _ _ _ _ _ _ _ _ _ _ _ _ _ _ _ _ _ _ _ _ _ _ _ _ _ _ _ _ (fun i => (zsq (σ := zTS) ⟨mu, nu, trd, trr, alo, aag, awk, ahd, v, 0⟩ T i).mu) (fun i => (zsq (σ := zTS) ⟨mu, nu, trd, trr, alo, aag, awk, ahd, v, 0⟩ T i).nu) (fun i => (zsq (σ := zTS) ⟨mu, nu, trd, trr, alo, aag, awk, ahd, v, 0⟩ T i).f1) (fun i => (zsq (σ := zTS) ⟨mu, nu, trd, trr, alo, aag, awk, ahd, v, 0⟩ T i).f2) (fun i => (zsq (σ := zTS) ⟨mu, nu, trd, trr, alo, aag, awk, ahd, v, 0⟩ T i).aL) (fun i => (zsq (σ := zTS) ⟨mu, nu, trd, trr, alo, aag, awk, ahd, v, 0⟩ T i).aA) (fun i => (zsq (σ := zTS) ⟨mu, nu, trd, trr, alo, aag, awk, ahd, v, 0⟩ T i).aW) (fun i => (zsq (σ := zTS) ⟨mu, nu, trd, trr, alo, aag, awk, ahd, v, 0⟩ T i).aH) ak av mq m (zsq (σ := zTS) ⟨mu, nu, trd, trr, alo, aag, awk, ahd, v, 0⟩ T m).mu (zsq (σ := zTS) ⟨mu, nu, trd, trr, alo, aag, awk, ahd, v, 0⟩ T m).nu (zsq (σ := zTS) ⟨mu, nu, trd, trr, alo, aag, awk, ahd, v, 0⟩ T m).f1 (zsq (σ := zTS) ⟨mu, nu, trd, trr, alo, aag, awk, ahd, v, 0⟩ T m).f2 (zsq (σ := zTS) ⟨mu, nu, trd, trr, alo, aag, awk, ahd, v, 0⟩ T m).aL (zsq (σ := zTS) ⟨mu, nu, trd, trr, alo, aag, awk, ahd, v, 0⟩ T m).aA (zsq (σ := zTS) ⟨mu, nu, trd, trr, alo, aag, awk, ahd, v, 0⟩ T m).aW (zsq (σ := zTS) ⟨mu, nu, trd, trr, alo, aag, awk, ahd, v, 0⟩ T m).aH lre lde lca hgl ht.n hmm9 (fun j hj => (ch_of (ht.c j hj)).1) ht.n60 (fun j hj => as_of (ht.c j hj)) pa.lt pa.le (fun i hi => (pa.ok i hi).1) (fun i hi => (pa.ok i hi).2) hW hE (by omega) (fun i hi => (hR i hi).1) hL) (C_X6_execute_f hg.1.1.1.1 l D cy bd _ _ _ _ _ _ _ _ _ _ _ _ _ _ _ _ _ _ _ _ m (zhs bx tn') (fun i => (zsq (σ := zTS) ⟨mu, nu, trd, trr, alo, aag, awk, ahd, v, 0⟩ T i).v) (fun i => (zsq (σ := zTS) ⟨mu, nu, trd, trr, alo, aag, awk, ahd, v, 0⟩ T (i + 1)).r) r t2 why det cau (zsq (σ := zTS) ⟨mu, nu, trd, trr, alo, aag, awk, ahd, v, 0⟩ T m).v ht.n60 hPW rfl (fun i _ => congrArg (· + 1) (cg_cH hq _).symm) (fun i hi => (cg_cW hq _).trans (hW i (by omega))) (fun i hi => (by rw [cg_cH hq, hq]; exact (pa.ok i (by omega)).2)) (fun i hi => pa.le i (by omega)) (fun i hi => (hR i hi).2) hM (Or.inl t0) t0) (C_X6_thrown hg.1.1.1.1 l D cy bd _ _ _ _ _ _ _ _ _ _ _ _ _ _ _ _ _ _ _ _ _) (fun z => absurd z (by decide)) (zIn.mk' ⟨cur, sno, sns, his, rea, txt.clr, out⟩)
  · have l1 := LW_1 (tx := bx) (en := tn') (h := zcH bx tn' (zhs bx tn' mq)) (F := 60 - mq)
    have zPb : zPH tx tn' ≤ tn' := by rw [cg_PH hq, pa.lh, hF, hW0, l1.2]; exact zb9
    have zPp : 0 ≤ nI (zPH tx tn') := nI_pos' (by omega)
    exact zAS (C_L_execute_bw hg l hfl D cy ad qn qt qs qh _ _ _ _ _ _ _ _ _ _ _ _ _ _ _ _ _ _ _ _ _ _ _ _ _ _ _ _ _ _ _ _ _ _ _ _ _ _ _ _ _ _ ak av mq hgl ht.n hmm9 (fun j hj => (ch_of (ht.c j hj)).1) ht.n60 (fun j hj => as_of (ht.c j hj)) pa.lt pa.le (fun i hi => (pa.ok i hi).1) (fun i hi => (pa.ok i hi).2) hW0) (C_X6_execute_wrong hg.1.1.1.1 l D cy bd _ _ _ _ _ _ _ _ _ _ _ _ _ _ _ _ _ _ _ _ _ ht.n60 ((cg_PW hq).trans (pa.lw.trans (by rw [hF, hW0]; exact l1.1)))) (C_X6_thrown hg.1.1.1.1 l D cy bd _ _ _ _ _ _ _ _ _ _ _ _ _ _ _ _ _ _ _ _ _) (fun z => absurd z (by decide)) (zIn.mk' ⟨cur, sno, sns, his, ⟨(congrArg nI ((cg_PH hq).trans (pa.lh.trans (by rw [hF, hW0]; exact l1.2)))), Or.inr zPp, rea.re, rea.de, rea.ca, rea.cn⟩, txt.clr, out⟩)
