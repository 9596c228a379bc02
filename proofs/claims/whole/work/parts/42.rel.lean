/-! the two worlds' contents, and what ties them together -/
section ZREL
structure zPX where
  mu : Nat → Nat → Int32
  nu : Nat → Nat
  rdt : Int32
  rrs : Int32
  tm : Nat → Nat → Int32
  tn : Nat → Nat
  trd : Int32
  trr : Int32
  sm : Nat → Nat → Int32
  sn : Nat → Nat
  srd : Int32
  srr : Int32
  alo : Nat → Int32
  aag : Nat → Int32
  awk : Int32
  ahd : Int32
  nx : Nat
  hc : Nat
  hm : Nat → Nat → Nat → Int32
  hn : Nat → Nat → Nat
  ss : Int32
  lse : Int32
  lre : Int32
  lde : Int32
  lca : Int32
  kc : Nat
  he : Nat
  oo : Nat → Int32
  fi : Nat → Int32
  se : Nat → Int32
  b8 : Nat
  mm : Nat
  ml : Int32
  nn : Nat
  bx : Nat → Int32
  c8 : Nat
  om : Nat
  oml : Int32
  on : Nat
  ox : Nat → Int32
  lo1 : Nat → Int64
  lo2 : Nat → UInt64
structure zPM where
  th : Int32
  ch : Nat
  era : Int32
  why : Int32
  det : Int32
  cau : Int32
  sv : Bool
  rj : Bool
  tn : Nat
  he : Nat
  en : Nat
  ln : Nat
  iw : Bool
  dg : Bool
  v : Nat → Int32
  bf : Nat → Int32
  sf : Nat → Int32
  kf : Nat → Int32
  pq : Nat → Nat → Int32
  tx : Nat → Int32
  lx : Nat → Int32
abbrev zPX.w (A : zPX) (cy : Nat → ClassId) (ad qn qt qs : Nat → Nat) (qh : Nat → Nat → Nat) : va_W := wX cy ad qn qt qs qh A.mu A.nu A.rdt A.rrs A.tm A.tn A.trd A.trr A.sm A.sn A.srd A.srr A.alo A.aag A.awk A.ahd A.nx A.hc A.hm A.hn A.ss A.lse A.lre A.lde A.lca A.kc A.he A.oo A.fi A.se A.b8 A.mm A.ml A.nn A.bx A.c8 A.om A.oml A.on A.ox A.lo1 A.lo2
abbrev zPM.w (B : zPM) (cy : Nat → ClassId) (bd : Nat → Nat) : va_W := wM cy bd B.th B.ch B.era B.why B.det B.cau B.sv B.rj B.tn B.he B.en B.ln B.iw B.dg B.v B.bf B.sf B.kf B.pq B.tx B.lx
/-- what a machine's contents keep -/
structure zGd (mu : Nat → Nat → Int32) (nu : Nat → Nat) : Prop where
  n0 : nu 0 < 4
  n1 : nu 1 ≤ 6
  n2 : nu 2 ≤ 30
  wk : pm (mu 8 0)
  hk : pm (mu 8 1)
  hd : ∀ j, j < 24 → zb (mu 8 1) (nI j) = true → zb (mu 8 0) (nI j) = true
  lk : ∀ j, j < 24 → ∃ k : Nat, k ≤ 3 ∧ mu 0 j = nI k
  lw : ∀ j, j < 24 → zb (mu 8 0) (nI j) = false → mu 0 j = 0
  ak : ∀ j, j < 24 → ∃ k : Nat, k ≤ 5 ∧ mu 1 j = nI k
  al : ∀ j, j < 24 → mu 0 j = 0 → mu 1 j = 0
  yk : ∀ j, j < 4 → ∃ k : Nat, k ≤ 200 ∧ mu 6 j = nI k
  rk : ∀ j, j < nu 1 → ∃ k : Nat, k ≤ 255 ∧ mu 7 j = nI k
  cw : ∀ c, c < nu 2 → ∃ k : Nat, k ≤ 24 ∧ mu 2 c = nI k
  cy : ∀ c, c < nu 2 → ∃ k : Nat, k ≤ 200 ∧ mu 3 c = nI k
  cf : ∀ c, c < nu 2 → ∃ k : Nat, k < 4 ∧ mu 4 c = nI k
  cd : ∀ c, c < nu 2 → ∃ k : Nat, k ≤ 72 ∧ mu 5 c = nI k
/-- a machine's contents and the model's -/
structure zSt (mu : Nat → Nat → Int32) (nu : Nat → Nat) (v : Nat → Int32) : Prop where
  gd : zGd mu nu
  v0 : v 0 = mu 8 0
  v1 : v 1 = mu 8 1
  v2 : v 2 = nI (nu 0)
  v3 : v 3 = mu 8 2
  v4 : v 4 = nI (nu 1)
  v5 : v 5 = nI (nu 2)
  v6 : v 6 = mu 8 3
  v7 : v 7 = mu 8 4
  v8 : v 8 = mu 8 5
  v9 : v 9 = mu 8 6
  lo : ∀ j, j < 24 → v (10 + j) = mu 0 j
  ag : ∀ j, j < 24 → v (34 + j) = mu 1 j
  yn : ∀ j, j < 4 → v (58 + j) = mu 6 j
  ro : ∀ j, j < nu 1 → v (62 + j) = mu 7 j
  cw : ∀ c, c < nu 2 → v (68 + 4 * c) = mu 2 c
  cf : ∀ c, c < nu 2 → v (68 + 4 * c + 1) = mu 4 c
  cy : ∀ c, c < nu 2 → v (68 + 4 * c + 2) = mu 3 c
  cd : ∀ c, c < nu 2 → v (68 + 4 * c + 3) = mu 5 c
/-- the last eight states -/
structure zHi (nx hc : Nat) (hm : Nat → Nat → Nat → Int32) (hn : Nat → Nat → Nat) (ch : Nat) (pq : Nat → Nat → Int32) : Prop where
  nl : nx < 8
  hl : hc ≤ 8
  ce : ch = hc
  st : ∀ i, i < ch → zSt (hm ((nx + 8 - ch + i) % 8)) (hn ((nx + 8 - ch + i) % 8)) (pq i)
/-- what went wrong last -/
structure zRe (lse lre lde lca era why det cau : Int32) : Prop where
  se : era = lse
  sn : era = -1 ∨ 0 ≤ era
  re : why = lre
  de : det = lde
  ca : cau = lca
  cn : cau = 0 ↔ ¬ lre = 15
/-- the text read -/
structure zTx (mm nn : Nat) (bx : Nat → Int32) (tn : Nat) (tx : Nat → Int32) : Prop where
  m : mm = 16 ∨ mm = 34 ∨ mm = 70
  n : nn ≤ mm
  n60 : nn ≤ 60
  e : tn = nn
  x : ∀ j, j < nn → tx j = bx j
  c : ∀ j, j < nn → zic 32 126 (bx j) = true
  b : ∀ j, j < mm → fits .byte (.int (bx j)) = true
/-- the text written -/
structure zOu (om on : Nat) (ox : Nat → Int32) (ln : Nat) (lx : Nat → Int32) : Prop where
  m : om = 16 ∨ om = 34
  n : on ≤ om
  n24 : on ≤ 24
  e : ln = on
  x : ∀ j, j < on → lx j = ox j
  c : ∀ j, j < on → zic 32 126 (ox j) = true
structure zRI (A : zPX) (B : zPM) : Prop where
  cur : zSt A.mu A.nu B.v
  sno : A.ss = zI B.sv
  sns : B.sv = true → zSt A.sm A.sn B.sf
  his : zHi A.nx A.hc A.hm A.hn B.ch B.pq
  rea : zRe A.lse A.lre A.lde A.lca B.era B.why B.det B.cau
  txt : zTx A.mm A.nn A.bx B.tn B.tx
  out : zOu A.om A.on A.ox B.ln B.lx
/-- the two worlds stand together -/
def zIn (cy : Nat → ClassId) (ad qn qt qs : Nat → Nat) (qh : Nat → Nat → Nat) (bd : Nat → Nat) (w m : va_W) : Prop := ∃ (A : zPX) (B : zPM), w = A.w cy ad qn qt qs qh ∧ m = B.w cy bd ∧ zRI A B
theorem zIn.mk' {cy : Nat → ClassId} {ad qn qt qs : Nat → Nat} {qh : Nat → Nat → Nat} {bd : Nat → Nat} {mu : Nat → Nat → Int32} {nu : Nat → Nat} {rdt : Int32} {rrs : Int32} {tm : Nat → Nat → Int32} {tn : Nat → Nat} {trd : Int32} {trr : Int32} {sm : Nat → Nat → Int32} {sn : Nat → Nat} {srd : Int32} {srr : Int32} {alo : Nat → Int32} {aag : Nat → Int32} {awk : Int32} {ahd : Int32} {nx : Nat} {hc : Nat} {hm : Nat → Nat → Nat → Int32} {hn : Nat → Nat → Nat} {ss : Int32} {lse : Int32} {lre : Int32} {lde : Int32} {lca : Int32} {kc : Nat} {he : Nat} {oo : Nat → Int32} {fi : Nat → Int32} {se : Nat → Int32} {b8 : Nat} {mm : Nat} {ml : Int32} {nn : Nat} {bx : Nat → Int32} {c8 : Nat} {om : Nat} {oml : Int32} {on : Nat} {ox : Nat → Int32} {lo1 : Nat → Int64} {lo2 : Nat → UInt64} {th' : Int32} {ch' : Nat} {era' : Int32} {why' : Int32} {det' : Int32} {cau' : Int32} {sv' : Bool} {rj' : Bool} {tn' : Nat} {he' : Nat} {en' : Nat} {ln' : Nat} {iw' : Bool} {dg' : Bool} {v' : Nat → Int32} {bf' : Nat → Int32} {sf' : Nat → Int32} {kf' : Nat → Int32} {pq' : Nat → Nat → Int32} {tx' : Nat → Int32} {lx' : Nat → Int32} (h : zRI ⟨mu, nu, rdt, rrs, tm, tn, trd, trr, sm, sn, srd, srr, alo, aag, awk, ahd, nx, hc, hm, hn, ss, lse, lre, lde, lca, kc, he, oo, fi, se, b8, mm, ml, nn, bx, c8, om, oml, on, ox, lo1, lo2⟩ ⟨th', ch', era', why', det', cau', sv', rj', tn', he', en', ln', iw', dg', v', bf', sf', kf', pq', tx', lx'⟩) : zIn cy ad qn qt qs qh bd (wX cy ad qn qt qs qh mu nu rdt rrs tm tn trd trr sm sn srd srr alo aag awk ahd nx hc hm hn ss lse lre lde lca kc he oo fi se b8 mm ml nn bx c8 om oml on ox lo1 lo2) (wM cy bd th' ch' era' why' det' cau' sv' rj' tn' he' en' ln' iw' dg' v' bf' sf' kf' pq' tx' lx') := ⟨_, _, rfl, rfl, h⟩
theorem zIn.hd {cy : Nat → ClassId} {ad qn qt qs : Nat → Nat} {qh : Nat → Nat → Nat} {bd : Nat → Nat} {w m : va_W} (h : zIn cy ad qn qt qs qh bd w m) : zHd (ad 0) (bd 0) w m := by
  obtain ⟨A, B, rfl, rfl, -⟩ := h
  exact ⟨⟨_, rfl⟩, ⟨_, rfl⟩⟩
theorem zo1 {cy : Nat → ClassId} {ad qn qt qs : Nat → Nat} {qh : Nat → Nat → Nat} {mu : Nat → Nat → Int32} {nu : Nat → Nat} {rdt : Int32} {rrs : Int32} {tm : Nat → Nat → Int32} {tn : Nat → Nat} {trd : Int32} {trr : Int32} {sm : Nat → Nat → Int32} {sn : Nat → Nat} {srd : Int32} {srr : Int32} {alo : Nat → Int32} {aag : Nat → Int32} {awk : Int32} {ahd : Int32} {nx : Nat} {hc : Nat} {hm : Nat → Nat → Nat → Int32} {hn : Nat → Nat → Nat} {ss : Int32} {lse : Int32} {lre : Int32} {lde : Int32} {lca : Int32} {kc : Nat} {he : Nat} {oo : Nat → Int32} {fi : Nat → Int32} {se : Nat → Int32} {b8 : Nat} {mm : Nat} {ml : Int32} {nn : Nat} {bx : Nat → Int32} {c8 : Nat} {om : Nat} {oml : Int32} {on : Nat} {ox : Nat → Int32} {lo1 : Nat → Int64} {lo2 : Nat → UInt64} {z z' : Int64} (e : z = z') : zOut (ad 12) cy (wX cy ad qn qt qs qh mu nu rdt rrs tm tn trd trr sm sn srd srr alo aag awk ahd nx hc hm hn ss lse lre lde lca kc he oo fi se b8 mm ml nn bx c8 om oml on ox (vp_updL lo1 (0 : Int32).toNatClampNeg z) lo2) z' := ⟨_, rfl, by rw [← e]; exact if_pos rfl⟩
theorem zAS {G : zG} {D : va_G} {cy : Nat → ClassId} {l : Launch} {I : va_W → va_W → Prop} {x9 : Nat} {yL : MethodName} {wsL : List Cond} {asL : List Value} {yM : MethodName} {wsM : List Cond} {asM : List Value} {Out : va_W → Int32 → Prop} {w m W2 M2 : va_W} {k0 b0 : Int32}
    (hL : zC G D vwCl (zT cy) l yL wsL rmBX asL w (fun w2 o2 => w2 = W2 ∧ o2 = some (.int k0)) 2 96) (hM : zC G D vwCl (zT cy) l yM wsM rmBM asM m (fun m2 o2 => m2 = M2 ∧ o2 = some (.int b0)) 0 0) (ht : zThr G D cy l x9 M2 k0) (ho : k0 = 0 → Out W2 b0) (hI : I W2 M2) : zArmS G D cy l I x9 yL wsL asL yM wsM asM Out w m :=
  ⟨fun w' k => w' = W2 ∧ k = k0, fun m' b => m' = M2 ∧ b = b0, hL.mono (fun w2 o2 h => ⟨w2, ⟨k0, h.2, h.1, rfl⟩, .rf⟩) (Nat.le_refl _) (Nat.le_refl _) (Nat.le_refl _) (Nat.le_refl _) (Nat.le_refl _) (Nat.le_refl _), hM.mono (fun m2 o2 h => ⟨m2, ⟨b0, h.2, h.1, rfl⟩, .rf⟩) (Nat.le_refl _) (Nat.le_refl _) (Nat.le_refl _) (Nat.le_refl _) (Nat.le_refl _) (Nat.le_refl _), fun w' k m' b h1 h2 => by
    obtain ⟨rfl, rfl⟩ := h1
    obtain ⟨rfl, rfl⟩ := h2
    exact ⟨ht, ho, hI⟩⟩
theorem zAD {G : zG} {D : va_G} {cy : Nat → ClassId} {l : Launch} {I : va_W → va_W → Prop} {yL : MethodName} {wsL : List Cond} {asL : List Value} {yM : MethodName} {wsM : List Cond} {asM : List Value} {w m W2 M2 : va_W} {k0 b0 : Int32}
    (hL : zC G D vwCl (zT cy) l yL wsL rmBX asL w (fun w2 o2 => w2 = W2 ∧ o2 = some (.int k0)) 2 96) (hM : zC G D vwCl (zT cy) l yM wsM rmBM asM m (fun m2 o2 => m2 = M2 ∧ o2 = some (.int b0)) 0 0) (he : k0 = b0) (hI : I W2 M2) : zArmD G D cy l I yL wsL asL yM wsM asM w m :=
  ⟨fun w' k => w' = W2 ∧ k = k0, fun m' b => m' = M2 ∧ b = b0, hL.mono (fun w2 o2 h => ⟨w2, ⟨k0, h.2, h.1, rfl⟩, .rf⟩) (Nat.le_refl _) (Nat.le_refl _) (Nat.le_refl _) (Nat.le_refl _) (Nat.le_refl _) (Nat.le_refl _), hM.mono (fun m2 o2 h => ⟨m2, ⟨b0, h.2, h.1, rfl⟩, .rf⟩) (Nat.le_refl _) (Nat.le_refl _) (Nat.le_refl _) (Nat.le_refl _) (Nat.le_refl _) (Nat.le_refl _), fun w' k m' b h1 h2 => by
    obtain ⟨rfl, rfl⟩ := h1
    obtain ⟨rfl, rfl⟩ := h2
    exact ⟨he, hI⟩⟩
theorem zin_of {n : Nat} (hn : n < 2 ^ 31) (x : Int32) : (∃ k : Nat, k < n ∧ x = nI k) ∨ (zin 0 (nI n) x = false ∧ zic 0 (nI n - 1) x = false) := by
  by_cases h : x < 0
  · exact Or.inr ⟨by simp [zin, h], by simp [zic, h]⟩
  · obtain ⟨j, hj, rfl⟩ := nI_of h
    by_cases h2 : j < n
    · exact Or.inl ⟨j, h2, rfl⟩
    · refine Or.inr ⟨by simp [zin, (nI_leI hn hj).mpr (Nat.le_of_not_lt h2)], ?_⟩
      have h3 : nI n - 1 < nI j := by
        match n, hn, h2 with
        | 0, _, _ => rw [show nI 0 - 1 = -1 from by decide]; exact Int32.lt_iff_toInt_lt.mpr (by rw [nI_toInt hj]; show (-1 : Int) < _; omega)
        | n + 1, hn, h2 => rw [nI_pred]; exact nI_lt (by omega) hj
      simp [zic, h3]
theorem zfi_cong {p q : Nat → Bool} : ∀ (n k : Nat), (∀ j, k ≤ j → j < k + n → p j = q j) → zfi p n k = zfi q n k
  | 0, _, _ => rfl
  | n + 1, k, h => by
    simp only [zfi]
    rw [h k (Nat.le_refl k) (by omega), zfi_cong n (k + 1) (fun j h1 h2 => h j (by omega) (by omega))]
theorem zHi.push {nx hc : Nat} {hm : Nat → Nat → Nat → Int32} {hn : Nat → Nat → Nat} {ch : Nat} {pq : Nat → Nat → Int32} (h : zHi nx hc hm hn ch pq) {mu : Nat → Nat → Int32} {nu : Nat → Nat} {v : Nat → Int32} (c : zSt mu nu v) : zHi ((nx + 1) % 8) (min (hc + 1) 8) (va_up hm nx mu) (va_up hn nx nu) (min (ch + 1) 8) (zph pq ch v) := by
  have h1 := h.nl
  have h2 := h.hl
  have h3 := h.ce
  have top : ∀ (z k : Nat), z = nx → zph pq ch v k = v → zSt (va_up hm nx mu z) (va_up hn nx nu z) (zph pq ch v k) := fun z k e1 e2 => by
    rw [e1, e2, show va_up hm nx mu nx = mu from if_pos rfl, show va_up hn nx nu nx = nu from if_pos rfl]; exact c
  have old : ∀ (z k j : Nat), j < ch → z = (nx + 8 - ch + j) % 8 → ¬ z = nx → zph pq ch v k = pq j → zSt (va_up hm nx mu z) (va_up hn nx nu z) (zph pq ch v k) := fun z k j hj e1 n e2 => by
    rw [e2, show va_up hm nx mu z = hm z from if_neg n, show va_up hn nx nu z = hn z from if_neg n, e1]; exact h.st j hj
  refine ⟨by omega, by omega, by omega, fun i hi => ?_⟩
  by_cases hq : ch = 8
  · by_cases h7 : i = 7
    · exact top _ _ (by omega) (by simp [zph, hq, h7])
    · exact old _ _ (i + 1) (by omega) (by omega) (by omega) (by simp [zph, hq, h7])
  · by_cases h7 : i = ch
    · exact top _ _ (by omega) (by simp [zph, hq, h7, va_up])
    · exact old _ _ i (by omega) (by omega) (by omega) (by simp [zph, hq, h7, va_up])
theorem zHi.pop {nx hc : Nat} {hm : Nat → Nat → Nat → Int32} {hn : Nat → Nat → Nat} {cx : Nat} {pq : Nat → Nat → Int32} (h : zHi nx hc hm hn (cx + 1) pq) : zHi ((nx + 7) % 8) (hc - 1) hm hn cx pq ∧ zSt (hm ((nx + 7) % 8)) (hn ((nx + 7) % 8)) (pq cx) := by
  have h1 := h.nl
  have h2 := h.hl
  have h3 := h.ce
  refine ⟨⟨by omega, by omega, by omega, fun i hi => ?_⟩, ?_⟩
  · have e : ((nx + 7) % 8 + 8 - cx + i) % 8 = (nx + 8 - (cx + 1) + i) % 8 := by omega
    rw [e]
    exact h.st i (by omega)
  · have e : (nx + 7) % 8 = (nx + 8 - (cx + 1) + cx) % 8 := by omega
    rw [e]
    exact h.st cx (by omega)
theorem un {f : Nat → Int32} {k j : Nat} {x : Int32} (h : ¬ j = k) : upd f k x j = f j := upd_n h
theorem zsum_cong {f g : Nat → Int32} : ∀ n, (∀ j, j < n → f j = g j) → zsum f n = zsum g n
  | 0, _ => rfl
  | n + 1, h => by
    simp only [zsum]
    rw [zsum_cong n (fun j hj => h j (by omega)), h n (by omega)]
theorem zrn_cong {f g : Nat → Int32} : ∀ n, (∀ j, j < n → f j = g j) → zrn f n = zrn g n
  | 0, _ => rfl
  | n + 1, h => by
    simp only [zrn]
    rw [zrn_cong n (fun j hj => h j (by omega)), h n (by omega)]
theorem zrl_cong {f g : Nat → Int32} : ∀ n, (∀ j, j < n → f j = g j) → zrl f n = zrl g n
  | 0, _ => rfl
  | n + 1, h => by
    simp only [zrl]
    rw [zrl_cong n (fun j hj => h j (by omega)), zrn_cong (n + 1) h]
theorem zb_or1 (m : Int32) {a j : Nat} (ha : a < 24) (hj : j < 24) : zb (m ||| ((1 : Int32) <<< (nI a &&& 31))) (nI j) = (zb m (nI j) || decide (j = a)) := by
  rw [zb_bt _ (by omega), zb_bt _ (by omega), b_or, bt_one (by omega) (by omega)]
theorem zb_an1 (m : Int32) {a j : Nat} (ha : a < 24) (hj : j < 24) : zb (m &&& (((1 : Int32) <<< (nI a &&& 31)) ^^^ (-1))) (nI j) = (zb m (nI j) && !decide (j = a)) := by
  rw [zb_bt _ (by omega), zb_bt _ (by omega), b_and, bt_not _ (by omega), bt_one (by omega) (by omega)]
theorem pm_or1 {m : Int32} (h : pm m) {a : Nat} (ha : a < 24) : pm (m ||| ((1 : Int32) <<< (nI a &&& 31))) := fun i h1 h2 => by
  rw [b_or, h i h1 h2, bt_one (by omega) h2]
  simp; omega
theorem pm_an1 {m : Int32} (h : pm m) (x : Int32) : pm (m &&& x) := fun i h1 h2 => by rw [b_and, h i h1 h2, Bool.false_and]
/-- a bit that stands, taken away in two ways -/
theorem an_xor {m : Int32} {a : Nat} (ha : a < 24) (h : zb m (nI a) = true) : m &&& (((1 : Int32) <<< (nI a &&& 31)) ^^^ (-1)) = m ^^^ ((1 : Int32) <<< (nI a &&& 31)) := by
  rw [zb_bt _ (by omega)] at h
  apply b_ext
  intro i hi
  rw [b_and, bt_not _ hi, b_xor, bt_one (by omega) hi]
  by_cases e : i = a
  · subst e; simp [h]
  · simp [e]
end ZREL
