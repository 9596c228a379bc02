theorem zI_fit (b : Bool) : fits .boolean (.int (zI b)) = true := by cases b <;> rfl
def zlo (v : Nat → Int32) (j : Nat) : Int32 := v (10 + j)
def zag (v : Nat → Int32) (j : Nat) : Int32 := v (34 + j)
def zya (v : Nat → Int32) (j : Nat) : Int32 := v (58 + j)
def zpa (v : Nat → Int32) (j : Nat) : Int32 := v (62 + j)
def zcw (v : Nat → Int32) (w : Nat) (c : Nat) : Int32 := v (68 + 4 * c + w)
def zpt (v : Nat → Int32) (k : Nat) (l a : Int32) : Nat → Int32 := upd (upd v (10 + k) l) (34 + k) (if l = 0 then 0 else a)
/-- the first places copied -/
def zcp (t f : Nat → Int32) (k : Nat) : Nat → Int32 := fun j => if j < k then f j else t j
theorem zcp_0 (t f : Nat → Int32) : zcp t f 0 = t := by funext j; simp [zcp]
theorem zcp_s (t f : Nat → Int32) (k : Nat) : upd (zcp t f k) k (f k) = zcp t f (k + 1) := by
  funext j
  simp only [upd, zcp]
  by_cases h : j = k
  · subst h; simp
  · by_cases h2 : j < k
    · simp [h, h2, Nat.lt_succ_of_lt h2]
    · simp [h, h2, show ¬ j < k + 1 by omega]
theorem zcp_e (t f : Nat → Int32) {n j : Nat} (h : j < n) : zcp t f n j = f j := by simp [zcp, h]
/-- a row of eight records -/
def zpk (hq : Nat → Nat → Int32) (n : Nat) : Int32 := hq (n / 188) (n % 188)
/-- bits are counted off from below -/
def zbc : Nat → Int32 → Int32 → Int32
  | 0, _, n => n
  | F + 1, x, n => if x = 0 then n else zbc F (x &&& (x - 1)) (n + 1)
/-- so many steps are enough -/
def zbok : Nat → Int32 → Prop
  | 0, x => x = 0
  | F + 1, x => x = 0 ∨ zbok F (x &&& (x - 1))
theorem zbok_s {F : Nat} {x : Int32} (h : zbok F x) (h0 : ¬ x = 0) : ∃ G, F = G + 1 ∧ zbok G (x &&& (x - 1)) := by
  cases F with
  | zero => exact absurd h h0
  | succ G => exact ⟨G, rfl, h.resolve_left h0⟩
theorem zbc_0 {x : Int32} (h : x = 0) (F : Nat) (n : Int32) : zbc F x n = n := by
  cases F <;> simp [zbc, h]
abbrev rmX6_isIn : Room := { frames := 0, cells := 0, slots := 0, locals := 0 }
set_option maxHeartbeats 4000000 in
set_option maxRecDepth 100000 in
theorem c_X6_isIn {G : zG} (hg : zGN G) (l : Launch) (D : va_G) (cy : Nat → ClassId) (xq : Int32) (lw : Int32) (hg2 : Int32) : zM G D vwCl (zT cy) l yX6_isIn wsX6_isIn rmX6_isIn [.int xq, .int lw, .int hg2] [] (some (.int (zI (zic lw hg2 xq)))) [] := by
  refine zM_of (cc := cX6_isIn) (maxL := 3) (ret := (some .boolean)) (by decide) rfl (Nat.le_of_ble_eq_true rfl) ?_
  intro p e s m below meth c A Q hend hx hb hml hr hts hown hlk hG hK hP hD hA hS ls hl
  have hown : s.vm.findClass RX6 = some m.cls := hown
  have hl : lv_has ls 3 [(0, .int xq), (1, .int lw), (2, .int hg2)] := hl
  refine lv_iload_n hx hb dX6_isIn_0 rfl (lv_at hl 0 rfl) ?_
  refine lv_iload_n hx hb dX6_isIn_1 rfl (lv_at hl 1 rfl) ?_
  refine lv_icmp_lt (tgt := 14) hx hb dX6_isIn_2 (by decide) (fun c_1 => ?_) (fun c_1 => ?_)
  · refine lv_iconst (v := 0) hx hb dX6_isIn_14 (by decide) ?_
    exact zzret hend hx hb hr hlk hK hP hD hS dX6_isIn_15 rfl (by first | (simp only [zI, zic, c_1, decide_true, decide_false, Bool.not_true, Bool.not_false, Bool.and_true, Bool.true_and, Bool.and_false, Bool.false_and, Bool.or_false, Bool.false_or, Bool.or_true, Bool.true_or, ↓reduceIte, Bool.false_eq_true, not_true_eq_false, not_false_eq_true, and_self]; done) | (simp [zI, zic, c_1]; done) | (simp_all [zI, zic]; done)) rfl
  · refine lv_iload_n hx hb dX6_isIn_5 rfl (lv_at hl 0 rfl) ?_
    refine lv_iload_n hx hb dX6_isIn_6 rfl (lv_at hl 2 rfl) ?_
    refine lv_icmp_gt (tgt := 14) hx hb dX6_isIn_7 (by decide) (fun c_2 => ?_) (fun c_2 => ?_)
    · refine lv_iconst (v := 0) hx hb dX6_isIn_14 (by decide) ?_
      exact zzret hend hx hb hr hlk hK hP hD hS dX6_isIn_15 rfl (by first | (simp only [zI, zic, c_1, c_2, decide_true, decide_false, Bool.not_true, Bool.not_false, Bool.and_true, Bool.true_and, Bool.and_false, Bool.false_and, Bool.or_false, Bool.false_or, Bool.or_true, Bool.true_or, ↓reduceIte, Bool.false_eq_true, not_true_eq_false, not_false_eq_true, and_self]; done) | (simp [zI, zic, c_1, c_2]; done) | (simp_all [zI, zic]; done)) rfl
    · refine lv_iconst (v := 1) hx hb dX6_isIn_10 (by decide) ?_
      refine lv_goto (tgt := 15) hx hb dX6_isIn_11 (by decide) ?_
      exact zzret hend hx hb hr hlk hK hP hD hS dX6_isIn_15 rfl (by first | (simp only [zI, zic, c_1, c_2, decide_true, decide_false, Bool.not_true, Bool.not_false, Bool.and_true, Bool.true_and, Bool.and_false, Bool.false_and, Bool.or_false, Bool.false_or, Bool.or_true, Bool.true_or, ↓reduceIte, Bool.false_eq_true, not_true_eq_false, not_false_eq_true, and_self]; done) | (simp [zI, zic, c_1, c_2]; done) | (simp_all [zI, zic]; done)) rfl

abbrev rmX6_isNeedle : Room := { frames := 1, cells := 0, slots := 0, locals := 22 }
set_option maxHeartbeats 4000000 in
set_option maxRecDepth 100000 in
theorem c_X6_isNeedle {G : zG} (hg : zGN G) (l : Launch) (D : va_G) (cy : Nat → ClassId) (nq : Int32) : zM G D vwCl (zT cy) l yX6_isNeedle wsX6_isNeedle rmX6_isNeedle [.int nq] [] (some (.int (zI (zic 0 23 nq)))) [] := by
  refine zM_of (cc := cX6_isNeedle) (maxL := 1) (ret := (some .boolean)) (by decide) rfl (Nat.le_of_ble_eq_true rfl) ?_
  intro p e s m below meth c A Q hend hx hb hml hr hts hown hlk hG hK hP hD hA hS ls hl
  have hown : s.vm.findClass RX6 = some m.cls := hown
  have hl : lv_has ls 1 [(0, .int nq)] := hl
  refine lv_iload_n hx hb dX6_isNeedle_0 rfl (lv_at hl 0 rfl) ?_
  refine lv_iconst (v := 0) hx hb dX6_isNeedle_1 (by decide) ?_
  refine lv_bipush (v := 23) hx hb dX6_isNeedle_2 (by decide) ?_
  refine zcS (As := [.int nq, .int 0, .int 23]) (rest := []) [] hg.1 ⟨hx, hb, hml, hown, hts⟩ (c_X6_isIn hg l D cy nq 0 23) (va_cwS 3 hts gX6_isNeedle_X6_isIn rfl rfl rfl (by decide +kernel) ⟨Nat.le_of_ble_eq_true rfl, Nat.le_of_ble_eq_true rfl⟩) hG hK hP hD hS hA rfl rfl rfl  rfl hl.1 rfl (Nat.le_of_ble_eq_true rfl) dX6_isNeedle_4 ⟨Nat.zero_le _, Nat.zero_le _⟩ (fun H locs hP hD hS => ?_)
  have hP : va_P D vwCl [] H := hP
  have hD : va_D A [] := hD
  exact zzret hend hx hb hr hlk hK hP hD hS dX6_isNeedle_7 (zI_nar _) rfl rfl

abbrev rmX6_isFeeder : Room := { frames := 1, cells := 0, slots := 0, locals := 22 }
set_option maxHeartbeats 4000000 in
set_option maxRecDepth 100000 in
theorem c_X6_isFeeder {G : zG} (hg : zGN G) (l : Launch) (D : va_G) (cy : Nat → ClassId) (nq : Int32) : zM G D vwCl (zT cy) l yX6_isFeeder wsX6_isFeeder rmX6_isFeeder [.int nq] [] (some (.int (zI (zic 0 3 nq)))) [] := by
  refine zM_of (cc := cX6_isFeeder) (maxL := 1) (ret := (some .boolean)) (by decide) rfl (Nat.le_of_ble_eq_true rfl) ?_
  intro p e s m below meth c A Q hend hx hb hml hr hts hown hlk hG hK hP hD hA hS ls hl
  have hown : s.vm.findClass RX6 = some m.cls := hown
  have hl : lv_has ls 1 [(0, .int nq)] := hl
  refine lv_iload_n hx hb dX6_isFeeder_0 rfl (lv_at hl 0 rfl) ?_
  refine lv_iconst (v := 0) hx hb dX6_isFeeder_1 (by decide) ?_
  refine lv_iconst (v := 3) hx hb dX6_isFeeder_2 (by decide) ?_
  refine zcS (As := [.int nq, .int 0, .int 3]) (rest := []) [] hg.1 ⟨hx, hb, hml, hown, hts⟩ (c_X6_isIn hg l D cy nq 0 3) (va_cwS 3 hts gX6_isFeeder_X6_isIn rfl rfl rfl (by decide +kernel) ⟨Nat.le_of_ble_eq_true rfl, Nat.le_of_ble_eq_true rfl⟩) hG hK hP hD hS hA rfl rfl rfl  rfl hl.1 rfl (Nat.le_of_ble_eq_true rfl) dX6_isFeeder_3 ⟨Nat.zero_le _, Nat.zero_le _⟩ (fun H locs hP hD hS => ?_)
  have hP : va_P D vwCl [] H := hP
  have hD : va_D A [] := hD
  exact zzret hend hx hb hr hlk hK hP hD hS dX6_isFeeder_6 (zI_nar _) rfl rfl

abbrev rmX6_thrown : Room := { frames := 0, cells := 0, slots := 0, locals := 0 }
set_option maxHeartbeats 4000000 in
set_option maxRecDepth 100000 in
theorem c_X6_thrown {G : zG} (hg : zGN G) (l : Launch) (D : va_G) (cy : Nat → ClassId) (x9 : Nat) (th : Int32) (ch : Nat) (era : Int32) (why : Int32) (det : Int32) (cau : Int32) (sv : Bool) (rj : Bool) (v9 : Nat) (b9 : Nat) (s9 : Nat) (k9 : Nat) (p9 : Nat) (t9 : Nat) (n9 : Nat) (tn : Nat) (he : Nat) (en : Nat) (ln : Nat) (iw : Bool) (dg : Bool) : zM G D vwCl (zT cy) l yX6_thrown wsX6_thrown rmX6_thrown [.ref x9] [(x9, .inr (10, [.int th, .int (nI ch), .int era, .int why, .int det, .int cau, .int (zI sv), .int (zI rj), .ref v9, .ref b9, .ref s9, .ref k9, .ref p9, .ref t9, .ref n9, .int (nI tn), .int (nI he), .int (nI en), .int (nI ln), .int (zI iw), .int (zI dg)]))] (some (.int th)) [(x9, .inr (10, [.int th, .int (nI ch), .int era, .int why, .int det, .int cau, .int (zI sv), .int (zI rj), .ref v9, .ref b9, .ref s9, .ref k9, .ref p9, .ref t9, .ref n9, .int (nI tn), .int (nI he), .int (nI en), .int (nI ln), .int (zI iw), .int (zI dg)]))] := by
  refine zM_of (cc := cX6_thrown) (maxL := 1) (ret := (some .int)) (by decide) rfl (Nat.le_of_ble_eq_true rfl) ?_
  intro p e s m below meth c A Q hend hx hb hml hr hts hown hlk hG hK hP hD hA hS ls hl
  have hown : s.vm.findClass RX6 = some m.cls := hown
  have in_RX6 : ∀ w ∈ u_ws RX6 TX6 21, w ∈ wsX6_thrown := by decide +kernel
  have hl : lv_has ls 1 [(0, .ref x9)] := hl
  refine lv_aload_n hx hb dX6_thrown_0 rfl (lv_at hl 0 rfl) ?_
  refine va_get (D := D) (ci := 10) (v := .int th) (C := RX6) (T := TX6) (N := 21) hx hb hts in_RX6 hown hK hP 0 rfl rfl 0 (by decide) (hts _ (List.mem_of_getElem? (i := 1) rfl)) (fun _ h9 => h9) rfl dX6_thrown_1 ?_
  exact ziret hend hx hb hr hlk hK hP hD hS dX6_thrown_4 rfl rfl

abbrev rmX6_fail : Room := { frames := 0, cells := 0, slots := 0, locals := 0 }
set_option maxHeartbeats 4000000 in
set_option maxRecDepth 100000 in
theorem c_X6_fail {G : zG} (hg : zGN G) (l : Launch) (D : va_G) (cy : Nat → ClassId) (x9 : Nat) (th : Int32) (ch : Nat) (era : Int32) (why : Int32) (det : Int32) (cau : Int32) (sv : Bool) (rj : Bool) (v9 : Nat) (b9 : Nat) (s9 : Nat) (k9 : Nat) (p9 : Nat) (t9 : Nat) (n9 : Nat) (tn : Nat) (he : Nat) (en : Nat) (ln : Nat) (iw : Bool) (dg : Bool) (pl : Int32) : zM G D vwCl (zT cy) l yX6_fail wsX6_fail rmX6_fail [.ref x9, .int pl] [(x9, .inr (10, [.int th, .int (nI ch), .int era, .int why, .int det, .int cau, .int (zI sv), .int (zI rj), .ref v9, .ref b9, .ref s9, .ref k9, .ref p9, .ref t9, .ref n9, .int (nI tn), .int (nI he), .int (nI en), .int (nI ln), .int (zI iw), .int (zI dg)]))] (some (.int 0)) [(x9, .inr (10, [.int pl, .int (nI ch), .int era, .int why, .int det, .int cau, .int (zI sv), .int (zI rj), .ref v9, .ref b9, .ref s9, .ref k9, .ref p9, .ref t9, .ref n9, .int (nI tn), .int (nI he), .int (nI en), .int (nI ln), .int (zI iw), .int (zI dg)]))] := by
  refine zM_of (cc := cX6_fail) (maxL := 2) (ret := (some .int)) (by decide) rfl (Nat.le_of_ble_eq_true rfl) ?_
  intro p e s m below meth c A Q hend hx hb hml hr hts hown hlk hG hK hP hD hA hS ls hl
  have hown : s.vm.findClass RX6 = some m.cls := hown
  have in_RX6 : ∀ w ∈ u_ws RX6 TX6 21, w ∈ wsX6_fail := by decide +kernel
  have hl : lv_has ls 2 [(0, .ref x9), (1, .int pl)] := hl
  refine lv_aload_n hx hb dX6_fail_0 rfl (lv_at hl 0 rfl) ?_
  refine lv_iload_n hx hb dX6_fail_1 rfl (lv_at hl 1 rfl) ?_
  refine va_put (D := D) (ci := 10) (v := .int pl) (ty := .int) (C := RX6) (T := TX6) (N := 21) hx hb hts in_RX6 tyX6 tyX6_ok nmX6 hown hK hP hD hS 0 rfl rfl 0 (by decide) (hts _ (List.mem_of_getElem? (i := 1) rfl)) (fun _ h9 => h9) rfl (by decide +kernel) rfl rfl (Nat.le_of_ble_eq_true rfl) dX6_fail_2 (fun H locs hP hD hS => ?_)
  have hP : va_P D vwCl [(x9, .inr (10, [.int pl, .int (nI ch), .int era, .int why, .int det, .int cau, .int (zI sv), .int (zI rj), .ref v9, .ref b9, .ref s9, .ref k9, .ref p9, .ref t9, .ref n9, .int (nI tn), .int (nI he), .int (nI en), .int (nI ln), .int (zI iw), .int (zI dg)]))] H := hP
  have hD : va_D A [(x9, .inr (10, [.int pl, .int (nI ch), .int era, .int why, .int det, .int cau, .int (zI sv), .int (zI rj), .ref v9, .ref b9, .ref s9, .ref k9, .ref p9, .ref t9, .ref n9, .int (nI tn), .int (nI he), .int (nI en), .int (nI ln), .int (zI iw), .int (zI dg)]))] := hD
  refine lv_iconst (v := 0) hx hb dX6_fail_5 (by decide) ?_
  exact ziret hend hx hb hr hlk hK hP hD hS dX6_fail_6 rfl rfl

abbrev rmX6_rejects : Room := { frames := 1, cells := 0, slots := 0, locals := 21 }
set_option maxHeartbeats 4000000 in
set_option maxRecDepth 100000 in
theorem c_X6_rejects {G : zG} (hg : zGN G) (l : Launch) (D : va_G) (cy : Nat → ClassId) (x9 : Nat) (th : Int32) (ch : Nat) (era : Int32) (why : Int32) (det : Int32) (cau : Int32) (sv : Bool) (rj : Bool) (v9 : Nat) (b9 : Nat) (s9 : Nat) (k9 : Nat) (p9 : Nat) (t9 : Nat) (n9 : Nat) (tn : Nat) (he : Nat) (en : Nat) (ln : Nat) (iw : Bool) (dg : Bool) (pl : Int32) (rs : Int32) (wt : Int32) : zM G D vwCl (zT cy) l yX6_rejects wsX6_rejects rmX6_rejects [.ref x9, .int pl, .int rs, .int wt] [(x9, .inr (10, [.int th, .int (nI ch), .int era, .int why, .int det, .int cau, .int (zI sv), .int (zI rj), .ref v9, .ref b9, .ref s9, .ref k9, .ref p9, .ref t9, .ref n9, .int (nI tn), .int (nI he), .int (nI en), .int (nI ln), .int (zI iw), .int (zI dg)]))] (some (.int 0)) [(x9, .inr (10, [.int pl, .int (nI ch), .int era, .int rs, .int wt, .int 0, .int (zI sv), .int (zI true), .ref v9, .ref b9, .ref s9, .ref k9, .ref p9, .ref t9, .ref n9, .int (nI tn), .int (nI he), .int (nI en), .int (nI ln), .int (zI iw), .int (zI dg)]))] := by
  refine zM_of (cc := cX6_rejects) (maxL := 4) (ret := (some .int)) (by decide) rfl (Nat.le_of_ble_eq_true rfl) ?_
  intro p e s m below meth c A Q hend hx hb hml hr hts hown hlk hG hK hP hD hA hS ls hl
  have hown : s.vm.findClass RX6 = some m.cls := hown
  have in_RX6 : ∀ w ∈ u_ws RX6 TX6 21, w ∈ wsX6_rejects := by decide +kernel
  have hl : lv_has ls 4 [(0, .ref x9), (1, .int pl), (2, .int rs), (3, .int wt)] := hl
  refine lv_aload_n hx hb dX6_rejects_0 rfl (lv_at hl 0 rfl) ?_
  refine lv_iload_n hx hb dX6_rejects_1 rfl (lv_at hl 2 rfl) ?_
  refine va_put (D := D) (ci := 10) (v := .int rs) (ty := .int) (C := RX6) (T := TX6) (N := 21) hx hb hts in_RX6 tyX6 tyX6_ok nmX6 hown hK hP hD hS 0 rfl rfl 3 (by decide) (hts _ (List.mem_of_getElem? (i := 1) rfl)) (fun _ h9 => h9) rfl (by decide +kernel) rfl rfl (Nat.le_of_ble_eq_true rfl) dX6_rejects_2 (fun H locs hP hD hS => ?_)
  have hP : va_P D vwCl [(x9, .inr (10, [.int th, .int (nI ch), .int era, .int rs, .int det, .int cau, .int (zI sv), .int (zI rj), .ref v9, .ref b9, .ref s9, .ref k9, .ref p9, .ref t9, .ref n9, .int (nI tn), .int (nI he), .int (nI en), .int (nI ln), .int (zI iw), .int (zI dg)]))] H := hP
  have hD : va_D A [(x9, .inr (10, [.int th, .int (nI ch), .int era, .int rs, .int det, .int cau, .int (zI sv), .int (zI rj), .ref v9, .ref b9, .ref s9, .ref k9, .ref p9, .ref t9, .ref n9, .int (nI tn), .int (nI he), .int (nI en), .int (nI ln), .int (zI iw), .int (zI dg)]))] := hD
  refine lv_aload_n hx hb dX6_rejects_5 rfl (lv_at hl 0 rfl) ?_
  refine lv_iload_n hx hb dX6_rejects_6 rfl (lv_at hl 3 rfl) ?_
  refine va_put (D := D) (ci := 10) (v := .int wt) (ty := .int) (C := RX6) (T := TX6) (N := 21) hx hb hts in_RX6 tyX6 tyX6_ok nmX6 hown hK hP hD hS 0 rfl rfl 4 (by decide) (hts _ (List.mem_of_getElem? (i := 2) rfl)) (fun _ h9 => h9) rfl (by decide +kernel) rfl rfl (Nat.le_of_ble_eq_true rfl) dX6_rejects_7 (fun H locs hP hD hS => ?_)
  have hP : va_P D vwCl [(x9, .inr (10, [.int th, .int (nI ch), .int era, .int rs, .int wt, .int cau, .int (zI sv), .int (zI rj), .ref v9, .ref b9, .ref s9, .ref k9, .ref p9, .ref t9, .ref n9, .int (nI tn), .int (nI he), .int (nI en), .int (nI ln), .int (zI iw), .int (zI dg)]))] H := hP
  have hD : va_D A [(x9, .inr (10, [.int th, .int (nI ch), .int era, .int rs, .int wt, .int cau, .int (zI sv), .int (zI rj), .ref v9, .ref b9, .ref s9, .ref k9, .ref p9, .ref t9, .ref n9, .int (nI tn), .int (nI he), .int (nI en), .int (nI ln), .int (zI iw), .int (zI dg)]))] := hD
  refine lv_aload_n hx hb dX6_rejects_10 rfl (lv_at hl 0 rfl) ?_
  refine lv_iconst (v := 0) hx hb dX6_rejects_11 (by decide) ?_
  refine va_put (D := D) (ci := 10) (v := .int 0) (ty := .int) (C := RX6) (T := TX6) (N := 21) hx hb hts in_RX6 tyX6 tyX6_ok nmX6 hown hK hP hD hS 0 rfl rfl 5 (by decide) (hts _ (List.mem_of_getElem? (i := 3) rfl)) (fun _ h9 => h9) rfl (by decide +kernel) rfl rfl (Nat.le_of_ble_eq_true rfl) dX6_rejects_12 (fun H locs hP hD hS => ?_)
  have hP : va_P D vwCl [(x9, .inr (10, [.int th, .int (nI ch), .int era, .int rs, .int wt, .int 0, .int (zI sv), .int (zI rj), .ref v9, .ref b9, .ref s9, .ref k9, .ref p9, .ref t9, .ref n9, .int (nI tn), .int (nI he), .int (nI en), .int (nI ln), .int (zI iw), .int (zI dg)]))] H := hP
  have hD : va_D A [(x9, .inr (10, [.int th, .int (nI ch), .int era, .int rs, .int wt, .int 0, .int (zI sv), .int (zI rj), .ref v9, .ref b9, .ref s9, .ref k9, .ref p9, .ref t9, .ref n9, .int (nI tn), .int (nI he), .int (nI en), .int (nI ln), .int (zI iw), .int (zI dg)]))] := hD
  refine lv_aload_n hx hb dX6_rejects_15 rfl (lv_at hl 0 rfl) ?_
  refine lv_iconst (v := 1) hx hb dX6_rejects_16 (by decide) ?_
  refine z_top (y := zI true) rfl ?_
  refine va_put (D := D) (ci := 10) (v := .int (zI true)) (ty := .boolean) (C := RX6) (T := TX6) (N := 21) hx hb hts in_RX6 tyX6 tyX6_ok nmX6 hown hK hP hD hS 0 rfl rfl 7 (by decide) (hts _ (List.mem_of_getElem? (i := 4) rfl)) (fun _ h9 => h9) rfl (by decide +kernel) (zI_nar _) (zI_fit _) (Nat.le_of_ble_eq_true rfl) dX6_rejects_17 (fun H locs hP hD hS => ?_)
  have hP : va_P D vwCl [(x9, .inr (10, [.int th, .int (nI ch), .int era, .int rs, .int wt, .int 0, .int (zI sv), .int (zI true), .ref v9, .ref b9, .ref s9, .ref k9, .ref p9, .ref t9, .ref n9, .int (nI tn), .int (nI he), .int (nI en), .int (nI ln), .int (zI iw), .int (zI dg)]))] H := hP
  have hD : va_D A [(x9, .inr (10, [.int th, .int (nI ch), .int era, .int rs, .int wt, .int 0, .int (zI sv), .int (zI true), .ref v9, .ref b9, .ref s9, .ref k9, .ref p9, .ref t9, .ref n9, .int (nI tn), .int (nI he), .int (nI en), .int (nI ln), .int (zI iw), .int (zI dg)]))] := hD
  refine lv_aload_n hx hb dX6_rejects_20 rfl (lv_at hl 0 rfl) ?_
  refine lv_iload_n hx hb dX6_rejects_21 rfl (lv_at hl 1 rfl) ?_
  refine zcV (As := [.int pl]) (rest := []) [0] 0 hg.1 ⟨hx, hb, hml, hown, hts⟩ (c_X6_fail hg l D cy x9 th ch era rs wt 0 sv true v9 b9 s9 k9 p9 t9 n9 tn he en ln iw dg pl) (cwV 1 hts gX6_rejects_X6_fail rfl rfl rfl (by decide +kernel) ⟨Nat.le_of_ble_eq_true rfl, Nat.le_of_ble_eq_true rfl⟩) hG hK hP hD hS hA rfl rfl (Eq.trans (b := [x9]) rfl rfl) rfl rfl rfl hl.1 rfl (Nat.le_of_ble_eq_true rfl) dX6_rejects_22 ⟨Nat.zero_le _, Nat.zero_le _⟩ (fun H locs hP hD hS => ?_)
  have hP : va_P D vwCl [(x9, .inr (10, [.int pl, .int (nI ch), .int era, .int rs, .int wt, .int 0, .int (zI sv), .int (zI true), .ref v9, .ref b9, .ref s9, .ref k9, .ref p9, .ref t9, .ref n9, .int (nI tn), .int (nI he), .int (nI en), .int (nI ln), .int (zI iw), .int (zI dg)]))] H := hP
  have hD : va_D A [(x9, .inr (10, [.int pl, .int (nI ch), .int era, .int rs, .int wt, .int 0, .int (zI sv), .int (zI true), .ref v9, .ref b9, .ref s9, .ref k9, .ref p9, .ref t9, .ref n9, .int (nI tn), .int (nI he), .int (nI en), .int (nI ln), .int (zI iw), .int (zI dg)]))] := hD
  exact ziret hend hx hb hr hlk hK hP hD hS dX6_rejects_25 rfl rfl

abbrev rmX6_lays : Room := { frames := 0, cells := 0, slots := 0, locals := 0 }
set_option maxHeartbeats 4000000 in
set_option maxRecDepth 100000 in
theorem c_X6_lays {G : zG} (hg : zGN G) (l : Launch) (D : va_G) (cy : Nat → ClassId) (t0 : Nat) (fr0 : Nat) (tc : Nat → Int32) (fc : Nat → Int32) : zM G D vwCl (zT cy) l yX6_lays wsX6_lays rmX6_lays [.ref t0, .ref fr0] [(t0, .inl (cy 0, 188, .inl tc)), (fr0, .inl (cy 0, 188, .inl fc))] none [(t0, .inl (cy 0, 188, .inl fc)), (fr0, .inl (cy 0, 188, .inl fc))] := by
  refine zM_of (cc := cX6_lays) (maxL := 3) (ret := none) (by decide) rfl (Nat.le_of_ble_eq_true rfl) ?_
  intro p e s m below meth c A Q hend hx hb hml hr hts hown hlk hG hK hP hD hA hS ls hl
  have hown : s.vm.findClass RX6 = some m.cls := hown
  have hl : lv_has ls 3 [(0, .ref t0), (1, .ref fr0)] := hl
  refine lv_iconst (v := 0) hx hb dX6_lays_0 (by decide) ?_
  refine lv_istore_n (lv' := [(2, .int 0), (0, .ref t0), (1, .ref fr0)]) hx hb dX6_lays_1 rfl hl (by decide) rfl (fun ls hl => ?_)
  have L2 : ∀ (F : Nat) (k : Nat) (x2_0 : Nat → Int32), k ≤ 188 → 188 - k < F → x2_0 = zcp tc fc k → ∀ (H : Heap) (locs : List Loc), va_P D vwCl [(t0, .inl (cy 0, 188, .inl x2_0)), (fr0, .inl (cy 0, 188, .inl fc))] H → va_D A [(t0, .inl (cy 0, 188, .inl x2_0)), (fr0, .inl (cy 0, 188, .inl fc))] → va_S A s.heap H locs → ∀ ls : Array Slot, lv_has ls 3 [(0, .ref t0), (1, .ref fr0), (2, .int (nI k))] → W p l e rmX6_lays s m ([.ref t0, .ref fr0] : List Value).toArray below meth c H locs 0 0 Q (F0 m 2 ls []) := by
    intro F
    induction F with
    | zero =>
      intro k x2_0 hk hF ex2_0 H locs hP hD hS ls hl
      exact absurd hF (Nat.not_lt_zero _)
    | succ F ih2 =>
      intro k x2_0 hk hF ex2_0 H locs hP hD hS ls hl
      subst ex2_0
      refine lv_iload_n hx hb dX6_lays_2 rfl (lv_at hl 2 rfl) ?_
      refine lv_sipush (v := 188) hx hb dX6_lays_3 (by decide) ?_
      refine lv_icmp_ge (tgt := 21) hx hb dX6_lays_6 (by decide) (fun c_1 => ?_) (fun c_1 => ?_)
      · have hk2 : 188 ≤ k := (nI_leI (by omega) (by omega)).mp c_1
        obtain rfl : 188 = k := by omega
        have hP : va_P D vwCl [(t0, .inl (cy 0, 188, .inl fc)), (fr0, .inl (cy 0, 188, .inl fc))] H := z_arr (ws := [(t0, .inl (cy 0, 188, .inl (zcp tc fc 188))), (fr0, .inl (cy 0, 188, .inl fc))]) (q0 := 0) (a := t0) (f := (zcp tc fc 188)) (g := fc) (H0 := H) hP (fun j hj => zcp_e tc fc hj)
        have hD : va_D A [(t0, .inl (cy 0, 188, .inl fc)), (fr0, .inl (cy 0, 188, .inl fc))] := z_setD (ws := [(t0, .inl (cy 0, 188, .inl (zcp tc fc 188))), (fr0, .inl (cy 0, 188, .inl fc))]) (q0 := 0) (a := t0) (x := .inl (cy 0, 188, .inl (zcp tc fc 188))) hD
        exact zvret hend hx hb hr hlk hK hP hD hS dX6_lays_21 rfl
      · have hk2 : k < 188 := Nat.lt_of_not_le (fun z => c_1 (nI_le z (by omega)))
        refine lv_aload_n hx hb dX6_lays_9 rfl (lv_at hl 0 rfl) ?_
        refine lv_iload_n hx hb dX6_lays_10 rfl (lv_at hl 2 rfl) ?_
        refine lv_aload_n hx hb dX6_lays_11 rfl (lv_at hl 1 rfl) ?_
        refine lv_iload_n hx hb dX6_lays_12 rfl (lv_at hl 2 rfl) ?_
        refine ziald 1 0 k hx hb hK hP rfl rfl (by omega) (z_lt rfl) dX6_lays_13 ?_
        refine ziast 0 0 k hx hb hK hP hD hS rfl rfl (by omega) (z_lt rfl) dX6_lays_14 (fun H locs hP hD hS => ?_)
        have hP : va_P D vwCl [(t0, .inl (cy 0, 188, .inl (upd (zcp tc fc k) k (fc k)))), (fr0, .inl (cy 0, 188, .inl fc))] H := hP
        have hD : va_D A [(t0, .inl (cy 0, 188, .inl (upd (zcp tc fc k) k (fc k)))), (fr0, .inl (cy 0, 188, .inl fc))] := hD
        refine lv_iinc (v := nI (k + 1)) (lv' := [(2, .int (nI (k + 1))), (0, .ref t0), (1, .ref fr0)]) hx hb dX6_lays_15 hl (k := 2) rfl (by rw [show Int32.ofInt 1 = nI 1 from rfl, nI_add]) (by decide) rfl (fun ls hl => ?_)
        refine lv_goto (tgt := 2) hx hb dX6_lays_18 (by decide) ?_
        exact ih2 (k + 1) (upd (zcp tc fc k) k (fc k)) (by omega) (by omega) (zcp_s tc fc k) H locs hP hD hS ls (lv_sub hl [1, 2, 0] rfl)
  exact L2 (188 - 0 + 1) 0 tc (by omega) (Nat.lt_succ_self _) (zcp_0 tc fc).symm s.heap [] hP hD hS ls (lv_sub hl [1, 2, 0] rfl)

abbrev rmX6_begins : Room := { frames := 1, cells := 0, slots := 0, locals := 22 }
set_option maxHeartbeats 4000000 in
set_option maxRecDepth 100000 in
theorem c_X6_begins {G : zG} (hg : zGN G) (l : Launch) (D : va_G) (cy : Nat → ClassId) (x9 : Nat) (th : Int32) (ch : Nat) (era : Int32) (why : Int32) (det : Int32) (cau : Int32) (sv : Bool) (rj : Bool) (v9 : Nat) (b9 : Nat) (s9 : Nat) (k9 : Nat) (p9 : Nat) (t9 : Nat) (n9 : Nat) (tn : Nat) (he : Nat) (en : Nat) (ln : Nat) (iw : Bool) (dg : Bool) (v : Nat → Int32) (bf : Nat → Int32) : zM G D vwCl (zT cy) l yX6_begins wsX6_begins rmX6_begins [.ref x9] [(x9, .inr (10, [.int th, .int (nI ch), .int era, .int why, .int det, .int cau, .int (zI sv), .int (zI rj), .ref v9, .ref b9, .ref s9, .ref k9, .ref p9, .ref t9, .ref n9, .int (nI tn), .int (nI he), .int (nI en), .int (nI ln), .int (zI iw), .int (zI dg)])), (v9, .inl (cy 0, 188, .inl v)), (b9, .inl (cy 0, 188, .inl bf))] none [(x9, .inr (10, [.int 0, .int (nI ch), .int era, .int why, .int det, .int cau, .int (zI sv), .int (zI false), .ref v9, .ref b9, .ref s9, .ref k9, .ref p9, .ref t9, .ref n9, .int (nI tn), .int (nI he), .int (nI en), .int (nI ln), .int (zI iw), .int (zI dg)])), (v9, .inl (cy 0, 188, .inl v)), (b9, .inl (cy 0, 188, .inl v))] := by
  refine zM_of (cc := cX6_begins) (maxL := 1) (ret := none) (by decide) rfl (Nat.le_of_ble_eq_true rfl) ?_
  intro p e s m below meth c A Q hend hx hb hml hr hts hown hlk hG hK hP hD hA hS ls hl
  have hown : s.vm.findClass RX6 = some m.cls := hown
  have in_RX6 : ∀ w ∈ u_ws RX6 TX6 21, w ∈ wsX6_begins := by decide +kernel
  have hl : lv_has ls 1 [(0, .ref x9)] := hl
  refine lv_aload_n hx hb dX6_begins_0 rfl (lv_at hl 0 rfl) ?_
  refine lv_iconst (v := 0) hx hb dX6_begins_1 (by decide) ?_
  refine va_put (D := D) (ci := 10) (v := .int 0) (ty := .int) (C := RX6) (T := TX6) (N := 21) hx hb hts in_RX6 tyX6 tyX6_ok nmX6 hown hK hP hD hS 0 rfl rfl 0 (by decide) (hts _ (List.mem_of_getElem? (i := 1) rfl)) (fun _ h9 => h9) rfl (by decide +kernel) rfl rfl (Nat.le_of_ble_eq_true rfl) dX6_begins_2 (fun H locs hP hD hS => ?_)
  have hP : va_P D vwCl [(x9, .inr (10, [.int 0, .int (nI ch), .int era, .int why, .int det, .int cau, .int (zI sv), .int (zI rj), .ref v9, .ref b9, .ref s9, .ref k9, .ref p9, .ref t9, .ref n9, .int (nI tn), .int (nI he), .int (nI en), .int (nI ln), .int (zI iw), .int (zI dg)])), (v9, .inl (cy 0, 188, .inl v)), (b9, .inl (cy 0, 188, .inl bf))] H := hP
  have hD : va_D A [(x9, .inr (10, [.int 0, .int (nI ch), .int era, .int why, .int det, .int cau, .int (zI sv), .int (zI rj), .ref v9, .ref b9, .ref s9, .ref k9, .ref p9, .ref t9, .ref n9, .int (nI tn), .int (nI he), .int (nI en), .int (nI ln), .int (zI iw), .int (zI dg)])), (v9, .inl (cy 0, 188, .inl v)), (b9, .inl (cy 0, 188, .inl bf))] := hD
  refine lv_aload_n hx hb dX6_begins_5 rfl (lv_at hl 0 rfl) ?_
  refine lv_iconst (v := 0) hx hb dX6_begins_6 (by decide) ?_
  refine z_top (y := zI false) rfl ?_
  refine va_put (D := D) (ci := 10) (v := .int (zI false)) (ty := .boolean) (C := RX6) (T := TX6) (N := 21) hx hb hts in_RX6 tyX6 tyX6_ok nmX6 hown hK hP hD hS 0 rfl rfl 7 (by decide) (hts _ (List.mem_of_getElem? (i := 2) rfl)) (fun _ h9 => h9) rfl (by decide +kernel) (zI_nar _) (zI_fit _) (Nat.le_of_ble_eq_true rfl) dX6_begins_7 (fun H locs hP hD hS => ?_)
  have hP : va_P D vwCl [(x9, .inr (10, [.int 0, .int (nI ch), .int era, .int why, .int det, .int cau, .int (zI sv), .int (zI false), .ref v9, .ref b9, .ref s9, .ref k9, .ref p9, .ref t9, .ref n9, .int (nI tn), .int (nI he), .int (nI en), .int (nI ln), .int (zI iw), .int (zI dg)])), (v9, .inl (cy 0, 188, .inl v)), (b9, .inl (cy 0, 188, .inl bf))] H := hP
  have hD : va_D A [(x9, .inr (10, [.int 0, .int (nI ch), .int era, .int why, .int det, .int cau, .int (zI sv), .int (zI false), .ref v9, .ref b9, .ref s9, .ref k9, .ref p9, .ref t9, .ref n9, .int (nI tn), .int (nI he), .int (nI en), .int (nI ln), .int (zI iw), .int (zI dg)])), (v9, .inl (cy 0, 188, .inl v)), (b9, .inl (cy 0, 188, .inl bf))] := hD
  refine lv_aload_n hx hb dX6_begins_10 rfl (lv_at hl 0 rfl) ?_
  refine va_get (D := D) (ci := 10) (v := .ref b9) (C := RX6) (T := TX6) (N := 21) hx hb hts in_RX6 hown hK hP 0 rfl rfl 9 (by decide) (hts _ (List.mem_of_getElem? (i := 3) rfl)) (fun _ h9 => h9) rfl dX6_begins_11 ?_
  refine lv_aload_n hx hb dX6_begins_14 rfl (lv_at hl 0 rfl) ?_
  refine va_get (D := D) (ci := 10) (v := .ref v9) (C := RX6) (T := TX6) (N := 21) hx hb hts in_RX6 hown hK hP 0 rfl rfl 8 (by decide) (hts _ (List.mem_of_getElem? (i := 4) rfl)) (fun _ h9 => h9) rfl dX6_begins_15 ?_
  refine zcS (As := [.ref b9, .ref v9]) (rest := []) [2, 1] hg.1 ⟨hx, hb, hml, hown, hts⟩ (c_X6_lays hg l D cy b9 v9 bf v) (va_cwS 2 hts gX6_begins_X6_lays rfl rfl rfl (by decide +kernel) ⟨Nat.le_of_ble_eq_true rfl, Nat.le_of_ble_eq_true rfl⟩) hG hK hP hD hS hA rfl rfl (Eq.trans (b := [b9, v9]) rfl rfl)  rfl hl.1 rfl (Nat.le_of_ble_eq_true rfl) dX6_begins_18 ⟨Nat.zero_le _, Nat.zero_le _⟩ (fun H locs hP hD hS => ?_)
  have hP : va_P D vwCl [(x9, .inr (10, [.int 0, .int (nI ch), .int era, .int why, .int det, .int cau, .int (zI sv), .int (zI false), .ref v9, .ref b9, .ref s9, .ref k9, .ref p9, .ref t9, .ref n9, .int (nI tn), .int (nI he), .int (nI en), .int (nI ln), .int (zI iw), .int (zI dg)])), (v9, .inl (cy 0, 188, .inl v)), (b9, .inl (cy 0, 188, .inl v))] H := hP
  have hD : va_D A [(x9, .inr (10, [.int 0, .int (nI ch), .int era, .int why, .int det, .int cau, .int (zI sv), .int (zI false), .ref v9, .ref b9, .ref s9, .ref k9, .ref p9, .ref t9, .ref n9, .int (nI tn), .int (nI he), .int (nI en), .int (nI ln), .int (zI iw), .int (zI dg)])), (v9, .inl (cy 0, 188, .inl v)), (b9, .inl (cy 0, 188, .inl v))] := hD
  exact zvret hend hx hb hr hlk hK hP hD hS dX6_begins_21 rfl

abbrev rmX6_ends_bad : Room := { frames := 1, cells := 0, slots := 0, locals := 22 }
set_option maxHeartbeats 4000000 in
set_option maxRecDepth 100000 in
theorem c_X6_ends_bad {G : zG} (hg : zGN G) (l : Launch) (D : va_G) (cy : Nat → ClassId) (x9 : Nat) (th : Int32) (ch : Nat) (era : Int32) (why : Int32) (det : Int32) (cau : Int32) (sv : Bool) (rj : Bool) (v9 : Nat) (b9 : Nat) (s9 : Nat) (k9 : Nat) (p9 : Nat) (t9 : Nat) (n9 : Nat) (tn : Nat) (he : Nat) (en : Nat) (ln : Nat) (iw : Bool) (dg : Bool) (v : Nat → Int32) (bf : Nat → Int32) (hq : Nat → Nat → Int32) (iq : Int32) (hth : ¬ th = 0) : zM G D vwCl (zT cy) l yX6_ends wsX6_ends rmX6_ends_bad [.ref x9, .int iq] [(x9, .inr (10, [.int th, .int (nI ch), .int era, .int why, .int det, .int cau, .int (zI sv), .int (zI rj), .ref v9, .ref b9, .ref s9, .ref k9, .ref p9, .ref t9, .ref n9, .int (nI tn), .int (nI he), .int (nI en), .int (nI ln), .int (zI iw), .int (zI dg)])), (v9, .inl (cy 0, 188, .inl v)), (b9, .inl (cy 0, 188, .inl bf)), (p9, .inl (cy 0, 1504, .inl (zpk hq)))] (some (.int 0)) [(x9, .inr (10, [.int th, .int (nI ch), .int era, .int why, .int det, .int cau, .int (zI sv), .int (zI rj), .ref v9, .ref b9, .ref s9, .ref k9, .ref p9, .ref t9, .ref n9, .int (nI tn), .int (nI he), .int (nI en), .int (nI ln), .int (zI iw), .int (zI dg)])), (v9, .inl (cy 0, 188, .inl bf)), (b9, .inl (cy 0, 188, .inl bf)), (p9, .inl (cy 0, 1504, .inl (zpk hq)))] := by
  refine zM_of (cc := cX6_ends) (maxL := 3) (ret := (some .int)) (by decide) rfl (Nat.le_of_ble_eq_true rfl) ?_
  intro p e s m below meth c A Q hend hx hb hml hr hts hown hlk hG hK hP hD hA hS ls hl
  have hown : s.vm.findClass RX6 = some m.cls := hown
  have in_RX6 : ∀ w ∈ u_ws RX6 TX6 21, w ∈ wsX6_ends := by decide +kernel
  have hl : lv_has ls 3 [(0, .ref x9), (1, .int iq)] := hl
  refine lv_aload_n hx hb dX6_ends_0 rfl (lv_at hl 0 rfl) ?_
  refine va_get (D := D) (ci := 10) (v := .int th) (C := RX6) (T := TX6) (N := 21) hx hb hts in_RX6 hown hK hP 0 rfl rfl 0 (by decide) (hts _ (List.mem_of_getElem? (i := 1) rfl)) (fun _ h9 => h9) rfl dX6_ends_1 ?_
  refine lv_if_eq (tgt := 20) hx hb dX6_ends_4 (by decide) (fun c_1 => ?_) (fun c_1 => ?_)
  · exact absurd c_1 hth
  · refine lv_aload_n hx hb dX6_ends_7 rfl (lv_at hl 0 rfl) ?_
    refine va_get (D := D) (ci := 10) (v := .ref v9) (C := RX6) (T := TX6) (N := 21) hx hb hts in_RX6 hown hK hP 0 rfl rfl 8 (by decide) (hts _ (List.mem_of_getElem? (i := 2) rfl)) (fun _ h9 => h9) rfl dX6_ends_8 ?_
    refine lv_aload_n hx hb dX6_ends_11 rfl (lv_at hl 0 rfl) ?_
    refine va_get (D := D) (ci := 10) (v := .ref b9) (C := RX6) (T := TX6) (N := 21) hx hb hts in_RX6 hown hK hP 0 rfl rfl 9 (by decide) (hts _ (List.mem_of_getElem? (i := 3) rfl)) (fun _ h9 => h9) rfl dX6_ends_12 ?_
    refine zcS (As := [.ref v9, .ref b9]) (rest := []) [1, 2] hg.1 ⟨hx, hb, hml, hown, hts⟩ (c_X6_lays hg l D cy v9 b9 v bf) (va_cwS 2 hts gX6_ends_X6_lays rfl rfl rfl (by decide +kernel) ⟨Nat.le_of_ble_eq_true rfl, Nat.le_of_ble_eq_true rfl⟩) hG hK hP hD hS hA rfl rfl (Eq.trans (b := [v9, b9]) rfl rfl)  rfl hl.1 rfl (Nat.le_of_ble_eq_true rfl) dX6_ends_15 ⟨Nat.zero_le _, Nat.zero_le _⟩ (fun H locs hP hD hS => ?_)
    have hP : va_P D vwCl [(x9, .inr (10, [.int th, .int (nI ch), .int era, .int why, .int det, .int cau, .int (zI sv), .int (zI rj), .ref v9, .ref b9, .ref s9, .ref k9, .ref p9, .ref t9, .ref n9, .int (nI tn), .int (nI he), .int (nI en), .int (nI ln), .int (zI iw), .int (zI dg)])), (v9, .inl (cy 0, 188, .inl bf)), (b9, .inl (cy 0, 188, .inl bf)), (p9, .inl (cy 0, 1504, .inl (zpk hq)))] H := hP
    have hD : va_D A [(x9, .inr (10, [.int th, .int (nI ch), .int era, .int why, .int det, .int cau, .int (zI sv), .int (zI rj), .ref v9, .ref b9, .ref s9, .ref k9, .ref p9, .ref t9, .ref n9, .int (nI tn), .int (nI he), .int (nI en), .int (nI ln), .int (zI iw), .int (zI dg)])), (v9, .inl (cy 0, 188, .inl bf)), (b9, .inl (cy 0, 188, .inl bf)), (p9, .inl (cy 0, 1504, .inl (zpk hq)))] := hD
    refine lv_iconst (v := 0) hx hb dX6_ends_18 (by decide) ?_
    exact ziret hend hx hb hr hlk hK hP hD hS dX6_ends_19 rfl rfl

abbrev rmX6_bits : Room := { frames := 0, cells := 0, slots := 0, locals := 0 }
set_option maxHeartbeats 4000000 in
set_option maxRecDepth 100000 in
theorem c_X6_bits {G : zG} (hg : zGN G) (l : Launch) (D : va_G) (cy : Nat → ClassId) (sq : Int32) (hsq : zbok 40 sq) : zM G D vwCl (zT cy) l yX6_bits wsX6_bits rmX6_bits [.int sq] [] (some (.int (zbc 40 sq 0))) [] := by
  refine zM_of (cc := cX6_bits) (maxL := 3) (ret := (some .int)) (by decide) rfl (Nat.le_of_ble_eq_true rfl) ?_
  intro p e s m below meth c A Q hend hx hb hml hr hts hown hlk hG hK hP hD hA hS ls hl
  have hown : s.vm.findClass RX6 = some m.cls := hown
  have hl : lv_has ls 3 [(0, .int sq)] := hl
  refine lv_iconst (v := 0) hx hb dX6_bits_0 (by decide) ?_
  refine lv_istore_n (lv' := [(1, .int 0), (0, .int sq)]) hx hb dX6_bits_1 rfl hl (by decide) rfl (fun ls hl => ?_)
  refine lv_iload_n hx hb dX6_bits_2 rfl (lv_at hl 1 rfl) ?_
  refine lv_istore_n (lv' := [(2, .int sq), (1, .int 0), (0, .int sq)]) hx hb dX6_bits_3 rfl hl (by decide) rfl (fun ls hl => ?_)
  have L4 : ∀ (F : Nat) (F2 : Nat) (lf : Int32) (n : Int32), zbc 40 sq 0 = zbc F2 lf n → zbok F2 lf → F2 < F → ∀ (H : Heap) (locs : List Loc), va_P D vwCl [] H → va_D A [] → va_S A s.heap H locs → ∀ ls : Array Slot, lv_has ls 3 [(0, .int sq), (1, .int n), (2, .int lf)] → W p l e rmX6_bits s m ([.int sq] : List Value).toArray below meth c H locs 0 0 Q (F0 m 4 ls []) := by
    intro F
    induction F with
    | zero =>
      intro F2 lf n hr2 hok hF H locs hP hD hS ls hl
      exact absurd hF (Nat.not_lt_zero _)
    | succ F ih4 =>
      intro F2 lf n hr2 hok hF H locs hP hD hS ls hl
      refine lv_iload_n hx hb dX6_bits_4 rfl (lv_at hl 2 rfl) ?_
      refine lv_if_eq (tgt := 20) hx hb dX6_bits_5 (by decide) (fun c_1 => ?_) (fun c_1 => ?_)
      · refine lv_iload_n hx hb dX6_bits_20 rfl (lv_at hl 1 rfl) ?_
        exact ziret hend hx hb hr hlk hK hP hD hS dX6_bits_21 (by rw [hr2]; exact (zbc_0 c_1 _ _).symm) rfl
      · obtain ⟨F3, rfl, hok2⟩ := zbok_s hok c_1
        refine lv_iinc (v := n + 1) (lv' := [(1, .int (n + 1)), (0, .int sq), (2, .int lf)]) hx hb dX6_bits_8 hl (k := 1) rfl (rfl) (by decide) rfl (fun ls hl => ?_)
        refine lv_iload_n hx hb dX6_bits_11 rfl (lv_at hl 2 rfl) ?_
        refine lv_iload_n hx hb dX6_bits_12 rfl (lv_at hl 2 rfl) ?_
        refine lv_iconst (v := 1) hx hb dX6_bits_13 (by decide) ?_
        refine lv_isub hx hb dX6_bits_14 ?_
        refine lv_iand hx hb dX6_bits_15 ?_
        refine lv_istore_n (lv' := [(2, .int (lf &&& (lf - 1))), (1, .int (n + 1)), (0, .int sq)]) hx hb dX6_bits_16 rfl hl (by decide) rfl (fun ls hl => ?_)
        refine lv_goto (tgt := 4) hx hb dX6_bits_17 (by decide) ?_
        exact ih4 F3 (lf &&& (lf - 1)) (n + 1) (by rw [hr2, zbc, if_neg c_1]) hok2 (by omega) H locs hP hD hS ls (lv_sub hl [2, 1, 0] rfl)
  exact L4 (40 + 1) 40 sq 0 rfl hsq (Nat.lt_succ_self _) s.heap [] hP hD hS ls (lv_sub hl [2, 1, 0] rfl)

abbrev rmX6_isOn : Room := { frames := 0, cells := 0, slots := 0, locals := 0 }
set_option maxHeartbeats 4000000 in
set_option maxRecDepth 100000 in
theorem c_X6_isOn {G : zG} (hg : zGN G) (l : Launch) (D : va_G) (cy : Nat → ClassId) (x9 : Nat) (th : Int32) (ch : Nat) (era : Int32) (why : Int32) (det : Int32) (cau : Int32) (sv : Bool) (rj : Bool) (v9 : Nat) (b9 : Nat) (s9 : Nat) (k9 : Nat) (p9 : Nat) (t9 : Nat) (n9 : Nat) (tn : Nat) (he : Nat) (en : Nat) (ln : Nat) (iw : Bool) (dg : Bool) (v : Nat → Int32) (nq : Int32) : zM G D vwCl (zT cy) l yX6_isOn wsX6_isOn rmX6_isOn [.ref x9, .int nq] [(x9, .inr (10, [.int th, .int (nI ch), .int era, .int why, .int det, .int cau, .int (zI sv), .int (zI rj), .ref v9, .ref b9, .ref s9, .ref k9, .ref p9, .ref t9, .ref n9, .int (nI tn), .int (nI he), .int (nI en), .int (nI ln), .int (zI iw), .int (zI dg)])), (v9, .inl (cy 0, 188, .inl v))] (some (.int (zI (zb (v 0) nq)))) [(x9, .inr (10, [.int th, .int (nI ch), .int era, .int why, .int det, .int cau, .int (zI sv), .int (zI rj), .ref v9, .ref b9, .ref s9, .ref k9, .ref p9, .ref t9, .ref n9, .int (nI tn), .int (nI he), .int (nI en), .int (nI ln), .int (zI iw), .int (zI dg)])), (v9, .inl (cy 0, 188, .inl v))] := by
  refine zM_of (cc := cX6_isOn) (maxL := 2) (ret := (some .boolean)) (by decide) rfl (Nat.le_of_ble_eq_true rfl) ?_
  intro p e s m below meth c A Q hend hx hb hml hr hts hown hlk hG hK hP hD hA hS ls hl
  have hown : s.vm.findClass RX6 = some m.cls := hown
  have in_RX6 : ∀ w ∈ u_ws RX6 TX6 21, w ∈ wsX6_isOn := by decide +kernel
  have hl : lv_has ls 2 [(0, .ref x9), (1, .int nq)] := hl
  refine lv_aload_n hx hb dX6_isOn_0 rfl (lv_at hl 0 rfl) ?_
  refine va_get (D := D) (ci := 10) (v := .ref v9) (C := RX6) (T := TX6) (N := 21) hx hb hts in_RX6 hown hK hP 0 rfl rfl 8 (by decide) (hts _ (List.mem_of_getElem? (i := 1) rfl)) (fun _ h9 => h9) rfl dX6_isOn_1 ?_
  refine lv_iconst (v := 0) hx hb dX6_isOn_4 (by decide) ?_
  refine ziald 1 0 0 hx hb hK hP rfl rfl (by omega) (z_lt rfl) dX6_isOn_5 ?_
  refine lv_iload_n hx hb dX6_isOn_6 rfl (lv_at hl 1 rfl) ?_
  refine lv_ishr hx hb dX6_isOn_7 ?_
  refine lv_iconst (v := 1) hx hb dX6_isOn_8 (by decide) ?_
  refine lv_iand hx hb dX6_isOn_9 ?_
  refine lv_iconst (v := 1) hx hb dX6_isOn_10 (by decide) ?_
  refine lv_icmp_ne (tgt := 18) hx hb dX6_isOn_11 (by decide) (fun c_1 => ?_) (fun c_1 => ?_)
  · refine lv_iconst (v := 0) hx hb dX6_isOn_18 (by decide) ?_
    exact zzret hend hx hb hr hlk hK hP hD hS dX6_isOn_19 rfl (by first | (simp only [zI, zb, c_1, decide_true, decide_false, Bool.not_true, Bool.not_false, Bool.and_true, Bool.true_and, Bool.and_false, Bool.false_and, Bool.or_false, Bool.false_or, Bool.or_true, Bool.true_or, ↓reduceIte, Bool.false_eq_true, not_true_eq_false, not_false_eq_true, and_self]; done) | (simp [zI, zb, c_1]; done) | (simp_all [zI, zb]; done)) rfl
  · refine lv_iconst (v := 1) hx hb dX6_isOn_14 (by decide) ?_
    refine lv_goto (tgt := 19) hx hb dX6_isOn_15 (by decide) ?_
    exact zzret hend hx hb hr hlk hK hP hD hS dX6_isOn_19 rfl (by first | (simp only [zI, zb, c_1, decide_true, decide_false, Bool.not_true, Bool.not_false, Bool.and_true, Bool.true_and, Bool.and_false, Bool.false_and, Bool.or_false, Bool.false_or, Bool.or_true, Bool.true_or, ↓reduceIte, Bool.false_eq_true, not_true_eq_false, not_false_eq_true, and_self]; done) | (simp [zI, zb, c_1]; done) | (simp_all [zI, zb]; done)) rfl

abbrev rmX6_isHeld : Room := { frames := 0, cells := 0, slots := 0, locals := 0 }
set_option maxHeartbeats 4000000 in
set_option maxRecDepth 100000 in
theorem c_X6_isHeld {G : zG} (hg : zGN G) (l : Launch) (D : va_G) (cy : Nat → ClassId) (x9 : Nat) (th : Int32) (ch : Nat) (era : Int32) (why : Int32) (det : Int32) (cau : Int32) (sv : Bool) (rj : Bool) (v9 : Nat) (b9 : Nat) (s9 : Nat) (k9 : Nat) (p9 : Nat) (t9 : Nat) (n9 : Nat) (tn : Nat) (he : Nat) (en : Nat) (ln : Nat) (iw : Bool) (dg : Bool) (v : Nat → Int32) (nq : Int32) : zM G D vwCl (zT cy) l yX6_isHeld wsX6_isHeld rmX6_isHeld [.ref x9, .int nq] [(x9, .inr (10, [.int th, .int (nI ch), .int era, .int why, .int det, .int cau, .int (zI sv), .int (zI rj), .ref v9, .ref b9, .ref s9, .ref k9, .ref p9, .ref t9, .ref n9, .int (nI tn), .int (nI he), .int (nI en), .int (nI ln), .int (zI iw), .int (zI dg)])), (v9, .inl (cy 0, 188, .inl v))] (some (.int (zI (zb (v 1) nq)))) [(x9, .inr (10, [.int th, .int (nI ch), .int era, .int why, .int det, .int cau, .int (zI sv), .int (zI rj), .ref v9, .ref b9, .ref s9, .ref k9, .ref p9, .ref t9, .ref n9, .int (nI tn), .int (nI he), .int (nI en), .int (nI ln), .int (zI iw), .int (zI dg)])), (v9, .inl (cy 0, 188, .inl v))] := by
  refine zM_of (cc := cX6_isHeld) (maxL := 2) (ret := (some .boolean)) (by decide) rfl (Nat.le_of_ble_eq_true rfl) ?_
  intro p e s m below meth c A Q hend hx hb hml hr hts hown hlk hG hK hP hD hA hS ls hl
  have hown : s.vm.findClass RX6 = some m.cls := hown
  have in_RX6 : ∀ w ∈ u_ws RX6 TX6 21, w ∈ wsX6_isHeld := by decide +kernel
  have hl : lv_has ls 2 [(0, .ref x9), (1, .int nq)] := hl
  refine lv_aload_n hx hb dX6_isHeld_0 rfl (lv_at hl 0 rfl) ?_
  refine va_get (D := D) (ci := 10) (v := .ref v9) (C := RX6) (T := TX6) (N := 21) hx hb hts in_RX6 hown hK hP 0 rfl rfl 8 (by decide) (hts _ (List.mem_of_getElem? (i := 1) rfl)) (fun _ h9 => h9) rfl dX6_isHeld_1 ?_
  refine lv_iconst (v := 1) hx hb dX6_isHeld_4 (by decide) ?_
  refine ziald 1 0 1 hx hb hK hP rfl rfl (by omega) (z_lt rfl) dX6_isHeld_5 ?_
  refine lv_iload_n hx hb dX6_isHeld_6 rfl (lv_at hl 1 rfl) ?_
  refine lv_ishr hx hb dX6_isHeld_7 ?_
  refine lv_iconst (v := 1) hx hb dX6_isHeld_8 (by decide) ?_
  refine lv_iand hx hb dX6_isHeld_9 ?_
  refine lv_iconst (v := 1) hx hb dX6_isHeld_10 (by decide) ?_
  refine lv_icmp_ne (tgt := 18) hx hb dX6_isHeld_11 (by decide) (fun c_1 => ?_) (fun c_1 => ?_)
  · refine lv_iconst (v := 0) hx hb dX6_isHeld_18 (by decide) ?_
    exact zzret hend hx hb hr hlk hK hP hD hS dX6_isHeld_19 rfl (by first | (simp only [zI, zb, c_1, decide_true, decide_false, Bool.not_true, Bool.not_false, Bool.and_true, Bool.true_and, Bool.and_false, Bool.false_and, Bool.or_false, Bool.false_or, Bool.or_true, Bool.true_or, ↓reduceIte, Bool.false_eq_true, not_true_eq_false, not_false_eq_true, and_self]; done) | (simp [zI, zb, c_1]; done) | (simp_all [zI, zb]; done)) rfl
  · refine lv_iconst (v := 1) hx hb dX6_isHeld_14 (by decide) ?_
    refine lv_goto (tgt := 19) hx hb dX6_isHeld_15 (by decide) ?_
    exact zzret hend hx hb hr hlk hK hP hD hS dX6_isHeld_19 rfl (by first | (simp only [zI, zb, c_1, decide_true, decide_false, Bool.not_true, Bool.not_false, Bool.and_true, Bool.true_and, Bool.and_false, Bool.false_and, Bool.or_false, Bool.false_or, Bool.or_true, Bool.true_or, ↓reduceIte, Bool.false_eq_true, not_true_eq_false, not_false_eq_true, and_self]; done) | (simp [zI, zb, c_1]; done) | (simp_all [zI, zb]; done)) rfl

abbrev rmX6_loops : Room := { frames := 0, cells := 0, slots := 0, locals := 0 }
set_option maxHeartbeats 4000000 in
set_option maxRecDepth 100000 in
theorem c_X6_loops {G : zG} (hg : zGN G) (l : Launch) (D : va_G) (cy : Nat → ClassId) (x9 : Nat) (th : Int32) (ch : Nat) (era : Int32) (why : Int32) (det : Int32) (cau : Int32) (sv : Bool) (rj : Bool) (v9 : Nat) (b9 : Nat) (s9 : Nat) (k9 : Nat) (p9 : Nat) (t9 : Nat) (n9 : Nat) (tn : Nat) (he : Nat) (en : Nat) (ln : Nat) (iw : Bool) (dg : Bool) (v : Nat → Int32) : zM G D vwCl (zT cy) l yX6_loops wsX6_loops rmX6_loops [.ref x9] [(x9, .inr (10, [.int th, .int (nI ch), .int era, .int why, .int det, .int cau, .int (zI sv), .int (zI rj), .ref v9, .ref b9, .ref s9, .ref k9, .ref p9, .ref t9, .ref n9, .int (nI tn), .int (nI he), .int (nI en), .int (nI ln), .int (zI iw), .int (zI dg)])), (v9, .inl (cy 0, 188, .inl v))] (some (.int (zsum (zlo v) 24))) [(x9, .inr (10, [.int th, .int (nI ch), .int era, .int why, .int det, .int cau, .int (zI sv), .int (zI rj), .ref v9, .ref b9, .ref s9, .ref k9, .ref p9, .ref t9, .ref n9, .int (nI tn), .int (nI he), .int (nI en), .int (nI ln), .int (zI iw), .int (zI dg)])), (v9, .inl (cy 0, 188, .inl v))] := by
  refine zM_of (cc := cX6_loops) (maxL := 3) (ret := (some .int)) (by decide) rfl (Nat.le_of_ble_eq_true rfl) ?_
  intro p e s m below meth c A Q hend hx hb hml hr hts hown hlk hG hK hP hD hA hS ls hl
  have hown : s.vm.findClass RX6 = some m.cls := hown
  have in_RX6 : ∀ w ∈ u_ws RX6 TX6 21, w ∈ wsX6_loops := by decide +kernel
  have hl : lv_has ls 3 [(0, .ref x9)] := hl
  refine lv_iconst (v := 0) hx hb dX6_loops_0 (by decide) ?_
  refine lv_istore_n (lv' := [(1, .int 0), (0, .ref x9)]) hx hb dX6_loops_1 rfl hl (by decide) rfl (fun ls hl => ?_)
  refine lv_iconst (v := 0) hx hb dX6_loops_2 (by decide) ?_
  refine lv_istore_n (lv' := [(2, .int 0), (1, .int 0), (0, .ref x9)]) hx hb dX6_loops_3 rfl hl (by decide) rfl (fun ls hl => ?_)
  have L4 : ∀ (F : Nat) (k : Nat) (x4_0 : Int32), k ≤ 24 → 24 - k < F → x4_0 = zsum (zlo v) k → ∀ (H : Heap) (locs : List Loc), va_P D vwCl [(x9, .inr (10, [.int th, .int (nI ch), .int era, .int why, .int det, .int cau, .int (zI sv), .int (zI rj), .ref v9, .ref b9, .ref s9, .ref k9, .ref p9, .ref t9, .ref n9, .int (nI tn), .int (nI he), .int (nI en), .int (nI ln), .int (zI iw), .int (zI dg)])), (v9, .inl (cy 0, 188, .inl v))] H → va_D A [(x9, .inr (10, [.int th, .int (nI ch), .int era, .int why, .int det, .int cau, .int (zI sv), .int (zI rj), .ref v9, .ref b9, .ref s9, .ref k9, .ref p9, .ref t9, .ref n9, .int (nI tn), .int (nI he), .int (nI en), .int (nI ln), .int (zI iw), .int (zI dg)])), (v9, .inl (cy 0, 188, .inl v))] → va_S A s.heap H locs → ∀ ls : Array Slot, lv_has ls 3 [(0, .ref x9), (1, .int x4_0), (2, .int (nI k))] → W p l e rmX6_loops s m ([.ref x9] : List Value).toArray below meth c H locs 0 0 Q (F0 m 4 ls []) := by
    intro F
    induction F with
    | zero =>
      intro k x4_0 hk hF ex4_0 H locs hP hD hS ls hl
      exact absurd hF (Nat.not_lt_zero _)
    | succ F ih4 =>
      intro k x4_0 hk hF ex4_0 H locs hP hD hS ls hl
      subst ex4_0
      refine lv_iload_n hx hb dX6_loops_4 rfl (lv_at hl 2 rfl) ?_
      refine lv_bipush (v := 24) hx hb dX6_loops_5 (by decide) ?_
      refine lv_icmp_ge (tgt := 28) hx hb dX6_loops_7 (by decide) (fun c_1 => ?_) (fun c_1 => ?_)
      · have hk2 : 24 ≤ k := (nI_leI (by omega) (by omega)).mp c_1
        obtain rfl : 24 = k := by omega
        refine lv_iload_n hx hb dX6_loops_28 rfl (lv_at hl 1 rfl) ?_
        exact ziret hend hx hb hr hlk hK hP hD hS dX6_loops_29 rfl rfl
      · have hk2 : k < 24 := Nat.lt_of_not_le (fun z => c_1 (nI_le z (by omega)))
        refine lv_iload_n hx hb dX6_loops_10 rfl (lv_at hl 1 rfl) ?_
        refine lv_aload_n hx hb dX6_loops_11 rfl (lv_at hl 0 rfl) ?_
        refine va_get (D := D) (ci := 10) (v := .ref v9) (C := RX6) (T := TX6) (N := 21) hx hb hts in_RX6 hown hK hP 0 rfl rfl 8 (by decide) (hts _ (List.mem_of_getElem? (i := 1) rfl)) (fun _ h9 => h9) rfl dX6_loops_12 ?_
        refine lv_bipush (v := 10) hx hb dX6_loops_15 (by decide) ?_
        refine lv_iload_n hx hb dX6_loops_17 rfl (lv_at hl 2 rfl) ?_
        refine lv_iadd hx hb dX6_loops_18 ?_
        refine z_top (y := nI (10 + k)) (nI_add 10 k) ?_
        refine ziald 1 0 (10 + k) hx hb hK hP rfl rfl (by omega) (z_lt rfl) dX6_loops_19 ?_
        refine lv_iadd hx hb dX6_loops_20 ?_
        refine lv_istore_n (lv' := [(1, .int ((zsum (zlo v) k) + (v (10 + k)))), (0, .ref x9), (2, .int (nI k))]) hx hb dX6_loops_21 rfl hl (by decide) rfl (fun ls hl => ?_)
        refine lv_iinc (v := nI (k + 1)) (lv' := [(2, .int (nI (k + 1))), (1, .int ((zsum (zlo v) k) + (v (10 + k)))), (0, .ref x9)]) hx hb dX6_loops_22 hl (k := 2) rfl (by rw [show Int32.ofInt 1 = nI 1 from rfl, nI_add]) (by decide) rfl (fun ls hl => ?_)
        refine lv_goto (tgt := 4) hx hb dX6_loops_25 (by decide) ?_
        exact ih4 (k + 1) ((zsum (zlo v) k) + (v (10 + k))) (by omega) (by omega) (by rfl) H locs hP hD hS ls (lv_sub hl [2, 1, 0] rfl)
  exact L4 (24 - 0 + 1) 0 0 (by omega) (Nat.lt_succ_self _) (by rfl) s.heap [] hP hD hS ls (lv_sub hl [2, 1, 0] rfl)

abbrev rmX6_puts : Room := { frames := 0, cells := 0, slots := 0, locals := 0 }
set_option maxHeartbeats 4000000 in
set_option maxRecDepth 100000 in
theorem c_X6_puts {G : zG} (hg : zGN G) (l : Launch) (D : va_G) (cy : Nat → ClassId) (x9 : Nat) (th : Int32) (ch : Nat) (era : Int32) (why : Int32) (det : Int32) (cau : Int32) (sv : Bool) (rj : Bool) (v9 : Nat) (b9 : Nat) (s9 : Nat) (k9 : Nat) (p9 : Nat) (t9 : Nat) (n9 : Nat) (tn : Nat) (he : Nat) (en : Nat) (ln : Nat) (iw : Bool) (dg : Bool) (v : Nat → Int32) (k : Nat) (lq : Int32) (aq : Int32) (hk : k < 24) : zM G D vwCl (zT cy) l yX6_puts wsX6_puts rmX6_puts [.ref x9, .int (nI k), .int lq, .int aq] [(x9, .inr (10, [.int th, .int (nI ch), .int era, .int why, .int det, .int cau, .int (zI sv), .int (zI rj), .ref v9, .ref b9, .ref s9, .ref k9, .ref p9, .ref t9, .ref n9, .int (nI tn), .int (nI he), .int (nI en), .int (nI ln), .int (zI iw), .int (zI dg)])), (v9, .inl (cy 0, 188, .inl v))] none [(x9, .inr (10, [.int th, .int (nI ch), .int era, .int why, .int det, .int cau, .int (zI sv), .int (zI rj), .ref v9, .ref b9, .ref s9, .ref k9, .ref p9, .ref t9, .ref n9, .int (nI tn), .int (nI he), .int (nI en), .int (nI ln), .int (zI iw), .int (zI dg)])), (v9, .inl (cy 0, 188, .inl (zpt v k lq aq)))] := by
  refine zM_of (cc := cX6_puts) (maxL := 4) (ret := none) (by decide) rfl (Nat.le_of_ble_eq_true rfl) ?_
  intro p e s m below meth c A Q hend hx hb hml hr hts hown hlk hG hK hP hD hA hS ls hl
  have hown : s.vm.findClass RX6 = some m.cls := hown
  have in_RX6 : ∀ w ∈ u_ws RX6 TX6 21, w ∈ wsX6_puts := by decide +kernel
  have hl : lv_has ls 4 [(0, .ref x9), (1, .int (nI k)), (2, .int lq), (3, .int aq)] := hl
  refine lv_aload_n hx hb dX6_puts_0 rfl (lv_at hl 0 rfl) ?_
  refine va_get (D := D) (ci := 10) (v := .ref v9) (C := RX6) (T := TX6) (N := 21) hx hb hts in_RX6 hown hK hP 0 rfl rfl 8 (by decide) (hts _ (List.mem_of_getElem? (i := 1) rfl)) (fun _ h9 => h9) rfl dX6_puts_1 ?_
  refine lv_bipush (v := 10) hx hb dX6_puts_4 (by decide) ?_
  refine lv_iload_n hx hb dX6_puts_6 rfl (lv_at hl 1 rfl) ?_
  refine lv_iadd hx hb dX6_puts_7 ?_
  refine z_top (y := nI (10 + k)) (nI_add 10 k) ?_
  refine lv_iload_n hx hb dX6_puts_8 rfl (lv_at hl 2 rfl) ?_
  refine ziast 1 0 (10 + k) hx hb hK hP hD hS rfl rfl (by omega) (z_lt rfl) dX6_puts_9 (fun H locs hP hD hS => ?_)
  have hP : va_P D vwCl [(x9, .inr (10, [.int th, .int (nI ch), .int era, .int why, .int det, .int cau, .int (zI sv), .int (zI rj), .ref v9, .ref b9, .ref s9, .ref k9, .ref p9, .ref t9, .ref n9, .int (nI tn), .int (nI he), .int (nI en), .int (nI ln), .int (zI iw), .int (zI dg)])), (v9, .inl (cy 0, 188, .inl (upd v (10 + k) lq)))] H := hP
  have hD : va_D A [(x9, .inr (10, [.int th, .int (nI ch), .int era, .int why, .int det, .int cau, .int (zI sv), .int (zI rj), .ref v9, .ref b9, .ref s9, .ref k9, .ref p9, .ref t9, .ref n9, .int (nI tn), .int (nI he), .int (nI en), .int (nI ln), .int (zI iw), .int (zI dg)])), (v9, .inl (cy 0, 188, .inl (upd v (10 + k) lq)))] := hD
  refine lv_aload_n hx hb dX6_puts_10 rfl (lv_at hl 0 rfl) ?_
  refine va_get (D := D) (ci := 10) (v := .ref v9) (C := RX6) (T := TX6) (N := 21) hx hb hts in_RX6 hown hK hP 0 rfl rfl 8 (by decide) (hts _ (List.mem_of_getElem? (i := 1) rfl)) (fun _ h9 => h9) rfl dX6_puts_11 ?_
  refine lv_bipush (v := 34) hx hb dX6_puts_14 (by decide) ?_
  refine lv_iload_n hx hb dX6_puts_16 rfl (lv_at hl 1 rfl) ?_
  refine lv_iadd hx hb dX6_puts_17 ?_
  refine z_top (y := nI (34 + k)) (nI_add 34 k) ?_
  refine lv_iload_n hx hb dX6_puts_18 rfl (lv_at hl 2 rfl) ?_
  refine lv_if_ne (tgt := 26) hx hb dX6_puts_19 (by decide) (fun c_1 => ?_) (fun c_1 => ?_)
  · refine lv_iload_n hx hb dX6_puts_26 rfl (lv_at hl 3 rfl) ?_
    refine ziast 1 0 (34 + k) hx hb hK hP hD hS rfl rfl (by omega) (z_lt rfl) dX6_puts_27 (fun H locs hP hD hS => ?_)
    have hP : va_P D vwCl [(x9, .inr (10, [.int th, .int (nI ch), .int era, .int why, .int det, .int cau, .int (zI sv), .int (zI rj), .ref v9, .ref b9, .ref s9, .ref k9, .ref p9, .ref t9, .ref n9, .int (nI tn), .int (nI he), .int (nI en), .int (nI ln), .int (zI iw), .int (zI dg)])), (v9, .inl (cy 0, 188, .inl (upd (upd v (10 + k) lq) (34 + k) aq)))] H := hP
    have hD : va_D A [(x9, .inr (10, [.int th, .int (nI ch), .int era, .int why, .int det, .int cau, .int (zI sv), .int (zI rj), .ref v9, .ref b9, .ref s9, .ref k9, .ref p9, .ref t9, .ref n9, .int (nI tn), .int (nI he), .int (nI en), .int (nI ln), .int (zI iw), .int (zI dg)])), (v9, .inl (cy 0, 188, .inl (upd (upd v (10 + k) lq) (34 + k) aq)))] := hD
    exact zvret hend hx hb hr hlk hK hP hD hS dX6_puts_28 (by first | (simp only [zpt, c_1, decide_true, decide_false, Bool.not_true, Bool.not_false, Bool.and_true, Bool.true_and, Bool.and_false, Bool.false_and, Bool.or_false, Bool.false_or, Bool.or_true, Bool.true_or, ↓reduceIte, Bool.false_eq_true, not_true_eq_false, not_false_eq_true, and_self]; done) | (simp [zpt, c_1]; done) | (simp_all [zpt]; done))
  · refine lv_iconst (v := 0) hx hb dX6_puts_22 (by decide) ?_
    refine lv_goto (tgt := 27) hx hb dX6_puts_23 (by decide) ?_
    refine ziast 1 0 (34 + k) hx hb hK hP hD hS rfl rfl (by omega) (z_lt rfl) dX6_puts_27 (fun H locs hP hD hS => ?_)
    have hP : va_P D vwCl [(x9, .inr (10, [.int th, .int (nI ch), .int era, .int why, .int det, .int cau, .int (zI sv), .int (zI rj), .ref v9, .ref b9, .ref s9, .ref k9, .ref p9, .ref t9, .ref n9, .int (nI tn), .int (nI he), .int (nI en), .int (nI ln), .int (zI iw), .int (zI dg)])), (v9, .inl (cy 0, 188, .inl (upd (upd v (10 + k) lq) (34 + k) 0)))] H := hP
    have hD : va_D A [(x9, .inr (10, [.int th, .int (nI ch), .int era, .int why, .int det, .int cau, .int (zI sv), .int (zI rj), .ref v9, .ref b9, .ref s9, .ref k9, .ref p9, .ref t9, .ref n9, .int (nI tn), .int (nI he), .int (nI en), .int (nI ln), .int (zI iw), .int (zI dg)])), (v9, .inl (cy 0, 188, .inl (upd (upd v (10 + k) lq) (34 + k) 0)))] := hD
    exact zvret hend hx hb hr hlk hK hP hD hS dX6_puts_28 (by first | (simp only [zpt, c_1, decide_true, decide_false, Bool.not_true, Bool.not_false, Bool.and_true, Bool.true_and, Bool.and_false, Bool.false_and, Bool.or_false, Bool.false_or, Bool.or_true, Bool.true_or, ↓reduceIte, Bool.false_eq_true, not_true_eq_false, not_false_eq_true, and_self]; done) | (simp [zpt, c_1]; done) | (simp_all [zpt]; done))

abbrev rmX6_longestRun : Room := { frames := 0, cells := 0, slots := 0, locals := 0 }
set_option maxHeartbeats 4000000 in
set_option maxRecDepth 100000 in
theorem c_X6_longestRun {G : zG} (hg : zGN G) (l : Launch) (D : va_G) (cy : Nat → ClassId) (x9 : Nat) (th : Int32) (ch : Nat) (era : Int32) (why : Int32) (det : Int32) (cau : Int32) (sv : Bool) (rj : Bool) (v9 : Nat) (b9 : Nat) (s9 : Nat) (k9 : Nat) (p9 : Nat) (t9 : Nat) (n9 : Nat) (tn : Nat) (he : Nat) (en : Nat) (ln : Nat) (iw : Bool) (dg : Bool) (v : Nat → Int32) : zM G D vwCl (zT cy) l yX6_longestRun wsX6_longestRun rmX6_longestRun [.ref x9] [(x9, .inr (10, [.int th, .int (nI ch), .int era, .int why, .int det, .int cau, .int (zI sv), .int (zI rj), .ref v9, .ref b9, .ref s9, .ref k9, .ref p9, .ref t9, .ref n9, .int (nI tn), .int (nI he), .int (nI en), .int (nI ln), .int (zI iw), .int (zI dg)])), (v9, .inl (cy 0, 188, .inl v))] (some (.int (zrl (zlo v) 24))) [(x9, .inr (10, [.int 0, .int (nI ch), .int era, .int why, .int det, .int cau, .int (zI sv), .int (zI rj), .ref v9, .ref b9, .ref s9, .ref k9, .ref p9, .ref t9, .ref n9, .int (nI tn), .int (nI he), .int (nI en), .int (nI ln), .int (zI iw), .int (zI dg)])), (v9, .inl (cy 0, 188, .inl v))] := by
  refine zM_of (cc := cX6_longestRun) (maxL := 4) (ret := (some .int)) (by decide) rfl (Nat.le_of_ble_eq_true rfl) ?_
  intro p e s m below meth c A Q hend hx hb hml hr hts hown hlk hG hK hP hD hA hS ls hl
  have hown : s.vm.findClass RX6 = some m.cls := hown
  have in_RX6 : ∀ w ∈ u_ws RX6 TX6 21, w ∈ wsX6_longestRun := by decide +kernel
  have hl : lv_has ls 4 [(0, .ref x9)] := hl
  refine lv_aload_n hx hb dX6_longestRun_0 rfl (lv_at hl 0 rfl) ?_
  refine lv_iconst (v := 0) hx hb dX6_longestRun_1 (by decide) ?_
  refine va_put (D := D) (ci := 10) (v := .int 0) (ty := .int) (C := RX6) (T := TX6) (N := 21) hx hb hts in_RX6 tyX6 tyX6_ok nmX6 hown hK hP hD hS 0 rfl rfl 0 (by decide) (hts _ (List.mem_of_getElem? (i := 1) rfl)) (fun _ h9 => h9) rfl (by decide +kernel) rfl rfl (Nat.le_of_ble_eq_true rfl) dX6_longestRun_2 (fun H locs hP hD hS => ?_)
  have hP : va_P D vwCl [(x9, .inr (10, [.int 0, .int (nI ch), .int era, .int why, .int det, .int cau, .int (zI sv), .int (zI rj), .ref v9, .ref b9, .ref s9, .ref k9, .ref p9, .ref t9, .ref n9, .int (nI tn), .int (nI he), .int (nI en), .int (nI ln), .int (zI iw), .int (zI dg)])), (v9, .inl (cy 0, 188, .inl v))] H := hP
  have hD : va_D A [(x9, .inr (10, [.int 0, .int (nI ch), .int era, .int why, .int det, .int cau, .int (zI sv), .int (zI rj), .ref v9, .ref b9, .ref s9, .ref k9, .ref p9, .ref t9, .ref n9, .int (nI tn), .int (nI he), .int (nI en), .int (nI ln), .int (zI iw), .int (zI dg)])), (v9, .inl (cy 0, 188, .inl v))] := hD
  refine lv_iconst (v := 0) hx hb dX6_longestRun_5 (by decide) ?_
  refine lv_istore_n (lv' := [(1, .int 0), (0, .ref x9)]) hx hb dX6_longestRun_6 rfl hl (by decide) rfl (fun ls hl => ?_)
  refine lv_iconst (v := 0) hx hb dX6_longestRun_7 (by decide) ?_
  refine lv_istore_n (lv' := [(2, .int 0), (1, .int 0), (0, .ref x9)]) hx hb dX6_longestRun_8 rfl hl (by decide) rfl (fun ls hl => ?_)
  refine lv_iconst (v := 0) hx hb dX6_longestRun_9 (by decide) ?_
  refine lv_istore_n (lv' := [(3, .int 0), (2, .int 0), (1, .int 0), (0, .ref x9)]) hx hb dX6_longestRun_10 rfl hl (by decide) rfl (fun ls hl => ?_)
  have L11 : ∀ (F : Nat) (k : Nat) (x11_0 : Int32) (x11_1 : Int32), k ≤ 24 → 24 - k < F → x11_0 = zrl (zlo v) k → x11_1 = zrn (zlo v) k → ∀ (H : Heap) (locs : List Loc), va_P D vwCl [(x9, .inr (10, [.int 0, .int (nI ch), .int era, .int why, .int det, .int cau, .int (zI sv), .int (zI rj), .ref v9, .ref b9, .ref s9, .ref k9, .ref p9, .ref t9, .ref n9, .int (nI tn), .int (nI he), .int (nI en), .int (nI ln), .int (zI iw), .int (zI dg)])), (v9, .inl (cy 0, 188, .inl v))] H → va_D A [(x9, .inr (10, [.int 0, .int (nI ch), .int era, .int why, .int det, .int cau, .int (zI sv), .int (zI rj), .ref v9, .ref b9, .ref s9, .ref k9, .ref p9, .ref t9, .ref n9, .int (nI tn), .int (nI he), .int (nI en), .int (nI ln), .int (zI iw), .int (zI dg)])), (v9, .inl (cy 0, 188, .inl v))] → va_S A s.heap H locs → ∀ ls : Array Slot, lv_has ls 4 [(0, .ref x9), (1, .int x11_0), (2, .int x11_1), (3, .int (nI k))] → W p l e rmX6_longestRun s m ([.ref x9] : List Value).toArray below meth c H locs 0 0 Q (F0 m 11 ls []) := by
    intro F
    induction F with
    | zero =>
      intro k x11_0 x11_1 hk hF ex11_0 ex11_1 H locs hP hD hS ls hl
      exact absurd hF (Nat.not_lt_zero _)
    | succ F ih11 =>
      intro k x11_0 x11_1 hk hF ex11_0 ex11_1 H locs hP hD hS ls hl
      subst ex11_0
      subst ex11_1
      refine lv_iload_n hx hb dX6_longestRun_11 rfl (lv_at hl 3 rfl) ?_
      refine lv_bipush (v := 24) hx hb dX6_longestRun_12 (by decide) ?_
      refine lv_icmp_ge (tgt := 54) hx hb dX6_longestRun_14 (by decide) (fun c_1 => ?_) (fun c_1 => ?_)
      · have hk2 : 24 ≤ k := (nI_leI (by omega) (by omega)).mp c_1
        obtain rfl : 24 = k := by omega
        refine lv_iload_n hx hb dX6_longestRun_54 rfl (lv_at hl 1 rfl) ?_
        exact ziret hend hx hb hr hlk hK hP hD hS dX6_longestRun_55 rfl rfl
      · have hk2 : k < 24 := Nat.lt_of_not_le (fun z => c_1 (nI_le z (by omega)))
        refine lv_aload_n hx hb dX6_longestRun_17 rfl (lv_at hl 0 rfl) ?_
        refine va_get (D := D) (ci := 10) (v := .ref v9) (C := RX6) (T := TX6) (N := 21) hx hb hts in_RX6 hown hK hP 0 rfl rfl 8 (by decide) (hts _ (List.mem_of_getElem? (i := 2) rfl)) (fun _ h9 => h9) rfl dX6_longestRun_18 ?_
        refine lv_bipush (v := 10) hx hb dX6_longestRun_21 (by decide) ?_
        refine lv_iload_n hx hb dX6_longestRun_23 rfl (lv_at hl 3 rfl) ?_
        refine lv_iadd hx hb dX6_longestRun_24 ?_
        refine z_top (y := nI (10 + k)) (nI_add 10 k) ?_
        refine ziald 1 0 (10 + k) hx hb hK hP rfl rfl (by omega) (z_lt rfl) dX6_longestRun_25 ?_
        refine lv_if_le (tgt := 35) hx hb dX6_longestRun_26 (by decide) (fun c_2 => ?_) (fun c_2 => ?_)
        · refine lv_iconst (v := 0) hx hb dX6_longestRun_35 (by decide) ?_
          refine lv_istore_n (lv' := [(2, .int 0), (0, .ref x9), (1, .int (zrl (zlo v) k)), (3, .int (nI k))]) hx hb dX6_longestRun_36 rfl hl (by decide) rfl (fun ls hl => ?_)
          refine lv_iload_n hx hb dX6_longestRun_37 rfl (lv_at hl 0 rfl) ?_
          refine lv_iload_n hx hb dX6_longestRun_38 rfl (lv_at hl 2 rfl) ?_
          refine lv_icmp_le (tgt := 46) hx hb dX6_longestRun_39 (by decide) (fun c_3 => ?_) (fun c_3 => ?_)
          · have c9 := Int32.not_lt.mpr c_3
            refine lv_iload_n hx hb dX6_longestRun_46 rfl (lv_at hl 2 rfl) ?_
            refine lv_istore_n (lv' := [(1, .int (zrl (zlo v) k)), (2, .int 0), (0, .ref x9), (3, .int (nI k))]) hx hb dX6_longestRun_47 rfl hl (by decide) rfl (fun ls hl => ?_)
            refine lv_iinc (v := nI (k + 1)) (lv' := [(3, .int (nI (k + 1))), (1, .int (zrl (zlo v) k)), (2, .int 0), (0, .ref x9)]) hx hb dX6_longestRun_48 hl (k := 3) rfl (by rw [show Int32.ofInt 1 = nI 1 from rfl, nI_add]) (by decide) rfl (fun ls hl => ?_)
            refine lv_goto (tgt := 11) hx hb dX6_longestRun_51 (by decide) ?_
            exact ih11 (k + 1) (zrl (zlo v) k) 0 (by omega) (by omega) (by first | (simp only [zrl, zrn, zlo, c9, c_1, c_2, c_3, decide_true, decide_false, Bool.not_true, Bool.not_false, Bool.and_true, Bool.true_and, Bool.and_false, Bool.false_and, Bool.or_false, Bool.false_or, Bool.or_true, Bool.true_or, ↓reduceIte, Bool.false_eq_true, not_true_eq_false, not_false_eq_true, and_self]; done) | (simp [zrl, zrn, zlo, c9, c_1, c_2, c_3]; done) | (simp_all [zrl, zrn, zlo, c9]; done)) (by first | (simp only [zrl, zrn, zlo, c9, c_1, c_2, c_3, decide_true, decide_false, Bool.not_true, Bool.not_false, Bool.and_true, Bool.true_and, Bool.and_false, Bool.false_and, Bool.or_false, Bool.false_or, Bool.or_true, Bool.true_or, ↓reduceIte, Bool.false_eq_true, not_true_eq_false, not_false_eq_true, and_self]; done) | (simp [zrl, zrn, zlo, c9, c_1, c_2, c_3]; done) | (simp_all [zrl, zrn, zlo, c9]; done)) H locs hP hD hS ls (lv_sub hl [3, 1, 2, 0] rfl)
          · have c9 := Int32.not_le.mp c_3
            refine lv_iload_n hx hb dX6_longestRun_42 rfl (lv_at hl 0 rfl) ?_
            refine lv_goto (tgt := 47) hx hb dX6_longestRun_43 (by decide) ?_
            refine lv_istore_n (lv' := [(1, .int 0), (2, .int 0), (0, .ref x9), (3, .int (nI k))]) hx hb dX6_longestRun_47 rfl hl (by decide) rfl (fun ls hl => ?_)
            refine lv_iinc (v := nI (k + 1)) (lv' := [(3, .int (nI (k + 1))), (1, .int 0), (2, .int 0), (0, .ref x9)]) hx hb dX6_longestRun_48 hl (k := 3) rfl (by rw [show Int32.ofInt 1 = nI 1 from rfl, nI_add]) (by decide) rfl (fun ls hl => ?_)
            refine lv_goto (tgt := 11) hx hb dX6_longestRun_51 (by decide) ?_
            exact ih11 (k + 1) 0 0 (by omega) (by omega) (by first | (simp only [zrl, zrn, zlo, c9, c_1, c_2, c_3, decide_true, decide_false, Bool.not_true, Bool.not_false, Bool.and_true, Bool.true_and, Bool.and_false, Bool.false_and, Bool.or_false, Bool.false_or, Bool.or_true, Bool.true_or, ↓reduceIte, Bool.false_eq_true, not_true_eq_false, not_false_eq_true, and_self]; done) | (simp [zrl, zrn, zlo, c9, c_1, c_2, c_3]; done) | (simp_all [zrl, zrn, zlo, c9]; done)) (by first | (simp only [zrl, zrn, zlo, c9, c_1, c_2, c_3, decide_true, decide_false, Bool.not_true, Bool.not_false, Bool.and_true, Bool.true_and, Bool.and_false, Bool.false_and, Bool.or_false, Bool.false_or, Bool.or_true, Bool.true_or, ↓reduceIte, Bool.false_eq_true, not_true_eq_false, not_false_eq_true, and_self]; done) | (simp [zrl, zrn, zlo, c9, c_1, c_2, c_3]; done) | (simp_all [zrl, zrn, zlo, c9]; done)) H locs hP hD hS ls (lv_sub hl [3, 1, 2, 0] rfl)
        · refine lv_iload_n hx hb dX6_longestRun_29 rfl (lv_at hl 2 rfl) ?_
          refine lv_iconst (v := 1) hx hb dX6_longestRun_30 (by decide) ?_
          refine lv_iadd hx hb dX6_longestRun_31 ?_
          refine lv_goto (tgt := 36) hx hb dX6_longestRun_32 (by decide) ?_
          refine lv_istore_n (lv' := [(2, .int ((zrn (zlo v) k) + 1)), (0, .ref x9), (1, .int (zrl (zlo v) k)), (3, .int (nI k))]) hx hb dX6_longestRun_36 rfl hl (by decide) rfl (fun ls hl => ?_)
          refine lv_iload_n hx hb dX6_longestRun_37 rfl (lv_at hl 0 rfl) ?_
          refine lv_iload_n hx hb dX6_longestRun_38 rfl (lv_at hl 2 rfl) ?_
          refine lv_icmp_le (tgt := 46) hx hb dX6_longestRun_39 (by decide) (fun c_4 => ?_) (fun c_4 => ?_)
          · have c9 := Int32.not_lt.mpr c_4
            refine lv_iload_n hx hb dX6_longestRun_46 rfl (lv_at hl 2 rfl) ?_
            refine lv_istore_n (lv' := [(1, .int (zrl (zlo v) k)), (2, .int ((zrn (zlo v) k) + 1)), (0, .ref x9), (3, .int (nI k))]) hx hb dX6_longestRun_47 rfl hl (by decide) rfl (fun ls hl => ?_)
            refine lv_iinc (v := nI (k + 1)) (lv' := [(3, .int (nI (k + 1))), (1, .int (zrl (zlo v) k)), (2, .int ((zrn (zlo v) k) + 1)), (0, .ref x9)]) hx hb dX6_longestRun_48 hl (k := 3) rfl (by rw [show Int32.ofInt 1 = nI 1 from rfl, nI_add]) (by decide) rfl (fun ls hl => ?_)
            refine lv_goto (tgt := 11) hx hb dX6_longestRun_51 (by decide) ?_
            exact ih11 (k + 1) (zrl (zlo v) k) ((zrn (zlo v) k) + 1) (by omega) (by omega) (by first | (simp only [zrl, zrn, zlo, c9, c_1, c_2, c_4, decide_true, decide_false, Bool.not_true, Bool.not_false, Bool.and_true, Bool.true_and, Bool.and_false, Bool.false_and, Bool.or_false, Bool.false_or, Bool.or_true, Bool.true_or, ↓reduceIte, Bool.false_eq_true, not_true_eq_false, not_false_eq_true, and_self]; done) | (simp [zrl, zrn, zlo, c9, c_1, c_2, c_4]; done) | (simp_all [zrl, zrn, zlo, c9]; done)) (by first | (simp only [zrl, zrn, zlo, c9, c_1, c_2, c_4, decide_true, decide_false, Bool.not_true, Bool.not_false, Bool.and_true, Bool.true_and, Bool.and_false, Bool.false_and, Bool.or_false, Bool.false_or, Bool.or_true, Bool.true_or, ↓reduceIte, Bool.false_eq_true, not_true_eq_false, not_false_eq_true, and_self]; done) | (simp [zrl, zrn, zlo, c9, c_1, c_2, c_4]; done) | (simp_all [zrl, zrn, zlo, c9]; done)) H locs hP hD hS ls (lv_sub hl [3, 1, 2, 0] rfl)
          · have c9 := Int32.not_le.mp c_4
            refine lv_iload_n hx hb dX6_longestRun_42 rfl (lv_at hl 0 rfl) ?_
            refine lv_goto (tgt := 47) hx hb dX6_longestRun_43 (by decide) ?_
            refine lv_istore_n (lv' := [(1, .int ((zrn (zlo v) k) + 1)), (2, .int ((zrn (zlo v) k) + 1)), (0, .ref x9), (3, .int (nI k))]) hx hb dX6_longestRun_47 rfl hl (by decide) rfl (fun ls hl => ?_)
            refine lv_iinc (v := nI (k + 1)) (lv' := [(3, .int (nI (k + 1))), (1, .int ((zrn (zlo v) k) + 1)), (2, .int ((zrn (zlo v) k) + 1)), (0, .ref x9)]) hx hb dX6_longestRun_48 hl (k := 3) rfl (by rw [show Int32.ofInt 1 = nI 1 from rfl, nI_add]) (by decide) rfl (fun ls hl => ?_)
            refine lv_goto (tgt := 11) hx hb dX6_longestRun_51 (by decide) ?_
            exact ih11 (k + 1) ((zrn (zlo v) k) + 1) ((zrn (zlo v) k) + 1) (by omega) (by omega) (by first | (simp only [zrl, zrn, zlo, c9, c_1, c_2, c_4, decide_true, decide_false, Bool.not_true, Bool.not_false, Bool.and_true, Bool.true_and, Bool.and_false, Bool.false_and, Bool.or_false, Bool.false_or, Bool.or_true, Bool.true_or, ↓reduceIte, Bool.false_eq_true, not_true_eq_false, not_false_eq_true, and_self]; done) | (simp [zrl, zrn, zlo, c9, c_1, c_2, c_4]; done) | (simp_all [zrl, zrn, zlo, c9]; done)) (by first | (simp only [zrl, zrn, zlo, c9, c_1, c_2, c_4, decide_true, decide_false, Bool.not_true, Bool.not_false, Bool.and_true, Bool.true_and, Bool.and_false, Bool.false_and, Bool.or_false, Bool.false_or, Bool.or_true, Bool.true_or, ↓reduceIte, Bool.false_eq_true, not_true_eq_false, not_false_eq_true, and_self]; done) | (simp [zrl, zrn, zlo, c9, c_1, c_2, c_4]; done) | (simp_all [zrl, zrn, zlo, c9]; done)) H locs hP hD hS ls (lv_sub hl [3, 1, 2, 0] rfl)
  exact L11 (24 - 0 + 1) 0 0 0 (by omega) (Nat.lt_succ_self _) (by rfl) (by rfl) H locs hP hD hS ls (lv_sub hl [3, 2, 1, 0] rfl)

abbrev rmX6_longestRunByMask : Room := { frames := 1, cells := 0, slots := 0, locals := 23 }
set_option maxHeartbeats 4000000 in
set_option maxRecDepth 100000 in
theorem c_X6_longestRunByMask {G : zG} (hg : zGN G) (l : Launch) (D : va_G) (cy : Nat → ClassId) (x9 : Nat) (th : Int32) (ch : Nat) (era : Int32) (why : Int32) (det : Int32) (cau : Int32) (sv : Bool) (rj : Bool) (v9 : Nat) (b9 : Nat) (s9 : Nat) (k9 : Nat) (p9 : Nat) (t9 : Nat) (n9 : Nat) (tn : Nat) (he : Nat) (en : Nat) (ln : Nat) (iw : Bool) (dg : Bool) (v : Nat → Int32) : zM G D vwCl (zT cy) l yX6_longestRunByMask wsX6_longestRunByMask rmX6_longestRunByMask [.ref x9] [(x9, .inr (10, [.int th, .int (nI ch), .int era, .int why, .int det, .int cau, .int (zI sv), .int (zI rj), .ref v9, .ref b9, .ref s9, .ref k9, .ref p9, .ref t9, .ref n9, .int (nI tn), .int (nI he), .int (nI en), .int (nI ln), .int (zI iw), .int (zI dg)])), (v9, .inl (cy 0, 188, .inl v))] (some (.int (zrl (zlo v) 24))) [(x9, .inr (10, [.int 0, .int (nI ch), .int era, .int why, .int det, .int cau, .int (zI sv), .int (zI rj), .ref v9, .ref b9, .ref s9, .ref k9, .ref p9, .ref t9, .ref n9, .int (nI tn), .int (nI he), .int (nI en), .int (nI ln), .int (zI iw), .int (zI dg)])), (v9, .inl (cy 0, 188, .inl v))] := by
  refine zM_of (cc := cX6_longestRunByMask) (maxL := 1) (ret := (some .int)) (by decide) rfl (Nat.le_of_ble_eq_true rfl) ?_
  intro p e s m below meth c A Q hend hx hb hml hr hts hown hlk hG hK hP hD hA hS ls hl
  have hown : s.vm.findClass RX6 = some m.cls := hown
  have hl : lv_has ls 1 [(0, .ref x9)] := hl
  refine lv_aload_n hx hb dX6_longestRunByMask_0 rfl (lv_at hl 0 rfl) ?_
  refine zcV (As := []) (rest := []) [0, 1] 0 hg.1 ⟨hx, hb, hml, hown, hts⟩ (c_X6_longestRun hg l D cy x9 th ch era why det cau sv rj v9 b9 s9 k9 p9 t9 n9 tn he en ln iw dg v) (cwV 0 hts gX6_longestRunByMask_X6_longestRun rfl rfl rfl (by decide +kernel) ⟨Nat.le_of_ble_eq_true rfl, Nat.le_of_ble_eq_true rfl⟩) hG hK hP hD hS hA rfl rfl (Eq.trans (b := [x9, v9]) rfl rfl) rfl rfl rfl hl.1 rfl (Nat.le_of_ble_eq_true rfl) dX6_longestRunByMask_1 ⟨Nat.zero_le _, Nat.zero_le _⟩ (fun H locs hP hD hS => ?_)
  have hP : va_P D vwCl [(x9, .inr (10, [.int 0, .int (nI ch), .int era, .int why, .int det, .int cau, .int (zI sv), .int (zI rj), .ref v9, .ref b9, .ref s9, .ref k9, .ref p9, .ref t9, .ref n9, .int (nI tn), .int (nI he), .int (nI en), .int (nI ln), .int (zI iw), .int (zI dg)])), (v9, .inl (cy 0, 188, .inl v))] H := hP
  have hD : va_D A [(x9, .inr (10, [.int 0, .int (nI ch), .int era, .int why, .int det, .int cau, .int (zI sv), .int (zI rj), .ref v9, .ref b9, .ref s9, .ref k9, .ref p9, .ref t9, .ref n9, .int (nI tn), .int (nI he), .int (nI en), .int (nI ln), .int (zI iw), .int (zI dg)])), (v9, .inl (cy 0, 188, .inl v))] := hD
  exact ziret hend hx hb hr hlk hK hP hD hS dX6_longestRunByMask_4 rfl rfl

abbrev rmX6_needlesInWork : Room := { frames := 1, cells := 0, slots := 0, locals := 22 }
set_option maxHeartbeats 4000000 in
set_option maxRecDepth 100000 in
theorem c_X6_needlesInWork {G : zG} (hg : zGN G) (l : Launch) (D : va_G) (cy : Nat → ClassId) (x9 : Nat) (th : Int32) (ch : Nat) (era : Int32) (why : Int32) (det : Int32) (cau : Int32) (sv : Bool) (rj : Bool) (v9 : Nat) (b9 : Nat) (s9 : Nat) (k9 : Nat) (p9 : Nat) (t9 : Nat) (n9 : Nat) (tn : Nat) (he : Nat) (en : Nat) (ln : Nat) (iw : Bool) (dg : Bool) (v : Nat → Int32) (hsq : zbok 40 (v 0)) : zM G D vwCl (zT cy) l yX6_needlesInWork wsX6_needlesInWork rmX6_needlesInWork [.ref x9] [(x9, .inr (10, [.int th, .int (nI ch), .int era, .int why, .int det, .int cau, .int (zI sv), .int (zI rj), .ref v9, .ref b9, .ref s9, .ref k9, .ref p9, .ref t9, .ref n9, .int (nI tn), .int (nI he), .int (nI en), .int (nI ln), .int (zI iw), .int (zI dg)])), (v9, .inl (cy 0, 188, .inl v))] (some (.int (zbc 40 (v 0) 0))) [(x9, .inr (10, [.int 0, .int (nI ch), .int era, .int why, .int det, .int cau, .int (zI sv), .int (zI rj), .ref v9, .ref b9, .ref s9, .ref k9, .ref p9, .ref t9, .ref n9, .int (nI tn), .int (nI he), .int (nI en), .int (nI ln), .int (zI iw), .int (zI dg)])), (v9, .inl (cy 0, 188, .inl v))] := by
  refine zM_of (cc := cX6_needlesInWork) (maxL := 1) (ret := (some .int)) (by decide) rfl (Nat.le_of_ble_eq_true rfl) ?_
  intro p e s m below meth c A Q hend hx hb hml hr hts hown hlk hG hK hP hD hA hS ls hl
  have hown : s.vm.findClass RX6 = some m.cls := hown
  have in_RX6 : ∀ w ∈ u_ws RX6 TX6 21, w ∈ wsX6_needlesInWork := by decide +kernel
  have hl : lv_has ls 1 [(0, .ref x9)] := hl
  refine lv_aload_n hx hb dX6_needlesInWork_0 rfl (lv_at hl 0 rfl) ?_
  refine lv_iconst (v := 0) hx hb dX6_needlesInWork_1 (by decide) ?_
  refine va_put (D := D) (ci := 10) (v := .int 0) (ty := .int) (C := RX6) (T := TX6) (N := 21) hx hb hts in_RX6 tyX6 tyX6_ok nmX6 hown hK hP hD hS 0 rfl rfl 0 (by decide) (hts _ (List.mem_of_getElem? (i := 1) rfl)) (fun _ h9 => h9) rfl (by decide +kernel) rfl rfl (Nat.le_of_ble_eq_true rfl) dX6_needlesInWork_2 (fun H locs hP hD hS => ?_)
  have hP : va_P D vwCl [(x9, .inr (10, [.int 0, .int (nI ch), .int era, .int why, .int det, .int cau, .int (zI sv), .int (zI rj), .ref v9, .ref b9, .ref s9, .ref k9, .ref p9, .ref t9, .ref n9, .int (nI tn), .int (nI he), .int (nI en), .int (nI ln), .int (zI iw), .int (zI dg)])), (v9, .inl (cy 0, 188, .inl v))] H := hP
  have hD : va_D A [(x9, .inr (10, [.int 0, .int (nI ch), .int era, .int why, .int det, .int cau, .int (zI sv), .int (zI rj), .ref v9, .ref b9, .ref s9, .ref k9, .ref p9, .ref t9, .ref n9, .int (nI tn), .int (nI he), .int (nI en), .int (nI ln), .int (zI iw), .int (zI dg)])), (v9, .inl (cy 0, 188, .inl v))] := hD
  refine lv_aload_n hx hb dX6_needlesInWork_5 rfl (lv_at hl 0 rfl) ?_
  refine va_get (D := D) (ci := 10) (v := .ref v9) (C := RX6) (T := TX6) (N := 21) hx hb hts in_RX6 hown hK hP 0 rfl rfl 8 (by decide) (hts _ (List.mem_of_getElem? (i := 2) rfl)) (fun _ h9 => h9) rfl dX6_needlesInWork_6 ?_
  refine lv_iconst (v := 0) hx hb dX6_needlesInWork_9 (by decide) ?_
  refine ziald 1 0 0 hx hb hK hP rfl rfl (by omega) (z_lt rfl) dX6_needlesInWork_10 ?_
  refine zcS (As := [.int (v 0)]) (rest := []) [] hg.1 ⟨hx, hb, hml, hown, hts⟩ (c_X6_bits hg l D cy (v 0) (by first | assumption | omega)) (va_cwS 1 hts gX6_needlesInWork_X6_bits rfl rfl rfl (by decide +kernel) ⟨Nat.le_of_ble_eq_true rfl, Nat.le_of_ble_eq_true rfl⟩) hG hK hP hD hS hA rfl rfl rfl  rfl hl.1 rfl (Nat.le_of_ble_eq_true rfl) dX6_needlesInWork_11 ⟨Nat.zero_le _, Nat.zero_le _⟩ (fun H locs hP hD hS => ?_)
  have hP : va_P D vwCl [(x9, .inr (10, [.int 0, .int (nI ch), .int era, .int why, .int det, .int cau, .int (zI sv), .int (zI rj), .ref v9, .ref b9, .ref s9, .ref k9, .ref p9, .ref t9, .ref n9, .int (nI tn), .int (nI he), .int (nI en), .int (nI ln), .int (zI iw), .int (zI dg)])), (v9, .inl (cy 0, 188, .inl v))] H := hP
  have hD : va_D A [(x9, .inr (10, [.int 0, .int (nI ch), .int era, .int why, .int det, .int cau, .int (zI sv), .int (zI rj), .ref v9, .ref b9, .ref s9, .ref k9, .ref p9, .ref t9, .ref n9, .int (nI tn), .int (nI he), .int (nI en), .int (nI ln), .int (zI iw), .int (zI dg)])), (v9, .inl (cy 0, 188, .inl v))] := hD
  exact ziret hend hx hb hr hlk hK hP hD hS dX6_needlesInWork_14 rfl rfl

abbrev rmX6_needlesOnHold : Room := { frames := 1, cells := 0, slots := 0, locals := 22 }
set_option maxHeartbeats 4000000 in
set_option maxRecDepth 100000 in
theorem c_X6_needlesOnHold {G : zG} (hg : zGN G) (l : Launch) (D : va_G) (cy : Nat → ClassId) (x9 : Nat) (th : Int32) (ch : Nat) (era : Int32) (why : Int32) (det : Int32) (cau : Int32) (sv : Bool) (rj : Bool) (v9 : Nat) (b9 : Nat) (s9 : Nat) (k9 : Nat) (p9 : Nat) (t9 : Nat) (n9 : Nat) (tn : Nat) (he : Nat) (en : Nat) (ln : Nat) (iw : Bool) (dg : Bool) (v : Nat → Int32) (hsq : zbok 40 (v 1)) : zM G D vwCl (zT cy) l yX6_needlesOnHold wsX6_needlesOnHold rmX6_needlesOnHold [.ref x9] [(x9, .inr (10, [.int th, .int (nI ch), .int era, .int why, .int det, .int cau, .int (zI sv), .int (zI rj), .ref v9, .ref b9, .ref s9, .ref k9, .ref p9, .ref t9, .ref n9, .int (nI tn), .int (nI he), .int (nI en), .int (nI ln), .int (zI iw), .int (zI dg)])), (v9, .inl (cy 0, 188, .inl v))] (some (.int (zbc 40 (v 1) 0))) [(x9, .inr (10, [.int 0, .int (nI ch), .int era, .int why, .int det, .int cau, .int (zI sv), .int (zI rj), .ref v9, .ref b9, .ref s9, .ref k9, .ref p9, .ref t9, .ref n9, .int (nI tn), .int (nI he), .int (nI en), .int (nI ln), .int (zI iw), .int (zI dg)])), (v9, .inl (cy 0, 188, .inl v))] := by
  refine zM_of (cc := cX6_needlesOnHold) (maxL := 1) (ret := (some .int)) (by decide) rfl (Nat.le_of_ble_eq_true rfl) ?_
  intro p e s m below meth c A Q hend hx hb hml hr hts hown hlk hG hK hP hD hA hS ls hl
  have hown : s.vm.findClass RX6 = some m.cls := hown
  have in_RX6 : ∀ w ∈ u_ws RX6 TX6 21, w ∈ wsX6_needlesOnHold := by decide +kernel
  have hl : lv_has ls 1 [(0, .ref x9)] := hl
  refine lv_aload_n hx hb dX6_needlesOnHold_0 rfl (lv_at hl 0 rfl) ?_
  refine lv_iconst (v := 0) hx hb dX6_needlesOnHold_1 (by decide) ?_
  refine va_put (D := D) (ci := 10) (v := .int 0) (ty := .int) (C := RX6) (T := TX6) (N := 21) hx hb hts in_RX6 tyX6 tyX6_ok nmX6 hown hK hP hD hS 0 rfl rfl 0 (by decide) (hts _ (List.mem_of_getElem? (i := 1) rfl)) (fun _ h9 => h9) rfl (by decide +kernel) rfl rfl (Nat.le_of_ble_eq_true rfl) dX6_needlesOnHold_2 (fun H locs hP hD hS => ?_)
  have hP : va_P D vwCl [(x9, .inr (10, [.int 0, .int (nI ch), .int era, .int why, .int det, .int cau, .int (zI sv), .int (zI rj), .ref v9, .ref b9, .ref s9, .ref k9, .ref p9, .ref t9, .ref n9, .int (nI tn), .int (nI he), .int (nI en), .int (nI ln), .int (zI iw), .int (zI dg)])), (v9, .inl (cy 0, 188, .inl v))] H := hP
  have hD : va_D A [(x9, .inr (10, [.int 0, .int (nI ch), .int era, .int why, .int det, .int cau, .int (zI sv), .int (zI rj), .ref v9, .ref b9, .ref s9, .ref k9, .ref p9, .ref t9, .ref n9, .int (nI tn), .int (nI he), .int (nI en), .int (nI ln), .int (zI iw), .int (zI dg)])), (v9, .inl (cy 0, 188, .inl v))] := hD
  refine lv_aload_n hx hb dX6_needlesOnHold_5 rfl (lv_at hl 0 rfl) ?_
  refine va_get (D := D) (ci := 10) (v := .ref v9) (C := RX6) (T := TX6) (N := 21) hx hb hts in_RX6 hown hK hP 0 rfl rfl 8 (by decide) (hts _ (List.mem_of_getElem? (i := 2) rfl)) (fun _ h9 => h9) rfl dX6_needlesOnHold_6 ?_
  refine lv_iconst (v := 1) hx hb dX6_needlesOnHold_9 (by decide) ?_
  refine ziald 1 0 1 hx hb hK hP rfl rfl (by omega) (z_lt rfl) dX6_needlesOnHold_10 ?_
  refine zcS (As := [.int (v 1)]) (rest := []) [] hg.1 ⟨hx, hb, hml, hown, hts⟩ (c_X6_bits hg l D cy (v 1) (by first | assumption | omega)) (va_cwS 1 hts gX6_needlesOnHold_X6_bits rfl rfl rfl (by decide +kernel) ⟨Nat.le_of_ble_eq_true rfl, Nat.le_of_ble_eq_true rfl⟩) hG hK hP hD hS hA rfl rfl rfl  rfl hl.1 rfl (Nat.le_of_ble_eq_true rfl) dX6_needlesOnHold_11 ⟨Nat.zero_le _, Nat.zero_le _⟩ (fun H locs hP hD hS => ?_)
  have hP : va_P D vwCl [(x9, .inr (10, [.int 0, .int (nI ch), .int era, .int why, .int det, .int cau, .int (zI sv), .int (zI rj), .ref v9, .ref b9, .ref s9, .ref k9, .ref p9, .ref t9, .ref n9, .int (nI tn), .int (nI he), .int (nI en), .int (nI ln), .int (zI iw), .int (zI dg)])), (v9, .inl (cy 0, 188, .inl v))] H := hP
  have hD : va_D A [(x9, .inr (10, [.int 0, .int (nI ch), .int era, .int why, .int det, .int cau, .int (zI sv), .int (zI rj), .ref v9, .ref b9, .ref s9, .ref k9, .ref p9, .ref t9, .ref n9, .int (nI tn), .int (nI he), .int (nI en), .int (nI ln), .int (zI iw), .int (zI dg)])), (v9, .inl (cy 0, 188, .inl v))] := hD
  exact ziret hend hx hb hr hlk hK hP hD hS dX6_needlesOnHold_14 rfl rfl

abbrev rmX6_loopCount : Room := { frames := 1, cells := 0, slots := 0, locals := 22 }
set_option maxHeartbeats 4000000 in
set_option maxRecDepth 100000 in
theorem c_X6_loopCount {G : zG} (hg : zGN G) (l : Launch) (D : va_G) (cy : Nat → ClassId) (x9 : Nat) (th : Int32) (ch : Nat) (era : Int32) (why : Int32) (det : Int32) (cau : Int32) (sv : Bool) (rj : Bool) (v9 : Nat) (b9 : Nat) (s9 : Nat) (k9 : Nat) (p9 : Nat) (t9 : Nat) (n9 : Nat) (tn : Nat) (he : Nat) (en : Nat) (ln : Nat) (iw : Bool) (dg : Bool) (v : Nat → Int32) : zM G D vwCl (zT cy) l yX6_loopCount wsX6_loopCount rmX6_loopCount [.ref x9] [(x9, .inr (10, [.int th, .int (nI ch), .int era, .int why, .int det, .int cau, .int (zI sv), .int (zI rj), .ref v9, .ref b9, .ref s9, .ref k9, .ref p9, .ref t9, .ref n9, .int (nI tn), .int (nI he), .int (nI en), .int (nI ln), .int (zI iw), .int (zI dg)])), (v9, .inl (cy 0, 188, .inl v))] (some (.int (zsum (zlo v) 24))) [(x9, .inr (10, [.int 0, .int (nI ch), .int era, .int why, .int det, .int cau, .int (zI sv), .int (zI rj), .ref v9, .ref b9, .ref s9, .ref k9, .ref p9, .ref t9, .ref n9, .int (nI tn), .int (nI he), .int (nI en), .int (nI ln), .int (zI iw), .int (zI dg)])), (v9, .inl (cy 0, 188, .inl v))] := by
  refine zM_of (cc := cX6_loopCount) (maxL := 1) (ret := (some .int)) (by decide) rfl (Nat.le_of_ble_eq_true rfl) ?_
  intro p e s m below meth c A Q hend hx hb hml hr hts hown hlk hG hK hP hD hA hS ls hl
  have hown : s.vm.findClass RX6 = some m.cls := hown
  have in_RX6 : ∀ w ∈ u_ws RX6 TX6 21, w ∈ wsX6_loopCount := by decide +kernel
  have hl : lv_has ls 1 [(0, .ref x9)] := hl
  refine lv_aload_n hx hb dX6_loopCount_0 rfl (lv_at hl 0 rfl) ?_
  refine lv_iconst (v := 0) hx hb dX6_loopCount_1 (by decide) ?_
  refine va_put (D := D) (ci := 10) (v := .int 0) (ty := .int) (C := RX6) (T := TX6) (N := 21) hx hb hts in_RX6 tyX6 tyX6_ok nmX6 hown hK hP hD hS 0 rfl rfl 0 (by decide) (hts _ (List.mem_of_getElem? (i := 1) rfl)) (fun _ h9 => h9) rfl (by decide +kernel) rfl rfl (Nat.le_of_ble_eq_true rfl) dX6_loopCount_2 (fun H locs hP hD hS => ?_)
  have hP : va_P D vwCl [(x9, .inr (10, [.int 0, .int (nI ch), .int era, .int why, .int det, .int cau, .int (zI sv), .int (zI rj), .ref v9, .ref b9, .ref s9, .ref k9, .ref p9, .ref t9, .ref n9, .int (nI tn), .int (nI he), .int (nI en), .int (nI ln), .int (zI iw), .int (zI dg)])), (v9, .inl (cy 0, 188, .inl v))] H := hP
  have hD : va_D A [(x9, .inr (10, [.int 0, .int (nI ch), .int era, .int why, .int det, .int cau, .int (zI sv), .int (zI rj), .ref v9, .ref b9, .ref s9, .ref k9, .ref p9, .ref t9, .ref n9, .int (nI tn), .int (nI he), .int (nI en), .int (nI ln), .int (zI iw), .int (zI dg)])), (v9, .inl (cy 0, 188, .inl v))] := hD
  refine lv_aload_n hx hb dX6_loopCount_5 rfl (lv_at hl 0 rfl) ?_
  refine zcV (As := []) (rest := []) [0, 1] 0 hg.1 ⟨hx, hb, hml, hown, hts⟩ (c_X6_loops hg l D cy x9 0 ch era why det cau sv rj v9 b9 s9 k9 p9 t9 n9 tn he en ln iw dg v) (cwV 0 hts gX6_loopCount_X6_loops rfl rfl rfl (by decide +kernel) ⟨Nat.le_of_ble_eq_true rfl, Nat.le_of_ble_eq_true rfl⟩) hG hK hP hD hS hA rfl rfl rfl rfl rfl rfl hl.1 rfl (Nat.le_of_ble_eq_true rfl) dX6_loopCount_6 ⟨Nat.zero_le _, Nat.zero_le _⟩ (fun H locs hP hD hS => ?_)
  have hP : va_P D vwCl [(x9, .inr (10, [.int 0, .int (nI ch), .int era, .int why, .int det, .int cau, .int (zI sv), .int (zI rj), .ref v9, .ref b9, .ref s9, .ref k9, .ref p9, .ref t9, .ref n9, .int (nI tn), .int (nI he), .int (nI en), .int (nI ln), .int (zI iw), .int (zI dg)])), (v9, .inl (cy 0, 188, .inl v))] H := hP
  have hD : va_D A [(x9, .inr (10, [.int 0, .int (nI ch), .int era, .int why, .int det, .int cau, .int (zI sv), .int (zI rj), .ref v9, .ref b9, .ref s9, .ref k9, .ref p9, .ref t9, .ref n9, .int (nI tn), .int (nI he), .int (nI en), .int (nI ln), .int (zI iw), .int (zI dg)])), (v9, .inl (cy 0, 188, .inl v))] := hD
  exact ziret hend hx hb hr hlk hK hP hD hS dX6_loopCount_9 rfl rfl
