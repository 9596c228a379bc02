theorem zic_c {c n : Nat} (h : n < 2 ^ 31) (h2 : c < n) : zic 0 (nI n - 1) (nI c) = true := by
  obtain ⟨m, rfl⟩ : ∃ m, n = m + 1 := ⟨n - 1, by omega⟩
  rw [nI_pred]
  have h1 : ¬ nI c < 0 := nI_pos (by omega)
  have h3 : ¬ nI m < nI c := nI_nlt (a := m) (by omega) (by omega)
  simp [zic, h1, h3, Int32.not_lt.mp h3]
theorem zic7 {k : Nat} (h : k < 8) : zic 0 7 (nI k) = true := by
  have h1 : ¬ nI k < 0 := nI_pos (by omega)
  have h2 : ¬ (7 : Int32) < nI k := nI_nlt (a := 7) (by omega) (by omega)
  simp [zic, h1, h2, Int32.not_lt.mp h2]
/-- all stitches that are written down -/
def zsc6 (v : Nat → Int32) : Nat → Int32
  | 0 => 0
  | k + 1 => zsc6 v k + v (68 + 4 * k)
def zcb6 (v : Nat → Int32) (o i : Nat) : Bool := let d := (if v (68 + 4 * o) - v (68 + 4 * i) = 0 then v (68 + 4 * i + 3) - v (68 + 4 * o + 3) else v (68 + 4 * o) - v (68 + 4 * i)); !decide (d ≤ 0) || (decide (d = 0) && !decide (nI i ≤ nI o))
def zps6 (v : Nat → Int32) (i : Nat) : Nat → Int32
  | 0 => 0
  | o + 1 => zps6 v i o + (if zcb6 v o i = true then 1 else 0)
def zyb6 (v : Nat → Int32) (o i : Nat) : Bool := !decide (v (58 + o) ≤ v (58 + i)) || (decide (v (58 + o) = v (58 + i)) && !decide (nI i ≤ nI o))
def zpy6 (v : Nat → Int32) (i : Nat) : Nat → Int32
  | 0 => 0
  | o + 1 => zpy6 v i o + (if zyb6 v o i = true then 1 else 0)
/-- what the feeders and the shawls hold -/
def zys6 (v : Nat → Int32) : Nat → Int32
  | 0 => v 8
  | k + 1 => zys6 v k + v (58 + k)
theorem zcp_u (v : Nat → Int32) (hq : Nat → Nat → Int32) (c k : Nat) (h : k < 188) : upd (zcp v (hq c) k) k (zpk hq (c * 188 + k)) = zcp v (hq c) (k + 1) := by
  rw [show zpk hq (c * 188 + k) = hq c k by simp only [zpk]; rw [show (c * 188 + k) / 188 = c by omega, show (c * 188 + k) % 188 = k by omega]]
  exact zcp_s v (hq c) k
abbrev rmX6_activeFeeder : Room := { frames := 0, cells := 0, slots := 0, locals := 0 }
set_option maxHeartbeats 4000000 in
set_option maxRecDepth 100000 in
theorem c_X6_activeFeeder {G : zG} (hg : zGN G) (l : Launch) (D : va_G) (cy : Nat → ClassId) (x9 : Nat) (th : Int32) (ch : Nat) (era : Int32) (why : Int32) (det : Int32) (cau : Int32) (sv : Bool) (rj : Bool) (v9 : Nat) (b9 : Nat) (s9 : Nat) (k9 : Nat) (p9 : Nat) (t9 : Nat) (n9 : Nat) (tn : Nat) (he : Nat) (en : Nat) (ln : Nat) (iw : Bool) (dg : Bool) (v : Nat → Int32) : zM G D vwCl (zT cy) l yX6_activeFeeder wsX6_activeFeeder rmX6_activeFeeder [.ref x9] [(x9, .inr (10, [.int th, .int (nI ch), .int era, .int why, .int det, .int cau, .int (zI sv), .int (zI rj), .ref v9, .ref b9, .ref s9, .ref k9, .ref p9, .ref t9, .ref n9, .int (nI tn), .int (nI he), .int (nI en), .int (nI ln), .int (zI iw), .int (zI dg)])), (v9, .inl (cy 0, 188, .inl v))] (some (.int (v 2))) [(x9, .inr (10, [.int 0, .int (nI ch), .int era, .int why, .int det, .int cau, .int (zI sv), .int (zI rj), .ref v9, .ref b9, .ref s9, .ref k9, .ref p9, .ref t9, .ref n9, .int (nI tn), .int (nI he), .int (nI en), .int (nI ln), .int (zI iw), .int (zI dg)])), (v9, .inl (cy 0, 188, .inl v))] := by
  refine zM_of (cc := cX6_activeFeeder) (maxL := 1) (ret := (some .int)) (by decide) rfl (Nat.le_of_ble_eq_true rfl) ?_
  intro p e s m below meth c A Q hend hx hb hml hr hts hown hlk hG hK hP hD hA hS ls hl
  have hown : s.vm.findClass RX6 = some m.cls := hown
  have in_RX6 : ∀ w ∈ u_ws RX6 TX6 21, w ∈ wsX6_activeFeeder := by decide +kernel
  have hl : lv_has ls 1 [(0, .ref x9)] := hl
  refine lv_aload_n hx hb dX6_activeFeeder_0 rfl (lv_at hl 0 rfl) ?_
  refine lv_iconst (v := 0) hx hb dX6_activeFeeder_1 (by decide) ?_
  refine va_put (D := D) (ci := 10) (v := .int 0) (ty := .int) (C := RX6) (T := TX6) (N := 21) hx hb hts in_RX6 tyX6 tyX6_ok nmX6 hown hK hP hD hS 0 rfl rfl 0 (by decide) (hts _ (List.mem_of_getElem? (i := 1) rfl)) (fun _ h9 => h9) rfl (by decide +kernel) rfl rfl (Nat.le_of_ble_eq_true rfl) dX6_activeFeeder_2 (fun H locs hP hD hS => ?_)
  have hP : va_P D vwCl [(x9, .inr (10, [.int 0, .int (nI ch), .int era, .int why, .int det, .int cau, .int (zI sv), .int (zI rj), .ref v9, .ref b9, .ref s9, .ref k9, .ref p9, .ref t9, .ref n9, .int (nI tn), .int (nI he), .int (nI en), .int (nI ln), .int (zI iw), .int (zI dg)])), (v9, .inl (cy 0, 188, .inl v))] H := hP
  have hD : va_D A [(x9, .inr (10, [.int 0, .int (nI ch), .int era, .int why, .int det, .int cau, .int (zI sv), .int (zI rj), .ref v9, .ref b9, .ref s9, .ref k9, .ref p9, .ref t9, .ref n9, .int (nI tn), .int (nI he), .int (nI en), .int (nI ln), .int (zI iw), .int (zI dg)])), (v9, .inl (cy 0, 188, .inl v))] := hD
  refine lv_aload_n hx hb dX6_activeFeeder_5 rfl (lv_at hl 0 rfl) ?_
  refine va_get (D := D) (ci := 10) (v := .ref v9) (C := RX6) (T := TX6) (N := 21) hx hb hts in_RX6 hown hK hP 0 rfl rfl 8 (by decide) (hts _ (List.mem_of_getElem? (i := 2) rfl)) (fun _ h9 => h9) rfl dX6_activeFeeder_6 ?_
  refine lv_iconst (v := 2) hx hb dX6_activeFeeder_9 (by decide) ?_
  refine ziald 1 0 2 hx hb hK hP rfl rfl (by omega) (z_lt rfl) dX6_activeFeeder_10 ?_
  exact ziret hend hx hb hr hlk hK hP hD hS dX6_activeFeeder_11 rfl rfl

abbrev rmX6_tension : Room := { frames := 0, cells := 0, slots := 0, locals := 0 }
set_option maxHeartbeats 4000000 in
set_option maxRecDepth 100000 in
theorem c_X6_tension {G : zG} (hg : zGN G) (l : Launch) (D : va_G) (cy : Nat → ClassId) (x9 : Nat) (th : Int32) (ch : Nat) (era : Int32) (why : Int32) (det : Int32) (cau : Int32) (sv : Bool) (rj : Bool) (v9 : Nat) (b9 : Nat) (s9 : Nat) (k9 : Nat) (p9 : Nat) (t9 : Nat) (n9 : Nat) (tn : Nat) (he : Nat) (en : Nat) (ln : Nat) (iw : Bool) (dg : Bool) (v : Nat → Int32) : zM G D vwCl (zT cy) l yX6_tension wsX6_tension rmX6_tension [.ref x9] [(x9, .inr (10, [.int th, .int (nI ch), .int era, .int why, .int det, .int cau, .int (zI sv), .int (zI rj), .ref v9, .ref b9, .ref s9, .ref k9, .ref p9, .ref t9, .ref n9, .int (nI tn), .int (nI he), .int (nI en), .int (nI ln), .int (zI iw), .int (zI dg)])), (v9, .inl (cy 0, 188, .inl v))] (some (.int (v 3))) [(x9, .inr (10, [.int 0, .int (nI ch), .int era, .int why, .int det, .int cau, .int (zI sv), .int (zI rj), .ref v9, .ref b9, .ref s9, .ref k9, .ref p9, .ref t9, .ref n9, .int (nI tn), .int (nI he), .int (nI en), .int (nI ln), .int (zI iw), .int (zI dg)])), (v9, .inl (cy 0, 188, .inl v))] := by
  refine zM_of (cc := cX6_tension) (maxL := 1) (ret := (some .int)) (by decide) rfl (Nat.le_of_ble_eq_true rfl) ?_
  intro p e s m below meth c A Q hend hx hb hml hr hts hown hlk hG hK hP hD hA hS ls hl
  have hown : s.vm.findClass RX6 = some m.cls := hown
  have in_RX6 : ∀ w ∈ u_ws RX6 TX6 21, w ∈ wsX6_tension := by decide +kernel
  have hl : lv_has ls 1 [(0, .ref x9)] := hl
  refine lv_aload_n hx hb dX6_tension_0 rfl (lv_at hl 0 rfl) ?_
  refine lv_iconst (v := 0) hx hb dX6_tension_1 (by decide) ?_
  refine va_put (D := D) (ci := 10) (v := .int 0) (ty := .int) (C := RX6) (T := TX6) (N := 21) hx hb hts in_RX6 tyX6 tyX6_ok nmX6 hown hK hP hD hS 0 rfl rfl 0 (by decide) (hts _ (List.mem_of_getElem? (i := 1) rfl)) (fun _ h9 => h9) rfl (by decide +kernel) rfl rfl (Nat.le_of_ble_eq_true rfl) dX6_tension_2 (fun H locs hP hD hS => ?_)
  have hP : va_P D vwCl [(x9, .inr (10, [.int 0, .int (nI ch), .int era, .int why, .int det, .int cau, .int (zI sv), .int (zI rj), .ref v9, .ref b9, .ref s9, .ref k9, .ref p9, .ref t9, .ref n9, .int (nI tn), .int (nI he), .int (nI en), .int (nI ln), .int (zI iw), .int (zI dg)])), (v9, .inl (cy 0, 188, .inl v))] H := hP
  have hD : va_D A [(x9, .inr (10, [.int 0, .int (nI ch), .int era, .int why, .int det, .int cau, .int (zI sv), .int (zI rj), .ref v9, .ref b9, .ref s9, .ref k9, .ref p9, .ref t9, .ref n9, .int (nI tn), .int (nI he), .int (nI en), .int (nI ln), .int (zI iw), .int (zI dg)])), (v9, .inl (cy 0, 188, .inl v))] := hD
  refine lv_aload_n hx hb dX6_tension_5 rfl (lv_at hl 0 rfl) ?_
  refine va_get (D := D) (ci := 10) (v := .ref v9) (C := RX6) (T := TX6) (N := 21) hx hb hts in_RX6 hown hK hP 0 rfl rfl 8 (by decide) (hts _ (List.mem_of_getElem? (i := 2) rfl)) (fun _ h9 => h9) rfl dX6_tension_6 ?_
  refine lv_iconst (v := 3) hx hb dX6_tension_9 (by decide) ?_
  refine ziald 1 0 3 hx hb hK hP rfl rfl (by omega) (z_lt rfl) dX6_tension_10 ?_
  exact ziret hend hx hb hr hlk hK hP hD hS dX6_tension_11 rfl rfl

abbrev rmX6_patternRows : Room := { frames := 0, cells := 0, slots := 0, locals := 0 }
set_option maxHeartbeats 4000000 in
set_option maxRecDepth 100000 in
theorem c_X6_patternRows {G : zG} (hg : zGN G) (l : Launch) (D : va_G) (cy : Nat → ClassId) (x9 : Nat) (th : Int32) (ch : Nat) (era : Int32) (why : Int32) (det : Int32) (cau : Int32) (sv : Bool) (rj : Bool) (v9 : Nat) (b9 : Nat) (s9 : Nat) (k9 : Nat) (p9 : Nat) (t9 : Nat) (n9 : Nat) (tn : Nat) (he : Nat) (en : Nat) (ln : Nat) (iw : Bool) (dg : Bool) (v : Nat → Int32) : zM G D vwCl (zT cy) l yX6_patternRows wsX6_patternRows rmX6_patternRows [.ref x9] [(x9, .inr (10, [.int th, .int (nI ch), .int era, .int why, .int det, .int cau, .int (zI sv), .int (zI rj), .ref v9, .ref b9, .ref s9, .ref k9, .ref p9, .ref t9, .ref n9, .int (nI tn), .int (nI he), .int (nI en), .int (nI ln), .int (zI iw), .int (zI dg)])), (v9, .inl (cy 0, 188, .inl v))] (some (.int (v 4))) [(x9, .inr (10, [.int 0, .int (nI ch), .int era, .int why, .int det, .int cau, .int (zI sv), .int (zI rj), .ref v9, .ref b9, .ref s9, .ref k9, .ref p9, .ref t9, .ref n9, .int (nI tn), .int (nI he), .int (nI en), .int (nI ln), .int (zI iw), .int (zI dg)])), (v9, .inl (cy 0, 188, .inl v))] := by
  refine zM_of (cc := cX6_patternRows) (maxL := 1) (ret := (some .int)) (by decide) rfl (Nat.le_of_ble_eq_true rfl) ?_
  intro p e s m below meth c A Q hend hx hb hml hr hts hown hlk hG hK hP hD hA hS ls hl
  have hown : s.vm.findClass RX6 = some m.cls := hown
  have in_RX6 : ∀ w ∈ u_ws RX6 TX6 21, w ∈ wsX6_patternRows := by decide +kernel
  have hl : lv_has ls 1 [(0, .ref x9)] := hl
  refine lv_aload_n hx hb dX6_patternRows_0 rfl (lv_at hl 0 rfl) ?_
  refine lv_iconst (v := 0) hx hb dX6_patternRows_1 (by decide) ?_
  refine va_put (D := D) (ci := 10) (v := .int 0) (ty := .int) (C := RX6) (T := TX6) (N := 21) hx hb hts in_RX6 tyX6 tyX6_ok nmX6 hown hK hP hD hS 0 rfl rfl 0 (by decide) (hts _ (List.mem_of_getElem? (i := 1) rfl)) (fun _ h9 => h9) rfl (by decide +kernel) rfl rfl (Nat.le_of_ble_eq_true rfl) dX6_patternRows_2 (fun H locs hP hD hS => ?_)
  have hP : va_P D vwCl [(x9, .inr (10, [.int 0, .int (nI ch), .int era, .int why, .int det, .int cau, .int (zI sv), .int (zI rj), .ref v9, .ref b9, .ref s9, .ref k9, .ref p9, .ref t9, .ref n9, .int (nI tn), .int (nI he), .int (nI en), .int (nI ln), .int (zI iw), .int (zI dg)])), (v9, .inl (cy 0, 188, .inl v))] H := hP
  have hD : va_D A [(x9, .inr (10, [.int 0, .int (nI ch), .int era, .int why, .int det, .int cau, .int (zI sv), .int (zI rj), .ref v9, .ref b9, .ref s9, .ref k9, .ref p9, .ref t9, .ref n9, .int (nI tn), .int (nI he), .int (nI en), .int (nI ln), .int (zI iw), .int (zI dg)])), (v9, .inl (cy 0, 188, .inl v))] := hD
  refine lv_aload_n hx hb dX6_patternRows_5 rfl (lv_at hl 0 rfl) ?_
  refine va_get (D := D) (ci := 10) (v := .ref v9) (C := RX6) (T := TX6) (N := 21) hx hb hts in_RX6 hown hK hP 0 rfl rfl 8 (by decide) (hts _ (List.mem_of_getElem? (i := 2) rfl)) (fun _ h9 => h9) rfl dX6_patternRows_6 ?_
  refine lv_iconst (v := 4) hx hb dX6_patternRows_9 (by decide) ?_
  refine ziald 1 0 4 hx hb hK hP rfl rfl (by omega) (z_lt rfl) dX6_patternRows_10 ?_
  exact ziret hend hx hb hr hlk hK hP hD hS dX6_patternRows_11 rfl rfl

abbrev rmX6_courseCount : Room := { frames := 0, cells := 0, slots := 0, locals := 0 }
set_option maxHeartbeats 4000000 in
set_option maxRecDepth 100000 in
theorem c_X6_courseCount {G : zG} (hg : zGN G) (l : Launch) (D : va_G) (cy : Nat → ClassId) (x9 : Nat) (th : Int32) (ch : Nat) (era : Int32) (why : Int32) (det : Int32) (cau : Int32) (sv : Bool) (rj : Bool) (v9 : Nat) (b9 : Nat) (s9 : Nat) (k9 : Nat) (p9 : Nat) (t9 : Nat) (n9 : Nat) (tn : Nat) (he : Nat) (en : Nat) (ln : Nat) (iw : Bool) (dg : Bool) (v : Nat → Int32) : zM G D vwCl (zT cy) l yX6_courseCount wsX6_courseCount rmX6_courseCount [.ref x9] [(x9, .inr (10, [.int th, .int (nI ch), .int era, .int why, .int det, .int cau, .int (zI sv), .int (zI rj), .ref v9, .ref b9, .ref s9, .ref k9, .ref p9, .ref t9, .ref n9, .int (nI tn), .int (nI he), .int (nI en), .int (nI ln), .int (zI iw), .int (zI dg)])), (v9, .inl (cy 0, 188, .inl v))] (some (.int (v 5))) [(x9, .inr (10, [.int 0, .int (nI ch), .int era, .int why, .int det, .int cau, .int (zI sv), .int (zI rj), .ref v9, .ref b9, .ref s9, .ref k9, .ref p9, .ref t9, .ref n9, .int (nI tn), .int (nI he), .int (nI en), .int (nI ln), .int (zI iw), .int (zI dg)])), (v9, .inl (cy 0, 188, .inl v))] := by
  refine zM_of (cc := cX6_courseCount) (maxL := 1) (ret := (some .int)) (by decide) rfl (Nat.le_of_ble_eq_true rfl) ?_
  intro p e s m below meth c A Q hend hx hb hml hr hts hown hlk hG hK hP hD hA hS ls hl
  have hown : s.vm.findClass RX6 = some m.cls := hown
  have in_RX6 : ∀ w ∈ u_ws RX6 TX6 21, w ∈ wsX6_courseCount := by decide +kernel
  have hl : lv_has ls 1 [(0, .ref x9)] := hl
  refine lv_aload_n hx hb dX6_courseCount_0 rfl (lv_at hl 0 rfl) ?_
  refine lv_iconst (v := 0) hx hb dX6_courseCount_1 (by decide) ?_
  refine va_put (D := D) (ci := 10) (v := .int 0) (ty := .int) (C := RX6) (T := TX6) (N := 21) hx hb hts in_RX6 tyX6 tyX6_ok nmX6 hown hK hP hD hS 0 rfl rfl 0 (by decide) (hts _ (List.mem_of_getElem? (i := 1) rfl)) (fun _ h9 => h9) rfl (by decide +kernel) rfl rfl (Nat.le_of_ble_eq_true rfl) dX6_courseCount_2 (fun H locs hP hD hS => ?_)
  have hP : va_P D vwCl [(x9, .inr (10, [.int 0, .int (nI ch), .int era, .int why, .int det, .int cau, .int (zI sv), .int (zI rj), .ref v9, .ref b9, .ref s9, .ref k9, .ref p9, .ref t9, .ref n9, .int (nI tn), .int (nI he), .int (nI en), .int (nI ln), .int (zI iw), .int (zI dg)])), (v9, .inl (cy 0, 188, .inl v))] H := hP
  have hD : va_D A [(x9, .inr (10, [.int 0, .int (nI ch), .int era, .int why, .int det, .int cau, .int (zI sv), .int (zI rj), .ref v9, .ref b9, .ref s9, .ref k9, .ref p9, .ref t9, .ref n9, .int (nI tn), .int (nI he), .int (nI en), .int (nI ln), .int (zI iw), .int (zI dg)])), (v9, .inl (cy 0, 188, .inl v))] := hD
  refine lv_aload_n hx hb dX6_courseCount_5 rfl (lv_at hl 0 rfl) ?_
  refine va_get (D := D) (ci := 10) (v := .ref v9) (C := RX6) (T := TX6) (N := 21) hx hb hts in_RX6 hown hK hP 0 rfl rfl 8 (by decide) (hts _ (List.mem_of_getElem? (i := 2) rfl)) (fun _ h9 => h9) rfl dX6_courseCount_6 ?_
  refine lv_iconst (v := 5) hx hb dX6_courseCount_9 (by decide) ?_
  refine ziald 1 0 5 hx hb hK hP rfl rfl (by omega) (z_lt rfl) dX6_courseCount_10 ?_
  exact ziret hend hx hb hr hlk hK hP hD hS dX6_courseCount_11 rfl rfl

abbrev rmX6_finishedShawls : Room := { frames := 0, cells := 0, slots := 0, locals := 0 }
set_option maxHeartbeats 4000000 in
set_option maxRecDepth 100000 in
theorem c_X6_finishedShawls {G : zG} (hg : zGN G) (l : Launch) (D : va_G) (cy : Nat → ClassId) (x9 : Nat) (th : Int32) (ch : Nat) (era : Int32) (why : Int32) (det : Int32) (cau : Int32) (sv : Bool) (rj : Bool) (v9 : Nat) (b9 : Nat) (s9 : Nat) (k9 : Nat) (p9 : Nat) (t9 : Nat) (n9 : Nat) (tn : Nat) (he : Nat) (en : Nat) (ln : Nat) (iw : Bool) (dg : Bool) (v : Nat → Int32) : zM G D vwCl (zT cy) l yX6_finishedShawls wsX6_finishedShawls rmX6_finishedShawls [.ref x9] [(x9, .inr (10, [.int th, .int (nI ch), .int era, .int why, .int det, .int cau, .int (zI sv), .int (zI rj), .ref v9, .ref b9, .ref s9, .ref k9, .ref p9, .ref t9, .ref n9, .int (nI tn), .int (nI he), .int (nI en), .int (nI ln), .int (zI iw), .int (zI dg)])), (v9, .inl (cy 0, 188, .inl v))] (some (.int (v 6))) [(x9, .inr (10, [.int 0, .int (nI ch), .int era, .int why, .int det, .int cau, .int (zI sv), .int (zI rj), .ref v9, .ref b9, .ref s9, .ref k9, .ref p9, .ref t9, .ref n9, .int (nI tn), .int (nI he), .int (nI en), .int (nI ln), .int (zI iw), .int (zI dg)])), (v9, .inl (cy 0, 188, .inl v))] := by
  refine zM_of (cc := cX6_finishedShawls) (maxL := 1) (ret := (some .int)) (by decide) rfl (Nat.le_of_ble_eq_true rfl) ?_
  intro p e s m below meth c A Q hend hx hb hml hr hts hown hlk hG hK hP hD hA hS ls hl
  have hown : s.vm.findClass RX6 = some m.cls := hown
  have in_RX6 : ∀ w ∈ u_ws RX6 TX6 21, w ∈ wsX6_finishedShawls := by decide +kernel
  have hl : lv_has ls 1 [(0, .ref x9)] := hl
  refine lv_aload_n hx hb dX6_finishedShawls_0 rfl (lv_at hl 0 rfl) ?_
  refine lv_iconst (v := 0) hx hb dX6_finishedShawls_1 (by decide) ?_
  refine va_put (D := D) (ci := 10) (v := .int 0) (ty := .int) (C := RX6) (T := TX6) (N := 21) hx hb hts in_RX6 tyX6 tyX6_ok nmX6 hown hK hP hD hS 0 rfl rfl 0 (by decide) (hts _ (List.mem_of_getElem? (i := 1) rfl)) (fun _ h9 => h9) rfl (by decide +kernel) rfl rfl (Nat.le_of_ble_eq_true rfl) dX6_finishedShawls_2 (fun H locs hP hD hS => ?_)
  have hP : va_P D vwCl [(x9, .inr (10, [.int 0, .int (nI ch), .int era, .int why, .int det, .int cau, .int (zI sv), .int (zI rj), .ref v9, .ref b9, .ref s9, .ref k9, .ref p9, .ref t9, .ref n9, .int (nI tn), .int (nI he), .int (nI en), .int (nI ln), .int (zI iw), .int (zI dg)])), (v9, .inl (cy 0, 188, .inl v))] H := hP
  have hD : va_D A [(x9, .inr (10, [.int 0, .int (nI ch), .int era, .int why, .int det, .int cau, .int (zI sv), .int (zI rj), .ref v9, .ref b9, .ref s9, .ref k9, .ref p9, .ref t9, .ref n9, .int (nI tn), .int (nI he), .int (nI en), .int (nI ln), .int (zI iw), .int (zI dg)])), (v9, .inl (cy 0, 188, .inl v))] := hD
  refine lv_aload_n hx hb dX6_finishedShawls_5 rfl (lv_at hl 0 rfl) ?_
  refine va_get (D := D) (ci := 10) (v := .ref v9) (C := RX6) (T := TX6) (N := 21) hx hb hts in_RX6 hown hK hP 0 rfl rfl 8 (by decide) (hts _ (List.mem_of_getElem? (i := 2) rfl)) (fun _ h9 => h9) rfl dX6_finishedShawls_6 ?_
  refine lv_bipush (v := 6) hx hb dX6_finishedShawls_9 (by decide) ?_
  refine ziald 1 0 6 hx hb hK hP rfl rfl (by omega) (z_lt rfl) dX6_finishedShawls_11 ?_
  exact ziret hend hx hb hr hlk hK hP hD hS dX6_finishedShawls_12 rfl rfl

abbrev rmX6_yarnAdded : Room := { frames := 0, cells := 0, slots := 0, locals := 0 }
set_option maxHeartbeats 4000000 in
set_option maxRecDepth 100000 in
theorem c_X6_yarnAdded {G : zG} (hg : zGN G) (l : Launch) (D : va_G) (cy : Nat → ClassId) (x9 : Nat) (th : Int32) (ch : Nat) (era : Int32) (why : Int32) (det : Int32) (cau : Int32) (sv : Bool) (rj : Bool) (v9 : Nat) (b9 : Nat) (s9 : Nat) (k9 : Nat) (p9 : Nat) (t9 : Nat) (n9 : Nat) (tn : Nat) (he : Nat) (en : Nat) (ln : Nat) (iw : Bool) (dg : Bool) (v : Nat → Int32) : zM G D vwCl (zT cy) l yX6_yarnAdded wsX6_yarnAdded rmX6_yarnAdded [.ref x9] [(x9, .inr (10, [.int th, .int (nI ch), .int era, .int why, .int det, .int cau, .int (zI sv), .int (zI rj), .ref v9, .ref b9, .ref s9, .ref k9, .ref p9, .ref t9, .ref n9, .int (nI tn), .int (nI he), .int (nI en), .int (nI ln), .int (zI iw), .int (zI dg)])), (v9, .inl (cy 0, 188, .inl v))] (some (.int (v 7))) [(x9, .inr (10, [.int 0, .int (nI ch), .int era, .int why, .int det, .int cau, .int (zI sv), .int (zI rj), .ref v9, .ref b9, .ref s9, .ref k9, .ref p9, .ref t9, .ref n9, .int (nI tn), .int (nI he), .int (nI en), .int (nI ln), .int (zI iw), .int (zI dg)])), (v9, .inl (cy 0, 188, .inl v))] := by
  refine zM_of (cc := cX6_yarnAdded) (maxL := 1) (ret := (some .int)) (by decide) rfl (Nat.le_of_ble_eq_true rfl) ?_
  intro p e s m below meth c A Q hend hx hb hml hr hts hown hlk hG hK hP hD hA hS ls hl
  have hown : s.vm.findClass RX6 = some m.cls := hown
  have in_RX6 : ∀ w ∈ u_ws RX6 TX6 21, w ∈ wsX6_yarnAdded := by decide +kernel
  have hl : lv_has ls 1 [(0, .ref x9)] := hl
  refine lv_aload_n hx hb dX6_yarnAdded_0 rfl (lv_at hl 0 rfl) ?_
  refine lv_iconst (v := 0) hx hb dX6_yarnAdded_1 (by decide) ?_
  refine va_put (D := D) (ci := 10) (v := .int 0) (ty := .int) (C := RX6) (T := TX6) (N := 21) hx hb hts in_RX6 tyX6 tyX6_ok nmX6 hown hK hP hD hS 0 rfl rfl 0 (by decide) (hts _ (List.mem_of_getElem? (i := 1) rfl)) (fun _ h9 => h9) rfl (by decide +kernel) rfl rfl (Nat.le_of_ble_eq_true rfl) dX6_yarnAdded_2 (fun H locs hP hD hS => ?_)
  have hP : va_P D vwCl [(x9, .inr (10, [.int 0, .int (nI ch), .int era, .int why, .int det, .int cau, .int (zI sv), .int (zI rj), .ref v9, .ref b9, .ref s9, .ref k9, .ref p9, .ref t9, .ref n9, .int (nI tn), .int (nI he), .int (nI en), .int (nI ln), .int (zI iw), .int (zI dg)])), (v9, .inl (cy 0, 188, .inl v))] H := hP
  have hD : va_D A [(x9, .inr (10, [.int 0, .int (nI ch), .int era, .int why, .int det, .int cau, .int (zI sv), .int (zI rj), .ref v9, .ref b9, .ref s9, .ref k9, .ref p9, .ref t9, .ref n9, .int (nI tn), .int (nI he), .int (nI en), .int (nI ln), .int (zI iw), .int (zI dg)])), (v9, .inl (cy 0, 188, .inl v))] := hD
  refine lv_aload_n hx hb dX6_yarnAdded_5 rfl (lv_at hl 0 rfl) ?_
  refine va_get (D := D) (ci := 10) (v := .ref v9) (C := RX6) (T := TX6) (N := 21) hx hb hts in_RX6 hown hK hP 0 rfl rfl 8 (by decide) (hts _ (List.mem_of_getElem? (i := 2) rfl)) (fun _ h9 => h9) rfl dX6_yarnAdded_6 ?_
  refine lv_bipush (v := 7) hx hb dX6_yarnAdded_9 (by decide) ?_
  refine ziald 1 0 7 hx hb hK hP rfl rfl (by omega) (z_lt rfl) dX6_yarnAdded_11 ?_
  exact ziret hend hx hb hr hlk hK hP hD hS dX6_yarnAdded_12 rfl rfl

abbrev rmX6_yarnUsed : Room := { frames := 0, cells := 0, slots := 0, locals := 0 }
set_option maxHeartbeats 4000000 in
set_option maxRecDepth 100000 in
theorem c_X6_yarnUsed {G : zG} (hg : zGN G) (l : Launch) (D : va_G) (cy : Nat → ClassId) (x9 : Nat) (th : Int32) (ch : Nat) (era : Int32) (why : Int32) (det : Int32) (cau : Int32) (sv : Bool) (rj : Bool) (v9 : Nat) (b9 : Nat) (s9 : Nat) (k9 : Nat) (p9 : Nat) (t9 : Nat) (n9 : Nat) (tn : Nat) (he : Nat) (en : Nat) (ln : Nat) (iw : Bool) (dg : Bool) (v : Nat → Int32) : zM G D vwCl (zT cy) l yX6_yarnUsed wsX6_yarnUsed rmX6_yarnUsed [.ref x9] [(x9, .inr (10, [.int th, .int (nI ch), .int era, .int why, .int det, .int cau, .int (zI sv), .int (zI rj), .ref v9, .ref b9, .ref s9, .ref k9, .ref p9, .ref t9, .ref n9, .int (nI tn), .int (nI he), .int (nI en), .int (nI ln), .int (zI iw), .int (zI dg)])), (v9, .inl (cy 0, 188, .inl v))] (some (.int (v 8))) [(x9, .inr (10, [.int 0, .int (nI ch), .int era, .int why, .int det, .int cau, .int (zI sv), .int (zI rj), .ref v9, .ref b9, .ref s9, .ref k9, .ref p9, .ref t9, .ref n9, .int (nI tn), .int (nI he), .int (nI en), .int (nI ln), .int (zI iw), .int (zI dg)])), (v9, .inl (cy 0, 188, .inl v))] := by
  refine zM_of (cc := cX6_yarnUsed) (maxL := 1) (ret := (some .int)) (by decide) rfl (Nat.le_of_ble_eq_true rfl) ?_
  intro p e s m below meth c A Q hend hx hb hml hr hts hown hlk hG hK hP hD hA hS ls hl
  have hown : s.vm.findClass RX6 = some m.cls := hown
  have in_RX6 : ∀ w ∈ u_ws RX6 TX6 21, w ∈ wsX6_yarnUsed := by decide +kernel
  have hl : lv_has ls 1 [(0, .ref x9)] := hl
  refine lv_aload_n hx hb dX6_yarnUsed_0 rfl (lv_at hl 0 rfl) ?_
  refine lv_iconst (v := 0) hx hb dX6_yarnUsed_1 (by decide) ?_
  refine va_put (D := D) (ci := 10) (v := .int 0) (ty := .int) (C := RX6) (T := TX6) (N := 21) hx hb hts in_RX6 tyX6 tyX6_ok nmX6 hown hK hP hD hS 0 rfl rfl 0 (by decide) (hts _ (List.mem_of_getElem? (i := 1) rfl)) (fun _ h9 => h9) rfl (by decide +kernel) rfl rfl (Nat.le_of_ble_eq_true rfl) dX6_yarnUsed_2 (fun H locs hP hD hS => ?_)
  have hP : va_P D vwCl [(x9, .inr (10, [.int 0, .int (nI ch), .int era, .int why, .int det, .int cau, .int (zI sv), .int (zI rj), .ref v9, .ref b9, .ref s9, .ref k9, .ref p9, .ref t9, .ref n9, .int (nI tn), .int (nI he), .int (nI en), .int (nI ln), .int (zI iw), .int (zI dg)])), (v9, .inl (cy 0, 188, .inl v))] H := hP
  have hD : va_D A [(x9, .inr (10, [.int 0, .int (nI ch), .int era, .int why, .int det, .int cau, .int (zI sv), .int (zI rj), .ref v9, .ref b9, .ref s9, .ref k9, .ref p9, .ref t9, .ref n9, .int (nI tn), .int (nI he), .int (nI en), .int (nI ln), .int (zI iw), .int (zI dg)])), (v9, .inl (cy 0, 188, .inl v))] := hD
  refine lv_aload_n hx hb dX6_yarnUsed_5 rfl (lv_at hl 0 rfl) ?_
  refine va_get (D := D) (ci := 10) (v := .ref v9) (C := RX6) (T := TX6) (N := 21) hx hb hts in_RX6 hown hK hP 0 rfl rfl 8 (by decide) (hts _ (List.mem_of_getElem? (i := 2) rfl)) (fun _ h9 => h9) rfl dX6_yarnUsed_6 ?_
  refine lv_bipush (v := 8) hx hb dX6_yarnUsed_9 (by decide) ?_
  refine ziald 1 0 8 hx hb hK hP rfl rfl (by omega) (z_lt rfl) dX6_yarnUsed_11 ?_
  exact ziret hend hx hb hr hlk hK hP hD hS dX6_yarnUsed_12 rfl rfl

abbrev rmX6_droppedLoops : Room := { frames := 0, cells := 0, slots := 0, locals := 0 }
set_option maxHeartbeats 4000000 in
set_option maxRecDepth 100000 in
theorem c_X6_droppedLoops {G : zG} (hg : zGN G) (l : Launch) (D : va_G) (cy : Nat → ClassId) (x9 : Nat) (th : Int32) (ch : Nat) (era : Int32) (why : Int32) (det : Int32) (cau : Int32) (sv : Bool) (rj : Bool) (v9 : Nat) (b9 : Nat) (s9 : Nat) (k9 : Nat) (p9 : Nat) (t9 : Nat) (n9 : Nat) (tn : Nat) (he : Nat) (en : Nat) (ln : Nat) (iw : Bool) (dg : Bool) (v : Nat → Int32) : zM G D vwCl (zT cy) l yX6_droppedLoops wsX6_droppedLoops rmX6_droppedLoops [.ref x9] [(x9, .inr (10, [.int th, .int (nI ch), .int era, .int why, .int det, .int cau, .int (zI sv), .int (zI rj), .ref v9, .ref b9, .ref s9, .ref k9, .ref p9, .ref t9, .ref n9, .int (nI tn), .int (nI he), .int (nI en), .int (nI ln), .int (zI iw), .int (zI dg)])), (v9, .inl (cy 0, 188, .inl v))] (some (.int (v 9))) [(x9, .inr (10, [.int 0, .int (nI ch), .int era, .int why, .int det, .int cau, .int (zI sv), .int (zI rj), .ref v9, .ref b9, .ref s9, .ref k9, .ref p9, .ref t9, .ref n9, .int (nI tn), .int (nI he), .int (nI en), .int (nI ln), .int (zI iw), .int (zI dg)])), (v9, .inl (cy 0, 188, .inl v))] := by
  refine zM_of (cc := cX6_droppedLoops) (maxL := 1) (ret := (some .int)) (by decide) rfl (Nat.le_of_ble_eq_true rfl) ?_
  intro p e s m below meth c A Q hend hx hb hml hr hts hown hlk hG hK hP hD hA hS ls hl
  have hown : s.vm.findClass RX6 = some m.cls := hown
  have in_RX6 : ∀ w ∈ u_ws RX6 TX6 21, w ∈ wsX6_droppedLoops := by decide +kernel
  have hl : lv_has ls 1 [(0, .ref x9)] := hl
  refine lv_aload_n hx hb dX6_droppedLoops_0 rfl (lv_at hl 0 rfl) ?_
  refine lv_iconst (v := 0) hx hb dX6_droppedLoops_1 (by decide) ?_
  refine va_put (D := D) (ci := 10) (v := .int 0) (ty := .int) (C := RX6) (T := TX6) (N := 21) hx hb hts in_RX6 tyX6 tyX6_ok nmX6 hown hK hP hD hS 0 rfl rfl 0 (by decide) (hts _ (List.mem_of_getElem? (i := 1) rfl)) (fun _ h9 => h9) rfl (by decide +kernel) rfl rfl (Nat.le_of_ble_eq_true rfl) dX6_droppedLoops_2 (fun H locs hP hD hS => ?_)
  have hP : va_P D vwCl [(x9, .inr (10, [.int 0, .int (nI ch), .int era, .int why, .int det, .int cau, .int (zI sv), .int (zI rj), .ref v9, .ref b9, .ref s9, .ref k9, .ref p9, .ref t9, .ref n9, .int (nI tn), .int (nI he), .int (nI en), .int (nI ln), .int (zI iw), .int (zI dg)])), (v9, .inl (cy 0, 188, .inl v))] H := hP
  have hD : va_D A [(x9, .inr (10, [.int 0, .int (nI ch), .int era, .int why, .int det, .int cau, .int (zI sv), .int (zI rj), .ref v9, .ref b9, .ref s9, .ref k9, .ref p9, .ref t9, .ref n9, .int (nI tn), .int (nI he), .int (nI en), .int (nI ln), .int (zI iw), .int (zI dg)])), (v9, .inl (cy 0, 188, .inl v))] := hD
  refine lv_aload_n hx hb dX6_droppedLoops_5 rfl (lv_at hl 0 rfl) ?_
  refine va_get (D := D) (ci := 10) (v := .ref v9) (C := RX6) (T := TX6) (N := 21) hx hb hts in_RX6 hown hK hP 0 rfl rfl 8 (by decide) (hts _ (List.mem_of_getElem? (i := 2) rfl)) (fun _ h9 => h9) rfl dX6_droppedLoops_6 ?_
  refine lv_bipush (v := 9) hx hb dX6_droppedLoops_9 (by decide) ?_
  refine ziald 1 0 9 hx hb hK hP rfl rfl (by omega) (z_lt rfl) dX6_droppedLoops_11 ?_
  exact ziret hend hx hb hr hlk hK hP hD hS dX6_droppedLoops_12 rfl rfl

abbrev rmX6_isInWork_ok : Room := { frames := 2, cells := 0, slots := 0, locals := 42 }
set_option maxHeartbeats 4000000 in
set_option maxRecDepth 100000 in
theorem c_X6_isInWork_ok {G : zG} (hg : zGN G) (l : Launch) (D : va_G) (cy : Nat → ClassId) (x9 : Nat) (th : Int32) (ch : Nat) (era : Int32) (why : Int32) (det : Int32) (cau : Int32) (sv : Bool) (rj : Bool) (v9 : Nat) (b9 : Nat) (s9 : Nat) (k9 : Nat) (p9 : Nat) (t9 : Nat) (n9 : Nat) (tn : Nat) (he : Nat) (en : Nat) (ln : Nat) (iw : Bool) (dg : Bool) (v : Nat → Int32) (a : Nat) (ha : a < 24) : zM G D vwCl (zT cy) l yX6_isInWork wsX6_isInWork rmX6_isInWork_ok [.ref x9, .int (nI a)] [(x9, .inr (10, [.int th, .int (nI ch), .int era, .int why, .int det, .int cau, .int (zI sv), .int (zI rj), .ref v9, .ref b9, .ref s9, .ref k9, .ref p9, .ref t9, .ref n9, .int (nI tn), .int (nI he), .int (nI en), .int (nI ln), .int (zI iw), .int (zI dg)])), (v9, .inl (cy 0, 188, .inl v))] (some (.int (zI (zb (v 0) (nI a))))) [(x9, .inr (10, [.int 0, .int (nI ch), .int era, .int why, .int det, .int cau, .int (zI sv), .int (zI rj), .ref v9, .ref b9, .ref s9, .ref k9, .ref p9, .ref t9, .ref n9, .int (nI tn), .int (nI he), .int (nI en), .int (nI ln), .int (zI iw), .int (zI dg)])), (v9, .inl (cy 0, 188, .inl v))] := by
  refine zM_of (cc := cX6_isInWork) (maxL := 2) (ret := (some .boolean)) (by decide) rfl (Nat.le_of_ble_eq_true rfl) ?_
  intro p e s m below meth c A Q hend hx hb hml hr hts hown hlk hG hK hP hD hA hS ls hl
  have hown : s.vm.findClass RX6 = some m.cls := hown
  have in_RX6 : ∀ w ∈ u_ws RX6 TX6 21, w ∈ wsX6_isInWork := by decide +kernel
  have hl : lv_has ls 2 [(0, .ref x9), (1, .int (nI a))] := hl
  refine lv_aload_n hx hb dX6_isInWork_0 rfl (lv_at hl 0 rfl) ?_
  refine lv_iload_n hx hb dX6_isInWork_1 rfl (lv_at hl 1 rfl) ?_
  refine zcS (As := [.int (nI a)]) (rest := [.ref x9]) [] hg.1 ⟨hx, hb, hml, hown, hts⟩ (c_X6_isNeedle hg l D cy (nI a)) (va_cwS 1 hts gX6_isInWork_X6_isNeedle rfl rfl rfl (by decide +kernel) ⟨Nat.le_of_ble_eq_true rfl, Nat.le_of_ble_eq_true rfl⟩) hG hK hP hD hS hA rfl rfl rfl  rfl hl.1 rfl (Nat.le_of_ble_eq_true rfl) dX6_isInWork_2 ⟨Nat.zero_le _, Nat.zero_le _⟩ (fun H locs hP hD hS => ?_)
  have hP : va_P D vwCl [(x9, .inr (10, [.int th, .int (nI ch), .int era, .int why, .int det, .int cau, .int (zI sv), .int (zI rj), .ref v9, .ref b9, .ref s9, .ref k9, .ref p9, .ref t9, .ref n9, .int (nI tn), .int (nI he), .int (nI en), .int (nI ln), .int (zI iw), .int (zI dg)])), (v9, .inl (cy 0, 188, .inl v))] H := hP
  have hD : va_D A [(x9, .inr (10, [.int th, .int (nI ch), .int era, .int why, .int det, .int cau, .int (zI sv), .int (zI rj), .ref v9, .ref b9, .ref s9, .ref k9, .ref p9, .ref t9, .ref n9, .int (nI tn), .int (nI he), .int (nI en), .int (nI ln), .int (zI iw), .int (zI dg)])), (v9, .inl (cy 0, 188, .inl v))] := hD
  refine lv_if_eq (tgt := 12) hx hb dX6_isInWork_5 (by decide) (fun c_1 => ?_) (fun c_1 => ?_)
  · replace c_1 := zI0 c_1
    exact absurd ((zic23 ha).symm.trans c_1) (by decide)
  · replace c_1 := zI1 c_1
    refine lv_iconst (v := 0) hx hb dX6_isInWork_8 (by decide) ?_
    refine lv_goto (tgt := 13) hx hb dX6_isInWork_9 (by decide) ?_
    refine va_put (D := D) (ci := 10) (v := .int 0) (ty := .int) (C := RX6) (T := TX6) (N := 21) hx hb hts in_RX6 tyX6 tyX6_ok nmX6 hown hK hP hD hS 0 rfl rfl 0 (by decide) (hts _ (List.mem_of_getElem? (i := 1) rfl)) (fun _ h9 => h9) rfl (by decide +kernel) rfl rfl (Nat.le_of_ble_eq_true rfl) dX6_isInWork_13 (fun H locs hP hD hS => ?_)
    have hP : va_P D vwCl [(x9, .inr (10, [.int 0, .int (nI ch), .int era, .int why, .int det, .int cau, .int (zI sv), .int (zI rj), .ref v9, .ref b9, .ref s9, .ref k9, .ref p9, .ref t9, .ref n9, .int (nI tn), .int (nI he), .int (nI en), .int (nI ln), .int (zI iw), .int (zI dg)])), (v9, .inl (cy 0, 188, .inl v))] H := hP
    have hD : va_D A [(x9, .inr (10, [.int 0, .int (nI ch), .int era, .int why, .int det, .int cau, .int (zI sv), .int (zI rj), .ref v9, .ref b9, .ref s9, .ref k9, .ref p9, .ref t9, .ref n9, .int (nI tn), .int (nI he), .int (nI en), .int (nI ln), .int (zI iw), .int (zI dg)])), (v9, .inl (cy 0, 188, .inl v))] := hD
    refine lv_aload_n hx hb dX6_isInWork_16 rfl (lv_at hl 0 rfl) ?_
    refine va_get (D := D) (ci := 10) (v := .int 0) (C := RX6) (T := TX6) (N := 21) hx hb hts in_RX6 hown hK hP 0 rfl rfl 0 (by decide) (hts _ (List.mem_of_getElem? (i := 1) rfl)) (fun _ h9 => h9) rfl dX6_isInWork_17 ?_
    refine lv_if_ne (tgt := 35) hx hb dX6_isInWork_20 (by decide) (fun c_2 => ?_) (fun c_2 => ?_)
    · exact absurd c_2 (by decide)
    · refine lv_aload_n hx hb dX6_isInWork_23 rfl (lv_at hl 0 rfl) ?_
      refine lv_iload_n hx hb dX6_isInWork_24 rfl (lv_at hl 1 rfl) ?_
      refine zcV (As := [.int (nI a)]) (rest := []) [0, 1] 0 hg.1 ⟨hx, hb, hml, hown, hts⟩ (c_X6_isOn hg l D cy x9 0 ch era why det cau sv rj v9 b9 s9 k9 p9 t9 n9 tn he en ln iw dg v (nI a)) (cwV 1 hts gX6_isInWork_X6_isOn rfl rfl rfl (by decide +kernel) ⟨Nat.le_of_ble_eq_true rfl, Nat.le_of_ble_eq_true rfl⟩) hG hK hP hD hS hA rfl rfl rfl rfl rfl rfl hl.1 rfl (Nat.le_of_ble_eq_true rfl) dX6_isInWork_25 ⟨Nat.zero_le _, Nat.zero_le _⟩ (fun H locs hP hD hS => ?_)
      have hP : va_P D vwCl [(x9, .inr (10, [.int 0, .int (nI ch), .int era, .int why, .int det, .int cau, .int (zI sv), .int (zI rj), .ref v9, .ref b9, .ref s9, .ref k9, .ref p9, .ref t9, .ref n9, .int (nI tn), .int (nI he), .int (nI en), .int (nI ln), .int (zI iw), .int (zI dg)])), (v9, .inl (cy 0, 188, .inl v))] H := hP
      have hD : va_D A [(x9, .inr (10, [.int 0, .int (nI ch), .int era, .int why, .int det, .int cau, .int (zI sv), .int (zI rj), .ref v9, .ref b9, .ref s9, .ref k9, .ref p9, .ref t9, .ref n9, .int (nI tn), .int (nI he), .int (nI en), .int (nI ln), .int (zI iw), .int (zI dg)])), (v9, .inl (cy 0, 188, .inl v))] := hD
      refine lv_if_eq (tgt := 35) hx hb dX6_isInWork_28 (by decide) (fun c_3 => ?_) (fun c_3 => ?_)
      · replace c_3 := zI0 c_3
        refine lv_iconst (v := 0) hx hb dX6_isInWork_35 (by decide) ?_
        exact zzret hend hx hb hr hlk hK hP hD hS dX6_isInWork_36 rfl (by first | (simp [zI, c_1, c_2, c_3]; done) | (simp_all [zI]; done)) rfl
      · replace c_3 := zI1 c_3
        refine lv_iconst (v := 1) hx hb dX6_isInWork_31 (by decide) ?_
        refine lv_goto (tgt := 36) hx hb dX6_isInWork_32 (by decide) ?_
        exact zzret hend hx hb hr hlk hK hP hD hS dX6_isInWork_36 rfl (by first | (simp [zI, c_1, c_2, c_3]; done) | (simp_all [zI]; done)) rfl

abbrev rmX6_isInWork_bad : Room := { frames := 2, cells := 0, slots := 0, locals := 42 }
set_option maxHeartbeats 4000000 in
set_option maxRecDepth 100000 in
theorem c_X6_isInWork_bad {G : zG} (hg : zGN G) (l : Launch) (D : va_G) (cy : Nat → ClassId) (x9 : Nat) (th : Int32) (ch : Nat) (era : Int32) (why : Int32) (det : Int32) (cau : Int32) (sv : Bool) (rj : Bool) (v9 : Nat) (b9 : Nat) (s9 : Nat) (k9 : Nat) (p9 : Nat) (t9 : Nat) (n9 : Nat) (tn : Nat) (he : Nat) (en : Nat) (ln : Nat) (iw : Bool) (dg : Bool) (nq : Int32) (hq : zic 0 23 nq = false) : zM G D vwCl (zT cy) l yX6_isInWork wsX6_isInWork rmX6_isInWork_bad [.ref x9, .int nq] [(x9, .inr (10, [.int th, .int (nI ch), .int era, .int why, .int det, .int cau, .int (zI sv), .int (zI rj), .ref v9, .ref b9, .ref s9, .ref k9, .ref p9, .ref t9, .ref n9, .int (nI tn), .int (nI he), .int (nI en), .int (nI ln), .int (zI iw), .int (zI dg)]))] (some (.int 0)) [(x9, .inr (10, [.int 1, .int (nI ch), .int era, .int why, .int det, .int cau, .int (zI sv), .int (zI rj), .ref v9, .ref b9, .ref s9, .ref k9, .ref p9, .ref t9, .ref n9, .int (nI tn), .int (nI he), .int (nI en), .int (nI ln), .int (zI iw), .int (zI dg)]))] := by
  refine zM_of (cc := cX6_isInWork) (maxL := 2) (ret := (some .boolean)) (by decide) rfl (Nat.le_of_ble_eq_true rfl) ?_
  intro p e s m below meth c A Q hend hx hb hml hr hts hown hlk hG hK hP hD hA hS ls hl
  have hown : s.vm.findClass RX6 = some m.cls := hown
  have in_RX6 : ∀ w ∈ u_ws RX6 TX6 21, w ∈ wsX6_isInWork := by decide +kernel
  have hl : lv_has ls 2 [(0, .ref x9), (1, .int nq)] := hl
  refine lv_aload_n hx hb dX6_isInWork_0 rfl (lv_at hl 0 rfl) ?_
  refine lv_iload_n hx hb dX6_isInWork_1 rfl (lv_at hl 1 rfl) ?_
  refine zcS (As := [.int nq]) (rest := [.ref x9]) [] hg.1 ⟨hx, hb, hml, hown, hts⟩ (c_X6_isNeedle hg l D cy nq) (va_cwS 1 hts gX6_isInWork_X6_isNeedle rfl rfl rfl (by decide +kernel) ⟨Nat.le_of_ble_eq_true rfl, Nat.le_of_ble_eq_true rfl⟩) hG hK hP hD hS hA rfl rfl rfl  rfl hl.1 rfl (Nat.le_of_ble_eq_true rfl) dX6_isInWork_2 ⟨Nat.zero_le _, Nat.zero_le _⟩ (fun H locs hP hD hS => ?_)
  have hP : va_P D vwCl [(x9, .inr (10, [.int th, .int (nI ch), .int era, .int why, .int det, .int cau, .int (zI sv), .int (zI rj), .ref v9, .ref b9, .ref s9, .ref k9, .ref p9, .ref t9, .ref n9, .int (nI tn), .int (nI he), .int (nI en), .int (nI ln), .int (zI iw), .int (zI dg)]))] H := hP
  have hD : va_D A [(x9, .inr (10, [.int th, .int (nI ch), .int era, .int why, .int det, .int cau, .int (zI sv), .int (zI rj), .ref v9, .ref b9, .ref s9, .ref k9, .ref p9, .ref t9, .ref n9, .int (nI tn), .int (nI he), .int (nI en), .int (nI ln), .int (zI iw), .int (zI dg)]))] := hD
  refine lv_if_eq (tgt := 12) hx hb dX6_isInWork_5 (by decide) (fun c_1 => ?_) (fun c_1 => ?_)
  · replace c_1 := zI0 c_1
    refine lv_iconst (v := 1) hx hb dX6_isInWork_12 (by decide) ?_
    refine va_put (D := D) (ci := 10) (v := .int 1) (ty := .int) (C := RX6) (T := TX6) (N := 21) hx hb hts in_RX6 tyX6 tyX6_ok nmX6 hown hK hP hD hS 0 rfl rfl 0 (by decide) (hts _ (List.mem_of_getElem? (i := 1) rfl)) (fun _ h9 => h9) rfl (by decide +kernel) rfl rfl (Nat.le_of_ble_eq_true rfl) dX6_isInWork_13 (fun H locs hP hD hS => ?_)
    have hP : va_P D vwCl [(x9, .inr (10, [.int 1, .int (nI ch), .int era, .int why, .int det, .int cau, .int (zI sv), .int (zI rj), .ref v9, .ref b9, .ref s9, .ref k9, .ref p9, .ref t9, .ref n9, .int (nI tn), .int (nI he), .int (nI en), .int (nI ln), .int (zI iw), .int (zI dg)]))] H := hP
    have hD : va_D A [(x9, .inr (10, [.int 1, .int (nI ch), .int era, .int why, .int det, .int cau, .int (zI sv), .int (zI rj), .ref v9, .ref b9, .ref s9, .ref k9, .ref p9, .ref t9, .ref n9, .int (nI tn), .int (nI he), .int (nI en), .int (nI ln), .int (zI iw), .int (zI dg)]))] := hD
    refine lv_aload_n hx hb dX6_isInWork_16 rfl (lv_at hl 0 rfl) ?_
    refine va_get (D := D) (ci := 10) (v := .int 1) (C := RX6) (T := TX6) (N := 21) hx hb hts in_RX6 hown hK hP 0 rfl rfl 0 (by decide) (hts _ (List.mem_of_getElem? (i := 1) rfl)) (fun _ h9 => h9) rfl dX6_isInWork_17 ?_
    refine lv_if_ne (tgt := 35) hx hb dX6_isInWork_20 (by decide) (fun c_2 => ?_) (fun c_2 => ?_)
    · refine lv_iconst (v := 0) hx hb dX6_isInWork_35 (by decide) ?_
      exact zzret hend hx hb hr hlk hK hP hD hS dX6_isInWork_36 rfl rfl rfl
    · exact absurd c_2 (by decide)
  · replace c_1 := zI1 c_1
    exact absurd (hq.symm.trans c_1) (by decide)

abbrev rmX6_isOnHold_ok : Room := { frames := 2, cells := 0, slots := 0, locals := 42 }
set_option maxHeartbeats 4000000 in
set_option maxRecDepth 100000 in
theorem c_X6_isOnHold_ok {G : zG} (hg : zGN G) (l : Launch) (D : va_G) (cy : Nat → ClassId) (x9 : Nat) (th : Int32) (ch : Nat) (era : Int32) (why : Int32) (det : Int32) (cau : Int32) (sv : Bool) (rj : Bool) (v9 : Nat) (b9 : Nat) (s9 : Nat) (k9 : Nat) (p9 : Nat) (t9 : Nat) (n9 : Nat) (tn : Nat) (he : Nat) (en : Nat) (ln : Nat) (iw : Bool) (dg : Bool) (v : Nat → Int32) (a : Nat) (ha : a < 24) : zM G D vwCl (zT cy) l yX6_isOnHold wsX6_isOnHold rmX6_isOnHold_ok [.ref x9, .int (nI a)] [(x9, .inr (10, [.int th, .int (nI ch), .int era, .int why, .int det, .int cau, .int (zI sv), .int (zI rj), .ref v9, .ref b9, .ref s9, .ref k9, .ref p9, .ref t9, .ref n9, .int (nI tn), .int (nI he), .int (nI en), .int (nI ln), .int (zI iw), .int (zI dg)])), (v9, .inl (cy 0, 188, .inl v))] (some (.int (zI (zb (v 1) (nI a))))) [(x9, .inr (10, [.int 0, .int (nI ch), .int era, .int why, .int det, .int cau, .int (zI sv), .int (zI rj), .ref v9, .ref b9, .ref s9, .ref k9, .ref p9, .ref t9, .ref n9, .int (nI tn), .int (nI he), .int (nI en), .int (nI ln), .int (zI iw), .int (zI dg)])), (v9, .inl (cy 0, 188, .inl v))] := by
  refine zM_of (cc := cX6_isOnHold) (maxL := 2) (ret := (some .boolean)) (by decide) rfl (Nat.le_of_ble_eq_true rfl) ?_
  intro p e s m below meth c A Q hend hx hb hml hr hts hown hlk hG hK hP hD hA hS ls hl
  have hown : s.vm.findClass RX6 = some m.cls := hown
  have in_RX6 : ∀ w ∈ u_ws RX6 TX6 21, w ∈ wsX6_isOnHold := by decide +kernel
  have hl : lv_has ls 2 [(0, .ref x9), (1, .int (nI a))] := hl
  refine lv_aload_n hx hb dX6_isOnHold_0 rfl (lv_at hl 0 rfl) ?_
  refine lv_iload_n hx hb dX6_isOnHold_1 rfl (lv_at hl 1 rfl) ?_
  refine zcS (As := [.int (nI a)]) (rest := [.ref x9]) [] hg.1 ⟨hx, hb, hml, hown, hts⟩ (c_X6_isNeedle hg l D cy (nI a)) (va_cwS 1 hts gX6_isOnHold_X6_isNeedle rfl rfl rfl (by decide +kernel) ⟨Nat.le_of_ble_eq_true rfl, Nat.le_of_ble_eq_true rfl⟩) hG hK hP hD hS hA rfl rfl rfl  rfl hl.1 rfl (Nat.le_of_ble_eq_true rfl) dX6_isOnHold_2 ⟨Nat.zero_le _, Nat.zero_le _⟩ (fun H locs hP hD hS => ?_)
  have hP : va_P D vwCl [(x9, .inr (10, [.int th, .int (nI ch), .int era, .int why, .int det, .int cau, .int (zI sv), .int (zI rj), .ref v9, .ref b9, .ref s9, .ref k9, .ref p9, .ref t9, .ref n9, .int (nI tn), .int (nI he), .int (nI en), .int (nI ln), .int (zI iw), .int (zI dg)])), (v9, .inl (cy 0, 188, .inl v))] H := hP
  have hD : va_D A [(x9, .inr (10, [.int th, .int (nI ch), .int era, .int why, .int det, .int cau, .int (zI sv), .int (zI rj), .ref v9, .ref b9, .ref s9, .ref k9, .ref p9, .ref t9, .ref n9, .int (nI tn), .int (nI he), .int (nI en), .int (nI ln), .int (zI iw), .int (zI dg)])), (v9, .inl (cy 0, 188, .inl v))] := hD
  refine lv_if_eq (tgt := 12) hx hb dX6_isOnHold_5 (by decide) (fun c_1 => ?_) (fun c_1 => ?_)
  · replace c_1 := zI0 c_1
    exact absurd ((zic23 ha).symm.trans c_1) (by decide)
  · replace c_1 := zI1 c_1
    refine lv_iconst (v := 0) hx hb dX6_isOnHold_8 (by decide) ?_
    refine lv_goto (tgt := 13) hx hb dX6_isOnHold_9 (by decide) ?_
    refine va_put (D := D) (ci := 10) (v := .int 0) (ty := .int) (C := RX6) (T := TX6) (N := 21) hx hb hts in_RX6 tyX6 tyX6_ok nmX6 hown hK hP hD hS 0 rfl rfl 0 (by decide) (hts _ (List.mem_of_getElem? (i := 1) rfl)) (fun _ h9 => h9) rfl (by decide +kernel) rfl rfl (Nat.le_of_ble_eq_true rfl) dX6_isOnHold_13 (fun H locs hP hD hS => ?_)
    have hP : va_P D vwCl [(x9, .inr (10, [.int 0, .int (nI ch), .int era, .int why, .int det, .int cau, .int (zI sv), .int (zI rj), .ref v9, .ref b9, .ref s9, .ref k9, .ref p9, .ref t9, .ref n9, .int (nI tn), .int (nI he), .int (nI en), .int (nI ln), .int (zI iw), .int (zI dg)])), (v9, .inl (cy 0, 188, .inl v))] H := hP
    have hD : va_D A [(x9, .inr (10, [.int 0, .int (nI ch), .int era, .int why, .int det, .int cau, .int (zI sv), .int (zI rj), .ref v9, .ref b9, .ref s9, .ref k9, .ref p9, .ref t9, .ref n9, .int (nI tn), .int (nI he), .int (nI en), .int (nI ln), .int (zI iw), .int (zI dg)])), (v9, .inl (cy 0, 188, .inl v))] := hD
    refine lv_aload_n hx hb dX6_isOnHold_16 rfl (lv_at hl 0 rfl) ?_
    refine va_get (D := D) (ci := 10) (v := .int 0) (C := RX6) (T := TX6) (N := 21) hx hb hts in_RX6 hown hK hP 0 rfl rfl 0 (by decide) (hts _ (List.mem_of_getElem? (i := 1) rfl)) (fun _ h9 => h9) rfl dX6_isOnHold_17 ?_
    refine lv_if_ne (tgt := 35) hx hb dX6_isOnHold_20 (by decide) (fun c_2 => ?_) (fun c_2 => ?_)
    · exact absurd c_2 (by decide)
    · refine lv_aload_n hx hb dX6_isOnHold_23 rfl (lv_at hl 0 rfl) ?_
      refine lv_iload_n hx hb dX6_isOnHold_24 rfl (lv_at hl 1 rfl) ?_
      refine zcV (As := [.int (nI a)]) (rest := []) [0, 1] 0 hg.1 ⟨hx, hb, hml, hown, hts⟩ (c_X6_isHeld hg l D cy x9 0 ch era why det cau sv rj v9 b9 s9 k9 p9 t9 n9 tn he en ln iw dg v (nI a)) (cwV 1 hts gX6_isOnHold_X6_isHeld rfl rfl rfl (by decide +kernel) ⟨Nat.le_of_ble_eq_true rfl, Nat.le_of_ble_eq_true rfl⟩) hG hK hP hD hS hA rfl rfl rfl rfl rfl rfl hl.1 rfl (Nat.le_of_ble_eq_true rfl) dX6_isOnHold_25 ⟨Nat.zero_le _, Nat.zero_le _⟩ (fun H locs hP hD hS => ?_)
      have hP : va_P D vwCl [(x9, .inr (10, [.int 0, .int (nI ch), .int era, .int why, .int det, .int cau, .int (zI sv), .int (zI rj), .ref v9, .ref b9, .ref s9, .ref k9, .ref p9, .ref t9, .ref n9, .int (nI tn), .int (nI he), .int (nI en), .int (nI ln), .int (zI iw), .int (zI dg)])), (v9, .inl (cy 0, 188, .inl v))] H := hP
      have hD : va_D A [(x9, .inr (10, [.int 0, .int (nI ch), .int era, .int why, .int det, .int cau, .int (zI sv), .int (zI rj), .ref v9, .ref b9, .ref s9, .ref k9, .ref p9, .ref t9, .ref n9, .int (nI tn), .int (nI he), .int (nI en), .int (nI ln), .int (zI iw), .int (zI dg)])), (v9, .inl (cy 0, 188, .inl v))] := hD
      refine lv_if_eq (tgt := 35) hx hb dX6_isOnHold_28 (by decide) (fun c_3 => ?_) (fun c_3 => ?_)
      · replace c_3 := zI0 c_3
        refine lv_iconst (v := 0) hx hb dX6_isOnHold_35 (by decide) ?_
        exact zzret hend hx hb hr hlk hK hP hD hS dX6_isOnHold_36 rfl (by first | (simp [zI, c_1, c_2, c_3]; done) | (simp_all [zI]; done)) rfl
      · replace c_3 := zI1 c_3
        refine lv_iconst (v := 1) hx hb dX6_isOnHold_31 (by decide) ?_
        refine lv_goto (tgt := 36) hx hb dX6_isOnHold_32 (by decide) ?_
        exact zzret hend hx hb hr hlk hK hP hD hS dX6_isOnHold_36 rfl (by first | (simp [zI, c_1, c_2, c_3]; done) | (simp_all [zI]; done)) rfl

abbrev rmX6_isOnHold_bad : Room := { frames := 2, cells := 0, slots := 0, locals := 42 }
set_option maxHeartbeats 4000000 in
set_option maxRecDepth 100000 in
theorem c_X6_isOnHold_bad {G : zG} (hg : zGN G) (l : Launch) (D : va_G) (cy : Nat → ClassId) (x9 : Nat) (th : Int32) (ch : Nat) (era : Int32) (why : Int32) (det : Int32) (cau : Int32) (sv : Bool) (rj : Bool) (v9 : Nat) (b9 : Nat) (s9 : Nat) (k9 : Nat) (p9 : Nat) (t9 : Nat) (n9 : Nat) (tn : Nat) (he : Nat) (en : Nat) (ln : Nat) (iw : Bool) (dg : Bool) (nq : Int32) (hq : zic 0 23 nq = false) : zM G D vwCl (zT cy) l yX6_isOnHold wsX6_isOnHold rmX6_isOnHold_bad [.ref x9, .int nq] [(x9, .inr (10, [.int th, .int (nI ch), .int era, .int why, .int det, .int cau, .int (zI sv), .int (zI rj), .ref v9, .ref b9, .ref s9, .ref k9, .ref p9, .ref t9, .ref n9, .int (nI tn), .int (nI he), .int (nI en), .int (nI ln), .int (zI iw), .int (zI dg)]))] (some (.int 0)) [(x9, .inr (10, [.int 1, .int (nI ch), .int era, .int why, .int det, .int cau, .int (zI sv), .int (zI rj), .ref v9, .ref b9, .ref s9, .ref k9, .ref p9, .ref t9, .ref n9, .int (nI tn), .int (nI he), .int (nI en), .int (nI ln), .int (zI iw), .int (zI dg)]))] := by
  refine zM_of (cc := cX6_isOnHold) (maxL := 2) (ret := (some .boolean)) (by decide) rfl (Nat.le_of_ble_eq_true rfl) ?_
  intro p e s m below meth c A Q hend hx hb hml hr hts hown hlk hG hK hP hD hA hS ls hl
  have hown : s.vm.findClass RX6 = some m.cls := hown
  have in_RX6 : ∀ w ∈ u_ws RX6 TX6 21, w ∈ wsX6_isOnHold := by decide +kernel
  have hl : lv_has ls 2 [(0, .ref x9), (1, .int nq)] := hl
  refine lv_aload_n hx hb dX6_isOnHold_0 rfl (lv_at hl 0 rfl) ?_
  refine lv_iload_n hx hb dX6_isOnHold_1 rfl (lv_at hl 1 rfl) ?_
  refine zcS (As := [.int nq]) (rest := [.ref x9]) [] hg.1 ⟨hx, hb, hml, hown, hts⟩ (c_X6_isNeedle hg l D cy nq) (va_cwS 1 hts gX6_isOnHold_X6_isNeedle rfl rfl rfl (by decide +kernel) ⟨Nat.le_of_ble_eq_true rfl, Nat.le_of_ble_eq_true rfl⟩) hG hK hP hD hS hA rfl rfl rfl  rfl hl.1 rfl (Nat.le_of_ble_eq_true rfl) dX6_isOnHold_2 ⟨Nat.zero_le _, Nat.zero_le _⟩ (fun H locs hP hD hS => ?_)
  have hP : va_P D vwCl [(x9, .inr (10, [.int th, .int (nI ch), .int era, .int why, .int det, .int cau, .int (zI sv), .int (zI rj), .ref v9, .ref b9, .ref s9, .ref k9, .ref p9, .ref t9, .ref n9, .int (nI tn), .int (nI he), .int (nI en), .int (nI ln), .int (zI iw), .int (zI dg)]))] H := hP
  have hD : va_D A [(x9, .inr (10, [.int th, .int (nI ch), .int era, .int why, .int det, .int cau, .int (zI sv), .int (zI rj), .ref v9, .ref b9, .ref s9, .ref k9, .ref p9, .ref t9, .ref n9, .int (nI tn), .int (nI he), .int (nI en), .int (nI ln), .int (zI iw), .int (zI dg)]))] := hD
  refine lv_if_eq (tgt := 12) hx hb dX6_isOnHold_5 (by decide) (fun c_1 => ?_) (fun c_1 => ?_)
  · replace c_1 := zI0 c_1
    refine lv_iconst (v := 1) hx hb dX6_isOnHold_12 (by decide) ?_
    refine va_put (D := D) (ci := 10) (v := .int 1) (ty := .int) (C := RX6) (T := TX6) (N := 21) hx hb hts in_RX6 tyX6 tyX6_ok nmX6 hown hK hP hD hS 0 rfl rfl 0 (by decide) (hts _ (List.mem_of_getElem? (i := 1) rfl)) (fun _ h9 => h9) rfl (by decide +kernel) rfl rfl (Nat.le_of_ble_eq_true rfl) dX6_isOnHold_13 (fun H locs hP hD hS => ?_)
    have hP : va_P D vwCl [(x9, .inr (10, [.int 1, .int (nI ch), .int era, .int why, .int det, .int cau, .int (zI sv), .int (zI rj), .ref v9, .ref b9, .ref s9, .ref k9, .ref p9, .ref t9, .ref n9, .int (nI tn), .int (nI he), .int (nI en), .int (nI ln), .int (zI iw), .int (zI dg)]))] H := hP
    have hD : va_D A [(x9, .inr (10, [.int 1, .int (nI ch), .int era, .int why, .int det, .int cau, .int (zI sv), .int (zI rj), .ref v9, .ref b9, .ref s9, .ref k9, .ref p9, .ref t9, .ref n9, .int (nI tn), .int (nI he), .int (nI en), .int (nI ln), .int (zI iw), .int (zI dg)]))] := hD
    refine lv_aload_n hx hb dX6_isOnHold_16 rfl (lv_at hl 0 rfl) ?_
    refine va_get (D := D) (ci := 10) (v := .int 1) (C := RX6) (T := TX6) (N := 21) hx hb hts in_RX6 hown hK hP 0 rfl rfl 0 (by decide) (hts _ (List.mem_of_getElem? (i := 1) rfl)) (fun _ h9 => h9) rfl dX6_isOnHold_17 ?_
    refine lv_if_ne (tgt := 35) hx hb dX6_isOnHold_20 (by decide) (fun c_2 => ?_) (fun c_2 => ?_)
    · refine lv_iconst (v := 0) hx hb dX6_isOnHold_35 (by decide) ?_
      exact zzret hend hx hb hr hlk hK hP hD hS dX6_isOnHold_36 rfl rfl rfl
    · exact absurd c_2 (by decide)
  · replace c_1 := zI1 c_1
    exact absurd (hq.symm.trans c_1) (by decide)

abbrev rmX6_loopsOn_ok : Room := { frames := 2, cells := 0, slots := 0, locals := 42 }
set_option maxHeartbeats 4000000 in
set_option maxRecDepth 100000 in
theorem c_X6_loopsOn_ok {G : zG} (hg : zGN G) (l : Launch) (D : va_G) (cy : Nat → ClassId) (x9 : Nat) (th : Int32) (ch : Nat) (era : Int32) (why : Int32) (det : Int32) (cau : Int32) (sv : Bool) (rj : Bool) (v9 : Nat) (b9 : Nat) (s9 : Nat) (k9 : Nat) (p9 : Nat) (t9 : Nat) (n9 : Nat) (tn : Nat) (he : Nat) (en : Nat) (ln : Nat) (iw : Bool) (dg : Bool) (v : Nat → Int32) (a : Nat) (ha : a < 24) : zM G D vwCl (zT cy) l yX6_loopsOn wsX6_loopsOn rmX6_loopsOn_ok [.ref x9, .int (nI a)] [(x9, .inr (10, [.int th, .int (nI ch), .int era, .int why, .int det, .int cau, .int (zI sv), .int (zI rj), .ref v9, .ref b9, .ref s9, .ref k9, .ref p9, .ref t9, .ref n9, .int (nI tn), .int (nI he), .int (nI en), .int (nI ln), .int (zI iw), .int (zI dg)])), (v9, .inl (cy 0, 188, .inl v))] (some (.int (v (10 + a)))) [(x9, .inr (10, [.int 0, .int (nI ch), .int era, .int why, .int det, .int cau, .int (zI sv), .int (zI rj), .ref v9, .ref b9, .ref s9, .ref k9, .ref p9, .ref t9, .ref n9, .int (nI tn), .int (nI he), .int (nI en), .int (nI ln), .int (zI iw), .int (zI dg)])), (v9, .inl (cy 0, 188, .inl v))] := by
  refine zM_of (cc := cX6_loopsOn) (maxL := 2) (ret := (some .int)) (by decide) rfl (Nat.le_of_ble_eq_true rfl) ?_
  intro p e s m below meth c A Q hend hx hb hml hr hts hown hlk hG hK hP hD hA hS ls hl
  have hown : s.vm.findClass RX6 = some m.cls := hown
  have in_RX6 : ∀ w ∈ u_ws RX6 TX6 21, w ∈ wsX6_loopsOn := by decide +kernel
  have hl : lv_has ls 2 [(0, .ref x9), (1, .int (nI a))] := hl
  refine lv_aload_n hx hb dX6_loopsOn_0 rfl (lv_at hl 0 rfl) ?_
  refine lv_iload_n hx hb dX6_loopsOn_1 rfl (lv_at hl 1 rfl) ?_
  refine zcS (As := [.int (nI a)]) (rest := [.ref x9]) [] hg.1 ⟨hx, hb, hml, hown, hts⟩ (c_X6_isNeedle hg l D cy (nI a)) (va_cwS 1 hts gX6_loopsOn_X6_isNeedle rfl rfl rfl (by decide +kernel) ⟨Nat.le_of_ble_eq_true rfl, Nat.le_of_ble_eq_true rfl⟩) hG hK hP hD hS hA rfl rfl rfl  rfl hl.1 rfl (Nat.le_of_ble_eq_true rfl) dX6_loopsOn_2 ⟨Nat.zero_le _, Nat.zero_le _⟩ (fun H locs hP hD hS => ?_)
  have hP : va_P D vwCl [(x9, .inr (10, [.int th, .int (nI ch), .int era, .int why, .int det, .int cau, .int (zI sv), .int (zI rj), .ref v9, .ref b9, .ref s9, .ref k9, .ref p9, .ref t9, .ref n9, .int (nI tn), .int (nI he), .int (nI en), .int (nI ln), .int (zI iw), .int (zI dg)])), (v9, .inl (cy 0, 188, .inl v))] H := hP
  have hD : va_D A [(x9, .inr (10, [.int th, .int (nI ch), .int era, .int why, .int det, .int cau, .int (zI sv), .int (zI rj), .ref v9, .ref b9, .ref s9, .ref k9, .ref p9, .ref t9, .ref n9, .int (nI tn), .int (nI he), .int (nI en), .int (nI ln), .int (zI iw), .int (zI dg)])), (v9, .inl (cy 0, 188, .inl v))] := hD
  refine lv_if_eq (tgt := 12) hx hb dX6_loopsOn_5 (by decide) (fun c_1 => ?_) (fun c_1 => ?_)
  · replace c_1 := zI0 c_1
    exact absurd ((zic23 ha).symm.trans c_1) (by decide)
  · replace c_1 := zI1 c_1
    refine lv_iconst (v := 0) hx hb dX6_loopsOn_8 (by decide) ?_
    refine lv_goto (tgt := 13) hx hb dX6_loopsOn_9 (by decide) ?_
    refine va_put (D := D) (ci := 10) (v := .int 0) (ty := .int) (C := RX6) (T := TX6) (N := 21) hx hb hts in_RX6 tyX6 tyX6_ok nmX6 hown hK hP hD hS 0 rfl rfl 0 (by decide) (hts _ (List.mem_of_getElem? (i := 1) rfl)) (fun _ h9 => h9) rfl (by decide +kernel) rfl rfl (Nat.le_of_ble_eq_true rfl) dX6_loopsOn_13 (fun H locs hP hD hS => ?_)
    have hP : va_P D vwCl [(x9, .inr (10, [.int 0, .int (nI ch), .int era, .int why, .int det, .int cau, .int (zI sv), .int (zI rj), .ref v9, .ref b9, .ref s9, .ref k9, .ref p9, .ref t9, .ref n9, .int (nI tn), .int (nI he), .int (nI en), .int (nI ln), .int (zI iw), .int (zI dg)])), (v9, .inl (cy 0, 188, .inl v))] H := hP
    have hD : va_D A [(x9, .inr (10, [.int 0, .int (nI ch), .int era, .int why, .int det, .int cau, .int (zI sv), .int (zI rj), .ref v9, .ref b9, .ref s9, .ref k9, .ref p9, .ref t9, .ref n9, .int (nI tn), .int (nI he), .int (nI en), .int (nI ln), .int (zI iw), .int (zI dg)])), (v9, .inl (cy 0, 188, .inl v))] := hD
    refine lv_aload_n hx hb dX6_loopsOn_16 rfl (lv_at hl 0 rfl) ?_
    refine va_get (D := D) (ci := 10) (v := .int 0) (C := RX6) (T := TX6) (N := 21) hx hb hts in_RX6 hown hK hP 0 rfl rfl 0 (by decide) (hts _ (List.mem_of_getElem? (i := 1) rfl)) (fun _ h9 => h9) rfl dX6_loopsOn_17 ?_
    refine lv_if_ne (tgt := 35) hx hb dX6_loopsOn_20 (by decide) (fun c_2 => ?_) (fun c_2 => ?_)
    · exact absurd c_2 (by decide)
    · refine lv_aload_n hx hb dX6_loopsOn_23 rfl (lv_at hl 0 rfl) ?_
      refine va_get (D := D) (ci := 10) (v := .ref v9) (C := RX6) (T := TX6) (N := 21) hx hb hts in_RX6 hown hK hP 0 rfl rfl 8 (by decide) (hts _ (List.mem_of_getElem? (i := 2) rfl)) (fun _ h9 => h9) rfl dX6_loopsOn_24 ?_
      refine lv_bipush (v := 10) hx hb dX6_loopsOn_27 (by decide) ?_
      refine lv_iload_n hx hb dX6_loopsOn_29 rfl (lv_at hl 1 rfl) ?_
      refine lv_iadd hx hb dX6_loopsOn_30 ?_
      refine z_top (y := nI (10 + a)) (nI_add 10 a) ?_
      refine ziald 1 0 (10 + a) hx hb hK hP rfl rfl (by omega) (z_lt rfl) dX6_loopsOn_31 ?_
      refine lv_goto (tgt := 36) hx hb dX6_loopsOn_32 (by decide) ?_
      exact ziret hend hx hb hr hlk hK hP hD hS dX6_loopsOn_36 rfl rfl

abbrev rmX6_loopsOn_bad : Room := { frames := 2, cells := 0, slots := 0, locals := 42 }
set_option maxHeartbeats 4000000 in
set_option maxRecDepth 100000 in
theorem c_X6_loopsOn_bad {G : zG} (hg : zGN G) (l : Launch) (D : va_G) (cy : Nat → ClassId) (x9 : Nat) (th : Int32) (ch : Nat) (era : Int32) (why : Int32) (det : Int32) (cau : Int32) (sv : Bool) (rj : Bool) (v9 : Nat) (b9 : Nat) (s9 : Nat) (k9 : Nat) (p9 : Nat) (t9 : Nat) (n9 : Nat) (tn : Nat) (he : Nat) (en : Nat) (ln : Nat) (iw : Bool) (dg : Bool) (nq : Int32) (hq : zic 0 23 nq = false) : zM G D vwCl (zT cy) l yX6_loopsOn wsX6_loopsOn rmX6_loopsOn_bad [.ref x9, .int nq] [(x9, .inr (10, [.int th, .int (nI ch), .int era, .int why, .int det, .int cau, .int (zI sv), .int (zI rj), .ref v9, .ref b9, .ref s9, .ref k9, .ref p9, .ref t9, .ref n9, .int (nI tn), .int (nI he), .int (nI en), .int (nI ln), .int (zI iw), .int (zI dg)]))] (some (.int 0)) [(x9, .inr (10, [.int 1, .int (nI ch), .int era, .int why, .int det, .int cau, .int (zI sv), .int (zI rj), .ref v9, .ref b9, .ref s9, .ref k9, .ref p9, .ref t9, .ref n9, .int (nI tn), .int (nI he), .int (nI en), .int (nI ln), .int (zI iw), .int (zI dg)]))] := by
  refine zM_of (cc := cX6_loopsOn) (maxL := 2) (ret := (some .int)) (by decide) rfl (Nat.le_of_ble_eq_true rfl) ?_
  intro p e s m below meth c A Q hend hx hb hml hr hts hown hlk hG hK hP hD hA hS ls hl
  have hown : s.vm.findClass RX6 = some m.cls := hown
  have in_RX6 : ∀ w ∈ u_ws RX6 TX6 21, w ∈ wsX6_loopsOn := by decide +kernel
  have hl : lv_has ls 2 [(0, .ref x9), (1, .int nq)] := hl
  refine lv_aload_n hx hb dX6_loopsOn_0 rfl (lv_at hl 0 rfl) ?_
  refine lv_iload_n hx hb dX6_loopsOn_1 rfl (lv_at hl 1 rfl) ?_
  refine zcS (As := [.int nq]) (rest := [.ref x9]) [] hg.1 ⟨hx, hb, hml, hown, hts⟩ (c_X6_isNeedle hg l D cy nq) (va_cwS 1 hts gX6_loopsOn_X6_isNeedle rfl rfl rfl (by decide +kernel) ⟨Nat.le_of_ble_eq_true rfl, Nat.le_of_ble_eq_true rfl⟩) hG hK hP hD hS hA rfl rfl rfl  rfl hl.1 rfl (Nat.le_of_ble_eq_true rfl) dX6_loopsOn_2 ⟨Nat.zero_le _, Nat.zero_le _⟩ (fun H locs hP hD hS => ?_)
  have hP : va_P D vwCl [(x9, .inr (10, [.int th, .int (nI ch), .int era, .int why, .int det, .int cau, .int (zI sv), .int (zI rj), .ref v9, .ref b9, .ref s9, .ref k9, .ref p9, .ref t9, .ref n9, .int (nI tn), .int (nI he), .int (nI en), .int (nI ln), .int (zI iw), .int (zI dg)]))] H := hP
  have hD : va_D A [(x9, .inr (10, [.int th, .int (nI ch), .int era, .int why, .int det, .int cau, .int (zI sv), .int (zI rj), .ref v9, .ref b9, .ref s9, .ref k9, .ref p9, .ref t9, .ref n9, .int (nI tn), .int (nI he), .int (nI en), .int (nI ln), .int (zI iw), .int (zI dg)]))] := hD
  refine lv_if_eq (tgt := 12) hx hb dX6_loopsOn_5 (by decide) (fun c_1 => ?_) (fun c_1 => ?_)
  · replace c_1 := zI0 c_1
    refine lv_iconst (v := 1) hx hb dX6_loopsOn_12 (by decide) ?_
    refine va_put (D := D) (ci := 10) (v := .int 1) (ty := .int) (C := RX6) (T := TX6) (N := 21) hx hb hts in_RX6 tyX6 tyX6_ok nmX6 hown hK hP hD hS 0 rfl rfl 0 (by decide) (hts _ (List.mem_of_getElem? (i := 1) rfl)) (fun _ h9 => h9) rfl (by decide +kernel) rfl rfl (Nat.le_of_ble_eq_true rfl) dX6_loopsOn_13 (fun H locs hP hD hS => ?_)
    have hP : va_P D vwCl [(x9, .inr (10, [.int 1, .int (nI ch), .int era, .int why, .int det, .int cau, .int (zI sv), .int (zI rj), .ref v9, .ref b9, .ref s9, .ref k9, .ref p9, .ref t9, .ref n9, .int (nI tn), .int (nI he), .int (nI en), .int (nI ln), .int (zI iw), .int (zI dg)]))] H := hP
    have hD : va_D A [(x9, .inr (10, [.int 1, .int (nI ch), .int era, .int why, .int det, .int cau, .int (zI sv), .int (zI rj), .ref v9, .ref b9, .ref s9, .ref k9, .ref p9, .ref t9, .ref n9, .int (nI tn), .int (nI he), .int (nI en), .int (nI ln), .int (zI iw), .int (zI dg)]))] := hD
    refine lv_aload_n hx hb dX6_loopsOn_16 rfl (lv_at hl 0 rfl) ?_
    refine va_get (D := D) (ci := 10) (v := .int 1) (C := RX6) (T := TX6) (N := 21) hx hb hts in_RX6 hown hK hP 0 rfl rfl 0 (by decide) (hts _ (List.mem_of_getElem? (i := 1) rfl)) (fun _ h9 => h9) rfl dX6_loopsOn_17 ?_
    refine lv_if_ne (tgt := 35) hx hb dX6_loopsOn_20 (by decide) (fun c_2 => ?_) (fun c_2 => ?_)
    · refine lv_iconst (v := 0) hx hb dX6_loopsOn_35 (by decide) ?_
      exact ziret hend hx hb hr hlk hK hP hD hS dX6_loopsOn_36 rfl rfl
    · exact absurd c_2 (by decide)
  · replace c_1 := zI1 c_1
    exact absurd (hq.symm.trans c_1) (by decide)

abbrev rmX6_yarnIn_ok : Room := { frames := 2, cells := 0, slots := 0, locals := 42 }
set_option maxHeartbeats 4000000 in
set_option maxRecDepth 100000 in
theorem c_X6_yarnIn_ok {G : zG} (hg : zGN G) (l : Launch) (D : va_G) (cy : Nat → ClassId) (x9 : Nat) (th : Int32) (ch : Nat) (era : Int32) (why : Int32) (det : Int32) (cau : Int32) (sv : Bool) (rj : Bool) (v9 : Nat) (b9 : Nat) (s9 : Nat) (k9 : Nat) (p9 : Nat) (t9 : Nat) (n9 : Nat) (tn : Nat) (he : Nat) (en : Nat) (ln : Nat) (iw : Bool) (dg : Bool) (v : Nat → Int32) (a : Nat) (ha : a < 4) : zM G D vwCl (zT cy) l yX6_yarnIn wsX6_yarnIn rmX6_yarnIn_ok [.ref x9, .int (nI a)] [(x9, .inr (10, [.int th, .int (nI ch), .int era, .int why, .int det, .int cau, .int (zI sv), .int (zI rj), .ref v9, .ref b9, .ref s9, .ref k9, .ref p9, .ref t9, .ref n9, .int (nI tn), .int (nI he), .int (nI en), .int (nI ln), .int (zI iw), .int (zI dg)])), (v9, .inl (cy 0, 188, .inl v))] (some (.int (v (58 + a)))) [(x9, .inr (10, [.int 0, .int (nI ch), .int era, .int why, .int det, .int cau, .int (zI sv), .int (zI rj), .ref v9, .ref b9, .ref s9, .ref k9, .ref p9, .ref t9, .ref n9, .int (nI tn), .int (nI he), .int (nI en), .int (nI ln), .int (zI iw), .int (zI dg)])), (v9, .inl (cy 0, 188, .inl v))] := by
  refine zM_of (cc := cX6_yarnIn) (maxL := 2) (ret := (some .int)) (by decide) rfl (Nat.le_of_ble_eq_true rfl) ?_
  intro p e s m below meth c A Q hend hx hb hml hr hts hown hlk hG hK hP hD hA hS ls hl
  have hown : s.vm.findClass RX6 = some m.cls := hown
  have in_RX6 : ∀ w ∈ u_ws RX6 TX6 21, w ∈ wsX6_yarnIn := by decide +kernel
  have hl : lv_has ls 2 [(0, .ref x9), (1, .int (nI a))] := hl
  refine lv_aload_n hx hb dX6_yarnIn_0 rfl (lv_at hl 0 rfl) ?_
  refine lv_iload_n hx hb dX6_yarnIn_1 rfl (lv_at hl 1 rfl) ?_
  refine zcS (As := [.int (nI a)]) (rest := [.ref x9]) [] hg.1 ⟨hx, hb, hml, hown, hts⟩ (c_X6_isFeeder hg l D cy (nI a)) (va_cwS 1 hts gX6_yarnIn_X6_isFeeder rfl rfl rfl (by decide +kernel) ⟨Nat.le_of_ble_eq_true rfl, Nat.le_of_ble_eq_true rfl⟩) hG hK hP hD hS hA rfl rfl rfl  rfl hl.1 rfl (Nat.le_of_ble_eq_true rfl) dX6_yarnIn_2 ⟨Nat.zero_le _, Nat.zero_le _⟩ (fun H locs hP hD hS => ?_)
  have hP : va_P D vwCl [(x9, .inr (10, [.int th, .int (nI ch), .int era, .int why, .int det, .int cau, .int (zI sv), .int (zI rj), .ref v9, .ref b9, .ref s9, .ref k9, .ref p9, .ref t9, .ref n9, .int (nI tn), .int (nI he), .int (nI en), .int (nI ln), .int (zI iw), .int (zI dg)])), (v9, .inl (cy 0, 188, .inl v))] H := hP
  have hD : va_D A [(x9, .inr (10, [.int th, .int (nI ch), .int era, .int why, .int det, .int cau, .int (zI sv), .int (zI rj), .ref v9, .ref b9, .ref s9, .ref k9, .ref p9, .ref t9, .ref n9, .int (nI tn), .int (nI he), .int (nI en), .int (nI ln), .int (zI iw), .int (zI dg)])), (v9, .inl (cy 0, 188, .inl v))] := hD
  refine lv_if_eq (tgt := 12) hx hb dX6_yarnIn_5 (by decide) (fun c_1 => ?_) (fun c_1 => ?_)
  · replace c_1 := zI0 c_1
    exact absurd ((zic3 ha).symm.trans c_1) (by decide)
  · replace c_1 := zI1 c_1
    refine lv_iconst (v := 0) hx hb dX6_yarnIn_8 (by decide) ?_
    refine lv_goto (tgt := 13) hx hb dX6_yarnIn_9 (by decide) ?_
    refine va_put (D := D) (ci := 10) (v := .int 0) (ty := .int) (C := RX6) (T := TX6) (N := 21) hx hb hts in_RX6 tyX6 tyX6_ok nmX6 hown hK hP hD hS 0 rfl rfl 0 (by decide) (hts _ (List.mem_of_getElem? (i := 1) rfl)) (fun _ h9 => h9) rfl (by decide +kernel) rfl rfl (Nat.le_of_ble_eq_true rfl) dX6_yarnIn_13 (fun H locs hP hD hS => ?_)
    have hP : va_P D vwCl [(x9, .inr (10, [.int 0, .int (nI ch), .int era, .int why, .int det, .int cau, .int (zI sv), .int (zI rj), .ref v9, .ref b9, .ref s9, .ref k9, .ref p9, .ref t9, .ref n9, .int (nI tn), .int (nI he), .int (nI en), .int (nI ln), .int (zI iw), .int (zI dg)])), (v9, .inl (cy 0, 188, .inl v))] H := hP
    have hD : va_D A [(x9, .inr (10, [.int 0, .int (nI ch), .int era, .int why, .int det, .int cau, .int (zI sv), .int (zI rj), .ref v9, .ref b9, .ref s9, .ref k9, .ref p9, .ref t9, .ref n9, .int (nI tn), .int (nI he), .int (nI en), .int (nI ln), .int (zI iw), .int (zI dg)])), (v9, .inl (cy 0, 188, .inl v))] := hD
    refine lv_aload_n hx hb dX6_yarnIn_16 rfl (lv_at hl 0 rfl) ?_
    refine va_get (D := D) (ci := 10) (v := .int 0) (C := RX6) (T := TX6) (N := 21) hx hb hts in_RX6 hown hK hP 0 rfl rfl 0 (by decide) (hts _ (List.mem_of_getElem? (i := 1) rfl)) (fun _ h9 => h9) rfl dX6_yarnIn_17 ?_
    refine lv_if_ne (tgt := 35) hx hb dX6_yarnIn_20 (by decide) (fun c_2 => ?_) (fun c_2 => ?_)
    · exact absurd c_2 (by decide)
    · refine lv_aload_n hx hb dX6_yarnIn_23 rfl (lv_at hl 0 rfl) ?_
      refine va_get (D := D) (ci := 10) (v := .ref v9) (C := RX6) (T := TX6) (N := 21) hx hb hts in_RX6 hown hK hP 0 rfl rfl 8 (by decide) (hts _ (List.mem_of_getElem? (i := 2) rfl)) (fun _ h9 => h9) rfl dX6_yarnIn_24 ?_
      refine lv_bipush (v := 58) hx hb dX6_yarnIn_27 (by decide) ?_
      refine lv_iload_n hx hb dX6_yarnIn_29 rfl (lv_at hl 1 rfl) ?_
      refine lv_iadd hx hb dX6_yarnIn_30 ?_
      refine z_top (y := nI (58 + a)) (nI_add 58 a) ?_
      refine ziald 1 0 (58 + a) hx hb hK hP rfl rfl (by omega) (z_lt rfl) dX6_yarnIn_31 ?_
      refine lv_goto (tgt := 36) hx hb dX6_yarnIn_32 (by decide) ?_
      exact ziret hend hx hb hr hlk hK hP hD hS dX6_yarnIn_36 rfl rfl

abbrev rmX6_yarnIn_bad : Room := { frames := 2, cells := 0, slots := 0, locals := 42 }
set_option maxHeartbeats 4000000 in
set_option maxRecDepth 100000 in
theorem c_X6_yarnIn_bad {G : zG} (hg : zGN G) (l : Launch) (D : va_G) (cy : Nat → ClassId) (x9 : Nat) (th : Int32) (ch : Nat) (era : Int32) (why : Int32) (det : Int32) (cau : Int32) (sv : Bool) (rj : Bool) (v9 : Nat) (b9 : Nat) (s9 : Nat) (k9 : Nat) (p9 : Nat) (t9 : Nat) (n9 : Nat) (tn : Nat) (he : Nat) (en : Nat) (ln : Nat) (iw : Bool) (dg : Bool) (nq : Int32) (hq : zic 0 3 nq = false) : zM G D vwCl (zT cy) l yX6_yarnIn wsX6_yarnIn rmX6_yarnIn_bad [.ref x9, .int nq] [(x9, .inr (10, [.int th, .int (nI ch), .int era, .int why, .int det, .int cau, .int (zI sv), .int (zI rj), .ref v9, .ref b9, .ref s9, .ref k9, .ref p9, .ref t9, .ref n9, .int (nI tn), .int (nI he), .int (nI en), .int (nI ln), .int (zI iw), .int (zI dg)]))] (some (.int 0)) [(x9, .inr (10, [.int 1, .int (nI ch), .int era, .int why, .int det, .int cau, .int (zI sv), .int (zI rj), .ref v9, .ref b9, .ref s9, .ref k9, .ref p9, .ref t9, .ref n9, .int (nI tn), .int (nI he), .int (nI en), .int (nI ln), .int (zI iw), .int (zI dg)]))] := by
  refine zM_of (cc := cX6_yarnIn) (maxL := 2) (ret := (some .int)) (by decide) rfl (Nat.le_of_ble_eq_true rfl) ?_
  intro p e s m below meth c A Q hend hx hb hml hr hts hown hlk hG hK hP hD hA hS ls hl
  have hown : s.vm.findClass RX6 = some m.cls := hown
  have in_RX6 : ∀ w ∈ u_ws RX6 TX6 21, w ∈ wsX6_yarnIn := by decide +kernel
  have hl : lv_has ls 2 [(0, .ref x9), (1, .int nq)] := hl
  refine lv_aload_n hx hb dX6_yarnIn_0 rfl (lv_at hl 0 rfl) ?_
  refine lv_iload_n hx hb dX6_yarnIn_1 rfl (lv_at hl 1 rfl) ?_
  refine zcS (As := [.int nq]) (rest := [.ref x9]) [] hg.1 ⟨hx, hb, hml, hown, hts⟩ (c_X6_isFeeder hg l D cy nq) (va_cwS 1 hts gX6_yarnIn_X6_isFeeder rfl rfl rfl (by decide +kernel) ⟨Nat.le_of_ble_eq_true rfl, Nat.le_of_ble_eq_true rfl⟩) hG hK hP hD hS hA rfl rfl rfl  rfl hl.1 rfl (Nat.le_of_ble_eq_true rfl) dX6_yarnIn_2 ⟨Nat.zero_le _, Nat.zero_le _⟩ (fun H locs hP hD hS => ?_)
  have hP : va_P D vwCl [(x9, .inr (10, [.int th, .int (nI ch), .int era, .int why, .int det, .int cau, .int (zI sv), .int (zI rj), .ref v9, .ref b9, .ref s9, .ref k9, .ref p9, .ref t9, .ref n9, .int (nI tn), .int (nI he), .int (nI en), .int (nI ln), .int (zI iw), .int (zI dg)]))] H := hP
  have hD : va_D A [(x9, .inr (10, [.int th, .int (nI ch), .int era, .int why, .int det, .int cau, .int (zI sv), .int (zI rj), .ref v9, .ref b9, .ref s9, .ref k9, .ref p9, .ref t9, .ref n9, .int (nI tn), .int (nI he), .int (nI en), .int (nI ln), .int (zI iw), .int (zI dg)]))] := hD
  refine lv_if_eq (tgt := 12) hx hb dX6_yarnIn_5 (by decide) (fun c_1 => ?_) (fun c_1 => ?_)
  · replace c_1 := zI0 c_1
    refine lv_iconst (v := 1) hx hb dX6_yarnIn_12 (by decide) ?_
    refine va_put (D := D) (ci := 10) (v := .int 1) (ty := .int) (C := RX6) (T := TX6) (N := 21) hx hb hts in_RX6 tyX6 tyX6_ok nmX6 hown hK hP hD hS 0 rfl rfl 0 (by decide) (hts _ (List.mem_of_getElem? (i := 1) rfl)) (fun _ h9 => h9) rfl (by decide +kernel) rfl rfl (Nat.le_of_ble_eq_true rfl) dX6_yarnIn_13 (fun H locs hP hD hS => ?_)
    have hP : va_P D vwCl [(x9, .inr (10, [.int 1, .int (nI ch), .int era, .int why, .int det, .int cau, .int (zI sv), .int (zI rj), .ref v9, .ref b9, .ref s9, .ref k9, .ref p9, .ref t9, .ref n9, .int (nI tn), .int (nI he), .int (nI en), .int (nI ln), .int (zI iw), .int (zI dg)]))] H := hP
    have hD : va_D A [(x9, .inr (10, [.int 1, .int (nI ch), .int era, .int why, .int det, .int cau, .int (zI sv), .int (zI rj), .ref v9, .ref b9, .ref s9, .ref k9, .ref p9, .ref t9, .ref n9, .int (nI tn), .int (nI he), .int (nI en), .int (nI ln), .int (zI iw), .int (zI dg)]))] := hD
    refine lv_aload_n hx hb dX6_yarnIn_16 rfl (lv_at hl 0 rfl) ?_
    refine va_get (D := D) (ci := 10) (v := .int 1) (C := RX6) (T := TX6) (N := 21) hx hb hts in_RX6 hown hK hP 0 rfl rfl 0 (by decide) (hts _ (List.mem_of_getElem? (i := 1) rfl)) (fun _ h9 => h9) rfl dX6_yarnIn_17 ?_
    refine lv_if_ne (tgt := 35) hx hb dX6_yarnIn_20 (by decide) (fun c_2 => ?_) (fun c_2 => ?_)
    · refine lv_iconst (v := 0) hx hb dX6_yarnIn_35 (by decide) ?_
      exact ziret hend hx hb hr hlk hK hP hD hS dX6_yarnIn_36 rfl rfl
    · exact absurd c_2 (by decide)
  · replace c_1 := zI1 c_1
    exact absurd (hq.symm.trans c_1) (by decide)

abbrev rmX6_ageOn_ok : Room := { frames := 2, cells := 0, slots := 0, locals := 42 }
set_option maxHeartbeats 4000000 in
set_option maxRecDepth 100000 in
theorem c_X6_ageOn_ok {G : zG} (hg : zGN G) (l : Launch) (D : va_G) (cy : Nat → ClassId) (x9 : Nat) (th : Int32) (ch : Nat) (era : Int32) (why : Int32) (det : Int32) (cau : Int32) (sv : Bool) (rj : Bool) (v9 : Nat) (b9 : Nat) (s9 : Nat) (k9 : Nat) (p9 : Nat) (t9 : Nat) (n9 : Nat) (tn : Nat) (he : Nat) (en : Nat) (ln : Nat) (iw : Bool) (dg : Bool) (v : Nat → Int32) (a : Nat) (ha : a < 24) (hl0 : ¬ v (10 + a) = 0) : zM G D vwCl (zT cy) l yX6_ageOn wsX6_ageOn rmX6_ageOn_ok [.ref x9, .int (nI a)] [(x9, .inr (10, [.int th, .int (nI ch), .int era, .int why, .int det, .int cau, .int (zI sv), .int (zI rj), .ref v9, .ref b9, .ref s9, .ref k9, .ref p9, .ref t9, .ref n9, .int (nI tn), .int (nI he), .int (nI en), .int (nI ln), .int (zI iw), .int (zI dg)])), (v9, .inl (cy 0, 188, .inl v))] (some (.int (v (34 + a)))) [(x9, .inr (10, [.int 0, .int (nI ch), .int era, .int why, .int det, .int cau, .int (zI sv), .int (zI rj), .ref v9, .ref b9, .ref s9, .ref k9, .ref p9, .ref t9, .ref n9, .int (nI tn), .int (nI he), .int (nI en), .int (nI ln), .int (zI iw), .int (zI dg)])), (v9, .inl (cy 0, 188, .inl v))] := by
  refine zM_of (cc := cX6_ageOn) (maxL := 2) (ret := (some .int)) (by decide) rfl (Nat.le_of_ble_eq_true rfl) ?_
  intro p e s m below meth c A Q hend hx hb hml hr hts hown hlk hG hK hP hD hA hS ls hl
  have hown : s.vm.findClass RX6 = some m.cls := hown
  have in_RX6 : ∀ w ∈ u_ws RX6 TX6 21, w ∈ wsX6_ageOn := by decide +kernel
  have hl : lv_has ls 2 [(0, .ref x9), (1, .int (nI a))] := hl
  refine lv_aload_n hx hb dX6_ageOn_0 rfl (lv_at hl 0 rfl) ?_
  refine lv_iload_n hx hb dX6_ageOn_1 rfl (lv_at hl 1 rfl) ?_
  refine zcS (As := [.int (nI a)]) (rest := [.ref x9]) [] hg.1 ⟨hx, hb, hml, hown, hts⟩ (c_X6_isNeedle hg l D cy (nI a)) (va_cwS 1 hts gX6_ageOn_X6_isNeedle rfl rfl rfl (by decide +kernel) ⟨Nat.le_of_ble_eq_true rfl, Nat.le_of_ble_eq_true rfl⟩) hG hK hP hD hS hA rfl rfl rfl  rfl hl.1 rfl (Nat.le_of_ble_eq_true rfl) dX6_ageOn_2 ⟨Nat.zero_le _, Nat.zero_le _⟩ (fun H locs hP hD hS => ?_)
  have hP : va_P D vwCl [(x9, .inr (10, [.int th, .int (nI ch), .int era, .int why, .int det, .int cau, .int (zI sv), .int (zI rj), .ref v9, .ref b9, .ref s9, .ref k9, .ref p9, .ref t9, .ref n9, .int (nI tn), .int (nI he), .int (nI en), .int (nI ln), .int (zI iw), .int (zI dg)])), (v9, .inl (cy 0, 188, .inl v))] H := hP
  have hD : va_D A [(x9, .inr (10, [.int th, .int (nI ch), .int era, .int why, .int det, .int cau, .int (zI sv), .int (zI rj), .ref v9, .ref b9, .ref s9, .ref k9, .ref p9, .ref t9, .ref n9, .int (nI tn), .int (nI he), .int (nI en), .int (nI ln), .int (zI iw), .int (zI dg)])), (v9, .inl (cy 0, 188, .inl v))] := hD
  refine lv_if_ne (tgt := 12) hx hb dX6_ageOn_5 (by decide) (fun c_1 => ?_) (fun c_1 => ?_)
  · replace c_1 := zI1 c_1
    refine lv_aload_n hx hb dX6_ageOn_12 rfl (lv_at hl 0 rfl) ?_
    refine va_get (D := D) (ci := 10) (v := .ref v9) (C := RX6) (T := TX6) (N := 21) hx hb hts in_RX6 hown hK hP 0 rfl rfl 8 (by decide) (hts _ (List.mem_of_getElem? (i := 1) rfl)) (fun _ h9 => h9) rfl dX6_ageOn_13 ?_
    refine lv_bipush (v := 10) hx hb dX6_ageOn_16 (by decide) ?_
    refine lv_iload_n hx hb dX6_ageOn_18 rfl (lv_at hl 1 rfl) ?_
    refine lv_iadd hx hb dX6_ageOn_19 ?_
    refine z_top (y := nI (10 + a)) (nI_add 10 a) ?_
    refine ziald 1 0 (10 + a) hx hb hK hP rfl rfl (by omega) (z_lt rfl) dX6_ageOn_20 ?_
    refine lv_if_ne (tgt := 28) hx hb dX6_ageOn_21 (by decide) (fun c_2 => ?_) (fun c_2 => ?_)
    · refine lv_iconst (v := 0) hx hb dX6_ageOn_28 (by decide) ?_
      refine va_put (D := D) (ci := 10) (v := .int 0) (ty := .int) (C := RX6) (T := TX6) (N := 21) hx hb hts in_RX6 tyX6 tyX6_ok nmX6 hown hK hP hD hS 0 rfl rfl 0 (by decide) (hts _ (List.mem_of_getElem? (i := 2) rfl)) (fun _ h9 => h9) rfl (by decide +kernel) rfl rfl (Nat.le_of_ble_eq_true rfl) dX6_ageOn_29 (fun H locs hP hD hS => ?_)
      have hP : va_P D vwCl [(x9, .inr (10, [.int 0, .int (nI ch), .int era, .int why, .int det, .int cau, .int (zI sv), .int (zI rj), .ref v9, .ref b9, .ref s9, .ref k9, .ref p9, .ref t9, .ref n9, .int (nI tn), .int (nI he), .int (nI en), .int (nI ln), .int (zI iw), .int (zI dg)])), (v9, .inl (cy 0, 188, .inl v))] H := hP
      have hD : va_D A [(x9, .inr (10, [.int 0, .int (nI ch), .int era, .int why, .int det, .int cau, .int (zI sv), .int (zI rj), .ref v9, .ref b9, .ref s9, .ref k9, .ref p9, .ref t9, .ref n9, .int (nI tn), .int (nI he), .int (nI en), .int (nI ln), .int (zI iw), .int (zI dg)])), (v9, .inl (cy 0, 188, .inl v))] := hD
      refine lv_aload_n hx hb dX6_ageOn_32 rfl (lv_at hl 0 rfl) ?_
      refine va_get (D := D) (ci := 10) (v := .int 0) (C := RX6) (T := TX6) (N := 21) hx hb hts in_RX6 hown hK hP 0 rfl rfl 0 (by decide) (hts _ (List.mem_of_getElem? (i := 2) rfl)) (fun _ h9 => h9) rfl dX6_ageOn_33 ?_
      refine lv_if_ne (tgt := 51) hx hb dX6_ageOn_36 (by decide) (fun c_3 => ?_) (fun c_3 => ?_)
      · exact absurd c_3 (by decide)
      · refine lv_aload_n hx hb dX6_ageOn_39 rfl (lv_at hl 0 rfl) ?_
        refine va_get (D := D) (ci := 10) (v := .ref v9) (C := RX6) (T := TX6) (N := 21) hx hb hts in_RX6 hown hK hP 0 rfl rfl 8 (by decide) (hts _ (List.mem_of_getElem? (i := 1) rfl)) (fun _ h9 => h9) rfl dX6_ageOn_40 ?_
        refine lv_bipush (v := 34) hx hb dX6_ageOn_43 (by decide) ?_
        refine lv_iload_n hx hb dX6_ageOn_45 rfl (lv_at hl 1 rfl) ?_
        refine lv_iadd hx hb dX6_ageOn_46 ?_
        refine z_top (y := nI (34 + a)) (nI_add 34 a) ?_
        refine ziald 1 0 (34 + a) hx hb hK hP rfl rfl (by omega) (z_lt rfl) dX6_ageOn_47 ?_
        refine lv_goto (tgt := 52) hx hb dX6_ageOn_48 (by decide) ?_
        exact ziret hend hx hb hr hlk hK hP hD hS dX6_ageOn_52 rfl rfl
    · exact absurd c_2 hl0
  · replace c_1 := zI0 c_1
    exact absurd ((zic23 ha).symm.trans c_1) (by decide)

abbrev rmX6_ageOn_bad : Room := { frames := 2, cells := 0, slots := 0, locals := 42 }
set_option maxHeartbeats 4000000 in
set_option maxRecDepth 100000 in
theorem c_X6_ageOn_bad {G : zG} (hg : zGN G) (l : Launch) (D : va_G) (cy : Nat → ClassId) (x9 : Nat) (th : Int32) (ch : Nat) (era : Int32) (why : Int32) (det : Int32) (cau : Int32) (sv : Bool) (rj : Bool) (v9 : Nat) (b9 : Nat) (s9 : Nat) (k9 : Nat) (p9 : Nat) (t9 : Nat) (n9 : Nat) (tn : Nat) (he : Nat) (en : Nat) (ln : Nat) (iw : Bool) (dg : Bool) (nq : Int32) (hq : zic 0 23 nq = false) : zM G D vwCl (zT cy) l yX6_ageOn wsX6_ageOn rmX6_ageOn_bad [.ref x9, .int nq] [(x9, .inr (10, [.int th, .int (nI ch), .int era, .int why, .int det, .int cau, .int (zI sv), .int (zI rj), .ref v9, .ref b9, .ref s9, .ref k9, .ref p9, .ref t9, .ref n9, .int (nI tn), .int (nI he), .int (nI en), .int (nI ln), .int (zI iw), .int (zI dg)]))] (some (.int 0)) [(x9, .inr (10, [.int 1, .int (nI ch), .int era, .int why, .int det, .int cau, .int (zI sv), .int (zI rj), .ref v9, .ref b9, .ref s9, .ref k9, .ref p9, .ref t9, .ref n9, .int (nI tn), .int (nI he), .int (nI en), .int (nI ln), .int (zI iw), .int (zI dg)]))] := by
  refine zM_of (cc := cX6_ageOn) (maxL := 2) (ret := (some .int)) (by decide) rfl (Nat.le_of_ble_eq_true rfl) ?_
  intro p e s m below meth c A Q hend hx hb hml hr hts hown hlk hG hK hP hD hA hS ls hl
  have hown : s.vm.findClass RX6 = some m.cls := hown
  have in_RX6 : ∀ w ∈ u_ws RX6 TX6 21, w ∈ wsX6_ageOn := by decide +kernel
  have hl : lv_has ls 2 [(0, .ref x9), (1, .int nq)] := hl
  refine lv_aload_n hx hb dX6_ageOn_0 rfl (lv_at hl 0 rfl) ?_
  refine lv_iload_n hx hb dX6_ageOn_1 rfl (lv_at hl 1 rfl) ?_
  refine zcS (As := [.int nq]) (rest := [.ref x9]) [] hg.1 ⟨hx, hb, hml, hown, hts⟩ (c_X6_isNeedle hg l D cy nq) (va_cwS 1 hts gX6_ageOn_X6_isNeedle rfl rfl rfl (by decide +kernel) ⟨Nat.le_of_ble_eq_true rfl, Nat.le_of_ble_eq_true rfl⟩) hG hK hP hD hS hA rfl rfl rfl  rfl hl.1 rfl (Nat.le_of_ble_eq_true rfl) dX6_ageOn_2 ⟨Nat.zero_le _, Nat.zero_le _⟩ (fun H locs hP hD hS => ?_)
  have hP : va_P D vwCl [(x9, .inr (10, [.int th, .int (nI ch), .int era, .int why, .int det, .int cau, .int (zI sv), .int (zI rj), .ref v9, .ref b9, .ref s9, .ref k9, .ref p9, .ref t9, .ref n9, .int (nI tn), .int (nI he), .int (nI en), .int (nI ln), .int (zI iw), .int (zI dg)]))] H := hP
  have hD : va_D A [(x9, .inr (10, [.int th, .int (nI ch), .int era, .int why, .int det, .int cau, .int (zI sv), .int (zI rj), .ref v9, .ref b9, .ref s9, .ref k9, .ref p9, .ref t9, .ref n9, .int (nI tn), .int (nI he), .int (nI en), .int (nI ln), .int (zI iw), .int (zI dg)]))] := hD
  refine lv_if_ne (tgt := 12) hx hb dX6_ageOn_5 (by decide) (fun c_1 => ?_) (fun c_1 => ?_)
  · replace c_1 := zI1 c_1
    exact absurd (hq.symm.trans c_1) (by decide)
  · replace c_1 := zI0 c_1
    refine lv_iconst (v := 1) hx hb dX6_ageOn_8 (by decide) ?_
    refine lv_goto (tgt := 29) hx hb dX6_ageOn_9 (by decide) ?_
    refine va_put (D := D) (ci := 10) (v := .int 1) (ty := .int) (C := RX6) (T := TX6) (N := 21) hx hb hts in_RX6 tyX6 tyX6_ok nmX6 hown hK hP hD hS 0 rfl rfl 0 (by decide) (hts _ (List.mem_of_getElem? (i := 2) rfl)) (fun _ h9 => h9) rfl (by decide +kernel) rfl rfl (Nat.le_of_ble_eq_true rfl) dX6_ageOn_29 (fun H locs hP hD hS => ?_)
    have hP : va_P D vwCl [(x9, .inr (10, [.int 1, .int (nI ch), .int era, .int why, .int det, .int cau, .int (zI sv), .int (zI rj), .ref v9, .ref b9, .ref s9, .ref k9, .ref p9, .ref t9, .ref n9, .int (nI tn), .int (nI he), .int (nI en), .int (nI ln), .int (zI iw), .int (zI dg)]))] H := hP
    have hD : va_D A [(x9, .inr (10, [.int 1, .int (nI ch), .int era, .int why, .int det, .int cau, .int (zI sv), .int (zI rj), .ref v9, .ref b9, .ref s9, .ref k9, .ref p9, .ref t9, .ref n9, .int (nI tn), .int (nI he), .int (nI en), .int (nI ln), .int (zI iw), .int (zI dg)]))] := hD
    refine lv_aload_n hx hb dX6_ageOn_32 rfl (lv_at hl 0 rfl) ?_
    refine va_get (D := D) (ci := 10) (v := .int 1) (C := RX6) (T := TX6) (N := 21) hx hb hts in_RX6 hown hK hP 0 rfl rfl 0 (by decide) (hts _ (List.mem_of_getElem? (i := 2) rfl)) (fun _ h9 => h9) rfl dX6_ageOn_33 ?_
    refine lv_if_ne (tgt := 51) hx hb dX6_ageOn_36 (by decide) (fun c_2 => ?_) (fun c_2 => ?_)
    · refine lv_iconst (v := 0) hx hb dX6_ageOn_51 (by decide) ?_
      exact ziret hend hx hb hr hlk hK hP hD hS dX6_ageOn_52 rfl rfl
    · exact absurd c_2 (by decide)

abbrev rmX6_ageOn_bad2 : Room := { frames := 2, cells := 0, slots := 0, locals := 42 }
set_option maxHeartbeats 4000000 in
set_option maxRecDepth 100000 in
theorem c_X6_ageOn_bad2 {G : zG} (hg : zGN G) (l : Launch) (D : va_G) (cy : Nat → ClassId) (x9 : Nat) (th : Int32) (ch : Nat) (era : Int32) (why : Int32) (det : Int32) (cau : Int32) (sv : Bool) (rj : Bool) (v9 : Nat) (b9 : Nat) (s9 : Nat) (k9 : Nat) (p9 : Nat) (t9 : Nat) (n9 : Nat) (tn : Nat) (he : Nat) (en : Nat) (ln : Nat) (iw : Bool) (dg : Bool) (v : Nat → Int32) (a : Nat) (ha : a < 24) (hl0 : v (10 + a) = 0) : zM G D vwCl (zT cy) l yX6_ageOn wsX6_ageOn rmX6_ageOn_bad2 [.ref x9, .int (nI a)] [(x9, .inr (10, [.int th, .int (nI ch), .int era, .int why, .int det, .int cau, .int (zI sv), .int (zI rj), .ref v9, .ref b9, .ref s9, .ref k9, .ref p9, .ref t9, .ref n9, .int (nI tn), .int (nI he), .int (nI en), .int (nI ln), .int (zI iw), .int (zI dg)])), (v9, .inl (cy 0, 188, .inl v))] (some (.int 0)) [(x9, .inr (10, [.int 2, .int (nI ch), .int era, .int why, .int det, .int cau, .int (zI sv), .int (zI rj), .ref v9, .ref b9, .ref s9, .ref k9, .ref p9, .ref t9, .ref n9, .int (nI tn), .int (nI he), .int (nI en), .int (nI ln), .int (zI iw), .int (zI dg)])), (v9, .inl (cy 0, 188, .inl v))] := by
  refine zM_of (cc := cX6_ageOn) (maxL := 2) (ret := (some .int)) (by decide) rfl (Nat.le_of_ble_eq_true rfl) ?_
  intro p e s m below meth c A Q hend hx hb hml hr hts hown hlk hG hK hP hD hA hS ls hl
  have hown : s.vm.findClass RX6 = some m.cls := hown
  have in_RX6 : ∀ w ∈ u_ws RX6 TX6 21, w ∈ wsX6_ageOn := by decide +kernel
  have hl : lv_has ls 2 [(0, .ref x9), (1, .int (nI a))] := hl
  refine lv_aload_n hx hb dX6_ageOn_0 rfl (lv_at hl 0 rfl) ?_
  refine lv_iload_n hx hb dX6_ageOn_1 rfl (lv_at hl 1 rfl) ?_
  refine zcS (As := [.int (nI a)]) (rest := [.ref x9]) [] hg.1 ⟨hx, hb, hml, hown, hts⟩ (c_X6_isNeedle hg l D cy (nI a)) (va_cwS 1 hts gX6_ageOn_X6_isNeedle rfl rfl rfl (by decide +kernel) ⟨Nat.le_of_ble_eq_true rfl, Nat.le_of_ble_eq_true rfl⟩) hG hK hP hD hS hA rfl rfl rfl  rfl hl.1 rfl (Nat.le_of_ble_eq_true rfl) dX6_ageOn_2 ⟨Nat.zero_le _, Nat.zero_le _⟩ (fun H locs hP hD hS => ?_)
  have hP : va_P D vwCl [(x9, .inr (10, [.int th, .int (nI ch), .int era, .int why, .int det, .int cau, .int (zI sv), .int (zI rj), .ref v9, .ref b9, .ref s9, .ref k9, .ref p9, .ref t9, .ref n9, .int (nI tn), .int (nI he), .int (nI en), .int (nI ln), .int (zI iw), .int (zI dg)])), (v9, .inl (cy 0, 188, .inl v))] H := hP
  have hD : va_D A [(x9, .inr (10, [.int th, .int (nI ch), .int era, .int why, .int det, .int cau, .int (zI sv), .int (zI rj), .ref v9, .ref b9, .ref s9, .ref k9, .ref p9, .ref t9, .ref n9, .int (nI tn), .int (nI he), .int (nI en), .int (nI ln), .int (zI iw), .int (zI dg)])), (v9, .inl (cy 0, 188, .inl v))] := hD
  refine lv_if_ne (tgt := 12) hx hb dX6_ageOn_5 (by decide) (fun c_1 => ?_) (fun c_1 => ?_)
  · replace c_1 := zI1 c_1
    refine lv_aload_n hx hb dX6_ageOn_12 rfl (lv_at hl 0 rfl) ?_
    refine va_get (D := D) (ci := 10) (v := .ref v9) (C := RX6) (T := TX6) (N := 21) hx hb hts in_RX6 hown hK hP 0 rfl rfl 8 (by decide) (hts _ (List.mem_of_getElem? (i := 1) rfl)) (fun _ h9 => h9) rfl dX6_ageOn_13 ?_
    refine lv_bipush (v := 10) hx hb dX6_ageOn_16 (by decide) ?_
    refine lv_iload_n hx hb dX6_ageOn_18 rfl (lv_at hl 1 rfl) ?_
    refine lv_iadd hx hb dX6_ageOn_19 ?_
    refine z_top (y := nI (10 + a)) (nI_add 10 a) ?_
    refine ziald 1 0 (10 + a) hx hb hK hP rfl rfl (by omega) (z_lt rfl) dX6_ageOn_20 ?_
    refine lv_if_ne (tgt := 28) hx hb dX6_ageOn_21 (by decide) (fun c_2 => ?_) (fun c_2 => ?_)
    · exact absurd hl0 c_2
    · refine lv_iconst (v := 2) hx hb dX6_ageOn_24 (by decide) ?_
      refine lv_goto (tgt := 29) hx hb dX6_ageOn_25 (by decide) ?_
      refine va_put (D := D) (ci := 10) (v := .int 2) (ty := .int) (C := RX6) (T := TX6) (N := 21) hx hb hts in_RX6 tyX6 tyX6_ok nmX6 hown hK hP hD hS 0 rfl rfl 0 (by decide) (hts _ (List.mem_of_getElem? (i := 2) rfl)) (fun _ h9 => h9) rfl (by decide +kernel) rfl rfl (Nat.le_of_ble_eq_true rfl) dX6_ageOn_29 (fun H locs hP hD hS => ?_)
      have hP : va_P D vwCl [(x9, .inr (10, [.int 2, .int (nI ch), .int era, .int why, .int det, .int cau, .int (zI sv), .int (zI rj), .ref v9, .ref b9, .ref s9, .ref k9, .ref p9, .ref t9, .ref n9, .int (nI tn), .int (nI he), .int (nI en), .int (nI ln), .int (zI iw), .int (zI dg)])), (v9, .inl (cy 0, 188, .inl v))] H := hP
      have hD : va_D A [(x9, .inr (10, [.int 2, .int (nI ch), .int era, .int why, .int det, .int cau, .int (zI sv), .int (zI rj), .ref v9, .ref b9, .ref s9, .ref k9, .ref p9, .ref t9, .ref n9, .int (nI tn), .int (nI he), .int (nI en), .int (nI ln), .int (zI iw), .int (zI dg)])), (v9, .inl (cy 0, 188, .inl v))] := hD
      refine lv_aload_n hx hb dX6_ageOn_32 rfl (lv_at hl 0 rfl) ?_
      refine va_get (D := D) (ci := 10) (v := .int 2) (C := RX6) (T := TX6) (N := 21) hx hb hts in_RX6 hown hK hP 0 rfl rfl 0 (by decide) (hts _ (List.mem_of_getElem? (i := 2) rfl)) (fun _ h9 => h9) rfl dX6_ageOn_33 ?_
      refine lv_if_ne (tgt := 51) hx hb dX6_ageOn_36 (by decide) (fun c_3 => ?_) (fun c_3 => ?_)
      · refine lv_iconst (v := 0) hx hb dX6_ageOn_51 (by decide) ?_
        exact ziret hend hx hb hr hlk hK hP hD hS dX6_ageOn_52 rfl rfl
      · exact absurd c_3 (by decide)
  · replace c_1 := zI0 c_1
    exact absurd ((zic23 ha).symm.trans c_1) (by decide)

abbrev rmX6_isKnit_ok : Room := { frames := 1, cells := 0, slots := 0, locals := 22 }
set_option maxHeartbeats 4000000 in
set_option maxRecDepth 100000 in
theorem c_X6_isKnit_ok {G : zG} (hg : zGN G) (l : Launch) (D : va_G) (cy : Nat → ClassId) (x9 : Nat) (th : Int32) (ch : Nat) (era : Int32) (why : Int32) (det : Int32) (cau : Int32) (sv : Bool) (rj : Bool) (v9 : Nat) (b9 : Nat) (s9 : Nat) (k9 : Nat) (p9 : Nat) (t9 : Nat) (n9 : Nat) (tn : Nat) (he : Nat) (en : Nat) (ln : Nat) (iw : Bool) (dg : Bool) (v : Nat → Int32) (rw : Nat) (r2 : Nat) (k8 : Nat) (hv4 : v 4 = nI rw) (hrw : rw ≤ 6) (hr2 : r2 < rw) (hk8 : k8 < 8) : zM G D vwCl (zT cy) l yX6_isKnit wsX6_isKnit rmX6_isKnit_ok [.ref x9, .int (nI r2), .int (nI k8)] [(x9, .inr (10, [.int th, .int (nI ch), .int era, .int why, .int det, .int cau, .int (zI sv), .int (zI rj), .ref v9, .ref b9, .ref s9, .ref k9, .ref p9, .ref t9, .ref n9, .int (nI tn), .int (nI he), .int (nI en), .int (nI ln), .int (zI iw), .int (zI dg)])), (v9, .inl (cy 0, 188, .inl v))] (some (.int (zI (zb (v (62 + r2)) (nI k8))))) [(x9, .inr (10, [.int 0, .int (nI ch), .int era, .int why, .int det, .int cau, .int (zI sv), .int (zI rj), .ref v9, .ref b9, .ref s9, .ref k9, .ref p9, .ref t9, .ref n9, .int (nI tn), .int (nI he), .int (nI en), .int (nI ln), .int (zI iw), .int (zI dg)])), (v9, .inl (cy 0, 188, .inl v))] := by
  refine zM_of (cc := cX6_isKnit) (maxL := 3) (ret := (some .boolean)) (by decide) rfl (Nat.le_of_ble_eq_true rfl) ?_
  intro p e s m below meth c A Q hend hx hb hml hr hts hown hlk hG hK hP hD hA hS ls hl
  have hown : s.vm.findClass RX6 = some m.cls := hown
  have in_RX6 : ∀ w ∈ u_ws RX6 TX6 21, w ∈ wsX6_isKnit := by decide +kernel
  have hl : lv_has ls 3 [(0, .ref x9), (1, .int (nI r2)), (2, .int (nI k8))] := hl
  refine lv_aload_n hx hb dX6_isKnit_0 rfl (lv_at hl 0 rfl) ?_
  refine lv_iload_n hx hb dX6_isKnit_1 rfl (lv_at hl 1 rfl) ?_
  refine lv_iconst (v := 0) hx hb dX6_isKnit_2 (by decide) ?_
  refine lv_aload_n hx hb dX6_isKnit_3 rfl (lv_at hl 0 rfl) ?_
  refine va_get (D := D) (ci := 10) (v := .ref v9) (C := RX6) (T := TX6) (N := 21) hx hb hts in_RX6 hown hK hP 0 rfl rfl 8 (by decide) (hts _ (List.mem_of_getElem? (i := 1) rfl)) (fun _ h9 => h9) rfl dX6_isKnit_4 ?_
  refine lv_iconst (v := 4) hx hb dX6_isKnit_7 (by decide) ?_
  refine ziald 1 0 4 hx hb hK hP rfl rfl (by omega) (z_lt rfl) dX6_isKnit_8 ?_
  refine z_top (y := nI rw) (hv4) ?_
  refine lv_iconst (v := 1) hx hb dX6_isKnit_9 (by decide) ?_
  refine lv_isub hx hb dX6_isKnit_10 ?_
  refine zcS (As := [.int (nI r2), .int 0, .int ((nI rw) - 1)]) (rest := [.ref x9]) [] hg.1 ⟨hx, hb, hml, hown, hts⟩ (c_X6_isIn hg l D cy (nI r2) 0 ((nI rw) - 1)) (va_cwS 3 hts gX6_isKnit_X6_isIn rfl rfl rfl (by decide +kernel) ⟨Nat.le_of_ble_eq_true rfl, Nat.le_of_ble_eq_true rfl⟩) hG hK hP hD hS hA rfl rfl rfl  rfl hl.1 rfl (Nat.le_of_ble_eq_true rfl) dX6_isKnit_11 ⟨Nat.zero_le _, Nat.zero_le _⟩ (fun H locs hP hD hS => ?_)
  have hP : va_P D vwCl [(x9, .inr (10, [.int th, .int (nI ch), .int era, .int why, .int det, .int cau, .int (zI sv), .int (zI rj), .ref v9, .ref b9, .ref s9, .ref k9, .ref p9, .ref t9, .ref n9, .int (nI tn), .int (nI he), .int (nI en), .int (nI ln), .int (zI iw), .int (zI dg)])), (v9, .inl (cy 0, 188, .inl v))] H := hP
  have hD : va_D A [(x9, .inr (10, [.int th, .int (nI ch), .int era, .int why, .int det, .int cau, .int (zI sv), .int (zI rj), .ref v9, .ref b9, .ref s9, .ref k9, .ref p9, .ref t9, .ref n9, .int (nI tn), .int (nI he), .int (nI en), .int (nI ln), .int (zI iw), .int (zI dg)])), (v9, .inl (cy 0, 188, .inl v))] := hD
  refine lv_if_eq (tgt := 31) hx hb dX6_isKnit_14 (by decide) (fun c_1 => ?_) (fun c_1 => ?_)
  · replace c_1 := zI0 c_1
    exact absurd ((zic_c (by omega) hr2).symm.trans c_1) (by decide)
  · replace c_1 := zI1 c_1
    refine lv_iload_n hx hb dX6_isKnit_17 rfl (lv_at hl 2 rfl) ?_
    refine lv_iconst (v := 0) hx hb dX6_isKnit_18 (by decide) ?_
    refine lv_bipush (v := 7) hx hb dX6_isKnit_19 (by decide) ?_
    refine zcS (As := [.int (nI k8), .int 0, .int 7]) (rest := [.ref x9]) [] hg.1 ⟨hx, hb, hml, hown, hts⟩ (c_X6_isIn hg l D cy (nI k8) 0 7) (va_cwS 3 hts gX6_isKnit_X6_isIn rfl rfl rfl (by decide +kernel) ⟨Nat.le_of_ble_eq_true rfl, Nat.le_of_ble_eq_true rfl⟩) hG hK hP hD hS hA rfl rfl rfl  rfl hl.1 rfl (Nat.le_of_ble_eq_true rfl) dX6_isKnit_21 ⟨Nat.zero_le _, Nat.zero_le _⟩ (fun H locs hP hD hS => ?_)
    have hP : va_P D vwCl [(x9, .inr (10, [.int th, .int (nI ch), .int era, .int why, .int det, .int cau, .int (zI sv), .int (zI rj), .ref v9, .ref b9, .ref s9, .ref k9, .ref p9, .ref t9, .ref n9, .int (nI tn), .int (nI he), .int (nI en), .int (nI ln), .int (zI iw), .int (zI dg)])), (v9, .inl (cy 0, 188, .inl v))] H := hP
    have hD : va_D A [(x9, .inr (10, [.int th, .int (nI ch), .int era, .int why, .int det, .int cau, .int (zI sv), .int (zI rj), .ref v9, .ref b9, .ref s9, .ref k9, .ref p9, .ref t9, .ref n9, .int (nI tn), .int (nI he), .int (nI en), .int (nI ln), .int (zI iw), .int (zI dg)])), (v9, .inl (cy 0, 188, .inl v))] := hD
    refine lv_if_eq (tgt := 31) hx hb dX6_isKnit_24 (by decide) (fun c_2 => ?_) (fun c_2 => ?_)
    · replace c_2 := zI0 c_2
      exact absurd ((zic7 hk8).symm.trans c_2) (by decide)
    · replace c_2 := zI1 c_2
      refine lv_iconst (v := 0) hx hb dX6_isKnit_27 (by decide) ?_
      refine lv_goto (tgt := 32) hx hb dX6_isKnit_28 (by decide) ?_
      refine va_put (D := D) (ci := 10) (v := .int 0) (ty := .int) (C := RX6) (T := TX6) (N := 21) hx hb hts in_RX6 tyX6 tyX6_ok nmX6 hown hK hP hD hS 0 rfl rfl 0 (by decide) (hts _ (List.mem_of_getElem? (i := 2) rfl)) (fun _ h9 => h9) rfl (by decide +kernel) rfl rfl (Nat.le_of_ble_eq_true rfl) dX6_isKnit_32 (fun H locs hP hD hS => ?_)
      have hP : va_P D vwCl [(x9, .inr (10, [.int 0, .int (nI ch), .int era, .int why, .int det, .int cau, .int (zI sv), .int (zI rj), .ref v9, .ref b9, .ref s9, .ref k9, .ref p9, .ref t9, .ref n9, .int (nI tn), .int (nI he), .int (nI en), .int (nI ln), .int (zI iw), .int (zI dg)])), (v9, .inl (cy 0, 188, .inl v))] H := hP
      have hD : va_D A [(x9, .inr (10, [.int 0, .int (nI ch), .int era, .int why, .int det, .int cau, .int (zI sv), .int (zI rj), .ref v9, .ref b9, .ref s9, .ref k9, .ref p9, .ref t9, .ref n9, .int (nI tn), .int (nI he), .int (nI en), .int (nI ln), .int (zI iw), .int (zI dg)])), (v9, .inl (cy 0, 188, .inl v))] := hD
      refine lv_aload_n hx hb dX6_isKnit_35 rfl (lv_at hl 0 rfl) ?_
      refine va_get (D := D) (ci := 10) (v := .int 0) (C := RX6) (T := TX6) (N := 21) hx hb hts in_RX6 hown hK hP 0 rfl rfl 0 (by decide) (hts _ (List.mem_of_getElem? (i := 2) rfl)) (fun _ h9 => h9) rfl dX6_isKnit_36 ?_
      refine lv_if_ne (tgt := 63) hx hb dX6_isKnit_39 (by decide) (fun c_3 => ?_) (fun c_3 => ?_)
      · exact absurd c_3 (by decide)
      · refine lv_aload_n hx hb dX6_isKnit_42 rfl (lv_at hl 0 rfl) ?_
        refine va_get (D := D) (ci := 10) (v := .ref v9) (C := RX6) (T := TX6) (N := 21) hx hb hts in_RX6 hown hK hP 0 rfl rfl 8 (by decide) (hts _ (List.mem_of_getElem? (i := 1) rfl)) (fun _ h9 => h9) rfl dX6_isKnit_43 ?_
        refine lv_bipush (v := 62) hx hb dX6_isKnit_46 (by decide) ?_
        refine lv_iload_n hx hb dX6_isKnit_48 rfl (lv_at hl 1 rfl) ?_
        refine lv_iadd hx hb dX6_isKnit_49 ?_
        refine z_top (y := nI (62 + r2)) (nI_add 62 r2) ?_
        refine ziald 1 0 (62 + r2) hx hb hK hP rfl rfl (by omega) (z_lt rfl) dX6_isKnit_50 ?_
        refine lv_iload_n hx hb dX6_isKnit_51 rfl (lv_at hl 2 rfl) ?_
        refine lv_ishr hx hb dX6_isKnit_52 ?_
        refine lv_iconst (v := 1) hx hb dX6_isKnit_53 (by decide) ?_
        refine lv_iand hx hb dX6_isKnit_54 ?_
        refine lv_iconst (v := 1) hx hb dX6_isKnit_55 (by decide) ?_
        refine lv_icmp_ne (tgt := 63) hx hb dX6_isKnit_56 (by decide) (fun c_4 => ?_) (fun c_4 => ?_)
        · refine lv_iconst (v := 0) hx hb dX6_isKnit_63 (by decide) ?_
          exact zzret hend hx hb hr hlk hK hP hD hS dX6_isKnit_64 rfl (by first | (simp [zI, zb, c_1, c_2, c_3, c_4]; done) | (simp_all [zI, zb]; done)) rfl
        · refine lv_iconst (v := 1) hx hb dX6_isKnit_59 (by decide) ?_
          refine lv_goto (tgt := 64) hx hb dX6_isKnit_60 (by decide) ?_
          exact zzret hend hx hb hr hlk hK hP hD hS dX6_isKnit_64 rfl (by first | (simp [zI, zb, c_1, c_2, c_3, c_4]; done) | (simp_all [zI, zb]; done)) rfl

abbrev rmX6_isKnit_bad : Room := { frames := 1, cells := 0, slots := 0, locals := 22 }
set_option maxHeartbeats 4000000 in
set_option maxRecDepth 100000 in
theorem c_X6_isKnit_bad {G : zG} (hg : zGN G) (l : Launch) (D : va_G) (cy : Nat → ClassId) (x9 : Nat) (th : Int32) (ch : Nat) (era : Int32) (why : Int32) (det : Int32) (cau : Int32) (sv : Bool) (rj : Bool) (v9 : Nat) (b9 : Nat) (s9 : Nat) (k9 : Nat) (p9 : Nat) (t9 : Nat) (n9 : Nat) (tn : Nat) (he : Nat) (en : Nat) (ln : Nat) (iw : Bool) (dg : Bool) (v : Nat → Int32) (rq : Int32) (kq : Int32) (hq : (zic 0 (v 4 - 1) rq && zic 0 7 kq) = false) : zM G D vwCl (zT cy) l yX6_isKnit wsX6_isKnit rmX6_isKnit_bad [.ref x9, .int rq, .int kq] [(x9, .inr (10, [.int th, .int (nI ch), .int era, .int why, .int det, .int cau, .int (zI sv), .int (zI rj), .ref v9, .ref b9, .ref s9, .ref k9, .ref p9, .ref t9, .ref n9, .int (nI tn), .int (nI he), .int (nI en), .int (nI ln), .int (zI iw), .int (zI dg)])), (v9, .inl (cy 0, 188, .inl v))] (some (.int 0)) [(x9, .inr (10, [.int 1, .int (nI ch), .int era, .int why, .int det, .int cau, .int (zI sv), .int (zI rj), .ref v9, .ref b9, .ref s9, .ref k9, .ref p9, .ref t9, .ref n9, .int (nI tn), .int (nI he), .int (nI en), .int (nI ln), .int (zI iw), .int (zI dg)])), (v9, .inl (cy 0, 188, .inl v))] := by
  refine zM_of (cc := cX6_isKnit) (maxL := 3) (ret := (some .boolean)) (by decide) rfl (Nat.le_of_ble_eq_true rfl) ?_
  intro p e s m below meth c A Q hend hx hb hml hr hts hown hlk hG hK hP hD hA hS ls hl
  have hown : s.vm.findClass RX6 = some m.cls := hown
  have in_RX6 : ∀ w ∈ u_ws RX6 TX6 21, w ∈ wsX6_isKnit := by decide +kernel
  have hl : lv_has ls 3 [(0, .ref x9), (1, .int rq), (2, .int kq)] := hl
  refine lv_aload_n hx hb dX6_isKnit_0 rfl (lv_at hl 0 rfl) ?_
  refine lv_iload_n hx hb dX6_isKnit_1 rfl (lv_at hl 1 rfl) ?_
  refine lv_iconst (v := 0) hx hb dX6_isKnit_2 (by decide) ?_
  refine lv_aload_n hx hb dX6_isKnit_3 rfl (lv_at hl 0 rfl) ?_
  refine va_get (D := D) (ci := 10) (v := .ref v9) (C := RX6) (T := TX6) (N := 21) hx hb hts in_RX6 hown hK hP 0 rfl rfl 8 (by decide) (hts _ (List.mem_of_getElem? (i := 1) rfl)) (fun _ h9 => h9) rfl dX6_isKnit_4 ?_
  refine lv_iconst (v := 4) hx hb dX6_isKnit_7 (by decide) ?_
  refine ziald 1 0 4 hx hb hK hP rfl rfl (by omega) (z_lt rfl) dX6_isKnit_8 ?_
  refine lv_iconst (v := 1) hx hb dX6_isKnit_9 (by decide) ?_
  refine lv_isub hx hb dX6_isKnit_10 ?_
  refine zcS (As := [.int rq, .int 0, .int ((v 4) - 1)]) (rest := [.ref x9]) [] hg.1 ⟨hx, hb, hml, hown, hts⟩ (c_X6_isIn hg l D cy rq 0 ((v 4) - 1)) (va_cwS 3 hts gX6_isKnit_X6_isIn rfl rfl rfl (by decide +kernel) ⟨Nat.le_of_ble_eq_true rfl, Nat.le_of_ble_eq_true rfl⟩) hG hK hP hD hS hA rfl rfl rfl  rfl hl.1 rfl (Nat.le_of_ble_eq_true rfl) dX6_isKnit_11 ⟨Nat.zero_le _, Nat.zero_le _⟩ (fun H locs hP hD hS => ?_)
  have hP : va_P D vwCl [(x9, .inr (10, [.int th, .int (nI ch), .int era, .int why, .int det, .int cau, .int (zI sv), .int (zI rj), .ref v9, .ref b9, .ref s9, .ref k9, .ref p9, .ref t9, .ref n9, .int (nI tn), .int (nI he), .int (nI en), .int (nI ln), .int (zI iw), .int (zI dg)])), (v9, .inl (cy 0, 188, .inl v))] H := hP
  have hD : va_D A [(x9, .inr (10, [.int th, .int (nI ch), .int era, .int why, .int det, .int cau, .int (zI sv), .int (zI rj), .ref v9, .ref b9, .ref s9, .ref k9, .ref p9, .ref t9, .ref n9, .int (nI tn), .int (nI he), .int (nI en), .int (nI ln), .int (zI iw), .int (zI dg)])), (v9, .inl (cy 0, 188, .inl v))] := hD
  refine lv_if_eq (tgt := 31) hx hb dX6_isKnit_14 (by decide) (fun c_1 => ?_) (fun c_1 => ?_)
  · replace c_1 := zI0 c_1
    refine lv_iconst (v := 1) hx hb dX6_isKnit_31 (by decide) ?_
    refine va_put (D := D) (ci := 10) (v := .int 1) (ty := .int) (C := RX6) (T := TX6) (N := 21) hx hb hts in_RX6 tyX6 tyX6_ok nmX6 hown hK hP hD hS 0 rfl rfl 0 (by decide) (hts _ (List.mem_of_getElem? (i := 2) rfl)) (fun _ h9 => h9) rfl (by decide +kernel) rfl rfl (Nat.le_of_ble_eq_true rfl) dX6_isKnit_32 (fun H locs hP hD hS => ?_)
    have hP : va_P D vwCl [(x9, .inr (10, [.int 1, .int (nI ch), .int era, .int why, .int det, .int cau, .int (zI sv), .int (zI rj), .ref v9, .ref b9, .ref s9, .ref k9, .ref p9, .ref t9, .ref n9, .int (nI tn), .int (nI he), .int (nI en), .int (nI ln), .int (zI iw), .int (zI dg)])), (v9, .inl (cy 0, 188, .inl v))] H := hP
    have hD : va_D A [(x9, .inr (10, [.int 1, .int (nI ch), .int era, .int why, .int det, .int cau, .int (zI sv), .int (zI rj), .ref v9, .ref b9, .ref s9, .ref k9, .ref p9, .ref t9, .ref n9, .int (nI tn), .int (nI he), .int (nI en), .int (nI ln), .int (zI iw), .int (zI dg)])), (v9, .inl (cy 0, 188, .inl v))] := hD
    refine lv_aload_n hx hb dX6_isKnit_35 rfl (lv_at hl 0 rfl) ?_
    refine va_get (D := D) (ci := 10) (v := .int 1) (C := RX6) (T := TX6) (N := 21) hx hb hts in_RX6 hown hK hP 0 rfl rfl 0 (by decide) (hts _ (List.mem_of_getElem? (i := 2) rfl)) (fun _ h9 => h9) rfl dX6_isKnit_36 ?_
    refine lv_if_ne (tgt := 63) hx hb dX6_isKnit_39 (by decide) (fun c_2 => ?_) (fun c_2 => ?_)
    · refine lv_iconst (v := 0) hx hb dX6_isKnit_63 (by decide) ?_
      exact zzret hend hx hb hr hlk hK hP hD hS dX6_isKnit_64 rfl rfl rfl
    · exact absurd c_2 (by decide)
  · replace c_1 := zI1 c_1
    refine lv_iload_n hx hb dX6_isKnit_17 rfl (lv_at hl 2 rfl) ?_
    refine lv_iconst (v := 0) hx hb dX6_isKnit_18 (by decide) ?_
    refine lv_bipush (v := 7) hx hb dX6_isKnit_19 (by decide) ?_
    refine zcS (As := [.int kq, .int 0, .int 7]) (rest := [.ref x9]) [] hg.1 ⟨hx, hb, hml, hown, hts⟩ (c_X6_isIn hg l D cy kq 0 7) (va_cwS 3 hts gX6_isKnit_X6_isIn rfl rfl rfl (by decide +kernel) ⟨Nat.le_of_ble_eq_true rfl, Nat.le_of_ble_eq_true rfl⟩) hG hK hP hD hS hA rfl rfl rfl  rfl hl.1 rfl (Nat.le_of_ble_eq_true rfl) dX6_isKnit_21 ⟨Nat.zero_le _, Nat.zero_le _⟩ (fun H locs hP hD hS => ?_)
    have hP : va_P D vwCl [(x9, .inr (10, [.int th, .int (nI ch), .int era, .int why, .int det, .int cau, .int (zI sv), .int (zI rj), .ref v9, .ref b9, .ref s9, .ref k9, .ref p9, .ref t9, .ref n9, .int (nI tn), .int (nI he), .int (nI en), .int (nI ln), .int (zI iw), .int (zI dg)])), (v9, .inl (cy 0, 188, .inl v))] H := hP
    have hD : va_D A [(x9, .inr (10, [.int th, .int (nI ch), .int era, .int why, .int det, .int cau, .int (zI sv), .int (zI rj), .ref v9, .ref b9, .ref s9, .ref k9, .ref p9, .ref t9, .ref n9, .int (nI tn), .int (nI he), .int (nI en), .int (nI ln), .int (zI iw), .int (zI dg)])), (v9, .inl (cy 0, 188, .inl v))] := hD
    refine lv_if_eq (tgt := 31) hx hb dX6_isKnit_24 (by decide) (fun c_3 => ?_) (fun c_3 => ?_)
    · replace c_3 := zI0 c_3
      refine lv_iconst (v := 1) hx hb dX6_isKnit_31 (by decide) ?_
      refine va_put (D := D) (ci := 10) (v := .int 1) (ty := .int) (C := RX6) (T := TX6) (N := 21) hx hb hts in_RX6 tyX6 tyX6_ok nmX6 hown hK hP hD hS 0 rfl rfl 0 (by decide) (hts _ (List.mem_of_getElem? (i := 2) rfl)) (fun _ h9 => h9) rfl (by decide +kernel) rfl rfl (Nat.le_of_ble_eq_true rfl) dX6_isKnit_32 (fun H locs hP hD hS => ?_)
      have hP : va_P D vwCl [(x9, .inr (10, [.int 1, .int (nI ch), .int era, .int why, .int det, .int cau, .int (zI sv), .int (zI rj), .ref v9, .ref b9, .ref s9, .ref k9, .ref p9, .ref t9, .ref n9, .int (nI tn), .int (nI he), .int (nI en), .int (nI ln), .int (zI iw), .int (zI dg)])), (v9, .inl (cy 0, 188, .inl v))] H := hP
      have hD : va_D A [(x9, .inr (10, [.int 1, .int (nI ch), .int era, .int why, .int det, .int cau, .int (zI sv), .int (zI rj), .ref v9, .ref b9, .ref s9, .ref k9, .ref p9, .ref t9, .ref n9, .int (nI tn), .int (nI he), .int (nI en), .int (nI ln), .int (zI iw), .int (zI dg)])), (v9, .inl (cy 0, 188, .inl v))] := hD
      refine lv_aload_n hx hb dX6_isKnit_35 rfl (lv_at hl 0 rfl) ?_
      refine va_get (D := D) (ci := 10) (v := .int 1) (C := RX6) (T := TX6) (N := 21) hx hb hts in_RX6 hown hK hP 0 rfl rfl 0 (by decide) (hts _ (List.mem_of_getElem? (i := 2) rfl)) (fun _ h9 => h9) rfl dX6_isKnit_36 ?_
      refine lv_if_ne (tgt := 63) hx hb dX6_isKnit_39 (by decide) (fun c_4 => ?_) (fun c_4 => ?_)
      · refine lv_iconst (v := 0) hx hb dX6_isKnit_63 (by decide) ?_
        exact zzret hend hx hb hr hlk hK hP hD hS dX6_isKnit_64 rfl rfl rfl
      · exact absurd c_4 (by decide)
    · replace c_3 := zI1 c_3
      exact absurd hq (by simp [c_1, c_3])

abbrev rmX6_willKnit_ok : Room := { frames := 2, cells := 0, slots := 0, locals := 44 }
set_option maxHeartbeats 4000000 in
set_option maxRecDepth 100000 in
theorem c_X6_willKnit_ok {G : zG} (hg : zGN G) (l : Launch) (D : va_G) (cy : Nat → ClassId) (x9 : Nat) (th : Int32) (ch : Nat) (era : Int32) (why : Int32) (det : Int32) (cau : Int32) (sv : Bool) (rj : Bool) (v9 : Nat) (b9 : Nat) (s9 : Nat) (k9 : Nat) (p9 : Nat) (t9 : Nat) (n9 : Nat) (tn : Nat) (he : Nat) (en : Nat) (ln : Nat) (iw : Bool) (dg : Bool) (v : Nat → Int32) (a : Nat) (rw : Nat) (cn : Nat) (ha : a < 24) (hv4 : v 4 = nI rw) (hrw : rw ≤ 6) (hv5 : v 5 = nI cn) (hcn : cn ≤ 30) : zM G D vwCl (zT cy) l yX6_willKnit wsX6_willKnit rmX6_willKnit_ok [.ref x9, .int (nI a)] [(x9, .inr (10, [.int th, .int (nI ch), .int era, .int why, .int det, .int cau, .int (zI sv), .int (zI rj), .ref v9, .ref b9, .ref s9, .ref k9, .ref p9, .ref t9, .ref n9, .int (nI tn), .int (nI he), .int (nI en), .int (nI ln), .int (zI iw), .int (zI dg)])), (v9, .inl (cy 0, 188, .inl v))] (some (.int (zI (zkn6 v rw cn a)))) [(x9, .inr (10, [.int 0, .int (nI ch), .int era, .int why, .int det, .int cau, .int (zI sv), .int (zI rj), .ref v9, .ref b9, .ref s9, .ref k9, .ref p9, .ref t9, .ref n9, .int (nI tn), .int (nI he), .int (nI en), .int (nI ln), .int (zI iw), .int (zI dg)])), (v9, .inl (cy 0, 188, .inl v))] := by
  refine zM_of (cc := cX6_willKnit) (maxL := 2) (ret := (some .boolean)) (by decide) rfl (Nat.le_of_ble_eq_true rfl) ?_
  intro p e s m below meth c A Q hend hx hb hml hr hts hown hlk hG hK hP hD hA hS ls hl
  have hown : s.vm.findClass RX6 = some m.cls := hown
  have in_RX6 : ∀ w ∈ u_ws RX6 TX6 21, w ∈ wsX6_willKnit := by decide +kernel
  have hl : lv_has ls 2 [(0, .ref x9), (1, .int (nI a))] := hl
  refine lv_aload_n hx hb dX6_willKnit_0 rfl (lv_at hl 0 rfl) ?_
  refine lv_iload_n hx hb dX6_willKnit_1 rfl (lv_at hl 1 rfl) ?_
  refine zcS (As := [.int (nI a)]) (rest := [.ref x9]) [] hg.1 ⟨hx, hb, hml, hown, hts⟩ (c_X6_isNeedle hg l D cy (nI a)) (va_cwS 1 hts gX6_willKnit_X6_isNeedle rfl rfl rfl (by decide +kernel) ⟨Nat.le_of_ble_eq_true rfl, Nat.le_of_ble_eq_true rfl⟩) hG hK hP hD hS hA rfl rfl rfl  rfl hl.1 rfl (Nat.le_of_ble_eq_true rfl) dX6_willKnit_2 ⟨Nat.zero_le _, Nat.zero_le _⟩ (fun H locs hP hD hS => ?_)
  have hP : va_P D vwCl [(x9, .inr (10, [.int th, .int (nI ch), .int era, .int why, .int det, .int cau, .int (zI sv), .int (zI rj), .ref v9, .ref b9, .ref s9, .ref k9, .ref p9, .ref t9, .ref n9, .int (nI tn), .int (nI he), .int (nI en), .int (nI ln), .int (zI iw), .int (zI dg)])), (v9, .inl (cy 0, 188, .inl v))] H := hP
  have hD : va_D A [(x9, .inr (10, [.int th, .int (nI ch), .int era, .int why, .int det, .int cau, .int (zI sv), .int (zI rj), .ref v9, .ref b9, .ref s9, .ref k9, .ref p9, .ref t9, .ref n9, .int (nI tn), .int (nI he), .int (nI en), .int (nI ln), .int (zI iw), .int (zI dg)])), (v9, .inl (cy 0, 188, .inl v))] := hD
  refine lv_if_eq (tgt := 12) hx hb dX6_willKnit_5 (by decide) (fun c_1 => ?_) (fun c_1 => ?_)
  · replace c_1 := zI0 c_1
    exact absurd ((zic23 ha).symm.trans c_1) (by decide)
  · replace c_1 := zI1 c_1
    refine lv_iconst (v := 0) hx hb dX6_willKnit_8 (by decide) ?_
    refine lv_goto (tgt := 13) hx hb dX6_willKnit_9 (by decide) ?_
    refine va_put (D := D) (ci := 10) (v := .int 0) (ty := .int) (C := RX6) (T := TX6) (N := 21) hx hb hts in_RX6 tyX6 tyX6_ok nmX6 hown hK hP hD hS 0 rfl rfl 0 (by decide) (hts _ (List.mem_of_getElem? (i := 1) rfl)) (fun _ h9 => h9) rfl (by decide +kernel) rfl rfl (Nat.le_of_ble_eq_true rfl) dX6_willKnit_13 (fun H locs hP hD hS => ?_)
    have hP : va_P D vwCl [(x9, .inr (10, [.int 0, .int (nI ch), .int era, .int why, .int det, .int cau, .int (zI sv), .int (zI rj), .ref v9, .ref b9, .ref s9, .ref k9, .ref p9, .ref t9, .ref n9, .int (nI tn), .int (nI he), .int (nI en), .int (nI ln), .int (zI iw), .int (zI dg)])), (v9, .inl (cy 0, 188, .inl v))] H := hP
    have hD : va_D A [(x9, .inr (10, [.int 0, .int (nI ch), .int era, .int why, .int det, .int cau, .int (zI sv), .int (zI rj), .ref v9, .ref b9, .ref s9, .ref k9, .ref p9, .ref t9, .ref n9, .int (nI tn), .int (nI he), .int (nI en), .int (nI ln), .int (zI iw), .int (zI dg)])), (v9, .inl (cy 0, 188, .inl v))] := hD
    refine lv_aload_n hx hb dX6_willKnit_16 rfl (lv_at hl 0 rfl) ?_
    refine va_get (D := D) (ci := 10) (v := .int 0) (C := RX6) (T := TX6) (N := 21) hx hb hts in_RX6 hown hK hP 0 rfl rfl 0 (by decide) (hts _ (List.mem_of_getElem? (i := 1) rfl)) (fun _ h9 => h9) rfl dX6_willKnit_17 ?_
    refine lv_if_ne (tgt := 41) hx hb dX6_willKnit_20 (by decide) (fun c_2 => ?_) (fun c_2 => ?_)
    · exact absurd c_2 (by decide)
    · refine lv_aload_n hx hb dX6_willKnit_23 rfl (lv_at hl 0 rfl) ?_
      refine lv_iload_n hx hb dX6_willKnit_24 rfl (lv_at hl 1 rfl) ?_
      refine lv_aload_n hx hb dX6_willKnit_25 rfl (lv_at hl 0 rfl) ?_
      refine va_get (D := D) (ci := 10) (v := .ref v9) (C := RX6) (T := TX6) (N := 21) hx hb hts in_RX6 hown hK hP 0 rfl rfl 8 (by decide) (hts _ (List.mem_of_getElem? (i := 2) rfl)) (fun _ h9 => h9) rfl dX6_willKnit_26 ?_
      refine lv_iconst (v := 5) hx hb dX6_willKnit_29 (by decide) ?_
      refine ziald 1 0 5 hx hb hK hP rfl rfl (by omega) (z_lt rfl) dX6_willKnit_30 ?_
      refine z_top (y := nI cn) (hv5) ?_
      refine zcV (As := [.int (nI a), .int (nI cn)]) (rest := []) [0, 1] 0 hg.1 ⟨hx, hb, hml, hown, hts⟩ (c_X6_knits hg l D cy x9 0 ch era why det cau sv rj v9 b9 s9 k9 p9 t9 n9 tn he en ln iw dg v a cn rw (by first | assumption | omega) (by first | assumption | omega) (by first | assumption | omega) (by first | assumption | omega)) (cwV 2 hts gX6_willKnit_X6_knits rfl rfl rfl (by decide +kernel) ⟨Nat.le_of_ble_eq_true rfl, Nat.le_of_ble_eq_true rfl⟩) hG hK hP hD hS hA rfl rfl rfl rfl rfl rfl hl.1 rfl (Nat.le_of_ble_eq_true rfl) dX6_willKnit_31 ⟨Nat.zero_le _, Nat.zero_le _⟩ (fun H locs hP hD hS => ?_)
      have hP : va_P D vwCl [(x9, .inr (10, [.int 0, .int (nI ch), .int era, .int why, .int det, .int cau, .int (zI sv), .int (zI rj), .ref v9, .ref b9, .ref s9, .ref k9, .ref p9, .ref t9, .ref n9, .int (nI tn), .int (nI he), .int (nI en), .int (nI ln), .int (zI iw), .int (zI dg)])), (v9, .inl (cy 0, 188, .inl v))] H := hP
      have hD : va_D A [(x9, .inr (10, [.int 0, .int (nI ch), .int era, .int why, .int det, .int cau, .int (zI sv), .int (zI rj), .ref v9, .ref b9, .ref s9, .ref k9, .ref p9, .ref t9, .ref n9, .int (nI tn), .int (nI he), .int (nI en), .int (nI ln), .int (zI iw), .int (zI dg)])), (v9, .inl (cy 0, 188, .inl v))] := hD
      refine lv_if_eq (tgt := 41) hx hb dX6_willKnit_34 (by decide) (fun c_3 => ?_) (fun c_3 => ?_)
      · replace c_3 := zI0 c_3
        refine lv_iconst (v := 0) hx hb dX6_willKnit_41 (by decide) ?_
        exact zzret hend hx hb hr hlk hK hP hD hS dX6_willKnit_42 rfl (by first | (simp [zI, c_1, c_2, c_3]; done) | (simp_all [zI]; done)) rfl
      · replace c_3 := zI1 c_3
        refine lv_iconst (v := 1) hx hb dX6_willKnit_37 (by decide) ?_
        refine lv_goto (tgt := 42) hx hb dX6_willKnit_38 (by decide) ?_
        exact zzret hend hx hb hr hlk hK hP hD hS dX6_willKnit_42 rfl (by first | (simp [zI, c_1, c_2, c_3]; done) | (simp_all [zI]; done)) rfl

abbrev rmX6_willKnit_bad : Room := { frames := 2, cells := 0, slots := 0, locals := 42 }
set_option maxHeartbeats 4000000 in
set_option maxRecDepth 100000 in
theorem c_X6_willKnit_bad {G : zG} (hg : zGN G) (l : Launch) (D : va_G) (cy : Nat → ClassId) (x9 : Nat) (th : Int32) (ch : Nat) (era : Int32) (why : Int32) (det : Int32) (cau : Int32) (sv : Bool) (rj : Bool) (v9 : Nat) (b9 : Nat) (s9 : Nat) (k9 : Nat) (p9 : Nat) (t9 : Nat) (n9 : Nat) (tn : Nat) (he : Nat) (en : Nat) (ln : Nat) (iw : Bool) (dg : Bool) (nq : Int32) (hq : zic 0 23 nq = false) : zM G D vwCl (zT cy) l yX6_willKnit wsX6_willKnit rmX6_willKnit_bad [.ref x9, .int nq] [(x9, .inr (10, [.int th, .int (nI ch), .int era, .int why, .int det, .int cau, .int (zI sv), .int (zI rj), .ref v9, .ref b9, .ref s9, .ref k9, .ref p9, .ref t9, .ref n9, .int (nI tn), .int (nI he), .int (nI en), .int (nI ln), .int (zI iw), .int (zI dg)]))] (some (.int 0)) [(x9, .inr (10, [.int 1, .int (nI ch), .int era, .int why, .int det, .int cau, .int (zI sv), .int (zI rj), .ref v9, .ref b9, .ref s9, .ref k9, .ref p9, .ref t9, .ref n9, .int (nI tn), .int (nI he), .int (nI en), .int (nI ln), .int (zI iw), .int (zI dg)]))] := by
  refine zM_of (cc := cX6_willKnit) (maxL := 2) (ret := (some .boolean)) (by decide) rfl (Nat.le_of_ble_eq_true rfl) ?_
  intro p e s m below meth c A Q hend hx hb hml hr hts hown hlk hG hK hP hD hA hS ls hl
  have hown : s.vm.findClass RX6 = some m.cls := hown
  have in_RX6 : ∀ w ∈ u_ws RX6 TX6 21, w ∈ wsX6_willKnit := by decide +kernel
  have hl : lv_has ls 2 [(0, .ref x9), (1, .int nq)] := hl
  refine lv_aload_n hx hb dX6_willKnit_0 rfl (lv_at hl 0 rfl) ?_
  refine lv_iload_n hx hb dX6_willKnit_1 rfl (lv_at hl 1 rfl) ?_
  refine zcS (As := [.int nq]) (rest := [.ref x9]) [] hg.1 ⟨hx, hb, hml, hown, hts⟩ (c_X6_isNeedle hg l D cy nq) (va_cwS 1 hts gX6_willKnit_X6_isNeedle rfl rfl rfl (by decide +kernel) ⟨Nat.le_of_ble_eq_true rfl, Nat.le_of_ble_eq_true rfl⟩) hG hK hP hD hS hA rfl rfl rfl  rfl hl.1 rfl (Nat.le_of_ble_eq_true rfl) dX6_willKnit_2 ⟨Nat.zero_le _, Nat.zero_le _⟩ (fun H locs hP hD hS => ?_)
  have hP : va_P D vwCl [(x9, .inr (10, [.int th, .int (nI ch), .int era, .int why, .int det, .int cau, .int (zI sv), .int (zI rj), .ref v9, .ref b9, .ref s9, .ref k9, .ref p9, .ref t9, .ref n9, .int (nI tn), .int (nI he), .int (nI en), .int (nI ln), .int (zI iw), .int (zI dg)]))] H := hP
  have hD : va_D A [(x9, .inr (10, [.int th, .int (nI ch), .int era, .int why, .int det, .int cau, .int (zI sv), .int (zI rj), .ref v9, .ref b9, .ref s9, .ref k9, .ref p9, .ref t9, .ref n9, .int (nI tn), .int (nI he), .int (nI en), .int (nI ln), .int (zI iw), .int (zI dg)]))] := hD
  refine lv_if_eq (tgt := 12) hx hb dX6_willKnit_5 (by decide) (fun c_1 => ?_) (fun c_1 => ?_)
  · replace c_1 := zI0 c_1
    refine lv_iconst (v := 1) hx hb dX6_willKnit_12 (by decide) ?_
    refine va_put (D := D) (ci := 10) (v := .int 1) (ty := .int) (C := RX6) (T := TX6) (N := 21) hx hb hts in_RX6 tyX6 tyX6_ok nmX6 hown hK hP hD hS 0 rfl rfl 0 (by decide) (hts _ (List.mem_of_getElem? (i := 1) rfl)) (fun _ h9 => h9) rfl (by decide +kernel) rfl rfl (Nat.le_of_ble_eq_true rfl) dX6_willKnit_13 (fun H locs hP hD hS => ?_)
    have hP : va_P D vwCl [(x9, .inr (10, [.int 1, .int (nI ch), .int era, .int why, .int det, .int cau, .int (zI sv), .int (zI rj), .ref v9, .ref b9, .ref s9, .ref k9, .ref p9, .ref t9, .ref n9, .int (nI tn), .int (nI he), .int (nI en), .int (nI ln), .int (zI iw), .int (zI dg)]))] H := hP
    have hD : va_D A [(x9, .inr (10, [.int 1, .int (nI ch), .int era, .int why, .int det, .int cau, .int (zI sv), .int (zI rj), .ref v9, .ref b9, .ref s9, .ref k9, .ref p9, .ref t9, .ref n9, .int (nI tn), .int (nI he), .int (nI en), .int (nI ln), .int (zI iw), .int (zI dg)]))] := hD
    refine lv_aload_n hx hb dX6_willKnit_16 rfl (lv_at hl 0 rfl) ?_
    refine va_get (D := D) (ci := 10) (v := .int 1) (C := RX6) (T := TX6) (N := 21) hx hb hts in_RX6 hown hK hP 0 rfl rfl 0 (by decide) (hts _ (List.mem_of_getElem? (i := 1) rfl)) (fun _ h9 => h9) rfl dX6_willKnit_17 ?_
    refine lv_if_ne (tgt := 41) hx hb dX6_willKnit_20 (by decide) (fun c_2 => ?_) (fun c_2 => ?_)
    · refine lv_iconst (v := 0) hx hb dX6_willKnit_41 (by decide) ?_
      exact zzret hend hx hb hr hlk hK hP hD hS dX6_willKnit_42 rfl rfl rfl
    · exact absurd c_2 (by decide)
  · replace c_1 := zI1 c_1
    exact absurd (hq.symm.trans c_1) (by decide)

abbrev rmX6_nextWidth : Room := { frames := 3, cells := 0, slots := 0, locals := 67 }
set_option maxHeartbeats 4000000 in
set_option maxRecDepth 100000 in
theorem c_X6_nextWidth {G : zG} (hg : zGN G) (l : Launch) (D : va_G) (cy : Nat → ClassId) (x9 : Nat) (th : Int32) (ch : Nat) (era : Int32) (why : Int32) (det : Int32) (cau : Int32) (sv : Bool) (rj : Bool) (v9 : Nat) (b9 : Nat) (s9 : Nat) (k9 : Nat) (p9 : Nat) (t9 : Nat) (n9 : Nat) (tn : Nat) (he : Nat) (en : Nat) (ln : Nat) (iw : Bool) (dg : Bool) (v : Nat → Int32) (rw : Nat) (cn : Nat) (hv4 : v 4 = nI rw) (hrw : rw ≤ 6) (hv5 : v 5 = nI cn) (hcn : cn ≤ 30) : zM G D vwCl (zT cy) l yX6_nextWidth wsX6_nextWidth rmX6_nextWidth [.ref x9] [(x9, .inr (10, [.int th, .int (nI ch), .int era, .int why, .int det, .int cau, .int (zI sv), .int (zI rj), .ref v9, .ref b9, .ref s9, .ref k9, .ref p9, .ref t9, .ref n9, .int (nI tn), .int (nI he), .int (nI en), .int (nI ln), .int (zI iw), .int (zI dg)])), (v9, .inl (cy 0, 188, .inl v))] (some (.int (zwd6 v rw cn 24))) [(x9, .inr (10, [.int 0, .int (nI ch), .int era, .int why, .int det, .int cau, .int (zI sv), .int (zI rj), .ref v9, .ref b9, .ref s9, .ref k9, .ref p9, .ref t9, .ref n9, .int (nI tn), .int (nI he), .int (nI en), .int (nI ln), .int (zI iw), .int (zI dg)])), (v9, .inl (cy 0, 188, .inl v))] := by
  refine zM_of (cc := cX6_nextWidth) (maxL := 1) (ret := (some .int)) (by decide) rfl (Nat.le_of_ble_eq_true rfl) ?_
  intro p e s m below meth c A Q hend hx hb hml hr hts hown hlk hG hK hP hD hA hS ls hl
  have hown : s.vm.findClass RX6 = some m.cls := hown
  have in_RX6 : ∀ w ∈ u_ws RX6 TX6 21, w ∈ wsX6_nextWidth := by decide +kernel
  have hl : lv_has ls 1 [(0, .ref x9)] := hl
  refine lv_aload_n hx hb dX6_nextWidth_0 rfl (lv_at hl 0 rfl) ?_
  refine lv_iconst (v := 0) hx hb dX6_nextWidth_1 (by decide) ?_
  refine va_put (D := D) (ci := 10) (v := .int 0) (ty := .int) (C := RX6) (T := TX6) (N := 21) hx hb hts in_RX6 tyX6 tyX6_ok nmX6 hown hK hP hD hS 0 rfl rfl 0 (by decide) (hts _ (List.mem_of_getElem? (i := 1) rfl)) (fun _ h9 => h9) rfl (by decide +kernel) rfl rfl (Nat.le_of_ble_eq_true rfl) dX6_nextWidth_2 (fun H locs hP hD hS => ?_)
  have hP : va_P D vwCl [(x9, .inr (10, [.int 0, .int (nI ch), .int era, .int why, .int det, .int cau, .int (zI sv), .int (zI rj), .ref v9, .ref b9, .ref s9, .ref k9, .ref p9, .ref t9, .ref n9, .int (nI tn), .int (nI he), .int (nI en), .int (nI ln), .int (zI iw), .int (zI dg)])), (v9, .inl (cy 0, 188, .inl v))] H := hP
  have hD : va_D A [(x9, .inr (10, [.int 0, .int (nI ch), .int era, .int why, .int det, .int cau, .int (zI sv), .int (zI rj), .ref v9, .ref b9, .ref s9, .ref k9, .ref p9, .ref t9, .ref n9, .int (nI tn), .int (nI he), .int (nI en), .int (nI ln), .int (zI iw), .int (zI dg)])), (v9, .inl (cy 0, 188, .inl v))] := hD
  refine lv_aload_n hx hb dX6_nextWidth_5 rfl (lv_at hl 0 rfl) ?_
  refine lv_aload_n hx hb dX6_nextWidth_6 rfl (lv_at hl 0 rfl) ?_
  refine va_get (D := D) (ci := 10) (v := .ref v9) (C := RX6) (T := TX6) (N := 21) hx hb hts in_RX6 hown hK hP 0 rfl rfl 8 (by decide) (hts _ (List.mem_of_getElem? (i := 2) rfl)) (fun _ h9 => h9) rfl dX6_nextWidth_7 ?_
  refine lv_iconst (v := 5) hx hb dX6_nextWidth_10 (by decide) ?_
  refine ziald 1 0 5 hx hb hK hP rfl rfl (by omega) (z_lt rfl) dX6_nextWidth_11 ?_
  refine z_top (y := nI cn) (hv5) ?_
  refine zcV (As := [.int (nI cn)]) (rest := []) [0, 1] 0 hg.1 ⟨hx, hb, hml, hown, hts⟩ (c_X6_wide hg l D cy x9 0 ch era why det cau sv rj v9 b9 s9 k9 p9 t9 n9 tn he en ln iw dg v cn rw (by first | assumption | omega) (by first | assumption | omega) (by first | assumption | omega)) (cwV 1 hts gX6_nextWidth_X6_wide rfl rfl rfl (by decide +kernel) ⟨Nat.le_of_ble_eq_true rfl, Nat.le_of_ble_eq_true rfl⟩) hG hK hP hD hS hA rfl rfl rfl rfl rfl rfl hl.1 rfl (Nat.le_of_ble_eq_true rfl) dX6_nextWidth_12 ⟨Nat.zero_le _, Nat.zero_le _⟩ (fun H locs hP hD hS => ?_)
  have hP : va_P D vwCl [(x9, .inr (10, [.int 0, .int (nI ch), .int era, .int why, .int det, .int cau, .int (zI sv), .int (zI rj), .ref v9, .ref b9, .ref s9, .ref k9, .ref p9, .ref t9, .ref n9, .int (nI tn), .int (nI he), .int (nI en), .int (nI ln), .int (zI iw), .int (zI dg)])), (v9, .inl (cy 0, 188, .inl v))] H := hP
  have hD : va_D A [(x9, .inr (10, [.int 0, .int (nI ch), .int era, .int why, .int det, .int cau, .int (zI sv), .int (zI rj), .ref v9, .ref b9, .ref s9, .ref k9, .ref p9, .ref t9, .ref n9, .int (nI tn), .int (nI he), .int (nI en), .int (nI ln), .int (zI iw), .int (zI dg)])), (v9, .inl (cy 0, 188, .inl v))] := hD
  exact ziret hend hx hb hr hlk hK hP hD hS dX6_nextWidth_15 rfl rfl

abbrev rmX6_nextWidthByMask : Room := { frames := 4, cells := 0, slots := 0, locals := 87 }
set_option maxHeartbeats 4000000 in
set_option maxRecDepth 100000 in
theorem c_X6_nextWidthByMask {G : zG} (hg : zGN G) (l : Launch) (D : va_G) (cy : Nat → ClassId) (x9 : Nat) (th : Int32) (ch : Nat) (era : Int32) (why : Int32) (det : Int32) (cau : Int32) (sv : Bool) (rj : Bool) (v9 : Nat) (b9 : Nat) (s9 : Nat) (k9 : Nat) (p9 : Nat) (t9 : Nat) (n9 : Nat) (tn : Nat) (he : Nat) (en : Nat) (ln : Nat) (iw : Bool) (dg : Bool) (v : Nat → Int32) (rw : Nat) (cn : Nat) (hv4 : v 4 = nI rw) (hrw : rw ≤ 6) (hv5 : v 5 = nI cn) (hcn : cn ≤ 30) : zM G D vwCl (zT cy) l yX6_nextWidthByMask wsX6_nextWidthByMask rmX6_nextWidthByMask [.ref x9] [(x9, .inr (10, [.int th, .int (nI ch), .int era, .int why, .int det, .int cau, .int (zI sv), .int (zI rj), .ref v9, .ref b9, .ref s9, .ref k9, .ref p9, .ref t9, .ref n9, .int (nI tn), .int (nI he), .int (nI en), .int (nI ln), .int (zI iw), .int (zI dg)])), (v9, .inl (cy 0, 188, .inl v))] (some (.int (zwd6 v rw cn 24))) [(x9, .inr (10, [.int 0, .int (nI ch), .int era, .int why, .int det, .int cau, .int (zI sv), .int (zI rj), .ref v9, .ref b9, .ref s9, .ref k9, .ref p9, .ref t9, .ref n9, .int (nI tn), .int (nI he), .int (nI en), .int (nI ln), .int (zI iw), .int (zI dg)])), (v9, .inl (cy 0, 188, .inl v))] := by
  refine zM_of (cc := cX6_nextWidthByMask) (maxL := 1) (ret := (some .int)) (by decide) rfl (Nat.le_of_ble_eq_true rfl) ?_
  intro p e s m below meth c A Q hend hx hb hml hr hts hown hlk hG hK hP hD hA hS ls hl
  have hown : s.vm.findClass RX6 = some m.cls := hown
  have hl : lv_has ls 1 [(0, .ref x9)] := hl
  refine lv_aload_n hx hb dX6_nextWidthByMask_0 rfl (lv_at hl 0 rfl) ?_
  refine zcV (As := []) (rest := []) [0, 1] 0 hg.1 ⟨hx, hb, hml, hown, hts⟩ (c_X6_nextWidth hg l D cy x9 th ch era why det cau sv rj v9 b9 s9 k9 p9 t9 n9 tn he en ln iw dg v rw cn (by first | assumption | omega) (by first | assumption | omega) (by first | assumption | omega) (by first | assumption | omega)) (cwV 0 hts gX6_nextWidthByMask_X6_nextWidth rfl rfl rfl (by decide +kernel) ⟨Nat.le_of_ble_eq_true rfl, Nat.le_of_ble_eq_true rfl⟩) hG hK hP hD hS hA rfl rfl (Eq.trans (b := [x9, v9]) rfl rfl) rfl rfl rfl hl.1 rfl (Nat.le_of_ble_eq_true rfl) dX6_nextWidthByMask_1 ⟨Nat.zero_le _, Nat.zero_le _⟩ (fun H locs hP hD hS => ?_)
  have hP : va_P D vwCl [(x9, .inr (10, [.int 0, .int (nI ch), .int era, .int why, .int det, .int cau, .int (zI sv), .int (zI rj), .ref v9, .ref b9, .ref s9, .ref k9, .ref p9, .ref t9, .ref n9, .int (nI tn), .int (nI he), .int (nI en), .int (nI ln), .int (zI iw), .int (zI dg)])), (v9, .inl (cy 0, 188, .inl v))] H := hP
  have hD : va_D A [(x9, .inr (10, [.int 0, .int (nI ch), .int era, .int why, .int det, .int cau, .int (zI sv), .int (zI rj), .ref v9, .ref b9, .ref s9, .ref k9, .ref p9, .ref t9, .ref n9, .int (nI tn), .int (nI he), .int (nI en), .int (nI ln), .int (zI iw), .int (zI dg)])), (v9, .inl (cy 0, 188, .inl v))] := hD
  exact ziret hend hx hb hr hlk hK hP hD hS dX6_nextWidthByMask_4 rfl rfl

abbrev rmX6_nextDropped_ok : Room := { frames := 2, cells := 0, slots := 0, locals := 42 }
set_option maxHeartbeats 4000000 in
set_option maxRecDepth 100000 in
theorem c_X6_nextDropped_ok {G : zG} (hg : zGN G) (l : Launch) (D : va_G) (cy : Nat → ClassId) (x9 : Nat) (th : Int32) (ch : Nat) (era : Int32) (why : Int32) (det : Int32) (cau : Int32) (sv : Bool) (rj : Bool) (v9 : Nat) (b9 : Nat) (s9 : Nat) (k9 : Nat) (p9 : Nat) (t9 : Nat) (n9 : Nat) (tn : Nat) (he : Nat) (en : Nat) (ln : Nat) (iw : Bool) (dg : Bool) (v : Nat → Int32) (a : Nat) (ha : a < 24) (hz : ¬ zfi (fun j => zb (v 0) (nI j) && decide (v (10 + j) = 0)) (24 - a) a = -1) : zM G D vwCl (zT cy) l yX6_nextDropped wsX6_nextDropped rmX6_nextDropped_ok [.ref x9, .int (nI a)] [(x9, .inr (10, [.int th, .int (nI ch), .int era, .int why, .int det, .int cau, .int (zI sv), .int (zI rj), .ref v9, .ref b9, .ref s9, .ref k9, .ref p9, .ref t9, .ref n9, .int (nI tn), .int (nI he), .int (nI en), .int (nI ln), .int (zI iw), .int (zI dg)])), (v9, .inl (cy 0, 188, .inl v))] (some (.int (zfi (fun j => zb (v 0) (nI j) && decide (v (10 + j) = 0)) (24 - a) a))) [(x9, .inr (10, [.int 0, .int (nI ch), .int era, .int why, .int det, .int cau, .int (zI sv), .int (zI rj), .ref v9, .ref b9, .ref s9, .ref k9, .ref p9, .ref t9, .ref n9, .int (nI tn), .int (nI he), .int (nI en), .int (nI ln), .int (zI iw), .int (zI dg)])), (v9, .inl (cy 0, 188, .inl v))] := by
  refine zM_of (cc := cX6_nextDropped) (maxL := 3) (ret := (some .int)) (by decide) rfl (Nat.le_of_ble_eq_true rfl) ?_
  intro p e s m below meth c A Q hend hx hb hml hr hts hown hlk hG hK hP hD hA hS ls hl
  have hown : s.vm.findClass RX6 = some m.cls := hown
  have in_RX6 : ∀ w ∈ u_ws RX6 TX6 21, w ∈ wsX6_nextDropped := by decide +kernel
  have hl : lv_has ls 3 [(0, .ref x9), (1, .int (nI a))] := hl
  refine lv_iload_n hx hb dX6_nextDropped_0 rfl (lv_at hl 1 rfl) ?_
  refine zcS (As := [.int (nI a)]) (rest := []) [] hg.1 ⟨hx, hb, hml, hown, hts⟩ (c_X6_isNeedle hg l D cy (nI a)) (va_cwS 1 hts gX6_nextDropped_X6_isNeedle rfl rfl rfl (by decide +kernel) ⟨Nat.le_of_ble_eq_true rfl, Nat.le_of_ble_eq_true rfl⟩) hG hK hP hD hS hA rfl rfl rfl  rfl hl.1 rfl (Nat.le_of_ble_eq_true rfl) dX6_nextDropped_1 ⟨Nat.zero_le _, Nat.zero_le _⟩ (fun H locs hP hD hS => ?_)
  have hP : va_P D vwCl [(x9, .inr (10, [.int th, .int (nI ch), .int era, .int why, .int det, .int cau, .int (zI sv), .int (zI rj), .ref v9, .ref b9, .ref s9, .ref k9, .ref p9, .ref t9, .ref n9, .int (nI tn), .int (nI he), .int (nI en), .int (nI ln), .int (zI iw), .int (zI dg)])), (v9, .inl (cy 0, 188, .inl v))] H := hP
  have hD : va_D A [(x9, .inr (10, [.int th, .int (nI ch), .int era, .int why, .int det, .int cau, .int (zI sv), .int (zI rj), .ref v9, .ref b9, .ref s9, .ref k9, .ref p9, .ref t9, .ref n9, .int (nI tn), .int (nI he), .int (nI en), .int (nI ln), .int (zI iw), .int (zI dg)])), (v9, .inl (cy 0, 188, .inl v))] := hD
  refine lv_if_ne (tgt := 13) hx hb dX6_nextDropped_4 (by decide) (fun c_1 => ?_) (fun c_1 => ?_)
  · replace c_1 := zI1 c_1
    refine lv_aload_n hx hb dX6_nextDropped_13 rfl (lv_at hl 0 rfl) ?_
    refine lv_iconst (v := 0) hx hb dX6_nextDropped_14 (by decide) ?_
    refine va_put (D := D) (ci := 10) (v := .int 0) (ty := .int) (C := RX6) (T := TX6) (N := 21) hx hb hts in_RX6 tyX6 tyX6_ok nmX6 hown hK hP hD hS 0 rfl rfl 0 (by decide) (hts _ (List.mem_of_getElem? (i := 1) rfl)) (fun _ h9 => h9) rfl (by decide +kernel) rfl rfl (Nat.le_of_ble_eq_true rfl) dX6_nextDropped_15 (fun H locs hP hD hS => ?_)
    have hP : va_P D vwCl [(x9, .inr (10, [.int 0, .int (nI ch), .int era, .int why, .int det, .int cau, .int (zI sv), .int (zI rj), .ref v9, .ref b9, .ref s9, .ref k9, .ref p9, .ref t9, .ref n9, .int (nI tn), .int (nI he), .int (nI en), .int (nI ln), .int (zI iw), .int (zI dg)])), (v9, .inl (cy 0, 188, .inl v))] H := hP
    have hD : va_D A [(x9, .inr (10, [.int 0, .int (nI ch), .int era, .int why, .int det, .int cau, .int (zI sv), .int (zI rj), .ref v9, .ref b9, .ref s9, .ref k9, .ref p9, .ref t9, .ref n9, .int (nI tn), .int (nI he), .int (nI en), .int (nI ln), .int (zI iw), .int (zI dg)])), (v9, .inl (cy 0, 188, .inl v))] := hD
    refine lv_iload_n hx hb dX6_nextDropped_18 rfl (lv_at hl 1 rfl) ?_
    refine lv_istore_n (lv' := [(2, .int (nI a)), (0, .ref x9), (1, .int (nI a))]) hx hb dX6_nextDropped_19 rfl hl (by decide) rfl (fun ls hl => ?_)
    have L20 : ∀ (F : Nat) (k : Nat), k ≤ 24 → zfi (fun j => zb (v 0) (nI j) && decide (v (10 + j) = 0)) (24 - a) a = zfi (fun j => zb (v 0) (nI j) && decide (v (10 + j) = 0)) (24 - k) k → 24 - k < F → ∀ (H : Heap) (locs : List Loc), va_P D vwCl [(x9, .inr (10, [.int 0, .int (nI ch), .int era, .int why, .int det, .int cau, .int (zI sv), .int (zI rj), .ref v9, .ref b9, .ref s9, .ref k9, .ref p9, .ref t9, .ref n9, .int (nI tn), .int (nI he), .int (nI en), .int (nI ln), .int (zI iw), .int (zI dg)])), (v9, .inl (cy 0, 188, .inl v))] H → va_D A [(x9, .inr (10, [.int 0, .int (nI ch), .int era, .int why, .int det, .int cau, .int (zI sv), .int (zI rj), .ref v9, .ref b9, .ref s9, .ref k9, .ref p9, .ref t9, .ref n9, .int (nI tn), .int (nI he), .int (nI en), .int (nI ln), .int (zI iw), .int (zI dg)])), (v9, .inl (cy 0, 188, .inl v))] → va_S A s.heap H locs → ∀ ls : Array Slot, lv_has ls 3 [(0, .ref x9), (1, .int (nI a)), (2, .int (nI k))] → W p l e rmX6_nextDropped_ok s m ([.ref x9, .int (nI a)] : List Value).toArray below meth c H locs 0 0 Q (F0 m 20 ls []) := by
      intro F
      induction F with
      | zero =>
        intro k hk hr2 hF H locs hP hD hS ls hl
        exact absurd hF (Nat.not_lt_zero _)
      | succ F ih20 =>
        intro k hk hr2 hF H locs hP hD hS ls hl
        refine lv_iload_n hx hb dX6_nextDropped_20 rfl (lv_at hl 2 rfl) ?_
        refine lv_bipush (v := 24) hx hb dX6_nextDropped_21 (by decide) ?_
        refine lv_icmp_ge (tgt := 54) hx hb dX6_nextDropped_23 (by decide) (fun c_2 => ?_) (fun c_2 => ?_)
        · have hk2 : 24 ≤ k := (nI_leI (by omega) (by omega)).mp c_2
          obtain rfl : 24 = k := by omega
          exact absurd (by rw [hr2, Nat.sub_self]; rfl) hz
        · have hk2 : k < 24 := Nat.lt_of_not_le (fun z => c_2 (nI_le z (by omega)))
          refine lv_aload_n hx hb dX6_nextDropped_26 rfl (lv_at hl 0 rfl) ?_
          refine lv_iload_n hx hb dX6_nextDropped_27 rfl (lv_at hl 2 rfl) ?_
          refine zcV (As := [.int (nI k)]) (rest := []) [0, 1] 0 hg.1 ⟨hx, hb, hml, hown, hts⟩ (c_X6_isOn hg l D cy x9 0 ch era why det cau sv rj v9 b9 s9 k9 p9 t9 n9 tn he en ln iw dg v (nI k)) (cwV 1 hts gX6_nextDropped_X6_isOn rfl rfl rfl (by decide +kernel) ⟨Nat.le_of_ble_eq_true rfl, Nat.le_of_ble_eq_true rfl⟩) hG hK hP hD hS hA rfl rfl rfl rfl rfl rfl hl.1 rfl (Nat.le_of_ble_eq_true rfl) dX6_nextDropped_28 ⟨Nat.zero_le _, Nat.zero_le _⟩ (fun H locs hP hD hS => ?_)
          have hP : va_P D vwCl [(x9, .inr (10, [.int 0, .int (nI ch), .int era, .int why, .int det, .int cau, .int (zI sv), .int (zI rj), .ref v9, .ref b9, .ref s9, .ref k9, .ref p9, .ref t9, .ref n9, .int (nI tn), .int (nI he), .int (nI en), .int (nI ln), .int (zI iw), .int (zI dg)])), (v9, .inl (cy 0, 188, .inl v))] H := hP
          have hD : va_D A [(x9, .inr (10, [.int 0, .int (nI ch), .int era, .int why, .int det, .int cau, .int (zI sv), .int (zI rj), .ref v9, .ref b9, .ref s9, .ref k9, .ref p9, .ref t9, .ref n9, .int (nI tn), .int (nI he), .int (nI en), .int (nI ln), .int (zI iw), .int (zI dg)])), (v9, .inl (cy 0, 188, .inl v))] := hD
          refine lv_if_eq (tgt := 48) hx hb dX6_nextDropped_31 (by decide) (fun c_3 => ?_) (fun c_3 => ?_)
          · replace c_3 := zI0 c_3
            refine lv_iinc (v := nI (k + 1)) (lv' := [(2, .int (nI (k + 1))), (0, .ref x9), (1, .int (nI a))]) hx hb dX6_nextDropped_48 hl (k := 2) rfl (by rw [show Int32.ofInt 1 = nI 1 from rfl, nI_add]) (by decide) rfl (fun ls hl => ?_)
            refine lv_goto (tgt := 20) hx hb dX6_nextDropped_51 (by decide) ?_
            exact ih20 (k + 1) (by omega) (by rw [hr2, show 24 - k = (24 - (k + 1)) + 1 by omega, zfi]; simp [c_2, c_3]) (by omega) H locs hP hD hS ls (lv_sub hl [1, 2, 0] rfl)
          · replace c_3 := zI1 c_3
            refine lv_aload_n hx hb dX6_nextDropped_34 rfl (lv_at hl 0 rfl) ?_
            refine va_get (D := D) (ci := 10) (v := .ref v9) (C := RX6) (T := TX6) (N := 21) hx hb hts in_RX6 hown hK hP 0 rfl rfl 8 (by decide) (hts _ (List.mem_of_getElem? (i := 2) rfl)) (fun _ h9 => h9) rfl dX6_nextDropped_35 ?_
            refine lv_bipush (v := 10) hx hb dX6_nextDropped_38 (by decide) ?_
            refine lv_iload_n hx hb dX6_nextDropped_40 rfl (lv_at hl 2 rfl) ?_
            refine lv_iadd hx hb dX6_nextDropped_41 ?_
            refine z_top (y := nI (10 + k)) (nI_add 10 k) ?_
            refine ziald 1 0 (10 + k) hx hb hK hP rfl rfl (by omega) (z_lt rfl) dX6_nextDropped_42 ?_
            refine lv_if_ne (tgt := 48) hx hb dX6_nextDropped_43 (by decide) (fun c_4 => ?_) (fun c_4 => ?_)
            · refine lv_iinc (v := nI (k + 1)) (lv' := [(2, .int (nI (k + 1))), (0, .ref x9), (1, .int (nI a))]) hx hb dX6_nextDropped_48 hl (k := 2) rfl (by rw [show Int32.ofInt 1 = nI 1 from rfl, nI_add]) (by decide) rfl (fun ls hl => ?_)
              refine lv_goto (tgt := 20) hx hb dX6_nextDropped_51 (by decide) ?_
              exact ih20 (k + 1) (by omega) (by rw [hr2, show 24 - k = (24 - (k + 1)) + 1 by omega, zfi]; simp [c_2, c_3, c_4]) (by omega) H locs hP hD hS ls (lv_sub hl [1, 2, 0] rfl)
            · refine lv_iload_n hx hb dX6_nextDropped_46 rfl (lv_at hl 2 rfl) ?_
              exact ziret hend hx hb hr hlk hK hP hD hS dX6_nextDropped_47 (Eq.symm (by rw [hr2, show 24 - k = (24 - (k + 1)) + 1 by omega, zfi]; simp [c_2, c_3, c_4])) rfl
    exact L20 (24 - a + 1) a (by omega) rfl (Nat.lt_succ_self _) H locs hP hD hS ls (lv_sub hl [1, 2, 0] rfl)
  · replace c_1 := zI0 c_1
    exact absurd ((zic23 ha).symm.trans c_1) (by decide)

abbrev rmX6_nextDropped_f2 : Room := { frames := 2, cells := 0, slots := 0, locals := 42 }
set_option maxHeartbeats 4000000 in
set_option maxRecDepth 100000 in
theorem c_X6_nextDropped_f2 {G : zG} (hg : zGN G) (l : Launch) (D : va_G) (cy : Nat → ClassId) (x9 : Nat) (th : Int32) (ch : Nat) (era : Int32) (why : Int32) (det : Int32) (cau : Int32) (sv : Bool) (rj : Bool) (v9 : Nat) (b9 : Nat) (s9 : Nat) (k9 : Nat) (p9 : Nat) (t9 : Nat) (n9 : Nat) (tn : Nat) (he : Nat) (en : Nat) (ln : Nat) (iw : Bool) (dg : Bool) (v : Nat → Int32) (a : Nat) (ha : a < 24) (hz : zfi (fun j => zb (v 0) (nI j) && decide (v (10 + j) = 0)) (24 - a) a = -1) : zM G D vwCl (zT cy) l yX6_nextDropped wsX6_nextDropped rmX6_nextDropped_f2 [.ref x9, .int (nI a)] [(x9, .inr (10, [.int th, .int (nI ch), .int era, .int why, .int det, .int cau, .int (zI sv), .int (zI rj), .ref v9, .ref b9, .ref s9, .ref k9, .ref p9, .ref t9, .ref n9, .int (nI tn), .int (nI he), .int (nI en), .int (nI ln), .int (zI iw), .int (zI dg)])), (v9, .inl (cy 0, 188, .inl v))] (some (.int 0)) [(x9, .inr (10, [.int 2, .int (nI ch), .int era, .int why, .int det, .int cau, .int (zI sv), .int (zI rj), .ref v9, .ref b9, .ref s9, .ref k9, .ref p9, .ref t9, .ref n9, .int (nI tn), .int (nI he), .int (nI en), .int (nI ln), .int (zI iw), .int (zI dg)])), (v9, .inl (cy 0, 188, .inl v))] := by
  refine zM_of (cc := cX6_nextDropped) (maxL := 3) (ret := (some .int)) (by decide) rfl (Nat.le_of_ble_eq_true rfl) ?_
  intro p e s m below meth c A Q hend hx hb hml hr hts hown hlk hG hK hP hD hA hS ls hl
  have hown : s.vm.findClass RX6 = some m.cls := hown
  have in_RX6 : ∀ w ∈ u_ws RX6 TX6 21, w ∈ wsX6_nextDropped := by decide +kernel
  have hl : lv_has ls 3 [(0, .ref x9), (1, .int (nI a))] := hl
  refine lv_iload_n hx hb dX6_nextDropped_0 rfl (lv_at hl 1 rfl) ?_
  refine zcS (As := [.int (nI a)]) (rest := []) [] hg.1 ⟨hx, hb, hml, hown, hts⟩ (c_X6_isNeedle hg l D cy (nI a)) (va_cwS 1 hts gX6_nextDropped_X6_isNeedle rfl rfl rfl (by decide +kernel) ⟨Nat.le_of_ble_eq_true rfl, Nat.le_of_ble_eq_true rfl⟩) hG hK hP hD hS hA rfl rfl rfl  rfl hl.1 rfl (Nat.le_of_ble_eq_true rfl) dX6_nextDropped_1 ⟨Nat.zero_le _, Nat.zero_le _⟩ (fun H locs hP hD hS => ?_)
  have hP : va_P D vwCl [(x9, .inr (10, [.int th, .int (nI ch), .int era, .int why, .int det, .int cau, .int (zI sv), .int (zI rj), .ref v9, .ref b9, .ref s9, .ref k9, .ref p9, .ref t9, .ref n9, .int (nI tn), .int (nI he), .int (nI en), .int (nI ln), .int (zI iw), .int (zI dg)])), (v9, .inl (cy 0, 188, .inl v))] H := hP
  have hD : va_D A [(x9, .inr (10, [.int th, .int (nI ch), .int era, .int why, .int det, .int cau, .int (zI sv), .int (zI rj), .ref v9, .ref b9, .ref s9, .ref k9, .ref p9, .ref t9, .ref n9, .int (nI tn), .int (nI he), .int (nI en), .int (nI ln), .int (zI iw), .int (zI dg)])), (v9, .inl (cy 0, 188, .inl v))] := hD
  refine lv_if_ne (tgt := 13) hx hb dX6_nextDropped_4 (by decide) (fun c_1 => ?_) (fun c_1 => ?_)
  · replace c_1 := zI1 c_1
    refine lv_aload_n hx hb dX6_nextDropped_13 rfl (lv_at hl 0 rfl) ?_
    refine lv_iconst (v := 0) hx hb dX6_nextDropped_14 (by decide) ?_
    refine va_put (D := D) (ci := 10) (v := .int 0) (ty := .int) (C := RX6) (T := TX6) (N := 21) hx hb hts in_RX6 tyX6 tyX6_ok nmX6 hown hK hP hD hS 0 rfl rfl 0 (by decide) (hts _ (List.mem_of_getElem? (i := 1) rfl)) (fun _ h9 => h9) rfl (by decide +kernel) rfl rfl (Nat.le_of_ble_eq_true rfl) dX6_nextDropped_15 (fun H locs hP hD hS => ?_)
    have hP : va_P D vwCl [(x9, .inr (10, [.int 0, .int (nI ch), .int era, .int why, .int det, .int cau, .int (zI sv), .int (zI rj), .ref v9, .ref b9, .ref s9, .ref k9, .ref p9, .ref t9, .ref n9, .int (nI tn), .int (nI he), .int (nI en), .int (nI ln), .int (zI iw), .int (zI dg)])), (v9, .inl (cy 0, 188, .inl v))] H := hP
    have hD : va_D A [(x9, .inr (10, [.int 0, .int (nI ch), .int era, .int why, .int det, .int cau, .int (zI sv), .int (zI rj), .ref v9, .ref b9, .ref s9, .ref k9, .ref p9, .ref t9, .ref n9, .int (nI tn), .int (nI he), .int (nI en), .int (nI ln), .int (zI iw), .int (zI dg)])), (v9, .inl (cy 0, 188, .inl v))] := hD
    refine lv_iload_n hx hb dX6_nextDropped_18 rfl (lv_at hl 1 rfl) ?_
    refine lv_istore_n (lv' := [(2, .int (nI a)), (0, .ref x9), (1, .int (nI a))]) hx hb dX6_nextDropped_19 rfl hl (by decide) rfl (fun ls hl => ?_)
    have L20 : ∀ (F : Nat) (k : Nat), k ≤ 24 → zfi (fun j => zb (v 0) (nI j) && decide (v (10 + j) = 0)) (24 - a) a = zfi (fun j => zb (v 0) (nI j) && decide (v (10 + j) = 0)) (24 - k) k → 24 - k < F → ∀ (H : Heap) (locs : List Loc), va_P D vwCl [(x9, .inr (10, [.int 0, .int (nI ch), .int era, .int why, .int det, .int cau, .int (zI sv), .int (zI rj), .ref v9, .ref b9, .ref s9, .ref k9, .ref p9, .ref t9, .ref n9, .int (nI tn), .int (nI he), .int (nI en), .int (nI ln), .int (zI iw), .int (zI dg)])), (v9, .inl (cy 0, 188, .inl v))] H → va_D A [(x9, .inr (10, [.int 0, .int (nI ch), .int era, .int why, .int det, .int cau, .int (zI sv), .int (zI rj), .ref v9, .ref b9, .ref s9, .ref k9, .ref p9, .ref t9, .ref n9, .int (nI tn), .int (nI he), .int (nI en), .int (nI ln), .int (zI iw), .int (zI dg)])), (v9, .inl (cy 0, 188, .inl v))] → va_S A s.heap H locs → ∀ ls : Array Slot, lv_has ls 3 [(0, .ref x9), (1, .int (nI a)), (2, .int (nI k))] → W p l e rmX6_nextDropped_f2 s m ([.ref x9, .int (nI a)] : List Value).toArray below meth c H locs 0 0 Q (F0 m 20 ls []) := by
      intro F
      induction F with
      | zero =>
        intro k hk hr2 hF H locs hP hD hS ls hl
        exact absurd hF (Nat.not_lt_zero _)
      | succ F ih20 =>
        intro k hk hr2 hF H locs hP hD hS ls hl
        refine lv_iload_n hx hb dX6_nextDropped_20 rfl (lv_at hl 2 rfl) ?_
        refine lv_bipush (v := 24) hx hb dX6_nextDropped_21 (by decide) ?_
        refine lv_icmp_ge (tgt := 54) hx hb dX6_nextDropped_23 (by decide) (fun c_2 => ?_) (fun c_2 => ?_)
        · have hk2 : 24 ≤ k := (nI_leI (by omega) (by omega)).mp c_2
          obtain rfl : 24 = k := by omega
          refine lv_aload_n hx hb dX6_nextDropped_54 rfl (lv_at hl 0 rfl) ?_
          refine lv_iconst (v := 2) hx hb dX6_nextDropped_55 (by decide) ?_
          refine zcV (As := [.int 2]) (rest := []) [0] 0 hg.1 ⟨hx, hb, hml, hown, hts⟩ (c_X6_fail hg l D cy x9 0 ch era why det cau sv rj v9 b9 s9 k9 p9 t9 n9 tn he en ln iw dg 2) (cwV 1 hts gX6_nextDropped_X6_fail rfl rfl rfl (by decide +kernel) ⟨Nat.le_of_ble_eq_true rfl, Nat.le_of_ble_eq_true rfl⟩) hG hK hP hD hS hA rfl rfl (Eq.trans (b := [x9]) rfl rfl) rfl rfl rfl hl.1 rfl (Nat.le_of_ble_eq_true rfl) dX6_nextDropped_56 ⟨Nat.zero_le _, Nat.zero_le _⟩ (fun H locs hP hD hS => ?_)
          have hP : va_P D vwCl [(x9, .inr (10, [.int 2, .int (nI ch), .int era, .int why, .int det, .int cau, .int (zI sv), .int (zI rj), .ref v9, .ref b9, .ref s9, .ref k9, .ref p9, .ref t9, .ref n9, .int (nI tn), .int (nI he), .int (nI en), .int (nI ln), .int (zI iw), .int (zI dg)])), (v9, .inl (cy 0, 188, .inl v))] H := hP
          have hD : va_D A [(x9, .inr (10, [.int 2, .int (nI ch), .int era, .int why, .int det, .int cau, .int (zI sv), .int (zI rj), .ref v9, .ref b9, .ref s9, .ref k9, .ref p9, .ref t9, .ref n9, .int (nI tn), .int (nI he), .int (nI en), .int (nI ln), .int (zI iw), .int (zI dg)])), (v9, .inl (cy 0, 188, .inl v))] := hD
          exact ziret hend hx hb hr hlk hK hP hD hS dX6_nextDropped_59 rfl rfl
        · have hk2 : k < 24 := Nat.lt_of_not_le (fun z => c_2 (nI_le z (by omega)))
          refine lv_aload_n hx hb dX6_nextDropped_26 rfl (lv_at hl 0 rfl) ?_
          refine lv_iload_n hx hb dX6_nextDropped_27 rfl (lv_at hl 2 rfl) ?_
          refine zcV (As := [.int (nI k)]) (rest := []) [0, 1] 0 hg.1 ⟨hx, hb, hml, hown, hts⟩ (c_X6_isOn hg l D cy x9 0 ch era why det cau sv rj v9 b9 s9 k9 p9 t9 n9 tn he en ln iw dg v (nI k)) (cwV 1 hts gX6_nextDropped_X6_isOn rfl rfl rfl (by decide +kernel) ⟨Nat.le_of_ble_eq_true rfl, Nat.le_of_ble_eq_true rfl⟩) hG hK hP hD hS hA rfl rfl rfl rfl rfl rfl hl.1 rfl (Nat.le_of_ble_eq_true rfl) dX6_nextDropped_28 ⟨Nat.zero_le _, Nat.zero_le _⟩ (fun H locs hP hD hS => ?_)
          have hP : va_P D vwCl [(x9, .inr (10, [.int 0, .int (nI ch), .int era, .int why, .int det, .int cau, .int (zI sv), .int (zI rj), .ref v9, .ref b9, .ref s9, .ref k9, .ref p9, .ref t9, .ref n9, .int (nI tn), .int (nI he), .int (nI en), .int (nI ln), .int (zI iw), .int (zI dg)])), (v9, .inl (cy 0, 188, .inl v))] H := hP
          have hD : va_D A [(x9, .inr (10, [.int 0, .int (nI ch), .int era, .int why, .int det, .int cau, .int (zI sv), .int (zI rj), .ref v9, .ref b9, .ref s9, .ref k9, .ref p9, .ref t9, .ref n9, .int (nI tn), .int (nI he), .int (nI en), .int (nI ln), .int (zI iw), .int (zI dg)])), (v9, .inl (cy 0, 188, .inl v))] := hD
          refine lv_if_eq (tgt := 48) hx hb dX6_nextDropped_31 (by decide) (fun c_3 => ?_) (fun c_3 => ?_)
          · replace c_3 := zI0 c_3
            refine lv_iinc (v := nI (k + 1)) (lv' := [(2, .int (nI (k + 1))), (0, .ref x9), (1, .int (nI a))]) hx hb dX6_nextDropped_48 hl (k := 2) rfl (by rw [show Int32.ofInt 1 = nI 1 from rfl, nI_add]) (by decide) rfl (fun ls hl => ?_)
            refine lv_goto (tgt := 20) hx hb dX6_nextDropped_51 (by decide) ?_
            exact ih20 (k + 1) (by omega) (by rw [hr2, show 24 - k = (24 - (k + 1)) + 1 by omega, zfi]; simp [c_2, c_3]) (by omega) H locs hP hD hS ls (lv_sub hl [1, 2, 0] rfl)
          · replace c_3 := zI1 c_3
            refine lv_aload_n hx hb dX6_nextDropped_34 rfl (lv_at hl 0 rfl) ?_
            refine va_get (D := D) (ci := 10) (v := .ref v9) (C := RX6) (T := TX6) (N := 21) hx hb hts in_RX6 hown hK hP 0 rfl rfl 8 (by decide) (hts _ (List.mem_of_getElem? (i := 2) rfl)) (fun _ h9 => h9) rfl dX6_nextDropped_35 ?_
            refine lv_bipush (v := 10) hx hb dX6_nextDropped_38 (by decide) ?_
            refine lv_iload_n hx hb dX6_nextDropped_40 rfl (lv_at hl 2 rfl) ?_
            refine lv_iadd hx hb dX6_nextDropped_41 ?_
            refine z_top (y := nI (10 + k)) (nI_add 10 k) ?_
            refine ziald 1 0 (10 + k) hx hb hK hP rfl rfl (by omega) (z_lt rfl) dX6_nextDropped_42 ?_
            refine lv_if_ne (tgt := 48) hx hb dX6_nextDropped_43 (by decide) (fun c_4 => ?_) (fun c_4 => ?_)
            · refine lv_iinc (v := nI (k + 1)) (lv' := [(2, .int (nI (k + 1))), (0, .ref x9), (1, .int (nI a))]) hx hb dX6_nextDropped_48 hl (k := 2) rfl (by rw [show Int32.ofInt 1 = nI 1 from rfl, nI_add]) (by decide) rfl (fun ls hl => ?_)
              refine lv_goto (tgt := 20) hx hb dX6_nextDropped_51 (by decide) ?_
              exact ih20 (k + 1) (by omega) (by rw [hr2, show 24 - k = (24 - (k + 1)) + 1 by omega, zfi]; simp [c_2, c_3, c_4]) (by omega) H locs hP hD hS ls (lv_sub hl [1, 2, 0] rfl)
            · exact absurd (show nI k = -1 from (show zfi (fun j => zb (v 0) (nI j) && decide (v (10 + j) = 0)) (24 - a) a = nI k from (by rw [hr2, show 24 - k = (24 - (k + 1)) + 1 by omega, zfi]; simp [c_2, c_3, c_4])).symm.trans hz) (nI_m1 (by omega))
    exact L20 (24 - a + 1) a (by omega) rfl (Nat.lt_succ_self _) H locs hP hD hS ls (lv_sub hl [1, 2, 0] rfl)
  · replace c_1 := zI0 c_1
    exact absurd ((zic23 ha).symm.trans c_1) (by decide)

abbrev rmX6_nextDropped_bad : Room := { frames := 2, cells := 0, slots := 0, locals := 42 }
set_option maxHeartbeats 4000000 in
set_option maxRecDepth 100000 in
theorem c_X6_nextDropped_bad {G : zG} (hg : zGN G) (l : Launch) (D : va_G) (cy : Nat → ClassId) (x9 : Nat) (th : Int32) (ch : Nat) (era : Int32) (why : Int32) (det : Int32) (cau : Int32) (sv : Bool) (rj : Bool) (v9 : Nat) (b9 : Nat) (s9 : Nat) (k9 : Nat) (p9 : Nat) (t9 : Nat) (n9 : Nat) (tn : Nat) (he : Nat) (en : Nat) (ln : Nat) (iw : Bool) (dg : Bool) (nq : Int32) (hq : zic 0 23 nq = false) : zM G D vwCl (zT cy) l yX6_nextDropped wsX6_nextDropped rmX6_nextDropped_bad [.ref x9, .int nq] [(x9, .inr (10, [.int th, .int (nI ch), .int era, .int why, .int det, .int cau, .int (zI sv), .int (zI rj), .ref v9, .ref b9, .ref s9, .ref k9, .ref p9, .ref t9, .ref n9, .int (nI tn), .int (nI he), .int (nI en), .int (nI ln), .int (zI iw), .int (zI dg)]))] (some (.int 0)) [(x9, .inr (10, [.int 1, .int (nI ch), .int era, .int why, .int det, .int cau, .int (zI sv), .int (zI rj), .ref v9, .ref b9, .ref s9, .ref k9, .ref p9, .ref t9, .ref n9, .int (nI tn), .int (nI he), .int (nI en), .int (nI ln), .int (zI iw), .int (zI dg)]))] := by
  refine zM_of (cc := cX6_nextDropped) (maxL := 3) (ret := (some .int)) (by decide) rfl (Nat.le_of_ble_eq_true rfl) ?_
  intro p e s m below meth c A Q hend hx hb hml hr hts hown hlk hG hK hP hD hA hS ls hl
  have hown : s.vm.findClass RX6 = some m.cls := hown
  have hl : lv_has ls 3 [(0, .ref x9), (1, .int nq)] := hl
  refine lv_iload_n hx hb dX6_nextDropped_0 rfl (lv_at hl 1 rfl) ?_
  refine zcS (As := [.int nq]) (rest := []) [] hg.1 ⟨hx, hb, hml, hown, hts⟩ (c_X6_isNeedle hg l D cy nq) (va_cwS 1 hts gX6_nextDropped_X6_isNeedle rfl rfl rfl (by decide +kernel) ⟨Nat.le_of_ble_eq_true rfl, Nat.le_of_ble_eq_true rfl⟩) hG hK hP hD hS hA rfl rfl rfl  rfl hl.1 rfl (Nat.le_of_ble_eq_true rfl) dX6_nextDropped_1 ⟨Nat.zero_le _, Nat.zero_le _⟩ (fun H locs hP hD hS => ?_)
  have hP : va_P D vwCl [(x9, .inr (10, [.int th, .int (nI ch), .int era, .int why, .int det, .int cau, .int (zI sv), .int (zI rj), .ref v9, .ref b9, .ref s9, .ref k9, .ref p9, .ref t9, .ref n9, .int (nI tn), .int (nI he), .int (nI en), .int (nI ln), .int (zI iw), .int (zI dg)]))] H := hP
  have hD : va_D A [(x9, .inr (10, [.int th, .int (nI ch), .int era, .int why, .int det, .int cau, .int (zI sv), .int (zI rj), .ref v9, .ref b9, .ref s9, .ref k9, .ref p9, .ref t9, .ref n9, .int (nI tn), .int (nI he), .int (nI en), .int (nI ln), .int (zI iw), .int (zI dg)]))] := hD
  refine lv_if_ne (tgt := 13) hx hb dX6_nextDropped_4 (by decide) (fun c_1 => ?_) (fun c_1 => ?_)
  · replace c_1 := zI1 c_1
    exact absurd (hq.symm.trans c_1) (by decide)
  · replace c_1 := zI0 c_1
    refine lv_aload_n hx hb dX6_nextDropped_7 rfl (lv_at hl 0 rfl) ?_
    refine lv_iconst (v := 1) hx hb dX6_nextDropped_8 (by decide) ?_
    refine zcV (As := [.int 1]) (rest := []) [0] 0 hg.1 ⟨hx, hb, hml, hown, hts⟩ (c_X6_fail hg l D cy x9 th ch era why det cau sv rj v9 b9 s9 k9 p9 t9 n9 tn he en ln iw dg 1) (cwV 1 hts gX6_nextDropped_X6_fail rfl rfl rfl (by decide +kernel) ⟨Nat.le_of_ble_eq_true rfl, Nat.le_of_ble_eq_true rfl⟩) hG hK hP hD hS hA rfl rfl (Eq.trans (b := [x9]) rfl rfl) rfl rfl rfl hl.1 rfl (Nat.le_of_ble_eq_true rfl) dX6_nextDropped_9 ⟨Nat.zero_le _, Nat.zero_le _⟩ (fun H locs hP hD hS => ?_)
    have hP : va_P D vwCl [(x9, .inr (10, [.int 1, .int (nI ch), .int era, .int why, .int det, .int cau, .int (zI sv), .int (zI rj), .ref v9, .ref b9, .ref s9, .ref k9, .ref p9, .ref t9, .ref n9, .int (nI tn), .int (nI he), .int (nI en), .int (nI ln), .int (zI iw), .int (zI dg)]))] H := hP
    have hD : va_D A [(x9, .inr (10, [.int 1, .int (nI ch), .int era, .int why, .int det, .int cau, .int (zI sv), .int (zI rj), .ref v9, .ref b9, .ref s9, .ref k9, .ref p9, .ref t9, .ref n9, .int (nI tn), .int (nI he), .int (nI en), .int (nI ln), .int (zI iw), .int (zI dg)]))] := hD
    exact ziret hend hx hb hr hlk hK hP hD hS dX6_nextDropped_12 rfl rfl

abbrev rmX6_isCourse : Room := { frames := 1, cells := 0, slots := 0, locals := 22 }
set_option maxHeartbeats 4000000 in
set_option maxRecDepth 100000 in
theorem c_X6_isCourse {G : zG} (hg : zGN G) (l : Launch) (D : va_G) (cy : Nat → ClassId) (x9 : Nat) (th : Int32) (ch : Nat) (era : Int32) (why : Int32) (det : Int32) (cau : Int32) (sv : Bool) (rj : Bool) (v9 : Nat) (b9 : Nat) (s9 : Nat) (k9 : Nat) (p9 : Nat) (t9 : Nat) (n9 : Nat) (tn : Nat) (he : Nat) (en : Nat) (ln : Nat) (iw : Bool) (dg : Bool) (v : Nat → Int32) (nq : Int32) : zM G D vwCl (zT cy) l yX6_isCourse wsX6_isCourse rmX6_isCourse [.ref x9, .int nq] [(x9, .inr (10, [.int th, .int (nI ch), .int era, .int why, .int det, .int cau, .int (zI sv), .int (zI rj), .ref v9, .ref b9, .ref s9, .ref k9, .ref p9, .ref t9, .ref n9, .int (nI tn), .int (nI he), .int (nI en), .int (nI ln), .int (zI iw), .int (zI dg)])), (v9, .inl (cy 0, 188, .inl v))] (some (.int (zI (zic 0 (v 5 - 1) nq)))) [(x9, .inr (10, [.int th, .int (nI ch), .int era, .int why, .int det, .int cau, .int (zI sv), .int (zI rj), .ref v9, .ref b9, .ref s9, .ref k9, .ref p9, .ref t9, .ref n9, .int (nI tn), .int (nI he), .int (nI en), .int (nI ln), .int (zI iw), .int (zI dg)])), (v9, .inl (cy 0, 188, .inl v))] := by
  refine zM_of (cc := cX6_isCourse) (maxL := 2) (ret := (some .boolean)) (by decide) rfl (Nat.le_of_ble_eq_true rfl) ?_
  intro p e s m below meth c A Q hend hx hb hml hr hts hown hlk hG hK hP hD hA hS ls hl
  have hown : s.vm.findClass RX6 = some m.cls := hown
  have in_RX6 : ∀ w ∈ u_ws RX6 TX6 21, w ∈ wsX6_isCourse := by decide +kernel
  have hl : lv_has ls 2 [(0, .ref x9), (1, .int nq)] := hl
  refine lv_iload_n hx hb dX6_isCourse_0 rfl (lv_at hl 1 rfl) ?_
  refine lv_iconst (v := 0) hx hb dX6_isCourse_1 (by decide) ?_
  refine lv_aload_n hx hb dX6_isCourse_2 rfl (lv_at hl 0 rfl) ?_
  refine va_get (D := D) (ci := 10) (v := .ref v9) (C := RX6) (T := TX6) (N := 21) hx hb hts in_RX6 hown hK hP 0 rfl rfl 8 (by decide) (hts _ (List.mem_of_getElem? (i := 1) rfl)) (fun _ h9 => h9) rfl dX6_isCourse_3 ?_
  refine lv_iconst (v := 5) hx hb dX6_isCourse_6 (by decide) ?_
  refine ziald 1 0 5 hx hb hK hP rfl rfl (by omega) (z_lt rfl) dX6_isCourse_7 ?_
  refine lv_iconst (v := 1) hx hb dX6_isCourse_8 (by decide) ?_
  refine lv_isub hx hb dX6_isCourse_9 ?_
  refine zcS (As := [.int nq, .int 0, .int ((v 5) - 1)]) (rest := []) [] hg.1 ⟨hx, hb, hml, hown, hts⟩ (c_X6_isIn hg l D cy nq 0 ((v 5) - 1)) (va_cwS 3 hts gX6_isCourse_X6_isIn rfl rfl rfl (by decide +kernel) ⟨Nat.le_of_ble_eq_true rfl, Nat.le_of_ble_eq_true rfl⟩) hG hK hP hD hS hA rfl rfl rfl  rfl hl.1 rfl (Nat.le_of_ble_eq_true rfl) dX6_isCourse_10 ⟨Nat.zero_le _, Nat.zero_le _⟩ (fun H locs hP hD hS => ?_)
  have hP : va_P D vwCl [(x9, .inr (10, [.int th, .int (nI ch), .int era, .int why, .int det, .int cau, .int (zI sv), .int (zI rj), .ref v9, .ref b9, .ref s9, .ref k9, .ref p9, .ref t9, .ref n9, .int (nI tn), .int (nI he), .int (nI en), .int (nI ln), .int (zI iw), .int (zI dg)])), (v9, .inl (cy 0, 188, .inl v))] H := hP
  have hD : va_D A [(x9, .inr (10, [.int th, .int (nI ch), .int era, .int why, .int det, .int cau, .int (zI sv), .int (zI rj), .ref v9, .ref b9, .ref s9, .ref k9, .ref p9, .ref t9, .ref n9, .int (nI tn), .int (nI he), .int (nI en), .int (nI ln), .int (zI iw), .int (zI dg)])), (v9, .inl (cy 0, 188, .inl v))] := hD
  exact zzret hend hx hb hr hlk hK hP hD hS dX6_isCourse_13 (zI_nar _) (by rfl) rfl

abbrev rmX6_tells_ok : Room := { frames := 2, cells := 0, slots := 0, locals := 43 }
set_option maxHeartbeats 4000000 in
set_option maxRecDepth 100000 in
theorem c_X6_tells_ok {G : zG} (hg : zGN G) (l : Launch) (D : va_G) (cy : Nat → ClassId) (x9 : Nat) (th : Int32) (ch : Nat) (era : Int32) (why : Int32) (det : Int32) (cau : Int32) (sv : Bool) (rj : Bool) (v9 : Nat) (b9 : Nat) (s9 : Nat) (k9 : Nat) (p9 : Nat) (t9 : Nat) (n9 : Nat) (tn : Nat) (he : Nat) (en : Nat) (ln : Nat) (iw : Bool) (dg : Bool) (v : Nat → Int32) (cn : Nat) (ck : Nat) (pw : Nat) (hv5 : v 5 = nI cn) (hcn : cn ≤ 30) (hck : ck < cn) (hpw : pw < 4) : zM G D vwCl (zT cy) l yX6_tells wsX6_tells rmX6_tells_ok [.ref x9, .int (nI ck), .int (nI pw)] [(x9, .inr (10, [.int th, .int (nI ch), .int era, .int why, .int det, .int cau, .int (zI sv), .int (zI rj), .ref v9, .ref b9, .ref s9, .ref k9, .ref p9, .ref t9, .ref n9, .int (nI tn), .int (nI he), .int (nI en), .int (nI ln), .int (zI iw), .int (zI dg)])), (v9, .inl (cy 0, 188, .inl v))] (some (.int (v (68 + 4 * ck + pw)))) [(x9, .inr (10, [.int 0, .int (nI ch), .int era, .int why, .int det, .int cau, .int (zI sv), .int (zI rj), .ref v9, .ref b9, .ref s9, .ref k9, .ref p9, .ref t9, .ref n9, .int (nI tn), .int (nI he), .int (nI en), .int (nI ln), .int (zI iw), .int (zI dg)])), (v9, .inl (cy 0, 188, .inl v))] := by
  refine zM_of (cc := cX6_tells) (maxL := 3) (ret := (some .int)) (by decide) rfl (Nat.le_of_ble_eq_true rfl) ?_
  intro p e s m below meth c A Q hend hx hb hml hr hts hown hlk hG hK hP hD hA hS ls hl
  have hown : s.vm.findClass RX6 = some m.cls := hown
  have in_RX6 : ∀ w ∈ u_ws RX6 TX6 21, w ∈ wsX6_tells := by decide +kernel
  have hl : lv_has ls 3 [(0, .ref x9), (1, .int (nI ck)), (2, .int (nI pw))] := hl
  refine lv_aload_n hx hb dX6_tells_0 rfl (lv_at hl 0 rfl) ?_
  refine lv_aload_n hx hb dX6_tells_1 rfl (lv_at hl 0 rfl) ?_
  refine lv_iload_n hx hb dX6_tells_2 rfl (lv_at hl 1 rfl) ?_
  refine zcV (As := [.int (nI ck)]) (rest := [.ref x9]) [0, 1] 0 hg.1 ⟨hx, hb, hml, hown, hts⟩ (c_X6_isCourse hg l D cy x9 th ch era why det cau sv rj v9 b9 s9 k9 p9 t9 n9 tn he en ln iw dg v (nI ck)) (cwV 1 hts gX6_tells_X6_isCourse rfl rfl rfl (by decide +kernel) ⟨Nat.le_of_ble_eq_true rfl, Nat.le_of_ble_eq_true rfl⟩) hG hK hP hD hS hA rfl rfl rfl rfl rfl rfl hl.1 rfl (Nat.le_of_ble_eq_true rfl) dX6_tells_3 ⟨Nat.zero_le _, Nat.zero_le _⟩ (fun H locs hP hD hS => ?_)
  have hP : va_P D vwCl [(x9, .inr (10, [.int th, .int (nI ch), .int era, .int why, .int det, .int cau, .int (zI sv), .int (zI rj), .ref v9, .ref b9, .ref s9, .ref k9, .ref p9, .ref t9, .ref n9, .int (nI tn), .int (nI he), .int (nI en), .int (nI ln), .int (zI iw), .int (zI dg)])), (v9, .inl (cy 0, 188, .inl v))] H := hP
  have hD : va_D A [(x9, .inr (10, [.int th, .int (nI ch), .int era, .int why, .int det, .int cau, .int (zI sv), .int (zI rj), .ref v9, .ref b9, .ref s9, .ref k9, .ref p9, .ref t9, .ref n9, .int (nI tn), .int (nI he), .int (nI en), .int (nI ln), .int (zI iw), .int (zI dg)])), (v9, .inl (cy 0, 188, .inl v))] := hD
  refine lv_if_eq (tgt := 13) hx hb dX6_tells_6 (by decide) (fun c_1 => ?_) (fun c_1 => ?_)
  · replace c_1 := zI0 c_1
    exact absurd ((show zic 0 (v 5 - 1) (nI ck) = true by rw [hv5]; exact zic_c (by omega) hck).symm.trans c_1) (by decide)
  · replace c_1 := zI1 c_1
    refine lv_iconst (v := 0) hx hb dX6_tells_9 (by decide) ?_
    refine lv_goto (tgt := 14) hx hb dX6_tells_10 (by decide) ?_
    refine va_put (D := D) (ci := 10) (v := .int 0) (ty := .int) (C := RX6) (T := TX6) (N := 21) hx hb hts in_RX6 tyX6 tyX6_ok nmX6 hown hK hP hD hS 0 rfl rfl 0 (by decide) (hts _ (List.mem_of_getElem? (i := 1) rfl)) (fun _ h9 => h9) rfl (by decide +kernel) rfl rfl (Nat.le_of_ble_eq_true rfl) dX6_tells_14 (fun H locs hP hD hS => ?_)
    have hP : va_P D vwCl [(x9, .inr (10, [.int 0, .int (nI ch), .int era, .int why, .int det, .int cau, .int (zI sv), .int (zI rj), .ref v9, .ref b9, .ref s9, .ref k9, .ref p9, .ref t9, .ref n9, .int (nI tn), .int (nI he), .int (nI en), .int (nI ln), .int (zI iw), .int (zI dg)])), (v9, .inl (cy 0, 188, .inl v))] H := hP
    have hD : va_D A [(x9, .inr (10, [.int 0, .int (nI ch), .int era, .int why, .int det, .int cau, .int (zI sv), .int (zI rj), .ref v9, .ref b9, .ref s9, .ref k9, .ref p9, .ref t9, .ref n9, .int (nI tn), .int (nI he), .int (nI en), .int (nI ln), .int (zI iw), .int (zI dg)])), (v9, .inl (cy 0, 188, .inl v))] := hD
    refine lv_aload_n hx hb dX6_tells_17 rfl (lv_at hl 0 rfl) ?_
    refine va_get (D := D) (ci := 10) (v := .int 0) (C := RX6) (T := TX6) (N := 21) hx hb hts in_RX6 hown hK hP 0 rfl rfl 0 (by decide) (hts _ (List.mem_of_getElem? (i := 1) rfl)) (fun _ h9 => h9) rfl dX6_tells_18 ?_
    refine lv_if_ne (tgt := 40) hx hb dX6_tells_21 (by decide) (fun c_2 => ?_) (fun c_2 => ?_)
    · exact absurd c_2 (by decide)
    · refine lv_aload_n hx hb dX6_tells_24 rfl (lv_at hl 0 rfl) ?_
      refine va_get (D := D) (ci := 10) (v := .ref v9) (C := RX6) (T := TX6) (N := 21) hx hb hts in_RX6 hown hK hP 0 rfl rfl 8 (by decide) (hts _ (List.mem_of_getElem? (i := 2) rfl)) (fun _ h9 => h9) rfl dX6_tells_25 ?_
      refine lv_bipush (v := 68) hx hb dX6_tells_28 (by decide) ?_
      refine lv_iconst (v := 4) hx hb dX6_tells_30 (by decide) ?_
      refine lv_iload_n hx hb dX6_tells_31 rfl (lv_at hl 1 rfl) ?_
      refine lv_imul hx hb dX6_tells_32 ?_
      refine z_top (y := nI (4 * ck)) (pk_mul 4 ck) ?_
      refine lv_iadd hx hb dX6_tells_33 ?_
      refine z_top (y := nI (68 + (4 * ck))) (nI_add 68 (4 * ck)) ?_
      refine lv_iload_n hx hb dX6_tells_34 rfl (lv_at hl 2 rfl) ?_
      refine lv_iadd hx hb dX6_tells_35 ?_
      refine z_top (y := nI ((68 + (4 * ck)) + pw)) (nI_add (68 + (4 * ck)) pw) ?_
      refine ziald 1 0 ((68 + (4 * ck)) + pw) hx hb hK hP rfl rfl (by omega) (z_lt rfl) dX6_tells_36 ?_
      refine lv_goto (tgt := 41) hx hb dX6_tells_37 (by decide) ?_
      exact ziret hend hx hb hr hlk hK hP hD hS dX6_tells_41 (by rfl) rfl

abbrev rmX6_tells_bad : Room := { frames := 2, cells := 0, slots := 0, locals := 43 }
set_option maxHeartbeats 4000000 in
set_option maxRecDepth 100000 in
theorem c_X6_tells_bad {G : zG} (hg : zGN G) (l : Launch) (D : va_G) (cy : Nat → ClassId) (x9 : Nat) (th : Int32) (ch : Nat) (era : Int32) (why : Int32) (det : Int32) (cau : Int32) (sv : Bool) (rj : Bool) (v9 : Nat) (b9 : Nat) (s9 : Nat) (k9 : Nat) (p9 : Nat) (t9 : Nat) (n9 : Nat) (tn : Nat) (he : Nat) (en : Nat) (ln : Nat) (iw : Bool) (dg : Bool) (v : Nat → Int32) (nq : Int32) (pw : Int32) (hq : zic 0 (v 5 - 1) nq = false) : zM G D vwCl (zT cy) l yX6_tells wsX6_tells rmX6_tells_bad [.ref x9, .int nq, .int pw] [(x9, .inr (10, [.int th, .int (nI ch), .int era, .int why, .int det, .int cau, .int (zI sv), .int (zI rj), .ref v9, .ref b9, .ref s9, .ref k9, .ref p9, .ref t9, .ref n9, .int (nI tn), .int (nI he), .int (nI en), .int (nI ln), .int (zI iw), .int (zI dg)])), (v9, .inl (cy 0, 188, .inl v))] (some (.int 0)) [(x9, .inr (10, [.int 1, .int (nI ch), .int era, .int why, .int det, .int cau, .int (zI sv), .int (zI rj), .ref v9, .ref b9, .ref s9, .ref k9, .ref p9, .ref t9, .ref n9, .int (nI tn), .int (nI he), .int (nI en), .int (nI ln), .int (zI iw), .int (zI dg)])), (v9, .inl (cy 0, 188, .inl v))] := by
  refine zM_of (cc := cX6_tells) (maxL := 3) (ret := (some .int)) (by decide) rfl (Nat.le_of_ble_eq_true rfl) ?_
  intro p e s m below meth c A Q hend hx hb hml hr hts hown hlk hG hK hP hD hA hS ls hl
  have hown : s.vm.findClass RX6 = some m.cls := hown
  have in_RX6 : ∀ w ∈ u_ws RX6 TX6 21, w ∈ wsX6_tells := by decide +kernel
  have hl : lv_has ls 3 [(0, .ref x9), (1, .int nq), (2, .int pw)] := hl
  refine lv_aload_n hx hb dX6_tells_0 rfl (lv_at hl 0 rfl) ?_
  refine lv_aload_n hx hb dX6_tells_1 rfl (lv_at hl 0 rfl) ?_
  refine lv_iload_n hx hb dX6_tells_2 rfl (lv_at hl 1 rfl) ?_
  refine zcV (As := [.int nq]) (rest := [.ref x9]) [0, 1] 0 hg.1 ⟨hx, hb, hml, hown, hts⟩ (c_X6_isCourse hg l D cy x9 th ch era why det cau sv rj v9 b9 s9 k9 p9 t9 n9 tn he en ln iw dg v nq) (cwV 1 hts gX6_tells_X6_isCourse rfl rfl rfl (by decide +kernel) ⟨Nat.le_of_ble_eq_true rfl, Nat.le_of_ble_eq_true rfl⟩) hG hK hP hD hS hA rfl rfl rfl rfl rfl rfl hl.1 rfl (Nat.le_of_ble_eq_true rfl) dX6_tells_3 ⟨Nat.zero_le _, Nat.zero_le _⟩ (fun H locs hP hD hS => ?_)
  have hP : va_P D vwCl [(x9, .inr (10, [.int th, .int (nI ch), .int era, .int why, .int det, .int cau, .int (zI sv), .int (zI rj), .ref v9, .ref b9, .ref s9, .ref k9, .ref p9, .ref t9, .ref n9, .int (nI tn), .int (nI he), .int (nI en), .int (nI ln), .int (zI iw), .int (zI dg)])), (v9, .inl (cy 0, 188, .inl v))] H := hP
  have hD : va_D A [(x9, .inr (10, [.int th, .int (nI ch), .int era, .int why, .int det, .int cau, .int (zI sv), .int (zI rj), .ref v9, .ref b9, .ref s9, .ref k9, .ref p9, .ref t9, .ref n9, .int (nI tn), .int (nI he), .int (nI en), .int (nI ln), .int (zI iw), .int (zI dg)])), (v9, .inl (cy 0, 188, .inl v))] := hD
  refine lv_if_eq (tgt := 13) hx hb dX6_tells_6 (by decide) (fun c_1 => ?_) (fun c_1 => ?_)
  · replace c_1 := zI0 c_1
    refine lv_iconst (v := 1) hx hb dX6_tells_13 (by decide) ?_
    refine va_put (D := D) (ci := 10) (v := .int 1) (ty := .int) (C := RX6) (T := TX6) (N := 21) hx hb hts in_RX6 tyX6 tyX6_ok nmX6 hown hK hP hD hS 0 rfl rfl 0 (by decide) (hts _ (List.mem_of_getElem? (i := 1) rfl)) (fun _ h9 => h9) rfl (by decide +kernel) rfl rfl (Nat.le_of_ble_eq_true rfl) dX6_tells_14 (fun H locs hP hD hS => ?_)
    have hP : va_P D vwCl [(x9, .inr (10, [.int 1, .int (nI ch), .int era, .int why, .int det, .int cau, .int (zI sv), .int (zI rj), .ref v9, .ref b9, .ref s9, .ref k9, .ref p9, .ref t9, .ref n9, .int (nI tn), .int (nI he), .int (nI en), .int (nI ln), .int (zI iw), .int (zI dg)])), (v9, .inl (cy 0, 188, .inl v))] H := hP
    have hD : va_D A [(x9, .inr (10, [.int 1, .int (nI ch), .int era, .int why, .int det, .int cau, .int (zI sv), .int (zI rj), .ref v9, .ref b9, .ref s9, .ref k9, .ref p9, .ref t9, .ref n9, .int (nI tn), .int (nI he), .int (nI en), .int (nI ln), .int (zI iw), .int (zI dg)])), (v9, .inl (cy 0, 188, .inl v))] := hD
    refine lv_aload_n hx hb dX6_tells_17 rfl (lv_at hl 0 rfl) ?_
    refine va_get (D := D) (ci := 10) (v := .int 1) (C := RX6) (T := TX6) (N := 21) hx hb hts in_RX6 hown hK hP 0 rfl rfl 0 (by decide) (hts _ (List.mem_of_getElem? (i := 1) rfl)) (fun _ h9 => h9) rfl dX6_tells_18 ?_
    refine lv_if_ne (tgt := 40) hx hb dX6_tells_21 (by decide) (fun c_2 => ?_) (fun c_2 => ?_)
    · refine lv_iconst (v := 0) hx hb dX6_tells_40 (by decide) ?_
      exact ziret hend hx hb hr hlk hK hP hD hS dX6_tells_41 rfl rfl
    · exact absurd c_2 (by decide)
  · replace c_1 := zI1 c_1
    exact absurd (hq.symm.trans c_1) (by decide)

abbrev rmX6_widthOf_ok : Room := { frames := 3, cells := 0, slots := 0, locals := 65 }
set_option maxHeartbeats 4000000 in
set_option maxRecDepth 100000 in
theorem c_X6_widthOf_ok {G : zG} (hg : zGN G) (l : Launch) (D : va_G) (cy : Nat → ClassId) (x9 : Nat) (th : Int32) (ch : Nat) (era : Int32) (why : Int32) (det : Int32) (cau : Int32) (sv : Bool) (rj : Bool) (v9 : Nat) (b9 : Nat) (s9 : Nat) (k9 : Nat) (p9 : Nat) (t9 : Nat) (n9 : Nat) (tn : Nat) (he : Nat) (en : Nat) (ln : Nat) (iw : Bool) (dg : Bool) (v : Nat → Int32) (cn : Nat) (ck : Nat) (hv5 : v 5 = nI cn) (hcn : cn ≤ 30) (hck : ck < cn) : zM G D vwCl (zT cy) l yX6_widthOf wsX6_widthOf rmX6_widthOf_ok [.ref x9, .int (nI ck)] [(x9, .inr (10, [.int th, .int (nI ch), .int era, .int why, .int det, .int cau, .int (zI sv), .int (zI rj), .ref v9, .ref b9, .ref s9, .ref k9, .ref p9, .ref t9, .ref n9, .int (nI tn), .int (nI he), .int (nI en), .int (nI ln), .int (zI iw), .int (zI dg)])), (v9, .inl (cy 0, 188, .inl v))] (some (.int (v (68 + 4 * ck + 0)))) [(x9, .inr (10, [.int 0, .int (nI ch), .int era, .int why, .int det, .int cau, .int (zI sv), .int (zI rj), .ref v9, .ref b9, .ref s9, .ref k9, .ref p9, .ref t9, .ref n9, .int (nI tn), .int (nI he), .int (nI en), .int (nI ln), .int (zI iw), .int (zI dg)])), (v9, .inl (cy 0, 188, .inl v))] := by
  refine zM_of (cc := cX6_widthOf) (maxL := 2) (ret := (some .int)) (by decide) rfl (Nat.le_of_ble_eq_true rfl) ?_
  intro p e s m below meth c A Q hend hx hb hml hr hts hown hlk hG hK hP hD hA hS ls hl
  have hown : s.vm.findClass RX6 = some m.cls := hown
  have hl : lv_has ls 2 [(0, .ref x9), (1, .int (nI ck))] := hl
  refine lv_aload_n hx hb dX6_widthOf_0 rfl (lv_at hl 0 rfl) ?_
  refine lv_iload_n hx hb dX6_widthOf_1 rfl (lv_at hl 1 rfl) ?_
  refine lv_iconst (v := 0) hx hb dX6_widthOf_2 (by decide) ?_
  refine z_top (y := nI 0) (rfl) ?_
  refine zcV (As := [.int (nI ck), .int (nI 0)]) (rest := []) [0, 1] 0 hg.1 ⟨hx, hb, hml, hown, hts⟩ (c_X6_tells_ok hg l D cy x9 th ch era why det cau sv rj v9 b9 s9 k9 p9 t9 n9 tn he en ln iw dg v cn ck 0 (by first | assumption | omega) (by first | assumption | omega) (by first | assumption | omega) (by decide)) (cwV 2 hts gX6_widthOf_X6_tells rfl rfl rfl (by decide +kernel) ⟨Nat.le_of_ble_eq_true rfl, Nat.le_of_ble_eq_true rfl⟩) hG hK hP hD hS hA rfl rfl (Eq.trans (b := [x9, v9]) rfl rfl) rfl rfl rfl hl.1 rfl (Nat.le_of_ble_eq_true rfl) dX6_widthOf_3 ⟨Nat.zero_le _, Nat.zero_le _⟩ (fun H locs hP hD hS => ?_)
  have hP : va_P D vwCl [(x9, .inr (10, [.int 0, .int (nI ch), .int era, .int why, .int det, .int cau, .int (zI sv), .int (zI rj), .ref v9, .ref b9, .ref s9, .ref k9, .ref p9, .ref t9, .ref n9, .int (nI tn), .int (nI he), .int (nI en), .int (nI ln), .int (zI iw), .int (zI dg)])), (v9, .inl (cy 0, 188, .inl v))] H := hP
  have hD : va_D A [(x9, .inr (10, [.int 0, .int (nI ch), .int era, .int why, .int det, .int cau, .int (zI sv), .int (zI rj), .ref v9, .ref b9, .ref s9, .ref k9, .ref p9, .ref t9, .ref n9, .int (nI tn), .int (nI he), .int (nI en), .int (nI ln), .int (zI iw), .int (zI dg)])), (v9, .inl (cy 0, 188, .inl v))] := hD
  exact ziret hend hx hb hr hlk hK hP hD hS dX6_widthOf_6 rfl rfl

abbrev rmX6_widthOf_bad : Room := { frames := 3, cells := 0, slots := 0, locals := 65 }
set_option maxHeartbeats 4000000 in
set_option maxRecDepth 100000 in
theorem c_X6_widthOf_bad {G : zG} (hg : zGN G) (l : Launch) (D : va_G) (cy : Nat → ClassId) (x9 : Nat) (th : Int32) (ch : Nat) (era : Int32) (why : Int32) (det : Int32) (cau : Int32) (sv : Bool) (rj : Bool) (v9 : Nat) (b9 : Nat) (s9 : Nat) (k9 : Nat) (p9 : Nat) (t9 : Nat) (n9 : Nat) (tn : Nat) (he : Nat) (en : Nat) (ln : Nat) (iw : Bool) (dg : Bool) (v : Nat → Int32) (nq : Int32) (hq : zic 0 (v 5 - 1) nq = false) : zM G D vwCl (zT cy) l yX6_widthOf wsX6_widthOf rmX6_widthOf_bad [.ref x9, .int nq] [(x9, .inr (10, [.int th, .int (nI ch), .int era, .int why, .int det, .int cau, .int (zI sv), .int (zI rj), .ref v9, .ref b9, .ref s9, .ref k9, .ref p9, .ref t9, .ref n9, .int (nI tn), .int (nI he), .int (nI en), .int (nI ln), .int (zI iw), .int (zI dg)])), (v9, .inl (cy 0, 188, .inl v))] (some (.int 0)) [(x9, .inr (10, [.int 1, .int (nI ch), .int era, .int why, .int det, .int cau, .int (zI sv), .int (zI rj), .ref v9, .ref b9, .ref s9, .ref k9, .ref p9, .ref t9, .ref n9, .int (nI tn), .int (nI he), .int (nI en), .int (nI ln), .int (zI iw), .int (zI dg)])), (v9, .inl (cy 0, 188, .inl v))] := by
  refine zM_of (cc := cX6_widthOf) (maxL := 2) (ret := (some .int)) (by decide) rfl (Nat.le_of_ble_eq_true rfl) ?_
  intro p e s m below meth c A Q hend hx hb hml hr hts hown hlk hG hK hP hD hA hS ls hl
  have hown : s.vm.findClass RX6 = some m.cls := hown
  have hl : lv_has ls 2 [(0, .ref x9), (1, .int nq)] := hl
  refine lv_aload_n hx hb dX6_widthOf_0 rfl (lv_at hl 0 rfl) ?_
  refine lv_iload_n hx hb dX6_widthOf_1 rfl (lv_at hl 1 rfl) ?_
  refine lv_iconst (v := 0) hx hb dX6_widthOf_2 (by decide) ?_
  refine zcV (As := [.int nq, .int 0]) (rest := []) [0, 1] 0 hg.1 ⟨hx, hb, hml, hown, hts⟩ (c_X6_tells_bad hg l D cy x9 th ch era why det cau sv rj v9 b9 s9 k9 p9 t9 n9 tn he en ln iw dg v nq 0 (by first | assumption | omega)) (cwV 2 hts gX6_widthOf_X6_tells rfl rfl rfl (by decide +kernel) ⟨Nat.le_of_ble_eq_true rfl, Nat.le_of_ble_eq_true rfl⟩) hG hK hP hD hS hA rfl rfl (Eq.trans (b := [x9, v9]) rfl rfl) rfl rfl rfl hl.1 rfl (Nat.le_of_ble_eq_true rfl) dX6_widthOf_3 ⟨Nat.zero_le _, Nat.zero_le _⟩ (fun H locs hP hD hS => ?_)
  have hP : va_P D vwCl [(x9, .inr (10, [.int 1, .int (nI ch), .int era, .int why, .int det, .int cau, .int (zI sv), .int (zI rj), .ref v9, .ref b9, .ref s9, .ref k9, .ref p9, .ref t9, .ref n9, .int (nI tn), .int (nI he), .int (nI en), .int (nI ln), .int (zI iw), .int (zI dg)])), (v9, .inl (cy 0, 188, .inl v))] H := hP
  have hD : va_D A [(x9, .inr (10, [.int 1, .int (nI ch), .int era, .int why, .int det, .int cau, .int (zI sv), .int (zI rj), .ref v9, .ref b9, .ref s9, .ref k9, .ref p9, .ref t9, .ref n9, .int (nI tn), .int (nI he), .int (nI en), .int (nI ln), .int (zI iw), .int (zI dg)])), (v9, .inl (cy 0, 188, .inl v))] := hD
  exact ziret hend hx hb hr hlk hK hP hD hS dX6_widthOf_6 rfl rfl

abbrev rmX6_feederOf_ok : Room := { frames := 3, cells := 0, slots := 0, locals := 65 }
set_option maxHeartbeats 4000000 in
set_option maxRecDepth 100000 in
theorem c_X6_feederOf_ok {G : zG} (hg : zGN G) (l : Launch) (D : va_G) (cy : Nat → ClassId) (x9 : Nat) (th : Int32) (ch : Nat) (era : Int32) (why : Int32) (det : Int32) (cau : Int32) (sv : Bool) (rj : Bool) (v9 : Nat) (b9 : Nat) (s9 : Nat) (k9 : Nat) (p9 : Nat) (t9 : Nat) (n9 : Nat) (tn : Nat) (he : Nat) (en : Nat) (ln : Nat) (iw : Bool) (dg : Bool) (v : Nat → Int32) (cn : Nat) (ck : Nat) (hv5 : v 5 = nI cn) (hcn : cn ≤ 30) (hck : ck < cn) : zM G D vwCl (zT cy) l yX6_feederOf wsX6_feederOf rmX6_feederOf_ok [.ref x9, .int (nI ck)] [(x9, .inr (10, [.int th, .int (nI ch), .int era, .int why, .int det, .int cau, .int (zI sv), .int (zI rj), .ref v9, .ref b9, .ref s9, .ref k9, .ref p9, .ref t9, .ref n9, .int (nI tn), .int (nI he), .int (nI en), .int (nI ln), .int (zI iw), .int (zI dg)])), (v9, .inl (cy 0, 188, .inl v))] (some (.int (v (68 + 4 * ck + 1)))) [(x9, .inr (10, [.int 0, .int (nI ch), .int era, .int why, .int det, .int cau, .int (zI sv), .int (zI rj), .ref v9, .ref b9, .ref s9, .ref k9, .ref p9, .ref t9, .ref n9, .int (nI tn), .int (nI he), .int (nI en), .int (nI ln), .int (zI iw), .int (zI dg)])), (v9, .inl (cy 0, 188, .inl v))] := by
  refine zM_of (cc := cX6_feederOf) (maxL := 2) (ret := (some .int)) (by decide) rfl (Nat.le_of_ble_eq_true rfl) ?_
  intro p e s m below meth c A Q hend hx hb hml hr hts hown hlk hG hK hP hD hA hS ls hl
  have hown : s.vm.findClass RX6 = some m.cls := hown
  have hl : lv_has ls 2 [(0, .ref x9), (1, .int (nI ck))] := hl
  refine lv_aload_n hx hb dX6_feederOf_0 rfl (lv_at hl 0 rfl) ?_
  refine lv_iload_n hx hb dX6_feederOf_1 rfl (lv_at hl 1 rfl) ?_
  refine lv_iconst (v := 1) hx hb dX6_feederOf_2 (by decide) ?_
  refine z_top (y := nI 1) (rfl) ?_
  refine zcV (As := [.int (nI ck), .int (nI 1)]) (rest := []) [0, 1] 0 hg.1 ⟨hx, hb, hml, hown, hts⟩ (c_X6_tells_ok hg l D cy x9 th ch era why det cau sv rj v9 b9 s9 k9 p9 t9 n9 tn he en ln iw dg v cn ck 1 (by first | assumption | omega) (by first | assumption | omega) (by first | assumption | omega) (by decide)) (cwV 2 hts gX6_feederOf_X6_tells rfl rfl rfl (by decide +kernel) ⟨Nat.le_of_ble_eq_true rfl, Nat.le_of_ble_eq_true rfl⟩) hG hK hP hD hS hA rfl rfl (Eq.trans (b := [x9, v9]) rfl rfl) rfl rfl rfl hl.1 rfl (Nat.le_of_ble_eq_true rfl) dX6_feederOf_3 ⟨Nat.zero_le _, Nat.zero_le _⟩ (fun H locs hP hD hS => ?_)
  have hP : va_P D vwCl [(x9, .inr (10, [.int 0, .int (nI ch), .int era, .int why, .int det, .int cau, .int (zI sv), .int (zI rj), .ref v9, .ref b9, .ref s9, .ref k9, .ref p9, .ref t9, .ref n9, .int (nI tn), .int (nI he), .int (nI en), .int (nI ln), .int (zI iw), .int (zI dg)])), (v9, .inl (cy 0, 188, .inl v))] H := hP
  have hD : va_D A [(x9, .inr (10, [.int 0, .int (nI ch), .int era, .int why, .int det, .int cau, .int (zI sv), .int (zI rj), .ref v9, .ref b9, .ref s9, .ref k9, .ref p9, .ref t9, .ref n9, .int (nI tn), .int (nI he), .int (nI en), .int (nI ln), .int (zI iw), .int (zI dg)])), (v9, .inl (cy 0, 188, .inl v))] := hD
  exact ziret hend hx hb hr hlk hK hP hD hS dX6_feederOf_6 rfl rfl

abbrev rmX6_feederOf_bad : Room := { frames := 3, cells := 0, slots := 0, locals := 65 }
set_option maxHeartbeats 4000000 in
set_option maxRecDepth 100000 in
theorem c_X6_feederOf_bad {G : zG} (hg : zGN G) (l : Launch) (D : va_G) (cy : Nat → ClassId) (x9 : Nat) (th : Int32) (ch : Nat) (era : Int32) (why : Int32) (det : Int32) (cau : Int32) (sv : Bool) (rj : Bool) (v9 : Nat) (b9 : Nat) (s9 : Nat) (k9 : Nat) (p9 : Nat) (t9 : Nat) (n9 : Nat) (tn : Nat) (he : Nat) (en : Nat) (ln : Nat) (iw : Bool) (dg : Bool) (v : Nat → Int32) (nq : Int32) (hq : zic 0 (v 5 - 1) nq = false) : zM G D vwCl (zT cy) l yX6_feederOf wsX6_feederOf rmX6_feederOf_bad [.ref x9, .int nq] [(x9, .inr (10, [.int th, .int (nI ch), .int era, .int why, .int det, .int cau, .int (zI sv), .int (zI rj), .ref v9, .ref b9, .ref s9, .ref k9, .ref p9, .ref t9, .ref n9, .int (nI tn), .int (nI he), .int (nI en), .int (nI ln), .int (zI iw), .int (zI dg)])), (v9, .inl (cy 0, 188, .inl v))] (some (.int 0)) [(x9, .inr (10, [.int 1, .int (nI ch), .int era, .int why, .int det, .int cau, .int (zI sv), .int (zI rj), .ref v9, .ref b9, .ref s9, .ref k9, .ref p9, .ref t9, .ref n9, .int (nI tn), .int (nI he), .int (nI en), .int (nI ln), .int (zI iw), .int (zI dg)])), (v9, .inl (cy 0, 188, .inl v))] := by
  refine zM_of (cc := cX6_feederOf) (maxL := 2) (ret := (some .int)) (by decide) rfl (Nat.le_of_ble_eq_true rfl) ?_
  intro p e s m below meth c A Q hend hx hb hml hr hts hown hlk hG hK hP hD hA hS ls hl
  have hown : s.vm.findClass RX6 = some m.cls := hown
  have hl : lv_has ls 2 [(0, .ref x9), (1, .int nq)] := hl
  refine lv_aload_n hx hb dX6_feederOf_0 rfl (lv_at hl 0 rfl) ?_
  refine lv_iload_n hx hb dX6_feederOf_1 rfl (lv_at hl 1 rfl) ?_
  refine lv_iconst (v := 1) hx hb dX6_feederOf_2 (by decide) ?_
  refine zcV (As := [.int nq, .int 1]) (rest := []) [0, 1] 0 hg.1 ⟨hx, hb, hml, hown, hts⟩ (c_X6_tells_bad hg l D cy x9 th ch era why det cau sv rj v9 b9 s9 k9 p9 t9 n9 tn he en ln iw dg v nq 1 (by first | assumption | omega)) (cwV 2 hts gX6_feederOf_X6_tells rfl rfl rfl (by decide +kernel) ⟨Nat.le_of_ble_eq_true rfl, Nat.le_of_ble_eq_true rfl⟩) hG hK hP hD hS hA rfl rfl (Eq.trans (b := [x9, v9]) rfl rfl) rfl rfl rfl hl.1 rfl (Nat.le_of_ble_eq_true rfl) dX6_feederOf_3 ⟨Nat.zero_le _, Nat.zero_le _⟩ (fun H locs hP hD hS => ?_)
  have hP : va_P D vwCl [(x9, .inr (10, [.int 1, .int (nI ch), .int era, .int why, .int det, .int cau, .int (zI sv), .int (zI rj), .ref v9, .ref b9, .ref s9, .ref k9, .ref p9, .ref t9, .ref n9, .int (nI tn), .int (nI he), .int (nI en), .int (nI ln), .int (zI iw), .int (zI dg)])), (v9, .inl (cy 0, 188, .inl v))] H := hP
  have hD : va_D A [(x9, .inr (10, [.int 1, .int (nI ch), .int era, .int why, .int det, .int cau, .int (zI sv), .int (zI rj), .ref v9, .ref b9, .ref s9, .ref k9, .ref p9, .ref t9, .ref n9, .int (nI tn), .int (nI he), .int (nI en), .int (nI ln), .int (zI iw), .int (zI dg)])), (v9, .inl (cy 0, 188, .inl v))] := hD
  exact ziret hend hx hb hr hlk hK hP hD hS dX6_feederOf_6 rfl rfl

abbrev rmX6_yarnOf_ok : Room := { frames := 3, cells := 0, slots := 0, locals := 65 }
set_option maxHeartbeats 4000000 in
set_option maxRecDepth 100000 in
theorem c_X6_yarnOf_ok {G : zG} (hg : zGN G) (l : Launch) (D : va_G) (cy : Nat → ClassId) (x9 : Nat) (th : Int32) (ch : Nat) (era : Int32) (why : Int32) (det : Int32) (cau : Int32) (sv : Bool) (rj : Bool) (v9 : Nat) (b9 : Nat) (s9 : Nat) (k9 : Nat) (p9 : Nat) (t9 : Nat) (n9 : Nat) (tn : Nat) (he : Nat) (en : Nat) (ln : Nat) (iw : Bool) (dg : Bool) (v : Nat → Int32) (cn : Nat) (ck : Nat) (hv5 : v 5 = nI cn) (hcn : cn ≤ 30) (hck : ck < cn) : zM G D vwCl (zT cy) l yX6_yarnOf wsX6_yarnOf rmX6_yarnOf_ok [.ref x9, .int (nI ck)] [(x9, .inr (10, [.int th, .int (nI ch), .int era, .int why, .int det, .int cau, .int (zI sv), .int (zI rj), .ref v9, .ref b9, .ref s9, .ref k9, .ref p9, .ref t9, .ref n9, .int (nI tn), .int (nI he), .int (nI en), .int (nI ln), .int (zI iw), .int (zI dg)])), (v9, .inl (cy 0, 188, .inl v))] (some (.int (v (68 + 4 * ck + 2)))) [(x9, .inr (10, [.int 0, .int (nI ch), .int era, .int why, .int det, .int cau, .int (zI sv), .int (zI rj), .ref v9, .ref b9, .ref s9, .ref k9, .ref p9, .ref t9, .ref n9, .int (nI tn), .int (nI he), .int (nI en), .int (nI ln), .int (zI iw), .int (zI dg)])), (v9, .inl (cy 0, 188, .inl v))] := by
  refine zM_of (cc := cX6_yarnOf) (maxL := 2) (ret := (some .int)) (by decide) rfl (Nat.le_of_ble_eq_true rfl) ?_
  intro p e s m below meth c A Q hend hx hb hml hr hts hown hlk hG hK hP hD hA hS ls hl
  have hown : s.vm.findClass RX6 = some m.cls := hown
  have hl : lv_has ls 2 [(0, .ref x9), (1, .int (nI ck))] := hl
  refine lv_aload_n hx hb dX6_yarnOf_0 rfl (lv_at hl 0 rfl) ?_
  refine lv_iload_n hx hb dX6_yarnOf_1 rfl (lv_at hl 1 rfl) ?_
  refine lv_iconst (v := 2) hx hb dX6_yarnOf_2 (by decide) ?_
  refine z_top (y := nI 2) (rfl) ?_
  refine zcV (As := [.int (nI ck), .int (nI 2)]) (rest := []) [0, 1] 0 hg.1 ⟨hx, hb, hml, hown, hts⟩ (c_X6_tells_ok hg l D cy x9 th ch era why det cau sv rj v9 b9 s9 k9 p9 t9 n9 tn he en ln iw dg v cn ck 2 (by first | assumption | omega) (by first | assumption | omega) (by first | assumption | omega) (by decide)) (cwV 2 hts gX6_yarnOf_X6_tells rfl rfl rfl (by decide +kernel) ⟨Nat.le_of_ble_eq_true rfl, Nat.le_of_ble_eq_true rfl⟩) hG hK hP hD hS hA rfl rfl (Eq.trans (b := [x9, v9]) rfl rfl) rfl rfl rfl hl.1 rfl (Nat.le_of_ble_eq_true rfl) dX6_yarnOf_3 ⟨Nat.zero_le _, Nat.zero_le _⟩ (fun H locs hP hD hS => ?_)
  have hP : va_P D vwCl [(x9, .inr (10, [.int 0, .int (nI ch), .int era, .int why, .int det, .int cau, .int (zI sv), .int (zI rj), .ref v9, .ref b9, .ref s9, .ref k9, .ref p9, .ref t9, .ref n9, .int (nI tn), .int (nI he), .int (nI en), .int (nI ln), .int (zI iw), .int (zI dg)])), (v9, .inl (cy 0, 188, .inl v))] H := hP
  have hD : va_D A [(x9, .inr (10, [.int 0, .int (nI ch), .int era, .int why, .int det, .int cau, .int (zI sv), .int (zI rj), .ref v9, .ref b9, .ref s9, .ref k9, .ref p9, .ref t9, .ref n9, .int (nI tn), .int (nI he), .int (nI en), .int (nI ln), .int (zI iw), .int (zI dg)])), (v9, .inl (cy 0, 188, .inl v))] := hD
  exact ziret hend hx hb hr hlk hK hP hD hS dX6_yarnOf_6 rfl rfl

abbrev rmX6_yarnOf_bad : Room := { frames := 3, cells := 0, slots := 0, locals := 65 }
set_option maxHeartbeats 4000000 in
set_option maxRecDepth 100000 in
theorem c_X6_yarnOf_bad {G : zG} (hg : zGN G) (l : Launch) (D : va_G) (cy : Nat → ClassId) (x9 : Nat) (th : Int32) (ch : Nat) (era : Int32) (why : Int32) (det : Int32) (cau : Int32) (sv : Bool) (rj : Bool) (v9 : Nat) (b9 : Nat) (s9 : Nat) (k9 : Nat) (p9 : Nat) (t9 : Nat) (n9 : Nat) (tn : Nat) (he : Nat) (en : Nat) (ln : Nat) (iw : Bool) (dg : Bool) (v : Nat → Int32) (nq : Int32) (hq : zic 0 (v 5 - 1) nq = false) : zM G D vwCl (zT cy) l yX6_yarnOf wsX6_yarnOf rmX6_yarnOf_bad [.ref x9, .int nq] [(x9, .inr (10, [.int th, .int (nI ch), .int era, .int why, .int det, .int cau, .int (zI sv), .int (zI rj), .ref v9, .ref b9, .ref s9, .ref k9, .ref p9, .ref t9, .ref n9, .int (nI tn), .int (nI he), .int (nI en), .int (nI ln), .int (zI iw), .int (zI dg)])), (v9, .inl (cy 0, 188, .inl v))] (some (.int 0)) [(x9, .inr (10, [.int 1, .int (nI ch), .int era, .int why, .int det, .int cau, .int (zI sv), .int (zI rj), .ref v9, .ref b9, .ref s9, .ref k9, .ref p9, .ref t9, .ref n9, .int (nI tn), .int (nI he), .int (nI en), .int (nI ln), .int (zI iw), .int (zI dg)])), (v9, .inl (cy 0, 188, .inl v))] := by
  refine zM_of (cc := cX6_yarnOf) (maxL := 2) (ret := (some .int)) (by decide) rfl (Nat.le_of_ble_eq_true rfl) ?_
  intro p e s m below meth c A Q hend hx hb hml hr hts hown hlk hG hK hP hD hA hS ls hl
  have hown : s.vm.findClass RX6 = some m.cls := hown
  have hl : lv_has ls 2 [(0, .ref x9), (1, .int nq)] := hl
  refine lv_aload_n hx hb dX6_yarnOf_0 rfl (lv_at hl 0 rfl) ?_
  refine lv_iload_n hx hb dX6_yarnOf_1 rfl (lv_at hl 1 rfl) ?_
  refine lv_iconst (v := 2) hx hb dX6_yarnOf_2 (by decide) ?_
  refine zcV (As := [.int nq, .int 2]) (rest := []) [0, 1] 0 hg.1 ⟨hx, hb, hml, hown, hts⟩ (c_X6_tells_bad hg l D cy x9 th ch era why det cau sv rj v9 b9 s9 k9 p9 t9 n9 tn he en ln iw dg v nq 2 (by first | assumption | omega)) (cwV 2 hts gX6_yarnOf_X6_tells rfl rfl rfl (by decide +kernel) ⟨Nat.le_of_ble_eq_true rfl, Nat.le_of_ble_eq_true rfl⟩) hG hK hP hD hS hA rfl rfl (Eq.trans (b := [x9, v9]) rfl rfl) rfl rfl rfl hl.1 rfl (Nat.le_of_ble_eq_true rfl) dX6_yarnOf_3 ⟨Nat.zero_le _, Nat.zero_le _⟩ (fun H locs hP hD hS => ?_)
  have hP : va_P D vwCl [(x9, .inr (10, [.int 1, .int (nI ch), .int era, .int why, .int det, .int cau, .int (zI sv), .int (zI rj), .ref v9, .ref b9, .ref s9, .ref k9, .ref p9, .ref t9, .ref n9, .int (nI tn), .int (nI he), .int (nI en), .int (nI ln), .int (zI iw), .int (zI dg)])), (v9, .inl (cy 0, 188, .inl v))] H := hP
  have hD : va_D A [(x9, .inr (10, [.int 1, .int (nI ch), .int era, .int why, .int det, .int cau, .int (zI sv), .int (zI rj), .ref v9, .ref b9, .ref s9, .ref k9, .ref p9, .ref t9, .ref n9, .int (nI tn), .int (nI he), .int (nI en), .int (nI ln), .int (zI iw), .int (zI dg)])), (v9, .inl (cy 0, 188, .inl v))] := hD
  exact ziret hend hx hb hr hlk hK hP hD hS dX6_yarnOf_6 rfl rfl

abbrev rmX6_dropsOf_ok : Room := { frames := 3, cells := 0, slots := 0, locals := 65 }
set_option maxHeartbeats 4000000 in
set_option maxRecDepth 100000 in
theorem c_X6_dropsOf_ok {G : zG} (hg : zGN G) (l : Launch) (D : va_G) (cy : Nat → ClassId) (x9 : Nat) (th : Int32) (ch : Nat) (era : Int32) (why : Int32) (det : Int32) (cau : Int32) (sv : Bool) (rj : Bool) (v9 : Nat) (b9 : Nat) (s9 : Nat) (k9 : Nat) (p9 : Nat) (t9 : Nat) (n9 : Nat) (tn : Nat) (he : Nat) (en : Nat) (ln : Nat) (iw : Bool) (dg : Bool) (v : Nat → Int32) (cn : Nat) (ck : Nat) (hv5 : v 5 = nI cn) (hcn : cn ≤ 30) (hck : ck < cn) : zM G D vwCl (zT cy) l yX6_dropsOf wsX6_dropsOf rmX6_dropsOf_ok [.ref x9, .int (nI ck)] [(x9, .inr (10, [.int th, .int (nI ch), .int era, .int why, .int det, .int cau, .int (zI sv), .int (zI rj), .ref v9, .ref b9, .ref s9, .ref k9, .ref p9, .ref t9, .ref n9, .int (nI tn), .int (nI he), .int (nI en), .int (nI ln), .int (zI iw), .int (zI dg)])), (v9, .inl (cy 0, 188, .inl v))] (some (.int (v (68 + 4 * ck + 3)))) [(x9, .inr (10, [.int 0, .int (nI ch), .int era, .int why, .int det, .int cau, .int (zI sv), .int (zI rj), .ref v9, .ref b9, .ref s9, .ref k9, .ref p9, .ref t9, .ref n9, .int (nI tn), .int (nI he), .int (nI en), .int (nI ln), .int (zI iw), .int (zI dg)])), (v9, .inl (cy 0, 188, .inl v))] := by
  refine zM_of (cc := cX6_dropsOf) (maxL := 2) (ret := (some .int)) (by decide) rfl (Nat.le_of_ble_eq_true rfl) ?_
  intro p e s m below meth c A Q hend hx hb hml hr hts hown hlk hG hK hP hD hA hS ls hl
  have hown : s.vm.findClass RX6 = some m.cls := hown
  have hl : lv_has ls 2 [(0, .ref x9), (1, .int (nI ck))] := hl
  refine lv_aload_n hx hb dX6_dropsOf_0 rfl (lv_at hl 0 rfl) ?_
  refine lv_iload_n hx hb dX6_dropsOf_1 rfl (lv_at hl 1 rfl) ?_
  refine lv_iconst (v := 3) hx hb dX6_dropsOf_2 (by decide) ?_
  refine z_top (y := nI 3) (rfl) ?_
  refine zcV (As := [.int (nI ck), .int (nI 3)]) (rest := []) [0, 1] 0 hg.1 ⟨hx, hb, hml, hown, hts⟩ (c_X6_tells_ok hg l D cy x9 th ch era why det cau sv rj v9 b9 s9 k9 p9 t9 n9 tn he en ln iw dg v cn ck 3 (by first | assumption | omega) (by first | assumption | omega) (by first | assumption | omega) (by decide)) (cwV 2 hts gX6_dropsOf_X6_tells rfl rfl rfl (by decide +kernel) ⟨Nat.le_of_ble_eq_true rfl, Nat.le_of_ble_eq_true rfl⟩) hG hK hP hD hS hA rfl rfl (Eq.trans (b := [x9, v9]) rfl rfl) rfl rfl rfl hl.1 rfl (Nat.le_of_ble_eq_true rfl) dX6_dropsOf_3 ⟨Nat.zero_le _, Nat.zero_le _⟩ (fun H locs hP hD hS => ?_)
  have hP : va_P D vwCl [(x9, .inr (10, [.int 0, .int (nI ch), .int era, .int why, .int det, .int cau, .int (zI sv), .int (zI rj), .ref v9, .ref b9, .ref s9, .ref k9, .ref p9, .ref t9, .ref n9, .int (nI tn), .int (nI he), .int (nI en), .int (nI ln), .int (zI iw), .int (zI dg)])), (v9, .inl (cy 0, 188, .inl v))] H := hP
  have hD : va_D A [(x9, .inr (10, [.int 0, .int (nI ch), .int era, .int why, .int det, .int cau, .int (zI sv), .int (zI rj), .ref v9, .ref b9, .ref s9, .ref k9, .ref p9, .ref t9, .ref n9, .int (nI tn), .int (nI he), .int (nI en), .int (nI ln), .int (zI iw), .int (zI dg)])), (v9, .inl (cy 0, 188, .inl v))] := hD
  exact ziret hend hx hb hr hlk hK hP hD hS dX6_dropsOf_6 rfl rfl

abbrev rmX6_dropsOf_bad : Room := { frames := 3, cells := 0, slots := 0, locals := 65 }
set_option maxHeartbeats 4000000 in
set_option maxRecDepth 100000 in
theorem c_X6_dropsOf_bad {G : zG} (hg : zGN G) (l : Launch) (D : va_G) (cy : Nat → ClassId) (x9 : Nat) (th : Int32) (ch : Nat) (era : Int32) (why : Int32) (det : Int32) (cau : Int32) (sv : Bool) (rj : Bool) (v9 : Nat) (b9 : Nat) (s9 : Nat) (k9 : Nat) (p9 : Nat) (t9 : Nat) (n9 : Nat) (tn : Nat) (he : Nat) (en : Nat) (ln : Nat) (iw : Bool) (dg : Bool) (v : Nat → Int32) (nq : Int32) (hq : zic 0 (v 5 - 1) nq = false) : zM G D vwCl (zT cy) l yX6_dropsOf wsX6_dropsOf rmX6_dropsOf_bad [.ref x9, .int nq] [(x9, .inr (10, [.int th, .int (nI ch), .int era, .int why, .int det, .int cau, .int (zI sv), .int (zI rj), .ref v9, .ref b9, .ref s9, .ref k9, .ref p9, .ref t9, .ref n9, .int (nI tn), .int (nI he), .int (nI en), .int (nI ln), .int (zI iw), .int (zI dg)])), (v9, .inl (cy 0, 188, .inl v))] (some (.int 0)) [(x9, .inr (10, [.int 1, .int (nI ch), .int era, .int why, .int det, .int cau, .int (zI sv), .int (zI rj), .ref v9, .ref b9, .ref s9, .ref k9, .ref p9, .ref t9, .ref n9, .int (nI tn), .int (nI he), .int (nI en), .int (nI ln), .int (zI iw), .int (zI dg)])), (v9, .inl (cy 0, 188, .inl v))] := by
  refine zM_of (cc := cX6_dropsOf) (maxL := 2) (ret := (some .int)) (by decide) rfl (Nat.le_of_ble_eq_true rfl) ?_
  intro p e s m below meth c A Q hend hx hb hml hr hts hown hlk hG hK hP hD hA hS ls hl
  have hown : s.vm.findClass RX6 = some m.cls := hown
  have hl : lv_has ls 2 [(0, .ref x9), (1, .int nq)] := hl
  refine lv_aload_n hx hb dX6_dropsOf_0 rfl (lv_at hl 0 rfl) ?_
  refine lv_iload_n hx hb dX6_dropsOf_1 rfl (lv_at hl 1 rfl) ?_
  refine lv_iconst (v := 3) hx hb dX6_dropsOf_2 (by decide) ?_
  refine zcV (As := [.int nq, .int 3]) (rest := []) [0, 1] 0 hg.1 ⟨hx, hb, hml, hown, hts⟩ (c_X6_tells_bad hg l D cy x9 th ch era why det cau sv rj v9 b9 s9 k9 p9 t9 n9 tn he en ln iw dg v nq 3 (by first | assumption | omega)) (cwV 2 hts gX6_dropsOf_X6_tells rfl rfl rfl (by decide +kernel) ⟨Nat.le_of_ble_eq_true rfl, Nat.le_of_ble_eq_true rfl⟩) hG hK hP hD hS hA rfl rfl (Eq.trans (b := [x9, v9]) rfl rfl) rfl rfl rfl hl.1 rfl (Nat.le_of_ble_eq_true rfl) dX6_dropsOf_3 ⟨Nat.zero_le _, Nat.zero_le _⟩ (fun H locs hP hD hS => ?_)
  have hP : va_P D vwCl [(x9, .inr (10, [.int 1, .int (nI ch), .int era, .int why, .int det, .int cau, .int (zI sv), .int (zI rj), .ref v9, .ref b9, .ref s9, .ref k9, .ref p9, .ref t9, .ref n9, .int (nI tn), .int (nI he), .int (nI en), .int (nI ln), .int (zI iw), .int (zI dg)])), (v9, .inl (cy 0, 188, .inl v))] H := hP
  have hD : va_D A [(x9, .inr (10, [.int 1, .int (nI ch), .int era, .int why, .int det, .int cau, .int (zI sv), .int (zI rj), .ref v9, .ref b9, .ref s9, .ref k9, .ref p9, .ref t9, .ref n9, .int (nI tn), .int (nI he), .int (nI en), .int (nI ln), .int (zI iw), .int (zI dg)])), (v9, .inl (cy 0, 188, .inl v))] := hD
  exact ziret hend hx hb hr hlk hK hP hD hS dX6_dropsOf_6 rfl rfl

abbrev rmX6_stitches : Room := { frames := 0, cells := 0, slots := 0, locals := 0 }
set_option maxHeartbeats 4000000 in
set_option maxRecDepth 100000 in
theorem c_X6_stitches {G : zG} (hg : zGN G) (l : Launch) (D : va_G) (cy : Nat → ClassId) (x9 : Nat) (th : Int32) (ch : Nat) (era : Int32) (why : Int32) (det : Int32) (cau : Int32) (sv : Bool) (rj : Bool) (v9 : Nat) (b9 : Nat) (s9 : Nat) (k9 : Nat) (p9 : Nat) (t9 : Nat) (n9 : Nat) (tn : Nat) (he : Nat) (en : Nat) (ln : Nat) (iw : Bool) (dg : Bool) (v : Nat → Int32) (cn : Nat) (hv5 : v 5 = nI cn) (hcn : cn ≤ 30) : zM G D vwCl (zT cy) l yX6_stitches wsX6_stitches rmX6_stitches [.ref x9] [(x9, .inr (10, [.int th, .int (nI ch), .int era, .int why, .int det, .int cau, .int (zI sv), .int (zI rj), .ref v9, .ref b9, .ref s9, .ref k9, .ref p9, .ref t9, .ref n9, .int (nI tn), .int (nI he), .int (nI en), .int (nI ln), .int (zI iw), .int (zI dg)])), (v9, .inl (cy 0, 188, .inl v))] (some (.int (zsc6 v cn))) [(x9, .inr (10, [.int th, .int (nI ch), .int era, .int why, .int det, .int cau, .int (zI sv), .int (zI rj), .ref v9, .ref b9, .ref s9, .ref k9, .ref p9, .ref t9, .ref n9, .int (nI tn), .int (nI he), .int (nI en), .int (nI ln), .int (zI iw), .int (zI dg)])), (v9, .inl (cy 0, 188, .inl v))] := by
  refine zM_of (cc := cX6_stitches) (maxL := 3) (ret := (some .int)) (by decide) rfl (Nat.le_of_ble_eq_true rfl) ?_
  intro p e s m below meth c A Q hend hx hb hml hr hts hown hlk hG hK hP hD hA hS ls hl
  have hown : s.vm.findClass RX6 = some m.cls := hown
  have in_RX6 : ∀ w ∈ u_ws RX6 TX6 21, w ∈ wsX6_stitches := by decide +kernel
  have hl : lv_has ls 3 [(0, .ref x9)] := hl
  refine lv_iconst (v := 0) hx hb dX6_stitches_0 (by decide) ?_
  refine lv_istore_n (lv' := [(1, .int 0), (0, .ref x9)]) hx hb dX6_stitches_1 rfl hl (by decide) rfl (fun ls hl => ?_)
  refine lv_iconst (v := 0) hx hb dX6_stitches_2 (by decide) ?_
  refine lv_istore_n (lv' := [(2, .int 0), (1, .int 0), (0, .ref x9)]) hx hb dX6_stitches_3 rfl hl (by decide) rfl (fun ls hl => ?_)
  have L4 : ∀ (F : Nat) (k : Nat) (x4_0 : Int32), k ≤ cn → cn - k < F → x4_0 = zsc6 v k → ∀ (H : Heap) (locs : List Loc), va_P D vwCl [(x9, .inr (10, [.int th, .int (nI ch), .int era, .int why, .int det, .int cau, .int (zI sv), .int (zI rj), .ref v9, .ref b9, .ref s9, .ref k9, .ref p9, .ref t9, .ref n9, .int (nI tn), .int (nI he), .int (nI en), .int (nI ln), .int (zI iw), .int (zI dg)])), (v9, .inl (cy 0, 188, .inl v))] H → va_D A [(x9, .inr (10, [.int th, .int (nI ch), .int era, .int why, .int det, .int cau, .int (zI sv), .int (zI rj), .ref v9, .ref b9, .ref s9, .ref k9, .ref p9, .ref t9, .ref n9, .int (nI tn), .int (nI he), .int (nI en), .int (nI ln), .int (zI iw), .int (zI dg)])), (v9, .inl (cy 0, 188, .inl v))] → va_S A s.heap H locs → ∀ ls : Array Slot, lv_has ls 3 [(0, .ref x9), (1, .int x4_0), (2, .int (nI k))] → W p l e rmX6_stitches s m ([.ref x9] : List Value).toArray below meth c H locs 0 0 Q (F0 m 4 ls []) := by
    intro F
    induction F with
    | zero =>
      intro k x4_0 hk hF ex4_0 H locs hP hD hS ls hl
      exact absurd hF (Nat.not_lt_zero _)
    | succ F ih4 =>
      intro k x4_0 hk hF ex4_0 H locs hP hD hS ls hl
      subst ex4_0
      refine lv_iload_n hx hb dX6_stitches_4 rfl (lv_at hl 2 rfl) ?_
      refine lv_aload_n hx hb dX6_stitches_5 rfl (lv_at hl 0 rfl) ?_
      refine va_get (D := D) (ci := 10) (v := .ref v9) (C := RX6) (T := TX6) (N := 21) hx hb hts in_RX6 hown hK hP 0 rfl rfl 8 (by decide) (hts _ (List.mem_of_getElem? (i := 1) rfl)) (fun _ h9 => h9) rfl dX6_stitches_6 ?_
      refine lv_iconst (v := 5) hx hb dX6_stitches_9 (by decide) ?_
      refine ziald 1 0 5 hx hb hK hP rfl rfl (by omega) (z_lt rfl) dX6_stitches_10 ?_
      refine z_top (y := nI cn) (hv5) ?_
      refine lv_icmp_ge (tgt := 34) hx hb dX6_stitches_11 (by decide) (fun c_1 => ?_) (fun c_1 => ?_)
      · have hk2 : cn ≤ k := (nI_leI (by omega) (by omega)).mp c_1
        obtain rfl : cn = k := by omega
        refine lv_iload_n hx hb dX6_stitches_34 rfl (lv_at hl 1 rfl) ?_
        exact ziret hend hx hb hr hlk hK hP hD hS dX6_stitches_35 rfl rfl
      · have hk2 : k < cn := Nat.lt_of_not_le (fun z => c_1 (nI_le z (by omega)))
        refine lv_iload_n hx hb dX6_stitches_14 rfl (lv_at hl 1 rfl) ?_
        refine lv_aload_n hx hb dX6_stitches_15 rfl (lv_at hl 0 rfl) ?_
        refine va_get (D := D) (ci := 10) (v := .ref v9) (C := RX6) (T := TX6) (N := 21) hx hb hts in_RX6 hown hK hP 0 rfl rfl 8 (by decide) (hts _ (List.mem_of_getElem? (i := 1) rfl)) (fun _ h9 => h9) rfl dX6_stitches_16 ?_
        refine lv_bipush (v := 68) hx hb dX6_stitches_19 (by decide) ?_
        refine lv_iconst (v := 4) hx hb dX6_stitches_21 (by decide) ?_
        refine lv_iload_n hx hb dX6_stitches_22 rfl (lv_at hl 2 rfl) ?_
        refine lv_imul hx hb dX6_stitches_23 ?_
        refine z_top (y := nI (4 * k)) (pk_mul 4 k) ?_
        refine lv_iadd hx hb dX6_stitches_24 ?_
        refine z_top (y := nI (68 + (4 * k))) (nI_add 68 (4 * k)) ?_
        refine ziald 1 0 (68 + (4 * k)) hx hb hK hP rfl rfl (by omega) (z_lt rfl) dX6_stitches_25 ?_
        refine lv_iadd hx hb dX6_stitches_26 ?_
        refine lv_istore_n (lv' := [(1, .int ((zsc6 v k) + (v (68 + (4 * k))))), (0, .ref x9), (2, .int (nI k))]) hx hb dX6_stitches_27 rfl hl (by decide) rfl (fun ls hl => ?_)
        refine lv_iinc (v := nI (k + 1)) (lv' := [(2, .int (nI (k + 1))), (1, .int ((zsc6 v k) + (v (68 + (4 * k))))), (0, .ref x9)]) hx hb dX6_stitches_28 hl (k := 2) rfl (by rw [show Int32.ofInt 1 = nI 1 from rfl, nI_add]) (by decide) rfl (fun ls hl => ?_)
        refine lv_goto (tgt := 4) hx hb dX6_stitches_31 (by decide) ?_
        exact ih4 (k + 1) ((zsc6 v k) + (v (68 + (4 * k)))) (by omega) (by omega) (by rfl) H locs hP hD hS ls (lv_sub hl [2, 1, 0] rfl)
  exact L4 (cn - 0 + 1) 0 0 (by omega) (Nat.lt_succ_self _) (by rfl) s.heap [] hP hD hS ls (lv_sub hl [2, 1, 0] rfl)

abbrev rmX6_stitchCount : Room := { frames := 1, cells := 0, slots := 0, locals := 22 }
set_option maxHeartbeats 4000000 in
set_option maxRecDepth 100000 in
theorem c_X6_stitchCount {G : zG} (hg : zGN G) (l : Launch) (D : va_G) (cy : Nat → ClassId) (x9 : Nat) (th : Int32) (ch : Nat) (era : Int32) (why : Int32) (det : Int32) (cau : Int32) (sv : Bool) (rj : Bool) (v9 : Nat) (b9 : Nat) (s9 : Nat) (k9 : Nat) (p9 : Nat) (t9 : Nat) (n9 : Nat) (tn : Nat) (he : Nat) (en : Nat) (ln : Nat) (iw : Bool) (dg : Bool) (v : Nat → Int32) (cn : Nat) (hv5 : v 5 = nI cn) (hcn : cn ≤ 30) : zM G D vwCl (zT cy) l yX6_stitchCount wsX6_stitchCount rmX6_stitchCount [.ref x9] [(x9, .inr (10, [.int th, .int (nI ch), .int era, .int why, .int det, .int cau, .int (zI sv), .int (zI rj), .ref v9, .ref b9, .ref s9, .ref k9, .ref p9, .ref t9, .ref n9, .int (nI tn), .int (nI he), .int (nI en), .int (nI ln), .int (zI iw), .int (zI dg)])), (v9, .inl (cy 0, 188, .inl v))] (some (.int (zsc6 v cn))) [(x9, .inr (10, [.int 0, .int (nI ch), .int era, .int why, .int det, .int cau, .int (zI sv), .int (zI rj), .ref v9, .ref b9, .ref s9, .ref k9, .ref p9, .ref t9, .ref n9, .int (nI tn), .int (nI he), .int (nI en), .int (nI ln), .int (zI iw), .int (zI dg)])), (v9, .inl (cy 0, 188, .inl v))] := by
  refine zM_of (cc := cX6_stitchCount) (maxL := 1) (ret := (some .int)) (by decide) rfl (Nat.le_of_ble_eq_true rfl) ?_
  intro p e s m below meth c A Q hend hx hb hml hr hts hown hlk hG hK hP hD hA hS ls hl
  have hown : s.vm.findClass RX6 = some m.cls := hown
  have in_RX6 : ∀ w ∈ u_ws RX6 TX6 21, w ∈ wsX6_stitchCount := by decide +kernel
  have hl : lv_has ls 1 [(0, .ref x9)] := hl
  refine lv_aload_n hx hb dX6_stitchCount_0 rfl (lv_at hl 0 rfl) ?_
  refine lv_iconst (v := 0) hx hb dX6_stitchCount_1 (by decide) ?_
  refine va_put (D := D) (ci := 10) (v := .int 0) (ty := .int) (C := RX6) (T := TX6) (N := 21) hx hb hts in_RX6 tyX6 tyX6_ok nmX6 hown hK hP hD hS 0 rfl rfl 0 (by decide) (hts _ (List.mem_of_getElem? (i := 1) rfl)) (fun _ h9 => h9) rfl (by decide +kernel) rfl rfl (Nat.le_of_ble_eq_true rfl) dX6_stitchCount_2 (fun H locs hP hD hS => ?_)
  have hP : va_P D vwCl [(x9, .inr (10, [.int 0, .int (nI ch), .int era, .int why, .int det, .int cau, .int (zI sv), .int (zI rj), .ref v9, .ref b9, .ref s9, .ref k9, .ref p9, .ref t9, .ref n9, .int (nI tn), .int (nI he), .int (nI en), .int (nI ln), .int (zI iw), .int (zI dg)])), (v9, .inl (cy 0, 188, .inl v))] H := hP
  have hD : va_D A [(x9, .inr (10, [.int 0, .int (nI ch), .int era, .int why, .int det, .int cau, .int (zI sv), .int (zI rj), .ref v9, .ref b9, .ref s9, .ref k9, .ref p9, .ref t9, .ref n9, .int (nI tn), .int (nI he), .int (nI en), .int (nI ln), .int (zI iw), .int (zI dg)])), (v9, .inl (cy 0, 188, .inl v))] := hD
  refine lv_aload_n hx hb dX6_stitchCount_5 rfl (lv_at hl 0 rfl) ?_
  refine zcV (As := []) (rest := []) [0, 1] 0 hg.1 ⟨hx, hb, hml, hown, hts⟩ (c_X6_stitches hg l D cy x9 0 ch era why det cau sv rj v9 b9 s9 k9 p9 t9 n9 tn he en ln iw dg v cn (by first | assumption | omega) (by first | assumption | omega)) (cwV 0 hts gX6_stitchCount_X6_stitches rfl rfl rfl (by decide +kernel) ⟨Nat.le_of_ble_eq_true rfl, Nat.le_of_ble_eq_true rfl⟩) hG hK hP hD hS hA rfl rfl rfl rfl rfl rfl hl.1 rfl (Nat.le_of_ble_eq_true rfl) dX6_stitchCount_6 ⟨Nat.zero_le _, Nat.zero_le _⟩ (fun H locs hP hD hS => ?_)
  have hP : va_P D vwCl [(x9, .inr (10, [.int 0, .int (nI ch), .int era, .int why, .int det, .int cau, .int (zI sv), .int (zI rj), .ref v9, .ref b9, .ref s9, .ref k9, .ref p9, .ref t9, .ref n9, .int (nI tn), .int (nI he), .int (nI en), .int (nI ln), .int (zI iw), .int (zI dg)])), (v9, .inl (cy 0, 188, .inl v))] H := hP
  have hD : va_D A [(x9, .inr (10, [.int 0, .int (nI ch), .int era, .int why, .int det, .int cau, .int (zI sv), .int (zI rj), .ref v9, .ref b9, .ref s9, .ref k9, .ref p9, .ref t9, .ref n9, .int (nI tn), .int (nI he), .int (nI en), .int (nI ln), .int (zI iw), .int (zI dg)])), (v9, .inl (cy 0, 188, .inl v))] := hD
  exact ziret hend hx hb hr hlk hK hP hD hS dX6_stitchCount_9 rfl rfl

abbrev rmX6_courseByWidth_ok : Room := { frames := 0, cells := 0, slots := 0, locals := 0 }
set_option maxHeartbeats 4000000 in
set_option maxRecDepth 100000 in
theorem c_X6_courseByWidth_ok {G : zG} (hg : zGN G) (l : Launch) (D : va_G) (cy : Nat → ClassId) (x9 : Nat) (th : Int32) (ch : Nat) (era : Int32) (why : Int32) (det : Int32) (cau : Int32) (sv : Bool) (rj : Bool) (v9 : Nat) (b9 : Nat) (s9 : Nat) (k9 : Nat) (p9 : Nat) (t9 : Nat) (n9 : Nat) (tn : Nat) (he : Nat) (en : Nat) (ln : Nat) (iw : Bool) (dg : Bool) (v : Nat → Int32) (cn : Nat) (ps : Int32) (hv5 : v 5 = nI cn) (hcn : cn ≤ 30) (hz : ¬ zfi (fun q => decide (zps6 v q cn = ps)) cn 0 = -1) : zM G D vwCl (zT cy) l yX6_courseByWidth wsX6_courseByWidth rmX6_courseByWidth_ok [.ref x9, .int ps] [(x9, .inr (10, [.int th, .int (nI ch), .int era, .int why, .int det, .int cau, .int (zI sv), .int (zI rj), .ref v9, .ref b9, .ref s9, .ref k9, .ref p9, .ref t9, .ref n9, .int (nI tn), .int (nI he), .int (nI en), .int (nI ln), .int (zI iw), .int (zI dg)])), (v9, .inl (cy 0, 188, .inl v))] (some (.int (zfi (fun q => decide (zps6 v q cn = ps)) cn 0))) [(x9, .inr (10, [.int 0, .int (nI ch), .int era, .int why, .int det, .int cau, .int (zI sv), .int (zI rj), .ref v9, .ref b9, .ref s9, .ref k9, .ref p9, .ref t9, .ref n9, .int (nI tn), .int (nI he), .int (nI en), .int (nI ln), .int (zI iw), .int (zI dg)])), (v9, .inl (cy 0, 188, .inl v))] := by
  refine zM_of (cc := cX6_courseByWidth) (maxL := 6) (ret := (some .int)) (by decide) rfl (Nat.le_of_ble_eq_true rfl) ?_
  intro p e s m below meth c A Q hend hx hb hml hr hts hown hlk hG hK hP hD hA hS ls hl
  have hown : s.vm.findClass RX6 = some m.cls := hown
  have in_RX6 : ∀ w ∈ u_ws RX6 TX6 21, w ∈ wsX6_courseByWidth := by decide +kernel
  have hl : lv_has ls 6 [(0, .ref x9), (1, .int ps)] := hl
  refine lv_aload_n hx hb dX6_courseByWidth_0 rfl (lv_at hl 0 rfl) ?_
  refine lv_iconst (v := 0) hx hb dX6_courseByWidth_1 (by decide) ?_
  refine va_put (D := D) (ci := 10) (v := .int 0) (ty := .int) (C := RX6) (T := TX6) (N := 21) hx hb hts in_RX6 tyX6 tyX6_ok nmX6 hown hK hP hD hS 0 rfl rfl 0 (by decide) (hts _ (List.mem_of_getElem? (i := 1) rfl)) (fun _ h9 => h9) rfl (by decide +kernel) rfl rfl (Nat.le_of_ble_eq_true rfl) dX6_courseByWidth_2 (fun H locs hP hD hS => ?_)
  have hP : va_P D vwCl [(x9, .inr (10, [.int 0, .int (nI ch), .int era, .int why, .int det, .int cau, .int (zI sv), .int (zI rj), .ref v9, .ref b9, .ref s9, .ref k9, .ref p9, .ref t9, .ref n9, .int (nI tn), .int (nI he), .int (nI en), .int (nI ln), .int (zI iw), .int (zI dg)])), (v9, .inl (cy 0, 188, .inl v))] H := hP
  have hD : va_D A [(x9, .inr (10, [.int 0, .int (nI ch), .int era, .int why, .int det, .int cau, .int (zI sv), .int (zI rj), .ref v9, .ref b9, .ref s9, .ref k9, .ref p9, .ref t9, .ref n9, .int (nI tn), .int (nI he), .int (nI en), .int (nI ln), .int (zI iw), .int (zI dg)])), (v9, .inl (cy 0, 188, .inl v))] := hD
  refine lv_iconst (v := 0) hx hb dX6_courseByWidth_5 (by decide) ?_
  refine lv_istore_n (lv' := [(2, .int 0), (0, .ref x9), (1, .int ps)]) hx hb dX6_courseByWidth_6 rfl hl (by decide) rfl (fun ls hl => ?_)
  have L7 : ∀ (F : Nat) (i : Nat), i ≤ cn → zfi (fun q => decide (zps6 v q cn = ps)) cn 0 = zfi (fun q => decide (zps6 v q cn = ps)) (cn - i) i → cn - i < F → ∀ (H : Heap) (locs : List Loc), va_P D vwCl [(x9, .inr (10, [.int 0, .int (nI ch), .int era, .int why, .int det, .int cau, .int (zI sv), .int (zI rj), .ref v9, .ref b9, .ref s9, .ref k9, .ref p9, .ref t9, .ref n9, .int (nI tn), .int (nI he), .int (nI en), .int (nI ln), .int (zI iw), .int (zI dg)])), (v9, .inl (cy 0, 188, .inl v))] H → va_D A [(x9, .inr (10, [.int 0, .int (nI ch), .int era, .int why, .int det, .int cau, .int (zI sv), .int (zI rj), .ref v9, .ref b9, .ref s9, .ref k9, .ref p9, .ref t9, .ref n9, .int (nI tn), .int (nI he), .int (nI en), .int (nI ln), .int (zI iw), .int (zI dg)])), (v9, .inl (cy 0, 188, .inl v))] → va_S A s.heap H locs → ∀ ls : Array Slot, lv_has ls 6 [(0, .ref x9), (1, .int ps), (2, .int (nI i))] → W p l e rmX6_courseByWidth_ok s m ([.ref x9, .int ps] : List Value).toArray below meth c H locs 0 0 Q (F0 m 7 ls []) := by
    intro F
    induction F with
    | zero =>
      intro i hi hr2 hF H locs hP hD hS ls hl
      exact absurd hF (Nat.not_lt_zero _)
    | succ F ih7 =>
      intro i hi hr2 hF H locs hP hD hS ls hl
      refine lv_iload_n hx hb dX6_courseByWidth_7 rfl (lv_at hl 2 rfl) ?_
      refine lv_aload_n hx hb dX6_courseByWidth_8 rfl (lv_at hl 0 rfl) ?_
      refine va_get (D := D) (ci := 10) (v := .ref v9) (C := RX6) (T := TX6) (N := 21) hx hb hts in_RX6 hown hK hP 0 rfl rfl 8 (by decide) (hts _ (List.mem_of_getElem? (i := 2) rfl)) (fun _ h9 => h9) rfl dX6_courseByWidth_9 ?_
      refine lv_iconst (v := 5) hx hb dX6_courseByWidth_12 (by decide) ?_
      refine ziald 1 0 5 hx hb hK hP rfl rfl (by omega) (z_lt rfl) dX6_courseByWidth_13 ?_
      refine z_top (y := nI cn) (hv5) ?_
      refine lv_icmp_ge (tgt := 142) hx hb dX6_courseByWidth_14 (by decide) (fun c_1 => ?_) (fun c_1 => ?_)
      · have hk2 : cn ≤ i := (nI_leI (by omega) (by omega)).mp c_1
        obtain rfl : cn = i := by omega
        exact absurd (by rw [hr2, Nat.sub_self]; rfl) hz
      · have hk2 : i < cn := Nat.lt_of_not_le (fun z => c_1 (nI_le z (by omega)))
        refine lv_iconst (v := 0) hx hb dX6_courseByWidth_17 (by decide) ?_
        refine lv_istore_n (lv' := [(3, .int 0), (0, .ref x9), (1, .int ps), (2, .int (nI i))]) hx hb dX6_courseByWidth_18 rfl hl (by decide) rfl (fun ls hl => ?_)
        refine lv_iconst (v := 0) hx hb dX6_courseByWidth_19 (by decide) ?_
        refine lv_istore (lv' := [(4, .int 0), (3, .int 0), (0, .ref x9), (1, .int ps), (2, .int (nI i))]) hx hb dX6_courseByWidth_20 hl (by decide) rfl (fun ls hl => ?_)
        have L22 : ∀ (F : Nat) (j : Nat) (x22_0 : Int32), j ≤ cn → cn - j < F → x22_0 = zps6 v i j → ∀ (H : Heap) (locs : List Loc), va_P D vwCl [(x9, .inr (10, [.int 0, .int (nI ch), .int era, .int why, .int det, .int cau, .int (zI sv), .int (zI rj), .ref v9, .ref b9, .ref s9, .ref k9, .ref p9, .ref t9, .ref n9, .int (nI tn), .int (nI he), .int (nI en), .int (nI ln), .int (zI iw), .int (zI dg)])), (v9, .inl (cy 0, 188, .inl v))] H → va_D A [(x9, .inr (10, [.int 0, .int (nI ch), .int era, .int why, .int det, .int cau, .int (zI sv), .int (zI rj), .ref v9, .ref b9, .ref s9, .ref k9, .ref p9, .ref t9, .ref n9, .int (nI tn), .int (nI he), .int (nI en), .int (nI ln), .int (zI iw), .int (zI dg)])), (v9, .inl (cy 0, 188, .inl v))] → va_S A s.heap H locs → ∀ ls : Array Slot, lv_has ls 6 [(0, .ref x9), (1, .int ps), (2, .int (nI i)), (3, .int x22_0), (4, .int (nI j))] → W p l e rmX6_courseByWidth_ok s m ([.ref x9, .int ps] : List Value).toArray below meth c H locs 0 0 Q (F0 m 22 ls []) := by
          intro F
          induction F with
          | zero =>
            intro j x22_0 hj hF ex22_0 H locs hP hD hS ls hl
            exact absurd hF (Nat.not_lt_zero _)
          | succ F ih22 =>
            intro j x22_0 hj hF ex22_0 H locs hP hD hS ls hl
            subst ex22_0
            refine lv_iload hx hb dX6_courseByWidth_22 (lv_at hl 4 rfl) ?_
            refine lv_aload_n hx hb dX6_courseByWidth_24 rfl (lv_at hl 0 rfl) ?_
            refine va_get (D := D) (ci := 10) (v := .ref v9) (C := RX6) (T := TX6) (N := 21) hx hb hts in_RX6 hown hK hP 0 rfl rfl 8 (by decide) (hts _ (List.mem_of_getElem? (i := 2) rfl)) (fun _ h9 => h9) rfl dX6_courseByWidth_25 ?_
            refine lv_iconst (v := 5) hx hb dX6_courseByWidth_28 (by decide) ?_
            refine ziald 1 0 5 hx hb hK hP rfl rfl (by omega) (z_lt rfl) dX6_courseByWidth_29 ?_
            refine z_top (y := nI cn) (hv5) ?_
            refine lv_icmp_ge (tgt := 129) hx hb dX6_courseByWidth_30 (by decide) (fun c_2 => ?_) (fun c_2 => ?_)
            · have hk2 : cn ≤ j := (nI_leI (by omega) (by omega)).mp c_2
              obtain rfl : cn = j := by omega
              refine lv_iload_n hx hb dX6_courseByWidth_129 rfl (lv_at hl 3 rfl) ?_
              refine lv_iload_n hx hb dX6_courseByWidth_130 rfl (lv_at hl 1 rfl) ?_
              refine lv_icmp_ne (tgt := 136) hx hb dX6_courseByWidth_131 (by decide) (fun c_3 => ?_) (fun c_3 => ?_)
              · refine lv_iinc (v := nI (i + 1)) (lv' := [(2, .int (nI (i + 1))), (0, .ref x9), (1, .int ps), (3, .int (zps6 v i cn)), (4, .int (nI cn))]) hx hb dX6_courseByWidth_136 hl (k := 2) rfl (by rw [show Int32.ofInt 1 = nI 1 from rfl, nI_add]) (by decide) rfl (fun ls hl => ?_)
                refine lv_goto (tgt := 7) hx hb dX6_courseByWidth_139 (by decide) ?_
                exact ih7 (i + 1) (by omega) (by rw [hr2, show cn - i = (cn - (i + 1)) + 1 by omega, zfi]; simp [c_2, c_3]) (by omega) H locs hP hD hS ls (lv_sub hl [1, 2, 0] rfl)
              · refine lv_iload_n hx hb dX6_courseByWidth_134 rfl (lv_at hl 2 rfl) ?_
                exact ziret hend hx hb hr hlk hK hP hD hS dX6_courseByWidth_135 (Eq.symm (by rw [hr2, show cn - i = (cn - (i + 1)) + 1 by omega, zfi]; simp [c_2, c_3])) rfl
            · have hk2 : j < cn := Nat.lt_of_not_le (fun z => c_2 (nI_le z (by omega)))
              refine lv_aload_n hx hb dX6_courseByWidth_33 rfl (lv_at hl 0 rfl) ?_
              refine va_get (D := D) (ci := 10) (v := .ref v9) (C := RX6) (T := TX6) (N := 21) hx hb hts in_RX6 hown hK hP 0 rfl rfl 8 (by decide) (hts _ (List.mem_of_getElem? (i := 2) rfl)) (fun _ h9 => h9) rfl dX6_courseByWidth_34 ?_
              refine lv_bipush (v := 68) hx hb dX6_courseByWidth_37 (by decide) ?_
              refine lv_iconst (v := 4) hx hb dX6_courseByWidth_39 (by decide) ?_
              refine lv_iload hx hb dX6_courseByWidth_40 (lv_at hl 4 rfl) ?_
              refine lv_imul hx hb dX6_courseByWidth_42 ?_
              refine z_top (y := nI (4 * j)) (pk_mul 4 j) ?_
              refine lv_iadd hx hb dX6_courseByWidth_43 ?_
              refine z_top (y := nI (68 + (4 * j))) (nI_add 68 (4 * j)) ?_
              refine ziald 1 0 (68 + (4 * j)) hx hb hK hP rfl rfl (by omega) (z_lt rfl) dX6_courseByWidth_44 ?_
              refine lv_aload_n hx hb dX6_courseByWidth_45 rfl (lv_at hl 0 rfl) ?_
              refine va_get (D := D) (ci := 10) (v := .ref v9) (C := RX6) (T := TX6) (N := 21) hx hb hts in_RX6 hown hK hP 0 rfl rfl 8 (by decide) (hts _ (List.mem_of_getElem? (i := 2) rfl)) (fun _ h9 => h9) rfl dX6_courseByWidth_46 ?_
              refine lv_bipush (v := 68) hx hb dX6_courseByWidth_49 (by decide) ?_
              refine lv_iconst (v := 4) hx hb dX6_courseByWidth_51 (by decide) ?_
              refine lv_iload_n hx hb dX6_courseByWidth_52 rfl (lv_at hl 2 rfl) ?_
              refine lv_imul hx hb dX6_courseByWidth_53 ?_
              refine z_top (y := nI (4 * i)) (pk_mul 4 i) ?_
              refine lv_iadd hx hb dX6_courseByWidth_54 ?_
              refine z_top (y := nI (68 + (4 * i))) (nI_add 68 (4 * i)) ?_
              refine ziald 1 0 (68 + (4 * i)) hx hb hK hP rfl rfl (by omega) (z_lt rfl) dX6_courseByWidth_55 ?_
              refine lv_isub hx hb dX6_courseByWidth_56 ?_
              refine lv_istore (lv' := [(5, .int ((v (68 + (4 * j))) - (v (68 + (4 * i))))), (0, .ref x9), (1, .int ps), (2, .int (nI i)), (3, .int (zps6 v i j)), (4, .int (nI j))]) hx hb dX6_courseByWidth_57 hl (by decide) rfl (fun ls hl => ?_)
              refine lv_iload hx hb dX6_courseByWidth_59 (lv_at hl 0 rfl) ?_
              refine lv_if_eq (tgt := 69) hx hb dX6_courseByWidth_61 (by decide) (fun c_4 => ?_) (fun c_4 => ?_)
              · refine lv_aload_n hx hb dX6_courseByWidth_69 rfl (lv_at hl 1 rfl) ?_
                refine va_get (D := D) (ci := 10) (v := .ref v9) (C := RX6) (T := TX6) (N := 21) hx hb hts in_RX6 hown hK hP 0 rfl rfl 8 (by decide) (hts _ (List.mem_of_getElem? (i := 2) rfl)) (fun _ h9 => h9) rfl dX6_courseByWidth_70 ?_
                refine lv_bipush (v := 68) hx hb dX6_courseByWidth_73 (by decide) ?_
                refine lv_iconst (v := 4) hx hb dX6_courseByWidth_75 (by decide) ?_
                refine lv_iload_n hx hb dX6_courseByWidth_76 rfl (lv_at hl 3 rfl) ?_
                refine lv_imul hx hb dX6_courseByWidth_77 ?_
                refine z_top (y := nI (4 * i)) (pk_mul 4 i) ?_
                refine lv_iadd hx hb dX6_courseByWidth_78 ?_
                refine z_top (y := nI (68 + (4 * i))) (nI_add 68 (4 * i)) ?_
                refine lv_iconst (v := 3) hx hb dX6_courseByWidth_79 (by decide) ?_
                refine lv_iadd hx hb dX6_courseByWidth_80 ?_
                refine z_top (y := nI ((68 + (4 * i)) + 3)) (nI_add (68 + (4 * i)) 3) ?_
                refine ziald 1 0 ((68 + (4 * i)) + 3) hx hb hK hP rfl rfl (by omega) (z_lt rfl) dX6_courseByWidth_81 ?_
                refine lv_aload_n hx hb dX6_courseByWidth_82 rfl (lv_at hl 1 rfl) ?_
                refine va_get (D := D) (ci := 10) (v := .ref v9) (C := RX6) (T := TX6) (N := 21) hx hb hts in_RX6 hown hK hP 0 rfl rfl 8 (by decide) (hts _ (List.mem_of_getElem? (i := 2) rfl)) (fun _ h9 => h9) rfl dX6_courseByWidth_83 ?_
                refine lv_bipush (v := 68) hx hb dX6_courseByWidth_86 (by decide) ?_
                refine lv_iconst (v := 4) hx hb dX6_courseByWidth_88 (by decide) ?_
                refine lv_iload hx hb dX6_courseByWidth_89 (lv_at hl 5 rfl) ?_
                refine lv_imul hx hb dX6_courseByWidth_91 ?_
                refine z_top (y := nI (4 * j)) (pk_mul 4 j) ?_
                refine lv_iadd hx hb dX6_courseByWidth_92 ?_
                refine z_top (y := nI (68 + (4 * j))) (nI_add 68 (4 * j)) ?_
                refine lv_iconst (v := 3) hx hb dX6_courseByWidth_93 (by decide) ?_
                refine lv_iadd hx hb dX6_courseByWidth_94 ?_
                refine z_top (y := nI ((68 + (4 * j)) + 3)) (nI_add (68 + (4 * j)) 3) ?_
                refine ziald 1 0 ((68 + (4 * j)) + 3) hx hb hK hP rfl rfl (by omega) (z_lt rfl) dX6_courseByWidth_95 ?_
                refine lv_isub hx hb dX6_courseByWidth_96 ?_
                refine lv_istore (lv' := [(5, .int ((v ((68 + (4 * i)) + 3)) - (v ((68 + (4 * j)) + 3)))), (0, .ref x9), (1, .int ps), (2, .int (nI i)), (3, .int (zps6 v i j)), (4, .int (nI j))]) hx hb dX6_courseByWidth_97 hl (by decide) rfl (fun ls hl => ?_)
                refine lv_iload_n hx hb dX6_courseByWidth_99 rfl (lv_at hl 4 rfl) ?_
                refine lv_iload hx hb dX6_courseByWidth_100 (lv_at hl 0 rfl) ?_
                refine lv_if_gt (tgt := 116) hx hb dX6_courseByWidth_102 (by decide) (fun c_5 => ?_) (fun c_5 => ?_)
                · refine lv_iconst (v := 1) hx hb dX6_courseByWidth_116 (by decide) ?_
                  refine lv_goto (tgt := 121) hx hb dX6_courseByWidth_117 (by decide) ?_
                  refine lv_iadd hx hb dX6_courseByWidth_121 ?_
                  refine lv_istore_n (lv' := [(3, .int ((zps6 v i j) + 1)), (5, .int ((v ((68 + (4 * i)) + 3)) - (v ((68 + (4 * j)) + 3)))), (0, .ref x9), (1, .int ps), (2, .int (nI i)), (4, .int (nI j))]) hx hb dX6_courseByWidth_122 rfl hl (by decide) rfl (fun ls hl => ?_)
                  refine lv_iinc (v := nI (j + 1)) (lv' := [(4, .int (nI (j + 1))), (3, .int ((zps6 v i j) + 1)), (5, .int ((v ((68 + (4 * i)) + 3)) - (v ((68 + (4 * j)) + 3)))), (0, .ref x9), (1, .int ps), (2, .int (nI i))]) hx hb dX6_courseByWidth_123 hl (k := 5) rfl (by rw [show Int32.ofInt 1 = nI 1 from rfl, nI_add]) (by decide) rfl (fun ls hl => ?_)
                  refine lv_goto (tgt := 22) hx hb dX6_courseByWidth_126 (by decide) ?_
                  exact ih22 (j + 1) ((zps6 v i j) + 1) (by omega) (by omega) (by first | (simp only [zps6, zcb6, c_2, c_4, c_5, decide_true, decide_false, Bool.not_true, Bool.not_false, Bool.and_true, Bool.true_and, Bool.and_false, Bool.false_and, Bool.or_false, Bool.false_or, Bool.or_true, Bool.true_or, ↓reduceIte, Bool.false_eq_true, not_true_eq_false, not_false_eq_true, and_self]; done) | (simp [zps6, zcb6, c_2, c_4, c_5]; done) | (simp_all [zps6, zcb6]; done)) H locs hP hD hS ls (lv_sub hl [3, 4, 5, 1, 0] rfl)
                · refine lv_iload hx hb dX6_courseByWidth_105 (lv_at hl 0 rfl) ?_
                  refine lv_if_ne (tgt := 120) hx hb dX6_courseByWidth_107 (by decide) (fun c_6 => ?_) (fun c_6 => ?_)
                  · refine lv_iconst (v := 0) hx hb dX6_courseByWidth_120 (by decide) ?_
                    refine lv_iadd hx hb dX6_courseByWidth_121 ?_
                    refine lv_istore_n (lv' := [(3, .int ((zps6 v i j) + 0)), (5, .int ((v ((68 + (4 * i)) + 3)) - (v ((68 + (4 * j)) + 3)))), (0, .ref x9), (1, .int ps), (2, .int (nI i)), (4, .int (nI j))]) hx hb dX6_courseByWidth_122 rfl hl (by decide) rfl (fun ls hl => ?_)
                    refine lv_iinc (v := nI (j + 1)) (lv' := [(4, .int (nI (j + 1))), (3, .int ((zps6 v i j) + 0)), (5, .int ((v ((68 + (4 * i)) + 3)) - (v ((68 + (4 * j)) + 3)))), (0, .ref x9), (1, .int ps), (2, .int (nI i))]) hx hb dX6_courseByWidth_123 hl (k := 5) rfl (by rw [show Int32.ofInt 1 = nI 1 from rfl, nI_add]) (by decide) rfl (fun ls hl => ?_)
                    refine lv_goto (tgt := 22) hx hb dX6_courseByWidth_126 (by decide) ?_
                    exact ih22 (j + 1) ((zps6 v i j) + 0) (by omega) (by omega) (by first | (simp only [zps6, zcb6, c_2, c_4, c_5, c_6, decide_true, decide_false, Bool.not_true, Bool.not_false, Bool.and_true, Bool.true_and, Bool.and_false, Bool.false_and, Bool.or_false, Bool.false_or, Bool.or_true, Bool.true_or, ↓reduceIte, Bool.false_eq_true, not_true_eq_false, not_false_eq_true, and_self]; done) | (simp [zps6, zcb6, c_2, c_4, c_5, c_6]; done) | (simp_all [zps6, zcb6]; done)) H locs hP hD hS ls (lv_sub hl [3, 4, 5, 1, 0] rfl)
                  · refine lv_iload hx hb dX6_courseByWidth_110 (lv_at hl 5 rfl) ?_
                    refine lv_iload_n hx hb dX6_courseByWidth_112 rfl (lv_at hl 3 rfl) ?_
                    refine lv_icmp_ge (tgt := 120) hx hb dX6_courseByWidth_113 (by decide) (fun c_7 => ?_) (fun c_7 => ?_)
                    · refine lv_iconst (v := 0) hx hb dX6_courseByWidth_120 (by decide) ?_
                      refine lv_iadd hx hb dX6_courseByWidth_121 ?_
                      refine lv_istore_n (lv' := [(3, .int ((zps6 v i j) + 0)), (5, .int ((v ((68 + (4 * i)) + 3)) - (v ((68 + (4 * j)) + 3)))), (0, .ref x9), (1, .int ps), (2, .int (nI i)), (4, .int (nI j))]) hx hb dX6_courseByWidth_122 rfl hl (by decide) rfl (fun ls hl => ?_)
                      refine lv_iinc (v := nI (j + 1)) (lv' := [(4, .int (nI (j + 1))), (3, .int ((zps6 v i j) + 0)), (5, .int ((v ((68 + (4 * i)) + 3)) - (v ((68 + (4 * j)) + 3)))), (0, .ref x9), (1, .int ps), (2, .int (nI i))]) hx hb dX6_courseByWidth_123 hl (k := 5) rfl (by rw [show Int32.ofInt 1 = nI 1 from rfl, nI_add]) (by decide) rfl (fun ls hl => ?_)
                      refine lv_goto (tgt := 22) hx hb dX6_courseByWidth_126 (by decide) ?_
                      exact ih22 (j + 1) ((zps6 v i j) + 0) (by omega) (by omega) (by first | (simp only [zps6, zcb6, c_2, c_4, c_5, c_6, c_7, decide_true, decide_false, Bool.not_true, Bool.not_false, Bool.and_true, Bool.true_and, Bool.and_false, Bool.false_and, Bool.or_false, Bool.false_or, Bool.or_true, Bool.true_or, ↓reduceIte, Bool.false_eq_true, not_true_eq_false, not_false_eq_true, and_self]; done) | (simp [zps6, zcb6, c_2, c_4, c_5, c_6, c_7]; done) | (simp_all [zps6, zcb6]; done)) H locs hP hD hS ls (lv_sub hl [3, 4, 5, 1, 0] rfl)
                    · refine lv_iconst (v := 1) hx hb dX6_courseByWidth_116 (by decide) ?_
                      refine lv_goto (tgt := 121) hx hb dX6_courseByWidth_117 (by decide) ?_
                      refine lv_iadd hx hb dX6_courseByWidth_121 ?_
                      refine lv_istore_n (lv' := [(3, .int ((zps6 v i j) + 1)), (5, .int ((v ((68 + (4 * i)) + 3)) - (v ((68 + (4 * j)) + 3)))), (0, .ref x9), (1, .int ps), (2, .int (nI i)), (4, .int (nI j))]) hx hb dX6_courseByWidth_122 rfl hl (by decide) rfl (fun ls hl => ?_)
                      refine lv_iinc (v := nI (j + 1)) (lv' := [(4, .int (nI (j + 1))), (3, .int ((zps6 v i j) + 1)), (5, .int ((v ((68 + (4 * i)) + 3)) - (v ((68 + (4 * j)) + 3)))), (0, .ref x9), (1, .int ps), (2, .int (nI i))]) hx hb dX6_courseByWidth_123 hl (k := 5) rfl (by rw [show Int32.ofInt 1 = nI 1 from rfl, nI_add]) (by decide) rfl (fun ls hl => ?_)
                      refine lv_goto (tgt := 22) hx hb dX6_courseByWidth_126 (by decide) ?_
                      exact ih22 (j + 1) ((zps6 v i j) + 1) (by omega) (by omega) (by first | (simp only [zps6, zcb6, c_2, c_4, c_5, c_6, c_7, decide_true, decide_false, Bool.not_true, Bool.not_false, Bool.and_true, Bool.true_and, Bool.and_false, Bool.false_and, Bool.or_false, Bool.false_or, Bool.or_true, Bool.true_or, ↓reduceIte, Bool.false_eq_true, not_true_eq_false, not_false_eq_true, and_self]; done) | (simp [zps6, zcb6, c_2, c_4, c_5, c_6, c_7]; done) | (simp_all [zps6, zcb6]; done)) H locs hP hD hS ls (lv_sub hl [3, 4, 5, 1, 0] rfl)
              · refine lv_iload hx hb dX6_courseByWidth_64 (lv_at hl 0 rfl) ?_
                refine lv_goto (tgt := 97) hx hb dX6_courseByWidth_66 (by decide) ?_
                refine lv_istore (lv' := [(5, .int ((v (68 + (4 * j))) - (v (68 + (4 * i))))), (0, .ref x9), (1, .int ps), (2, .int (nI i)), (3, .int (zps6 v i j)), (4, .int (nI j))]) hx hb dX6_courseByWidth_97 hl (by decide) rfl (fun ls hl => ?_)
                refine lv_iload_n hx hb dX6_courseByWidth_99 rfl (lv_at hl 4 rfl) ?_
                refine lv_iload hx hb dX6_courseByWidth_100 (lv_at hl 0 rfl) ?_
                refine lv_if_gt (tgt := 116) hx hb dX6_courseByWidth_102 (by decide) (fun c_8 => ?_) (fun c_8 => ?_)
                · refine lv_iconst (v := 1) hx hb dX6_courseByWidth_116 (by decide) ?_
                  refine lv_goto (tgt := 121) hx hb dX6_courseByWidth_117 (by decide) ?_
                  refine lv_iadd hx hb dX6_courseByWidth_121 ?_
                  refine lv_istore_n (lv' := [(3, .int ((zps6 v i j) + 1)), (5, .int ((v (68 + (4 * j))) - (v (68 + (4 * i))))), (0, .ref x9), (1, .int ps), (2, .int (nI i)), (4, .int (nI j))]) hx hb dX6_courseByWidth_122 rfl hl (by decide) rfl (fun ls hl => ?_)
                  refine lv_iinc (v := nI (j + 1)) (lv' := [(4, .int (nI (j + 1))), (3, .int ((zps6 v i j) + 1)), (5, .int ((v (68 + (4 * j))) - (v (68 + (4 * i))))), (0, .ref x9), (1, .int ps), (2, .int (nI i))]) hx hb dX6_courseByWidth_123 hl (k := 5) rfl (by rw [show Int32.ofInt 1 = nI 1 from rfl, nI_add]) (by decide) rfl (fun ls hl => ?_)
                  refine lv_goto (tgt := 22) hx hb dX6_courseByWidth_126 (by decide) ?_
                  exact ih22 (j + 1) ((zps6 v i j) + 1) (by omega) (by omega) (by first | (simp only [zps6, zcb6, c_2, c_4, c_8, decide_true, decide_false, Bool.not_true, Bool.not_false, Bool.and_true, Bool.true_and, Bool.and_false, Bool.false_and, Bool.or_false, Bool.false_or, Bool.or_true, Bool.true_or, ↓reduceIte, Bool.false_eq_true, not_true_eq_false, not_false_eq_true, and_self]; done) | (simp [zps6, zcb6, c_2, c_4, c_8]; done) | (simp_all [zps6, zcb6]; done)) H locs hP hD hS ls (lv_sub hl [3, 4, 5, 1, 0] rfl)
                · refine lv_iload hx hb dX6_courseByWidth_105 (lv_at hl 0 rfl) ?_
                  refine lv_if_ne (tgt := 120) hx hb dX6_courseByWidth_107 (by decide) (fun c_9 => ?_) (fun c_9 => ?_)
                  · refine lv_iconst (v := 0) hx hb dX6_courseByWidth_120 (by decide) ?_
                    refine lv_iadd hx hb dX6_courseByWidth_121 ?_
                    refine lv_istore_n (lv' := [(3, .int ((zps6 v i j) + 0)), (5, .int ((v (68 + (4 * j))) - (v (68 + (4 * i))))), (0, .ref x9), (1, .int ps), (2, .int (nI i)), (4, .int (nI j))]) hx hb dX6_courseByWidth_122 rfl hl (by decide) rfl (fun ls hl => ?_)
                    refine lv_iinc (v := nI (j + 1)) (lv' := [(4, .int (nI (j + 1))), (3, .int ((zps6 v i j) + 0)), (5, .int ((v (68 + (4 * j))) - (v (68 + (4 * i))))), (0, .ref x9), (1, .int ps), (2, .int (nI i))]) hx hb dX6_courseByWidth_123 hl (k := 5) rfl (by rw [show Int32.ofInt 1 = nI 1 from rfl, nI_add]) (by decide) rfl (fun ls hl => ?_)
                    refine lv_goto (tgt := 22) hx hb dX6_courseByWidth_126 (by decide) ?_
                    exact ih22 (j + 1) ((zps6 v i j) + 0) (by omega) (by omega) (by first | (simp only [zps6, zcb6, c_2, c_4, c_8, c_9, decide_true, decide_false, Bool.not_true, Bool.not_false, Bool.and_true, Bool.true_and, Bool.and_false, Bool.false_and, Bool.or_false, Bool.false_or, Bool.or_true, Bool.true_or, ↓reduceIte, Bool.false_eq_true, not_true_eq_false, not_false_eq_true, and_self]; done) | (simp [zps6, zcb6, c_2, c_4, c_8, c_9]; done) | (simp_all [zps6, zcb6]; done)) H locs hP hD hS ls (lv_sub hl [3, 4, 5, 1, 0] rfl)
                  · refine lv_iload hx hb dX6_courseByWidth_110 (lv_at hl 5 rfl) ?_
                    refine lv_iload_n hx hb dX6_courseByWidth_112 rfl (lv_at hl 3 rfl) ?_
                    refine lv_icmp_ge (tgt := 120) hx hb dX6_courseByWidth_113 (by decide) (fun c_10 => ?_) (fun c_10 => ?_)
                    · refine lv_iconst (v := 0) hx hb dX6_courseByWidth_120 (by decide) ?_
                      refine lv_iadd hx hb dX6_courseByWidth_121 ?_
                      refine lv_istore_n (lv' := [(3, .int ((zps6 v i j) + 0)), (5, .int ((v (68 + (4 * j))) - (v (68 + (4 * i))))), (0, .ref x9), (1, .int ps), (2, .int (nI i)), (4, .int (nI j))]) hx hb dX6_courseByWidth_122 rfl hl (by decide) rfl (fun ls hl => ?_)
                      refine lv_iinc (v := nI (j + 1)) (lv' := [(4, .int (nI (j + 1))), (3, .int ((zps6 v i j) + 0)), (5, .int ((v (68 + (4 * j))) - (v (68 + (4 * i))))), (0, .ref x9), (1, .int ps), (2, .int (nI i))]) hx hb dX6_courseByWidth_123 hl (k := 5) rfl (by rw [show Int32.ofInt 1 = nI 1 from rfl, nI_add]) (by decide) rfl (fun ls hl => ?_)
                      refine lv_goto (tgt := 22) hx hb dX6_courseByWidth_126 (by decide) ?_
                      exact ih22 (j + 1) ((zps6 v i j) + 0) (by omega) (by omega) (by first | (simp only [zps6, zcb6, c_2, c_4, c_8, c_9, c_10, decide_true, decide_false, Bool.not_true, Bool.not_false, Bool.and_true, Bool.true_and, Bool.and_false, Bool.false_and, Bool.or_false, Bool.false_or, Bool.or_true, Bool.true_or, ↓reduceIte, Bool.false_eq_true, not_true_eq_false, not_false_eq_true, and_self]; done) | (simp [zps6, zcb6, c_2, c_4, c_8, c_9, c_10]; done) | (simp_all [zps6, zcb6]; done)) H locs hP hD hS ls (lv_sub hl [3, 4, 5, 1, 0] rfl)
                    · refine lv_iconst (v := 1) hx hb dX6_courseByWidth_116 (by decide) ?_
                      refine lv_goto (tgt := 121) hx hb dX6_courseByWidth_117 (by decide) ?_
                      refine lv_iadd hx hb dX6_courseByWidth_121 ?_
                      refine lv_istore_n (lv' := [(3, .int ((zps6 v i j) + 1)), (5, .int ((v (68 + (4 * j))) - (v (68 + (4 * i))))), (0, .ref x9), (1, .int ps), (2, .int (nI i)), (4, .int (nI j))]) hx hb dX6_courseByWidth_122 rfl hl (by decide) rfl (fun ls hl => ?_)
                      refine lv_iinc (v := nI (j + 1)) (lv' := [(4, .int (nI (j + 1))), (3, .int ((zps6 v i j) + 1)), (5, .int ((v (68 + (4 * j))) - (v (68 + (4 * i))))), (0, .ref x9), (1, .int ps), (2, .int (nI i))]) hx hb dX6_courseByWidth_123 hl (k := 5) rfl (by rw [show Int32.ofInt 1 = nI 1 from rfl, nI_add]) (by decide) rfl (fun ls hl => ?_)
                      refine lv_goto (tgt := 22) hx hb dX6_courseByWidth_126 (by decide) ?_
                      exact ih22 (j + 1) ((zps6 v i j) + 1) (by omega) (by omega) (by first | (simp only [zps6, zcb6, c_2, c_4, c_8, c_9, c_10, decide_true, decide_false, Bool.not_true, Bool.not_false, Bool.and_true, Bool.true_and, Bool.and_false, Bool.false_and, Bool.or_false, Bool.false_or, Bool.or_true, Bool.true_or, ↓reduceIte, Bool.false_eq_true, not_true_eq_false, not_false_eq_true, and_self]; done) | (simp [zps6, zcb6, c_2, c_4, c_8, c_9, c_10]; done) | (simp_all [zps6, zcb6]; done)) H locs hP hD hS ls (lv_sub hl [3, 4, 5, 1, 0] rfl)
        exact L22 (cn - 0 + 1) 0 0 (by omega) (Nat.lt_succ_self _) (by rfl) H locs hP hD hS ls (lv_sub hl [2, 3, 4, 1, 0] rfl)
  exact L7 (cn - 0 + 1) 0 (by omega) rfl (Nat.lt_succ_self _) H locs hP hD hS ls (lv_sub hl [1, 2, 0] rfl)

abbrev rmX6_courseByWidth_bad : Room := { frames := 1, cells := 0, slots := 0, locals := 21 }
set_option maxHeartbeats 4000000 in
set_option maxRecDepth 100000 in
theorem c_X6_courseByWidth_bad {G : zG} (hg : zGN G) (l : Launch) (D : va_G) (cy : Nat → ClassId) (x9 : Nat) (th : Int32) (ch : Nat) (era : Int32) (why : Int32) (det : Int32) (cau : Int32) (sv : Bool) (rj : Bool) (v9 : Nat) (b9 : Nat) (s9 : Nat) (k9 : Nat) (p9 : Nat) (t9 : Nat) (n9 : Nat) (tn : Nat) (he : Nat) (en : Nat) (ln : Nat) (iw : Bool) (dg : Bool) (v : Nat → Int32) (cn : Nat) (ps : Int32) (hv5 : v 5 = nI cn) (hcn : cn ≤ 30) (hz : zfi (fun q => decide (zps6 v q cn = ps)) cn 0 = -1) : zM G D vwCl (zT cy) l yX6_courseByWidth wsX6_courseByWidth rmX6_courseByWidth_bad [.ref x9, .int ps] [(x9, .inr (10, [.int th, .int (nI ch), .int era, .int why, .int det, .int cau, .int (zI sv), .int (zI rj), .ref v9, .ref b9, .ref s9, .ref k9, .ref p9, .ref t9, .ref n9, .int (nI tn), .int (nI he), .int (nI en), .int (nI ln), .int (zI iw), .int (zI dg)])), (v9, .inl (cy 0, 188, .inl v))] (some (.int 0)) [(x9, .inr (10, [.int 1, .int (nI ch), .int era, .int why, .int det, .int cau, .int (zI sv), .int (zI rj), .ref v9, .ref b9, .ref s9, .ref k9, .ref p9, .ref t9, .ref n9, .int (nI tn), .int (nI he), .int (nI en), .int (nI ln), .int (zI iw), .int (zI dg)])), (v9, .inl (cy 0, 188, .inl v))] := by
  refine zM_of (cc := cX6_courseByWidth) (maxL := 6) (ret := (some .int)) (by decide) rfl (Nat.le_of_ble_eq_true rfl) ?_
  intro p e s m below meth c A Q hend hx hb hml hr hts hown hlk hG hK hP hD hA hS ls hl
  have hown : s.vm.findClass RX6 = some m.cls := hown
  have in_RX6 : ∀ w ∈ u_ws RX6 TX6 21, w ∈ wsX6_courseByWidth := by decide +kernel
  have hl : lv_has ls 6 [(0, .ref x9), (1, .int ps)] := hl
  refine lv_aload_n hx hb dX6_courseByWidth_0 rfl (lv_at hl 0 rfl) ?_
  refine lv_iconst (v := 0) hx hb dX6_courseByWidth_1 (by decide) ?_
  refine va_put (D := D) (ci := 10) (v := .int 0) (ty := .int) (C := RX6) (T := TX6) (N := 21) hx hb hts in_RX6 tyX6 tyX6_ok nmX6 hown hK hP hD hS 0 rfl rfl 0 (by decide) (hts _ (List.mem_of_getElem? (i := 1) rfl)) (fun _ h9 => h9) rfl (by decide +kernel) rfl rfl (Nat.le_of_ble_eq_true rfl) dX6_courseByWidth_2 (fun H locs hP hD hS => ?_)
  have hP : va_P D vwCl [(x9, .inr (10, [.int 0, .int (nI ch), .int era, .int why, .int det, .int cau, .int (zI sv), .int (zI rj), .ref v9, .ref b9, .ref s9, .ref k9, .ref p9, .ref t9, .ref n9, .int (nI tn), .int (nI he), .int (nI en), .int (nI ln), .int (zI iw), .int (zI dg)])), (v9, .inl (cy 0, 188, .inl v))] H := hP
  have hD : va_D A [(x9, .inr (10, [.int 0, .int (nI ch), .int era, .int why, .int det, .int cau, .int (zI sv), .int (zI rj), .ref v9, .ref b9, .ref s9, .ref k9, .ref p9, .ref t9, .ref n9, .int (nI tn), .int (nI he), .int (nI en), .int (nI ln), .int (zI iw), .int (zI dg)])), (v9, .inl (cy 0, 188, .inl v))] := hD
  refine lv_iconst (v := 0) hx hb dX6_courseByWidth_5 (by decide) ?_
  refine lv_istore_n (lv' := [(2, .int 0), (0, .ref x9), (1, .int ps)]) hx hb dX6_courseByWidth_6 rfl hl (by decide) rfl (fun ls hl => ?_)
  have L7 : ∀ (F : Nat) (i : Nat), i ≤ cn → zfi (fun q => decide (zps6 v q cn = ps)) cn 0 = zfi (fun q => decide (zps6 v q cn = ps)) (cn - i) i → cn - i < F → ∀ (H : Heap) (locs : List Loc), va_P D vwCl [(x9, .inr (10, [.int 0, .int (nI ch), .int era, .int why, .int det, .int cau, .int (zI sv), .int (zI rj), .ref v9, .ref b9, .ref s9, .ref k9, .ref p9, .ref t9, .ref n9, .int (nI tn), .int (nI he), .int (nI en), .int (nI ln), .int (zI iw), .int (zI dg)])), (v9, .inl (cy 0, 188, .inl v))] H → va_D A [(x9, .inr (10, [.int 0, .int (nI ch), .int era, .int why, .int det, .int cau, .int (zI sv), .int (zI rj), .ref v9, .ref b9, .ref s9, .ref k9, .ref p9, .ref t9, .ref n9, .int (nI tn), .int (nI he), .int (nI en), .int (nI ln), .int (zI iw), .int (zI dg)])), (v9, .inl (cy 0, 188, .inl v))] → va_S A s.heap H locs → ∀ ls : Array Slot, lv_has ls 6 [(0, .ref x9), (1, .int ps), (2, .int (nI i))] → W p l e rmX6_courseByWidth_bad s m ([.ref x9, .int ps] : List Value).toArray below meth c H locs 0 0 Q (F0 m 7 ls []) := by
    intro F
    induction F with
    | zero =>
      intro i hi hr2 hF H locs hP hD hS ls hl
      exact absurd hF (Nat.not_lt_zero _)
    | succ F ih7 =>
      intro i hi hr2 hF H locs hP hD hS ls hl
      refine lv_iload_n hx hb dX6_courseByWidth_7 rfl (lv_at hl 2 rfl) ?_
      refine lv_aload_n hx hb dX6_courseByWidth_8 rfl (lv_at hl 0 rfl) ?_
      refine va_get (D := D) (ci := 10) (v := .ref v9) (C := RX6) (T := TX6) (N := 21) hx hb hts in_RX6 hown hK hP 0 rfl rfl 8 (by decide) (hts _ (List.mem_of_getElem? (i := 2) rfl)) (fun _ h9 => h9) rfl dX6_courseByWidth_9 ?_
      refine lv_iconst (v := 5) hx hb dX6_courseByWidth_12 (by decide) ?_
      refine ziald 1 0 5 hx hb hK hP rfl rfl (by omega) (z_lt rfl) dX6_courseByWidth_13 ?_
      refine z_top (y := nI cn) (hv5) ?_
      refine lv_icmp_ge (tgt := 142) hx hb dX6_courseByWidth_14 (by decide) (fun c_1 => ?_) (fun c_1 => ?_)
      · have hk2 : cn ≤ i := (nI_leI (by omega) (by omega)).mp c_1
        obtain rfl : cn = i := by omega
        refine lv_aload_n hx hb dX6_courseByWidth_142 rfl (lv_at hl 0 rfl) ?_
        refine lv_iconst (v := 1) hx hb dX6_courseByWidth_143 (by decide) ?_
        refine zcV (As := [.int 1]) (rest := []) [0] 0 hg.1 ⟨hx, hb, hml, hown, hts⟩ (c_X6_fail hg l D cy x9 0 ch era why det cau sv rj v9 b9 s9 k9 p9 t9 n9 tn he en ln iw dg 1) (cwV 1 hts gX6_courseByWidth_X6_fail rfl rfl rfl (by decide +kernel) ⟨Nat.le_of_ble_eq_true rfl, Nat.le_of_ble_eq_true rfl⟩) hG hK hP hD hS hA rfl rfl (Eq.trans (b := [x9]) rfl rfl) rfl rfl rfl hl.1 rfl (Nat.le_of_ble_eq_true rfl) dX6_courseByWidth_144 ⟨Nat.zero_le _, Nat.zero_le _⟩ (fun H locs hP hD hS => ?_)
        have hP : va_P D vwCl [(x9, .inr (10, [.int 1, .int (nI ch), .int era, .int why, .int det, .int cau, .int (zI sv), .int (zI rj), .ref v9, .ref b9, .ref s9, .ref k9, .ref p9, .ref t9, .ref n9, .int (nI tn), .int (nI he), .int (nI en), .int (nI ln), .int (zI iw), .int (zI dg)])), (v9, .inl (cy 0, 188, .inl v))] H := hP
        have hD : va_D A [(x9, .inr (10, [.int 1, .int (nI ch), .int era, .int why, .int det, .int cau, .int (zI sv), .int (zI rj), .ref v9, .ref b9, .ref s9, .ref k9, .ref p9, .ref t9, .ref n9, .int (nI tn), .int (nI he), .int (nI en), .int (nI ln), .int (zI iw), .int (zI dg)])), (v9, .inl (cy 0, 188, .inl v))] := hD
        exact ziret hend hx hb hr hlk hK hP hD hS dX6_courseByWidth_147 rfl rfl
      · have hk2 : i < cn := Nat.lt_of_not_le (fun z => c_1 (nI_le z (by omega)))
        refine lv_iconst (v := 0) hx hb dX6_courseByWidth_17 (by decide) ?_
        refine lv_istore_n (lv' := [(3, .int 0), (0, .ref x9), (1, .int ps), (2, .int (nI i))]) hx hb dX6_courseByWidth_18 rfl hl (by decide) rfl (fun ls hl => ?_)
        refine lv_iconst (v := 0) hx hb dX6_courseByWidth_19 (by decide) ?_
        refine lv_istore (lv' := [(4, .int 0), (3, .int 0), (0, .ref x9), (1, .int ps), (2, .int (nI i))]) hx hb dX6_courseByWidth_20 hl (by decide) rfl (fun ls hl => ?_)
        have L22 : ∀ (F : Nat) (j : Nat) (x22_0 : Int32), j ≤ cn → cn - j < F → x22_0 = zps6 v i j → ∀ (H : Heap) (locs : List Loc), va_P D vwCl [(x9, .inr (10, [.int 0, .int (nI ch), .int era, .int why, .int det, .int cau, .int (zI sv), .int (zI rj), .ref v9, .ref b9, .ref s9, .ref k9, .ref p9, .ref t9, .ref n9, .int (nI tn), .int (nI he), .int (nI en), .int (nI ln), .int (zI iw), .int (zI dg)])), (v9, .inl (cy 0, 188, .inl v))] H → va_D A [(x9, .inr (10, [.int 0, .int (nI ch), .int era, .int why, .int det, .int cau, .int (zI sv), .int (zI rj), .ref v9, .ref b9, .ref s9, .ref k9, .ref p9, .ref t9, .ref n9, .int (nI tn), .int (nI he), .int (nI en), .int (nI ln), .int (zI iw), .int (zI dg)])), (v9, .inl (cy 0, 188, .inl v))] → va_S A s.heap H locs → ∀ ls : Array Slot, lv_has ls 6 [(0, .ref x9), (1, .int ps), (2, .int (nI i)), (3, .int x22_0), (4, .int (nI j))] → W p l e rmX6_courseByWidth_bad s m ([.ref x9, .int ps] : List Value).toArray below meth c H locs 0 0 Q (F0 m 22 ls []) := by
          intro F
          induction F with
          | zero =>
            intro j x22_0 hj hF ex22_0 H locs hP hD hS ls hl
            exact absurd hF (Nat.not_lt_zero _)
          | succ F ih22 =>
            intro j x22_0 hj hF ex22_0 H locs hP hD hS ls hl
            subst ex22_0
            refine lv_iload hx hb dX6_courseByWidth_22 (lv_at hl 4 rfl) ?_
            refine lv_aload_n hx hb dX6_courseByWidth_24 rfl (lv_at hl 0 rfl) ?_
            refine va_get (D := D) (ci := 10) (v := .ref v9) (C := RX6) (T := TX6) (N := 21) hx hb hts in_RX6 hown hK hP 0 rfl rfl 8 (by decide) (hts _ (List.mem_of_getElem? (i := 2) rfl)) (fun _ h9 => h9) rfl dX6_courseByWidth_25 ?_
            refine lv_iconst (v := 5) hx hb dX6_courseByWidth_28 (by decide) ?_
            refine ziald 1 0 5 hx hb hK hP rfl rfl (by omega) (z_lt rfl) dX6_courseByWidth_29 ?_
            refine z_top (y := nI cn) (hv5) ?_
            refine lv_icmp_ge (tgt := 129) hx hb dX6_courseByWidth_30 (by decide) (fun c_2 => ?_) (fun c_2 => ?_)
            · have hk2 : cn ≤ j := (nI_leI (by omega) (by omega)).mp c_2
              obtain rfl : cn = j := by omega
              refine lv_iload_n hx hb dX6_courseByWidth_129 rfl (lv_at hl 3 rfl) ?_
              refine lv_iload_n hx hb dX6_courseByWidth_130 rfl (lv_at hl 1 rfl) ?_
              refine lv_icmp_ne (tgt := 136) hx hb dX6_courseByWidth_131 (by decide) (fun c_3 => ?_) (fun c_3 => ?_)
              · refine lv_iinc (v := nI (i + 1)) (lv' := [(2, .int (nI (i + 1))), (0, .ref x9), (1, .int ps), (3, .int (zps6 v i cn)), (4, .int (nI cn))]) hx hb dX6_courseByWidth_136 hl (k := 2) rfl (by rw [show Int32.ofInt 1 = nI 1 from rfl, nI_add]) (by decide) rfl (fun ls hl => ?_)
                refine lv_goto (tgt := 7) hx hb dX6_courseByWidth_139 (by decide) ?_
                exact ih7 (i + 1) (by omega) (by rw [hr2, show cn - i = (cn - (i + 1)) + 1 by omega, zfi]; simp [c_2, c_3]) (by omega) H locs hP hD hS ls (lv_sub hl [1, 2, 0] rfl)
              · exact absurd (show nI i = -1 from (show zfi (fun q => decide (zps6 v q cn = ps)) cn 0 = nI i from (by rw [hr2, show cn - i = (cn - (i + 1)) + 1 by omega, zfi]; simp [c_2, c_3])).symm.trans hz) (nI_m1 (by omega))
            · have hk2 : j < cn := Nat.lt_of_not_le (fun z => c_2 (nI_le z (by omega)))
              refine lv_aload_n hx hb dX6_courseByWidth_33 rfl (lv_at hl 0 rfl) ?_
              refine va_get (D := D) (ci := 10) (v := .ref v9) (C := RX6) (T := TX6) (N := 21) hx hb hts in_RX6 hown hK hP 0 rfl rfl 8 (by decide) (hts _ (List.mem_of_getElem? (i := 2) rfl)) (fun _ h9 => h9) rfl dX6_courseByWidth_34 ?_
              refine lv_bipush (v := 68) hx hb dX6_courseByWidth_37 (by decide) ?_
              refine lv_iconst (v := 4) hx hb dX6_courseByWidth_39 (by decide) ?_
              refine lv_iload hx hb dX6_courseByWidth_40 (lv_at hl 4 rfl) ?_
              refine lv_imul hx hb dX6_courseByWidth_42 ?_
              refine z_top (y := nI (4 * j)) (pk_mul 4 j) ?_
              refine lv_iadd hx hb dX6_courseByWidth_43 ?_
              refine z_top (y := nI (68 + (4 * j))) (nI_add 68 (4 * j)) ?_
              refine ziald 1 0 (68 + (4 * j)) hx hb hK hP rfl rfl (by omega) (z_lt rfl) dX6_courseByWidth_44 ?_
              refine lv_aload_n hx hb dX6_courseByWidth_45 rfl (lv_at hl 0 rfl) ?_
              refine va_get (D := D) (ci := 10) (v := .ref v9) (C := RX6) (T := TX6) (N := 21) hx hb hts in_RX6 hown hK hP 0 rfl rfl 8 (by decide) (hts _ (List.mem_of_getElem? (i := 2) rfl)) (fun _ h9 => h9) rfl dX6_courseByWidth_46 ?_
              refine lv_bipush (v := 68) hx hb dX6_courseByWidth_49 (by decide) ?_
              refine lv_iconst (v := 4) hx hb dX6_courseByWidth_51 (by decide) ?_
              refine lv_iload_n hx hb dX6_courseByWidth_52 rfl (lv_at hl 2 rfl) ?_
              refine lv_imul hx hb dX6_courseByWidth_53 ?_
              refine z_top (y := nI (4 * i)) (pk_mul 4 i) ?_
              refine lv_iadd hx hb dX6_courseByWidth_54 ?_
              refine z_top (y := nI (68 + (4 * i))) (nI_add 68 (4 * i)) ?_
              refine ziald 1 0 (68 + (4 * i)) hx hb hK hP rfl rfl (by omega) (z_lt rfl) dX6_courseByWidth_55 ?_
              refine lv_isub hx hb dX6_courseByWidth_56 ?_
              refine lv_istore (lv' := [(5, .int ((v (68 + (4 * j))) - (v (68 + (4 * i))))), (0, .ref x9), (1, .int ps), (2, .int (nI i)), (3, .int (zps6 v i j)), (4, .int (nI j))]) hx hb dX6_courseByWidth_57 hl (by decide) rfl (fun ls hl => ?_)
              refine lv_iload hx hb dX6_courseByWidth_59 (lv_at hl 0 rfl) ?_
              refine lv_if_eq (tgt := 69) hx hb dX6_courseByWidth_61 (by decide) (fun c_4 => ?_) (fun c_4 => ?_)
              · refine lv_aload_n hx hb dX6_courseByWidth_69 rfl (lv_at hl 1 rfl) ?_
                refine va_get (D := D) (ci := 10) (v := .ref v9) (C := RX6) (T := TX6) (N := 21) hx hb hts in_RX6 hown hK hP 0 rfl rfl 8 (by decide) (hts _ (List.mem_of_getElem? (i := 2) rfl)) (fun _ h9 => h9) rfl dX6_courseByWidth_70 ?_
                refine lv_bipush (v := 68) hx hb dX6_courseByWidth_73 (by decide) ?_
                refine lv_iconst (v := 4) hx hb dX6_courseByWidth_75 (by decide) ?_
                refine lv_iload_n hx hb dX6_courseByWidth_76 rfl (lv_at hl 3 rfl) ?_
                refine lv_imul hx hb dX6_courseByWidth_77 ?_
                refine z_top (y := nI (4 * i)) (pk_mul 4 i) ?_
                refine lv_iadd hx hb dX6_courseByWidth_78 ?_
                refine z_top (y := nI (68 + (4 * i))) (nI_add 68 (4 * i)) ?_
                refine lv_iconst (v := 3) hx hb dX6_courseByWidth_79 (by decide) ?_
                refine lv_iadd hx hb dX6_courseByWidth_80 ?_
                refine z_top (y := nI ((68 + (4 * i)) + 3)) (nI_add (68 + (4 * i)) 3) ?_
                refine ziald 1 0 ((68 + (4 * i)) + 3) hx hb hK hP rfl rfl (by omega) (z_lt rfl) dX6_courseByWidth_81 ?_
                refine lv_aload_n hx hb dX6_courseByWidth_82 rfl (lv_at hl 1 rfl) ?_
                refine va_get (D := D) (ci := 10) (v := .ref v9) (C := RX6) (T := TX6) (N := 21) hx hb hts in_RX6 hown hK hP 0 rfl rfl 8 (by decide) (hts _ (List.mem_of_getElem? (i := 2) rfl)) (fun _ h9 => h9) rfl dX6_courseByWidth_83 ?_
                refine lv_bipush (v := 68) hx hb dX6_courseByWidth_86 (by decide) ?_
                refine lv_iconst (v := 4) hx hb dX6_courseByWidth_88 (by decide) ?_
                refine lv_iload hx hb dX6_courseByWidth_89 (lv_at hl 5 rfl) ?_
                refine lv_imul hx hb dX6_courseByWidth_91 ?_
                refine z_top (y := nI (4 * j)) (pk_mul 4 j) ?_
                refine lv_iadd hx hb dX6_courseByWidth_92 ?_
                refine z_top (y := nI (68 + (4 * j))) (nI_add 68 (4 * j)) ?_
                refine lv_iconst (v := 3) hx hb dX6_courseByWidth_93 (by decide) ?_
                refine lv_iadd hx hb dX6_courseByWidth_94 ?_
                refine z_top (y := nI ((68 + (4 * j)) + 3)) (nI_add (68 + (4 * j)) 3) ?_
                refine ziald 1 0 ((68 + (4 * j)) + 3) hx hb hK hP rfl rfl (by omega) (z_lt rfl) dX6_courseByWidth_95 ?_
                refine lv_isub hx hb dX6_courseByWidth_96 ?_
                refine lv_istore (lv' := [(5, .int ((v ((68 + (4 * i)) + 3)) - (v ((68 + (4 * j)) + 3)))), (0, .ref x9), (1, .int ps), (2, .int (nI i)), (3, .int (zps6 v i j)), (4, .int (nI j))]) hx hb dX6_courseByWidth_97 hl (by decide) rfl (fun ls hl => ?_)
                refine lv_iload_n hx hb dX6_courseByWidth_99 rfl (lv_at hl 4 rfl) ?_
                refine lv_iload hx hb dX6_courseByWidth_100 (lv_at hl 0 rfl) ?_
                refine lv_if_gt (tgt := 116) hx hb dX6_courseByWidth_102 (by decide) (fun c_5 => ?_) (fun c_5 => ?_)
                · refine lv_iconst (v := 1) hx hb dX6_courseByWidth_116 (by decide) ?_
                  refine lv_goto (tgt := 121) hx hb dX6_courseByWidth_117 (by decide) ?_
                  refine lv_iadd hx hb dX6_courseByWidth_121 ?_
                  refine lv_istore_n (lv' := [(3, .int ((zps6 v i j) + 1)), (5, .int ((v ((68 + (4 * i)) + 3)) - (v ((68 + (4 * j)) + 3)))), (0, .ref x9), (1, .int ps), (2, .int (nI i)), (4, .int (nI j))]) hx hb dX6_courseByWidth_122 rfl hl (by decide) rfl (fun ls hl => ?_)
                  refine lv_iinc (v := nI (j + 1)) (lv' := [(4, .int (nI (j + 1))), (3, .int ((zps6 v i j) + 1)), (5, .int ((v ((68 + (4 * i)) + 3)) - (v ((68 + (4 * j)) + 3)))), (0, .ref x9), (1, .int ps), (2, .int (nI i))]) hx hb dX6_courseByWidth_123 hl (k := 5) rfl (by rw [show Int32.ofInt 1 = nI 1 from rfl, nI_add]) (by decide) rfl (fun ls hl => ?_)
                  refine lv_goto (tgt := 22) hx hb dX6_courseByWidth_126 (by decide) ?_
                  exact ih22 (j + 1) ((zps6 v i j) + 1) (by omega) (by omega) (by first | (simp only [zps6, zcb6, c_2, c_4, c_5, decide_true, decide_false, Bool.not_true, Bool.not_false, Bool.and_true, Bool.true_and, Bool.and_false, Bool.false_and, Bool.or_false, Bool.false_or, Bool.or_true, Bool.true_or, ↓reduceIte, Bool.false_eq_true, not_true_eq_false, not_false_eq_true, and_self]; done) | (simp [zps6, zcb6, c_2, c_4, c_5]; done) | (simp_all [zps6, zcb6]; done)) H locs hP hD hS ls (lv_sub hl [3, 4, 5, 1, 0] rfl)
                · refine lv_iload hx hb dX6_courseByWidth_105 (lv_at hl 0 rfl) ?_
                  refine lv_if_ne (tgt := 120) hx hb dX6_courseByWidth_107 (by decide) (fun c_6 => ?_) (fun c_6 => ?_)
                  · refine lv_iconst (v := 0) hx hb dX6_courseByWidth_120 (by decide) ?_
                    refine lv_iadd hx hb dX6_courseByWidth_121 ?_
                    refine lv_istore_n (lv' := [(3, .int ((zps6 v i j) + 0)), (5, .int ((v ((68 + (4 * i)) + 3)) - (v ((68 + (4 * j)) + 3)))), (0, .ref x9), (1, .int ps), (2, .int (nI i)), (4, .int (nI j))]) hx hb dX6_courseByWidth_122 rfl hl (by decide) rfl (fun ls hl => ?_)
                    refine lv_iinc (v := nI (j + 1)) (lv' := [(4, .int (nI (j + 1))), (3, .int ((zps6 v i j) + 0)), (5, .int ((v ((68 + (4 * i)) + 3)) - (v ((68 + (4 * j)) + 3)))), (0, .ref x9), (1, .int ps), (2, .int (nI i))]) hx hb dX6_courseByWidth_123 hl (k := 5) rfl (by rw [show Int32.ofInt 1 = nI 1 from rfl, nI_add]) (by decide) rfl (fun ls hl => ?_)
                    refine lv_goto (tgt := 22) hx hb dX6_courseByWidth_126 (by decide) ?_
                    exact ih22 (j + 1) ((zps6 v i j) + 0) (by omega) (by omega) (by first | (simp only [zps6, zcb6, c_2, c_4, c_5, c_6, decide_true, decide_false, Bool.not_true, Bool.not_false, Bool.and_true, Bool.true_and, Bool.and_false, Bool.false_and, Bool.or_false, Bool.false_or, Bool.or_true, Bool.true_or, ↓reduceIte, Bool.false_eq_true, not_true_eq_false, not_false_eq_true, and_self]; done) | (simp [zps6, zcb6, c_2, c_4, c_5, c_6]; done) | (simp_all [zps6, zcb6]; done)) H locs hP hD hS ls (lv_sub hl [3, 4, 5, 1, 0] rfl)
                  · refine lv_iload hx hb dX6_courseByWidth_110 (lv_at hl 5 rfl) ?_
                    refine lv_iload_n hx hb dX6_courseByWidth_112 rfl (lv_at hl 3 rfl) ?_
                    refine lv_icmp_ge (tgt := 120) hx hb dX6_courseByWidth_113 (by decide) (fun c_7 => ?_) (fun c_7 => ?_)
                    · refine lv_iconst (v := 0) hx hb dX6_courseByWidth_120 (by decide) ?_
                      refine lv_iadd hx hb dX6_courseByWidth_121 ?_
                      refine lv_istore_n (lv' := [(3, .int ((zps6 v i j) + 0)), (5, .int ((v ((68 + (4 * i)) + 3)) - (v ((68 + (4 * j)) + 3)))), (0, .ref x9), (1, .int ps), (2, .int (nI i)), (4, .int (nI j))]) hx hb dX6_courseByWidth_122 rfl hl (by decide) rfl (fun ls hl => ?_)
                      refine lv_iinc (v := nI (j + 1)) (lv' := [(4, .int (nI (j + 1))), (3, .int ((zps6 v i j) + 0)), (5, .int ((v ((68 + (4 * i)) + 3)) - (v ((68 + (4 * j)) + 3)))), (0, .ref x9), (1, .int ps), (2, .int (nI i))]) hx hb dX6_courseByWidth_123 hl (k := 5) rfl (by rw [show Int32.ofInt 1 = nI 1 from rfl, nI_add]) (by decide) rfl (fun ls hl => ?_)
                      refine lv_goto (tgt := 22) hx hb dX6_courseByWidth_126 (by decide) ?_
                      exact ih22 (j + 1) ((zps6 v i j) + 0) (by omega) (by omega) (by first | (simp only [zps6, zcb6, c_2, c_4, c_5, c_6, c_7, decide_true, decide_false, Bool.not_true, Bool.not_false, Bool.and_true, Bool.true_and, Bool.and_false, Bool.false_and, Bool.or_false, Bool.false_or, Bool.or_true, Bool.true_or, ↓reduceIte, Bool.false_eq_true, not_true_eq_false, not_false_eq_true, and_self]; done) | (simp [zps6, zcb6, c_2, c_4, c_5, c_6, c_7]; done) | (simp_all [zps6, zcb6]; done)) H locs hP hD hS ls (lv_sub hl [3, 4, 5, 1, 0] rfl)
                    · refine lv_iconst (v := 1) hx hb dX6_courseByWidth_116 (by decide) ?_
                      refine lv_goto (tgt := 121) hx hb dX6_courseByWidth_117 (by decide) ?_
                      refine lv_iadd hx hb dX6_courseByWidth_121 ?_
                      refine lv_istore_n (lv' := [(3, .int ((zps6 v i j) + 1)), (5, .int ((v ((68 + (4 * i)) + 3)) - (v ((68 + (4 * j)) + 3)))), (0, .ref x9), (1, .int ps), (2, .int (nI i)), (4, .int (nI j))]) hx hb dX6_courseByWidth_122 rfl hl (by decide) rfl (fun ls hl => ?_)
                      refine lv_iinc (v := nI (j + 1)) (lv' := [(4, .int (nI (j + 1))), (3, .int ((zps6 v i j) + 1)), (5, .int ((v ((68 + (4 * i)) + 3)) - (v ((68 + (4 * j)) + 3)))), (0, .ref x9), (1, .int ps), (2, .int (nI i))]) hx hb dX6_courseByWidth_123 hl (k := 5) rfl (by rw [show Int32.ofInt 1 = nI 1 from rfl, nI_add]) (by decide) rfl (fun ls hl => ?_)
                      refine lv_goto (tgt := 22) hx hb dX6_courseByWidth_126 (by decide) ?_
                      exact ih22 (j + 1) ((zps6 v i j) + 1) (by omega) (by omega) (by first | (simp only [zps6, zcb6, c_2, c_4, c_5, c_6, c_7, decide_true, decide_false, Bool.not_true, Bool.not_false, Bool.and_true, Bool.true_and, Bool.and_false, Bool.false_and, Bool.or_false, Bool.false_or, Bool.or_true, Bool.true_or, ↓reduceIte, Bool.false_eq_true, not_true_eq_false, not_false_eq_true, and_self]; done) | (simp [zps6, zcb6, c_2, c_4, c_5, c_6, c_7]; done) | (simp_all [zps6, zcb6]; done)) H locs hP hD hS ls (lv_sub hl [3, 4, 5, 1, 0] rfl)
              · refine lv_iload hx hb dX6_courseByWidth_64 (lv_at hl 0 rfl) ?_
                refine lv_goto (tgt := 97) hx hb dX6_courseByWidth_66 (by decide) ?_
                refine lv_istore (lv' := [(5, .int ((v (68 + (4 * j))) - (v (68 + (4 * i))))), (0, .ref x9), (1, .int ps), (2, .int (nI i)), (3, .int (zps6 v i j)), (4, .int (nI j))]) hx hb dX6_courseByWidth_97 hl (by decide) rfl (fun ls hl => ?_)
                refine lv_iload_n hx hb dX6_courseByWidth_99 rfl (lv_at hl 4 rfl) ?_
                refine lv_iload hx hb dX6_courseByWidth_100 (lv_at hl 0 rfl) ?_
                refine lv_if_gt (tgt := 116) hx hb dX6_courseByWidth_102 (by decide) (fun c_8 => ?_) (fun c_8 => ?_)
                · refine lv_iconst (v := 1) hx hb dX6_courseByWidth_116 (by decide) ?_
                  refine lv_goto (tgt := 121) hx hb dX6_courseByWidth_117 (by decide) ?_
                  refine lv_iadd hx hb dX6_courseByWidth_121 ?_
                  refine lv_istore_n (lv' := [(3, .int ((zps6 v i j) + 1)), (5, .int ((v (68 + (4 * j))) - (v (68 + (4 * i))))), (0, .ref x9), (1, .int ps), (2, .int (nI i)), (4, .int (nI j))]) hx hb dX6_courseByWidth_122 rfl hl (by decide) rfl (fun ls hl => ?_)
                  refine lv_iinc (v := nI (j + 1)) (lv' := [(4, .int (nI (j + 1))), (3, .int ((zps6 v i j) + 1)), (5, .int ((v (68 + (4 * j))) - (v (68 + (4 * i))))), (0, .ref x9), (1, .int ps), (2, .int (nI i))]) hx hb dX6_courseByWidth_123 hl (k := 5) rfl (by rw [show Int32.ofInt 1 = nI 1 from rfl, nI_add]) (by decide) rfl (fun ls hl => ?_)
                  refine lv_goto (tgt := 22) hx hb dX6_courseByWidth_126 (by decide) ?_
                  exact ih22 (j + 1) ((zps6 v i j) + 1) (by omega) (by omega) (by first | (simp only [zps6, zcb6, c_2, c_4, c_8, decide_true, decide_false, Bool.not_true, Bool.not_false, Bool.and_true, Bool.true_and, Bool.and_false, Bool.false_and, Bool.or_false, Bool.false_or, Bool.or_true, Bool.true_or, ↓reduceIte, Bool.false_eq_true, not_true_eq_false, not_false_eq_true, and_self]; done) | (simp [zps6, zcb6, c_2, c_4, c_8]; done) | (simp_all [zps6, zcb6]; done)) H locs hP hD hS ls (lv_sub hl [3, 4, 5, 1, 0] rfl)
                · refine lv_iload hx hb dX6_courseByWidth_105 (lv_at hl 0 rfl) ?_
                  refine lv_if_ne (tgt := 120) hx hb dX6_courseByWidth_107 (by decide) (fun c_9 => ?_) (fun c_9 => ?_)
                  · refine lv_iconst (v := 0) hx hb dX6_courseByWidth_120 (by decide) ?_
                    refine lv_iadd hx hb dX6_courseByWidth_121 ?_
                    refine lv_istore_n (lv' := [(3, .int ((zps6 v i j) + 0)), (5, .int ((v (68 + (4 * j))) - (v (68 + (4 * i))))), (0, .ref x9), (1, .int ps), (2, .int (nI i)), (4, .int (nI j))]) hx hb dX6_courseByWidth_122 rfl hl (by decide) rfl (fun ls hl => ?_)
                    refine lv_iinc (v := nI (j + 1)) (lv' := [(4, .int (nI (j + 1))), (3, .int ((zps6 v i j) + 0)), (5, .int ((v (68 + (4 * j))) - (v (68 + (4 * i))))), (0, .ref x9), (1, .int ps), (2, .int (nI i))]) hx hb dX6_courseByWidth_123 hl (k := 5) rfl (by rw [show Int32.ofInt 1 = nI 1 from rfl, nI_add]) (by decide) rfl (fun ls hl => ?_)
                    refine lv_goto (tgt := 22) hx hb dX6_courseByWidth_126 (by decide) ?_
                    exact ih22 (j + 1) ((zps6 v i j) + 0) (by omega) (by omega) (by first | (simp only [zps6, zcb6, c_2, c_4, c_8, c_9, decide_true, decide_false, Bool.not_true, Bool.not_false, Bool.and_true, Bool.true_and, Bool.and_false, Bool.false_and, Bool.or_false, Bool.false_or, Bool.or_true, Bool.true_or, ↓reduceIte, Bool.false_eq_true, not_true_eq_false, not_false_eq_true, and_self]; done) | (simp [zps6, zcb6, c_2, c_4, c_8, c_9]; done) | (simp_all [zps6, zcb6]; done)) H locs hP hD hS ls (lv_sub hl [3, 4, 5, 1, 0] rfl)
                  · refine lv_iload hx hb dX6_courseByWidth_110 (lv_at hl 5 rfl) ?_
                    refine lv_iload_n hx hb dX6_courseByWidth_112 rfl (lv_at hl 3 rfl) ?_
                    refine lv_icmp_ge (tgt := 120) hx hb dX6_courseByWidth_113 (by decide) (fun c_10 => ?_) (fun c_10 => ?_)
                    · refine lv_iconst (v := 0) hx hb dX6_courseByWidth_120 (by decide) ?_
                      refine lv_iadd hx hb dX6_courseByWidth_121 ?_
                      refine lv_istore_n (lv' := [(3, .int ((zps6 v i j) + 0)), (5, .int ((v (68 + (4 * j))) - (v (68 + (4 * i))))), (0, .ref x9), (1, .int ps), (2, .int (nI i)), (4, .int (nI j))]) hx hb dX6_courseByWidth_122 rfl hl (by decide) rfl (fun ls hl => ?_)
                      refine lv_iinc (v := nI (j + 1)) (lv' := [(4, .int (nI (j + 1))), (3, .int ((zps6 v i j) + 0)), (5, .int ((v (68 + (4 * j))) - (v (68 + (4 * i))))), (0, .ref x9), (1, .int ps), (2, .int (nI i))]) hx hb dX6_courseByWidth_123 hl (k := 5) rfl (by rw [show Int32.ofInt 1 = nI 1 from rfl, nI_add]) (by decide) rfl (fun ls hl => ?_)
                      refine lv_goto (tgt := 22) hx hb dX6_courseByWidth_126 (by decide) ?_
                      exact ih22 (j + 1) ((zps6 v i j) + 0) (by omega) (by omega) (by first | (simp only [zps6, zcb6, c_2, c_4, c_8, c_9, c_10, decide_true, decide_false, Bool.not_true, Bool.not_false, Bool.and_true, Bool.true_and, Bool.and_false, Bool.false_and, Bool.or_false, Bool.false_or, Bool.or_true, Bool.true_or, ↓reduceIte, Bool.false_eq_true, not_true_eq_false, not_false_eq_true, and_self]; done) | (simp [zps6, zcb6, c_2, c_4, c_8, c_9, c_10]; done) | (simp_all [zps6, zcb6]; done)) H locs hP hD hS ls (lv_sub hl [3, 4, 5, 1, 0] rfl)
                    · refine lv_iconst (v := 1) hx hb dX6_courseByWidth_116 (by decide) ?_
                      refine lv_goto (tgt := 121) hx hb dX6_courseByWidth_117 (by decide) ?_
                      refine lv_iadd hx hb dX6_courseByWidth_121 ?_
                      refine lv_istore_n (lv' := [(3, .int ((zps6 v i j) + 1)), (5, .int ((v (68 + (4 * j))) - (v (68 + (4 * i))))), (0, .ref x9), (1, .int ps), (2, .int (nI i)), (4, .int (nI j))]) hx hb dX6_courseByWidth_122 rfl hl (by decide) rfl (fun ls hl => ?_)
                      refine lv_iinc (v := nI (j + 1)) (lv' := [(4, .int (nI (j + 1))), (3, .int ((zps6 v i j) + 1)), (5, .int ((v (68 + (4 * j))) - (v (68 + (4 * i))))), (0, .ref x9), (1, .int ps), (2, .int (nI i))]) hx hb dX6_courseByWidth_123 hl (k := 5) rfl (by rw [show Int32.ofInt 1 = nI 1 from rfl, nI_add]) (by decide) rfl (fun ls hl => ?_)
                      refine lv_goto (tgt := 22) hx hb dX6_courseByWidth_126 (by decide) ?_
                      exact ih22 (j + 1) ((zps6 v i j) + 1) (by omega) (by omega) (by first | (simp only [zps6, zcb6, c_2, c_4, c_8, c_9, c_10, decide_true, decide_false, Bool.not_true, Bool.not_false, Bool.and_true, Bool.true_and, Bool.and_false, Bool.false_and, Bool.or_false, Bool.false_or, Bool.or_true, Bool.true_or, ↓reduceIte, Bool.false_eq_true, not_true_eq_false, not_false_eq_true, and_self]; done) | (simp [zps6, zcb6, c_2, c_4, c_8, c_9, c_10]; done) | (simp_all [zps6, zcb6]; done)) H locs hP hD hS ls (lv_sub hl [3, 4, 5, 1, 0] rfl)
        exact L22 (cn - 0 + 1) 0 0 (by omega) (Nat.lt_succ_self _) (by rfl) H locs hP hD hS ls (lv_sub hl [2, 3, 4, 1, 0] rfl)
  exact L7 (cn - 0 + 1) 0 (by omega) rfl (Nat.lt_succ_self _) H locs hP hD hS ls (lv_sub hl [1, 2, 0] rfl)

abbrev rmX6_feederByYarn_ok : Room := { frames := 0, cells := 0, slots := 0, locals := 0 }
set_option maxHeartbeats 4000000 in
set_option maxRecDepth 100000 in
theorem c_X6_feederByYarn_ok {G : zG} (hg : zGN G) (l : Launch) (D : va_G) (cy : Nat → ClassId) (x9 : Nat) (th : Int32) (ch : Nat) (era : Int32) (why : Int32) (det : Int32) (cau : Int32) (sv : Bool) (rj : Bool) (v9 : Nat) (b9 : Nat) (s9 : Nat) (k9 : Nat) (p9 : Nat) (t9 : Nat) (n9 : Nat) (tn : Nat) (he : Nat) (en : Nat) (ln : Nat) (iw : Bool) (dg : Bool) (v : Nat → Int32) (ps : Int32) (hz : ¬ zfi (fun q => decide (zpy6 v q 4 = ps)) 4 0 = -1) : zM G D vwCl (zT cy) l yX6_feederByYarn wsX6_feederByYarn rmX6_feederByYarn_ok [.ref x9, .int ps] [(x9, .inr (10, [.int th, .int (nI ch), .int era, .int why, .int det, .int cau, .int (zI sv), .int (zI rj), .ref v9, .ref b9, .ref s9, .ref k9, .ref p9, .ref t9, .ref n9, .int (nI tn), .int (nI he), .int (nI en), .int (nI ln), .int (zI iw), .int (zI dg)])), (v9, .inl (cy 0, 188, .inl v))] (some (.int (zfi (fun q => decide (zpy6 v q 4 = ps)) 4 0))) [(x9, .inr (10, [.int 0, .int (nI ch), .int era, .int why, .int det, .int cau, .int (zI sv), .int (zI rj), .ref v9, .ref b9, .ref s9, .ref k9, .ref p9, .ref t9, .ref n9, .int (nI tn), .int (nI he), .int (nI en), .int (nI ln), .int (zI iw), .int (zI dg)])), (v9, .inl (cy 0, 188, .inl v))] := by
  refine zM_of (cc := cX6_feederByYarn) (maxL := 5) (ret := (some .int)) (by decide) rfl (Nat.le_of_ble_eq_true rfl) ?_
  intro p e s m below meth c A Q hend hx hb hml hr hts hown hlk hG hK hP hD hA hS ls hl
  have hown : s.vm.findClass RX6 = some m.cls := hown
  have in_RX6 : ∀ w ∈ u_ws RX6 TX6 21, w ∈ wsX6_feederByYarn := by decide +kernel
  have hl : lv_has ls 5 [(0, .ref x9), (1, .int ps)] := hl
  refine lv_aload_n hx hb dX6_feederByYarn_0 rfl (lv_at hl 0 rfl) ?_
  refine lv_iconst (v := 0) hx hb dX6_feederByYarn_1 (by decide) ?_
  refine va_put (D := D) (ci := 10) (v := .int 0) (ty := .int) (C := RX6) (T := TX6) (N := 21) hx hb hts in_RX6 tyX6 tyX6_ok nmX6 hown hK hP hD hS 0 rfl rfl 0 (by decide) (hts _ (List.mem_of_getElem? (i := 1) rfl)) (fun _ h9 => h9) rfl (by decide +kernel) rfl rfl (Nat.le_of_ble_eq_true rfl) dX6_feederByYarn_2 (fun H locs hP hD hS => ?_)
  have hP : va_P D vwCl [(x9, .inr (10, [.int 0, .int (nI ch), .int era, .int why, .int det, .int cau, .int (zI sv), .int (zI rj), .ref v9, .ref b9, .ref s9, .ref k9, .ref p9, .ref t9, .ref n9, .int (nI tn), .int (nI he), .int (nI en), .int (nI ln), .int (zI iw), .int (zI dg)])), (v9, .inl (cy 0, 188, .inl v))] H := hP
  have hD : va_D A [(x9, .inr (10, [.int 0, .int (nI ch), .int era, .int why, .int det, .int cau, .int (zI sv), .int (zI rj), .ref v9, .ref b9, .ref s9, .ref k9, .ref p9, .ref t9, .ref n9, .int (nI tn), .int (nI he), .int (nI en), .int (nI ln), .int (zI iw), .int (zI dg)])), (v9, .inl (cy 0, 188, .inl v))] := hD
  refine lv_iconst (v := 0) hx hb dX6_feederByYarn_5 (by decide) ?_
  refine lv_istore_n (lv' := [(2, .int 0), (0, .ref x9), (1, .int ps)]) hx hb dX6_feederByYarn_6 rfl hl (by decide) rfl (fun ls hl => ?_)
  have L7 : ∀ (F : Nat) (i : Nat), i ≤ 4 → zfi (fun q => decide (zpy6 v q 4 = ps)) 4 0 = zfi (fun q => decide (zpy6 v q 4 = ps)) (4 - i) i → 4 - i < F → ∀ (H : Heap) (locs : List Loc), va_P D vwCl [(x9, .inr (10, [.int 0, .int (nI ch), .int era, .int why, .int det, .int cau, .int (zI sv), .int (zI rj), .ref v9, .ref b9, .ref s9, .ref k9, .ref p9, .ref t9, .ref n9, .int (nI tn), .int (nI he), .int (nI en), .int (nI ln), .int (zI iw), .int (zI dg)])), (v9, .inl (cy 0, 188, .inl v))] H → va_D A [(x9, .inr (10, [.int 0, .int (nI ch), .int era, .int why, .int det, .int cau, .int (zI sv), .int (zI rj), .ref v9, .ref b9, .ref s9, .ref k9, .ref p9, .ref t9, .ref n9, .int (nI tn), .int (nI he), .int (nI en), .int (nI ln), .int (zI iw), .int (zI dg)])), (v9, .inl (cy 0, 188, .inl v))] → va_S A s.heap H locs → ∀ ls : Array Slot, lv_has ls 5 [(0, .ref x9), (1, .int ps), (2, .int (nI i))] → W p l e rmX6_feederByYarn_ok s m ([.ref x9, .int ps] : List Value).toArray below meth c H locs 0 0 Q (F0 m 7 ls []) := by
    intro F
    induction F with
    | zero =>
      intro i hi hr2 hF H locs hP hD hS ls hl
      exact absurd hF (Nat.not_lt_zero _)
    | succ F ih7 =>
      intro i hi hr2 hF H locs hP hD hS ls hl
      refine lv_iload_n hx hb dX6_feederByYarn_7 rfl (lv_at hl 2 rfl) ?_
      refine lv_iconst (v := 4) hx hb dX6_feederByYarn_8 (by decide) ?_
      refine lv_icmp_ge (tgt := 100) hx hb dX6_feederByYarn_9 (by decide) (fun c_1 => ?_) (fun c_1 => ?_)
      · have hk2 : 4 ≤ i := (nI_leI (by omega) (by omega)).mp c_1
        obtain rfl : 4 = i := by omega
        exact absurd (by rw [hr2, Nat.sub_self]; rfl) hz
      · have hk2 : i < 4 := Nat.lt_of_not_le (fun z => c_1 (nI_le z (by omega)))
        refine lv_iconst (v := 0) hx hb dX6_feederByYarn_12 (by decide) ?_
        refine lv_istore_n (lv' := [(3, .int 0), (0, .ref x9), (1, .int ps), (2, .int (nI i))]) hx hb dX6_feederByYarn_13 rfl hl (by decide) rfl (fun ls hl => ?_)
        refine lv_iconst (v := 0) hx hb dX6_feederByYarn_14 (by decide) ?_
        refine lv_istore (lv' := [(4, .int 0), (3, .int 0), (0, .ref x9), (1, .int ps), (2, .int (nI i))]) hx hb dX6_feederByYarn_15 hl (by decide) rfl (fun ls hl => ?_)
        have L17 : ∀ (F : Nat) (j : Nat) (x17_0 : Int32), j ≤ 4 → 4 - j < F → x17_0 = zpy6 v i j → ∀ (H : Heap) (locs : List Loc), va_P D vwCl [(x9, .inr (10, [.int 0, .int (nI ch), .int era, .int why, .int det, .int cau, .int (zI sv), .int (zI rj), .ref v9, .ref b9, .ref s9, .ref k9, .ref p9, .ref t9, .ref n9, .int (nI tn), .int (nI he), .int (nI en), .int (nI ln), .int (zI iw), .int (zI dg)])), (v9, .inl (cy 0, 188, .inl v))] H → va_D A [(x9, .inr (10, [.int 0, .int (nI ch), .int era, .int why, .int det, .int cau, .int (zI sv), .int (zI rj), .ref v9, .ref b9, .ref s9, .ref k9, .ref p9, .ref t9, .ref n9, .int (nI tn), .int (nI he), .int (nI en), .int (nI ln), .int (zI iw), .int (zI dg)])), (v9, .inl (cy 0, 188, .inl v))] → va_S A s.heap H locs → ∀ ls : Array Slot, lv_has ls 5 [(0, .ref x9), (1, .int ps), (2, .int (nI i)), (3, .int x17_0), (4, .int (nI j))] → W p l e rmX6_feederByYarn_ok s m ([.ref x9, .int ps] : List Value).toArray below meth c H locs 0 0 Q (F0 m 17 ls []) := by
          intro F
          induction F with
          | zero =>
            intro j x17_0 hj hF ex17_0 H locs hP hD hS ls hl
            exact absurd hF (Nat.not_lt_zero _)
          | succ F ih17 =>
            intro j x17_0 hj hF ex17_0 H locs hP hD hS ls hl
            subst ex17_0
            refine lv_iload hx hb dX6_feederByYarn_17 (lv_at hl 4 rfl) ?_
            refine lv_iconst (v := 4) hx hb dX6_feederByYarn_19 (by decide) ?_
            refine lv_icmp_ge (tgt := 87) hx hb dX6_feederByYarn_20 (by decide) (fun c_2 => ?_) (fun c_2 => ?_)
            · have hk2 : 4 ≤ j := (nI_leI (by omega) (by omega)).mp c_2
              obtain rfl : 4 = j := by omega
              refine lv_iload_n hx hb dX6_feederByYarn_87 rfl (lv_at hl 3 rfl) ?_
              refine lv_iload_n hx hb dX6_feederByYarn_88 rfl (lv_at hl 1 rfl) ?_
              refine lv_icmp_ne (tgt := 94) hx hb dX6_feederByYarn_89 (by decide) (fun c_3 => ?_) (fun c_3 => ?_)
              · refine lv_iinc (v := nI (i + 1)) (lv' := [(2, .int (nI (i + 1))), (0, .ref x9), (1, .int ps), (3, .int (zpy6 v i 4)), (4, .int (nI 4))]) hx hb dX6_feederByYarn_94 hl (k := 2) rfl (by rw [show Int32.ofInt 1 = nI 1 from rfl, nI_add]) (by decide) rfl (fun ls hl => ?_)
                refine lv_goto (tgt := 7) hx hb dX6_feederByYarn_97 (by decide) ?_
                exact ih7 (i + 1) (by omega) (by rw [hr2, show 4 - i = (4 - (i + 1)) + 1 by omega, zfi]; simp [c_2, c_3]) (by omega) H locs hP hD hS ls (lv_sub hl [1, 2, 0] rfl)
              · refine lv_iload_n hx hb dX6_feederByYarn_92 rfl (lv_at hl 2 rfl) ?_
                exact ziret hend hx hb hr hlk hK hP hD hS dX6_feederByYarn_93 (Eq.symm (by rw [hr2, show 4 - i = (4 - (i + 1)) + 1 by omega, zfi]; simp [c_2, c_3])) rfl
            · have hk2 : j < 4 := Nat.lt_of_not_le (fun z => c_2 (nI_le z (by omega)))
              refine lv_iload_n hx hb dX6_feederByYarn_23 rfl (lv_at hl 3 rfl) ?_
              refine lv_aload_n hx hb dX6_feederByYarn_24 rfl (lv_at hl 0 rfl) ?_
              refine va_get (D := D) (ci := 10) (v := .ref v9) (C := RX6) (T := TX6) (N := 21) hx hb hts in_RX6 hown hK hP 0 rfl rfl 8 (by decide) (hts _ (List.mem_of_getElem? (i := 2) rfl)) (fun _ h9 => h9) rfl dX6_feederByYarn_25 ?_
              refine lv_bipush (v := 58) hx hb dX6_feederByYarn_28 (by decide) ?_
              refine lv_iload hx hb dX6_feederByYarn_30 (lv_at hl 4 rfl) ?_
              refine lv_iadd hx hb dX6_feederByYarn_32 ?_
              refine z_top (y := nI (58 + j)) (nI_add 58 j) ?_
              refine ziald 1 0 (58 + j) hx hb hK hP rfl rfl (by omega) (z_lt rfl) dX6_feederByYarn_33 ?_
              refine lv_aload_n hx hb dX6_feederByYarn_34 rfl (lv_at hl 0 rfl) ?_
              refine va_get (D := D) (ci := 10) (v := .ref v9) (C := RX6) (T := TX6) (N := 21) hx hb hts in_RX6 hown hK hP 0 rfl rfl 8 (by decide) (hts _ (List.mem_of_getElem? (i := 2) rfl)) (fun _ h9 => h9) rfl dX6_feederByYarn_35 ?_
              refine lv_bipush (v := 58) hx hb dX6_feederByYarn_38 (by decide) ?_
              refine lv_iload_n hx hb dX6_feederByYarn_40 rfl (lv_at hl 2 rfl) ?_
              refine lv_iadd hx hb dX6_feederByYarn_41 ?_
              refine z_top (y := nI (58 + i)) (nI_add 58 i) ?_
              refine ziald 1 0 (58 + i) hx hb hK hP rfl rfl (by omega) (z_lt rfl) dX6_feederByYarn_42 ?_
              refine lv_icmp_gt (tgt := 74) hx hb dX6_feederByYarn_43 (by decide) (fun c_4 => ?_) (fun c_4 => ?_)
              · refine lv_iconst (v := 1) hx hb dX6_feederByYarn_74 (by decide) ?_
                refine lv_goto (tgt := 79) hx hb dX6_feederByYarn_75 (by decide) ?_
                refine lv_iadd hx hb dX6_feederByYarn_79 ?_
                refine lv_istore_n (lv' := [(3, .int ((zpy6 v i j) + 1)), (0, .ref x9), (1, .int ps), (2, .int (nI i)), (4, .int (nI j))]) hx hb dX6_feederByYarn_80 rfl hl (by decide) rfl (fun ls hl => ?_)
                refine lv_iinc (v := nI (j + 1)) (lv' := [(4, .int (nI (j + 1))), (3, .int ((zpy6 v i j) + 1)), (0, .ref x9), (1, .int ps), (2, .int (nI i))]) hx hb dX6_feederByYarn_81 hl (k := 4) rfl (by rw [show Int32.ofInt 1 = nI 1 from rfl, nI_add]) (by decide) rfl (fun ls hl => ?_)
                refine lv_goto (tgt := 17) hx hb dX6_feederByYarn_84 (by decide) ?_
                exact ih17 (j + 1) ((zpy6 v i j) + 1) (by omega) (by omega) (by first | (simp only [zpy6, zyb6, c_2, c_4, decide_true, decide_false, Bool.not_true, Bool.not_false, Bool.and_true, Bool.true_and, Bool.and_false, Bool.false_and, Bool.or_false, Bool.false_or, Bool.or_true, Bool.true_or, ↓reduceIte, Bool.false_eq_true, not_true_eq_false, not_false_eq_true, and_self]; done) | (simp [zpy6, zyb6, c_2, c_4]; done) | (simp_all [zpy6, zyb6]; done)) H locs hP hD hS ls (lv_sub hl [2, 3, 4, 1, 0] rfl)
              · refine lv_aload_n hx hb dX6_feederByYarn_46 rfl (lv_at hl 0 rfl) ?_
                refine va_get (D := D) (ci := 10) (v := .ref v9) (C := RX6) (T := TX6) (N := 21) hx hb hts in_RX6 hown hK hP 0 rfl rfl 8 (by decide) (hts _ (List.mem_of_getElem? (i := 2) rfl)) (fun _ h9 => h9) rfl dX6_feederByYarn_47 ?_
                refine lv_bipush (v := 58) hx hb dX6_feederByYarn_50 (by decide) ?_
                refine lv_iload hx hb dX6_feederByYarn_52 (lv_at hl 4 rfl) ?_
                refine lv_iadd hx hb dX6_feederByYarn_54 ?_
                refine z_top (y := nI (58 + j)) (nI_add 58 j) ?_
                refine ziald 1 0 (58 + j) hx hb hK hP rfl rfl (by omega) (z_lt rfl) dX6_feederByYarn_55 ?_
                refine lv_aload_n hx hb dX6_feederByYarn_56 rfl (lv_at hl 0 rfl) ?_
                refine va_get (D := D) (ci := 10) (v := .ref v9) (C := RX6) (T := TX6) (N := 21) hx hb hts in_RX6 hown hK hP 0 rfl rfl 8 (by decide) (hts _ (List.mem_of_getElem? (i := 2) rfl)) (fun _ h9 => h9) rfl dX6_feederByYarn_57 ?_
                refine lv_bipush (v := 58) hx hb dX6_feederByYarn_60 (by decide) ?_
                refine lv_iload_n hx hb dX6_feederByYarn_62 rfl (lv_at hl 2 rfl) ?_
                refine lv_iadd hx hb dX6_feederByYarn_63 ?_
                refine z_top (y := nI (58 + i)) (nI_add 58 i) ?_
                refine ziald 1 0 (58 + i) hx hb hK hP rfl rfl (by omega) (z_lt rfl) dX6_feederByYarn_64 ?_
                refine lv_icmp_ne (tgt := 78) hx hb dX6_feederByYarn_65 (by decide) (fun c_5 => ?_) (fun c_5 => ?_)
                · refine lv_iconst (v := 0) hx hb dX6_feederByYarn_78 (by decide) ?_
                  refine lv_iadd hx hb dX6_feederByYarn_79 ?_
                  refine lv_istore_n (lv' := [(3, .int ((zpy6 v i j) + 0)), (0, .ref x9), (1, .int ps), (2, .int (nI i)), (4, .int (nI j))]) hx hb dX6_feederByYarn_80 rfl hl (by decide) rfl (fun ls hl => ?_)
                  refine lv_iinc (v := nI (j + 1)) (lv' := [(4, .int (nI (j + 1))), (3, .int ((zpy6 v i j) + 0)), (0, .ref x9), (1, .int ps), (2, .int (nI i))]) hx hb dX6_feederByYarn_81 hl (k := 4) rfl (by rw [show Int32.ofInt 1 = nI 1 from rfl, nI_add]) (by decide) rfl (fun ls hl => ?_)
                  refine lv_goto (tgt := 17) hx hb dX6_feederByYarn_84 (by decide) ?_
                  exact ih17 (j + 1) ((zpy6 v i j) + 0) (by omega) (by omega) (by first | (simp only [zpy6, zyb6, c_2, c_4, c_5, decide_true, decide_false, Bool.not_true, Bool.not_false, Bool.and_true, Bool.true_and, Bool.and_false, Bool.false_and, Bool.or_false, Bool.false_or, Bool.or_true, Bool.true_or, ↓reduceIte, Bool.false_eq_true, not_true_eq_false, not_false_eq_true, and_self]; done) | (simp [zpy6, zyb6, c_2, c_4, c_5]; done) | (simp_all [zpy6, zyb6]; done)) H locs hP hD hS ls (lv_sub hl [2, 3, 4, 1, 0] rfl)
                · refine lv_iload hx hb dX6_feederByYarn_68 (lv_at hl 4 rfl) ?_
                  refine lv_iload_n hx hb dX6_feederByYarn_70 rfl (lv_at hl 2 rfl) ?_
                  refine lv_icmp_ge (tgt := 78) hx hb dX6_feederByYarn_71 (by decide) (fun c_6 => ?_) (fun c_6 => ?_)
                  · refine lv_iconst (v := 0) hx hb dX6_feederByYarn_78 (by decide) ?_
                    refine lv_iadd hx hb dX6_feederByYarn_79 ?_
                    refine lv_istore_n (lv' := [(3, .int ((zpy6 v i j) + 0)), (0, .ref x9), (1, .int ps), (2, .int (nI i)), (4, .int (nI j))]) hx hb dX6_feederByYarn_80 rfl hl (by decide) rfl (fun ls hl => ?_)
                    refine lv_iinc (v := nI (j + 1)) (lv' := [(4, .int (nI (j + 1))), (3, .int ((zpy6 v i j) + 0)), (0, .ref x9), (1, .int ps), (2, .int (nI i))]) hx hb dX6_feederByYarn_81 hl (k := 4) rfl (by rw [show Int32.ofInt 1 = nI 1 from rfl, nI_add]) (by decide) rfl (fun ls hl => ?_)
                    refine lv_goto (tgt := 17) hx hb dX6_feederByYarn_84 (by decide) ?_
                    exact ih17 (j + 1) ((zpy6 v i j) + 0) (by omega) (by omega) (by first | (simp only [zpy6, zyb6, c_2, c_4, c_5, c_6, decide_true, decide_false, Bool.not_true, Bool.not_false, Bool.and_true, Bool.true_and, Bool.and_false, Bool.false_and, Bool.or_false, Bool.false_or, Bool.or_true, Bool.true_or, ↓reduceIte, Bool.false_eq_true, not_true_eq_false, not_false_eq_true, and_self]; done) | (simp [zpy6, zyb6, c_2, c_4, c_5, c_6]; done) | (simp_all [zpy6, zyb6]; done)) H locs hP hD hS ls (lv_sub hl [2, 3, 4, 1, 0] rfl)
                  · refine lv_iconst (v := 1) hx hb dX6_feederByYarn_74 (by decide) ?_
                    refine lv_goto (tgt := 79) hx hb dX6_feederByYarn_75 (by decide) ?_
                    refine lv_iadd hx hb dX6_feederByYarn_79 ?_
                    refine lv_istore_n (lv' := [(3, .int ((zpy6 v i j) + 1)), (0, .ref x9), (1, .int ps), (2, .int (nI i)), (4, .int (nI j))]) hx hb dX6_feederByYarn_80 rfl hl (by decide) rfl (fun ls hl => ?_)
                    refine lv_iinc (v := nI (j + 1)) (lv' := [(4, .int (nI (j + 1))), (3, .int ((zpy6 v i j) + 1)), (0, .ref x9), (1, .int ps), (2, .int (nI i))]) hx hb dX6_feederByYarn_81 hl (k := 4) rfl (by rw [show Int32.ofInt 1 = nI 1 from rfl, nI_add]) (by decide) rfl (fun ls hl => ?_)
                    refine lv_goto (tgt := 17) hx hb dX6_feederByYarn_84 (by decide) ?_
                    exact ih17 (j + 1) ((zpy6 v i j) + 1) (by omega) (by omega) (by first | (simp only [zpy6, zyb6, c_2, c_4, c_5, c_6, decide_true, decide_false, Bool.not_true, Bool.not_false, Bool.and_true, Bool.true_and, Bool.and_false, Bool.false_and, Bool.or_false, Bool.false_or, Bool.or_true, Bool.true_or, ↓reduceIte, Bool.false_eq_true, not_true_eq_false, not_false_eq_true, and_self]; done) | (simp [zpy6, zyb6, c_2, c_4, c_5, c_6]; done) | (simp_all [zpy6, zyb6]; done)) H locs hP hD hS ls (lv_sub hl [2, 3, 4, 1, 0] rfl)
        exact L17 (4 - 0 + 1) 0 0 (by omega) (Nat.lt_succ_self _) (by rfl) H locs hP hD hS ls (lv_sub hl [2, 3, 4, 1, 0] rfl)
  exact L7 (4 - 0 + 1) 0 (by omega) rfl (Nat.lt_succ_self _) H locs hP hD hS ls (lv_sub hl [1, 2, 0] rfl)

abbrev rmX6_feederByYarn_bad : Room := { frames := 1, cells := 0, slots := 0, locals := 21 }
set_option maxHeartbeats 4000000 in
set_option maxRecDepth 100000 in
theorem c_X6_feederByYarn_bad {G : zG} (hg : zGN G) (l : Launch) (D : va_G) (cy : Nat → ClassId) (x9 : Nat) (th : Int32) (ch : Nat) (era : Int32) (why : Int32) (det : Int32) (cau : Int32) (sv : Bool) (rj : Bool) (v9 : Nat) (b9 : Nat) (s9 : Nat) (k9 : Nat) (p9 : Nat) (t9 : Nat) (n9 : Nat) (tn : Nat) (he : Nat) (en : Nat) (ln : Nat) (iw : Bool) (dg : Bool) (v : Nat → Int32) (ps : Int32) (hz : zfi (fun q => decide (zpy6 v q 4 = ps)) 4 0 = -1) : zM G D vwCl (zT cy) l yX6_feederByYarn wsX6_feederByYarn rmX6_feederByYarn_bad [.ref x9, .int ps] [(x9, .inr (10, [.int th, .int (nI ch), .int era, .int why, .int det, .int cau, .int (zI sv), .int (zI rj), .ref v9, .ref b9, .ref s9, .ref k9, .ref p9, .ref t9, .ref n9, .int (nI tn), .int (nI he), .int (nI en), .int (nI ln), .int (zI iw), .int (zI dg)])), (v9, .inl (cy 0, 188, .inl v))] (some (.int 0)) [(x9, .inr (10, [.int 1, .int (nI ch), .int era, .int why, .int det, .int cau, .int (zI sv), .int (zI rj), .ref v9, .ref b9, .ref s9, .ref k9, .ref p9, .ref t9, .ref n9, .int (nI tn), .int (nI he), .int (nI en), .int (nI ln), .int (zI iw), .int (zI dg)])), (v9, .inl (cy 0, 188, .inl v))] := by
  refine zM_of (cc := cX6_feederByYarn) (maxL := 5) (ret := (some .int)) (by decide) rfl (Nat.le_of_ble_eq_true rfl) ?_
  intro p e s m below meth c A Q hend hx hb hml hr hts hown hlk hG hK hP hD hA hS ls hl
  have hown : s.vm.findClass RX6 = some m.cls := hown
  have in_RX6 : ∀ w ∈ u_ws RX6 TX6 21, w ∈ wsX6_feederByYarn := by decide +kernel
  have hl : lv_has ls 5 [(0, .ref x9), (1, .int ps)] := hl
  refine lv_aload_n hx hb dX6_feederByYarn_0 rfl (lv_at hl 0 rfl) ?_
  refine lv_iconst (v := 0) hx hb dX6_feederByYarn_1 (by decide) ?_
  refine va_put (D := D) (ci := 10) (v := .int 0) (ty := .int) (C := RX6) (T := TX6) (N := 21) hx hb hts in_RX6 tyX6 tyX6_ok nmX6 hown hK hP hD hS 0 rfl rfl 0 (by decide) (hts _ (List.mem_of_getElem? (i := 1) rfl)) (fun _ h9 => h9) rfl (by decide +kernel) rfl rfl (Nat.le_of_ble_eq_true rfl) dX6_feederByYarn_2 (fun H locs hP hD hS => ?_)
  have hP : va_P D vwCl [(x9, .inr (10, [.int 0, .int (nI ch), .int era, .int why, .int det, .int cau, .int (zI sv), .int (zI rj), .ref v9, .ref b9, .ref s9, .ref k9, .ref p9, .ref t9, .ref n9, .int (nI tn), .int (nI he), .int (nI en), .int (nI ln), .int (zI iw), .int (zI dg)])), (v9, .inl (cy 0, 188, .inl v))] H := hP
  have hD : va_D A [(x9, .inr (10, [.int 0, .int (nI ch), .int era, .int why, .int det, .int cau, .int (zI sv), .int (zI rj), .ref v9, .ref b9, .ref s9, .ref k9, .ref p9, .ref t9, .ref n9, .int (nI tn), .int (nI he), .int (nI en), .int (nI ln), .int (zI iw), .int (zI dg)])), (v9, .inl (cy 0, 188, .inl v))] := hD
  refine lv_iconst (v := 0) hx hb dX6_feederByYarn_5 (by decide) ?_
  refine lv_istore_n (lv' := [(2, .int 0), (0, .ref x9), (1, .int ps)]) hx hb dX6_feederByYarn_6 rfl hl (by decide) rfl (fun ls hl => ?_)
  have L7 : ∀ (F : Nat) (i : Nat), i ≤ 4 → zfi (fun q => decide (zpy6 v q 4 = ps)) 4 0 = zfi (fun q => decide (zpy6 v q 4 = ps)) (4 - i) i → 4 - i < F → ∀ (H : Heap) (locs : List Loc), va_P D vwCl [(x9, .inr (10, [.int 0, .int (nI ch), .int era, .int why, .int det, .int cau, .int (zI sv), .int (zI rj), .ref v9, .ref b9, .ref s9, .ref k9, .ref p9, .ref t9, .ref n9, .int (nI tn), .int (nI he), .int (nI en), .int (nI ln), .int (zI iw), .int (zI dg)])), (v9, .inl (cy 0, 188, .inl v))] H → va_D A [(x9, .inr (10, [.int 0, .int (nI ch), .int era, .int why, .int det, .int cau, .int (zI sv), .int (zI rj), .ref v9, .ref b9, .ref s9, .ref k9, .ref p9, .ref t9, .ref n9, .int (nI tn), .int (nI he), .int (nI en), .int (nI ln), .int (zI iw), .int (zI dg)])), (v9, .inl (cy 0, 188, .inl v))] → va_S A s.heap H locs → ∀ ls : Array Slot, lv_has ls 5 [(0, .ref x9), (1, .int ps), (2, .int (nI i))] → W p l e rmX6_feederByYarn_bad s m ([.ref x9, .int ps] : List Value).toArray below meth c H locs 0 0 Q (F0 m 7 ls []) := by
    intro F
    induction F with
    | zero =>
      intro i hi hr2 hF H locs hP hD hS ls hl
      exact absurd hF (Nat.not_lt_zero _)
    | succ F ih7 =>
      intro i hi hr2 hF H locs hP hD hS ls hl
      refine lv_iload_n hx hb dX6_feederByYarn_7 rfl (lv_at hl 2 rfl) ?_
      refine lv_iconst (v := 4) hx hb dX6_feederByYarn_8 (by decide) ?_
      refine lv_icmp_ge (tgt := 100) hx hb dX6_feederByYarn_9 (by decide) (fun c_1 => ?_) (fun c_1 => ?_)
      · have hk2 : 4 ≤ i := (nI_leI (by omega) (by omega)).mp c_1
        obtain rfl : 4 = i := by omega
        refine lv_aload_n hx hb dX6_feederByYarn_100 rfl (lv_at hl 0 rfl) ?_
        refine lv_iconst (v := 1) hx hb dX6_feederByYarn_101 (by decide) ?_
        refine zcV (As := [.int 1]) (rest := []) [0] 0 hg.1 ⟨hx, hb, hml, hown, hts⟩ (c_X6_fail hg l D cy x9 0 ch era why det cau sv rj v9 b9 s9 k9 p9 t9 n9 tn he en ln iw dg 1) (cwV 1 hts gX6_feederByYarn_X6_fail rfl rfl rfl (by decide +kernel) ⟨Nat.le_of_ble_eq_true rfl, Nat.le_of_ble_eq_true rfl⟩) hG hK hP hD hS hA rfl rfl (Eq.trans (b := [x9]) rfl rfl) rfl rfl rfl hl.1 rfl (Nat.le_of_ble_eq_true rfl) dX6_feederByYarn_102 ⟨Nat.zero_le _, Nat.zero_le _⟩ (fun H locs hP hD hS => ?_)
        have hP : va_P D vwCl [(x9, .inr (10, [.int 1, .int (nI ch), .int era, .int why, .int det, .int cau, .int (zI sv), .int (zI rj), .ref v9, .ref b9, .ref s9, .ref k9, .ref p9, .ref t9, .ref n9, .int (nI tn), .int (nI he), .int (nI en), .int (nI ln), .int (zI iw), .int (zI dg)])), (v9, .inl (cy 0, 188, .inl v))] H := hP
        have hD : va_D A [(x9, .inr (10, [.int 1, .int (nI ch), .int era, .int why, .int det, .int cau, .int (zI sv), .int (zI rj), .ref v9, .ref b9, .ref s9, .ref k9, .ref p9, .ref t9, .ref n9, .int (nI tn), .int (nI he), .int (nI en), .int (nI ln), .int (zI iw), .int (zI dg)])), (v9, .inl (cy 0, 188, .inl v))] := hD
        exact ziret hend hx hb hr hlk hK hP hD hS dX6_feederByYarn_105 rfl rfl
      · have hk2 : i < 4 := Nat.lt_of_not_le (fun z => c_1 (nI_le z (by omega)))
        refine lv_iconst (v := 0) hx hb dX6_feederByYarn_12 (by decide) ?_
        refine lv_istore_n (lv' := [(3, .int 0), (0, .ref x9), (1, .int ps), (2, .int (nI i))]) hx hb dX6_feederByYarn_13 rfl hl (by decide) rfl (fun ls hl => ?_)
        refine lv_iconst (v := 0) hx hb dX6_feederByYarn_14 (by decide) ?_
        refine lv_istore (lv' := [(4, .int 0), (3, .int 0), (0, .ref x9), (1, .int ps), (2, .int (nI i))]) hx hb dX6_feederByYarn_15 hl (by decide) rfl (fun ls hl => ?_)
        have L17 : ∀ (F : Nat) (j : Nat) (x17_0 : Int32), j ≤ 4 → 4 - j < F → x17_0 = zpy6 v i j → ∀ (H : Heap) (locs : List Loc), va_P D vwCl [(x9, .inr (10, [.int 0, .int (nI ch), .int era, .int why, .int det, .int cau, .int (zI sv), .int (zI rj), .ref v9, .ref b9, .ref s9, .ref k9, .ref p9, .ref t9, .ref n9, .int (nI tn), .int (nI he), .int (nI en), .int (nI ln), .int (zI iw), .int (zI dg)])), (v9, .inl (cy 0, 188, .inl v))] H → va_D A [(x9, .inr (10, [.int 0, .int (nI ch), .int era, .int why, .int det, .int cau, .int (zI sv), .int (zI rj), .ref v9, .ref b9, .ref s9, .ref k9, .ref p9, .ref t9, .ref n9, .int (nI tn), .int (nI he), .int (nI en), .int (nI ln), .int (zI iw), .int (zI dg)])), (v9, .inl (cy 0, 188, .inl v))] → va_S A s.heap H locs → ∀ ls : Array Slot, lv_has ls 5 [(0, .ref x9), (1, .int ps), (2, .int (nI i)), (3, .int x17_0), (4, .int (nI j))] → W p l e rmX6_feederByYarn_bad s m ([.ref x9, .int ps] : List Value).toArray below meth c H locs 0 0 Q (F0 m 17 ls []) := by
          intro F
          induction F with
          | zero =>
            intro j x17_0 hj hF ex17_0 H locs hP hD hS ls hl
            exact absurd hF (Nat.not_lt_zero _)
          | succ F ih17 =>
            intro j x17_0 hj hF ex17_0 H locs hP hD hS ls hl
            subst ex17_0
            refine lv_iload hx hb dX6_feederByYarn_17 (lv_at hl 4 rfl) ?_
            refine lv_iconst (v := 4) hx hb dX6_feederByYarn_19 (by decide) ?_
            refine lv_icmp_ge (tgt := 87) hx hb dX6_feederByYarn_20 (by decide) (fun c_2 => ?_) (fun c_2 => ?_)
            · have hk2 : 4 ≤ j := (nI_leI (by omega) (by omega)).mp c_2
              obtain rfl : 4 = j := by omega
              refine lv_iload_n hx hb dX6_feederByYarn_87 rfl (lv_at hl 3 rfl) ?_
              refine lv_iload_n hx hb dX6_feederByYarn_88 rfl (lv_at hl 1 rfl) ?_
              refine lv_icmp_ne (tgt := 94) hx hb dX6_feederByYarn_89 (by decide) (fun c_3 => ?_) (fun c_3 => ?_)
              · refine lv_iinc (v := nI (i + 1)) (lv' := [(2, .int (nI (i + 1))), (0, .ref x9), (1, .int ps), (3, .int (zpy6 v i 4)), (4, .int (nI 4))]) hx hb dX6_feederByYarn_94 hl (k := 2) rfl (by rw [show Int32.ofInt 1 = nI 1 from rfl, nI_add]) (by decide) rfl (fun ls hl => ?_)
                refine lv_goto (tgt := 7) hx hb dX6_feederByYarn_97 (by decide) ?_
                exact ih7 (i + 1) (by omega) (by rw [hr2, show 4 - i = (4 - (i + 1)) + 1 by omega, zfi]; simp [c_2, c_3]) (by omega) H locs hP hD hS ls (lv_sub hl [1, 2, 0] rfl)
              · exact absurd (show nI i = -1 from (show zfi (fun q => decide (zpy6 v q 4 = ps)) 4 0 = nI i from (by rw [hr2, show 4 - i = (4 - (i + 1)) + 1 by omega, zfi]; simp [c_2, c_3])).symm.trans hz) (nI_m1 (by omega))
            · have hk2 : j < 4 := Nat.lt_of_not_le (fun z => c_2 (nI_le z (by omega)))
              refine lv_iload_n hx hb dX6_feederByYarn_23 rfl (lv_at hl 3 rfl) ?_
              refine lv_aload_n hx hb dX6_feederByYarn_24 rfl (lv_at hl 0 rfl) ?_
              refine va_get (D := D) (ci := 10) (v := .ref v9) (C := RX6) (T := TX6) (N := 21) hx hb hts in_RX6 hown hK hP 0 rfl rfl 8 (by decide) (hts _ (List.mem_of_getElem? (i := 2) rfl)) (fun _ h9 => h9) rfl dX6_feederByYarn_25 ?_
              refine lv_bipush (v := 58) hx hb dX6_feederByYarn_28 (by decide) ?_
              refine lv_iload hx hb dX6_feederByYarn_30 (lv_at hl 4 rfl) ?_
              refine lv_iadd hx hb dX6_feederByYarn_32 ?_
              refine z_top (y := nI (58 + j)) (nI_add 58 j) ?_
              refine ziald 1 0 (58 + j) hx hb hK hP rfl rfl (by omega) (z_lt rfl) dX6_feederByYarn_33 ?_
              refine lv_aload_n hx hb dX6_feederByYarn_34 rfl (lv_at hl 0 rfl) ?_
              refine va_get (D := D) (ci := 10) (v := .ref v9) (C := RX6) (T := TX6) (N := 21) hx hb hts in_RX6 hown hK hP 0 rfl rfl 8 (by decide) (hts _ (List.mem_of_getElem? (i := 2) rfl)) (fun _ h9 => h9) rfl dX6_feederByYarn_35 ?_
              refine lv_bipush (v := 58) hx hb dX6_feederByYarn_38 (by decide) ?_
              refine lv_iload_n hx hb dX6_feederByYarn_40 rfl (lv_at hl 2 rfl) ?_
              refine lv_iadd hx hb dX6_feederByYarn_41 ?_
              refine z_top (y := nI (58 + i)) (nI_add 58 i) ?_
              refine ziald 1 0 (58 + i) hx hb hK hP rfl rfl (by omega) (z_lt rfl) dX6_feederByYarn_42 ?_
              refine lv_icmp_gt (tgt := 74) hx hb dX6_feederByYarn_43 (by decide) (fun c_4 => ?_) (fun c_4 => ?_)
              · refine lv_iconst (v := 1) hx hb dX6_feederByYarn_74 (by decide) ?_
                refine lv_goto (tgt := 79) hx hb dX6_feederByYarn_75 (by decide) ?_
                refine lv_iadd hx hb dX6_feederByYarn_79 ?_
                refine lv_istore_n (lv' := [(3, .int ((zpy6 v i j) + 1)), (0, .ref x9), (1, .int ps), (2, .int (nI i)), (4, .int (nI j))]) hx hb dX6_feederByYarn_80 rfl hl (by decide) rfl (fun ls hl => ?_)
                refine lv_iinc (v := nI (j + 1)) (lv' := [(4, .int (nI (j + 1))), (3, .int ((zpy6 v i j) + 1)), (0, .ref x9), (1, .int ps), (2, .int (nI i))]) hx hb dX6_feederByYarn_81 hl (k := 4) rfl (by rw [show Int32.ofInt 1 = nI 1 from rfl, nI_add]) (by decide) rfl (fun ls hl => ?_)
                refine lv_goto (tgt := 17) hx hb dX6_feederByYarn_84 (by decide) ?_
                exact ih17 (j + 1) ((zpy6 v i j) + 1) (by omega) (by omega) (by first | (simp only [zpy6, zyb6, c_2, c_4, decide_true, decide_false, Bool.not_true, Bool.not_false, Bool.and_true, Bool.true_and, Bool.and_false, Bool.false_and, Bool.or_false, Bool.false_or, Bool.or_true, Bool.true_or, ↓reduceIte, Bool.false_eq_true, not_true_eq_false, not_false_eq_true, and_self]; done) | (simp [zpy6, zyb6, c_2, c_4]; done) | (simp_all [zpy6, zyb6]; done)) H locs hP hD hS ls (lv_sub hl [2, 3, 4, 1, 0] rfl)
              · refine lv_aload_n hx hb dX6_feederByYarn_46 rfl (lv_at hl 0 rfl) ?_
                refine va_get (D := D) (ci := 10) (v := .ref v9) (C := RX6) (T := TX6) (N := 21) hx hb hts in_RX6 hown hK hP 0 rfl rfl 8 (by decide) (hts _ (List.mem_of_getElem? (i := 2) rfl)) (fun _ h9 => h9) rfl dX6_feederByYarn_47 ?_
                refine lv_bipush (v := 58) hx hb dX6_feederByYarn_50 (by decide) ?_
                refine lv_iload hx hb dX6_feederByYarn_52 (lv_at hl 4 rfl) ?_
                refine lv_iadd hx hb dX6_feederByYarn_54 ?_
                refine z_top (y := nI (58 + j)) (nI_add 58 j) ?_
                refine ziald 1 0 (58 + j) hx hb hK hP rfl rfl (by omega) (z_lt rfl) dX6_feederByYarn_55 ?_
                refine lv_aload_n hx hb dX6_feederByYarn_56 rfl (lv_at hl 0 rfl) ?_
                refine va_get (D := D) (ci := 10) (v := .ref v9) (C := RX6) (T := TX6) (N := 21) hx hb hts in_RX6 hown hK hP 0 rfl rfl 8 (by decide) (hts _ (List.mem_of_getElem? (i := 2) rfl)) (fun _ h9 => h9) rfl dX6_feederByYarn_57 ?_
                refine lv_bipush (v := 58) hx hb dX6_feederByYarn_60 (by decide) ?_
                refine lv_iload_n hx hb dX6_feederByYarn_62 rfl (lv_at hl 2 rfl) ?_
                refine lv_iadd hx hb dX6_feederByYarn_63 ?_
                refine z_top (y := nI (58 + i)) (nI_add 58 i) ?_
                refine ziald 1 0 (58 + i) hx hb hK hP rfl rfl (by omega) (z_lt rfl) dX6_feederByYarn_64 ?_
                refine lv_icmp_ne (tgt := 78) hx hb dX6_feederByYarn_65 (by decide) (fun c_5 => ?_) (fun c_5 => ?_)
                · refine lv_iconst (v := 0) hx hb dX6_feederByYarn_78 (by decide) ?_
                  refine lv_iadd hx hb dX6_feederByYarn_79 ?_
                  refine lv_istore_n (lv' := [(3, .int ((zpy6 v i j) + 0)), (0, .ref x9), (1, .int ps), (2, .int (nI i)), (4, .int (nI j))]) hx hb dX6_feederByYarn_80 rfl hl (by decide) rfl (fun ls hl => ?_)
                  refine lv_iinc (v := nI (j + 1)) (lv' := [(4, .int (nI (j + 1))), (3, .int ((zpy6 v i j) + 0)), (0, .ref x9), (1, .int ps), (2, .int (nI i))]) hx hb dX6_feederByYarn_81 hl (k := 4) rfl (by rw [show Int32.ofInt 1 = nI 1 from rfl, nI_add]) (by decide) rfl (fun ls hl => ?_)
                  refine lv_goto (tgt := 17) hx hb dX6_feederByYarn_84 (by decide) ?_
                  exact ih17 (j + 1) ((zpy6 v i j) + 0) (by omega) (by omega) (by first | (simp only [zpy6, zyb6, c_2, c_4, c_5, decide_true, decide_false, Bool.not_true, Bool.not_false, Bool.and_true, Bool.true_and, Bool.and_false, Bool.false_and, Bool.or_false, Bool.false_or, Bool.or_true, Bool.true_or, ↓reduceIte, Bool.false_eq_true, not_true_eq_false, not_false_eq_true, and_self]; done) | (simp [zpy6, zyb6, c_2, c_4, c_5]; done) | (simp_all [zpy6, zyb6]; done)) H locs hP hD hS ls (lv_sub hl [2, 3, 4, 1, 0] rfl)
                · refine lv_iload hx hb dX6_feederByYarn_68 (lv_at hl 4 rfl) ?_
                  refine lv_iload_n hx hb dX6_feederByYarn_70 rfl (lv_at hl 2 rfl) ?_
                  refine lv_icmp_ge (tgt := 78) hx hb dX6_feederByYarn_71 (by decide) (fun c_6 => ?_) (fun c_6 => ?_)
                  · refine lv_iconst (v := 0) hx hb dX6_feederByYarn_78 (by decide) ?_
                    refine lv_iadd hx hb dX6_feederByYarn_79 ?_
                    refine lv_istore_n (lv' := [(3, .int ((zpy6 v i j) + 0)), (0, .ref x9), (1, .int ps), (2, .int (nI i)), (4, .int (nI j))]) hx hb dX6_feederByYarn_80 rfl hl (by decide) rfl (fun ls hl => ?_)
                    refine lv_iinc (v := nI (j + 1)) (lv' := [(4, .int (nI (j + 1))), (3, .int ((zpy6 v i j) + 0)), (0, .ref x9), (1, .int ps), (2, .int (nI i))]) hx hb dX6_feederByYarn_81 hl (k := 4) rfl (by rw [show Int32.ofInt 1 = nI 1 from rfl, nI_add]) (by decide) rfl (fun ls hl => ?_)
                    refine lv_goto (tgt := 17) hx hb dX6_feederByYarn_84 (by decide) ?_
                    exact ih17 (j + 1) ((zpy6 v i j) + 0) (by omega) (by omega) (by first | (simp only [zpy6, zyb6, c_2, c_4, c_5, c_6, decide_true, decide_false, Bool.not_true, Bool.not_false, Bool.and_true, Bool.true_and, Bool.and_false, Bool.false_and, Bool.or_false, Bool.false_or, Bool.or_true, Bool.true_or, ↓reduceIte, Bool.false_eq_true, not_true_eq_false, not_false_eq_true, and_self]; done) | (simp [zpy6, zyb6, c_2, c_4, c_5, c_6]; done) | (simp_all [zpy6, zyb6]; done)) H locs hP hD hS ls (lv_sub hl [2, 3, 4, 1, 0] rfl)
                  · refine lv_iconst (v := 1) hx hb dX6_feederByYarn_74 (by decide) ?_
                    refine lv_goto (tgt := 79) hx hb dX6_feederByYarn_75 (by decide) ?_
                    refine lv_iadd hx hb dX6_feederByYarn_79 ?_
                    refine lv_istore_n (lv' := [(3, .int ((zpy6 v i j) + 1)), (0, .ref x9), (1, .int ps), (2, .int (nI i)), (4, .int (nI j))]) hx hb dX6_feederByYarn_80 rfl hl (by decide) rfl (fun ls hl => ?_)
                    refine lv_iinc (v := nI (j + 1)) (lv' := [(4, .int (nI (j + 1))), (3, .int ((zpy6 v i j) + 1)), (0, .ref x9), (1, .int ps), (2, .int (nI i))]) hx hb dX6_feederByYarn_81 hl (k := 4) rfl (by rw [show Int32.ofInt 1 = nI 1 from rfl, nI_add]) (by decide) rfl (fun ls hl => ?_)
                    refine lv_goto (tgt := 17) hx hb dX6_feederByYarn_84 (by decide) ?_
                    exact ih17 (j + 1) ((zpy6 v i j) + 1) (by omega) (by omega) (by first | (simp only [zpy6, zyb6, c_2, c_4, c_5, c_6, decide_true, decide_false, Bool.not_true, Bool.not_false, Bool.and_true, Bool.true_and, Bool.and_false, Bool.false_and, Bool.or_false, Bool.false_or, Bool.or_true, Bool.true_or, ↓reduceIte, Bool.false_eq_true, not_true_eq_false, not_false_eq_true, and_self]; done) | (simp [zpy6, zyb6, c_2, c_4, c_5, c_6]; done) | (simp_all [zpy6, zyb6]; done)) H locs hP hD hS ls (lv_sub hl [2, 3, 4, 1, 0] rfl)
        exact L17 (4 - 0 + 1) 0 0 (by omega) (Nat.lt_succ_self _) (by rfl) H locs hP hD hS ls (lv_sub hl [2, 3, 4, 1, 0] rfl)
  exact L7 (4 - 0 + 1) 0 (by omega) rfl (Nat.lt_succ_self _) H locs hP hD hS ls (lv_sub hl [1, 2, 0] rfl)

abbrev rmX6_isConsistent : Room := { frames := 0, cells := 0, slots := 0, locals := 0 }
set_option maxHeartbeats 4000000 in
set_option maxRecDepth 100000 in
theorem c_X6_isConsistent {G : zG} (hg : zGN G) (l : Launch) (D : va_G) (cy : Nat → ClassId) (x9 : Nat) (th : Int32) (ch : Nat) (era : Int32) (why : Int32) (det : Int32) (cau : Int32) (sv : Bool) (rj : Bool) (v9 : Nat) (b9 : Nat) (s9 : Nat) (k9 : Nat) (p9 : Nat) (t9 : Nat) (n9 : Nat) (tn : Nat) (he : Nat) (en : Nat) (ln : Nat) (iw : Bool) (dg : Bool) (v : Nat → Int32) : zM G D vwCl (zT cy) l yX6_isConsistent wsX6_isConsistent rmX6_isConsistent [.ref x9] [(x9, .inr (10, [.int th, .int (nI ch), .int era, .int why, .int det, .int cau, .int (zI sv), .int (zI rj), .ref v9, .ref b9, .ref s9, .ref k9, .ref p9, .ref t9, .ref n9, .int (nI tn), .int (nI he), .int (nI en), .int (nI ln), .int (zI iw), .int (zI dg)])), (v9, .inl (cy 0, 188, .inl v))] (some (.int (zI (decide (zys6 v 4 = v 7) && decide (v 1 &&& (v 0 ^^^ (-1)) = 0))))) [(x9, .inr (10, [.int 0, .int (nI ch), .int era, .int why, .int det, .int cau, .int (zI sv), .int (zI rj), .ref v9, .ref b9, .ref s9, .ref k9, .ref p9, .ref t9, .ref n9, .int (nI tn), .int (nI he), .int (nI en), .int (nI ln), .int (zI iw), .int (zI dg)])), (v9, .inl (cy 0, 188, .inl v))] := by
  refine zM_of (cc := cX6_isConsistent) (maxL := 3) (ret := (some .boolean)) (by decide) rfl (Nat.le_of_ble_eq_true rfl) ?_
  intro p e s m below meth c A Q hend hx hb hml hr hts hown hlk hG hK hP hD hA hS ls hl
  have hown : s.vm.findClass RX6 = some m.cls := hown
  have in_RX6 : ∀ w ∈ u_ws RX6 TX6 21, w ∈ wsX6_isConsistent := by decide +kernel
  have hl : lv_has ls 3 [(0, .ref x9)] := hl
  refine lv_aload_n hx hb dX6_isConsistent_0 rfl (lv_at hl 0 rfl) ?_
  refine lv_iconst (v := 0) hx hb dX6_isConsistent_1 (by decide) ?_
  refine va_put (D := D) (ci := 10) (v := .int 0) (ty := .int) (C := RX6) (T := TX6) (N := 21) hx hb hts in_RX6 tyX6 tyX6_ok nmX6 hown hK hP hD hS 0 rfl rfl 0 (by decide) (hts _ (List.mem_of_getElem? (i := 1) rfl)) (fun _ h9 => h9) rfl (by decide +kernel) rfl rfl (Nat.le_of_ble_eq_true rfl) dX6_isConsistent_2 (fun H locs hP hD hS => ?_)
  have hP : va_P D vwCl [(x9, .inr (10, [.int 0, .int (nI ch), .int era, .int why, .int det, .int cau, .int (zI sv), .int (zI rj), .ref v9, .ref b9, .ref s9, .ref k9, .ref p9, .ref t9, .ref n9, .int (nI tn), .int (nI he), .int (nI en), .int (nI ln), .int (zI iw), .int (zI dg)])), (v9, .inl (cy 0, 188, .inl v))] H := hP
  have hD : va_D A [(x9, .inr (10, [.int 0, .int (nI ch), .int era, .int why, .int det, .int cau, .int (zI sv), .int (zI rj), .ref v9, .ref b9, .ref s9, .ref k9, .ref p9, .ref t9, .ref n9, .int (nI tn), .int (nI he), .int (nI en), .int (nI ln), .int (zI iw), .int (zI dg)])), (v9, .inl (cy 0, 188, .inl v))] := hD
  refine lv_aload_n hx hb dX6_isConsistent_5 rfl (lv_at hl 0 rfl) ?_
  refine va_get (D := D) (ci := 10) (v := .ref v9) (C := RX6) (T := TX6) (N := 21) hx hb hts in_RX6 hown hK hP 0 rfl rfl 8 (by decide) (hts _ (List.mem_of_getElem? (i := 2) rfl)) (fun _ h9 => h9) rfl dX6_isConsistent_6 ?_
  refine lv_bipush (v := 8) hx hb dX6_isConsistent_9 (by decide) ?_
  refine ziald 1 0 8 hx hb hK hP rfl rfl (by omega) (z_lt rfl) dX6_isConsistent_11 ?_
  refine lv_istore_n (lv' := [(1, .int (v 8)), (0, .ref x9)]) hx hb dX6_isConsistent_12 rfl hl (by decide) rfl (fun ls hl => ?_)
  refine lv_iconst (v := 0) hx hb dX6_isConsistent_13 (by decide) ?_
  refine lv_istore_n (lv' := [(2, .int 0), (1, .int (v 8)), (0, .ref x9)]) hx hb dX6_isConsistent_14 rfl hl (by decide) rfl (fun ls hl => ?_)
  have L15 : ∀ (F : Nat) (k : Nat) (x15_0 : Int32), k ≤ 4 → 4 - k < F → x15_0 = zys6 v k → ∀ (H : Heap) (locs : List Loc), va_P D vwCl [(x9, .inr (10, [.int 0, .int (nI ch), .int era, .int why, .int det, .int cau, .int (zI sv), .int (zI rj), .ref v9, .ref b9, .ref s9, .ref k9, .ref p9, .ref t9, .ref n9, .int (nI tn), .int (nI he), .int (nI en), .int (nI ln), .int (zI iw), .int (zI dg)])), (v9, .inl (cy 0, 188, .inl v))] H → va_D A [(x9, .inr (10, [.int 0, .int (nI ch), .int era, .int why, .int det, .int cau, .int (zI sv), .int (zI rj), .ref v9, .ref b9, .ref s9, .ref k9, .ref p9, .ref t9, .ref n9, .int (nI tn), .int (nI he), .int (nI en), .int (nI ln), .int (zI iw), .int (zI dg)])), (v9, .inl (cy 0, 188, .inl v))] → va_S A s.heap H locs → ∀ ls : Array Slot, lv_has ls 3 [(0, .ref x9), (1, .int x15_0), (2, .int (nI k))] → W p l e rmX6_isConsistent s m ([.ref x9] : List Value).toArray below meth c H locs 0 0 Q (F0 m 15 ls []) := by
    intro F
    induction F with
    | zero =>
      intro k x15_0 hk hF ex15_0 H locs hP hD hS ls hl
      exact absurd hF (Nat.not_lt_zero _)
    | succ F ih15 =>
      intro k x15_0 hk hF ex15_0 H locs hP hD hS ls hl
      subst ex15_0
      refine lv_iload_n hx hb dX6_isConsistent_15 rfl (lv_at hl 2 rfl) ?_
      refine lv_iconst (v := 4) hx hb dX6_isConsistent_16 (by decide) ?_
      refine lv_icmp_ge (tgt := 38) hx hb dX6_isConsistent_17 (by decide) (fun c_1 => ?_) (fun c_1 => ?_)
      · have hk2 : 4 ≤ k := (nI_leI (by omega) (by omega)).mp c_1
        obtain rfl : 4 = k := by omega
        refine lv_iload_n hx hb dX6_isConsistent_38 rfl (lv_at hl 1 rfl) ?_
        refine lv_aload_n hx hb dX6_isConsistent_39 rfl (lv_at hl 0 rfl) ?_
        refine va_get (D := D) (ci := 10) (v := .ref v9) (C := RX6) (T := TX6) (N := 21) hx hb hts in_RX6 hown hK hP 0 rfl rfl 8 (by decide) (hts _ (List.mem_of_getElem? (i := 2) rfl)) (fun _ h9 => h9) rfl dX6_isConsistent_40 ?_
        refine lv_bipush (v := 7) hx hb dX6_isConsistent_43 (by decide) ?_
        refine ziald 1 0 7 hx hb hK hP rfl rfl (by omega) (z_lt rfl) dX6_isConsistent_45 ?_
        refine lv_icmp_ne (tgt := 71) hx hb dX6_isConsistent_46 (by decide) (fun c_2 => ?_) (fun c_2 => ?_)
        · refine lv_iconst (v := 0) hx hb dX6_isConsistent_71 (by decide) ?_
          exact zzret hend hx hb hr hlk hK hP hD hS dX6_isConsistent_72 rfl (by first | (simp [zI, c_1, c_2]; done) | (simp_all [zI]; done)) rfl
        · refine lv_aload_n hx hb dX6_isConsistent_49 rfl (lv_at hl 0 rfl) ?_
          refine va_get (D := D) (ci := 10) (v := .ref v9) (C := RX6) (T := TX6) (N := 21) hx hb hts in_RX6 hown hK hP 0 rfl rfl 8 (by decide) (hts _ (List.mem_of_getElem? (i := 2) rfl)) (fun _ h9 => h9) rfl dX6_isConsistent_50 ?_
          refine lv_iconst (v := 1) hx hb dX6_isConsistent_53 (by decide) ?_
          refine ziald 1 0 1 hx hb hK hP rfl rfl (by omega) (z_lt rfl) dX6_isConsistent_54 ?_
          refine lv_aload_n hx hb dX6_isConsistent_55 rfl (lv_at hl 0 rfl) ?_
          refine va_get (D := D) (ci := 10) (v := .ref v9) (C := RX6) (T := TX6) (N := 21) hx hb hts in_RX6 hown hK hP 0 rfl rfl 8 (by decide) (hts _ (List.mem_of_getElem? (i := 2) rfl)) (fun _ h9 => h9) rfl dX6_isConsistent_56 ?_
          refine lv_iconst (v := 0) hx hb dX6_isConsistent_59 (by decide) ?_
          refine ziald 1 0 0 hx hb hK hP rfl rfl (by omega) (z_lt rfl) dX6_isConsistent_60 ?_
          refine lv_iconst (v := (-1)) hx hb dX6_isConsistent_61 (by decide) ?_
          refine lv_ixor hx hb dX6_isConsistent_62 ?_
          refine lv_iand hx hb dX6_isConsistent_63 ?_
          refine lv_if_ne (tgt := 71) hx hb dX6_isConsistent_64 (by decide) (fun c_3 => ?_) (fun c_3 => ?_)
          · refine lv_iconst (v := 0) hx hb dX6_isConsistent_71 (by decide) ?_
            exact zzret hend hx hb hr hlk hK hP hD hS dX6_isConsistent_72 rfl (by first | (simp [zI, c_1, c_2, c_3]; done) | (simp_all [zI]; done)) rfl
          · refine lv_iconst (v := 1) hx hb dX6_isConsistent_67 (by decide) ?_
            refine lv_goto (tgt := 72) hx hb dX6_isConsistent_68 (by decide) ?_
            exact zzret hend hx hb hr hlk hK hP hD hS dX6_isConsistent_72 rfl (by first | (simp [zI, c_1, c_2, c_3]; done) | (simp_all [zI]; done)) rfl
      · have hk2 : k < 4 := Nat.lt_of_not_le (fun z => c_1 (nI_le z (by omega)))
        refine lv_iload_n hx hb dX6_isConsistent_20 rfl (lv_at hl 1 rfl) ?_
        refine lv_aload_n hx hb dX6_isConsistent_21 rfl (lv_at hl 0 rfl) ?_
        refine va_get (D := D) (ci := 10) (v := .ref v9) (C := RX6) (T := TX6) (N := 21) hx hb hts in_RX6 hown hK hP 0 rfl rfl 8 (by decide) (hts _ (List.mem_of_getElem? (i := 2) rfl)) (fun _ h9 => h9) rfl dX6_isConsistent_22 ?_
        refine lv_bipush (v := 58) hx hb dX6_isConsistent_25 (by decide) ?_
        refine lv_iload_n hx hb dX6_isConsistent_27 rfl (lv_at hl 2 rfl) ?_
        refine lv_iadd hx hb dX6_isConsistent_28 ?_
        refine z_top (y := nI (58 + k)) (nI_add 58 k) ?_
        refine ziald 1 0 (58 + k) hx hb hK hP rfl rfl (by omega) (z_lt rfl) dX6_isConsistent_29 ?_
        refine lv_iadd hx hb dX6_isConsistent_30 ?_
        refine lv_istore_n (lv' := [(1, .int ((zys6 v k) + (v (58 + k)))), (0, .ref x9), (2, .int (nI k))]) hx hb dX6_isConsistent_31 rfl hl (by decide) rfl (fun ls hl => ?_)
        refine lv_iinc (v := nI (k + 1)) (lv' := [(2, .int (nI (k + 1))), (1, .int ((zys6 v k) + (v (58 + k)))), (0, .ref x9)]) hx hb dX6_isConsistent_32 hl (k := 2) rfl (by rw [show Int32.ofInt 1 = nI 1 from rfl, nI_add]) (by decide) rfl (fun ls hl => ?_)
        refine lv_goto (tgt := 15) hx hb dX6_isConsistent_35 (by decide) ?_
        exact ih15 (k + 1) ((zys6 v k) + (v (58 + k))) (by omega) (by omega) (by rfl) H locs hP hD hS ls (lv_sub hl [2, 1, 0] rfl)
  exact L15 (4 - 0 + 1) 0 (v 8) (by omega) (Nat.lt_succ_self _) (by rfl) H locs hP hD hS ls (lv_sub hl [2, 1, 0] rfl)

abbrev rmX6_syntaxErrorOffset_ok : Room := { frames := 0, cells := 0, slots := 0, locals := 0 }
set_option maxHeartbeats 4000000 in
set_option maxRecDepth 100000 in
theorem c_X6_syntaxErrorOffset_ok {G : zG} (hg : zGN G) (l : Launch) (D : va_G) (cy : Nat → ClassId) (x9 : Nat) (th : Int32) (ch : Nat) (era : Int32) (why : Int32) (det : Int32) (cau : Int32) (sv : Bool) (rj : Bool) (v9 : Nat) (b9 : Nat) (s9 : Nat) (k9 : Nat) (p9 : Nat) (t9 : Nat) (n9 : Nat) (tn : Nat) (he : Nat) (en : Nat) (ln : Nat) (iw : Bool) (dg : Bool) (he0 : 0 ≤ era) : zM G D vwCl (zT cy) l yX6_syntaxErrorOffset wsX6_syntaxErrorOffset rmX6_syntaxErrorOffset_ok [.ref x9] [(x9, .inr (10, [.int th, .int (nI ch), .int era, .int why, .int det, .int cau, .int (zI sv), .int (zI rj), .ref v9, .ref b9, .ref s9, .ref k9, .ref p9, .ref t9, .ref n9, .int (nI tn), .int (nI he), .int (nI en), .int (nI ln), .int (zI iw), .int (zI dg)]))] (some (.int era)) [(x9, .inr (10, [.int 0, .int (nI ch), .int era, .int why, .int det, .int cau, .int (zI sv), .int (zI rj), .ref v9, .ref b9, .ref s9, .ref k9, .ref p9, .ref t9, .ref n9, .int (nI tn), .int (nI he), .int (nI en), .int (nI ln), .int (zI iw), .int (zI dg)]))] := by
  refine zM_of (cc := cX6_syntaxErrorOffset) (maxL := 1) (ret := (some .int)) (by decide) rfl (Nat.le_of_ble_eq_true rfl) ?_
  intro p e s m below meth c A Q hend hx hb hml hr hts hown hlk hG hK hP hD hA hS ls hl
  have hown : s.vm.findClass RX6 = some m.cls := hown
  have in_RX6 : ∀ w ∈ u_ws RX6 TX6 21, w ∈ wsX6_syntaxErrorOffset := by decide +kernel
  have hl : lv_has ls 1 [(0, .ref x9)] := hl
  refine lv_aload_n hx hb dX6_syntaxErrorOffset_0 rfl (lv_at hl 0 rfl) ?_
  refine lv_aload_n hx hb dX6_syntaxErrorOffset_1 rfl (lv_at hl 0 rfl) ?_
  refine va_get (D := D) (ci := 10) (v := .int era) (C := RX6) (T := TX6) (N := 21) hx hb hts in_RX6 hown hK hP 0 rfl rfl 2 (by decide) (hts _ (List.mem_of_getElem? (i := 1) rfl)) (fun _ h9 => h9) rfl dX6_syntaxErrorOffset_2 ?_
  refine lv_if_ge (tgt := 12) hx hb dX6_syntaxErrorOffset_5 (by decide) (fun c_1 => ?_) (fun c_1 => ?_)
  · refine lv_iconst (v := 0) hx hb dX6_syntaxErrorOffset_12 (by decide) ?_
    refine va_put (D := D) (ci := 10) (v := .int 0) (ty := .int) (C := RX6) (T := TX6) (N := 21) hx hb hts in_RX6 tyX6 tyX6_ok nmX6 hown hK hP hD hS 0 rfl rfl 0 (by decide) (hts _ (List.mem_of_getElem? (i := 2) rfl)) (fun _ h9 => h9) rfl (by decide +kernel) rfl rfl (Nat.le_of_ble_eq_true rfl) dX6_syntaxErrorOffset_13 (fun H locs hP hD hS => ?_)
    have hP : va_P D vwCl [(x9, .inr (10, [.int 0, .int (nI ch), .int era, .int why, .int det, .int cau, .int (zI sv), .int (zI rj), .ref v9, .ref b9, .ref s9, .ref k9, .ref p9, .ref t9, .ref n9, .int (nI tn), .int (nI he), .int (nI en), .int (nI ln), .int (zI iw), .int (zI dg)]))] H := hP
    have hD : va_D A [(x9, .inr (10, [.int 0, .int (nI ch), .int era, .int why, .int det, .int cau, .int (zI sv), .int (zI rj), .ref v9, .ref b9, .ref s9, .ref k9, .ref p9, .ref t9, .ref n9, .int (nI tn), .int (nI he), .int (nI en), .int (nI ln), .int (zI iw), .int (zI dg)]))] := hD
    refine lv_aload_n hx hb dX6_syntaxErrorOffset_16 rfl (lv_at hl 0 rfl) ?_
    refine va_get (D := D) (ci := 10) (v := .int 0) (C := RX6) (T := TX6) (N := 21) hx hb hts in_RX6 hown hK hP 0 rfl rfl 0 (by decide) (hts _ (List.mem_of_getElem? (i := 2) rfl)) (fun _ h9 => h9) rfl dX6_syntaxErrorOffset_17 ?_
    refine lv_if_ne (tgt := 30) hx hb dX6_syntaxErrorOffset_20 (by decide) (fun c_2 => ?_) (fun c_2 => ?_)
    · exact absurd c_2 (by decide)
    · refine lv_aload_n hx hb dX6_syntaxErrorOffset_23 rfl (lv_at hl 0 rfl) ?_
      refine va_get (D := D) (ci := 10) (v := .int era) (C := RX6) (T := TX6) (N := 21) hx hb hts in_RX6 hown hK hP 0 rfl rfl 2 (by decide) (hts _ (List.mem_of_getElem? (i := 1) rfl)) (fun _ h9 => h9) rfl dX6_syntaxErrorOffset_24 ?_
      refine lv_goto (tgt := 31) hx hb dX6_syntaxErrorOffset_27 (by decide) ?_
      exact ziret hend hx hb hr hlk hK hP hD hS dX6_syntaxErrorOffset_31 rfl rfl
  · exact absurd he0 c_1

abbrev rmX6_syntaxErrorOffset_bad : Room := { frames := 0, cells := 0, slots := 0, locals := 0 }
set_option maxHeartbeats 4000000 in
set_option maxRecDepth 100000 in
theorem c_X6_syntaxErrorOffset_bad {G : zG} (hg : zGN G) (l : Launch) (D : va_G) (cy : Nat → ClassId) (x9 : Nat) (th : Int32) (ch : Nat) (era : Int32) (why : Int32) (det : Int32) (cau : Int32) (sv : Bool) (rj : Bool) (v9 : Nat) (b9 : Nat) (s9 : Nat) (k9 : Nat) (p9 : Nat) (t9 : Nat) (n9 : Nat) (tn : Nat) (he : Nat) (en : Nat) (ln : Nat) (iw : Bool) (dg : Bool) (he0 : ¬ 0 ≤ era) : zM G D vwCl (zT cy) l yX6_syntaxErrorOffset wsX6_syntaxErrorOffset rmX6_syntaxErrorOffset_bad [.ref x9] [(x9, .inr (10, [.int th, .int (nI ch), .int era, .int why, .int det, .int cau, .int (zI sv), .int (zI rj), .ref v9, .ref b9, .ref s9, .ref k9, .ref p9, .ref t9, .ref n9, .int (nI tn), .int (nI he), .int (nI en), .int (nI ln), .int (zI iw), .int (zI dg)]))] (some (.int 0)) [(x9, .inr (10, [.int 1, .int (nI ch), .int era, .int why, .int det, .int cau, .int (zI sv), .int (zI rj), .ref v9, .ref b9, .ref s9, .ref k9, .ref p9, .ref t9, .ref n9, .int (nI tn), .int (nI he), .int (nI en), .int (nI ln), .int (zI iw), .int (zI dg)]))] := by
  refine zM_of (cc := cX6_syntaxErrorOffset) (maxL := 1) (ret := (some .int)) (by decide) rfl (Nat.le_of_ble_eq_true rfl) ?_
  intro p e s m below meth c A Q hend hx hb hml hr hts hown hlk hG hK hP hD hA hS ls hl
  have hown : s.vm.findClass RX6 = some m.cls := hown
  have in_RX6 : ∀ w ∈ u_ws RX6 TX6 21, w ∈ wsX6_syntaxErrorOffset := by decide +kernel
  have hl : lv_has ls 1 [(0, .ref x9)] := hl
  refine lv_aload_n hx hb dX6_syntaxErrorOffset_0 rfl (lv_at hl 0 rfl) ?_
  refine lv_aload_n hx hb dX6_syntaxErrorOffset_1 rfl (lv_at hl 0 rfl) ?_
  refine va_get (D := D) (ci := 10) (v := .int era) (C := RX6) (T := TX6) (N := 21) hx hb hts in_RX6 hown hK hP 0 rfl rfl 2 (by decide) (hts _ (List.mem_of_getElem? (i := 1) rfl)) (fun _ h9 => h9) rfl dX6_syntaxErrorOffset_2 ?_
  refine lv_if_ge (tgt := 12) hx hb dX6_syntaxErrorOffset_5 (by decide) (fun c_1 => ?_) (fun c_1 => ?_)
  · exact absurd c_1 he0
  · refine lv_iconst (v := 1) hx hb dX6_syntaxErrorOffset_8 (by decide) ?_
    refine lv_goto (tgt := 13) hx hb dX6_syntaxErrorOffset_9 (by decide) ?_
    refine va_put (D := D) (ci := 10) (v := .int 1) (ty := .int) (C := RX6) (T := TX6) (N := 21) hx hb hts in_RX6 tyX6 tyX6_ok nmX6 hown hK hP hD hS 0 rfl rfl 0 (by decide) (hts _ (List.mem_of_getElem? (i := 2) rfl)) (fun _ h9 => h9) rfl (by decide +kernel) rfl rfl (Nat.le_of_ble_eq_true rfl) dX6_syntaxErrorOffset_13 (fun H locs hP hD hS => ?_)
    have hP : va_P D vwCl [(x9, .inr (10, [.int 1, .int (nI ch), .int era, .int why, .int det, .int cau, .int (zI sv), .int (zI rj), .ref v9, .ref b9, .ref s9, .ref k9, .ref p9, .ref t9, .ref n9, .int (nI tn), .int (nI he), .int (nI en), .int (nI ln), .int (zI iw), .int (zI dg)]))] H := hP
    have hD : va_D A [(x9, .inr (10, [.int 1, .int (nI ch), .int era, .int why, .int det, .int cau, .int (zI sv), .int (zI rj), .ref v9, .ref b9, .ref s9, .ref k9, .ref p9, .ref t9, .ref n9, .int (nI tn), .int (nI he), .int (nI en), .int (nI ln), .int (zI iw), .int (zI dg)]))] := hD
    refine lv_aload_n hx hb dX6_syntaxErrorOffset_16 rfl (lv_at hl 0 rfl) ?_
    refine va_get (D := D) (ci := 10) (v := .int 1) (C := RX6) (T := TX6) (N := 21) hx hb hts in_RX6 hown hK hP 0 rfl rfl 0 (by decide) (hts _ (List.mem_of_getElem? (i := 2) rfl)) (fun _ h9 => h9) rfl dX6_syntaxErrorOffset_17 ?_
    refine lv_if_ne (tgt := 30) hx hb dX6_syntaxErrorOffset_20 (by decide) (fun c_2 => ?_) (fun c_2 => ?_)
    · refine lv_iconst (v := 0) hx hb dX6_syntaxErrorOffset_30 (by decide) ?_
      exact ziret hend hx hb hr hlk hK hP hD hS dX6_syntaxErrorOffset_31 rfl rfl
    · exact absurd c_2 (by decide)

abbrev rmX6_rejectionReason_ok : Room := { frames := 0, cells := 0, slots := 0, locals := 0 }
set_option maxHeartbeats 4000000 in
set_option maxRecDepth 100000 in
theorem c_X6_rejectionReason_ok {G : zG} (hg : zGN G) (l : Launch) (D : va_G) (cy : Nat → ClassId) (x9 : Nat) (th : Int32) (ch : Nat) (era : Int32) (why : Int32) (det : Int32) (cau : Int32) (sv : Bool) (rj : Bool) (v9 : Nat) (b9 : Nat) (s9 : Nat) (k9 : Nat) (p9 : Nat) (t9 : Nat) (n9 : Nat) (tn : Nat) (he : Nat) (en : Nat) (ln : Nat) (iw : Bool) (dg : Bool) (he0 : ¬ why = 0) : zM G D vwCl (zT cy) l yX6_rejectionReason wsX6_rejectionReason rmX6_rejectionReason_ok [.ref x9] [(x9, .inr (10, [.int th, .int (nI ch), .int era, .int why, .int det, .int cau, .int (zI sv), .int (zI rj), .ref v9, .ref b9, .ref s9, .ref k9, .ref p9, .ref t9, .ref n9, .int (nI tn), .int (nI he), .int (nI en), .int (nI ln), .int (zI iw), .int (zI dg)]))] (some (.int why)) [(x9, .inr (10, [.int 0, .int (nI ch), .int era, .int why, .int det, .int cau, .int (zI sv), .int (zI rj), .ref v9, .ref b9, .ref s9, .ref k9, .ref p9, .ref t9, .ref n9, .int (nI tn), .int (nI he), .int (nI en), .int (nI ln), .int (zI iw), .int (zI dg)]))] := by
  refine zM_of (cc := cX6_rejectionReason) (maxL := 1) (ret := (some .int)) (by decide) rfl (Nat.le_of_ble_eq_true rfl) ?_
  intro p e s m below meth c A Q hend hx hb hml hr hts hown hlk hG hK hP hD hA hS ls hl
  have hown : s.vm.findClass RX6 = some m.cls := hown
  have in_RX6 : ∀ w ∈ u_ws RX6 TX6 21, w ∈ wsX6_rejectionReason := by decide +kernel
  have hl : lv_has ls 1 [(0, .ref x9)] := hl
  refine lv_aload_n hx hb dX6_rejectionReason_0 rfl (lv_at hl 0 rfl) ?_
  refine lv_aload_n hx hb dX6_rejectionReason_1 rfl (lv_at hl 0 rfl) ?_
  refine va_get (D := D) (ci := 10) (v := .int why) (C := RX6) (T := TX6) (N := 21) hx hb hts in_RX6 hown hK hP 0 rfl rfl 3 (by decide) (hts _ (List.mem_of_getElem? (i := 1) rfl)) (fun _ h9 => h9) rfl dX6_rejectionReason_2 ?_
  refine lv_if_ne (tgt := 12) hx hb dX6_rejectionReason_5 (by decide) (fun c_1 => ?_) (fun c_1 => ?_)
  · refine lv_iconst (v := 0) hx hb dX6_rejectionReason_12 (by decide) ?_
    refine va_put (D := D) (ci := 10) (v := .int 0) (ty := .int) (C := RX6) (T := TX6) (N := 21) hx hb hts in_RX6 tyX6 tyX6_ok nmX6 hown hK hP hD hS 0 rfl rfl 0 (by decide) (hts _ (List.mem_of_getElem? (i := 2) rfl)) (fun _ h9 => h9) rfl (by decide +kernel) rfl rfl (Nat.le_of_ble_eq_true rfl) dX6_rejectionReason_13 (fun H locs hP hD hS => ?_)
    have hP : va_P D vwCl [(x9, .inr (10, [.int 0, .int (nI ch), .int era, .int why, .int det, .int cau, .int (zI sv), .int (zI rj), .ref v9, .ref b9, .ref s9, .ref k9, .ref p9, .ref t9, .ref n9, .int (nI tn), .int (nI he), .int (nI en), .int (nI ln), .int (zI iw), .int (zI dg)]))] H := hP
    have hD : va_D A [(x9, .inr (10, [.int 0, .int (nI ch), .int era, .int why, .int det, .int cau, .int (zI sv), .int (zI rj), .ref v9, .ref b9, .ref s9, .ref k9, .ref p9, .ref t9, .ref n9, .int (nI tn), .int (nI he), .int (nI en), .int (nI ln), .int (zI iw), .int (zI dg)]))] := hD
    refine lv_aload_n hx hb dX6_rejectionReason_16 rfl (lv_at hl 0 rfl) ?_
    refine va_get (D := D) (ci := 10) (v := .int why) (C := RX6) (T := TX6) (N := 21) hx hb hts in_RX6 hown hK hP 0 rfl rfl 3 (by decide) (hts _ (List.mem_of_getElem? (i := 1) rfl)) (fun _ h9 => h9) rfl dX6_rejectionReason_17 ?_
    exact ziret hend hx hb hr hlk hK hP hD hS dX6_rejectionReason_20 rfl rfl
  · exact absurd c_1 he0

abbrev rmX6_rejectionReason_bad : Room := { frames := 0, cells := 0, slots := 0, locals := 0 }
set_option maxHeartbeats 4000000 in
set_option maxRecDepth 100000 in
theorem c_X6_rejectionReason_bad {G : zG} (hg : zGN G) (l : Launch) (D : va_G) (cy : Nat → ClassId) (x9 : Nat) (th : Int32) (ch : Nat) (era : Int32) (why : Int32) (det : Int32) (cau : Int32) (sv : Bool) (rj : Bool) (v9 : Nat) (b9 : Nat) (s9 : Nat) (k9 : Nat) (p9 : Nat) (t9 : Nat) (n9 : Nat) (tn : Nat) (he : Nat) (en : Nat) (ln : Nat) (iw : Bool) (dg : Bool) (he0 : why = 0) : zM G D vwCl (zT cy) l yX6_rejectionReason wsX6_rejectionReason rmX6_rejectionReason_bad [.ref x9] [(x9, .inr (10, [.int th, .int (nI ch), .int era, .int why, .int det, .int cau, .int (zI sv), .int (zI rj), .ref v9, .ref b9, .ref s9, .ref k9, .ref p9, .ref t9, .ref n9, .int (nI tn), .int (nI he), .int (nI en), .int (nI ln), .int (zI iw), .int (zI dg)]))] (some (.int 0)) [(x9, .inr (10, [.int 1, .int (nI ch), .int era, .int why, .int det, .int cau, .int (zI sv), .int (zI rj), .ref v9, .ref b9, .ref s9, .ref k9, .ref p9, .ref t9, .ref n9, .int (nI tn), .int (nI he), .int (nI en), .int (nI ln), .int (zI iw), .int (zI dg)]))] := by
  refine zM_of (cc := cX6_rejectionReason) (maxL := 1) (ret := (some .int)) (by decide) rfl (Nat.le_of_ble_eq_true rfl) ?_
  intro p e s m below meth c A Q hend hx hb hml hr hts hown hlk hG hK hP hD hA hS ls hl
  have hown : s.vm.findClass RX6 = some m.cls := hown
  have in_RX6 : ∀ w ∈ u_ws RX6 TX6 21, w ∈ wsX6_rejectionReason := by decide +kernel
  have hl : lv_has ls 1 [(0, .ref x9)] := hl
  refine lv_aload_n hx hb dX6_rejectionReason_0 rfl (lv_at hl 0 rfl) ?_
  refine lv_aload_n hx hb dX6_rejectionReason_1 rfl (lv_at hl 0 rfl) ?_
  refine va_get (D := D) (ci := 10) (v := .int why) (C := RX6) (T := TX6) (N := 21) hx hb hts in_RX6 hown hK hP 0 rfl rfl 3 (by decide) (hts _ (List.mem_of_getElem? (i := 1) rfl)) (fun _ h9 => h9) rfl dX6_rejectionReason_2 ?_
  refine lv_if_ne (tgt := 12) hx hb dX6_rejectionReason_5 (by decide) (fun c_1 => ?_) (fun c_1 => ?_)
  · exact absurd he0 c_1
  · refine lv_iconst (v := 1) hx hb dX6_rejectionReason_8 (by decide) ?_
    refine lv_goto (tgt := 13) hx hb dX6_rejectionReason_9 (by decide) ?_
    refine va_put (D := D) (ci := 10) (v := .int 1) (ty := .int) (C := RX6) (T := TX6) (N := 21) hx hb hts in_RX6 tyX6 tyX6_ok nmX6 hown hK hP hD hS 0 rfl rfl 0 (by decide) (hts _ (List.mem_of_getElem? (i := 2) rfl)) (fun _ h9 => h9) rfl (by decide +kernel) rfl rfl (Nat.le_of_ble_eq_true rfl) dX6_rejectionReason_13 (fun H locs hP hD hS => ?_)
    have hP : va_P D vwCl [(x9, .inr (10, [.int 1, .int (nI ch), .int era, .int why, .int det, .int cau, .int (zI sv), .int (zI rj), .ref v9, .ref b9, .ref s9, .ref k9, .ref p9, .ref t9, .ref n9, .int (nI tn), .int (nI he), .int (nI en), .int (nI ln), .int (zI iw), .int (zI dg)]))] H := hP
    have hD : va_D A [(x9, .inr (10, [.int 1, .int (nI ch), .int era, .int why, .int det, .int cau, .int (zI sv), .int (zI rj), .ref v9, .ref b9, .ref s9, .ref k9, .ref p9, .ref t9, .ref n9, .int (nI tn), .int (nI he), .int (nI en), .int (nI ln), .int (zI iw), .int (zI dg)]))] := hD
    refine lv_aload_n hx hb dX6_rejectionReason_16 rfl (lv_at hl 0 rfl) ?_
    refine va_get (D := D) (ci := 10) (v := .int why) (C := RX6) (T := TX6) (N := 21) hx hb hts in_RX6 hown hK hP 0 rfl rfl 3 (by decide) (hts _ (List.mem_of_getElem? (i := 1) rfl)) (fun _ h9 => h9) rfl dX6_rejectionReason_17 ?_
    exact ziret hend hx hb hr hlk hK hP hD hS dX6_rejectionReason_20 he0 rfl

abbrev rmX6_rejectionDetail_ok : Room := { frames := 0, cells := 0, slots := 0, locals := 0 }
set_option maxHeartbeats 4000000 in
set_option maxRecDepth 100000 in
theorem c_X6_rejectionDetail_ok {G : zG} (hg : zGN G) (l : Launch) (D : va_G) (cy : Nat → ClassId) (x9 : Nat) (th : Int32) (ch : Nat) (era : Int32) (why : Int32) (det : Int32) (cau : Int32) (sv : Bool) (rj : Bool) (v9 : Nat) (b9 : Nat) (s9 : Nat) (k9 : Nat) (p9 : Nat) (t9 : Nat) (n9 : Nat) (tn : Nat) (he : Nat) (en : Nat) (ln : Nat) (iw : Bool) (dg : Bool) (he0 : ¬ why = 0) : zM G D vwCl (zT cy) l yX6_rejectionDetail wsX6_rejectionDetail rmX6_rejectionDetail_ok [.ref x9] [(x9, .inr (10, [.int th, .int (nI ch), .int era, .int why, .int det, .int cau, .int (zI sv), .int (zI rj), .ref v9, .ref b9, .ref s9, .ref k9, .ref p9, .ref t9, .ref n9, .int (nI tn), .int (nI he), .int (nI en), .int (nI ln), .int (zI iw), .int (zI dg)]))] (some (.int det)) [(x9, .inr (10, [.int 0, .int (nI ch), .int era, .int why, .int det, .int cau, .int (zI sv), .int (zI rj), .ref v9, .ref b9, .ref s9, .ref k9, .ref p9, .ref t9, .ref n9, .int (nI tn), .int (nI he), .int (nI en), .int (nI ln), .int (zI iw), .int (zI dg)]))] := by
  refine zM_of (cc := cX6_rejectionDetail) (maxL := 1) (ret := (some .int)) (by decide) rfl (Nat.le_of_ble_eq_true rfl) ?_
  intro p e s m below meth c A Q hend hx hb hml hr hts hown hlk hG hK hP hD hA hS ls hl
  have hown : s.vm.findClass RX6 = some m.cls := hown
  have in_RX6 : ∀ w ∈ u_ws RX6 TX6 21, w ∈ wsX6_rejectionDetail := by decide +kernel
  have hl : lv_has ls 1 [(0, .ref x9)] := hl
  refine lv_aload_n hx hb dX6_rejectionDetail_0 rfl (lv_at hl 0 rfl) ?_
  refine lv_aload_n hx hb dX6_rejectionDetail_1 rfl (lv_at hl 0 rfl) ?_
  refine va_get (D := D) (ci := 10) (v := .int why) (C := RX6) (T := TX6) (N := 21) hx hb hts in_RX6 hown hK hP 0 rfl rfl 3 (by decide) (hts _ (List.mem_of_getElem? (i := 1) rfl)) (fun _ h9 => h9) rfl dX6_rejectionDetail_2 ?_
  refine lv_if_ne (tgt := 12) hx hb dX6_rejectionDetail_5 (by decide) (fun c_1 => ?_) (fun c_1 => ?_)
  · refine lv_iconst (v := 0) hx hb dX6_rejectionDetail_12 (by decide) ?_
    refine va_put (D := D) (ci := 10) (v := .int 0) (ty := .int) (C := RX6) (T := TX6) (N := 21) hx hb hts in_RX6 tyX6 tyX6_ok nmX6 hown hK hP hD hS 0 rfl rfl 0 (by decide) (hts _ (List.mem_of_getElem? (i := 2) rfl)) (fun _ h9 => h9) rfl (by decide +kernel) rfl rfl (Nat.le_of_ble_eq_true rfl) dX6_rejectionDetail_13 (fun H locs hP hD hS => ?_)
    have hP : va_P D vwCl [(x9, .inr (10, [.int 0, .int (nI ch), .int era, .int why, .int det, .int cau, .int (zI sv), .int (zI rj), .ref v9, .ref b9, .ref s9, .ref k9, .ref p9, .ref t9, .ref n9, .int (nI tn), .int (nI he), .int (nI en), .int (nI ln), .int (zI iw), .int (zI dg)]))] H := hP
    have hD : va_D A [(x9, .inr (10, [.int 0, .int (nI ch), .int era, .int why, .int det, .int cau, .int (zI sv), .int (zI rj), .ref v9, .ref b9, .ref s9, .ref k9, .ref p9, .ref t9, .ref n9, .int (nI tn), .int (nI he), .int (nI en), .int (nI ln), .int (zI iw), .int (zI dg)]))] := hD
    refine lv_aload_n hx hb dX6_rejectionDetail_16 rfl (lv_at hl 0 rfl) ?_
    refine va_get (D := D) (ci := 10) (v := .int 0) (C := RX6) (T := TX6) (N := 21) hx hb hts in_RX6 hown hK hP 0 rfl rfl 0 (by decide) (hts _ (List.mem_of_getElem? (i := 2) rfl)) (fun _ h9 => h9) rfl dX6_rejectionDetail_17 ?_
    refine lv_if_ne (tgt := 30) hx hb dX6_rejectionDetail_20 (by decide) (fun c_2 => ?_) (fun c_2 => ?_)
    · exact absurd c_2 (by decide)
    · refine lv_aload_n hx hb dX6_rejectionDetail_23 rfl (lv_at hl 0 rfl) ?_
      refine va_get (D := D) (ci := 10) (v := .int det) (C := RX6) (T := TX6) (N := 21) hx hb hts in_RX6 hown hK hP 0 rfl rfl 4 (by decide) (hts _ (List.mem_of_getElem? (i := 3) rfl)) (fun _ h9 => h9) rfl dX6_rejectionDetail_24 ?_
      refine lv_goto (tgt := 31) hx hb dX6_rejectionDetail_27 (by decide) ?_
      exact ziret hend hx hb hr hlk hK hP hD hS dX6_rejectionDetail_31 rfl rfl
  · exact absurd c_1 he0

abbrev rmX6_rejectionDetail_bad : Room := { frames := 0, cells := 0, slots := 0, locals := 0 }
set_option maxHeartbeats 4000000 in
set_option maxRecDepth 100000 in
theorem c_X6_rejectionDetail_bad {G : zG} (hg : zGN G) (l : Launch) (D : va_G) (cy : Nat → ClassId) (x9 : Nat) (th : Int32) (ch : Nat) (era : Int32) (why : Int32) (det : Int32) (cau : Int32) (sv : Bool) (rj : Bool) (v9 : Nat) (b9 : Nat) (s9 : Nat) (k9 : Nat) (p9 : Nat) (t9 : Nat) (n9 : Nat) (tn : Nat) (he : Nat) (en : Nat) (ln : Nat) (iw : Bool) (dg : Bool) (he0 : why = 0) : zM G D vwCl (zT cy) l yX6_rejectionDetail wsX6_rejectionDetail rmX6_rejectionDetail_bad [.ref x9] [(x9, .inr (10, [.int th, .int (nI ch), .int era, .int why, .int det, .int cau, .int (zI sv), .int (zI rj), .ref v9, .ref b9, .ref s9, .ref k9, .ref p9, .ref t9, .ref n9, .int (nI tn), .int (nI he), .int (nI en), .int (nI ln), .int (zI iw), .int (zI dg)]))] (some (.int 0)) [(x9, .inr (10, [.int 1, .int (nI ch), .int era, .int why, .int det, .int cau, .int (zI sv), .int (zI rj), .ref v9, .ref b9, .ref s9, .ref k9, .ref p9, .ref t9, .ref n9, .int (nI tn), .int (nI he), .int (nI en), .int (nI ln), .int (zI iw), .int (zI dg)]))] := by
  refine zM_of (cc := cX6_rejectionDetail) (maxL := 1) (ret := (some .int)) (by decide) rfl (Nat.le_of_ble_eq_true rfl) ?_
  intro p e s m below meth c A Q hend hx hb hml hr hts hown hlk hG hK hP hD hA hS ls hl
  have hown : s.vm.findClass RX6 = some m.cls := hown
  have in_RX6 : ∀ w ∈ u_ws RX6 TX6 21, w ∈ wsX6_rejectionDetail := by decide +kernel
  have hl : lv_has ls 1 [(0, .ref x9)] := hl
  refine lv_aload_n hx hb dX6_rejectionDetail_0 rfl (lv_at hl 0 rfl) ?_
  refine lv_aload_n hx hb dX6_rejectionDetail_1 rfl (lv_at hl 0 rfl) ?_
  refine va_get (D := D) (ci := 10) (v := .int why) (C := RX6) (T := TX6) (N := 21) hx hb hts in_RX6 hown hK hP 0 rfl rfl 3 (by decide) (hts _ (List.mem_of_getElem? (i := 1) rfl)) (fun _ h9 => h9) rfl dX6_rejectionDetail_2 ?_
  refine lv_if_ne (tgt := 12) hx hb dX6_rejectionDetail_5 (by decide) (fun c_1 => ?_) (fun c_1 => ?_)
  · exact absurd he0 c_1
  · refine lv_iconst (v := 1) hx hb dX6_rejectionDetail_8 (by decide) ?_
    refine lv_goto (tgt := 13) hx hb dX6_rejectionDetail_9 (by decide) ?_
    refine va_put (D := D) (ci := 10) (v := .int 1) (ty := .int) (C := RX6) (T := TX6) (N := 21) hx hb hts in_RX6 tyX6 tyX6_ok nmX6 hown hK hP hD hS 0 rfl rfl 0 (by decide) (hts _ (List.mem_of_getElem? (i := 2) rfl)) (fun _ h9 => h9) rfl (by decide +kernel) rfl rfl (Nat.le_of_ble_eq_true rfl) dX6_rejectionDetail_13 (fun H locs hP hD hS => ?_)
    have hP : va_P D vwCl [(x9, .inr (10, [.int 1, .int (nI ch), .int era, .int why, .int det, .int cau, .int (zI sv), .int (zI rj), .ref v9, .ref b9, .ref s9, .ref k9, .ref p9, .ref t9, .ref n9, .int (nI tn), .int (nI he), .int (nI en), .int (nI ln), .int (zI iw), .int (zI dg)]))] H := hP
    have hD : va_D A [(x9, .inr (10, [.int 1, .int (nI ch), .int era, .int why, .int det, .int cau, .int (zI sv), .int (zI rj), .ref v9, .ref b9, .ref s9, .ref k9, .ref p9, .ref t9, .ref n9, .int (nI tn), .int (nI he), .int (nI en), .int (nI ln), .int (zI iw), .int (zI dg)]))] := hD
    refine lv_aload_n hx hb dX6_rejectionDetail_16 rfl (lv_at hl 0 rfl) ?_
    refine va_get (D := D) (ci := 10) (v := .int 1) (C := RX6) (T := TX6) (N := 21) hx hb hts in_RX6 hown hK hP 0 rfl rfl 0 (by decide) (hts _ (List.mem_of_getElem? (i := 2) rfl)) (fun _ h9 => h9) rfl dX6_rejectionDetail_17 ?_
    refine lv_if_ne (tgt := 30) hx hb dX6_rejectionDetail_20 (by decide) (fun c_2 => ?_) (fun c_2 => ?_)
    · refine lv_iconst (v := 0) hx hb dX6_rejectionDetail_30 (by decide) ?_
      exact ziret hend hx hb hr hlk hK hP hD hS dX6_rejectionDetail_31 rfl rfl
    · exact absurd c_2 (by decide)

abbrev rmX6_causeReason_ok : Room := { frames := 0, cells := 0, slots := 0, locals := 0 }
set_option maxHeartbeats 4000000 in
set_option maxRecDepth 100000 in
theorem c_X6_causeReason_ok {G : zG} (hg : zGN G) (l : Launch) (D : va_G) (cy : Nat → ClassId) (x9 : Nat) (th : Int32) (ch : Nat) (era : Int32) (why : Int32) (det : Int32) (cau : Int32) (sv : Bool) (rj : Bool) (v9 : Nat) (b9 : Nat) (s9 : Nat) (k9 : Nat) (p9 : Nat) (t9 : Nat) (n9 : Nat) (tn : Nat) (he : Nat) (en : Nat) (ln : Nat) (iw : Bool) (dg : Bool) (he0 : ¬ cau = 0) : zM G D vwCl (zT cy) l yX6_causeReason wsX6_causeReason rmX6_causeReason_ok [.ref x9] [(x9, .inr (10, [.int th, .int (nI ch), .int era, .int why, .int det, .int cau, .int (zI sv), .int (zI rj), .ref v9, .ref b9, .ref s9, .ref k9, .ref p9, .ref t9, .ref n9, .int (nI tn), .int (nI he), .int (nI en), .int (nI ln), .int (zI iw), .int (zI dg)]))] (some (.int cau)) [(x9, .inr (10, [.int 0, .int (nI ch), .int era, .int why, .int det, .int cau, .int (zI sv), .int (zI rj), .ref v9, .ref b9, .ref s9, .ref k9, .ref p9, .ref t9, .ref n9, .int (nI tn), .int (nI he), .int (nI en), .int (nI ln), .int (zI iw), .int (zI dg)]))] := by
  refine zM_of (cc := cX6_causeReason) (maxL := 1) (ret := (some .int)) (by decide) rfl (Nat.le_of_ble_eq_true rfl) ?_
  intro p e s m below meth c A Q hend hx hb hml hr hts hown hlk hG hK hP hD hA hS ls hl
  have hown : s.vm.findClass RX6 = some m.cls := hown
  have in_RX6 : ∀ w ∈ u_ws RX6 TX6 21, w ∈ wsX6_causeReason := by decide +kernel
  have hl : lv_has ls 1 [(0, .ref x9)] := hl
  refine lv_aload_n hx hb dX6_causeReason_0 rfl (lv_at hl 0 rfl) ?_
  refine lv_aload_n hx hb dX6_causeReason_1 rfl (lv_at hl 0 rfl) ?_
  refine va_get (D := D) (ci := 10) (v := .int cau) (C := RX6) (T := TX6) (N := 21) hx hb hts in_RX6 hown hK hP 0 rfl rfl 5 (by decide) (hts _ (List.mem_of_getElem? (i := 1) rfl)) (fun _ h9 => h9) rfl dX6_causeReason_2 ?_
  refine lv_if_ne (tgt := 12) hx hb dX6_causeReason_5 (by decide) (fun c_1 => ?_) (fun c_1 => ?_)
  · refine lv_iconst (v := 0) hx hb dX6_causeReason_12 (by decide) ?_
    refine va_put (D := D) (ci := 10) (v := .int 0) (ty := .int) (C := RX6) (T := TX6) (N := 21) hx hb hts in_RX6 tyX6 tyX6_ok nmX6 hown hK hP hD hS 0 rfl rfl 0 (by decide) (hts _ (List.mem_of_getElem? (i := 2) rfl)) (fun _ h9 => h9) rfl (by decide +kernel) rfl rfl (Nat.le_of_ble_eq_true rfl) dX6_causeReason_13 (fun H locs hP hD hS => ?_)
    have hP : va_P D vwCl [(x9, .inr (10, [.int 0, .int (nI ch), .int era, .int why, .int det, .int cau, .int (zI sv), .int (zI rj), .ref v9, .ref b9, .ref s9, .ref k9, .ref p9, .ref t9, .ref n9, .int (nI tn), .int (nI he), .int (nI en), .int (nI ln), .int (zI iw), .int (zI dg)]))] H := hP
    have hD : va_D A [(x9, .inr (10, [.int 0, .int (nI ch), .int era, .int why, .int det, .int cau, .int (zI sv), .int (zI rj), .ref v9, .ref b9, .ref s9, .ref k9, .ref p9, .ref t9, .ref n9, .int (nI tn), .int (nI he), .int (nI en), .int (nI ln), .int (zI iw), .int (zI dg)]))] := hD
    refine lv_aload_n hx hb dX6_causeReason_16 rfl (lv_at hl 0 rfl) ?_
    refine va_get (D := D) (ci := 10) (v := .int cau) (C := RX6) (T := TX6) (N := 21) hx hb hts in_RX6 hown hK hP 0 rfl rfl 5 (by decide) (hts _ (List.mem_of_getElem? (i := 1) rfl)) (fun _ h9 => h9) rfl dX6_causeReason_17 ?_
    exact ziret hend hx hb hr hlk hK hP hD hS dX6_causeReason_20 rfl rfl
  · exact absurd c_1 he0

abbrev rmX6_causeReason_bad : Room := { frames := 0, cells := 0, slots := 0, locals := 0 }
set_option maxHeartbeats 4000000 in
set_option maxRecDepth 100000 in
theorem c_X6_causeReason_bad {G : zG} (hg : zGN G) (l : Launch) (D : va_G) (cy : Nat → ClassId) (x9 : Nat) (th : Int32) (ch : Nat) (era : Int32) (why : Int32) (det : Int32) (cau : Int32) (sv : Bool) (rj : Bool) (v9 : Nat) (b9 : Nat) (s9 : Nat) (k9 : Nat) (p9 : Nat) (t9 : Nat) (n9 : Nat) (tn : Nat) (he : Nat) (en : Nat) (ln : Nat) (iw : Bool) (dg : Bool) (he0 : cau = 0) : zM G D vwCl (zT cy) l yX6_causeReason wsX6_causeReason rmX6_causeReason_bad [.ref x9] [(x9, .inr (10, [.int th, .int (nI ch), .int era, .int why, .int det, .int cau, .int (zI sv), .int (zI rj), .ref v9, .ref b9, .ref s9, .ref k9, .ref p9, .ref t9, .ref n9, .int (nI tn), .int (nI he), .int (nI en), .int (nI ln), .int (zI iw), .int (zI dg)]))] (some (.int 0)) [(x9, .inr (10, [.int 1, .int (nI ch), .int era, .int why, .int det, .int cau, .int (zI sv), .int (zI rj), .ref v9, .ref b9, .ref s9, .ref k9, .ref p9, .ref t9, .ref n9, .int (nI tn), .int (nI he), .int (nI en), .int (nI ln), .int (zI iw), .int (zI dg)]))] := by
  refine zM_of (cc := cX6_causeReason) (maxL := 1) (ret := (some .int)) (by decide) rfl (Nat.le_of_ble_eq_true rfl) ?_
  intro p e s m below meth c A Q hend hx hb hml hr hts hown hlk hG hK hP hD hA hS ls hl
  have hown : s.vm.findClass RX6 = some m.cls := hown
  have in_RX6 : ∀ w ∈ u_ws RX6 TX6 21, w ∈ wsX6_causeReason := by decide +kernel
  have hl : lv_has ls 1 [(0, .ref x9)] := hl
  refine lv_aload_n hx hb dX6_causeReason_0 rfl (lv_at hl 0 rfl) ?_
  refine lv_aload_n hx hb dX6_causeReason_1 rfl (lv_at hl 0 rfl) ?_
  refine va_get (D := D) (ci := 10) (v := .int cau) (C := RX6) (T := TX6) (N := 21) hx hb hts in_RX6 hown hK hP 0 rfl rfl 5 (by decide) (hts _ (List.mem_of_getElem? (i := 1) rfl)) (fun _ h9 => h9) rfl dX6_causeReason_2 ?_
  refine lv_if_ne (tgt := 12) hx hb dX6_causeReason_5 (by decide) (fun c_1 => ?_) (fun c_1 => ?_)
  · exact absurd he0 c_1
  · refine lv_iconst (v := 1) hx hb dX6_causeReason_8 (by decide) ?_
    refine lv_goto (tgt := 13) hx hb dX6_causeReason_9 (by decide) ?_
    refine va_put (D := D) (ci := 10) (v := .int 1) (ty := .int) (C := RX6) (T := TX6) (N := 21) hx hb hts in_RX6 tyX6 tyX6_ok nmX6 hown hK hP hD hS 0 rfl rfl 0 (by decide) (hts _ (List.mem_of_getElem? (i := 2) rfl)) (fun _ h9 => h9) rfl (by decide +kernel) rfl rfl (Nat.le_of_ble_eq_true rfl) dX6_causeReason_13 (fun H locs hP hD hS => ?_)
    have hP : va_P D vwCl [(x9, .inr (10, [.int 1, .int (nI ch), .int era, .int why, .int det, .int cau, .int (zI sv), .int (zI rj), .ref v9, .ref b9, .ref s9, .ref k9, .ref p9, .ref t9, .ref n9, .int (nI tn), .int (nI he), .int (nI en), .int (nI ln), .int (zI iw), .int (zI dg)]))] H := hP
    have hD : va_D A [(x9, .inr (10, [.int 1, .int (nI ch), .int era, .int why, .int det, .int cau, .int (zI sv), .int (zI rj), .ref v9, .ref b9, .ref s9, .ref k9, .ref p9, .ref t9, .ref n9, .int (nI tn), .int (nI he), .int (nI en), .int (nI ln), .int (zI iw), .int (zI dg)]))] := hD
    refine lv_aload_n hx hb dX6_causeReason_16 rfl (lv_at hl 0 rfl) ?_
    refine va_get (D := D) (ci := 10) (v := .int cau) (C := RX6) (T := TX6) (N := 21) hx hb hts in_RX6 hown hK hP 0 rfl rfl 5 (by decide) (hts _ (List.mem_of_getElem? (i := 1) rfl)) (fun _ h9 => h9) rfl dX6_causeReason_17 ?_
    exact ziret hend hx hb hr hlk hK hP hD hS dX6_causeReason_20 he0 rfl

abbrev rmX6_undo_ok : Room := { frames := 0, cells := 0, slots := 0, locals := 0 }
set_option maxHeartbeats 4000000 in
set_option maxRecDepth 100000 in
theorem c_X6_undo_ok {G : zG} (hg : zGN G) (l : Launch) (D : va_G) (cy : Nat → ClassId) (x9 : Nat) (th : Int32) (cx : Nat) (era : Int32) (why : Int32) (det : Int32) (cau : Int32) (sv : Bool) (rj : Bool) (v9 : Nat) (b9 : Nat) (s9 : Nat) (k9 : Nat) (p9 : Nat) (t9 : Nat) (n9 : Nat) (tn : Nat) (he : Nat) (en : Nat) (ln : Nat) (iw : Bool) (dg : Bool) (v : Nat → Int32) (hq : Nat → Nat → Int32) (hc8 : cx < 8) : zM G D vwCl (zT cy) l yX6_undo wsX6_undo rmX6_undo_ok [.ref x9] [(x9, .inr (10, [.int th, .int (nI (cx + 1)), .int era, .int why, .int det, .int cau, .int (zI sv), .int (zI rj), .ref v9, .ref b9, .ref s9, .ref k9, .ref p9, .ref t9, .ref n9, .int (nI tn), .int (nI he), .int (nI en), .int (nI ln), .int (zI iw), .int (zI dg)])), (v9, .inl (cy 0, 188, .inl v)), (p9, .inl (cy 0, 1504, .inl (zpk hq)))] (some (.int (nI cx))) [(x9, .inr (10, [.int 0, .int (nI cx), .int era, .int why, .int det, .int cau, .int (zI sv), .int (zI rj), .ref v9, .ref b9, .ref s9, .ref k9, .ref p9, .ref t9, .ref n9, .int (nI tn), .int (nI he), .int (nI en), .int (nI ln), .int (zI iw), .int (zI dg)])), (v9, .inl (cy 0, 188, .inl (hq cx))), (p9, .inl (cy 0, 1504, .inl (zpk hq)))] := by
  refine zM_of (cc := cX6_undo) (maxL := 2) (ret := (some .int)) (by decide) rfl (Nat.le_of_ble_eq_true rfl) ?_
  intro p e s m below meth c A Q hend hx hb hml hr hts hown hlk hG hK hP hD hA hS ls hl
  have hown : s.vm.findClass RX6 = some m.cls := hown
  have in_RX6 : ∀ w ∈ u_ws RX6 TX6 21, w ∈ wsX6_undo := by decide +kernel
  have hl : lv_has ls 2 [(0, .ref x9)] := hl
  refine lv_aload_n hx hb dX6_undo_0 rfl (lv_at hl 0 rfl) ?_
  refine lv_aload_n hx hb dX6_undo_1 rfl (lv_at hl 0 rfl) ?_
  refine va_get (D := D) (ci := 10) (v := .int (nI (cx + 1))) (C := RX6) (T := TX6) (N := 21) hx hb hts in_RX6 hown hK hP 0 rfl rfl 1 (by decide) (hts _ (List.mem_of_getElem? (i := 1) rfl)) (fun _ h9 => h9) rfl dX6_undo_2 ?_
  refine lv_if_ne (tgt := 12) hx hb dX6_undo_5 (by decide) (fun c_1 => ?_) (fun c_1 => ?_)
  · refine lv_iconst (v := 0) hx hb dX6_undo_12 (by decide) ?_
    refine va_put (D := D) (ci := 10) (v := .int 0) (ty := .int) (C := RX6) (T := TX6) (N := 21) hx hb hts in_RX6 tyX6 tyX6_ok nmX6 hown hK hP hD hS 0 rfl rfl 0 (by decide) (hts _ (List.mem_of_getElem? (i := 2) rfl)) (fun _ h9 => h9) rfl (by decide +kernel) rfl rfl (Nat.le_of_ble_eq_true rfl) dX6_undo_13 (fun H locs hP hD hS => ?_)
    have hP : va_P D vwCl [(x9, .inr (10, [.int 0, .int (nI (cx + 1)), .int era, .int why, .int det, .int cau, .int (zI sv), .int (zI rj), .ref v9, .ref b9, .ref s9, .ref k9, .ref p9, .ref t9, .ref n9, .int (nI tn), .int (nI he), .int (nI en), .int (nI ln), .int (zI iw), .int (zI dg)])), (v9, .inl (cy 0, 188, .inl v)), (p9, .inl (cy 0, 1504, .inl (zpk hq)))] H := hP
    have hD : va_D A [(x9, .inr (10, [.int 0, .int (nI (cx + 1)), .int era, .int why, .int det, .int cau, .int (zI sv), .int (zI rj), .ref v9, .ref b9, .ref s9, .ref k9, .ref p9, .ref t9, .ref n9, .int (nI tn), .int (nI he), .int (nI en), .int (nI ln), .int (zI iw), .int (zI dg)])), (v9, .inl (cy 0, 188, .inl v)), (p9, .inl (cy 0, 1504, .inl (zpk hq)))] := hD
    refine lv_aload_n hx hb dX6_undo_16 rfl (lv_at hl 0 rfl) ?_
    refine va_get (D := D) (ci := 10) (v := .int 0) (C := RX6) (T := TX6) (N := 21) hx hb hts in_RX6 hown hK hP 0 rfl rfl 0 (by decide) (hts _ (List.mem_of_getElem? (i := 2) rfl)) (fun _ h9 => h9) rfl dX6_undo_17 ?_
    refine lv_if_eq (tgt := 25) hx hb dX6_undo_20 (by decide) (fun c_2 => ?_) (fun c_2 => ?_)
    · refine lv_aload_n hx hb dX6_undo_25 rfl (lv_at hl 0 rfl) ?_
      refine lv_dup hx hb dX6_undo_26 rfl ?_
      refine va_get (D := D) (ci := 10) (v := .int (nI (cx + 1))) (C := RX6) (T := TX6) (N := 21) hx hb hts in_RX6 hown hK hP 0 rfl rfl 1 (by decide) (hts _ (List.mem_of_getElem? (i := 1) rfl)) (fun _ h9 => h9) rfl dX6_undo_27 ?_
      refine lv_iconst (v := 1) hx hb dX6_undo_30 (by decide) ?_
      refine lv_isub hx hb dX6_undo_31 ?_
      refine z_top (y := nI cx) (nI_pred cx) ?_
      refine va_put (D := D) (ci := 10) (v := .int (nI cx)) (ty := .int) (C := RX6) (T := TX6) (N := 21) hx hb hts in_RX6 tyX6 tyX6_ok nmX6 hown hK hP hD hS 0 rfl rfl 1 (by decide) (hts _ (List.mem_of_getElem? (i := 1) rfl)) (fun _ h9 => h9) rfl (by decide +kernel) rfl rfl (Nat.le_of_ble_eq_true rfl) dX6_undo_32 (fun H locs hP hD hS => ?_)
      have hP : va_P D vwCl [(x9, .inr (10, [.int 0, .int (nI cx), .int era, .int why, .int det, .int cau, .int (zI sv), .int (zI rj), .ref v9, .ref b9, .ref s9, .ref k9, .ref p9, .ref t9, .ref n9, .int (nI tn), .int (nI he), .int (nI en), .int (nI ln), .int (zI iw), .int (zI dg)])), (v9, .inl (cy 0, 188, .inl v)), (p9, .inl (cy 0, 1504, .inl (zpk hq)))] H := hP
      have hD : va_D A [(x9, .inr (10, [.int 0, .int (nI cx), .int era, .int why, .int det, .int cau, .int (zI sv), .int (zI rj), .ref v9, .ref b9, .ref s9, .ref k9, .ref p9, .ref t9, .ref n9, .int (nI tn), .int (nI he), .int (nI en), .int (nI ln), .int (zI iw), .int (zI dg)])), (v9, .inl (cy 0, 188, .inl v)), (p9, .inl (cy 0, 1504, .inl (zpk hq)))] := hD
      refine lv_iconst (v := 0) hx hb dX6_undo_35 (by decide) ?_
      refine lv_istore_n (lv' := [(1, .int 0), (0, .ref x9)]) hx hb dX6_undo_36 rfl hl (by decide) rfl (fun ls hl => ?_)
      have L37 : ∀ (F : Nat) (k : Nat) (x37_0 : Nat → Int32), k ≤ 188 → 188 - k < F → x37_0 = zcp v (hq cx) k → ∀ (H : Heap) (locs : List Loc), va_P D vwCl [(x9, .inr (10, [.int 0, .int (nI cx), .int era, .int why, .int det, .int cau, .int (zI sv), .int (zI rj), .ref v9, .ref b9, .ref s9, .ref k9, .ref p9, .ref t9, .ref n9, .int (nI tn), .int (nI he), .int (nI en), .int (nI ln), .int (zI iw), .int (zI dg)])), (v9, .inl (cy 0, 188, .inl x37_0)), (p9, .inl (cy 0, 1504, .inl (zpk hq)))] H → va_D A [(x9, .inr (10, [.int 0, .int (nI cx), .int era, .int why, .int det, .int cau, .int (zI sv), .int (zI rj), .ref v9, .ref b9, .ref s9, .ref k9, .ref p9, .ref t9, .ref n9, .int (nI tn), .int (nI he), .int (nI en), .int (nI ln), .int (zI iw), .int (zI dg)])), (v9, .inl (cy 0, 188, .inl x37_0)), (p9, .inl (cy 0, 1504, .inl (zpk hq)))] → va_S A s.heap H locs → ∀ ls : Array Slot, lv_has ls 2 [(0, .ref x9), (1, .int (nI k))] → W p l e rmX6_undo_ok s m ([.ref x9] : List Value).toArray below meth c H locs 0 0 Q (F0 m 37 ls []) := by
        intro F
        induction F with
        | zero =>
          intro k x37_0 hk hF ex37_0 H locs hP hD hS ls hl
          exact absurd hF (Nat.not_lt_zero _)
        | succ F ih37 =>
          intro k x37_0 hk hF ex37_0 H locs hP hD hS ls hl
          subst ex37_0
          refine lv_iload_n hx hb dX6_undo_37 rfl (lv_at hl 1 rfl) ?_
          refine lv_sipush (v := 188) hx hb dX6_undo_38 (by decide) ?_
          refine lv_icmp_ge (tgt := 71) hx hb dX6_undo_41 (by decide) (fun c_3 => ?_) (fun c_3 => ?_)
          · have hk2 : 188 ≤ k := (nI_leI (by omega) (by omega)).mp c_3
            obtain rfl : 188 = k := by omega
            have hP : va_P D vwCl [(x9, .inr (10, [.int 0, .int (nI cx), .int era, .int why, .int det, .int cau, .int (zI sv), .int (zI rj), .ref v9, .ref b9, .ref s9, .ref k9, .ref p9, .ref t9, .ref n9, .int (nI tn), .int (nI he), .int (nI en), .int (nI ln), .int (zI iw), .int (zI dg)])), (v9, .inl (cy 0, 188, .inl (hq cx))), (p9, .inl (cy 0, 1504, .inl (zpk hq)))] H := z_arr (ws := [(x9, .inr (10, [.int 0, .int (nI cx), .int era, .int why, .int det, .int cau, .int (zI sv), .int (zI rj), .ref v9, .ref b9, .ref s9, .ref k9, .ref p9, .ref t9, .ref n9, .int (nI tn), .int (nI he), .int (nI en), .int (nI ln), .int (zI iw), .int (zI dg)])), (v9, .inl (cy 0, 188, .inl (zcp v (hq cx) 188))), (p9, .inl (cy 0, 1504, .inl (zpk hq)))]) (q0 := 1) (a := v9) (f := (zcp v (hq cx) 188)) (g := (hq cx)) (H0 := H) hP (fun j hj => zcp_e v (hq cx) hj)
            have hD : va_D A [(x9, .inr (10, [.int 0, .int (nI cx), .int era, .int why, .int det, .int cau, .int (zI sv), .int (zI rj), .ref v9, .ref b9, .ref s9, .ref k9, .ref p9, .ref t9, .ref n9, .int (nI tn), .int (nI he), .int (nI en), .int (nI ln), .int (zI iw), .int (zI dg)])), (v9, .inl (cy 0, 188, .inl (hq cx))), (p9, .inl (cy 0, 1504, .inl (zpk hq)))] := z_setD (ws := [(x9, .inr (10, [.int 0, .int (nI cx), .int era, .int why, .int det, .int cau, .int (zI sv), .int (zI rj), .ref v9, .ref b9, .ref s9, .ref k9, .ref p9, .ref t9, .ref n9, .int (nI tn), .int (nI he), .int (nI en), .int (nI ln), .int (zI iw), .int (zI dg)])), (v9, .inl (cy 0, 188, .inl (zcp v (hq cx) 188))), (p9, .inl (cy 0, 1504, .inl (zpk hq)))]) (q0 := 1) (a := v9) (x := .inl (cy 0, 188, .inl (zcp v (hq cx) 188))) hD
            refine lv_aload_n hx hb dX6_undo_71 rfl (lv_at hl 0 rfl) ?_
            refine va_get (D := D) (ci := 10) (v := .int (nI cx)) (C := RX6) (T := TX6) (N := 21) hx hb hts in_RX6 hown hK hP 0 rfl rfl 1 (by decide) (hts _ (List.mem_of_getElem? (i := 1) rfl)) (fun _ h9 => h9) rfl dX6_undo_72 ?_
            exact ziret hend hx hb hr hlk hK hP hD hS dX6_undo_75 rfl rfl
          · have hk2 : k < 188 := Nat.lt_of_not_le (fun z => c_3 (nI_le z (by omega)))
            refine lv_aload_n hx hb dX6_undo_44 rfl (lv_at hl 0 rfl) ?_
            refine va_get (D := D) (ci := 10) (v := .ref v9) (C := RX6) (T := TX6) (N := 21) hx hb hts in_RX6 hown hK hP 0 rfl rfl 8 (by decide) (hts _ (List.mem_of_getElem? (i := 3) rfl)) (fun _ h9 => h9) rfl dX6_undo_45 ?_
            refine lv_iload_n hx hb dX6_undo_48 rfl (lv_at hl 1 rfl) ?_
            refine lv_aload_n hx hb dX6_undo_49 rfl (lv_at hl 0 rfl) ?_
            refine va_get (D := D) (ci := 10) (v := .ref p9) (C := RX6) (T := TX6) (N := 21) hx hb hts in_RX6 hown hK hP 0 rfl rfl 12 (by decide) (hts _ (List.mem_of_getElem? (i := 4) rfl)) (fun _ h9 => h9) rfl dX6_undo_50 ?_
            refine lv_aload_n hx hb dX6_undo_53 rfl (lv_at hl 0 rfl) ?_
            refine va_get (D := D) (ci := 10) (v := .int (nI cx)) (C := RX6) (T := TX6) (N := 21) hx hb hts in_RX6 hown hK hP 0 rfl rfl 1 (by decide) (hts _ (List.mem_of_getElem? (i := 1) rfl)) (fun _ h9 => h9) rfl dX6_undo_54 ?_
            refine lv_sipush (v := 188) hx hb dX6_undo_57 (by decide) ?_
            refine lv_imul hx hb dX6_undo_60 ?_
            refine z_top (y := nI (cx * 188)) (pk_mul cx 188) ?_
            refine lv_iload_n hx hb dX6_undo_61 rfl (lv_at hl 1 rfl) ?_
            refine lv_iadd hx hb dX6_undo_62 ?_
            refine z_top (y := nI ((cx * 188) + k)) (nI_add (cx * 188) k) ?_
            refine ziald 2 0 ((cx * 188) + k) hx hb hK hP rfl rfl (by omega) (z_lt rfl) dX6_undo_63 ?_
            refine ziast 1 0 k hx hb hK hP hD hS rfl rfl (by omega) (z_lt rfl) dX6_undo_64 (fun H locs hP hD hS => ?_)
            have hP : va_P D vwCl [(x9, .inr (10, [.int 0, .int (nI cx), .int era, .int why, .int det, .int cau, .int (zI sv), .int (zI rj), .ref v9, .ref b9, .ref s9, .ref k9, .ref p9, .ref t9, .ref n9, .int (nI tn), .int (nI he), .int (nI en), .int (nI ln), .int (zI iw), .int (zI dg)])), (v9, .inl (cy 0, 188, .inl (upd (zcp v (hq cx) k) k ((zpk hq) ((cx * 188) + k))))), (p9, .inl (cy 0, 1504, .inl (zpk hq)))] H := hP
            have hD : va_D A [(x9, .inr (10, [.int 0, .int (nI cx), .int era, .int why, .int det, .int cau, .int (zI sv), .int (zI rj), .ref v9, .ref b9, .ref s9, .ref k9, .ref p9, .ref t9, .ref n9, .int (nI tn), .int (nI he), .int (nI en), .int (nI ln), .int (zI iw), .int (zI dg)])), (v9, .inl (cy 0, 188, .inl (upd (zcp v (hq cx) k) k ((zpk hq) ((cx * 188) + k))))), (p9, .inl (cy 0, 1504, .inl (zpk hq)))] := hD
            refine lv_iinc (v := nI (k + 1)) (lv' := [(1, .int (nI (k + 1))), (0, .ref x9)]) hx hb dX6_undo_65 hl (k := 1) rfl (by rw [show Int32.ofInt 1 = nI 1 from rfl, nI_add]) (by decide) rfl (fun ls hl => ?_)
            refine lv_goto (tgt := 37) hx hb dX6_undo_68 (by decide) ?_
            exact ih37 (k + 1) (upd (zcp v (hq cx) k) k ((zpk hq) ((cx * 188) + k))) (by omega) (by omega) (zcp_u v hq cx k hk2) H locs hP hD hS ls (lv_sub hl [1, 0] rfl)
      exact L37 (188 - 0 + 1) 0 v (by omega) (Nat.lt_succ_self _) (zcp_0 _ _).symm H locs hP hD hS ls (lv_sub hl [1, 0] rfl)
    · exact absurd c_2 (by decide)
  · exact absurd c_1 (nI_ne0 (by omega) (by omega))

abbrev rmX6_undo_bad : Room := { frames := 0, cells := 0, slots := 0, locals := 0 }
set_option maxHeartbeats 4000000 in
set_option maxRecDepth 100000 in
theorem c_X6_undo_bad {G : zG} (hg : zGN G) (l : Launch) (D : va_G) (cy : Nat → ClassId) (x9 : Nat) (th : Int32) (era : Int32) (why : Int32) (det : Int32) (cau : Int32) (sv : Bool) (rj : Bool) (v9 : Nat) (b9 : Nat) (s9 : Nat) (k9 : Nat) (p9 : Nat) (t9 : Nat) (n9 : Nat) (tn : Nat) (he : Nat) (en : Nat) (ln : Nat) (iw : Bool) (dg : Bool) : zM G D vwCl (zT cy) l yX6_undo wsX6_undo rmX6_undo_bad [.ref x9] [(x9, .inr (10, [.int th, .int (nI 0), .int era, .int why, .int det, .int cau, .int (zI sv), .int (zI rj), .ref v9, .ref b9, .ref s9, .ref k9, .ref p9, .ref t9, .ref n9, .int (nI tn), .int (nI he), .int (nI en), .int (nI ln), .int (zI iw), .int (zI dg)]))] (some (.int 0)) [(x9, .inr (10, [.int 1, .int (nI 0), .int era, .int why, .int det, .int cau, .int (zI sv), .int (zI rj), .ref v9, .ref b9, .ref s9, .ref k9, .ref p9, .ref t9, .ref n9, .int (nI tn), .int (nI he), .int (nI en), .int (nI ln), .int (zI iw), .int (zI dg)]))] := by
  refine zM_of (cc := cX6_undo) (maxL := 2) (ret := (some .int)) (by decide) rfl (Nat.le_of_ble_eq_true rfl) ?_
  intro p e s m below meth c A Q hend hx hb hml hr hts hown hlk hG hK hP hD hA hS ls hl
  have hown : s.vm.findClass RX6 = some m.cls := hown
  have in_RX6 : ∀ w ∈ u_ws RX6 TX6 21, w ∈ wsX6_undo := by decide +kernel
  have hl : lv_has ls 2 [(0, .ref x9)] := hl
  refine lv_aload_n hx hb dX6_undo_0 rfl (lv_at hl 0 rfl) ?_
  refine lv_aload_n hx hb dX6_undo_1 rfl (lv_at hl 0 rfl) ?_
  refine va_get (D := D) (ci := 10) (v := .int (nI 0)) (C := RX6) (T := TX6) (N := 21) hx hb hts in_RX6 hown hK hP 0 rfl rfl 1 (by decide) (hts _ (List.mem_of_getElem? (i := 1) rfl)) (fun _ h9 => h9) rfl dX6_undo_2 ?_
  refine lv_if_ne (tgt := 12) hx hb dX6_undo_5 (by decide) (fun c_1 => ?_) (fun c_1 => ?_)
  · exact absurd rfl c_1
  · refine lv_iconst (v := 1) hx hb dX6_undo_8 (by decide) ?_
    refine lv_goto (tgt := 13) hx hb dX6_undo_9 (by decide) ?_
    refine va_put (D := D) (ci := 10) (v := .int 1) (ty := .int) (C := RX6) (T := TX6) (N := 21) hx hb hts in_RX6 tyX6 tyX6_ok nmX6 hown hK hP hD hS 0 rfl rfl 0 (by decide) (hts _ (List.mem_of_getElem? (i := 2) rfl)) (fun _ h9 => h9) rfl (by decide +kernel) rfl rfl (Nat.le_of_ble_eq_true rfl) dX6_undo_13 (fun H locs hP hD hS => ?_)
    have hP : va_P D vwCl [(x9, .inr (10, [.int 1, .int (nI 0), .int era, .int why, .int det, .int cau, .int (zI sv), .int (zI rj), .ref v9, .ref b9, .ref s9, .ref k9, .ref p9, .ref t9, .ref n9, .int (nI tn), .int (nI he), .int (nI en), .int (nI ln), .int (zI iw), .int (zI dg)]))] H := hP
    have hD : va_D A [(x9, .inr (10, [.int 1, .int (nI 0), .int era, .int why, .int det, .int cau, .int (zI sv), .int (zI rj), .ref v9, .ref b9, .ref s9, .ref k9, .ref p9, .ref t9, .ref n9, .int (nI tn), .int (nI he), .int (nI en), .int (nI ln), .int (zI iw), .int (zI dg)]))] := hD
    refine lv_aload_n hx hb dX6_undo_16 rfl (lv_at hl 0 rfl) ?_
    refine va_get (D := D) (ci := 10) (v := .int 1) (C := RX6) (T := TX6) (N := 21) hx hb hts in_RX6 hown hK hP 0 rfl rfl 0 (by decide) (hts _ (List.mem_of_getElem? (i := 2) rfl)) (fun _ h9 => h9) rfl dX6_undo_17 ?_
    refine lv_if_eq (tgt := 25) hx hb dX6_undo_20 (by decide) (fun c_2 => ?_) (fun c_2 => ?_)
    · exact absurd c_2 (by decide)
    · refine lv_iconst (v := 0) hx hb dX6_undo_23 (by decide) ?_
      exact ziret hend hx hb hr hlk hK hP hD hS dX6_undo_24 rfl rfl

abbrev rmX6_saveSnapshot : Room := { frames := 1, cells := 0, slots := 0, locals := 22 }
set_option maxHeartbeats 4000000 in
set_option maxRecDepth 100000 in
theorem c_X6_saveSnapshot {G : zG} (hg : zGN G) (l : Launch) (D : va_G) (cy : Nat → ClassId) (x9 : Nat) (th : Int32) (ch : Nat) (era : Int32) (why : Int32) (det : Int32) (cau : Int32) (sv : Bool) (rj : Bool) (v9 : Nat) (b9 : Nat) (s9 : Nat) (k9 : Nat) (p9 : Nat) (t9 : Nat) (n9 : Nat) (tn : Nat) (he : Nat) (en : Nat) (ln : Nat) (iw : Bool) (dg : Bool) (v : Nat → Int32) (sf : Nat → Int32) : zM G D vwCl (zT cy) l yX6_saveSnapshot wsX6_saveSnapshot rmX6_saveSnapshot [.ref x9] [(x9, .inr (10, [.int th, .int (nI ch), .int era, .int why, .int det, .int cau, .int (zI sv), .int (zI rj), .ref v9, .ref b9, .ref s9, .ref k9, .ref p9, .ref t9, .ref n9, .int (nI tn), .int (nI he), .int (nI en), .int (nI ln), .int (zI iw), .int (zI dg)])), (v9, .inl (cy 0, 188, .inl v)), (s9, .inl (cy 0, 188, .inl sf))] (some (.int (v 5))) [(x9, .inr (10, [.int 0, .int (nI ch), .int era, .int why, .int det, .int cau, .int (zI true), .int (zI rj), .ref v9, .ref b9, .ref s9, .ref k9, .ref p9, .ref t9, .ref n9, .int (nI tn), .int (nI he), .int (nI en), .int (nI ln), .int (zI iw), .int (zI dg)])), (v9, .inl (cy 0, 188, .inl v)), (s9, .inl (cy 0, 188, .inl v))] := by
  refine zM_of (cc := cX6_saveSnapshot) (maxL := 1) (ret := (some .int)) (by decide) rfl (Nat.le_of_ble_eq_true rfl) ?_
  intro p e s m below meth c A Q hend hx hb hml hr hts hown hlk hG hK hP hD hA hS ls hl
  have hown : s.vm.findClass RX6 = some m.cls := hown
  have in_RX6 : ∀ w ∈ u_ws RX6 TX6 21, w ∈ wsX6_saveSnapshot := by decide +kernel
  have hl : lv_has ls 1 [(0, .ref x9)] := hl
  refine lv_aload_n hx hb dX6_saveSnapshot_0 rfl (lv_at hl 0 rfl) ?_
  refine lv_iconst (v := 0) hx hb dX6_saveSnapshot_1 (by decide) ?_
  refine va_put (D := D) (ci := 10) (v := .int 0) (ty := .int) (C := RX6) (T := TX6) (N := 21) hx hb hts in_RX6 tyX6 tyX6_ok nmX6 hown hK hP hD hS 0 rfl rfl 0 (by decide) (hts _ (List.mem_of_getElem? (i := 1) rfl)) (fun _ h9 => h9) rfl (by decide +kernel) rfl rfl (Nat.le_of_ble_eq_true rfl) dX6_saveSnapshot_2 (fun H locs hP hD hS => ?_)
  have hP : va_P D vwCl [(x9, .inr (10, [.int 0, .int (nI ch), .int era, .int why, .int det, .int cau, .int (zI sv), .int (zI rj), .ref v9, .ref b9, .ref s9, .ref k9, .ref p9, .ref t9, .ref n9, .int (nI tn), .int (nI he), .int (nI en), .int (nI ln), .int (zI iw), .int (zI dg)])), (v9, .inl (cy 0, 188, .inl v)), (s9, .inl (cy 0, 188, .inl sf))] H := hP
  have hD : va_D A [(x9, .inr (10, [.int 0, .int (nI ch), .int era, .int why, .int det, .int cau, .int (zI sv), .int (zI rj), .ref v9, .ref b9, .ref s9, .ref k9, .ref p9, .ref t9, .ref n9, .int (nI tn), .int (nI he), .int (nI en), .int (nI ln), .int (zI iw), .int (zI dg)])), (v9, .inl (cy 0, 188, .inl v)), (s9, .inl (cy 0, 188, .inl sf))] := hD
  refine lv_aload_n hx hb dX6_saveSnapshot_5 rfl (lv_at hl 0 rfl) ?_
  refine va_get (D := D) (ci := 10) (v := .ref s9) (C := RX6) (T := TX6) (N := 21) hx hb hts in_RX6 hown hK hP 0 rfl rfl 10 (by decide) (hts _ (List.mem_of_getElem? (i := 2) rfl)) (fun _ h9 => h9) rfl dX6_saveSnapshot_6 ?_
  refine lv_aload_n hx hb dX6_saveSnapshot_9 rfl (lv_at hl 0 rfl) ?_
  refine va_get (D := D) (ci := 10) (v := .ref v9) (C := RX6) (T := TX6) (N := 21) hx hb hts in_RX6 hown hK hP 0 rfl rfl 8 (by decide) (hts _ (List.mem_of_getElem? (i := 3) rfl)) (fun _ h9 => h9) rfl dX6_saveSnapshot_10 ?_
  refine zcS (As := [.ref s9, .ref v9]) (rest := []) [2, 1] hg.1 ⟨hx, hb, hml, hown, hts⟩ (c_X6_lays hg l D cy s9 v9 sf v) (va_cwS 2 hts gX6_saveSnapshot_X6_lays rfl rfl rfl (by decide +kernel) ⟨Nat.le_of_ble_eq_true rfl, Nat.le_of_ble_eq_true rfl⟩) hG hK hP hD hS hA rfl rfl (Eq.trans (b := [s9, v9]) rfl rfl)  rfl hl.1 rfl (Nat.le_of_ble_eq_true rfl) dX6_saveSnapshot_13 ⟨Nat.zero_le _, Nat.zero_le _⟩ (fun H locs hP hD hS => ?_)
  have hP : va_P D vwCl [(x9, .inr (10, [.int 0, .int (nI ch), .int era, .int why, .int det, .int cau, .int (zI sv), .int (zI rj), .ref v9, .ref b9, .ref s9, .ref k9, .ref p9, .ref t9, .ref n9, .int (nI tn), .int (nI he), .int (nI en), .int (nI ln), .int (zI iw), .int (zI dg)])), (v9, .inl (cy 0, 188, .inl v)), (s9, .inl (cy 0, 188, .inl v))] H := hP
  have hD : va_D A [(x9, .inr (10, [.int 0, .int (nI ch), .int era, .int why, .int det, .int cau, .int (zI sv), .int (zI rj), .ref v9, .ref b9, .ref s9, .ref k9, .ref p9, .ref t9, .ref n9, .int (nI tn), .int (nI he), .int (nI en), .int (nI ln), .int (zI iw), .int (zI dg)])), (v9, .inl (cy 0, 188, .inl v)), (s9, .inl (cy 0, 188, .inl v))] := hD
  refine lv_aload_n hx hb dX6_saveSnapshot_16 rfl (lv_at hl 0 rfl) ?_
  refine lv_iconst (v := 1) hx hb dX6_saveSnapshot_17 (by decide) ?_
  refine z_top (y := zI true) rfl ?_
  refine va_put (D := D) (ci := 10) (v := .int (zI true)) (ty := .boolean) (C := RX6) (T := TX6) (N := 21) hx hb hts in_RX6 tyX6 tyX6_ok nmX6 hown hK hP hD hS 0 rfl rfl 6 (by decide) (hts _ (List.mem_of_getElem? (i := 4) rfl)) (fun _ h9 => h9) rfl (by decide +kernel) (zI_nar _) (zI_fit _) (Nat.le_of_ble_eq_true rfl) dX6_saveSnapshot_18 (fun H locs hP hD hS => ?_)
  have hP : va_P D vwCl [(x9, .inr (10, [.int 0, .int (nI ch), .int era, .int why, .int det, .int cau, .int (zI true), .int (zI rj), .ref v9, .ref b9, .ref s9, .ref k9, .ref p9, .ref t9, .ref n9, .int (nI tn), .int (nI he), .int (nI en), .int (nI ln), .int (zI iw), .int (zI dg)])), (v9, .inl (cy 0, 188, .inl v)), (s9, .inl (cy 0, 188, .inl v))] H := hP
  have hD : va_D A [(x9, .inr (10, [.int 0, .int (nI ch), .int era, .int why, .int det, .int cau, .int (zI true), .int (zI rj), .ref v9, .ref b9, .ref s9, .ref k9, .ref p9, .ref t9, .ref n9, .int (nI tn), .int (nI he), .int (nI en), .int (nI ln), .int (zI iw), .int (zI dg)])), (v9, .inl (cy 0, 188, .inl v)), (s9, .inl (cy 0, 188, .inl v))] := hD
  refine lv_aload_n hx hb dX6_saveSnapshot_21 rfl (lv_at hl 0 rfl) ?_
  refine va_get (D := D) (ci := 10) (v := .ref v9) (C := RX6) (T := TX6) (N := 21) hx hb hts in_RX6 hown hK hP 0 rfl rfl 8 (by decide) (hts _ (List.mem_of_getElem? (i := 3) rfl)) (fun _ h9 => h9) rfl dX6_saveSnapshot_22 ?_
  refine lv_iconst (v := 5) hx hb dX6_saveSnapshot_25 (by decide) ?_
  refine ziald 1 0 5 hx hb hK hP rfl rfl (by omega) (z_lt rfl) dX6_saveSnapshot_26 ?_
  exact ziret hend hx hb hr hlk hK hP hD hS dX6_saveSnapshot_27 rfl rfl

abbrev rmX6_restoreSnapshot_ok : Room := { frames := 1, cells := 0, slots := 0, locals := 22 }
set_option maxHeartbeats 4000000 in
set_option maxRecDepth 100000 in
theorem c_X6_restoreSnapshot_ok {G : zG} (hg : zGN G) (l : Launch) (D : va_G) (cy : Nat → ClassId) (x9 : Nat) (th : Int32) (ch : Nat) (era : Int32) (why : Int32) (det : Int32) (cau : Int32) (rj : Bool) (v9 : Nat) (b9 : Nat) (s9 : Nat) (k9 : Nat) (p9 : Nat) (t9 : Nat) (n9 : Nat) (tn : Nat) (he : Nat) (en : Nat) (ln : Nat) (iw : Bool) (dg : Bool) (v : Nat → Int32) (sf : Nat → Int32) : zM G D vwCl (zT cy) l yX6_restoreSnapshot wsX6_restoreSnapshot rmX6_restoreSnapshot_ok [.ref x9] [(x9, .inr (10, [.int th, .int (nI ch), .int era, .int why, .int det, .int cau, .int (zI true), .int (zI rj), .ref v9, .ref b9, .ref s9, .ref k9, .ref p9, .ref t9, .ref n9, .int (nI tn), .int (nI he), .int (nI en), .int (nI ln), .int (zI iw), .int (zI dg)])), (v9, .inl (cy 0, 188, .inl v)), (s9, .inl (cy 0, 188, .inl sf))] (some (.int (sf 5))) [(x9, .inr (10, [.int 0, .int (nI 0), .int era, .int why, .int det, .int cau, .int (zI true), .int (zI rj), .ref v9, .ref b9, .ref s9, .ref k9, .ref p9, .ref t9, .ref n9, .int (nI tn), .int (nI he), .int (nI en), .int (nI ln), .int (zI iw), .int (zI dg)])), (v9, .inl (cy 0, 188, .inl sf)), (s9, .inl (cy 0, 188, .inl sf))] := by
  refine zM_of (cc := cX6_restoreSnapshot) (maxL := 1) (ret := (some .int)) (by decide) rfl (Nat.le_of_ble_eq_true rfl) ?_
  intro p e s m below meth c A Q hend hx hb hml hr hts hown hlk hG hK hP hD hA hS ls hl
  have hown : s.vm.findClass RX6 = some m.cls := hown
  have in_RX6 : ∀ w ∈ u_ws RX6 TX6 21, w ∈ wsX6_restoreSnapshot := by decide +kernel
  have hl : lv_has ls 1 [(0, .ref x9)] := hl
  refine lv_aload_n hx hb dX6_restoreSnapshot_0 rfl (lv_at hl 0 rfl) ?_
  refine lv_aload_n hx hb dX6_restoreSnapshot_1 rfl (lv_at hl 0 rfl) ?_
  refine va_get (D := D) (ci := 10) (v := .int (zI true)) (C := RX6) (T := TX6) (N := 21) hx hb hts in_RX6 hown hK hP 0 rfl rfl 6 (by decide) (hts _ (List.mem_of_getElem? (i := 1) rfl)) (fun _ h9 => h9) rfl dX6_restoreSnapshot_2 ?_
  refine lv_if_eq (tgt := 12) hx hb dX6_restoreSnapshot_5 (by decide) (fun c_1 => ?_) (fun c_1 => ?_)
  · replace c_1 := zI0 c_1
    exact absurd c_1 (by decide)
  · replace c_1 := zI1 c_1
    refine lv_iconst (v := 0) hx hb dX6_restoreSnapshot_8 (by decide) ?_
    refine lv_goto (tgt := 13) hx hb dX6_restoreSnapshot_9 (by decide) ?_
    refine va_put (D := D) (ci := 10) (v := .int 0) (ty := .int) (C := RX6) (T := TX6) (N := 21) hx hb hts in_RX6 tyX6 tyX6_ok nmX6 hown hK hP hD hS 0 rfl rfl 0 (by decide) (hts _ (List.mem_of_getElem? (i := 2) rfl)) (fun _ h9 => h9) rfl (by decide +kernel) rfl rfl (Nat.le_of_ble_eq_true rfl) dX6_restoreSnapshot_13 (fun H locs hP hD hS => ?_)
    have hP : va_P D vwCl [(x9, .inr (10, [.int 0, .int (nI ch), .int era, .int why, .int det, .int cau, .int (zI true), .int (zI rj), .ref v9, .ref b9, .ref s9, .ref k9, .ref p9, .ref t9, .ref n9, .int (nI tn), .int (nI he), .int (nI en), .int (nI ln), .int (zI iw), .int (zI dg)])), (v9, .inl (cy 0, 188, .inl v)), (s9, .inl (cy 0, 188, .inl sf))] H := hP
    have hD : va_D A [(x9, .inr (10, [.int 0, .int (nI ch), .int era, .int why, .int det, .int cau, .int (zI true), .int (zI rj), .ref v9, .ref b9, .ref s9, .ref k9, .ref p9, .ref t9, .ref n9, .int (nI tn), .int (nI he), .int (nI en), .int (nI ln), .int (zI iw), .int (zI dg)])), (v9, .inl (cy 0, 188, .inl v)), (s9, .inl (cy 0, 188, .inl sf))] := hD
    refine lv_aload_n hx hb dX6_restoreSnapshot_16 rfl (lv_at hl 0 rfl) ?_
    refine va_get (D := D) (ci := 10) (v := .int 0) (C := RX6) (T := TX6) (N := 21) hx hb hts in_RX6 hown hK hP 0 rfl rfl 0 (by decide) (hts _ (List.mem_of_getElem? (i := 2) rfl)) (fun _ h9 => h9) rfl dX6_restoreSnapshot_17 ?_
    refine lv_if_eq (tgt := 25) hx hb dX6_restoreSnapshot_20 (by decide) (fun c_2 => ?_) (fun c_2 => ?_)
    · refine lv_aload_n hx hb dX6_restoreSnapshot_25 rfl (lv_at hl 0 rfl) ?_
      refine va_get (D := D) (ci := 10) (v := .ref v9) (C := RX6) (T := TX6) (N := 21) hx hb hts in_RX6 hown hK hP 0 rfl rfl 8 (by decide) (hts _ (List.mem_of_getElem? (i := 3) rfl)) (fun _ h9 => h9) rfl dX6_restoreSnapshot_26 ?_
      refine lv_aload_n hx hb dX6_restoreSnapshot_29 rfl (lv_at hl 0 rfl) ?_
      refine va_get (D := D) (ci := 10) (v := .ref s9) (C := RX6) (T := TX6) (N := 21) hx hb hts in_RX6 hown hK hP 0 rfl rfl 10 (by decide) (hts _ (List.mem_of_getElem? (i := 4) rfl)) (fun _ h9 => h9) rfl dX6_restoreSnapshot_30 ?_
      refine zcS (As := [.ref v9, .ref s9]) (rest := []) [1, 2] hg.1 ⟨hx, hb, hml, hown, hts⟩ (c_X6_lays hg l D cy v9 s9 v sf) (va_cwS 2 hts gX6_restoreSnapshot_X6_lays rfl rfl rfl (by decide +kernel) ⟨Nat.le_of_ble_eq_true rfl, Nat.le_of_ble_eq_true rfl⟩) hG hK hP hD hS hA rfl rfl (Eq.trans (b := [v9, s9]) rfl rfl)  rfl hl.1 rfl (Nat.le_of_ble_eq_true rfl) dX6_restoreSnapshot_33 ⟨Nat.zero_le _, Nat.zero_le _⟩ (fun H locs hP hD hS => ?_)
      have hP : va_P D vwCl [(x9, .inr (10, [.int 0, .int (nI ch), .int era, .int why, .int det, .int cau, .int (zI true), .int (zI rj), .ref v9, .ref b9, .ref s9, .ref k9, .ref p9, .ref t9, .ref n9, .int (nI tn), .int (nI he), .int (nI en), .int (nI ln), .int (zI iw), .int (zI dg)])), (v9, .inl (cy 0, 188, .inl sf)), (s9, .inl (cy 0, 188, .inl sf))] H := hP
      have hD : va_D A [(x9, .inr (10, [.int 0, .int (nI ch), .int era, .int why, .int det, .int cau, .int (zI true), .int (zI rj), .ref v9, .ref b9, .ref s9, .ref k9, .ref p9, .ref t9, .ref n9, .int (nI tn), .int (nI he), .int (nI en), .int (nI ln), .int (zI iw), .int (zI dg)])), (v9, .inl (cy 0, 188, .inl sf)), (s9, .inl (cy 0, 188, .inl sf))] := hD
      refine lv_aload_n hx hb dX6_restoreSnapshot_36 rfl (lv_at hl 0 rfl) ?_
      refine lv_iconst (v := 0) hx hb dX6_restoreSnapshot_37 (by decide) ?_
      refine va_put (D := D) (ci := 10) (v := .int 0) (ty := .int) (C := RX6) (T := TX6) (N := 21) hx hb hts in_RX6 tyX6 tyX6_ok nmX6 hown hK hP hD hS 0 rfl rfl 1 (by decide) (hts _ (List.mem_of_getElem? (i := 5) rfl)) (fun _ h9 => h9) rfl (by decide +kernel) rfl rfl (Nat.le_of_ble_eq_true rfl) dX6_restoreSnapshot_38 (fun H locs hP hD hS => ?_)
      have hP : va_P D vwCl [(x9, .inr (10, [.int 0, .int 0, .int era, .int why, .int det, .int cau, .int (zI true), .int (zI rj), .ref v9, .ref b9, .ref s9, .ref k9, .ref p9, .ref t9, .ref n9, .int (nI tn), .int (nI he), .int (nI en), .int (nI ln), .int (zI iw), .int (zI dg)])), (v9, .inl (cy 0, 188, .inl sf)), (s9, .inl (cy 0, 188, .inl sf))] H := hP
      have hD : va_D A [(x9, .inr (10, [.int 0, .int 0, .int era, .int why, .int det, .int cau, .int (zI true), .int (zI rj), .ref v9, .ref b9, .ref s9, .ref k9, .ref p9, .ref t9, .ref n9, .int (nI tn), .int (nI he), .int (nI en), .int (nI ln), .int (zI iw), .int (zI dg)])), (v9, .inl (cy 0, 188, .inl sf)), (s9, .inl (cy 0, 188, .inl sf))] := hD
      refine lv_aload_n hx hb dX6_restoreSnapshot_41 rfl (lv_at hl 0 rfl) ?_
      refine va_get (D := D) (ci := 10) (v := .ref v9) (C := RX6) (T := TX6) (N := 21) hx hb hts in_RX6 hown hK hP 0 rfl rfl 8 (by decide) (hts _ (List.mem_of_getElem? (i := 3) rfl)) (fun _ h9 => h9) rfl dX6_restoreSnapshot_42 ?_
      refine lv_iconst (v := 5) hx hb dX6_restoreSnapshot_45 (by decide) ?_
      refine ziald 1 0 5 hx hb hK hP rfl rfl (by omega) (z_lt rfl) dX6_restoreSnapshot_46 ?_
      exact ziret hend hx hb hr hlk hK hP hD hS dX6_restoreSnapshot_47 rfl (by rfl)
    · exact absurd c_2 (by decide)

abbrev rmX6_restoreSnapshot_bad : Room := { frames := 0, cells := 0, slots := 0, locals := 0 }
set_option maxHeartbeats 4000000 in
set_option maxRecDepth 100000 in
theorem c_X6_restoreSnapshot_bad {G : zG} (hg : zGN G) (l : Launch) (D : va_G) (cy : Nat → ClassId) (x9 : Nat) (th : Int32) (ch : Nat) (era : Int32) (why : Int32) (det : Int32) (cau : Int32) (rj : Bool) (v9 : Nat) (b9 : Nat) (s9 : Nat) (k9 : Nat) (p9 : Nat) (t9 : Nat) (n9 : Nat) (tn : Nat) (he : Nat) (en : Nat) (ln : Nat) (iw : Bool) (dg : Bool) : zM G D vwCl (zT cy) l yX6_restoreSnapshot wsX6_restoreSnapshot rmX6_restoreSnapshot_bad [.ref x9] [(x9, .inr (10, [.int th, .int (nI ch), .int era, .int why, .int det, .int cau, .int (zI false), .int (zI rj), .ref v9, .ref b9, .ref s9, .ref k9, .ref p9, .ref t9, .ref n9, .int (nI tn), .int (nI he), .int (nI en), .int (nI ln), .int (zI iw), .int (zI dg)]))] (some (.int 0)) [(x9, .inr (10, [.int 1, .int (nI ch), .int era, .int why, .int det, .int cau, .int (zI false), .int (zI rj), .ref v9, .ref b9, .ref s9, .ref k9, .ref p9, .ref t9, .ref n9, .int (nI tn), .int (nI he), .int (nI en), .int (nI ln), .int (zI iw), .int (zI dg)]))] := by
  refine zM_of (cc := cX6_restoreSnapshot) (maxL := 1) (ret := (some .int)) (by decide) rfl (Nat.le_of_ble_eq_true rfl) ?_
  intro p e s m below meth c A Q hend hx hb hml hr hts hown hlk hG hK hP hD hA hS ls hl
  have hown : s.vm.findClass RX6 = some m.cls := hown
  have in_RX6 : ∀ w ∈ u_ws RX6 TX6 21, w ∈ wsX6_restoreSnapshot := by decide +kernel
  have hl : lv_has ls 1 [(0, .ref x9)] := hl
  refine lv_aload_n hx hb dX6_restoreSnapshot_0 rfl (lv_at hl 0 rfl) ?_
  refine lv_aload_n hx hb dX6_restoreSnapshot_1 rfl (lv_at hl 0 rfl) ?_
  refine va_get (D := D) (ci := 10) (v := .int (zI false)) (C := RX6) (T := TX6) (N := 21) hx hb hts in_RX6 hown hK hP 0 rfl rfl 6 (by decide) (hts _ (List.mem_of_getElem? (i := 1) rfl)) (fun _ h9 => h9) rfl dX6_restoreSnapshot_2 ?_
  refine lv_if_eq (tgt := 12) hx hb dX6_restoreSnapshot_5 (by decide) (fun c_1 => ?_) (fun c_1 => ?_)
  · replace c_1 := zI0 c_1
    refine lv_iconst (v := 1) hx hb dX6_restoreSnapshot_12 (by decide) ?_
    refine va_put (D := D) (ci := 10) (v := .int 1) (ty := .int) (C := RX6) (T := TX6) (N := 21) hx hb hts in_RX6 tyX6 tyX6_ok nmX6 hown hK hP hD hS 0 rfl rfl 0 (by decide) (hts _ (List.mem_of_getElem? (i := 2) rfl)) (fun _ h9 => h9) rfl (by decide +kernel) rfl rfl (Nat.le_of_ble_eq_true rfl) dX6_restoreSnapshot_13 (fun H locs hP hD hS => ?_)
    have hP : va_P D vwCl [(x9, .inr (10, [.int 1, .int (nI ch), .int era, .int why, .int det, .int cau, .int (zI false), .int (zI rj), .ref v9, .ref b9, .ref s9, .ref k9, .ref p9, .ref t9, .ref n9, .int (nI tn), .int (nI he), .int (nI en), .int (nI ln), .int (zI iw), .int (zI dg)]))] H := hP
    have hD : va_D A [(x9, .inr (10, [.int 1, .int (nI ch), .int era, .int why, .int det, .int cau, .int (zI false), .int (zI rj), .ref v9, .ref b9, .ref s9, .ref k9, .ref p9, .ref t9, .ref n9, .int (nI tn), .int (nI he), .int (nI en), .int (nI ln), .int (zI iw), .int (zI dg)]))] := hD
    refine lv_aload_n hx hb dX6_restoreSnapshot_16 rfl (lv_at hl 0 rfl) ?_
    refine va_get (D := D) (ci := 10) (v := .int 1) (C := RX6) (T := TX6) (N := 21) hx hb hts in_RX6 hown hK hP 0 rfl rfl 0 (by decide) (hts _ (List.mem_of_getElem? (i := 2) rfl)) (fun _ h9 => h9) rfl dX6_restoreSnapshot_17 ?_
    refine lv_if_eq (tgt := 25) hx hb dX6_restoreSnapshot_20 (by decide) (fun c_2 => ?_) (fun c_2 => ?_)
    · exact absurd c_2 (by decide)
    · refine lv_iconst (v := 0) hx hb dX6_restoreSnapshot_23 (by decide) ?_
      exact ziret hend hx hb hr hlk hK hP hD hS dX6_restoreSnapshot_24 rfl rfl
  · replace c_1 := zI1 c_1
    exact absurd c_1 (by decide)
