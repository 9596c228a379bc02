/-- the sign at a place of the text; behind its end none -/
def zqs (tx : Nat → Int32) (en h : Nat) : Int32 := if h < en then tx h else -1
/-- one sign is wanted -/
def zmW (tx : Nat → Int32) (en h : Nat) (iw : Bool) (x : Int32) : Bool := iw || !decide (zqs tx en h = x)
def zmH (tx : Nat → Int32) (en h : Nat) (iw : Bool) (x : Int32) : Nat := if zmW tx en h iw x = true then h else h + 1
theorem zmH_le (tx : Nat → Int32) (en h : Nat) (iw : Bool) (x : Int32) : zmH tx en h iw x ≤ h + 1 := by simp only [zmH]; split <;> omega
/-- digits: how many, and what they say -/
def zdN (tx : Nat → Int32) (en : Nat) : Nat → Nat → Nat
  | 0, _ => 0
  | F + 1, h => if zic 48 57 (zqs tx en h) = true then 1 + zdN tx en F (h + 1) else 0
def zdV (tx : Nat → Int32) (en : Nat) : Nat → Nat → Int32 → Int32
  | 0, _, a => a
  | F + 1, h, a => if zic 48 57 (zqs tx en h) = true then zdV tx en F (h + 1) (10 * a + zqs tx en h - 48) else a
theorem zdN_le (tx : Nat → Int32) (en : Nat) : ∀ (F h : Nat), zdN tx en F h ≤ F
  | 0, _ => Nat.le_refl _
  | F + 1, h => by
    have := zdN_le tx en F (h + 1)
    simp only [zdN]; split <;> omega
/-- a number of at most two digits behind a sign -/
def zbW (tx : Nat → Int32) (en h : Nat) (iw : Bool) (x : Int32) : Bool := zmW tx en h iw x || decide (zdN tx en 2 (zmH tx en h iw x) = 0)
def zbH (tx : Nat → Int32) (en h : Nat) (iw : Bool) (x : Int32) : Nat := if zmW tx en h iw x = true then zmH tx en h iw x else zmH tx en h iw x + zdN tx en 2 (zmH tx en h iw x)
def zbV (tx : Nat → Int32) (en h : Nat) (iw : Bool) (x : Int32) : Int32 := if zmW tx en h iw x = true then 0 else zdV tx en 2 (zmH tx en h iw x) 0
/-- signs of a mask: how many, and what they say -/
def zkN (tx : Nat → Int32) (en : Nat) : Nat → Nat → Nat
  | 0, _ => 0
  | F + 1, h => if zqs tx en h = 48 ∨ zqs tx en h = 49 then 1 + zkN tx en F (h + 1) else 0
def zkM (tx : Nat → Int32) (en : Nat) : Nat → Nat → Nat → Int32 → Int32
  | 0, _, _, a => a
  | F + 1, h, k, a => if zqs tx en h = 48 ∨ zqs tx en h = 49 then zkM tx en F (h + 1) (k + 1) (a ||| (if zqs tx en h = 49 then 1 <<< (nI k &&& 31) else 0)) else a
theorem zkN_le (tx : Nat → Int32) (en : Nat) : ∀ (F h : Nat), zkN tx en F h ≤ F
  | 0, _ => Nat.le_refl _
  | F + 1, h => by
    have := zkN_le tx en F (h + 1)
    simp only [zkN]; split <;> omega
def zqn (x : Int32) : Bool := decide (x = 99) || decide (x = 104) || decide (x = 114) || decide (x = 100) || decide (x = 117) || decide (x = 108) || decide (x = 103) || decide (x = 107)
def zid (x : Int32) : Bool := decide (x = 121) || decide (x = 102) || decide (x = 116)
abbrev rmX6_sign : Room := { frames := 0, cells := 0, slots := 0, locals := 0 }
set_option maxHeartbeats 4000000 in
set_option maxRecDepth 100000 in
theorem c_X6_sign {G : zG} (hg : zGN G) (l : Launch) (D : va_G) (cy : Nat → ClassId) (x9 : Nat) (th : Int32) (ch : Nat) (era : Int32) (why : Int32) (det : Int32) (cau : Int32) (sv : Bool) (rj : Bool) (v9 : Nat) (b9 : Nat) (s9 : Nat) (k9 : Nat) (p9 : Nat) (t9 : Nat) (n9 : Nat) (tn : Nat) (he : Nat) (en : Nat) (ln : Nat) (iw : Bool) (dg : Bool) (tx : Nat → Int32) (hhe : he ≤ 200) (hen : en ≤ 60) : zM G D vwCl (zT cy) l yX6_sign wsX6_sign rmX6_sign [.ref x9] [(x9, .inr (10, [.int th, .int (nI ch), .int era, .int why, .int det, .int cau, .int (zI sv), .int (zI rj), .ref v9, .ref b9, .ref s9, .ref k9, .ref p9, .ref t9, .ref n9, .int (nI tn), .int (nI he), .int (nI en), .int (nI ln), .int (zI iw), .int (zI dg)])), (t9, .inl (cy 0, 60, .inl tx))] (some (.int (zqs tx en he))) [(x9, .inr (10, [.int th, .int (nI ch), .int era, .int why, .int det, .int cau, .int (zI sv), .int (zI rj), .ref v9, .ref b9, .ref s9, .ref k9, .ref p9, .ref t9, .ref n9, .int (nI tn), .int (nI he), .int (nI en), .int (nI ln), .int (zI iw), .int (zI dg)])), (t9, .inl (cy 0, 60, .inl tx))] := by
  refine zM_of (cc := cX6_sign) (maxL := 1) (ret := (some .int)) (by decide) rfl (Nat.le_of_ble_eq_true rfl) ?_
  intro p e s m below meth c A Q hend hx hb hml hr hts hown hlk hG hK hP hD hA hS ls hl
  have hown : s.vm.findClass RX6 = some m.cls := hown
  have in_RX6 : ∀ w ∈ u_ws RX6 TX6 21, w ∈ wsX6_sign := by decide +kernel
  have hl : lv_has ls 1 [(0, .ref x9)] := hl
  refine lv_aload_n hx hb dX6_sign_0 rfl (lv_at hl 0 rfl) ?_
  refine va_get (D := D) (ci := 10) (v := .int (nI he)) (C := RX6) (T := TX6) (N := 21) hx hb hts in_RX6 hown hK hP 0 rfl rfl 16 (by decide) (hts _ (List.mem_of_getElem? (i := 1) rfl)) (fun _ h9 => h9) rfl dX6_sign_1 ?_
  refine lv_aload_n hx hb dX6_sign_4 rfl (lv_at hl 0 rfl) ?_
  refine va_get (D := D) (ci := 10) (v := .int (nI en)) (C := RX6) (T := TX6) (N := 21) hx hb hts in_RX6 hown hK hP 0 rfl rfl 17 (by decide) (hts _ (List.mem_of_getElem? (i := 2) rfl)) (fun _ h9 => h9) rfl dX6_sign_5 ?_
  refine lv_icmp_ge (tgt := 23) hx hb dX6_sign_8 (by decide) (fun c_1 => ?_) (fun c_1 => ?_)
  · have hxe : ¬ he < en := Nat.not_lt.mpr ((nI_leI (by omega) (by omega)).mp c_1)
    refine lv_iconst (v := (-1)) hx hb dX6_sign_23 (by decide) ?_
    exact ziret hend hx hb hr hlk hK hP hD hS dX6_sign_24 (by simp only [zqs]; first | rw [if_pos hxe] | rw [if_neg hxe]) rfl
  · have hxe : he < en := Nat.lt_of_not_le (fun z => c_1 (nI_le z (by omega)))
    refine lv_aload_n hx hb dX6_sign_11 rfl (lv_at hl 0 rfl) ?_
    refine va_get (D := D) (ci := 10) (v := .ref t9) (C := RX6) (T := TX6) (N := 21) hx hb hts in_RX6 hown hK hP 0 rfl rfl 13 (by decide) (hts _ (List.mem_of_getElem? (i := 3) rfl)) (fun _ h9 => h9) rfl dX6_sign_12 ?_
    refine lv_aload_n hx hb dX6_sign_15 rfl (lv_at hl 0 rfl) ?_
    refine va_get (D := D) (ci := 10) (v := .int (nI he)) (C := RX6) (T := TX6) (N := 21) hx hb hts in_RX6 hown hK hP 0 rfl rfl 16 (by decide) (hts _ (List.mem_of_getElem? (i := 1) rfl)) (fun _ h9 => h9) rfl dX6_sign_16 ?_
    refine ziald 1 0 he hx hb hK hP rfl rfl (by omega) (z_lt rfl) dX6_sign_19 ?_
    refine lv_goto (tgt := 24) hx hb dX6_sign_20 (by decide) ?_
    exact ziret hend hx hb hr hlk hK hP hD hS dX6_sign_24 (by simp only [zqs]; first | rw [if_pos hxe] | rw [if_neg hxe]) rfl

abbrev rmX6_mark : Room := { frames := 1, cells := 0, slots := 0, locals := 20 }
set_option maxHeartbeats 4000000 in
set_option maxRecDepth 100000 in
theorem c_X6_mark {G : zG} (hg : zGN G) (l : Launch) (D : va_G) (cy : Nat → ClassId) (x9 : Nat) (th : Int32) (ch : Nat) (era : Int32) (why : Int32) (det : Int32) (cau : Int32) (sv : Bool) (rj : Bool) (v9 : Nat) (b9 : Nat) (s9 : Nat) (k9 : Nat) (p9 : Nat) (t9 : Nat) (n9 : Nat) (tn : Nat) (he : Nat) (en : Nat) (ln : Nat) (iw : Bool) (dg : Bool) (tx : Nat → Int32) (xq : Int32) (hhe : he ≤ 200) (hen : en ≤ 60) : zM G D vwCl (zT cy) l yX6_mark wsX6_mark rmX6_mark [.ref x9, .int xq] [(x9, .inr (10, [.int th, .int (nI ch), .int era, .int why, .int det, .int cau, .int (zI sv), .int (zI rj), .ref v9, .ref b9, .ref s9, .ref k9, .ref p9, .ref t9, .ref n9, .int (nI tn), .int (nI he), .int (nI en), .int (nI ln), .int (zI iw), .int (zI dg)])), (t9, .inl (cy 0, 60, .inl tx))] none [(x9, .inr (10, [.int th, .int (nI ch), .int era, .int why, .int det, .int cau, .int (zI sv), .int (zI rj), .ref v9, .ref b9, .ref s9, .ref k9, .ref p9, .ref t9, .ref n9, .int (nI tn), .int (nI (zmH tx en he iw xq)), .int (nI en), .int (nI ln), .int (zI (zmW tx en he iw xq)), .int (zI dg)])), (t9, .inl (cy 0, 60, .inl tx))] := by
  refine zM_of (cc := cX6_mark) (maxL := 2) (ret := none) (by decide) rfl (Nat.le_of_ble_eq_true rfl) ?_
  intro p e s m below meth c A Q hend hx hb hml hr hts hown hlk hG hK hP hD hA hS ls hl
  have hown : s.vm.findClass RX6 = some m.cls := hown
  have in_RX6 : ∀ w ∈ u_ws RX6 TX6 21, w ∈ wsX6_mark := by decide +kernel
  have hl : lv_has ls 2 [(0, .ref x9), (1, .int xq)] := hl
  refine lv_aload_n hx hb dX6_mark_0 rfl (lv_at hl 0 rfl) ?_
  refine va_get (D := D) (ci := 10) (v := .int (zI iw)) (C := RX6) (T := TX6) (N := 21) hx hb hts in_RX6 hown hK hP 0 rfl rfl 19 (by decide) (hts _ (List.mem_of_getElem? (i := 1) rfl)) (fun _ h9 => h9) rfl dX6_mark_1 ?_
  refine lv_if_eq (tgt := 8) hx hb dX6_mark_4 (by decide) (fun c_1 => ?_) (fun c_1 => ?_)
  · replace c_1 := zI0 c_1
    refine lv_aload_n hx hb dX6_mark_8 rfl (lv_at hl 0 rfl) ?_
    refine lv_aload_n hx hb dX6_mark_9 rfl (lv_at hl 0 rfl) ?_
    refine zcV (As := []) (rest := [.ref x9]) [0, 1] 0 hg.1 ⟨hx, hb, hml, hown, hts⟩ (c_X6_sign hg l D cy x9 th ch era why det cau sv rj v9 b9 s9 k9 p9 t9 n9 tn he en ln iw dg tx (by first | assumption | omega) (by first | assumption | omega)) (cwV 0 hts gX6_mark_X6_sign rfl rfl rfl (by decide +kernel) ⟨Nat.le_of_ble_eq_true rfl, Nat.le_of_ble_eq_true rfl⟩) hG hK hP hD hS hA rfl rfl rfl rfl rfl rfl hl.1 rfl (Nat.le_of_ble_eq_true rfl) dX6_mark_10 ⟨Nat.zero_le _, Nat.zero_le _⟩ (fun H locs hP hD hS => ?_)
    have hP : va_P D vwCl [(x9, .inr (10, [.int th, .int (nI ch), .int era, .int why, .int det, .int cau, .int (zI sv), .int (zI rj), .ref v9, .ref b9, .ref s9, .ref k9, .ref p9, .ref t9, .ref n9, .int (nI tn), .int (nI he), .int (nI en), .int (nI ln), .int (zI iw), .int (zI dg)])), (t9, .inl (cy 0, 60, .inl tx))] H := hP
    have hD : va_D A [(x9, .inr (10, [.int th, .int (nI ch), .int era, .int why, .int det, .int cau, .int (zI sv), .int (zI rj), .ref v9, .ref b9, .ref s9, .ref k9, .ref p9, .ref t9, .ref n9, .int (nI tn), .int (nI he), .int (nI en), .int (nI ln), .int (zI iw), .int (zI dg)])), (t9, .inl (cy 0, 60, .inl tx))] := hD
    refine lv_iload_n hx hb dX6_mark_13 rfl (lv_at hl 1 rfl) ?_
    refine lv_icmp_eq (tgt := 21) hx hb dX6_mark_14 (by decide) (fun c_2 => ?_) (fun c_2 => ?_)
    · refine lv_iconst (v := 0) hx hb dX6_mark_21 (by decide) ?_
      refine z_top (y := zI false) rfl ?_
      refine va_put (D := D) (ci := 10) (v := .int (zI false)) (ty := .boolean) (C := RX6) (T := TX6) (N := 21) hx hb hts in_RX6 tyX6 tyX6_ok nmX6 hown hK hP hD hS 0 rfl rfl 19 (by decide) (hts _ (List.mem_of_getElem? (i := 1) rfl)) (fun _ h9 => h9) rfl (by decide +kernel) (zI_nar _) (zI_fit _) (Nat.le_of_ble_eq_true rfl) dX6_mark_22 (fun H locs hP hD hS => ?_)
      have hP : va_P D vwCl [(x9, .inr (10, [.int th, .int (nI ch), .int era, .int why, .int det, .int cau, .int (zI sv), .int (zI rj), .ref v9, .ref b9, .ref s9, .ref k9, .ref p9, .ref t9, .ref n9, .int (nI tn), .int (nI he), .int (nI en), .int (nI ln), .int (zI false), .int (zI dg)])), (t9, .inl (cy 0, 60, .inl tx))] H := hP
      have hD : va_D A [(x9, .inr (10, [.int th, .int (nI ch), .int era, .int why, .int det, .int cau, .int (zI sv), .int (zI rj), .ref v9, .ref b9, .ref s9, .ref k9, .ref p9, .ref t9, .ref n9, .int (nI tn), .int (nI he), .int (nI en), .int (nI ln), .int (zI false), .int (zI dg)])), (t9, .inl (cy 0, 60, .inl tx))] := hD
      refine lv_aload_n hx hb dX6_mark_25 rfl (lv_at hl 0 rfl) ?_
      refine lv_dup hx hb dX6_mark_26 rfl ?_
      refine va_get (D := D) (ci := 10) (v := .int (nI he)) (C := RX6) (T := TX6) (N := 21) hx hb hts in_RX6 hown hK hP 0 rfl rfl 16 (by decide) (hts _ (List.mem_of_getElem? (i := 2) rfl)) (fun _ h9 => h9) rfl dX6_mark_27 ?_
      refine lv_aload_n hx hb dX6_mark_30 rfl (lv_at hl 0 rfl) ?_
      refine va_get (D := D) (ci := 10) (v := .int (zI false)) (C := RX6) (T := TX6) (N := 21) hx hb hts in_RX6 hown hK hP 0 rfl rfl 19 (by decide) (hts _ (List.mem_of_getElem? (i := 1) rfl)) (fun _ h9 => h9) rfl dX6_mark_31 ?_
      refine lv_if_eq (tgt := 41) hx hb dX6_mark_34 (by decide) (fun c_3 => ?_) (fun c_3 => ?_)
      · replace c_3 := zI0 c_3
        refine lv_iconst (v := 1) hx hb dX6_mark_41 (by decide) ?_
        refine lv_iadd hx hb dX6_mark_42 ?_
        refine z_top (y := nI (he + 1)) (nI_add he 1) ?_
        refine va_put (D := D) (ci := 10) (v := .int (nI (he + 1))) (ty := .int) (C := RX6) (T := TX6) (N := 21) hx hb hts in_RX6 tyX6 tyX6_ok nmX6 hown hK hP hD hS 0 rfl rfl 16 (by decide) (hts _ (List.mem_of_getElem? (i := 2) rfl)) (fun _ h9 => h9) rfl (by decide +kernel) rfl rfl (Nat.le_of_ble_eq_true rfl) dX6_mark_43 (fun H locs hP hD hS => ?_)
        have hP : va_P D vwCl [(x9, .inr (10, [.int th, .int (nI ch), .int era, .int why, .int det, .int cau, .int (zI sv), .int (zI rj), .ref v9, .ref b9, .ref s9, .ref k9, .ref p9, .ref t9, .ref n9, .int (nI tn), .int (nI (he + 1)), .int (nI en), .int (nI ln), .int (zI false), .int (zI dg)])), (t9, .inl (cy 0, 60, .inl tx))] H := hP
        have hD : va_D A [(x9, .inr (10, [.int th, .int (nI ch), .int era, .int why, .int det, .int cau, .int (zI sv), .int (zI rj), .ref v9, .ref b9, .ref s9, .ref k9, .ref p9, .ref t9, .ref n9, .int (nI tn), .int (nI (he + 1)), .int (nI en), .int (nI ln), .int (zI false), .int (zI dg)])), (t9, .inl (cy 0, 60, .inl tx))] := hD
        exact zvret hend hx hb hr hlk hK hP hD hS dX6_mark_46 (by first | (simp only [zmH, zmW, Nat.add_zero, c_1, c_2, c_3, decide_true, decide_false, Bool.not_true, Bool.not_false, Bool.and_true, Bool.true_and, Bool.and_false, Bool.false_and, Bool.or_false, Bool.false_or, Bool.or_true, Bool.true_or, ↓reduceIte, Bool.false_eq_true, not_true_eq_false, not_false_eq_true, and_self]; done) | (simp [zmH, zmW, Nat.add_zero, c_1, c_2, c_3]; done) | (simp_all [zmH, zmW, Nat.add_zero]; done))
      · replace c_3 := zI1 c_3
        exact absurd c_3 (by decide)
    · refine lv_iconst (v := 1) hx hb dX6_mark_17 (by decide) ?_
      refine lv_goto (tgt := 22) hx hb dX6_mark_18 (by decide) ?_
      refine z_top (y := zI true) rfl ?_
      refine va_put (D := D) (ci := 10) (v := .int (zI true)) (ty := .boolean) (C := RX6) (T := TX6) (N := 21) hx hb hts in_RX6 tyX6 tyX6_ok nmX6 hown hK hP hD hS 0 rfl rfl 19 (by decide) (hts _ (List.mem_of_getElem? (i := 1) rfl)) (fun _ h9 => h9) rfl (by decide +kernel) (zI_nar _) (zI_fit _) (Nat.le_of_ble_eq_true rfl) dX6_mark_22 (fun H locs hP hD hS => ?_)
      have hP : va_P D vwCl [(x9, .inr (10, [.int th, .int (nI ch), .int era, .int why, .int det, .int cau, .int (zI sv), .int (zI rj), .ref v9, .ref b9, .ref s9, .ref k9, .ref p9, .ref t9, .ref n9, .int (nI tn), .int (nI he), .int (nI en), .int (nI ln), .int (zI true), .int (zI dg)])), (t9, .inl (cy 0, 60, .inl tx))] H := hP
      have hD : va_D A [(x9, .inr (10, [.int th, .int (nI ch), .int era, .int why, .int det, .int cau, .int (zI sv), .int (zI rj), .ref v9, .ref b9, .ref s9, .ref k9, .ref p9, .ref t9, .ref n9, .int (nI tn), .int (nI he), .int (nI en), .int (nI ln), .int (zI true), .int (zI dg)])), (t9, .inl (cy 0, 60, .inl tx))] := hD
      refine lv_aload_n hx hb dX6_mark_25 rfl (lv_at hl 0 rfl) ?_
      refine lv_dup hx hb dX6_mark_26 rfl ?_
      refine va_get (D := D) (ci := 10) (v := .int (nI he)) (C := RX6) (T := TX6) (N := 21) hx hb hts in_RX6 hown hK hP 0 rfl rfl 16 (by decide) (hts _ (List.mem_of_getElem? (i := 2) rfl)) (fun _ h9 => h9) rfl dX6_mark_27 ?_
      refine lv_aload_n hx hb dX6_mark_30 rfl (lv_at hl 0 rfl) ?_
      refine va_get (D := D) (ci := 10) (v := .int (zI true)) (C := RX6) (T := TX6) (N := 21) hx hb hts in_RX6 hown hK hP 0 rfl rfl 19 (by decide) (hts _ (List.mem_of_getElem? (i := 1) rfl)) (fun _ h9 => h9) rfl dX6_mark_31 ?_
      refine lv_if_eq (tgt := 41) hx hb dX6_mark_34 (by decide) (fun c_4 => ?_) (fun c_4 => ?_)
      · replace c_4 := zI0 c_4
        exact absurd c_4 (by decide)
      · replace c_4 := zI1 c_4
        refine lv_iconst (v := 0) hx hb dX6_mark_37 (by decide) ?_
        refine lv_goto (tgt := 42) hx hb dX6_mark_38 (by decide) ?_
        refine lv_iadd hx hb dX6_mark_42 ?_
        refine z_top (y := nI (he + 0)) (nI_add he 0) ?_
        refine va_put (D := D) (ci := 10) (v := .int (nI (he + 0))) (ty := .int) (C := RX6) (T := TX6) (N := 21) hx hb hts in_RX6 tyX6 tyX6_ok nmX6 hown hK hP hD hS 0 rfl rfl 16 (by decide) (hts _ (List.mem_of_getElem? (i := 2) rfl)) (fun _ h9 => h9) rfl (by decide +kernel) rfl rfl (Nat.le_of_ble_eq_true rfl) dX6_mark_43 (fun H locs hP hD hS => ?_)
        have hP : va_P D vwCl [(x9, .inr (10, [.int th, .int (nI ch), .int era, .int why, .int det, .int cau, .int (zI sv), .int (zI rj), .ref v9, .ref b9, .ref s9, .ref k9, .ref p9, .ref t9, .ref n9, .int (nI tn), .int (nI (he + 0)), .int (nI en), .int (nI ln), .int (zI true), .int (zI dg)])), (t9, .inl (cy 0, 60, .inl tx))] H := hP
        have hD : va_D A [(x9, .inr (10, [.int th, .int (nI ch), .int era, .int why, .int det, .int cau, .int (zI sv), .int (zI rj), .ref v9, .ref b9, .ref s9, .ref k9, .ref p9, .ref t9, .ref n9, .int (nI tn), .int (nI (he + 0)), .int (nI en), .int (nI ln), .int (zI true), .int (zI dg)])), (t9, .inl (cy 0, 60, .inl tx))] := hD
        exact zvret hend hx hb hr hlk hK hP hD hS dX6_mark_46 (by first | (simp only [zmH, zmW, Nat.add_zero, c_1, c_2, c_4, decide_true, decide_false, Bool.not_true, Bool.not_false, Bool.and_true, Bool.true_and, Bool.and_false, Bool.false_and, Bool.or_false, Bool.false_or, Bool.or_true, Bool.true_or, ↓reduceIte, Bool.false_eq_true, not_true_eq_false, not_false_eq_true, and_self]; done) | (simp [zmH, zmW, Nat.add_zero, c_1, c_2, c_4]; done) | (simp_all [zmH, zmW, Nat.add_zero]; done))
  · replace c_1 := zI1 c_1
    exact zvret hend hx hb hr hlk hK hP hD hS dX6_mark_7 (by first | (simp only [zmH, zmW, Nat.add_zero, c_1, decide_true, decide_false, Bool.not_true, Bool.not_false, Bool.and_true, Bool.true_and, Bool.and_false, Bool.false_and, Bool.or_false, Bool.false_or, Bool.or_true, Bool.true_or, ↓reduceIte, Bool.false_eq_true, not_true_eq_false, not_false_eq_true, and_self]; done) | (simp [zmH, zmW, Nat.add_zero, c_1]; done) | (simp_all [zmH, zmW, Nat.add_zero]; done))

abbrev rmX6_digits : Room := { frames := 1, cells := 0, slots := 0, locals := 22 }
set_option maxHeartbeats 4000000 in
set_option maxRecDepth 100000 in
theorem c_X6_digits {G : zG} (hg : zGN G) (l : Launch) (D : va_G) (cy : Nat → ClassId) (x9 : Nat) (th : Int32) (ch : Nat) (era : Int32) (why : Int32) (det : Int32) (cau : Int32) (sv : Bool) (rj : Bool) (v9 : Nat) (b9 : Nat) (s9 : Nat) (k9 : Nat) (p9 : Nat) (t9 : Nat) (n9 : Nat) (tn : Nat) (he : Nat) (en : Nat) (ln : Nat) (dg : Bool) (tx : Nat → Int32) (N : Nat) (hhe : he ≤ 200) (hen : en ≤ 60) (hN2 : N ≤ 10) (hhe2 : he ≤ 100) : zM G D vwCl (zT cy) l yX6_digits wsX6_digits rmX6_digits [.ref x9, .int (nI N)] [(x9, .inr (10, [.int th, .int (nI ch), .int era, .int why, .int det, .int cau, .int (zI sv), .int (zI rj), .ref v9, .ref b9, .ref s9, .ref k9, .ref p9, .ref t9, .ref n9, .int (nI tn), .int (nI he), .int (nI en), .int (nI ln), .int (zI false), .int (zI dg)])), (t9, .inl (cy 0, 60, .inl tx))] (some (.int (zdV tx en N he 0))) [(x9, .inr (10, [.int th, .int (nI ch), .int era, .int why, .int det, .int cau, .int (zI sv), .int (zI rj), .ref v9, .ref b9, .ref s9, .ref k9, .ref p9, .ref t9, .ref n9, .int (nI tn), .int (nI (he + zdN tx en N he)), .int (nI en), .int (nI ln), .int (zI (decide (zdN tx en N he = 0))), .int (zI dg)])), (t9, .inl (cy 0, 60, .inl tx))] := by
  refine zM_of (cc := cX6_digits) (maxL := 4) (ret := (some .int)) (by decide) rfl (Nat.le_of_ble_eq_true rfl) ?_
  intro p e s m below meth c A Q hend hx hb hml hr hts hown hlk hG hK hP hD hA hS ls hl
  have hown : s.vm.findClass RX6 = some m.cls := hown
  have in_RX6 : ∀ w ∈ u_ws RX6 TX6 21, w ∈ wsX6_digits := by decide +kernel
  have hl : lv_has ls 4 [(0, .ref x9), (1, .int (nI N))] := hl
  refine lv_iconst (v := 0) hx hb dX6_digits_0 (by decide) ?_
  refine lv_istore_n (lv' := [(2, .int 0), (0, .ref x9), (1, .int (nI N))]) hx hb dX6_digits_1 rfl hl (by decide) rfl (fun ls hl => ?_)
  refine lv_iconst (v := 0) hx hb dX6_digits_2 (by decide) ?_
  refine lv_istore_n (lv' := [(3, .int 0), (2, .int 0), (0, .ref x9), (1, .int (nI N))]) hx hb dX6_digits_3 rfl hl (by decide) rfl (fun ls hl => ?_)
  have L4 : ∀ (F : Nat) (i : Nat) (a : Int32) (x4_0 : Int32), i ≤ N → zdN tx en N he = i + zdN tx en (N - i) (he + i) → zdV tx en N he 0 = zdV tx en (N - i) (he + i) a → N - i < F → x4_0 = nI (he + i) → ∀ (H : Heap) (locs : List Loc), va_P D vwCl [(x9, .inr (10, [.int th, .int (nI ch), .int era, .int why, .int det, .int cau, .int (zI sv), .int (zI rj), .ref v9, .ref b9, .ref s9, .ref k9, .ref p9, .ref t9, .ref n9, .int (nI tn), .int x4_0, .int (nI en), .int (nI ln), .int (zI false), .int (zI dg)])), (t9, .inl (cy 0, 60, .inl tx))] H → va_D A [(x9, .inr (10, [.int th, .int (nI ch), .int era, .int why, .int det, .int cau, .int (zI sv), .int (zI rj), .ref v9, .ref b9, .ref s9, .ref k9, .ref p9, .ref t9, .ref n9, .int (nI tn), .int x4_0, .int (nI en), .int (nI ln), .int (zI false), .int (zI dg)])), (t9, .inl (cy 0, 60, .inl tx))] → va_S A s.heap H locs → ∀ ls : Array Slot, lv_has ls 4 [(0, .ref x9), (1, .int (nI N)), (2, .int a), (3, .int (nI i))] → W p l e rmX6_digits s m ([.ref x9, .int (nI N)] : List Value).toArray below meth c H locs 0 0 Q (F0 m 4 ls []) := by
    intro F
    induction F with
    | zero =>
      intro i a x4_0 hi hN hV hF ex4_0 H locs hP hD hS ls hl
      exact absurd hF (Nat.not_lt_zero _)
    | succ F ih4 =>
      intro i a x4_0 hi hN hV hF ex4_0 H locs hP hD hS ls hl
      subst ex4_0
      refine lv_aload_n hx hb dX6_digits_4 rfl (lv_at hl 0 rfl) ?_
      refine va_get (D := D) (ci := 10) (v := .int (zI false)) (C := RX6) (T := TX6) (N := 21) hx hb hts in_RX6 hown hK hP 0 rfl rfl 19 (by decide) (hts _ (List.mem_of_getElem? (i := 1) rfl)) (fun _ h9 => h9) rfl dX6_digits_5 ?_
      refine lv_if_ne (tgt := 59) hx hb dX6_digits_8 (by decide) (fun c_1 => ?_) (fun c_1 => ?_)
      · replace c_1 := zI1 c_1
        exact absurd c_1 (by decide)
      · replace c_1 := zI0 c_1
        refine lv_iload_n hx hb dX6_digits_11 rfl (lv_at hl 3 rfl) ?_
        refine lv_iload_n hx hb dX6_digits_12 rfl (lv_at hl 1 rfl) ?_
        refine lv_icmp_ge (tgt := 59) hx hb dX6_digits_13 (by decide) (fun c_2 => ?_) (fun c_2 => ?_)
        · have hk2 : N ≤ i := (nI_leI (by omega) (by omega)).mp c_2
          obtain rfl : N = i := by omega
          have hd : zdN tx en N he = N := by rw [hN, Nat.sub_self]; rfl
          have hv : zdV tx en N he 0 = a := by rw [hV, Nat.sub_self]; rfl
          refine lv_aload_n hx hb dX6_digits_59 rfl (lv_at hl 0 rfl) ?_
          refine lv_dup hx hb dX6_digits_60 rfl ?_
          refine va_get (D := D) (ci := 10) (v := .int (zI false)) (C := RX6) (T := TX6) (N := 21) hx hb hts in_RX6 hown hK hP 0 rfl rfl 19 (by decide) (hts _ (List.mem_of_getElem? (i := 1) rfl)) (fun _ h9 => h9) rfl dX6_digits_61 ?_
          refine lv_iload_n hx hb dX6_digits_64 rfl (lv_at hl 3 rfl) ?_
          refine lv_if_ne (tgt := 72) hx hb dX6_digits_65 (by decide) (fun c_3 => ?_) (fun c_3 => ?_)
          · have hi0 : ¬ N = 0 := fun z => c_3 (by rw [z]; rfl)
            refine lv_iconst (v := 0) hx hb dX6_digits_72 (by decide) ?_
            refine lv_ior hx hb dX6_digits_73 ?_
            refine z_top (y := zI false) (rfl) ?_
            refine va_put (D := D) (ci := 10) (v := .int (zI false)) (ty := .boolean) (C := RX6) (T := TX6) (N := 21) hx hb hts in_RX6 tyX6 tyX6_ok nmX6 hown hK hP hD hS 0 rfl rfl 19 (by decide) (hts _ (List.mem_of_getElem? (i := 1) rfl)) (fun _ h9 => h9) rfl (by decide +kernel) (zI_nar _) (zI_fit _) (Nat.le_of_ble_eq_true rfl) dX6_digits_74 (fun H locs hP hD hS => ?_)
            have hP : va_P D vwCl [(x9, .inr (10, [.int th, .int (nI ch), .int era, .int why, .int det, .int cau, .int (zI sv), .int (zI rj), .ref v9, .ref b9, .ref s9, .ref k9, .ref p9, .ref t9, .ref n9, .int (nI tn), .int (nI (he + N)), .int (nI en), .int (nI ln), .int (zI false), .int (zI dg)])), (t9, .inl (cy 0, 60, .inl tx))] H := hP
            have hD : va_D A [(x9, .inr (10, [.int th, .int (nI ch), .int era, .int why, .int det, .int cau, .int (zI sv), .int (zI rj), .ref v9, .ref b9, .ref s9, .ref k9, .ref p9, .ref t9, .ref n9, .int (nI tn), .int (nI (he + N)), .int (nI en), .int (nI ln), .int (zI false), .int (zI dg)])), (t9, .inl (cy 0, 60, .inl tx))] := hD
            refine lv_iload_n hx hb dX6_digits_77 rfl (lv_at hl 2 rfl) ?_
            exact ziret hend hx hb hr hlk hK hP hD hS dX6_digits_78 hv.symm (by rw [hd]; simp only [hi0, decide_true, decide_false, ↓reduceIte]; try rfl)
          · have hi0 : N = 0 := (nI_eq (a := N) (b := 0) (by omega) (by omega)).mp c_3
            refine lv_iconst (v := 1) hx hb dX6_digits_68 (by decide) ?_
            refine lv_goto (tgt := 73) hx hb dX6_digits_69 (by decide) ?_
            refine lv_ior hx hb dX6_digits_73 ?_
            refine z_top (y := zI true) (rfl) ?_
            refine va_put (D := D) (ci := 10) (v := .int (zI true)) (ty := .boolean) (C := RX6) (T := TX6) (N := 21) hx hb hts in_RX6 tyX6 tyX6_ok nmX6 hown hK hP hD hS 0 rfl rfl 19 (by decide) (hts _ (List.mem_of_getElem? (i := 1) rfl)) (fun _ h9 => h9) rfl (by decide +kernel) (zI_nar _) (zI_fit _) (Nat.le_of_ble_eq_true rfl) dX6_digits_74 (fun H locs hP hD hS => ?_)
            have hP : va_P D vwCl [(x9, .inr (10, [.int th, .int (nI ch), .int era, .int why, .int det, .int cau, .int (zI sv), .int (zI rj), .ref v9, .ref b9, .ref s9, .ref k9, .ref p9, .ref t9, .ref n9, .int (nI tn), .int (nI (he + N)), .int (nI en), .int (nI ln), .int (zI true), .int (zI dg)])), (t9, .inl (cy 0, 60, .inl tx))] H := hP
            have hD : va_D A [(x9, .inr (10, [.int th, .int (nI ch), .int era, .int why, .int det, .int cau, .int (zI sv), .int (zI rj), .ref v9, .ref b9, .ref s9, .ref k9, .ref p9, .ref t9, .ref n9, .int (nI tn), .int (nI (he + N)), .int (nI en), .int (nI ln), .int (zI true), .int (zI dg)])), (t9, .inl (cy 0, 60, .inl tx))] := hD
            refine lv_iload_n hx hb dX6_digits_77 rfl (lv_at hl 2 rfl) ?_
            exact ziret hend hx hb hr hlk hK hP hD hS dX6_digits_78 hv.symm (by rw [hd]; simp only [hi0, decide_true, decide_false, ↓reduceIte]; try rfl)
        · have hk2 : i < N := Nat.lt_of_not_le (fun z => c_2 (nI_le z (by omega)))
          refine lv_aload_n hx hb dX6_digits_16 rfl (lv_at hl 0 rfl) ?_
          refine zcV (As := []) (rest := []) [0, 1] 0 hg.1 ⟨hx, hb, hml, hown, hts⟩ (c_X6_sign hg l D cy x9 th ch era why det cau sv rj v9 b9 s9 k9 p9 t9 n9 tn (he + i) en ln false dg tx (by first | assumption | omega) (by first | assumption | omega)) (cwV 0 hts gX6_digits_X6_sign rfl rfl rfl (by decide +kernel) ⟨Nat.le_of_ble_eq_true rfl, Nat.le_of_ble_eq_true rfl⟩) hG hK hP hD hS hA rfl rfl rfl rfl rfl rfl hl.1 rfl (Nat.le_of_ble_eq_true rfl) dX6_digits_17 ⟨Nat.zero_le _, Nat.zero_le _⟩ (fun H locs hP hD hS => ?_)
          have hP : va_P D vwCl [(x9, .inr (10, [.int th, .int (nI ch), .int era, .int why, .int det, .int cau, .int (zI sv), .int (zI rj), .ref v9, .ref b9, .ref s9, .ref k9, .ref p9, .ref t9, .ref n9, .int (nI tn), .int (nI (he + i)), .int (nI en), .int (nI ln), .int (zI false), .int (zI dg)])), (t9, .inl (cy 0, 60, .inl tx))] H := hP
          have hD : va_D A [(x9, .inr (10, [.int th, .int (nI ch), .int era, .int why, .int det, .int cau, .int (zI sv), .int (zI rj), .ref v9, .ref b9, .ref s9, .ref k9, .ref p9, .ref t9, .ref n9, .int (nI tn), .int (nI (he + i)), .int (nI en), .int (nI ln), .int (zI false), .int (zI dg)])), (t9, .inl (cy 0, 60, .inl tx))] := hD
          refine lv_bipush (v := 48) hx hb dX6_digits_20 (by decide) ?_
          refine lv_bipush (v := 57) hx hb dX6_digits_22 (by decide) ?_
          refine zcS (As := [.int (zqs tx en (he + i)), .int 48, .int 57]) (rest := []) [] hg.1 ⟨hx, hb, hml, hown, hts⟩ (c_X6_isIn hg l D cy (zqs tx en (he + i)) 48 57) (va_cwS 3 hts gX6_digits_X6_isIn rfl rfl rfl (by decide +kernel) ⟨Nat.le_of_ble_eq_true rfl, Nat.le_of_ble_eq_true rfl⟩) hG hK hP hD hS hA rfl rfl rfl  rfl hl.1 rfl (Nat.le_of_ble_eq_true rfl) dX6_digits_24 ⟨Nat.zero_le _, Nat.zero_le _⟩ (fun H locs hP hD hS => ?_)
          have hP : va_P D vwCl [(x9, .inr (10, [.int th, .int (nI ch), .int era, .int why, .int det, .int cau, .int (zI sv), .int (zI rj), .ref v9, .ref b9, .ref s9, .ref k9, .ref p9, .ref t9, .ref n9, .int (nI tn), .int (nI (he + i)), .int (nI en), .int (nI ln), .int (zI false), .int (zI dg)])), (t9, .inl (cy 0, 60, .inl tx))] H := hP
          have hD : va_D A [(x9, .inr (10, [.int th, .int (nI ch), .int era, .int why, .int det, .int cau, .int (zI sv), .int (zI rj), .ref v9, .ref b9, .ref s9, .ref k9, .ref p9, .ref t9, .ref n9, .int (nI tn), .int (nI (he + i)), .int (nI en), .int (nI ln), .int (zI false), .int (zI dg)])), (t9, .inl (cy 0, 60, .inl tx))] := hD
          refine lv_if_eq (tgt := 59) hx hb dX6_digits_27 (by decide) (fun c_4 => ?_) (fun c_4 => ?_)
          · replace c_4 := zI0 c_4
            have hnd : ¬ zic 48 57 (zqs tx en (he + i)) = true := by rw [c_4]; decide
            have hd : zdN tx en N he = i := by rw [hN, show N - i = (N - (i + 1)) + 1 by omega, zdN, if_neg hnd]; rfl
            have hv : zdV tx en N he 0 = a := by rw [hV, show N - i = (N - (i + 1)) + 1 by omega, zdV, if_neg hnd]
            refine lv_aload_n hx hb dX6_digits_59 rfl (lv_at hl 0 rfl) ?_
            refine lv_dup hx hb dX6_digits_60 rfl ?_
            refine va_get (D := D) (ci := 10) (v := .int (zI false)) (C := RX6) (T := TX6) (N := 21) hx hb hts in_RX6 hown hK hP 0 rfl rfl 19 (by decide) (hts _ (List.mem_of_getElem? (i := 1) rfl)) (fun _ h9 => h9) rfl dX6_digits_61 ?_
            refine lv_iload_n hx hb dX6_digits_64 rfl (lv_at hl 3 rfl) ?_
            refine lv_if_ne (tgt := 72) hx hb dX6_digits_65 (by decide) (fun c_5 => ?_) (fun c_5 => ?_)
            · have hi0 : ¬ i = 0 := fun z => c_5 (by rw [z]; rfl)
              refine lv_iconst (v := 0) hx hb dX6_digits_72 (by decide) ?_
              refine lv_ior hx hb dX6_digits_73 ?_
              refine z_top (y := zI false) (rfl) ?_
              refine va_put (D := D) (ci := 10) (v := .int (zI false)) (ty := .boolean) (C := RX6) (T := TX6) (N := 21) hx hb hts in_RX6 tyX6 tyX6_ok nmX6 hown hK hP hD hS 0 rfl rfl 19 (by decide) (hts _ (List.mem_of_getElem? (i := 1) rfl)) (fun _ h9 => h9) rfl (by decide +kernel) (zI_nar _) (zI_fit _) (Nat.le_of_ble_eq_true rfl) dX6_digits_74 (fun H locs hP hD hS => ?_)
              have hP : va_P D vwCl [(x9, .inr (10, [.int th, .int (nI ch), .int era, .int why, .int det, .int cau, .int (zI sv), .int (zI rj), .ref v9, .ref b9, .ref s9, .ref k9, .ref p9, .ref t9, .ref n9, .int (nI tn), .int (nI (he + i)), .int (nI en), .int (nI ln), .int (zI false), .int (zI dg)])), (t9, .inl (cy 0, 60, .inl tx))] H := hP
              have hD : va_D A [(x9, .inr (10, [.int th, .int (nI ch), .int era, .int why, .int det, .int cau, .int (zI sv), .int (zI rj), .ref v9, .ref b9, .ref s9, .ref k9, .ref p9, .ref t9, .ref n9, .int (nI tn), .int (nI (he + i)), .int (nI en), .int (nI ln), .int (zI false), .int (zI dg)])), (t9, .inl (cy 0, 60, .inl tx))] := hD
              refine lv_iload_n hx hb dX6_digits_77 rfl (lv_at hl 2 rfl) ?_
              exact ziret hend hx hb hr hlk hK hP hD hS dX6_digits_78 hv.symm (by rw [hd]; simp only [hi0, decide_true, decide_false, ↓reduceIte]; try rfl)
            · have hi0 : i = 0 := (nI_eq (a := i) (b := 0) (by omega) (by omega)).mp c_5
              refine lv_iconst (v := 1) hx hb dX6_digits_68 (by decide) ?_
              refine lv_goto (tgt := 73) hx hb dX6_digits_69 (by decide) ?_
              refine lv_ior hx hb dX6_digits_73 ?_
              refine z_top (y := zI true) (rfl) ?_
              refine va_put (D := D) (ci := 10) (v := .int (zI true)) (ty := .boolean) (C := RX6) (T := TX6) (N := 21) hx hb hts in_RX6 tyX6 tyX6_ok nmX6 hown hK hP hD hS 0 rfl rfl 19 (by decide) (hts _ (List.mem_of_getElem? (i := 1) rfl)) (fun _ h9 => h9) rfl (by decide +kernel) (zI_nar _) (zI_fit _) (Nat.le_of_ble_eq_true rfl) dX6_digits_74 (fun H locs hP hD hS => ?_)
              have hP : va_P D vwCl [(x9, .inr (10, [.int th, .int (nI ch), .int era, .int why, .int det, .int cau, .int (zI sv), .int (zI rj), .ref v9, .ref b9, .ref s9, .ref k9, .ref p9, .ref t9, .ref n9, .int (nI tn), .int (nI (he + i)), .int (nI en), .int (nI ln), .int (zI true), .int (zI dg)])), (t9, .inl (cy 0, 60, .inl tx))] H := hP
              have hD : va_D A [(x9, .inr (10, [.int th, .int (nI ch), .int era, .int why, .int det, .int cau, .int (zI sv), .int (zI rj), .ref v9, .ref b9, .ref s9, .ref k9, .ref p9, .ref t9, .ref n9, .int (nI tn), .int (nI (he + i)), .int (nI en), .int (nI ln), .int (zI true), .int (zI dg)])), (t9, .inl (cy 0, 60, .inl tx))] := hD
              refine lv_iload_n hx hb dX6_digits_77 rfl (lv_at hl 2 rfl) ?_
              exact ziret hend hx hb hr hlk hK hP hD hS dX6_digits_78 hv.symm (by rw [hd]; simp only [hi0, decide_true, decide_false, ↓reduceIte]; try rfl)
          · replace c_4 := zI1 c_4
            have hdg := c_4
            refine lv_bipush (v := 10) hx hb dX6_digits_30 (by decide) ?_
            refine lv_iload_n hx hb dX6_digits_32 rfl (lv_at hl 2 rfl) ?_
            refine lv_imul hx hb dX6_digits_33 ?_
            refine lv_aload_n hx hb dX6_digits_34 rfl (lv_at hl 0 rfl) ?_
            refine zcV (As := []) (rest := [.int (10 * a)]) [0, 1] 0 hg.1 ⟨hx, hb, hml, hown, hts⟩ (c_X6_sign hg l D cy x9 th ch era why det cau sv rj v9 b9 s9 k9 p9 t9 n9 tn (he + i) en ln false dg tx (by first | assumption | omega) (by first | assumption | omega)) (cwV 0 hts gX6_digits_X6_sign rfl rfl rfl (by decide +kernel) ⟨Nat.le_of_ble_eq_true rfl, Nat.le_of_ble_eq_true rfl⟩) hG hK hP hD hS hA rfl rfl rfl rfl rfl rfl hl.1 rfl (Nat.le_of_ble_eq_true rfl) dX6_digits_35 ⟨Nat.zero_le _, Nat.zero_le _⟩ (fun H locs hP hD hS => ?_)
            have hP : va_P D vwCl [(x9, .inr (10, [.int th, .int (nI ch), .int era, .int why, .int det, .int cau, .int (zI sv), .int (zI rj), .ref v9, .ref b9, .ref s9, .ref k9, .ref p9, .ref t9, .ref n9, .int (nI tn), .int (nI (he + i)), .int (nI en), .int (nI ln), .int (zI false), .int (zI dg)])), (t9, .inl (cy 0, 60, .inl tx))] H := hP
            have hD : va_D A [(x9, .inr (10, [.int th, .int (nI ch), .int era, .int why, .int det, .int cau, .int (zI sv), .int (zI rj), .ref v9, .ref b9, .ref s9, .ref k9, .ref p9, .ref t9, .ref n9, .int (nI tn), .int (nI (he + i)), .int (nI en), .int (nI ln), .int (zI false), .int (zI dg)])), (t9, .inl (cy 0, 60, .inl tx))] := hD
            refine lv_iadd hx hb dX6_digits_38 ?_
            refine lv_bipush (v := 48) hx hb dX6_digits_39 (by decide) ?_
            refine lv_isub hx hb dX6_digits_41 ?_
            refine lv_istore_n (lv' := [(2, .int (((10 * a) + (zqs tx en (he + i))) - 48)), (0, .ref x9), (1, .int (nI N)), (3, .int (nI i))]) hx hb dX6_digits_42 rfl hl (by decide) rfl (fun ls hl => ?_)
            refine lv_aload_n hx hb dX6_digits_43 rfl (lv_at hl 1 rfl) ?_
            refine lv_dup hx hb dX6_digits_44 rfl ?_
            refine va_get (D := D) (ci := 10) (v := .int (nI (he + i))) (C := RX6) (T := TX6) (N := 21) hx hb hts in_RX6 hown hK hP 0 rfl rfl 16 (by decide) (hts _ (List.mem_of_getElem? (i := 2) rfl)) (fun _ h9 => h9) rfl dX6_digits_45 ?_
            refine lv_iconst (v := 1) hx hb dX6_digits_48 (by decide) ?_
            refine lv_iadd hx hb dX6_digits_49 ?_
            refine z_top (y := nI ((he + i) + 1)) (nI_add (he + i) 1) ?_
            refine va_put (D := D) (ci := 10) (v := .int (nI ((he + i) + 1))) (ty := .int) (C := RX6) (T := TX6) (N := 21) hx hb hts in_RX6 tyX6 tyX6_ok nmX6 hown hK hP hD hS 0 rfl rfl 16 (by decide) (hts _ (List.mem_of_getElem? (i := 2) rfl)) (fun _ h9 => h9) rfl (by decide +kernel) rfl rfl (Nat.le_of_ble_eq_true rfl) dX6_digits_50 (fun H locs hP hD hS => ?_)
            have hP : va_P D vwCl [(x9, .inr (10, [.int th, .int (nI ch), .int era, .int why, .int det, .int cau, .int (zI sv), .int (zI rj), .ref v9, .ref b9, .ref s9, .ref k9, .ref p9, .ref t9, .ref n9, .int (nI tn), .int (nI ((he + i) + 1)), .int (nI en), .int (nI ln), .int (zI false), .int (zI dg)])), (t9, .inl (cy 0, 60, .inl tx))] H := hP
            have hD : va_D A [(x9, .inr (10, [.int th, .int (nI ch), .int era, .int why, .int det, .int cau, .int (zI sv), .int (zI rj), .ref v9, .ref b9, .ref s9, .ref k9, .ref p9, .ref t9, .ref n9, .int (nI tn), .int (nI ((he + i) + 1)), .int (nI en), .int (nI ln), .int (zI false), .int (zI dg)])), (t9, .inl (cy 0, 60, .inl tx))] := hD
            refine lv_iinc (v := nI (i + 1)) (lv' := [(3, .int (nI (i + 1))), (2, .int (((10 * a) + (zqs tx en (he + i))) - 48)), (0, .ref x9), (1, .int (nI N))]) hx hb dX6_digits_53 hl (k := 3) rfl (by rw [show Int32.ofInt 1 = nI 1 from rfl, nI_add]) (by decide) rfl (fun ls hl => ?_)
            refine lv_goto (tgt := 4) hx hb dX6_digits_56 (by decide) ?_
            exact ih4 (i + 1) (((10 * a) + (zqs tx en (he + i))) - 48) (nI ((he + i) + 1)) (by omega) (by rw [hN, show N - i = (N - (i + 1)) + 1 by omega, zdN, if_pos hdg]; first | rfl | omega | (rw [Nat.add_assoc he i 1]; first | rfl | omega)) (by rw [hV, show N - i = (N - (i + 1)) + 1 by omega, zdV, if_pos hdg]; first | rfl | omega | (rw [Nat.add_assoc he i 1]; first | rfl | omega)) (by omega) (by rfl) H locs hP hD hS ls (lv_sub hl [2, 3, 1, 0] rfl)
  exact L4 (N - 0 + 1) 0 0 (nI he) (by omega) (by simp) rfl (Nat.lt_succ_self _) (by rfl) s.heap [] hP hD hS ls (lv_sub hl [2, 3, 1, 0] rfl)

abbrev rmX6_behind : Room := { frames := 2, cells := 0, slots := 0, locals := 45 }
set_option maxHeartbeats 4000000 in
set_option maxRecDepth 100000 in
theorem c_X6_behind {G : zG} (hg : zGN G) (l : Launch) (D : va_G) (cy : Nat → ClassId) (x9 : Nat) (th : Int32) (ch : Nat) (era : Int32) (why : Int32) (det : Int32) (cau : Int32) (sv : Bool) (rj : Bool) (v9 : Nat) (b9 : Nat) (s9 : Nat) (k9 : Nat) (p9 : Nat) (t9 : Nat) (n9 : Nat) (tn : Nat) (he : Nat) (en : Nat) (ln : Nat) (iw : Bool) (dg : Bool) (tx : Nat → Int32) (xq : Int32) (hhe : he ≤ 200) (hen : en ≤ 60) (hhe2 : he ≤ 90) : zM G D vwCl (zT cy) l yX6_behind wsX6_behind rmX6_behind [.ref x9, .int xq] [(x9, .inr (10, [.int th, .int (nI ch), .int era, .int why, .int det, .int cau, .int (zI sv), .int (zI rj), .ref v9, .ref b9, .ref s9, .ref k9, .ref p9, .ref t9, .ref n9, .int (nI tn), .int (nI he), .int (nI en), .int (nI ln), .int (zI iw), .int (zI dg)])), (t9, .inl (cy 0, 60, .inl tx))] (some (.int (zbV tx en he iw xq))) [(x9, .inr (10, [.int th, .int (nI ch), .int era, .int why, .int det, .int cau, .int (zI sv), .int (zI rj), .ref v9, .ref b9, .ref s9, .ref k9, .ref p9, .ref t9, .ref n9, .int (nI tn), .int (nI (zbH tx en he iw xq)), .int (nI en), .int (nI ln), .int (zI (zbW tx en he iw xq)), .int (zI dg)])), (t9, .inl (cy 0, 60, .inl tx))] := by
  refine zM_of (cc := cX6_behind) (maxL := 2) (ret := (some .int)) (by decide) rfl (Nat.le_of_ble_eq_true rfl) ?_
  intro p e s m below meth c A Q hend hx hb hml hr hts hown hlk hG hK hP hD hA hS ls hl
  have hown : s.vm.findClass RX6 = some m.cls := hown
  have in_RX6 : ∀ w ∈ u_ws RX6 TX6 21, w ∈ wsX6_behind := by decide +kernel
  have hl : lv_has ls 2 [(0, .ref x9), (1, .int xq)] := hl
  refine lv_aload_n hx hb dX6_behind_0 rfl (lv_at hl 0 rfl) ?_
  refine lv_iload_n hx hb dX6_behind_1 rfl (lv_at hl 1 rfl) ?_
  refine zcV (As := [.int xq]) (rest := []) [0, 1] 0 hg.1 ⟨hx, hb, hml, hown, hts⟩ (c_X6_mark hg l D cy x9 th ch era why det cau sv rj v9 b9 s9 k9 p9 t9 n9 tn he en ln iw dg tx xq (by first | assumption | omega) (by first | assumption | omega)) (cwV 1 hts gX6_behind_X6_mark rfl rfl rfl (by decide +kernel) ⟨Nat.le_of_ble_eq_true rfl, Nat.le_of_ble_eq_true rfl⟩) hG hK hP hD hS hA rfl rfl (Eq.trans (b := [x9, t9]) rfl rfl) rfl rfl rfl hl.1 rfl (Nat.le_of_ble_eq_true rfl) dX6_behind_2 ⟨Nat.zero_le _, Nat.zero_le _⟩ (fun H locs hP hD hS => ?_)
  have hP : va_P D vwCl [(x9, .inr (10, [.int th, .int (nI ch), .int era, .int why, .int det, .int cau, .int (zI sv), .int (zI rj), .ref v9, .ref b9, .ref s9, .ref k9, .ref p9, .ref t9, .ref n9, .int (nI tn), .int (nI (zmH tx en he iw xq)), .int (nI en), .int (nI ln), .int (zI (zmW tx en he iw xq)), .int (zI dg)])), (t9, .inl (cy 0, 60, .inl tx))] H := hP
  have hD : va_D A [(x9, .inr (10, [.int th, .int (nI ch), .int era, .int why, .int det, .int cau, .int (zI sv), .int (zI rj), .ref v9, .ref b9, .ref s9, .ref k9, .ref p9, .ref t9, .ref n9, .int (nI tn), .int (nI (zmH tx en he iw xq)), .int (nI en), .int (nI ln), .int (zI (zmW tx en he iw xq)), .int (zI dg)])), (t9, .inl (cy 0, 60, .inl tx))] := hD
  refine lv_aload_n hx hb dX6_behind_5 rfl (lv_at hl 0 rfl) ?_
  refine va_get (D := D) (ci := 10) (v := .int (zI (zmW tx en he iw xq))) (C := RX6) (T := TX6) (N := 21) hx hb hts in_RX6 hown hK hP 0 rfl rfl 19 (by decide) (hts _ (List.mem_of_getElem? (i := 1) rfl)) (fun _ h9 => h9) rfl dX6_behind_6 ?_
  refine lv_if_eq (tgt := 16) hx hb dX6_behind_9 (by decide) (fun c_1 => ?_) (fun c_1 => ?_)
  · replace c_1 := zI0 c_1
    have er_2 : zmW tx en he iw xq = false := c_1
    rw [er_2] at hP hD
    have hm1 := zmH_le tx en he iw xq
    refine lv_aload_n hx hb dX6_behind_16 rfl (lv_at hl 0 rfl) ?_
    refine lv_iconst (v := 2) hx hb dX6_behind_17 (by decide) ?_
    refine z_top (y := nI 2) (rfl) ?_
    refine zcV (As := [.int (nI 2)]) (rest := []) [0, 1] 0 hg.1 ⟨hx, hb, hml, hown, hts⟩ (c_X6_digits hg l D cy x9 th ch era why det cau sv rj v9 b9 s9 k9 p9 t9 n9 tn (zmH tx en he iw xq) en ln dg tx 2 (by first | assumption | omega) (by first | assumption | omega) (by decide) (by first | assumption | omega)) (cwV 1 hts gX6_behind_X6_digits rfl rfl rfl (by decide +kernel) ⟨Nat.le_of_ble_eq_true rfl, Nat.le_of_ble_eq_true rfl⟩) hG hK hP hD hS hA rfl rfl (Eq.trans (b := [x9, t9]) rfl rfl) rfl rfl rfl hl.1 rfl (Nat.le_of_ble_eq_true rfl) dX6_behind_18 ⟨Nat.zero_le _, Nat.zero_le _⟩ (fun H locs hP hD hS => ?_)
    have hP : va_P D vwCl [(x9, .inr (10, [.int th, .int (nI ch), .int era, .int why, .int det, .int cau, .int (zI sv), .int (zI rj), .ref v9, .ref b9, .ref s9, .ref k9, .ref p9, .ref t9, .ref n9, .int (nI tn), .int (nI ((zmH tx en he iw xq) + zdN tx en 2 (zmH tx en he iw xq))), .int (nI en), .int (nI ln), .int (zI (decide (zdN tx en 2 (zmH tx en he iw xq) = 0))), .int (zI dg)])), (t9, .inl (cy 0, 60, .inl tx))] H := hP
    have hD : va_D A [(x9, .inr (10, [.int th, .int (nI ch), .int era, .int why, .int det, .int cau, .int (zI sv), .int (zI rj), .ref v9, .ref b9, .ref s9, .ref k9, .ref p9, .ref t9, .ref n9, .int (nI tn), .int (nI ((zmH tx en he iw xq) + zdN tx en 2 (zmH tx en he iw xq))), .int (nI en), .int (nI ln), .int (zI (decide (zdN tx en 2 (zmH tx en he iw xq) = 0))), .int (zI dg)])), (t9, .inl (cy 0, 60, .inl tx))] := hD
    exact ziret hend hx hb hr hlk hK hP hD hS dX6_behind_21 (by first | (simp only [zbV, c_1, decide_true, decide_false, Bool.not_true, Bool.not_false, Bool.and_true, Bool.true_and, Bool.and_false, Bool.false_and, Bool.or_false, Bool.false_or, Bool.or_true, Bool.true_or, ↓reduceIte, Bool.false_eq_true, not_true_eq_false, not_false_eq_true, and_self]; done) | (simp [zbV, c_1]; done) | (simp_all [zbV]; done)) (by first | (simp only [zbH, zbW, Bool.false_or, Bool.true_or, c_1, decide_true, decide_false, Bool.not_true, Bool.not_false, Bool.and_true, Bool.true_and, Bool.and_false, Bool.false_and, Bool.or_false, Bool.false_or, Bool.or_true, Bool.true_or, ↓reduceIte, Bool.false_eq_true, not_true_eq_false, not_false_eq_true, and_self]; done) | (simp [zbH, zbW, Bool.false_or, Bool.true_or, c_1]; done) | (simp_all [zbH, zbW, Bool.false_or, Bool.true_or]; done))
  · replace c_1 := zI1 c_1
    refine lv_iconst (v := 0) hx hb dX6_behind_12 (by decide) ?_
    refine lv_goto (tgt := 21) hx hb dX6_behind_13 (by decide) ?_
    exact ziret hend hx hb hr hlk hK hP hD hS dX6_behind_21 (by first | (simp only [zbV, c_1, decide_true, decide_false, Bool.not_true, Bool.not_false, Bool.and_true, Bool.true_and, Bool.and_false, Bool.false_and, Bool.or_false, Bool.false_or, Bool.or_true, Bool.true_or, ↓reduceIte, Bool.false_eq_true, not_true_eq_false, not_false_eq_true, and_self]; done) | (simp [zbV, c_1]; done) | (simp_all [zbV]; done)) (by first | (simp only [zbH, zbW, Bool.false_or, Bool.true_or, c_1, decide_true, decide_false, Bool.not_true, Bool.not_false, Bool.and_true, Bool.true_and, Bool.and_false, Bool.false_and, Bool.or_false, Bool.false_or, Bool.or_true, Bool.true_or, ↓reduceIte, Bool.false_eq_true, not_true_eq_false, not_false_eq_true, and_self]; done) | (simp [zbH, zbW, Bool.false_or, Bool.true_or, c_1]; done) | (simp_all [zbH, zbW, Bool.false_or, Bool.true_or]; done))

abbrev rmX6_mask : Room := { frames := 1, cells := 0, slots := 0, locals := 20 }
set_option maxHeartbeats 4000000 in
set_option maxRecDepth 100000 in
theorem c_X6_mask {G : zG} (hg : zGN G) (l : Launch) (D : va_G) (cy : Nat → ClassId) (x9 : Nat) (th : Int32) (ch : Nat) (era : Int32) (why : Int32) (det : Int32) (cau : Int32) (sv : Bool) (rj : Bool) (v9 : Nat) (b9 : Nat) (s9 : Nat) (k9 : Nat) (p9 : Nat) (t9 : Nat) (n9 : Nat) (tn : Nat) (he : Nat) (en : Nat) (ln : Nat) (dg : Bool) (tx : Nat → Int32) (hhe : he ≤ 200) (hen : en ≤ 60) (hhe2 : he ≤ 100) : zM G D vwCl (zT cy) l yX6_mask wsX6_mask rmX6_mask [.ref x9] [(x9, .inr (10, [.int th, .int (nI ch), .int era, .int why, .int det, .int cau, .int (zI sv), .int (zI rj), .ref v9, .ref b9, .ref s9, .ref k9, .ref p9, .ref t9, .ref n9, .int (nI tn), .int (nI he), .int (nI en), .int (nI ln), .int (zI false), .int (zI dg)])), (t9, .inl (cy 0, 60, .inl tx))] (some (.int (zkM tx en 8 he 0 0))) [(x9, .inr (10, [.int th, .int (nI ch), .int era, .int why, .int det, .int cau, .int (zI sv), .int (zI rj), .ref v9, .ref b9, .ref s9, .ref k9, .ref p9, .ref t9, .ref n9, .int (nI tn), .int (nI (he + zkN tx en 8 he)), .int (nI en), .int (nI ln), .int (zI (decide (¬ zkN tx en 8 he = 8))), .int (zI dg)])), (t9, .inl (cy 0, 60, .inl tx))] := by
  refine zM_of (cc := cX6_mask) (maxL := 4) (ret := (some .int)) (by decide) rfl (Nat.le_of_ble_eq_true rfl) ?_
  intro p e s m below meth c A Q hend hx hb hml hr hts hown hlk hG hK hP hD hA hS ls hl
  have hown : s.vm.findClass RX6 = some m.cls := hown
  have in_RX6 : ∀ w ∈ u_ws RX6 TX6 21, w ∈ wsX6_mask := by decide +kernel
  have hl : lv_has ls 4 [(0, .ref x9)] := hl
  refine lv_iconst (v := 0) hx hb dX6_mask_0 (by decide) ?_
  refine lv_istore_n (lv' := [(1, .int 0), (0, .ref x9)]) hx hb dX6_mask_1 rfl hl (by decide) rfl (fun ls hl => ?_)
  refine lv_iconst (v := 0) hx hb dX6_mask_2 (by decide) ?_
  refine lv_istore_n (lv' := [(2, .int 0), (1, .int 0), (0, .ref x9)]) hx hb dX6_mask_3 rfl hl (by decide) rfl (fun ls hl => ?_)
  have L4 : ∀ (F : Nat) (i : Nat) (a : Int32) (x4_0 : Int32), i ≤ 8 → zkN tx en 8 he = i + zkN tx en (8 - i) (he + i) → zkM tx en 8 he 0 0 = zkM tx en (8 - i) (he + i) i a → 8 - i < F → x4_0 = nI (he + i) → ∀ (H : Heap) (locs : List Loc), va_P D vwCl [(x9, .inr (10, [.int th, .int (nI ch), .int era, .int why, .int det, .int cau, .int (zI sv), .int (zI rj), .ref v9, .ref b9, .ref s9, .ref k9, .ref p9, .ref t9, .ref n9, .int (nI tn), .int x4_0, .int (nI en), .int (nI ln), .int (zI false), .int (zI dg)])), (t9, .inl (cy 0, 60, .inl tx))] H → va_D A [(x9, .inr (10, [.int th, .int (nI ch), .int era, .int why, .int det, .int cau, .int (zI sv), .int (zI rj), .ref v9, .ref b9, .ref s9, .ref k9, .ref p9, .ref t9, .ref n9, .int (nI tn), .int x4_0, .int (nI en), .int (nI ln), .int (zI false), .int (zI dg)])), (t9, .inl (cy 0, 60, .inl tx))] → va_S A s.heap H locs → ∀ ls : Array Slot, lv_has ls 4 [(0, .ref x9), (1, .int a), (2, .int (nI i))] → W p l e rmX6_mask s m ([.ref x9] : List Value).toArray below meth c H locs 0 0 Q (F0 m 4 ls []) := by
    intro F
    induction F with
    | zero =>
      intro i a x4_0 hi hN hV hF ex4_0 H locs hP hD hS ls hl
      exact absurd hF (Nat.not_lt_zero _)
    | succ F ih4 =>
      intro i a x4_0 hi hN hV hF ex4_0 H locs hP hD hS ls hl
      subst ex4_0
      refine lv_iload_n hx hb dX6_mask_4 rfl (lv_at hl 2 rfl) ?_
      refine lv_bipush (v := 8) hx hb dX6_mask_5 (by decide) ?_
      refine lv_icmp_ge (tgt := 86) hx hb dX6_mask_7 (by decide) (fun c_1 => ?_) (fun c_1 => ?_)
      · have hk2 : 8 ≤ i := (nI_leI (by omega) (by omega)).mp c_1
        obtain rfl : 8 = i := by omega
        have hd : zkN tx en 8 he = 8 := by rw [hN, Nat.sub_self]; rfl
        have hv : zkM tx en 8 he 0 0 = a := by rw [hV, Nat.sub_self]; rfl
        have hi8 : 8 = 8 := rfl
        refine lv_iload_n hx hb dX6_mask_86 rfl (lv_at hl 1 rfl) ?_
        exact ziret hend hx hb hr hlk hK hP hD hS dX6_mask_87 hv.symm (by rw [hd]; simp only [hi8, Nat.add_zero, not_true_eq_false, not_false_eq_true, decide_true, decide_false, ↓reduceIte]; try rfl)
      · have hk2 : i < 8 := Nat.lt_of_not_le (fun z => c_1 (nI_le z (by omega)))
        refine lv_aload_n hx hb dX6_mask_10 rfl (lv_at hl 0 rfl) ?_
        refine va_get (D := D) (ci := 10) (v := .int (zI false)) (C := RX6) (T := TX6) (N := 21) hx hb hts in_RX6 hown hK hP 0 rfl rfl 19 (by decide) (hts _ (List.mem_of_getElem? (i := 1) rfl)) (fun _ h9 => h9) rfl dX6_mask_11 ?_
        refine lv_if_ne (tgt := 86) hx hb dX6_mask_14 (by decide) (fun c_2 => ?_) (fun c_2 => ?_)
        · replace c_2 := zI1 c_2
          exact absurd c_2 (by decide)
        · replace c_2 := zI0 c_2
          refine lv_aload_n hx hb dX6_mask_17 rfl (lv_at hl 0 rfl) ?_
          refine zcV (As := []) (rest := []) [0, 1] 0 hg.1 ⟨hx, hb, hml, hown, hts⟩ (c_X6_sign hg l D cy x9 th ch era why det cau sv rj v9 b9 s9 k9 p9 t9 n9 tn (he + i) en ln false dg tx (by first | assumption | omega) (by first | assumption | omega)) (cwV 0 hts gX6_mask_X6_sign rfl rfl rfl (by decide +kernel) ⟨Nat.le_of_ble_eq_true rfl, Nat.le_of_ble_eq_true rfl⟩) hG hK hP hD hS hA rfl rfl rfl rfl rfl rfl hl.1 rfl (Nat.le_of_ble_eq_true rfl) dX6_mask_18 ⟨Nat.zero_le _, Nat.zero_le _⟩ (fun H locs hP hD hS => ?_)
          have hP : va_P D vwCl [(x9, .inr (10, [.int th, .int (nI ch), .int era, .int why, .int det, .int cau, .int (zI sv), .int (zI rj), .ref v9, .ref b9, .ref s9, .ref k9, .ref p9, .ref t9, .ref n9, .int (nI tn), .int (nI (he + i)), .int (nI en), .int (nI ln), .int (zI false), .int (zI dg)])), (t9, .inl (cy 0, 60, .inl tx))] H := hP
          have hD : va_D A [(x9, .inr (10, [.int th, .int (nI ch), .int era, .int why, .int det, .int cau, .int (zI sv), .int (zI rj), .ref v9, .ref b9, .ref s9, .ref k9, .ref p9, .ref t9, .ref n9, .int (nI tn), .int (nI (he + i)), .int (nI en), .int (nI ln), .int (zI false), .int (zI dg)])), (t9, .inl (cy 0, 60, .inl tx))] := hD
          refine lv_istore_n (lv' := [(3, .int (zqs tx en (he + i))), (0, .ref x9), (1, .int a), (2, .int (nI i))]) hx hb dX6_mask_21 rfl hl (by decide) rfl (fun ls hl => ?_)
          refine lv_iload_n hx hb dX6_mask_22 rfl (lv_at hl 2 rfl) ?_
          refine lv_iload_n hx hb dX6_mask_23 rfl (lv_at hl 0 rfl) ?_
          refine lv_bipush (v := 49) hx hb dX6_mask_24 (by decide) ?_
          refine lv_icmp_ne (tgt := 35) hx hb dX6_mask_26 (by decide) (fun c_3 => ?_) (fun c_3 => ?_)
          · have h49 := c_3
            have hbt : (if zqs tx en (he + i) = 49 then (1 : Int32) <<< (nI i &&& 31) else 0) = 0 := if_neg c_3
            refine lv_iconst (v := 0) hx hb dX6_mask_35 (by decide) ?_
            refine lv_ior hx hb dX6_mask_36 ?_
            refine lv_istore_n (lv' := [(1, .int (a ||| 0)), (3, .int (zqs tx en (he + i))), (0, .ref x9), (2, .int (nI i))]) hx hb dX6_mask_37 rfl hl (by decide) rfl (fun ls hl => ?_)
            refine lv_aload_n hx hb dX6_mask_38 rfl (lv_at hl 2 rfl) ?_
            refine lv_iload_n hx hb dX6_mask_39 rfl (lv_at hl 1 rfl) ?_
            refine lv_bipush (v := 48) hx hb dX6_mask_40 (by decide) ?_
            refine lv_icmp_eq (tgt := 55) hx hb dX6_mask_42 (by decide) (fun c_4 => ?_) (fun c_4 => ?_)
            · have hdg : zqs tx en (he + i) = 48 ∨ zqs tx en (he + i) = 49 := Or.inl c_4
              refine lv_iconst (v := 0) hx hb dX6_mask_55 (by decide) ?_
              refine z_top (y := zI false) rfl ?_
              refine va_put (D := D) (ci := 10) (v := .int (zI false)) (ty := .boolean) (C := RX6) (T := TX6) (N := 21) hx hb hts in_RX6 tyX6 tyX6_ok nmX6 hown hK hP hD hS 0 rfl rfl 19 (by decide) (hts _ (List.mem_of_getElem? (i := 1) rfl)) (fun _ h9 => h9) rfl (by decide +kernel) (zI_nar _) (zI_fit _) (Nat.le_of_ble_eq_true rfl) dX6_mask_56 (fun H locs hP hD hS => ?_)
              have hP : va_P D vwCl [(x9, .inr (10, [.int th, .int (nI ch), .int era, .int why, .int det, .int cau, .int (zI sv), .int (zI rj), .ref v9, .ref b9, .ref s9, .ref k9, .ref p9, .ref t9, .ref n9, .int (nI tn), .int (nI (he + i)), .int (nI en), .int (nI ln), .int (zI false), .int (zI dg)])), (t9, .inl (cy 0, 60, .inl tx))] H := hP
              have hD : va_D A [(x9, .inr (10, [.int th, .int (nI ch), .int era, .int why, .int det, .int cau, .int (zI sv), .int (zI rj), .ref v9, .ref b9, .ref s9, .ref k9, .ref p9, .ref t9, .ref n9, .int (nI tn), .int (nI (he + i)), .int (nI en), .int (nI ln), .int (zI false), .int (zI dg)])), (t9, .inl (cy 0, 60, .inl tx))] := hD
              refine lv_aload_n hx hb dX6_mask_59 rfl (lv_at hl 2 rfl) ?_
              refine lv_dup hx hb dX6_mask_60 rfl ?_
              refine va_get (D := D) (ci := 10) (v := .int (nI (he + i))) (C := RX6) (T := TX6) (N := 21) hx hb hts in_RX6 hown hK hP 0 rfl rfl 16 (by decide) (hts _ (List.mem_of_getElem? (i := 2) rfl)) (fun _ h9 => h9) rfl dX6_mask_61 ?_
              refine lv_aload_n hx hb dX6_mask_64 rfl (lv_at hl 2 rfl) ?_
              refine va_get (D := D) (ci := 10) (v := .int (zI false)) (C := RX6) (T := TX6) (N := 21) hx hb hts in_RX6 hown hK hP 0 rfl rfl 19 (by decide) (hts _ (List.mem_of_getElem? (i := 1) rfl)) (fun _ h9 => h9) rfl dX6_mask_65 ?_
              refine lv_if_eq (tgt := 75) hx hb dX6_mask_68 (by decide) (fun c_5 => ?_) (fun c_5 => ?_)
              · replace c_5 := zI0 c_5
                refine lv_iconst (v := 1) hx hb dX6_mask_75 (by decide) ?_
                refine lv_iadd hx hb dX6_mask_76 ?_
                refine z_top (y := nI ((he + i) + 1)) (nI_add (he + i) 1) ?_
                refine va_put (D := D) (ci := 10) (v := .int (nI ((he + i) + 1))) (ty := .int) (C := RX6) (T := TX6) (N := 21) hx hb hts in_RX6 tyX6 tyX6_ok nmX6 hown hK hP hD hS 0 rfl rfl 16 (by decide) (hts _ (List.mem_of_getElem? (i := 2) rfl)) (fun _ h9 => h9) rfl (by decide +kernel) rfl rfl (Nat.le_of_ble_eq_true rfl) dX6_mask_77 (fun H locs hP hD hS => ?_)
                have hP : va_P D vwCl [(x9, .inr (10, [.int th, .int (nI ch), .int era, .int why, .int det, .int cau, .int (zI sv), .int (zI rj), .ref v9, .ref b9, .ref s9, .ref k9, .ref p9, .ref t9, .ref n9, .int (nI tn), .int (nI ((he + i) + 1)), .int (nI en), .int (nI ln), .int (zI false), .int (zI dg)])), (t9, .inl (cy 0, 60, .inl tx))] H := hP
                have hD : va_D A [(x9, .inr (10, [.int th, .int (nI ch), .int era, .int why, .int det, .int cau, .int (zI sv), .int (zI rj), .ref v9, .ref b9, .ref s9, .ref k9, .ref p9, .ref t9, .ref n9, .int (nI tn), .int (nI ((he + i) + 1)), .int (nI en), .int (nI ln), .int (zI false), .int (zI dg)])), (t9, .inl (cy 0, 60, .inl tx))] := hD
                refine lv_iinc (v := nI (i + 1)) (lv' := [(2, .int (nI (i + 1))), (1, .int (a ||| 0)), (3, .int (zqs tx en (he + i))), (0, .ref x9)]) hx hb dX6_mask_80 hl (k := 3) rfl (by rw [show Int32.ofInt 1 = nI 1 from rfl, nI_add]) (by decide) rfl (fun ls hl => ?_)
                refine lv_goto (tgt := 4) hx hb dX6_mask_83 (by decide) ?_
                exact ih4 (i + 1) (a ||| 0) (nI ((he + i) + 1)) (by omega) (by rw [hN, show 8 - i = (8 - (i + 1)) + 1 by omega, zkN, if_pos hdg]; first | rfl | omega | (rw [Nat.add_assoc he i 1]; first | rfl | omega)) (by rw [hV, show 8 - i = (8 - (i + 1)) + 1 by omega, zkM, if_pos hdg, hbt, Nat.add_assoc he i 1]) (by omega) (by rfl) H locs hP hD hS ls (lv_sub hl [3, 1, 0] rfl)
              · replace c_5 := zI1 c_5
                exact absurd c_5 (by decide)
            · refine lv_iload_n hx hb dX6_mask_45 rfl (lv_at hl 1 rfl) ?_
              refine lv_bipush (v := 49) hx hb dX6_mask_46 (by decide) ?_
              refine lv_icmp_eq (tgt := 55) hx hb dX6_mask_48 (by decide) (fun c_6 => ?_) (fun c_6 => ?_)
              · exact absurd c_6 h49
              · have hnd : ¬ (zqs tx en (he + i) = 48 ∨ zqs tx en (he + i) = 49) := fun z => z.elim (by assumption) (by assumption)
                have hd : zkN tx en 8 he = i := by rw [hN, show 8 - i = (8 - (i + 1)) + 1 by omega, zkN, if_neg hnd]; rfl
                have hv : zkM tx en 8 he 0 0 = a ||| 0 := by rw [hV, show 8 - i = (8 - (i + 1)) + 1 by omega, zkM, if_neg hnd, Int32.or_zero]
                have hi8 : ¬ i = 8 := by omega
                refine lv_iconst (v := 1) hx hb dX6_mask_51 (by decide) ?_
                refine lv_goto (tgt := 56) hx hb dX6_mask_52 (by decide) ?_
                refine z_top (y := zI true) rfl ?_
                refine va_put (D := D) (ci := 10) (v := .int (zI true)) (ty := .boolean) (C := RX6) (T := TX6) (N := 21) hx hb hts in_RX6 tyX6 tyX6_ok nmX6 hown hK hP hD hS 0 rfl rfl 19 (by decide) (hts _ (List.mem_of_getElem? (i := 1) rfl)) (fun _ h9 => h9) rfl (by decide +kernel) (zI_nar _) (zI_fit _) (Nat.le_of_ble_eq_true rfl) dX6_mask_56 (fun H locs hP hD hS => ?_)
                have hP : va_P D vwCl [(x9, .inr (10, [.int th, .int (nI ch), .int era, .int why, .int det, .int cau, .int (zI sv), .int (zI rj), .ref v9, .ref b9, .ref s9, .ref k9, .ref p9, .ref t9, .ref n9, .int (nI tn), .int (nI (he + i)), .int (nI en), .int (nI ln), .int (zI true), .int (zI dg)])), (t9, .inl (cy 0, 60, .inl tx))] H := hP
                have hD : va_D A [(x9, .inr (10, [.int th, .int (nI ch), .int era, .int why, .int det, .int cau, .int (zI sv), .int (zI rj), .ref v9, .ref b9, .ref s9, .ref k9, .ref p9, .ref t9, .ref n9, .int (nI tn), .int (nI (he + i)), .int (nI en), .int (nI ln), .int (zI true), .int (zI dg)])), (t9, .inl (cy 0, 60, .inl tx))] := hD
                refine lv_aload_n hx hb dX6_mask_59 rfl (lv_at hl 2 rfl) ?_
                refine lv_dup hx hb dX6_mask_60 rfl ?_
                refine va_get (D := D) (ci := 10) (v := .int (nI (he + i))) (C := RX6) (T := TX6) (N := 21) hx hb hts in_RX6 hown hK hP 0 rfl rfl 16 (by decide) (hts _ (List.mem_of_getElem? (i := 2) rfl)) (fun _ h9 => h9) rfl dX6_mask_61 ?_
                refine lv_aload_n hx hb dX6_mask_64 rfl (lv_at hl 2 rfl) ?_
                refine va_get (D := D) (ci := 10) (v := .int (zI true)) (C := RX6) (T := TX6) (N := 21) hx hb hts in_RX6 hown hK hP 0 rfl rfl 19 (by decide) (hts _ (List.mem_of_getElem? (i := 1) rfl)) (fun _ h9 => h9) rfl dX6_mask_65 ?_
                refine lv_if_eq (tgt := 75) hx hb dX6_mask_68 (by decide) (fun c_7 => ?_) (fun c_7 => ?_)
                · replace c_7 := zI0 c_7
                  exact absurd c_7 (by decide)
                · replace c_7 := zI1 c_7
                  refine lv_iconst (v := 0) hx hb dX6_mask_71 (by decide) ?_
                  refine lv_goto (tgt := 76) hx hb dX6_mask_72 (by decide) ?_
                  refine lv_iadd hx hb dX6_mask_76 ?_
                  refine z_top (y := nI ((he + i) + 0)) (nI_add (he + i) 0) ?_
                  refine va_put (D := D) (ci := 10) (v := .int (nI ((he + i) + 0))) (ty := .int) (C := RX6) (T := TX6) (N := 21) hx hb hts in_RX6 tyX6 tyX6_ok nmX6 hown hK hP hD hS 0 rfl rfl 16 (by decide) (hts _ (List.mem_of_getElem? (i := 2) rfl)) (fun _ h9 => h9) rfl (by decide +kernel) rfl rfl (Nat.le_of_ble_eq_true rfl) dX6_mask_77 (fun H locs hP hD hS => ?_)
                  have hP : va_P D vwCl [(x9, .inr (10, [.int th, .int (nI ch), .int era, .int why, .int det, .int cau, .int (zI sv), .int (zI rj), .ref v9, .ref b9, .ref s9, .ref k9, .ref p9, .ref t9, .ref n9, .int (nI tn), .int (nI ((he + i) + 0)), .int (nI en), .int (nI ln), .int (zI true), .int (zI dg)])), (t9, .inl (cy 0, 60, .inl tx))] H := hP
                  have hD : va_D A [(x9, .inr (10, [.int th, .int (nI ch), .int era, .int why, .int det, .int cau, .int (zI sv), .int (zI rj), .ref v9, .ref b9, .ref s9, .ref k9, .ref p9, .ref t9, .ref n9, .int (nI tn), .int (nI ((he + i) + 0)), .int (nI en), .int (nI ln), .int (zI true), .int (zI dg)])), (t9, .inl (cy 0, 60, .inl tx))] := hD
                  refine lv_iinc (v := nI (i + 1)) (lv' := [(2, .int (nI (i + 1))), (1, .int (a ||| 0)), (3, .int (zqs tx en (he + i))), (0, .ref x9)]) hx hb dX6_mask_80 hl (k := 3) rfl (by rw [show Int32.ofInt 1 = nI 1 from rfl, nI_add]) (by decide) rfl (fun ls hl => ?_)
                  refine lv_goto (tgt := 4) hx hb dX6_mask_83 (by decide) ?_
                  refine lv_iload_n hx hb dX6_mask_4 rfl (lv_at hl 0 rfl) ?_
                  refine lv_bipush (v := 8) hx hb dX6_mask_5 (by decide) ?_
                  refine lv_icmp_ge (tgt := 86) hx hb dX6_mask_7 (by decide) (fun c_8 => ?_) (fun c_8 => ?_)
                  · refine lv_iload_n hx hb dX6_mask_86 rfl (lv_at hl 1 rfl) ?_
                    exact ziret hend hx hb hr hlk hK hP hD hS dX6_mask_87 hv.symm (by rw [hd]; simp only [hi8, Nat.add_zero, not_true_eq_false, not_false_eq_true, decide_true, decide_false, ↓reduceIte]; try rfl)
                  · refine lv_aload_n hx hb dX6_mask_10 rfl (lv_at hl 3 rfl) ?_
                    refine va_get (D := D) (ci := 10) (v := .int (zI true)) (C := RX6) (T := TX6) (N := 21) hx hb hts in_RX6 hown hK hP 0 rfl rfl 19 (by decide) (hts _ (List.mem_of_getElem? (i := 1) rfl)) (fun _ h9 => h9) rfl dX6_mask_11 ?_
                    refine lv_if_ne (tgt := 86) hx hb dX6_mask_14 (by decide) (fun c_9 => ?_) (fun c_9 => ?_)
                    · replace c_9 := zI1 c_9
                      refine lv_iload_n hx hb dX6_mask_86 rfl (lv_at hl 1 rfl) ?_
                      exact ziret hend hx hb hr hlk hK hP hD hS dX6_mask_87 hv.symm (by rw [hd]; simp only [hi8, Nat.add_zero, not_true_eq_false, not_false_eq_true, decide_true, decide_false, ↓reduceIte]; try rfl)
                    · replace c_9 := zI0 c_9
                      exact absurd c_9 (by decide)
          · have h49 := c_3
            have hdg : zqs tx en (he + i) = 48 ∨ zqs tx en (he + i) = 49 := Or.inr c_3
            have hbt : (if zqs tx en (he + i) = 49 then (1 : Int32) <<< (nI i &&& 31) else 0) = 1 <<< (nI i &&& 31) := if_pos c_3
            refine lv_iconst (v := 1) hx hb dX6_mask_29 (by decide) ?_
            refine lv_iload_n hx hb dX6_mask_30 rfl (lv_at hl 3 rfl) ?_
            refine lv_ishl hx hb dX6_mask_31 ?_
            refine lv_goto (tgt := 36) hx hb dX6_mask_32 (by decide) ?_
            refine lv_ior hx hb dX6_mask_36 ?_
            refine lv_istore_n (lv' := [(1, .int (a ||| (1 <<< ((nI i) &&& 31)))), (3, .int (zqs tx en (he + i))), (0, .ref x9), (2, .int (nI i))]) hx hb dX6_mask_37 rfl hl (by decide) rfl (fun ls hl => ?_)
            refine lv_aload_n hx hb dX6_mask_38 rfl (lv_at hl 2 rfl) ?_
            refine lv_iload_n hx hb dX6_mask_39 rfl (lv_at hl 1 rfl) ?_
            refine lv_bipush (v := 48) hx hb dX6_mask_40 (by decide) ?_
            refine lv_icmp_eq (tgt := 55) hx hb dX6_mask_42 (by decide) (fun c_10 => ?_) (fun c_10 => ?_)
            · have hdg : zqs tx en (he + i) = 48 ∨ zqs tx en (he + i) = 49 := Or.inl c_10
              refine lv_iconst (v := 0) hx hb dX6_mask_55 (by decide) ?_
              refine z_top (y := zI false) rfl ?_
              refine va_put (D := D) (ci := 10) (v := .int (zI false)) (ty := .boolean) (C := RX6) (T := TX6) (N := 21) hx hb hts in_RX6 tyX6 tyX6_ok nmX6 hown hK hP hD hS 0 rfl rfl 19 (by decide) (hts _ (List.mem_of_getElem? (i := 1) rfl)) (fun _ h9 => h9) rfl (by decide +kernel) (zI_nar _) (zI_fit _) (Nat.le_of_ble_eq_true rfl) dX6_mask_56 (fun H locs hP hD hS => ?_)
              have hP : va_P D vwCl [(x9, .inr (10, [.int th, .int (nI ch), .int era, .int why, .int det, .int cau, .int (zI sv), .int (zI rj), .ref v9, .ref b9, .ref s9, .ref k9, .ref p9, .ref t9, .ref n9, .int (nI tn), .int (nI (he + i)), .int (nI en), .int (nI ln), .int (zI false), .int (zI dg)])), (t9, .inl (cy 0, 60, .inl tx))] H := hP
              have hD : va_D A [(x9, .inr (10, [.int th, .int (nI ch), .int era, .int why, .int det, .int cau, .int (zI sv), .int (zI rj), .ref v9, .ref b9, .ref s9, .ref k9, .ref p9, .ref t9, .ref n9, .int (nI tn), .int (nI (he + i)), .int (nI en), .int (nI ln), .int (zI false), .int (zI dg)])), (t9, .inl (cy 0, 60, .inl tx))] := hD
              refine lv_aload_n hx hb dX6_mask_59 rfl (lv_at hl 2 rfl) ?_
              refine lv_dup hx hb dX6_mask_60 rfl ?_
              refine va_get (D := D) (ci := 10) (v := .int (nI (he + i))) (C := RX6) (T := TX6) (N := 21) hx hb hts in_RX6 hown hK hP 0 rfl rfl 16 (by decide) (hts _ (List.mem_of_getElem? (i := 2) rfl)) (fun _ h9 => h9) rfl dX6_mask_61 ?_
              refine lv_aload_n hx hb dX6_mask_64 rfl (lv_at hl 2 rfl) ?_
              refine va_get (D := D) (ci := 10) (v := .int (zI false)) (C := RX6) (T := TX6) (N := 21) hx hb hts in_RX6 hown hK hP 0 rfl rfl 19 (by decide) (hts _ (List.mem_of_getElem? (i := 1) rfl)) (fun _ h9 => h9) rfl dX6_mask_65 ?_
              refine lv_if_eq (tgt := 75) hx hb dX6_mask_68 (by decide) (fun c_11 => ?_) (fun c_11 => ?_)
              · replace c_11 := zI0 c_11
                refine lv_iconst (v := 1) hx hb dX6_mask_75 (by decide) ?_
                refine lv_iadd hx hb dX6_mask_76 ?_
                refine z_top (y := nI ((he + i) + 1)) (nI_add (he + i) 1) ?_
                refine va_put (D := D) (ci := 10) (v := .int (nI ((he + i) + 1))) (ty := .int) (C := RX6) (T := TX6) (N := 21) hx hb hts in_RX6 tyX6 tyX6_ok nmX6 hown hK hP hD hS 0 rfl rfl 16 (by decide) (hts _ (List.mem_of_getElem? (i := 2) rfl)) (fun _ h9 => h9) rfl (by decide +kernel) rfl rfl (Nat.le_of_ble_eq_true rfl) dX6_mask_77 (fun H locs hP hD hS => ?_)
                have hP : va_P D vwCl [(x9, .inr (10, [.int th, .int (nI ch), .int era, .int why, .int det, .int cau, .int (zI sv), .int (zI rj), .ref v9, .ref b9, .ref s9, .ref k9, .ref p9, .ref t9, .ref n9, .int (nI tn), .int (nI ((he + i) + 1)), .int (nI en), .int (nI ln), .int (zI false), .int (zI dg)])), (t9, .inl (cy 0, 60, .inl tx))] H := hP
                have hD : va_D A [(x9, .inr (10, [.int th, .int (nI ch), .int era, .int why, .int det, .int cau, .int (zI sv), .int (zI rj), .ref v9, .ref b9, .ref s9, .ref k9, .ref p9, .ref t9, .ref n9, .int (nI tn), .int (nI ((he + i) + 1)), .int (nI en), .int (nI ln), .int (zI false), .int (zI dg)])), (t9, .inl (cy 0, 60, .inl tx))] := hD
                refine lv_iinc (v := nI (i + 1)) (lv' := [(2, .int (nI (i + 1))), (1, .int (a ||| (1 <<< ((nI i) &&& 31)))), (3, .int (zqs tx en (he + i))), (0, .ref x9)]) hx hb dX6_mask_80 hl (k := 3) rfl (by rw [show Int32.ofInt 1 = nI 1 from rfl, nI_add]) (by decide) rfl (fun ls hl => ?_)
                refine lv_goto (tgt := 4) hx hb dX6_mask_83 (by decide) ?_
                exact ih4 (i + 1) (a ||| (1 <<< ((nI i) &&& 31))) (nI ((he + i) + 1)) (by omega) (by rw [hN, show 8 - i = (8 - (i + 1)) + 1 by omega, zkN, if_pos hdg]; first | rfl | omega | (rw [Nat.add_assoc he i 1]; first | rfl | omega)) (by rw [hV, show 8 - i = (8 - (i + 1)) + 1 by omega, zkM, if_pos hdg, hbt, Nat.add_assoc he i 1]) (by omega) (by rfl) H locs hP hD hS ls (lv_sub hl [3, 1, 0] rfl)
              · replace c_11 := zI1 c_11
                exact absurd c_11 (by decide)
            · refine lv_iload_n hx hb dX6_mask_45 rfl (lv_at hl 1 rfl) ?_
              refine lv_bipush (v := 49) hx hb dX6_mask_46 (by decide) ?_
              refine lv_icmp_eq (tgt := 55) hx hb dX6_mask_48 (by decide) (fun c_12 => ?_) (fun c_12 => ?_)
              · refine lv_iconst (v := 0) hx hb dX6_mask_55 (by decide) ?_
                refine z_top (y := zI false) rfl ?_
                refine va_put (D := D) (ci := 10) (v := .int (zI false)) (ty := .boolean) (C := RX6) (T := TX6) (N := 21) hx hb hts in_RX6 tyX6 tyX6_ok nmX6 hown hK hP hD hS 0 rfl rfl 19 (by decide) (hts _ (List.mem_of_getElem? (i := 1) rfl)) (fun _ h9 => h9) rfl (by decide +kernel) (zI_nar _) (zI_fit _) (Nat.le_of_ble_eq_true rfl) dX6_mask_56 (fun H locs hP hD hS => ?_)
                have hP : va_P D vwCl [(x9, .inr (10, [.int th, .int (nI ch), .int era, .int why, .int det, .int cau, .int (zI sv), .int (zI rj), .ref v9, .ref b9, .ref s9, .ref k9, .ref p9, .ref t9, .ref n9, .int (nI tn), .int (nI (he + i)), .int (nI en), .int (nI ln), .int (zI false), .int (zI dg)])), (t9, .inl (cy 0, 60, .inl tx))] H := hP
                have hD : va_D A [(x9, .inr (10, [.int th, .int (nI ch), .int era, .int why, .int det, .int cau, .int (zI sv), .int (zI rj), .ref v9, .ref b9, .ref s9, .ref k9, .ref p9, .ref t9, .ref n9, .int (nI tn), .int (nI (he + i)), .int (nI en), .int (nI ln), .int (zI false), .int (zI dg)])), (t9, .inl (cy 0, 60, .inl tx))] := hD
                refine lv_aload_n hx hb dX6_mask_59 rfl (lv_at hl 2 rfl) ?_
                refine lv_dup hx hb dX6_mask_60 rfl ?_
                refine va_get (D := D) (ci := 10) (v := .int (nI (he + i))) (C := RX6) (T := TX6) (N := 21) hx hb hts in_RX6 hown hK hP 0 rfl rfl 16 (by decide) (hts _ (List.mem_of_getElem? (i := 2) rfl)) (fun _ h9 => h9) rfl dX6_mask_61 ?_
                refine lv_aload_n hx hb dX6_mask_64 rfl (lv_at hl 2 rfl) ?_
                refine va_get (D := D) (ci := 10) (v := .int (zI false)) (C := RX6) (T := TX6) (N := 21) hx hb hts in_RX6 hown hK hP 0 rfl rfl 19 (by decide) (hts _ (List.mem_of_getElem? (i := 1) rfl)) (fun _ h9 => h9) rfl dX6_mask_65 ?_
                refine lv_if_eq (tgt := 75) hx hb dX6_mask_68 (by decide) (fun c_13 => ?_) (fun c_13 => ?_)
                · replace c_13 := zI0 c_13
                  refine lv_iconst (v := 1) hx hb dX6_mask_75 (by decide) ?_
                  refine lv_iadd hx hb dX6_mask_76 ?_
                  refine z_top (y := nI ((he + i) + 1)) (nI_add (he + i) 1) ?_
                  refine va_put (D := D) (ci := 10) (v := .int (nI ((he + i) + 1))) (ty := .int) (C := RX6) (T := TX6) (N := 21) hx hb hts in_RX6 tyX6 tyX6_ok nmX6 hown hK hP hD hS 0 rfl rfl 16 (by decide) (hts _ (List.mem_of_getElem? (i := 2) rfl)) (fun _ h9 => h9) rfl (by decide +kernel) rfl rfl (Nat.le_of_ble_eq_true rfl) dX6_mask_77 (fun H locs hP hD hS => ?_)
                  have hP : va_P D vwCl [(x9, .inr (10, [.int th, .int (nI ch), .int era, .int why, .int det, .int cau, .int (zI sv), .int (zI rj), .ref v9, .ref b9, .ref s9, .ref k9, .ref p9, .ref t9, .ref n9, .int (nI tn), .int (nI ((he + i) + 1)), .int (nI en), .int (nI ln), .int (zI false), .int (zI dg)])), (t9, .inl (cy 0, 60, .inl tx))] H := hP
                  have hD : va_D A [(x9, .inr (10, [.int th, .int (nI ch), .int era, .int why, .int det, .int cau, .int (zI sv), .int (zI rj), .ref v9, .ref b9, .ref s9, .ref k9, .ref p9, .ref t9, .ref n9, .int (nI tn), .int (nI ((he + i) + 1)), .int (nI en), .int (nI ln), .int (zI false), .int (zI dg)])), (t9, .inl (cy 0, 60, .inl tx))] := hD
                  refine lv_iinc (v := nI (i + 1)) (lv' := [(2, .int (nI (i + 1))), (1, .int (a ||| (1 <<< ((nI i) &&& 31)))), (3, .int (zqs tx en (he + i))), (0, .ref x9)]) hx hb dX6_mask_80 hl (k := 3) rfl (by rw [show Int32.ofInt 1 = nI 1 from rfl, nI_add]) (by decide) rfl (fun ls hl => ?_)
                  refine lv_goto (tgt := 4) hx hb dX6_mask_83 (by decide) ?_
                  exact ih4 (i + 1) (a ||| (1 <<< ((nI i) &&& 31))) (nI ((he + i) + 1)) (by omega) (by rw [hN, show 8 - i = (8 - (i + 1)) + 1 by omega, zkN, if_pos hdg]; first | rfl | omega | (rw [Nat.add_assoc he i 1]; first | rfl | omega)) (by rw [hV, show 8 - i = (8 - (i + 1)) + 1 by omega, zkM, if_pos hdg, hbt, Nat.add_assoc he i 1]) (by omega) (by rfl) H locs hP hD hS ls (lv_sub hl [3, 1, 0] rfl)
                · replace c_13 := zI1 c_13
                  exact absurd c_13 (by decide)
              · exact absurd h49 c_12
  exact L4 (8 - 0 + 1) 0 0 (nI he) (by omega) (by simp) rfl (Nat.lt_succ_self _) (by rfl) s.heap [] hP hD hS ls (lv_sub hl [2, 1, 0] rfl)

abbrev rmX6_isNumbered : Room := { frames := 0, cells := 0, slots := 0, locals := 0 }
set_option maxHeartbeats 4000000 in
set_option maxRecDepth 100000 in
theorem c_X6_isNumbered {G : zG} (hg : zGN G) (l : Launch) (D : va_G) (cy : Nat → ClassId) (xq : Int32) : zM G D vwCl (zT cy) l yX6_isNumbered wsX6_isNumbered rmX6_isNumbered [.int xq] [] (some (.int (zI (zqn xq)))) [] := by
  refine zM_of (cc := cX6_isNumbered) (maxL := 1) (ret := (some .boolean)) (by decide) rfl (Nat.le_of_ble_eq_true rfl) ?_
  intro p e s m below meth c A Q hend hx hb hml hr hts hown hlk hG hK hP hD hA hS ls hl
  have hown : s.vm.findClass RX6 = some m.cls := hown
  have hl : lv_has ls 1 [(0, .int xq)] := hl
  refine lv_iload_n hx hb dX6_isNumbered_0 rfl (lv_at hl 0 rfl) ?_
  refine lv_bipush (v := 99) hx hb dX6_isNumbered_1 (by decide) ?_
  refine lv_icmp_eq (tgt := 48) hx hb dX6_isNumbered_3 (by decide) (fun c_1 => ?_) (fun c_1 => ?_)
  · refine lv_iconst (v := 1) hx hb dX6_isNumbered_48 (by decide) ?_
    refine lv_goto (tgt := 53) hx hb dX6_isNumbered_49 (by decide) ?_
    exact zzret hend hx hb hr hlk hK hP hD hS dX6_isNumbered_53 rfl (by first | (simp only [zqn, zI, c_1, decide_true, decide_false, Bool.not_true, Bool.not_false, Bool.and_true, Bool.true_and, Bool.and_false, Bool.false_and, Bool.or_false, Bool.false_or, Bool.or_true, Bool.true_or, ↓reduceIte, Bool.false_eq_true, not_true_eq_false, not_false_eq_true, and_self]; done) | (simp [zqn, zI, c_1]; done) | (simp_all [zqn, zI]; done)) rfl
  · refine lv_iload_n hx hb dX6_isNumbered_6 rfl (lv_at hl 0 rfl) ?_
    refine lv_bipush (v := 104) hx hb dX6_isNumbered_7 (by decide) ?_
    refine lv_icmp_eq (tgt := 48) hx hb dX6_isNumbered_9 (by decide) (fun c_2 => ?_) (fun c_2 => ?_)
    · refine lv_iconst (v := 1) hx hb dX6_isNumbered_48 (by decide) ?_
      refine lv_goto (tgt := 53) hx hb dX6_isNumbered_49 (by decide) ?_
      exact zzret hend hx hb hr hlk hK hP hD hS dX6_isNumbered_53 rfl (by first | (simp only [zqn, zI, c_1, c_2, decide_true, decide_false, Bool.not_true, Bool.not_false, Bool.and_true, Bool.true_and, Bool.and_false, Bool.false_and, Bool.or_false, Bool.false_or, Bool.or_true, Bool.true_or, ↓reduceIte, Bool.false_eq_true, not_true_eq_false, not_false_eq_true, and_self]; done) | (simp [zqn, zI, c_1, c_2]; done) | (simp_all [zqn, zI]; done)) rfl
    · refine lv_iload_n hx hb dX6_isNumbered_12 rfl (lv_at hl 0 rfl) ?_
      refine lv_bipush (v := 114) hx hb dX6_isNumbered_13 (by decide) ?_
      refine lv_icmp_eq (tgt := 48) hx hb dX6_isNumbered_15 (by decide) (fun c_3 => ?_) (fun c_3 => ?_)
      · refine lv_iconst (v := 1) hx hb dX6_isNumbered_48 (by decide) ?_
        refine lv_goto (tgt := 53) hx hb dX6_isNumbered_49 (by decide) ?_
        exact zzret hend hx hb hr hlk hK hP hD hS dX6_isNumbered_53 rfl (by first | (simp only [zqn, zI, c_1, c_2, c_3, decide_true, decide_false, Bool.not_true, Bool.not_false, Bool.and_true, Bool.true_and, Bool.and_false, Bool.false_and, Bool.or_false, Bool.false_or, Bool.or_true, Bool.true_or, ↓reduceIte, Bool.false_eq_true, not_true_eq_false, not_false_eq_true, and_self]; done) | (simp [zqn, zI, c_1, c_2, c_3]; done) | (simp_all [zqn, zI]; done)) rfl
      · refine lv_iload_n hx hb dX6_isNumbered_18 rfl (lv_at hl 0 rfl) ?_
        refine lv_bipush (v := 100) hx hb dX6_isNumbered_19 (by decide) ?_
        refine lv_icmp_eq (tgt := 48) hx hb dX6_isNumbered_21 (by decide) (fun c_4 => ?_) (fun c_4 => ?_)
        · refine lv_iconst (v := 1) hx hb dX6_isNumbered_48 (by decide) ?_
          refine lv_goto (tgt := 53) hx hb dX6_isNumbered_49 (by decide) ?_
          exact zzret hend hx hb hr hlk hK hP hD hS dX6_isNumbered_53 rfl (by first | (simp only [zqn, zI, c_1, c_2, c_3, c_4, decide_true, decide_false, Bool.not_true, Bool.not_false, Bool.and_true, Bool.true_and, Bool.and_false, Bool.false_and, Bool.or_false, Bool.false_or, Bool.or_true, Bool.true_or, ↓reduceIte, Bool.false_eq_true, not_true_eq_false, not_false_eq_true, and_self]; done) | (simp [zqn, zI, c_1, c_2, c_3, c_4]; done) | (simp_all [zqn, zI]; done)) rfl
        · refine lv_iload_n hx hb dX6_isNumbered_24 rfl (lv_at hl 0 rfl) ?_
          refine lv_bipush (v := 117) hx hb dX6_isNumbered_25 (by decide) ?_
          refine lv_icmp_eq (tgt := 48) hx hb dX6_isNumbered_27 (by decide) (fun c_5 => ?_) (fun c_5 => ?_)
          · refine lv_iconst (v := 1) hx hb dX6_isNumbered_48 (by decide) ?_
            refine lv_goto (tgt := 53) hx hb dX6_isNumbered_49 (by decide) ?_
            exact zzret hend hx hb hr hlk hK hP hD hS dX6_isNumbered_53 rfl (by first | (simp only [zqn, zI, c_1, c_2, c_3, c_4, c_5, decide_true, decide_false, Bool.not_true, Bool.not_false, Bool.and_true, Bool.true_and, Bool.and_false, Bool.false_and, Bool.or_false, Bool.false_or, Bool.or_true, Bool.true_or, ↓reduceIte, Bool.false_eq_true, not_true_eq_false, not_false_eq_true, and_self]; done) | (simp [zqn, zI, c_1, c_2, c_3, c_4, c_5]; done) | (simp_all [zqn, zI]; done)) rfl
          · refine lv_iload_n hx hb dX6_isNumbered_30 rfl (lv_at hl 0 rfl) ?_
            refine lv_bipush (v := 108) hx hb dX6_isNumbered_31 (by decide) ?_
            refine lv_icmp_eq (tgt := 48) hx hb dX6_isNumbered_33 (by decide) (fun c_6 => ?_) (fun c_6 => ?_)
            · refine lv_iconst (v := 1) hx hb dX6_isNumbered_48 (by decide) ?_
              refine lv_goto (tgt := 53) hx hb dX6_isNumbered_49 (by decide) ?_
              exact zzret hend hx hb hr hlk hK hP hD hS dX6_isNumbered_53 rfl (by first | (simp only [zqn, zI, c_1, c_2, c_3, c_4, c_5, c_6, decide_true, decide_false, Bool.not_true, Bool.not_false, Bool.and_true, Bool.true_and, Bool.and_false, Bool.false_and, Bool.or_false, Bool.false_or, Bool.or_true, Bool.true_or, ↓reduceIte, Bool.false_eq_true, not_true_eq_false, not_false_eq_true, and_self]; done) | (simp [zqn, zI, c_1, c_2, c_3, c_4, c_5, c_6]; done) | (simp_all [zqn, zI]; done)) rfl
            · refine lv_iload_n hx hb dX6_isNumbered_36 rfl (lv_at hl 0 rfl) ?_
              refine lv_bipush (v := 103) hx hb dX6_isNumbered_37 (by decide) ?_
              refine lv_icmp_eq (tgt := 48) hx hb dX6_isNumbered_39 (by decide) (fun c_7 => ?_) (fun c_7 => ?_)
              · refine lv_iconst (v := 1) hx hb dX6_isNumbered_48 (by decide) ?_
                refine lv_goto (tgt := 53) hx hb dX6_isNumbered_49 (by decide) ?_
                exact zzret hend hx hb hr hlk hK hP hD hS dX6_isNumbered_53 rfl (by first | (simp only [zqn, zI, c_1, c_2, c_3, c_4, c_5, c_6, c_7, decide_true, decide_false, Bool.not_true, Bool.not_false, Bool.and_true, Bool.true_and, Bool.and_false, Bool.false_and, Bool.or_false, Bool.false_or, Bool.or_true, Bool.true_or, ↓reduceIte, Bool.false_eq_true, not_true_eq_false, not_false_eq_true, and_self]; done) | (simp [zqn, zI, c_1, c_2, c_3, c_4, c_5, c_6, c_7]; done) | (simp_all [zqn, zI]; done)) rfl
              · refine lv_iload_n hx hb dX6_isNumbered_42 rfl (lv_at hl 0 rfl) ?_
                refine lv_bipush (v := 107) hx hb dX6_isNumbered_43 (by decide) ?_
                refine lv_icmp_ne (tgt := 52) hx hb dX6_isNumbered_45 (by decide) (fun c_8 => ?_) (fun c_8 => ?_)
                · refine lv_iconst (v := 0) hx hb dX6_isNumbered_52 (by decide) ?_
                  exact zzret hend hx hb hr hlk hK hP hD hS dX6_isNumbered_53 rfl (by first | (simp only [zqn, zI, c_1, c_2, c_3, c_4, c_5, c_6, c_7, c_8, decide_true, decide_false, Bool.not_true, Bool.not_false, Bool.and_true, Bool.true_and, Bool.and_false, Bool.false_and, Bool.or_false, Bool.false_or, Bool.or_true, Bool.true_or, ↓reduceIte, Bool.false_eq_true, not_true_eq_false, not_false_eq_true, and_self]; done) | (simp [zqn, zI, c_1, c_2, c_3, c_4, c_5, c_6, c_7, c_8]; done) | (simp_all [zqn, zI]; done)) rfl
                · refine lv_iconst (v := 1) hx hb dX6_isNumbered_48 (by decide) ?_
                  refine lv_goto (tgt := 53) hx hb dX6_isNumbered_49 (by decide) ?_
                  exact zzret hend hx hb hr hlk hK hP hD hS dX6_isNumbered_53 rfl (by first | (simp only [zqn, zI, c_1, c_2, c_3, c_4, c_5, c_6, c_7, c_8, decide_true, decide_false, Bool.not_true, Bool.not_false, Bool.and_true, Bool.true_and, Bool.and_false, Bool.false_and, Bool.or_false, Bool.false_or, Bool.or_true, Bool.true_or, ↓reduceIte, Bool.false_eq_true, not_true_eq_false, not_false_eq_true, and_self]; done) | (simp [zqn, zI, c_1, c_2, c_3, c_4, c_5, c_6, c_7, c_8]; done) | (simp_all [zqn, zI]; done)) rfl

abbrev rmX6_isDigit : Room := { frames := 0, cells := 0, slots := 0, locals := 0 }
set_option maxHeartbeats 4000000 in
set_option maxRecDepth 100000 in
theorem c_X6_isDigit {G : zG} (hg : zGN G) (l : Launch) (D : va_G) (cy : Nat → ClassId) (xq : Int32) : zM G D vwCl (zT cy) l yX6_isDigit wsX6_isDigit rmX6_isDigit [.int xq] [] (some (.int (zI (zid xq)))) [] := by
  refine zM_of (cc := cX6_isDigit) (maxL := 1) (ret := (some .boolean)) (by decide) rfl (Nat.le_of_ble_eq_true rfl) ?_
  intro p e s m below meth c A Q hend hx hb hml hr hts hown hlk hG hK hP hD hA hS ls hl
  have hown : s.vm.findClass RX6 = some m.cls := hown
  have hl : lv_has ls 1 [(0, .int xq)] := hl
  refine lv_iload_n hx hb dX6_isDigit_0 rfl (lv_at hl 0 rfl) ?_
  refine lv_bipush (v := 121) hx hb dX6_isDigit_1 (by decide) ?_
  refine lv_icmp_eq (tgt := 18) hx hb dX6_isDigit_3 (by decide) (fun c_1 => ?_) (fun c_1 => ?_)
  · refine lv_iconst (v := 1) hx hb dX6_isDigit_18 (by decide) ?_
    refine lv_goto (tgt := 23) hx hb dX6_isDigit_19 (by decide) ?_
    exact zzret hend hx hb hr hlk hK hP hD hS dX6_isDigit_23 rfl (by first | (simp only [zid, zI, c_1, decide_true, decide_false, Bool.not_true, Bool.not_false, Bool.and_true, Bool.true_and, Bool.and_false, Bool.false_and, Bool.or_false, Bool.false_or, Bool.or_true, Bool.true_or, ↓reduceIte, Bool.false_eq_true, not_true_eq_false, not_false_eq_true, and_self]; done) | (simp [zid, zI, c_1]; done) | (simp_all [zid, zI]; done)) rfl
  · refine lv_iload_n hx hb dX6_isDigit_6 rfl (lv_at hl 0 rfl) ?_
    refine lv_bipush (v := 102) hx hb dX6_isDigit_7 (by decide) ?_
    refine lv_icmp_eq (tgt := 18) hx hb dX6_isDigit_9 (by decide) (fun c_2 => ?_) (fun c_2 => ?_)
    · refine lv_iconst (v := 1) hx hb dX6_isDigit_18 (by decide) ?_
      refine lv_goto (tgt := 23) hx hb dX6_isDigit_19 (by decide) ?_
      exact zzret hend hx hb hr hlk hK hP hD hS dX6_isDigit_23 rfl (by first | (simp only [zid, zI, c_1, c_2, decide_true, decide_false, Bool.not_true, Bool.not_false, Bool.and_true, Bool.true_and, Bool.and_false, Bool.false_and, Bool.or_false, Bool.false_or, Bool.or_true, Bool.true_or, ↓reduceIte, Bool.false_eq_true, not_true_eq_false, not_false_eq_true, and_self]; done) | (simp [zid, zI, c_1, c_2]; done) | (simp_all [zid, zI]; done)) rfl
    · refine lv_iload_n hx hb dX6_isDigit_12 rfl (lv_at hl 0 rfl) ?_
      refine lv_bipush (v := 116) hx hb dX6_isDigit_13 (by decide) ?_
      refine lv_icmp_ne (tgt := 22) hx hb dX6_isDigit_15 (by decide) (fun c_3 => ?_) (fun c_3 => ?_)
      · refine lv_iconst (v := 0) hx hb dX6_isDigit_22 (by decide) ?_
        exact zzret hend hx hb hr hlk hK hP hD hS dX6_isDigit_23 rfl (by first | (simp only [zid, zI, c_1, c_2, c_3, decide_true, decide_false, Bool.not_true, Bool.not_false, Bool.and_true, Bool.true_and, Bool.and_false, Bool.false_and, Bool.or_false, Bool.false_or, Bool.or_true, Bool.true_or, ↓reduceIte, Bool.false_eq_true, not_true_eq_false, not_false_eq_true, and_self]; done) | (simp [zid, zI, c_1, c_2, c_3]; done) | (simp_all [zid, zI]; done)) rfl
      · refine lv_iconst (v := 1) hx hb dX6_isDigit_18 (by decide) ?_
        refine lv_goto (tgt := 23) hx hb dX6_isDigit_19 (by decide) ?_
        exact zzret hend hx hb hr hlk hK hP hD hS dX6_isDigit_23 rfl (by first | (simp only [zid, zI, c_1, c_2, c_3, decide_true, decide_false, Bool.not_true, Bool.not_false, Bool.and_true, Bool.true_and, Bool.and_false, Bool.false_and, Bool.or_false, Bool.false_or, Bool.or_true, Bool.true_or, ↓reduceIte, Bool.false_eq_true, not_true_eq_false, not_false_eq_true, and_self]; done) | (simp [zid, zI, c_1, c_2, c_3]; done) | (simp_all [zid, zI]; done)) rfl

abbrev rmX6_does_ok99 : Room := { frames := 5, cells := 0, slots := 0, locals := 116 }
set_option maxHeartbeats 4000000 in
set_option maxRecDepth 100000 in
theorem c_X6_does_ok99 {G : zG} (hg : zGN G) (l : Launch) (D : va_G) (cy : Nat → ClassId) (x9 : Nat) (ch : Nat) (era : Int32) (why : Int32) (det : Int32) (cau : Int32) (sv : Bool) (rj : Bool) (v9 : Nat) (b9 : Nat) (s9 : Nat) (k9 : Nat) (p9 : Nat) (t9 : Nat) (n9 : Nat) (tn : Nat) (he : Nat) (en : Nat) (ln : Nat) (iw : Bool) (dg : Bool) (v : Nat → Int32) (a : Nat) (b : Nat) (hab : a ≤ b) (hb24 : b < 24) (hz : zfi (fun j => zb (v 0) (nI j)) (b + 1 - a) a = -1) (hsq : zbok 40 (zpv v a (b + 1 - a) 0)) : zM G D vwCl (zT cy) l yX6_does wsX6_does rmX6_does_ok99 [.ref x9, .int 99, .int (nI a), .int (nI b)] [(x9, .inr (10, [.int 0, .int (nI ch), .int era, .int why, .int det, .int cau, .int (zI sv), .int (zI rj), .ref v9, .ref b9, .ref s9, .ref k9, .ref p9, .ref t9, .ref n9, .int (nI tn), .int (nI he), .int (nI en), .int (nI ln), .int (zI iw), .int (zI dg)])), (v9, .inl (cy 0, 188, .inl v))] (some (.int (zbc 40 (zpv v a (b + 1 - a) 0) 0))) [(x9, .inr (10, [.int 0, .int (nI ch), .int era, .int why, .int det, .int cau, .int (zI sv), .int (zI rj), .ref v9, .ref b9, .ref s9, .ref k9, .ref p9, .ref t9, .ref n9, .int (nI tn), .int (nI he), .int (nI en), .int (nI ln), .int (zI iw), .int (zI dg)])), (v9, .inl (cy 0, 188, .inl (zpv v a (b + 1 - a))))] := by
  refine zM_of (cc := cX6_does) (maxL := 4) (ret := (some .int)) (by decide) rfl (Nat.le_of_ble_eq_true rfl) ?_
  intro p e s m below meth c A Q hend hx hb hml hr hts hown hlk hG hK hP hD hA hS ls hl
  have hown : s.vm.findClass RX6 = some m.cls := hown
  have hl : lv_has ls 4 [(0, .ref x9), (1, .int 99), (2, .int (nI a)), (3, .int (nI b))] := hl
  refine lv_iload_n hx hb dX6_does_0 rfl (lv_at hl 1 rfl) ?_
  refine lv_tableIn (off := 107) (tgt := 108) hx hb dX6_does_1 (by decide) (by decide) (by decide) (by decide) ?_
  refine lv_aload_n hx hb dX6_does_108 rfl (lv_at hl 0 rfl) ?_
  refine lv_iload_n hx hb dX6_does_109 rfl (lv_at hl 2 rfl) ?_
  refine lv_iload_n hx hb dX6_does_110 rfl (lv_at hl 3 rfl) ?_
  refine zcV (As := [.int (nI a), .int (nI b)]) (rest := []) [0, 1] 0 hg.1 ⟨hx, hb, hml, hown, hts⟩ (c_X6_casts_ok hg l D cy x9 0 ch era why det cau sv rj v9 b9 s9 k9 p9 t9 n9 tn he en ln iw dg v a b hab hb24 hz hsq) (cwV 2 hts gX6_does_X6_casts rfl rfl rfl (by decide +kernel) ⟨Nat.le_of_ble_eq_true rfl, Nat.le_of_ble_eq_true rfl⟩) hG hK hP hD hS hA rfl rfl (Eq.trans (b := [x9, v9]) rfl rfl) rfl rfl rfl hl.1 rfl (Nat.le_of_ble_eq_true rfl) dX6_does_111 ⟨Nat.zero_le _, Nat.zero_le _⟩ (fun H locs hP hD hS => ?_)
  have hP : va_P D vwCl [(x9, .inr (10, [.int 0, .int (nI ch), .int era, .int why, .int det, .int cau, .int (zI sv), .int (zI rj), .ref v9, .ref b9, .ref s9, .ref k9, .ref p9, .ref t9, .ref n9, .int (nI tn), .int (nI he), .int (nI en), .int (nI ln), .int (zI iw), .int (zI dg)])), (v9, .inl (cy 0, 188, .inl (zpv v a (b + 1 - a))))] H := hP
  have hD : va_D A [(x9, .inr (10, [.int 0, .int (nI ch), .int era, .int why, .int det, .int cau, .int (zI sv), .int (zI rj), .ref v9, .ref b9, .ref s9, .ref k9, .ref p9, .ref t9, .ref n9, .int (nI tn), .int (nI he), .int (nI en), .int (nI ln), .int (zI iw), .int (zI dg)])), (v9, .inl (cy 0, 188, .inl (zpv v a (b + 1 - a))))] := hD
  exact ziret hend hx hb hr hlk hK hP hD hS dX6_does_114 rfl rfl

abbrev rmX6_does_rej99 : Room := { frames := 5, cells := 0, slots := 0, locals := 116 }
set_option maxHeartbeats 4000000 in
set_option maxRecDepth 100000 in
theorem c_X6_does_rej99 {G : zG} (hg : zGN G) (l : Launch) (D : va_G) (cy : Nat → ClassId) (x9 : Nat) (ch : Nat) (era : Int32) (why : Int32) (det : Int32) (cau : Int32) (sv : Bool) (rj : Bool) (v9 : Nat) (b9 : Nat) (s9 : Nat) (k9 : Nat) (p9 : Nat) (t9 : Nat) (n9 : Nat) (tn : Nat) (he : Nat) (en : Nat) (ln : Nat) (iw : Bool) (dg : Bool) (v : Nat → Int32) (a : Nat) (b : Nat) (hab : a ≤ b) (hb24 : b < 24) (hz : ¬ zfi (fun j => zb (v 0) (nI j)) (b + 1 - a) a = -1) : zM G D vwCl (zT cy) l yX6_does wsX6_does rmX6_does_rej99 [.ref x9, .int 99, .int (nI a), .int (nI b)] [(x9, .inr (10, [.int 0, .int (nI ch), .int era, .int why, .int det, .int cau, .int (zI sv), .int (zI rj), .ref v9, .ref b9, .ref s9, .ref k9, .ref p9, .ref t9, .ref n9, .int (nI tn), .int (nI he), .int (nI en), .int (nI ln), .int (zI iw), .int (zI dg)])), (v9, .inl (cy 0, 188, .inl v))] (some (.int 0)) [(x9, .inr (10, [.int 3, .int (nI ch), .int era, .int 1, .int (zfi (fun j => zb (v 0) (nI j)) (b + 1 - a) a), .int 0, .int (zI sv), .int (zI true), .ref v9, .ref b9, .ref s9, .ref k9, .ref p9, .ref t9, .ref n9, .int (nI tn), .int (nI he), .int (nI en), .int (nI ln), .int (zI iw), .int (zI dg)])), (v9, .inl (cy 0, 188, .inl v))] := by
  refine zM_of (cc := cX6_does) (maxL := 4) (ret := (some .int)) (by decide) rfl (Nat.le_of_ble_eq_true rfl) ?_
  intro p e s m below meth c A Q hend hx hb hml hr hts hown hlk hG hK hP hD hA hS ls hl
  have hown : s.vm.findClass RX6 = some m.cls := hown
  have hl : lv_has ls 4 [(0, .ref x9), (1, .int 99), (2, .int (nI a)), (3, .int (nI b))] := hl
  refine lv_iload_n hx hb dX6_does_0 rfl (lv_at hl 1 rfl) ?_
  refine lv_tableIn (off := 107) (tgt := 108) hx hb dX6_does_1 (by decide) (by decide) (by decide) (by decide) ?_
  refine lv_aload_n hx hb dX6_does_108 rfl (lv_at hl 0 rfl) ?_
  refine lv_iload_n hx hb dX6_does_109 rfl (lv_at hl 2 rfl) ?_
  refine lv_iload_n hx hb dX6_does_110 rfl (lv_at hl 3 rfl) ?_
  refine zcV (As := [.int (nI a), .int (nI b)]) (rest := []) [0, 1] 0 hg.1 ⟨hx, hb, hml, hown, hts⟩ (c_X6_casts_rej hg l D cy x9 0 ch era why det cau sv rj v9 b9 s9 k9 p9 t9 n9 tn he en ln iw dg v a b hab hb24 hz) (cwV 2 hts gX6_does_X6_casts rfl rfl rfl (by decide +kernel) ⟨Nat.le_of_ble_eq_true rfl, Nat.le_of_ble_eq_true rfl⟩) hG hK hP hD hS hA rfl rfl (Eq.trans (b := [x9, v9]) rfl rfl) rfl rfl rfl hl.1 rfl (Nat.le_of_ble_eq_true rfl) dX6_does_111 ⟨Nat.zero_le _, Nat.zero_le _⟩ (fun H locs hP hD hS => ?_)
  have hP : va_P D vwCl [(x9, .inr (10, [.int 3, .int (nI ch), .int era, .int 1, .int (zfi (fun j => zb (v 0) (nI j)) (b + 1 - a) a), .int 0, .int (zI sv), .int (zI true), .ref v9, .ref b9, .ref s9, .ref k9, .ref p9, .ref t9, .ref n9, .int (nI tn), .int (nI he), .int (nI en), .int (nI ln), .int (zI iw), .int (zI dg)])), (v9, .inl (cy 0, 188, .inl v))] H := hP
  have hD : va_D A [(x9, .inr (10, [.int 3, .int (nI ch), .int era, .int 1, .int (zfi (fun j => zb (v 0) (nI j)) (b + 1 - a) a), .int 0, .int (zI sv), .int (zI true), .ref v9, .ref b9, .ref s9, .ref k9, .ref p9, .ref t9, .ref n9, .int (nI tn), .int (nI he), .int (nI en), .int (nI ln), .int (zI iw), .int (zI dg)])), (v9, .inl (cy 0, 188, .inl v))] := hD
  exact ziret hend hx hb hr hlk hK hP hD hS dX6_does_114 rfl rfl

abbrev rmX6_does_f199 : Room := { frames := 5, cells := 0, slots := 0, locals := 116 }
set_option maxHeartbeats 4000000 in
set_option maxRecDepth 100000 in
theorem c_X6_does_f199 {G : zG} (hg : zGN G) (l : Launch) (D : va_G) (cy : Nat → ClassId) (x9 : Nat) (ch : Nat) (era : Int32) (why : Int32) (det : Int32) (cau : Int32) (sv : Bool) (rj : Bool) (v9 : Nat) (b9 : Nat) (s9 : Nat) (k9 : Nat) (p9 : Nat) (t9 : Nat) (n9 : Nat) (tn : Nat) (he : Nat) (en : Nat) (ln : Nat) (iw : Bool) (dg : Bool) (v : Nat → Int32) (nq : Int32) (lq : Int32) (hq : (zic 0 23 nq && zic 0 23 lq) = false) : zM G D vwCl (zT cy) l yX6_does wsX6_does rmX6_does_f199 [.ref x9, .int 99, .int nq, .int lq] [(x9, .inr (10, [.int 0, .int (nI ch), .int era, .int why, .int det, .int cau, .int (zI sv), .int (zI rj), .ref v9, .ref b9, .ref s9, .ref k9, .ref p9, .ref t9, .ref n9, .int (nI tn), .int (nI he), .int (nI en), .int (nI ln), .int (zI iw), .int (zI dg)])), (v9, .inl (cy 0, 188, .inl v))] (some (.int 0)) [(x9, .inr (10, [.int 1, .int (nI ch), .int era, .int why, .int det, .int cau, .int (zI sv), .int (zI rj), .ref v9, .ref b9, .ref s9, .ref k9, .ref p9, .ref t9, .ref n9, .int (nI tn), .int (nI he), .int (nI en), .int (nI ln), .int (zI iw), .int (zI dg)])), (v9, .inl (cy 0, 188, .inl v))] := by
  refine zM_of (cc := cX6_does) (maxL := 4) (ret := (some .int)) (by decide) rfl (Nat.le_of_ble_eq_true rfl) ?_
  intro p e s m below meth c A Q hend hx hb hml hr hts hown hlk hG hK hP hD hA hS ls hl
  have hown : s.vm.findClass RX6 = some m.cls := hown
  have hl : lv_has ls 4 [(0, .ref x9), (1, .int 99), (2, .int nq), (3, .int lq)] := hl
  refine lv_iload_n hx hb dX6_does_0 rfl (lv_at hl 1 rfl) ?_
  refine lv_tableIn (off := 107) (tgt := 108) hx hb dX6_does_1 (by decide) (by decide) (by decide) (by decide) ?_
  refine lv_aload_n hx hb dX6_does_108 rfl (lv_at hl 0 rfl) ?_
  refine lv_iload_n hx hb dX6_does_109 rfl (lv_at hl 2 rfl) ?_
  refine lv_iload_n hx hb dX6_does_110 rfl (lv_at hl 3 rfl) ?_
  refine zcV (As := [.int nq, .int lq]) (rest := []) [0] 0 hg.1 ⟨hx, hb, hml, hown, hts⟩ (c_X6_casts_f1 hg l D cy x9 0 ch era why det cau sv rj v9 b9 s9 k9 p9 t9 n9 tn he en ln iw dg nq lq hq) (cwV 2 hts gX6_does_X6_casts rfl rfl rfl (by decide +kernel) ⟨Nat.le_of_ble_eq_true rfl, Nat.le_of_ble_eq_true rfl⟩) hG hK hP hD hS hA rfl rfl (Eq.trans (b := [x9]) rfl rfl) rfl rfl rfl hl.1 rfl (Nat.le_of_ble_eq_true rfl) dX6_does_111 ⟨Nat.zero_le _, Nat.zero_le _⟩ (fun H locs hP hD hS => ?_)
  have hP : va_P D vwCl [(x9, .inr (10, [.int 1, .int (nI ch), .int era, .int why, .int det, .int cau, .int (zI sv), .int (zI rj), .ref v9, .ref b9, .ref s9, .ref k9, .ref p9, .ref t9, .ref n9, .int (nI tn), .int (nI he), .int (nI en), .int (nI ln), .int (zI iw), .int (zI dg)])), (v9, .inl (cy 0, 188, .inl v))] H := hP
  have hD : va_D A [(x9, .inr (10, [.int 1, .int (nI ch), .int era, .int why, .int det, .int cau, .int (zI sv), .int (zI rj), .ref v9, .ref b9, .ref s9, .ref k9, .ref p9, .ref t9, .ref n9, .int (nI tn), .int (nI he), .int (nI en), .int (nI ln), .int (zI iw), .int (zI dg)])), (v9, .inl (cy 0, 188, .inl v))] := hD
  exact ziret hend hx hb hr hlk hK hP hD hS dX6_does_114 rfl rfl

abbrev rmX6_does_f299 : Room := { frames := 5, cells := 0, slots := 0, locals := 116 }
set_option maxHeartbeats 4000000 in
set_option maxRecDepth 100000 in
theorem c_X6_does_f299 {G : zG} (hg : zGN G) (l : Launch) (D : va_G) (cy : Nat → ClassId) (x9 : Nat) (ch : Nat) (era : Int32) (why : Int32) (det : Int32) (cau : Int32) (sv : Bool) (rj : Bool) (v9 : Nat) (b9 : Nat) (s9 : Nat) (k9 : Nat) (p9 : Nat) (t9 : Nat) (n9 : Nat) (tn : Nat) (he : Nat) (en : Nat) (ln : Nat) (iw : Bool) (dg : Bool) (v : Nat → Int32) (a : Nat) (b : Nat) (ha : a < 24) (hba : b < a) : zM G D vwCl (zT cy) l yX6_does wsX6_does rmX6_does_f299 [.ref x9, .int 99, .int (nI a), .int (nI b)] [(x9, .inr (10, [.int 0, .int (nI ch), .int era, .int why, .int det, .int cau, .int (zI sv), .int (zI rj), .ref v9, .ref b9, .ref s9, .ref k9, .ref p9, .ref t9, .ref n9, .int (nI tn), .int (nI he), .int (nI en), .int (nI ln), .int (zI iw), .int (zI dg)])), (v9, .inl (cy 0, 188, .inl v))] (some (.int 0)) [(x9, .inr (10, [.int 2, .int (nI ch), .int era, .int why, .int det, .int cau, .int (zI sv), .int (zI rj), .ref v9, .ref b9, .ref s9, .ref k9, .ref p9, .ref t9, .ref n9, .int (nI tn), .int (nI he), .int (nI en), .int (nI ln), .int (zI iw), .int (zI dg)])), (v9, .inl (cy 0, 188, .inl v))] := by
  refine zM_of (cc := cX6_does) (maxL := 4) (ret := (some .int)) (by decide) rfl (Nat.le_of_ble_eq_true rfl) ?_
  intro p e s m below meth c A Q hend hx hb hml hr hts hown hlk hG hK hP hD hA hS ls hl
  have hown : s.vm.findClass RX6 = some m.cls := hown
  have hl : lv_has ls 4 [(0, .ref x9), (1, .int 99), (2, .int (nI a)), (3, .int (nI b))] := hl
  refine lv_iload_n hx hb dX6_does_0 rfl (lv_at hl 1 rfl) ?_
  refine lv_tableIn (off := 107) (tgt := 108) hx hb dX6_does_1 (by decide) (by decide) (by decide) (by decide) ?_
  refine lv_aload_n hx hb dX6_does_108 rfl (lv_at hl 0 rfl) ?_
  refine lv_iload_n hx hb dX6_does_109 rfl (lv_at hl 2 rfl) ?_
  refine lv_iload_n hx hb dX6_does_110 rfl (lv_at hl 3 rfl) ?_
  refine zcV (As := [.int (nI a), .int (nI b)]) (rest := []) [0] 0 hg.1 ⟨hx, hb, hml, hown, hts⟩ (c_X6_casts_f2 hg l D cy x9 0 ch era why det cau sv rj v9 b9 s9 k9 p9 t9 n9 tn he en ln iw dg a b ha hba) (cwV 2 hts gX6_does_X6_casts rfl rfl rfl (by decide +kernel) ⟨Nat.le_of_ble_eq_true rfl, Nat.le_of_ble_eq_true rfl⟩) hG hK hP hD hS hA rfl rfl (Eq.trans (b := [x9]) rfl rfl) rfl rfl rfl hl.1 rfl (Nat.le_of_ble_eq_true rfl) dX6_does_111 ⟨Nat.zero_le _, Nat.zero_le _⟩ (fun H locs hP hD hS => ?_)
  have hP : va_P D vwCl [(x9, .inr (10, [.int 2, .int (nI ch), .int era, .int why, .int det, .int cau, .int (zI sv), .int (zI rj), .ref v9, .ref b9, .ref s9, .ref k9, .ref p9, .ref t9, .ref n9, .int (nI tn), .int (nI he), .int (nI en), .int (nI ln), .int (zI iw), .int (zI dg)])), (v9, .inl (cy 0, 188, .inl v))] H := hP
  have hD : va_D A [(x9, .inr (10, [.int 2, .int (nI ch), .int era, .int why, .int det, .int cau, .int (zI sv), .int (zI rj), .ref v9, .ref b9, .ref s9, .ref k9, .ref p9, .ref t9, .ref n9, .int (nI tn), .int (nI he), .int (nI en), .int (nI ln), .int (zI iw), .int (zI dg)])), (v9, .inl (cy 0, 188, .inl v))] := hD
  exact ziret hend hx hb hr hlk hK hP hD hS dX6_does_114 rfl rfl

abbrev rmX6_does_ok120 : Room := { frames := 5, cells := 0, slots := 0, locals := 116 }
set_option maxHeartbeats 4000000 in
set_option maxRecDepth 100000 in
theorem c_X6_does_ok120 {G : zG} (hg : zGN G) (l : Launch) (D : va_G) (cy : Nat → ClassId) (x9 : Nat) (ch : Nat) (era : Int32) (why : Int32) (det : Int32) (cau : Int32) (sv : Bool) (rj : Bool) (v9 : Nat) (b9 : Nat) (s9 : Nat) (k9 : Nat) (p9 : Nat) (t9 : Nat) (n9 : Nat) (tn : Nat) (he : Nat) (en : Nat) (ln : Nat) (iw : Bool) (dg : Bool) (v : Nat → Int32) (oq : Int32) (wq2 : Int32) (hn : ¬ zsum (zlo v) 24 = 0) : zM G D vwCl (zT cy) l yX6_does wsX6_does rmX6_does_ok120 [.ref x9, .int 120, .int oq, .int wq2] [(x9, .inr (10, [.int 0, .int (nI ch), .int era, .int why, .int det, .int cau, .int (zI sv), .int (zI rj), .ref v9, .ref b9, .ref s9, .ref k9, .ref p9, .ref t9, .ref n9, .int (nI tn), .int (nI he), .int (nI en), .int (nI ln), .int (zI iw), .int (zI dg)])), (v9, .inl (cy 0, 188, .inl v))] (some (.int (zsum (zlo v) 24))) [(x9, .inr (10, [.int 0, .int (nI ch), .int era, .int why, .int det, .int cau, .int (zI sv), .int (zI rj), .ref v9, .ref b9, .ref s9, .ref k9, .ref p9, .ref t9, .ref n9, .int (nI tn), .int (nI he), .int (nI en), .int (nI ln), .int (zI iw), .int (zI dg)])), (v9, .inl (cy 0, 188, .inl (zfin v)))] := by
  refine zM_of (cc := cX6_does) (maxL := 4) (ret := (some .int)) (by decide) rfl (Nat.le_of_ble_eq_true rfl) ?_
  intro p e s m below meth c A Q hend hx hb hml hr hts hown hlk hG hK hP hD hA hS ls hl
  have hown : s.vm.findClass RX6 = some m.cls := hown
  have hl : lv_has ls 4 [(0, .ref x9), (1, .int 120), (2, .int oq), (3, .int wq2)] := hl
  refine lv_iload_n hx hb dX6_does_0 rfl (lv_at hl 1 rfl) ?_
  refine lv_tableIn (off := 114) (tgt := 115) hx hb dX6_does_1 (by decide) (by decide) (by decide) (by decide) ?_
  refine lv_aload_n hx hb dX6_does_115 rfl (lv_at hl 0 rfl) ?_
  refine zcV (As := []) (rest := []) [0, 1] 0 hg.1 ⟨hx, hb, hml, hown, hts⟩ (c_X6_finishes_ok hg l D cy x9 0 ch era why det cau sv rj v9 b9 s9 k9 p9 t9 n9 tn he en ln iw dg v hn) (cwV 0 hts gX6_does_X6_finishes rfl rfl rfl (by decide +kernel) ⟨Nat.le_of_ble_eq_true rfl, Nat.le_of_ble_eq_true rfl⟩) hG hK hP hD hS hA rfl rfl (Eq.trans (b := [x9, v9]) rfl rfl) rfl rfl rfl hl.1 rfl (Nat.le_of_ble_eq_true rfl) dX6_does_116 ⟨Nat.zero_le _, Nat.zero_le _⟩ (fun H locs hP hD hS => ?_)
  have hP : va_P D vwCl [(x9, .inr (10, [.int 0, .int (nI ch), .int era, .int why, .int det, .int cau, .int (zI sv), .int (zI rj), .ref v9, .ref b9, .ref s9, .ref k9, .ref p9, .ref t9, .ref n9, .int (nI tn), .int (nI he), .int (nI en), .int (nI ln), .int (zI iw), .int (zI dg)])), (v9, .inl (cy 0, 188, .inl (zfin v)))] H := hP
  have hD : va_D A [(x9, .inr (10, [.int 0, .int (nI ch), .int era, .int why, .int det, .int cau, .int (zI sv), .int (zI rj), .ref v9, .ref b9, .ref s9, .ref k9, .ref p9, .ref t9, .ref n9, .int (nI tn), .int (nI he), .int (nI en), .int (nI ln), .int (zI iw), .int (zI dg)])), (v9, .inl (cy 0, 188, .inl (zfin v)))] := hD
  exact ziret hend hx hb hr hlk hK hP hD hS dX6_does_119 rfl rfl

abbrev rmX6_does_rej120 : Room := { frames := 5, cells := 0, slots := 0, locals := 116 }
set_option maxHeartbeats 4000000 in
set_option maxRecDepth 100000 in
theorem c_X6_does_rej120 {G : zG} (hg : zGN G) (l : Launch) (D : va_G) (cy : Nat → ClassId) (x9 : Nat) (ch : Nat) (era : Int32) (why : Int32) (det : Int32) (cau : Int32) (sv : Bool) (rj : Bool) (v9 : Nat) (b9 : Nat) (s9 : Nat) (k9 : Nat) (p9 : Nat) (t9 : Nat) (n9 : Nat) (tn : Nat) (he : Nat) (en : Nat) (ln : Nat) (iw : Bool) (dg : Bool) (v : Nat → Int32) (oq : Int32) (wq2 : Int32) (hn : zsum (zlo v) 24 = 0) (hsq : zbok 40 (v 0)) : zM G D vwCl (zT cy) l yX6_does wsX6_does rmX6_does_rej120 [.ref x9, .int 120, .int oq, .int wq2] [(x9, .inr (10, [.int 0, .int (nI ch), .int era, .int why, .int det, .int cau, .int (zI sv), .int (zI rj), .ref v9, .ref b9, .ref s9, .ref k9, .ref p9, .ref t9, .ref n9, .int (nI tn), .int (nI he), .int (nI en), .int (nI ln), .int (zI iw), .int (zI dg)])), (v9, .inl (cy 0, 188, .inl v))] (some (.int 0)) [(x9, .inr (10, [.int 1, .int (nI ch), .int era, .int 3, .int (zbc 40 (v 0) 0), .int 0, .int (zI sv), .int (zI true), .ref v9, .ref b9, .ref s9, .ref k9, .ref p9, .ref t9, .ref n9, .int (nI tn), .int (nI he), .int (nI en), .int (nI ln), .int (zI iw), .int (zI dg)])), (v9, .inl (cy 0, 188, .inl v))] := by
  refine zM_of (cc := cX6_does) (maxL := 4) (ret := (some .int)) (by decide) rfl (Nat.le_of_ble_eq_true rfl) ?_
  intro p e s m below meth c A Q hend hx hb hml hr hts hown hlk hG hK hP hD hA hS ls hl
  have hown : s.vm.findClass RX6 = some m.cls := hown
  have hl : lv_has ls 4 [(0, .ref x9), (1, .int 120), (2, .int oq), (3, .int wq2)] := hl
  refine lv_iload_n hx hb dX6_does_0 rfl (lv_at hl 1 rfl) ?_
  refine lv_tableIn (off := 114) (tgt := 115) hx hb dX6_does_1 (by decide) (by decide) (by decide) (by decide) ?_
  refine lv_aload_n hx hb dX6_does_115 rfl (lv_at hl 0 rfl) ?_
  refine zcV (As := []) (rest := []) [0, 1] 0 hg.1 ⟨hx, hb, hml, hown, hts⟩ (c_X6_finishes_rej hg l D cy x9 0 ch era why det cau sv rj v9 b9 s9 k9 p9 t9 n9 tn he en ln iw dg v hn hsq) (cwV 0 hts gX6_does_X6_finishes rfl rfl rfl (by decide +kernel) ⟨Nat.le_of_ble_eq_true rfl, Nat.le_of_ble_eq_true rfl⟩) hG hK hP hD hS hA rfl rfl (Eq.trans (b := [x9, v9]) rfl rfl) rfl rfl rfl hl.1 rfl (Nat.le_of_ble_eq_true rfl) dX6_does_116 ⟨Nat.zero_le _, Nat.zero_le _⟩ (fun H locs hP hD hS => ?_)
  have hP : va_P D vwCl [(x9, .inr (10, [.int 1, .int (nI ch), .int era, .int 3, .int (zbc 40 (v 0) 0), .int 0, .int (zI sv), .int (zI true), .ref v9, .ref b9, .ref s9, .ref k9, .ref p9, .ref t9, .ref n9, .int (nI tn), .int (nI he), .int (nI en), .int (nI ln), .int (zI iw), .int (zI dg)])), (v9, .inl (cy 0, 188, .inl v))] H := hP
  have hD : va_D A [(x9, .inr (10, [.int 1, .int (nI ch), .int era, .int 3, .int (zbc 40 (v 0) 0), .int 0, .int (zI sv), .int (zI true), .ref v9, .ref b9, .ref s9, .ref k9, .ref p9, .ref t9, .ref n9, .int (nI tn), .int (nI he), .int (nI en), .int (nI ln), .int (zI iw), .int (zI dg)])), (v9, .inl (cy 0, 188, .inl v))] := hD
  exact ziret hend hx hb hr hlk hK hP hD hS dX6_does_119 rfl rfl

abbrev rmX6_does_ok104 : Room := { frames := 5, cells := 0, slots := 0, locals := 116 }
set_option maxHeartbeats 4000000 in
set_option maxRecDepth 100000 in
theorem c_X6_does_ok104 {G : zG} (hg : zGN G) (l : Launch) (D : va_G) (cy : Nat → ClassId) (x9 : Nat) (ch : Nat) (era : Int32) (why : Int32) (det : Int32) (cau : Int32) (sv : Bool) (rj : Bool) (v9 : Nat) (b9 : Nat) (s9 : Nat) (k9 : Nat) (p9 : Nat) (t9 : Nat) (n9 : Nat) (tn : Nat) (he : Nat) (en : Nat) (ln : Nat) (iw : Bool) (dg : Bool) (v : Nat → Int32) (a : Nat) (wq2 : Int32) (ha : a < 24) (hr0 : zrH (v 0) (v 1) a = 0) (hsq : zbok 40 (v 1 ||| (1 <<< (nI a &&& 31)))) : zM G D vwCl (zT cy) l yX6_does wsX6_does rmX6_does_ok104 [.ref x9, .int 104, .int (nI a), .int wq2] [(x9, .inr (10, [.int 0, .int (nI ch), .int era, .int why, .int det, .int cau, .int (zI sv), .int (zI rj), .ref v9, .ref b9, .ref s9, .ref k9, .ref p9, .ref t9, .ref n9, .int (nI tn), .int (nI he), .int (nI en), .int (nI ln), .int (zI iw), .int (zI dg)])), (v9, .inl (cy 0, 188, .inl v))] (some (.int (zbc 40 (v 1 ||| (1 <<< (nI a &&& 31))) 0))) [(x9, .inr (10, [.int 0, .int (nI ch), .int era, .int why, .int det, .int cau, .int (zI sv), .int (zI rj), .ref v9, .ref b9, .ref s9, .ref k9, .ref p9, .ref t9, .ref n9, .int (nI tn), .int (nI he), .int (nI en), .int (nI ln), .int (zI iw), .int (zI dg)])), (v9, .inl (cy 0, 188, .inl (upd v 1 (v 1 ||| (1 <<< (nI a &&& 31))))))] := by
  refine zM_of (cc := cX6_does) (maxL := 4) (ret := (some .int)) (by decide) rfl (Nat.le_of_ble_eq_true rfl) ?_
  intro p e s m below meth c A Q hend hx hb hml hr hts hown hlk hG hK hP hD hA hS ls hl
  have hown : s.vm.findClass RX6 = some m.cls := hown
  have hl : lv_has ls 4 [(0, .ref x9), (1, .int 104), (2, .int (nI a)), (3, .int wq2)] := hl
  refine lv_iload_n hx hb dX6_does_0 rfl (lv_at hl 1 rfl) ?_
  refine lv_tableIn (off := 119) (tgt := 120) hx hb dX6_does_1 (by decide) (by decide) (by decide) (by decide) ?_
  refine lv_aload_n hx hb dX6_does_120 rfl (lv_at hl 0 rfl) ?_
  refine lv_iload_n hx hb dX6_does_121 rfl (lv_at hl 2 rfl) ?_
  refine zcV (As := [.int (nI a)]) (rest := []) [0, 1] 0 hg.1 ⟨hx, hb, hml, hown, hts⟩ (c_X6_holds_ok hg l D cy x9 0 ch era why det cau sv rj v9 b9 s9 k9 p9 t9 n9 tn he en ln iw dg v a ha hr0 hsq) (cwV 1 hts gX6_does_X6_holds rfl rfl rfl (by decide +kernel) ⟨Nat.le_of_ble_eq_true rfl, Nat.le_of_ble_eq_true rfl⟩) hG hK hP hD hS hA rfl rfl (Eq.trans (b := [x9, v9]) rfl rfl) rfl rfl rfl hl.1 rfl (Nat.le_of_ble_eq_true rfl) dX6_does_122 ⟨Nat.zero_le _, Nat.zero_le _⟩ (fun H locs hP hD hS => ?_)
  have hP : va_P D vwCl [(x9, .inr (10, [.int 0, .int (nI ch), .int era, .int why, .int det, .int cau, .int (zI sv), .int (zI rj), .ref v9, .ref b9, .ref s9, .ref k9, .ref p9, .ref t9, .ref n9, .int (nI tn), .int (nI he), .int (nI en), .int (nI ln), .int (zI iw), .int (zI dg)])), (v9, .inl (cy 0, 188, .inl (upd v 1 (v 1 ||| (1 <<< (nI a &&& 31))))))] H := hP
  have hD : va_D A [(x9, .inr (10, [.int 0, .int (nI ch), .int era, .int why, .int det, .int cau, .int (zI sv), .int (zI rj), .ref v9, .ref b9, .ref s9, .ref k9, .ref p9, .ref t9, .ref n9, .int (nI tn), .int (nI he), .int (nI en), .int (nI ln), .int (zI iw), .int (zI dg)])), (v9, .inl (cy 0, 188, .inl (upd v 1 (v 1 ||| (1 <<< (nI a &&& 31))))))] := hD
  exact ziret hend hx hb hr hlk hK hP hD hS dX6_does_125 rfl rfl

abbrev rmX6_does_rej104 : Room := { frames := 5, cells := 0, slots := 0, locals := 116 }
set_option maxHeartbeats 4000000 in
set_option maxRecDepth 100000 in
theorem c_X6_does_rej104 {G : zG} (hg : zGN G) (l : Launch) (D : va_G) (cy : Nat → ClassId) (x9 : Nat) (ch : Nat) (era : Int32) (why : Int32) (det : Int32) (cau : Int32) (sv : Bool) (rj : Bool) (v9 : Nat) (b9 : Nat) (s9 : Nat) (k9 : Nat) (p9 : Nat) (t9 : Nat) (n9 : Nat) (tn : Nat) (he : Nat) (en : Nat) (ln : Nat) (iw : Bool) (dg : Bool) (v : Nat → Int32) (a : Nat) (wq2 : Int32) (ha : a < 24) (hr0 : ¬ zrH (v 0) (v 1) a = 0) : zM G D vwCl (zT cy) l yX6_does wsX6_does rmX6_does_rej104 [.ref x9, .int 104, .int (nI a), .int wq2] [(x9, .inr (10, [.int 0, .int (nI ch), .int era, .int why, .int det, .int cau, .int (zI sv), .int (zI rj), .ref v9, .ref b9, .ref s9, .ref k9, .ref p9, .ref t9, .ref n9, .int (nI tn), .int (nI he), .int (nI en), .int (nI ln), .int (zI iw), .int (zI dg)])), (v9, .inl (cy 0, 188, .inl v))] (some (.int 0)) [(x9, .inr (10, [.int 2, .int (nI ch), .int era, .int (zrH (v 0) (v 1) a), .int (nI a), .int 0, .int (zI sv), .int (zI true), .ref v9, .ref b9, .ref s9, .ref k9, .ref p9, .ref t9, .ref n9, .int (nI tn), .int (nI he), .int (nI en), .int (nI ln), .int (zI iw), .int (zI dg)])), (v9, .inl (cy 0, 188, .inl v))] := by
  refine zM_of (cc := cX6_does) (maxL := 4) (ret := (some .int)) (by decide) rfl (Nat.le_of_ble_eq_true rfl) ?_
  intro p e s m below meth c A Q hend hx hb hml hr hts hown hlk hG hK hP hD hA hS ls hl
  have hown : s.vm.findClass RX6 = some m.cls := hown
  have hl : lv_has ls 4 [(0, .ref x9), (1, .int 104), (2, .int (nI a)), (3, .int wq2)] := hl
  refine lv_iload_n hx hb dX6_does_0 rfl (lv_at hl 1 rfl) ?_
  refine lv_tableIn (off := 119) (tgt := 120) hx hb dX6_does_1 (by decide) (by decide) (by decide) (by decide) ?_
  refine lv_aload_n hx hb dX6_does_120 rfl (lv_at hl 0 rfl) ?_
  refine lv_iload_n hx hb dX6_does_121 rfl (lv_at hl 2 rfl) ?_
  refine zcV (As := [.int (nI a)]) (rest := []) [0, 1] 0 hg.1 ⟨hx, hb, hml, hown, hts⟩ (c_X6_holds_rej hg l D cy x9 0 ch era why det cau sv rj v9 b9 s9 k9 p9 t9 n9 tn he en ln iw dg v a ha hr0) (cwV 1 hts gX6_does_X6_holds rfl rfl rfl (by decide +kernel) ⟨Nat.le_of_ble_eq_true rfl, Nat.le_of_ble_eq_true rfl⟩) hG hK hP hD hS hA rfl rfl (Eq.trans (b := [x9, v9]) rfl rfl) rfl rfl rfl hl.1 rfl (Nat.le_of_ble_eq_true rfl) dX6_does_122 ⟨Nat.zero_le _, Nat.zero_le _⟩ (fun H locs hP hD hS => ?_)
  have hP : va_P D vwCl [(x9, .inr (10, [.int 2, .int (nI ch), .int era, .int (zrH (v 0) (v 1) a), .int (nI a), .int 0, .int (zI sv), .int (zI true), .ref v9, .ref b9, .ref s9, .ref k9, .ref p9, .ref t9, .ref n9, .int (nI tn), .int (nI he), .int (nI en), .int (nI ln), .int (zI iw), .int (zI dg)])), (v9, .inl (cy 0, 188, .inl v))] H := hP
  have hD : va_D A [(x9, .inr (10, [.int 2, .int (nI ch), .int era, .int (zrH (v 0) (v 1) a), .int (nI a), .int 0, .int (zI sv), .int (zI true), .ref v9, .ref b9, .ref s9, .ref k9, .ref p9, .ref t9, .ref n9, .int (nI tn), .int (nI he), .int (nI en), .int (nI ln), .int (zI iw), .int (zI dg)])), (v9, .inl (cy 0, 188, .inl v))] := hD
  exact ziret hend hx hb hr hlk hK hP hD hS dX6_does_125 rfl rfl

abbrev rmX6_does_f1104 : Room := { frames := 5, cells := 0, slots := 0, locals := 116 }
set_option maxHeartbeats 4000000 in
set_option maxRecDepth 100000 in
theorem c_X6_does_f1104 {G : zG} (hg : zGN G) (l : Launch) (D : va_G) (cy : Nat → ClassId) (x9 : Nat) (ch : Nat) (era : Int32) (why : Int32) (det : Int32) (cau : Int32) (sv : Bool) (rj : Bool) (v9 : Nat) (b9 : Nat) (s9 : Nat) (k9 : Nat) (p9 : Nat) (t9 : Nat) (n9 : Nat) (tn : Nat) (he : Nat) (en : Nat) (ln : Nat) (iw : Bool) (dg : Bool) (v : Nat → Int32) (nq : Int32) (wq2 : Int32) (hq : zic 0 23 nq = false) : zM G D vwCl (zT cy) l yX6_does wsX6_does rmX6_does_f1104 [.ref x9, .int 104, .int nq, .int wq2] [(x9, .inr (10, [.int 0, .int (nI ch), .int era, .int why, .int det, .int cau, .int (zI sv), .int (zI rj), .ref v9, .ref b9, .ref s9, .ref k9, .ref p9, .ref t9, .ref n9, .int (nI tn), .int (nI he), .int (nI en), .int (nI ln), .int (zI iw), .int (zI dg)])), (v9, .inl (cy 0, 188, .inl v))] (some (.int 0)) [(x9, .inr (10, [.int 1, .int (nI ch), .int era, .int why, .int det, .int cau, .int (zI sv), .int (zI rj), .ref v9, .ref b9, .ref s9, .ref k9, .ref p9, .ref t9, .ref n9, .int (nI tn), .int (nI he), .int (nI en), .int (nI ln), .int (zI iw), .int (zI dg)])), (v9, .inl (cy 0, 188, .inl v))] := by
  refine zM_of (cc := cX6_does) (maxL := 4) (ret := (some .int)) (by decide) rfl (Nat.le_of_ble_eq_true rfl) ?_
  intro p e s m below meth c A Q hend hx hb hml hr hts hown hlk hG hK hP hD hA hS ls hl
  have hown : s.vm.findClass RX6 = some m.cls := hown
  have hl : lv_has ls 4 [(0, .ref x9), (1, .int 104), (2, .int nq), (3, .int wq2)] := hl
  refine lv_iload_n hx hb dX6_does_0 rfl (lv_at hl 1 rfl) ?_
  refine lv_tableIn (off := 119) (tgt := 120) hx hb dX6_does_1 (by decide) (by decide) (by decide) (by decide) ?_
  refine lv_aload_n hx hb dX6_does_120 rfl (lv_at hl 0 rfl) ?_
  refine lv_iload_n hx hb dX6_does_121 rfl (lv_at hl 2 rfl) ?_
  refine zcV (As := [.int nq]) (rest := []) [0] 0 hg.1 ⟨hx, hb, hml, hown, hts⟩ (c_X6_holds_f1 hg l D cy x9 0 ch era why det cau sv rj v9 b9 s9 k9 p9 t9 n9 tn he en ln iw dg nq hq) (cwV 1 hts gX6_does_X6_holds rfl rfl rfl (by decide +kernel) ⟨Nat.le_of_ble_eq_true rfl, Nat.le_of_ble_eq_true rfl⟩) hG hK hP hD hS hA rfl rfl (Eq.trans (b := [x9]) rfl rfl) rfl rfl rfl hl.1 rfl (Nat.le_of_ble_eq_true rfl) dX6_does_122 ⟨Nat.zero_le _, Nat.zero_le _⟩ (fun H locs hP hD hS => ?_)
  have hP : va_P D vwCl [(x9, .inr (10, [.int 1, .int (nI ch), .int era, .int why, .int det, .int cau, .int (zI sv), .int (zI rj), .ref v9, .ref b9, .ref s9, .ref k9, .ref p9, .ref t9, .ref n9, .int (nI tn), .int (nI he), .int (nI en), .int (nI ln), .int (zI iw), .int (zI dg)])), (v9, .inl (cy 0, 188, .inl v))] H := hP
  have hD : va_D A [(x9, .inr (10, [.int 1, .int (nI ch), .int era, .int why, .int det, .int cau, .int (zI sv), .int (zI rj), .ref v9, .ref b9, .ref s9, .ref k9, .ref p9, .ref t9, .ref n9, .int (nI tn), .int (nI he), .int (nI en), .int (nI ln), .int (zI iw), .int (zI dg)])), (v9, .inl (cy 0, 188, .inl v))] := hD
  exact ziret hend hx hb hr hlk hK hP hD hS dX6_does_125 rfl rfl

abbrev rmX6_does_ok114 : Room := { frames := 5, cells := 0, slots := 0, locals := 116 }
set_option maxHeartbeats 4000000 in
set_option maxRecDepth 100000 in
theorem c_X6_does_ok114 {G : zG} (hg : zGN G) (l : Launch) (D : va_G) (cy : Nat → ClassId) (x9 : Nat) (ch : Nat) (era : Int32) (why : Int32) (det : Int32) (cau : Int32) (sv : Bool) (rj : Bool) (v9 : Nat) (b9 : Nat) (s9 : Nat) (k9 : Nat) (p9 : Nat) (t9 : Nat) (n9 : Nat) (tn : Nat) (he : Nat) (en : Nat) (ln : Nat) (iw : Bool) (dg : Bool) (v : Nat → Int32) (a : Nat) (wq2 : Int32) (ha : a < 24) (hr0 : zrL (v 1) a = 0) (hsq : zbok 40 (v 1 ^^^ (1 <<< (nI a &&& 31)))) : zM G D vwCl (zT cy) l yX6_does wsX6_does rmX6_does_ok114 [.ref x9, .int 114, .int (nI a), .int wq2] [(x9, .inr (10, [.int 0, .int (nI ch), .int era, .int why, .int det, .int cau, .int (zI sv), .int (zI rj), .ref v9, .ref b9, .ref s9, .ref k9, .ref p9, .ref t9, .ref n9, .int (nI tn), .int (nI he), .int (nI en), .int (nI ln), .int (zI iw), .int (zI dg)])), (v9, .inl (cy 0, 188, .inl v))] (some (.int (zbc 40 (v 1 ^^^ (1 <<< (nI a &&& 31))) 0))) [(x9, .inr (10, [.int 0, .int (nI ch), .int era, .int why, .int det, .int cau, .int (zI sv), .int (zI rj), .ref v9, .ref b9, .ref s9, .ref k9, .ref p9, .ref t9, .ref n9, .int (nI tn), .int (nI he), .int (nI en), .int (nI ln), .int (zI iw), .int (zI dg)])), (v9, .inl (cy 0, 188, .inl (upd v 1 (v 1 ^^^ (1 <<< (nI a &&& 31))))))] := by
  refine zM_of (cc := cX6_does) (maxL := 4) (ret := (some .int)) (by decide) rfl (Nat.le_of_ble_eq_true rfl) ?_
  intro p e s m below meth c A Q hend hx hb hml hr hts hown hlk hG hK hP hD hA hS ls hl
  have hown : s.vm.findClass RX6 = some m.cls := hown
  have hl : lv_has ls 4 [(0, .ref x9), (1, .int 114), (2, .int (nI a)), (3, .int wq2)] := hl
  refine lv_iload_n hx hb dX6_does_0 rfl (lv_at hl 1 rfl) ?_
  refine lv_tableIn (off := 125) (tgt := 126) hx hb dX6_does_1 (by decide) (by decide) (by decide) (by decide) ?_
  refine lv_aload_n hx hb dX6_does_126 rfl (lv_at hl 0 rfl) ?_
  refine lv_iload_n hx hb dX6_does_127 rfl (lv_at hl 2 rfl) ?_
  refine zcV (As := [.int (nI a)]) (rest := []) [0, 1] 0 hg.1 ⟨hx, hb, hml, hown, hts⟩ (c_X6_frees_ok hg l D cy x9 0 ch era why det cau sv rj v9 b9 s9 k9 p9 t9 n9 tn he en ln iw dg v a ha hr0 hsq) (cwV 1 hts gX6_does_X6_frees rfl rfl rfl (by decide +kernel) ⟨Nat.le_of_ble_eq_true rfl, Nat.le_of_ble_eq_true rfl⟩) hG hK hP hD hS hA rfl rfl (Eq.trans (b := [x9, v9]) rfl rfl) rfl rfl rfl hl.1 rfl (Nat.le_of_ble_eq_true rfl) dX6_does_128 ⟨Nat.zero_le _, Nat.zero_le _⟩ (fun H locs hP hD hS => ?_)
  have hP : va_P D vwCl [(x9, .inr (10, [.int 0, .int (nI ch), .int era, .int why, .int det, .int cau, .int (zI sv), .int (zI rj), .ref v9, .ref b9, .ref s9, .ref k9, .ref p9, .ref t9, .ref n9, .int (nI tn), .int (nI he), .int (nI en), .int (nI ln), .int (zI iw), .int (zI dg)])), (v9, .inl (cy 0, 188, .inl (upd v 1 (v 1 ^^^ (1 <<< (nI a &&& 31))))))] H := hP
  have hD : va_D A [(x9, .inr (10, [.int 0, .int (nI ch), .int era, .int why, .int det, .int cau, .int (zI sv), .int (zI rj), .ref v9, .ref b9, .ref s9, .ref k9, .ref p9, .ref t9, .ref n9, .int (nI tn), .int (nI he), .int (nI en), .int (nI ln), .int (zI iw), .int (zI dg)])), (v9, .inl (cy 0, 188, .inl (upd v 1 (v 1 ^^^ (1 <<< (nI a &&& 31))))))] := hD
  exact ziret hend hx hb hr hlk hK hP hD hS dX6_does_131 rfl rfl

abbrev rmX6_does_rej114 : Room := { frames := 5, cells := 0, slots := 0, locals := 116 }
set_option maxHeartbeats 4000000 in
set_option maxRecDepth 100000 in
theorem c_X6_does_rej114 {G : zG} (hg : zGN G) (l : Launch) (D : va_G) (cy : Nat → ClassId) (x9 : Nat) (ch : Nat) (era : Int32) (why : Int32) (det : Int32) (cau : Int32) (sv : Bool) (rj : Bool) (v9 : Nat) (b9 : Nat) (s9 : Nat) (k9 : Nat) (p9 : Nat) (t9 : Nat) (n9 : Nat) (tn : Nat) (he : Nat) (en : Nat) (ln : Nat) (iw : Bool) (dg : Bool) (v : Nat → Int32) (a : Nat) (wq2 : Int32) (ha : a < 24) (hr0 : ¬ zrL (v 1) a = 0) : zM G D vwCl (zT cy) l yX6_does wsX6_does rmX6_does_rej114 [.ref x9, .int 114, .int (nI a), .int wq2] [(x9, .inr (10, [.int 0, .int (nI ch), .int era, .int why, .int det, .int cau, .int (zI sv), .int (zI rj), .ref v9, .ref b9, .ref s9, .ref k9, .ref p9, .ref t9, .ref n9, .int (nI tn), .int (nI he), .int (nI en), .int (nI ln), .int (zI iw), .int (zI dg)])), (v9, .inl (cy 0, 188, .inl v))] (some (.int 0)) [(x9, .inr (10, [.int 2, .int (nI ch), .int era, .int (zrL (v 1) a), .int (nI a), .int 0, .int (zI sv), .int (zI true), .ref v9, .ref b9, .ref s9, .ref k9, .ref p9, .ref t9, .ref n9, .int (nI tn), .int (nI he), .int (nI en), .int (nI ln), .int (zI iw), .int (zI dg)])), (v9, .inl (cy 0, 188, .inl v))] := by
  refine zM_of (cc := cX6_does) (maxL := 4) (ret := (some .int)) (by decide) rfl (Nat.le_of_ble_eq_true rfl) ?_
  intro p e s m below meth c A Q hend hx hb hml hr hts hown hlk hG hK hP hD hA hS ls hl
  have hown : s.vm.findClass RX6 = some m.cls := hown
  have hl : lv_has ls 4 [(0, .ref x9), (1, .int 114), (2, .int (nI a)), (3, .int wq2)] := hl
  refine lv_iload_n hx hb dX6_does_0 rfl (lv_at hl 1 rfl) ?_
  refine lv_tableIn (off := 125) (tgt := 126) hx hb dX6_does_1 (by decide) (by decide) (by decide) (by decide) ?_
  refine lv_aload_n hx hb dX6_does_126 rfl (lv_at hl 0 rfl) ?_
  refine lv_iload_n hx hb dX6_does_127 rfl (lv_at hl 2 rfl) ?_
  refine zcV (As := [.int (nI a)]) (rest := []) [0, 1] 0 hg.1 ⟨hx, hb, hml, hown, hts⟩ (c_X6_frees_rej hg l D cy x9 0 ch era why det cau sv rj v9 b9 s9 k9 p9 t9 n9 tn he en ln iw dg v a ha hr0) (cwV 1 hts gX6_does_X6_frees rfl rfl rfl (by decide +kernel) ⟨Nat.le_of_ble_eq_true rfl, Nat.le_of_ble_eq_true rfl⟩) hG hK hP hD hS hA rfl rfl (Eq.trans (b := [x9, v9]) rfl rfl) rfl rfl rfl hl.1 rfl (Nat.le_of_ble_eq_true rfl) dX6_does_128 ⟨Nat.zero_le _, Nat.zero_le _⟩ (fun H locs hP hD hS => ?_)
  have hP : va_P D vwCl [(x9, .inr (10, [.int 2, .int (nI ch), .int era, .int (zrL (v 1) a), .int (nI a), .int 0, .int (zI sv), .int (zI true), .ref v9, .ref b9, .ref s9, .ref k9, .ref p9, .ref t9, .ref n9, .int (nI tn), .int (nI he), .int (nI en), .int (nI ln), .int (zI iw), .int (zI dg)])), (v9, .inl (cy 0, 188, .inl v))] H := hP
  have hD : va_D A [(x9, .inr (10, [.int 2, .int (nI ch), .int era, .int (zrL (v 1) a), .int (nI a), .int 0, .int (zI sv), .int (zI true), .ref v9, .ref b9, .ref s9, .ref k9, .ref p9, .ref t9, .ref n9, .int (nI tn), .int (nI he), .int (nI en), .int (nI ln), .int (zI iw), .int (zI dg)])), (v9, .inl (cy 0, 188, .inl v))] := hD
  exact ziret hend hx hb hr hlk hK hP hD hS dX6_does_131 rfl rfl

abbrev rmX6_does_f1114 : Room := { frames := 5, cells := 0, slots := 0, locals := 116 }
set_option maxHeartbeats 4000000 in
set_option maxRecDepth 100000 in
theorem c_X6_does_f1114 {G : zG} (hg : zGN G) (l : Launch) (D : va_G) (cy : Nat → ClassId) (x9 : Nat) (ch : Nat) (era : Int32) (why : Int32) (det : Int32) (cau : Int32) (sv : Bool) (rj : Bool) (v9 : Nat) (b9 : Nat) (s9 : Nat) (k9 : Nat) (p9 : Nat) (t9 : Nat) (n9 : Nat) (tn : Nat) (he : Nat) (en : Nat) (ln : Nat) (iw : Bool) (dg : Bool) (v : Nat → Int32) (nq : Int32) (wq2 : Int32) (hq : zic 0 23 nq = false) : zM G D vwCl (zT cy) l yX6_does wsX6_does rmX6_does_f1114 [.ref x9, .int 114, .int nq, .int wq2] [(x9, .inr (10, [.int 0, .int (nI ch), .int era, .int why, .int det, .int cau, .int (zI sv), .int (zI rj), .ref v9, .ref b9, .ref s9, .ref k9, .ref p9, .ref t9, .ref n9, .int (nI tn), .int (nI he), .int (nI en), .int (nI ln), .int (zI iw), .int (zI dg)])), (v9, .inl (cy 0, 188, .inl v))] (some (.int 0)) [(x9, .inr (10, [.int 1, .int (nI ch), .int era, .int why, .int det, .int cau, .int (zI sv), .int (zI rj), .ref v9, .ref b9, .ref s9, .ref k9, .ref p9, .ref t9, .ref n9, .int (nI tn), .int (nI he), .int (nI en), .int (nI ln), .int (zI iw), .int (zI dg)])), (v9, .inl (cy 0, 188, .inl v))] := by
  refine zM_of (cc := cX6_does) (maxL := 4) (ret := (some .int)) (by decide) rfl (Nat.le_of_ble_eq_true rfl) ?_
  intro p e s m below meth c A Q hend hx hb hml hr hts hown hlk hG hK hP hD hA hS ls hl
  have hown : s.vm.findClass RX6 = some m.cls := hown
  have hl : lv_has ls 4 [(0, .ref x9), (1, .int 114), (2, .int nq), (3, .int wq2)] := hl
  refine lv_iload_n hx hb dX6_does_0 rfl (lv_at hl 1 rfl) ?_
  refine lv_tableIn (off := 125) (tgt := 126) hx hb dX6_does_1 (by decide) (by decide) (by decide) (by decide) ?_
  refine lv_aload_n hx hb dX6_does_126 rfl (lv_at hl 0 rfl) ?_
  refine lv_iload_n hx hb dX6_does_127 rfl (lv_at hl 2 rfl) ?_
  refine zcV (As := [.int nq]) (rest := []) [0] 0 hg.1 ⟨hx, hb, hml, hown, hts⟩ (c_X6_frees_f1 hg l D cy x9 0 ch era why det cau sv rj v9 b9 s9 k9 p9 t9 n9 tn he en ln iw dg nq hq) (cwV 1 hts gX6_does_X6_frees rfl rfl rfl (by decide +kernel) ⟨Nat.le_of_ble_eq_true rfl, Nat.le_of_ble_eq_true rfl⟩) hG hK hP hD hS hA rfl rfl (Eq.trans (b := [x9]) rfl rfl) rfl rfl rfl hl.1 rfl (Nat.le_of_ble_eq_true rfl) dX6_does_128 ⟨Nat.zero_le _, Nat.zero_le _⟩ (fun H locs hP hD hS => ?_)
  have hP : va_P D vwCl [(x9, .inr (10, [.int 1, .int (nI ch), .int era, .int why, .int det, .int cau, .int (zI sv), .int (zI rj), .ref v9, .ref b9, .ref s9, .ref k9, .ref p9, .ref t9, .ref n9, .int (nI tn), .int (nI he), .int (nI en), .int (nI ln), .int (zI iw), .int (zI dg)])), (v9, .inl (cy 0, 188, .inl v))] H := hP
  have hD : va_D A [(x9, .inr (10, [.int 1, .int (nI ch), .int era, .int why, .int det, .int cau, .int (zI sv), .int (zI rj), .ref v9, .ref b9, .ref s9, .ref k9, .ref p9, .ref t9, .ref n9, .int (nI tn), .int (nI he), .int (nI en), .int (nI ln), .int (zI iw), .int (zI dg)])), (v9, .inl (cy 0, 188, .inl v))] := hD
  exact ziret hend hx hb hr hlk hK hP hD hS dX6_does_131 rfl rfl

abbrev rmX6_does_ok100 : Room := { frames := 5, cells := 0, slots := 0, locals := 116 }
set_option maxHeartbeats 4000000 in
set_option maxRecDepth 100000 in
theorem c_X6_does_ok100 {G : zG} (hg : zGN G) (l : Launch) (D : va_G) (cy : Nat → ClassId) (x9 : Nat) (ch : Nat) (era : Int32) (why : Int32) (det : Int32) (cau : Int32) (sv : Bool) (rj : Bool) (v9 : Nat) (b9 : Nat) (s9 : Nat) (k9 : Nat) (p9 : Nat) (t9 : Nat) (n9 : Nat) (tn : Nat) (he : Nat) (en : Nat) (ln : Nat) (iw : Bool) (dg : Bool) (v : Nat → Int32) (a : Nat) (wq2 : Int32) (ha : a < 24) (hr0 : zrT (zlo v) (v 0) a = 0) : zM G D vwCl (zT cy) l yX6_does wsX6_does rmX6_does_ok100 [.ref x9, .int 100, .int (nI a), .int wq2] [(x9, .inr (10, [.int 0, .int (nI ch), .int era, .int why, .int det, .int cau, .int (zI sv), .int (zI rj), .ref v9, .ref b9, .ref s9, .ref k9, .ref p9, .ref t9, .ref n9, .int (nI tn), .int (nI he), .int (nI en), .int (nI ln), .int (zI iw), .int (zI dg)])), (v9, .inl (cy 0, 188, .inl v))] (some (.int (v (10 + a)))) [(x9, .inr (10, [.int 0, .int (nI ch), .int era, .int why, .int det, .int cau, .int (zI sv), .int (zI rj), .ref v9, .ref b9, .ref s9, .ref k9, .ref p9, .ref t9, .ref n9, .int (nI tn), .int (nI he), .int (nI en), .int (nI ln), .int (zI iw), .int (zI dg)])), (v9, .inl (cy 0, 188, .inl (upd (zpt v a 0 0) 9 (zpt v a 0 0 9 + v (10 + a)))))] := by
  refine zM_of (cc := cX6_does) (maxL := 4) (ret := (some .int)) (by decide) rfl (Nat.le_of_ble_eq_true rfl) ?_
  intro p e s m below meth c A Q hend hx hb hml hr hts hown hlk hG hK hP hD hA hS ls hl
  have hown : s.vm.findClass RX6 = some m.cls := hown
  have hl : lv_has ls 4 [(0, .ref x9), (1, .int 100), (2, .int (nI a)), (3, .int wq2)] := hl
  refine lv_iload_n hx hb dX6_does_0 rfl (lv_at hl 1 rfl) ?_
  refine lv_tableIn (off := 131) (tgt := 132) hx hb dX6_does_1 (by decide) (by decide) (by decide) (by decide) ?_
  refine lv_aload_n hx hb dX6_does_132 rfl (lv_at hl 0 rfl) ?_
  refine lv_iload_n hx hb dX6_does_133 rfl (lv_at hl 2 rfl) ?_
  refine zcV (As := [.int (nI a)]) (rest := []) [0, 1] 0 hg.1 ⟨hx, hb, hml, hown, hts⟩ (c_X6_drops_ok hg l D cy x9 0 ch era why det cau sv rj v9 b9 s9 k9 p9 t9 n9 tn he en ln iw dg v a ha hr0) (cwV 1 hts gX6_does_X6_drops rfl rfl rfl (by decide +kernel) ⟨Nat.le_of_ble_eq_true rfl, Nat.le_of_ble_eq_true rfl⟩) hG hK hP hD hS hA rfl rfl (Eq.trans (b := [x9, v9]) rfl rfl) rfl rfl rfl hl.1 rfl (Nat.le_of_ble_eq_true rfl) dX6_does_134 ⟨Nat.zero_le _, Nat.zero_le _⟩ (fun H locs hP hD hS => ?_)
  have hP : va_P D vwCl [(x9, .inr (10, [.int 0, .int (nI ch), .int era, .int why, .int det, .int cau, .int (zI sv), .int (zI rj), .ref v9, .ref b9, .ref s9, .ref k9, .ref p9, .ref t9, .ref n9, .int (nI tn), .int (nI he), .int (nI en), .int (nI ln), .int (zI iw), .int (zI dg)])), (v9, .inl (cy 0, 188, .inl (upd (zpt v a 0 0) 9 (zpt v a 0 0 9 + v (10 + a)))))] H := hP
  have hD : va_D A [(x9, .inr (10, [.int 0, .int (nI ch), .int era, .int why, .int det, .int cau, .int (zI sv), .int (zI rj), .ref v9, .ref b9, .ref s9, .ref k9, .ref p9, .ref t9, .ref n9, .int (nI tn), .int (nI he), .int (nI en), .int (nI ln), .int (zI iw), .int (zI dg)])), (v9, .inl (cy 0, 188, .inl (upd (zpt v a 0 0) 9 (zpt v a 0 0 9 + v (10 + a)))))] := hD
  exact ziret hend hx hb hr hlk hK hP hD hS dX6_does_137 rfl rfl

abbrev rmX6_does_rej100 : Room := { frames := 5, cells := 0, slots := 0, locals := 116 }
set_option maxHeartbeats 4000000 in
set_option maxRecDepth 100000 in
theorem c_X6_does_rej100 {G : zG} (hg : zGN G) (l : Launch) (D : va_G) (cy : Nat → ClassId) (x9 : Nat) (ch : Nat) (era : Int32) (why : Int32) (det : Int32) (cau : Int32) (sv : Bool) (rj : Bool) (v9 : Nat) (b9 : Nat) (s9 : Nat) (k9 : Nat) (p9 : Nat) (t9 : Nat) (n9 : Nat) (tn : Nat) (he : Nat) (en : Nat) (ln : Nat) (iw : Bool) (dg : Bool) (v : Nat → Int32) (a : Nat) (wq2 : Int32) (ha : a < 24) (hr0 : ¬ zrT (zlo v) (v 0) a = 0) (hsq : zbok 40 (v 0)) : zM G D vwCl (zT cy) l yX6_does wsX6_does rmX6_does_rej100 [.ref x9, .int 100, .int (nI a), .int wq2] [(x9, .inr (10, [.int 0, .int (nI ch), .int era, .int why, .int det, .int cau, .int (zI sv), .int (zI rj), .ref v9, .ref b9, .ref s9, .ref k9, .ref p9, .ref t9, .ref n9, .int (nI tn), .int (nI he), .int (nI en), .int (nI ln), .int (zI iw), .int (zI dg)])), (v9, .inl (cy 0, 188, .inl v))] (some (.int 0)) [(x9, .inr (10, [.int 2, .int (nI ch), .int era, .int (zrT (zlo v) (v 0) a), .int (zdT6 v a), .int 0, .int (zI sv), .int (zI true), .ref v9, .ref b9, .ref s9, .ref k9, .ref p9, .ref t9, .ref n9, .int (nI tn), .int (nI he), .int (nI en), .int (nI ln), .int (zI iw), .int (zI dg)])), (v9, .inl (cy 0, 188, .inl v))] := by
  refine zM_of (cc := cX6_does) (maxL := 4) (ret := (some .int)) (by decide) rfl (Nat.le_of_ble_eq_true rfl) ?_
  intro p e s m below meth c A Q hend hx hb hml hr hts hown hlk hG hK hP hD hA hS ls hl
  have hown : s.vm.findClass RX6 = some m.cls := hown
  have hl : lv_has ls 4 [(0, .ref x9), (1, .int 100), (2, .int (nI a)), (3, .int wq2)] := hl
  refine lv_iload_n hx hb dX6_does_0 rfl (lv_at hl 1 rfl) ?_
  refine lv_tableIn (off := 131) (tgt := 132) hx hb dX6_does_1 (by decide) (by decide) (by decide) (by decide) ?_
  refine lv_aload_n hx hb dX6_does_132 rfl (lv_at hl 0 rfl) ?_
  refine lv_iload_n hx hb dX6_does_133 rfl (lv_at hl 2 rfl) ?_
  refine zcV (As := [.int (nI a)]) (rest := []) [0, 1] 0 hg.1 ⟨hx, hb, hml, hown, hts⟩ (c_X6_drops_rej hg l D cy x9 0 ch era why det cau sv rj v9 b9 s9 k9 p9 t9 n9 tn he en ln iw dg v a ha hr0 hsq) (cwV 1 hts gX6_does_X6_drops rfl rfl rfl (by decide +kernel) ⟨Nat.le_of_ble_eq_true rfl, Nat.le_of_ble_eq_true rfl⟩) hG hK hP hD hS hA rfl rfl (Eq.trans (b := [x9, v9]) rfl rfl) rfl rfl rfl hl.1 rfl (Nat.le_of_ble_eq_true rfl) dX6_does_134 ⟨Nat.zero_le _, Nat.zero_le _⟩ (fun H locs hP hD hS => ?_)
  have hP : va_P D vwCl [(x9, .inr (10, [.int 2, .int (nI ch), .int era, .int (zrT (zlo v) (v 0) a), .int (zdT6 v a), .int 0, .int (zI sv), .int (zI true), .ref v9, .ref b9, .ref s9, .ref k9, .ref p9, .ref t9, .ref n9, .int (nI tn), .int (nI he), .int (nI en), .int (nI ln), .int (zI iw), .int (zI dg)])), (v9, .inl (cy 0, 188, .inl v))] H := hP
  have hD : va_D A [(x9, .inr (10, [.int 2, .int (nI ch), .int era, .int (zrT (zlo v) (v 0) a), .int (zdT6 v a), .int 0, .int (zI sv), .int (zI true), .ref v9, .ref b9, .ref s9, .ref k9, .ref p9, .ref t9, .ref n9, .int (nI tn), .int (nI he), .int (nI en), .int (nI ln), .int (zI iw), .int (zI dg)])), (v9, .inl (cy 0, 188, .inl v))] := hD
  exact ziret hend hx hb hr hlk hK hP hD hS dX6_does_137 rfl rfl

abbrev rmX6_does_f1100 : Room := { frames := 5, cells := 0, slots := 0, locals := 116 }
set_option maxHeartbeats 4000000 in
set_option maxRecDepth 100000 in
theorem c_X6_does_f1100 {G : zG} (hg : zGN G) (l : Launch) (D : va_G) (cy : Nat → ClassId) (x9 : Nat) (ch : Nat) (era : Int32) (why : Int32) (det : Int32) (cau : Int32) (sv : Bool) (rj : Bool) (v9 : Nat) (b9 : Nat) (s9 : Nat) (k9 : Nat) (p9 : Nat) (t9 : Nat) (n9 : Nat) (tn : Nat) (he : Nat) (en : Nat) (ln : Nat) (iw : Bool) (dg : Bool) (v : Nat → Int32) (nq : Int32) (wq2 : Int32) (hq : zic 0 23 nq = false) : zM G D vwCl (zT cy) l yX6_does wsX6_does rmX6_does_f1100 [.ref x9, .int 100, .int nq, .int wq2] [(x9, .inr (10, [.int 0, .int (nI ch), .int era, .int why, .int det, .int cau, .int (zI sv), .int (zI rj), .ref v9, .ref b9, .ref s9, .ref k9, .ref p9, .ref t9, .ref n9, .int (nI tn), .int (nI he), .int (nI en), .int (nI ln), .int (zI iw), .int (zI dg)])), (v9, .inl (cy 0, 188, .inl v))] (some (.int 0)) [(x9, .inr (10, [.int 1, .int (nI ch), .int era, .int why, .int det, .int cau, .int (zI sv), .int (zI rj), .ref v9, .ref b9, .ref s9, .ref k9, .ref p9, .ref t9, .ref n9, .int (nI tn), .int (nI he), .int (nI en), .int (nI ln), .int (zI iw), .int (zI dg)])), (v9, .inl (cy 0, 188, .inl v))] := by
  refine zM_of (cc := cX6_does) (maxL := 4) (ret := (some .int)) (by decide) rfl (Nat.le_of_ble_eq_true rfl) ?_
  intro p e s m below meth c A Q hend hx hb hml hr hts hown hlk hG hK hP hD hA hS ls hl
  have hown : s.vm.findClass RX6 = some m.cls := hown
  have hl : lv_has ls 4 [(0, .ref x9), (1, .int 100), (2, .int nq), (3, .int wq2)] := hl
  refine lv_iload_n hx hb dX6_does_0 rfl (lv_at hl 1 rfl) ?_
  refine lv_tableIn (off := 131) (tgt := 132) hx hb dX6_does_1 (by decide) (by decide) (by decide) (by decide) ?_
  refine lv_aload_n hx hb dX6_does_132 rfl (lv_at hl 0 rfl) ?_
  refine lv_iload_n hx hb dX6_does_133 rfl (lv_at hl 2 rfl) ?_
  refine zcV (As := [.int nq]) (rest := []) [0] 0 hg.1 ⟨hx, hb, hml, hown, hts⟩ (c_X6_drops_f1 hg l D cy x9 0 ch era why det cau sv rj v9 b9 s9 k9 p9 t9 n9 tn he en ln iw dg nq hq) (cwV 1 hts gX6_does_X6_drops rfl rfl rfl (by decide +kernel) ⟨Nat.le_of_ble_eq_true rfl, Nat.le_of_ble_eq_true rfl⟩) hG hK hP hD hS hA rfl rfl (Eq.trans (b := [x9]) rfl rfl) rfl rfl rfl hl.1 rfl (Nat.le_of_ble_eq_true rfl) dX6_does_134 ⟨Nat.zero_le _, Nat.zero_le _⟩ (fun H locs hP hD hS => ?_)
  have hP : va_P D vwCl [(x9, .inr (10, [.int 1, .int (nI ch), .int era, .int why, .int det, .int cau, .int (zI sv), .int (zI rj), .ref v9, .ref b9, .ref s9, .ref k9, .ref p9, .ref t9, .ref n9, .int (nI tn), .int (nI he), .int (nI en), .int (nI ln), .int (zI iw), .int (zI dg)])), (v9, .inl (cy 0, 188, .inl v))] H := hP
  have hD : va_D A [(x9, .inr (10, [.int 1, .int (nI ch), .int era, .int why, .int det, .int cau, .int (zI sv), .int (zI rj), .ref v9, .ref b9, .ref s9, .ref k9, .ref p9, .ref t9, .ref n9, .int (nI tn), .int (nI he), .int (nI en), .int (nI ln), .int (zI iw), .int (zI dg)])), (v9, .inl (cy 0, 188, .inl v))] := hD
  exact ziret hend hx hb hr hlk hK hP hD hS dX6_does_137 rfl rfl

abbrev rmX6_does_ok117 : Room := { frames := 5, cells := 0, slots := 0, locals := 116 }
set_option maxHeartbeats 4000000 in
set_option maxRecDepth 100000 in
theorem c_X6_does_ok117 {G : zG} (hg : zGN G) (l : Launch) (D : va_G) (cy : Nat → ClassId) (x9 : Nat) (ch : Nat) (era : Int32) (why : Int32) (det : Int32) (cau : Int32) (sv : Bool) (rj : Bool) (v9 : Nat) (b9 : Nat) (s9 : Nat) (k9 : Nat) (p9 : Nat) (t9 : Nat) (n9 : Nat) (tn : Nat) (he : Nat) (en : Nat) (ln : Nat) (iw : Bool) (dg : Bool) (v : Nat → Int32) (a : Nat) (ac : Nat) (wq2 : Int32) (ha : a < 24) (hv2 : v 2 = nI ac) (hac : ac < 4) (hr0 : zrP6 v ac a = 0) : zM G D vwCl (zT cy) l yX6_does wsX6_does rmX6_does_ok117 [.ref x9, .int 117, .int (nI a), .int wq2] [(x9, .inr (10, [.int 0, .int (nI ch), .int era, .int why, .int det, .int cau, .int (zI sv), .int (zI rj), .ref v9, .ref b9, .ref s9, .ref k9, .ref p9, .ref t9, .ref n9, .int (nI tn), .int (nI he), .int (nI en), .int (nI ln), .int (zI iw), .int (zI dg)])), (v9, .inl (cy 0, 188, .inl v))] (some (.int ((upd (upd (zpt v a 1 0) (58 + ac) (zpt v a 1 0 (58 + ac) - 1)) 8 ((upd (zpt v a 1 0) (58 + ac) (zpt v a 1 0 (58 + ac) - 1)) 8 + 1)) (58 + ac)))) [(x9, .inr (10, [.int 0, .int (nI ch), .int era, .int why, .int det, .int cau, .int (zI sv), .int (zI rj), .ref v9, .ref b9, .ref s9, .ref k9, .ref p9, .ref t9, .ref n9, .int (nI tn), .int (nI he), .int (nI en), .int (nI ln), .int (zI iw), .int (zI dg)])), (v9, .inl (cy 0, 188, .inl (upd (upd (zpt v a 1 0) (58 + ac) (zpt v a 1 0 (58 + ac) - 1)) 8 ((upd (zpt v a 1 0) (58 + ac) (zpt v a 1 0 (58 + ac) - 1)) 8 + 1))))] := by
  refine zM_of (cc := cX6_does) (maxL := 4) (ret := (some .int)) (by decide) rfl (Nat.le_of_ble_eq_true rfl) ?_
  intro p e s m below meth c A Q hend hx hb hml hr hts hown hlk hG hK hP hD hA hS ls hl
  have hown : s.vm.findClass RX6 = some m.cls := hown
  have hl : lv_has ls 4 [(0, .ref x9), (1, .int 117), (2, .int (nI a)), (3, .int wq2)] := hl
  refine lv_iload_n hx hb dX6_does_0 rfl (lv_at hl 1 rfl) ?_
  refine lv_tableIn (off := 137) (tgt := 138) hx hb dX6_does_1 (by decide) (by decide) (by decide) (by decide) ?_
  refine lv_aload_n hx hb dX6_does_138 rfl (lv_at hl 0 rfl) ?_
  refine lv_iload_n hx hb dX6_does_139 rfl (lv_at hl 2 rfl) ?_
  refine zcV (As := [.int (nI a)]) (rest := []) [0, 1] 0 hg.1 ⟨hx, hb, hml, hown, hts⟩ (c_X6_picks_ok hg l D cy x9 0 ch era why det cau sv rj v9 b9 s9 k9 p9 t9 n9 tn he en ln iw dg v a ac ha hv2 hac hr0) (cwV 1 hts gX6_does_X6_picks rfl rfl rfl (by decide +kernel) ⟨Nat.le_of_ble_eq_true rfl, Nat.le_of_ble_eq_true rfl⟩) hG hK hP hD hS hA rfl rfl (Eq.trans (b := [x9, v9]) rfl rfl) rfl rfl rfl hl.1 rfl (Nat.le_of_ble_eq_true rfl) dX6_does_140 ⟨Nat.zero_le _, Nat.zero_le _⟩ (fun H locs hP hD hS => ?_)
  have hP : va_P D vwCl [(x9, .inr (10, [.int 0, .int (nI ch), .int era, .int why, .int det, .int cau, .int (zI sv), .int (zI rj), .ref v9, .ref b9, .ref s9, .ref k9, .ref p9, .ref t9, .ref n9, .int (nI tn), .int (nI he), .int (nI en), .int (nI ln), .int (zI iw), .int (zI dg)])), (v9, .inl (cy 0, 188, .inl (upd (upd (zpt v a 1 0) (58 + ac) (zpt v a 1 0 (58 + ac) - 1)) 8 ((upd (zpt v a 1 0) (58 + ac) (zpt v a 1 0 (58 + ac) - 1)) 8 + 1))))] H := hP
  have hD : va_D A [(x9, .inr (10, [.int 0, .int (nI ch), .int era, .int why, .int det, .int cau, .int (zI sv), .int (zI rj), .ref v9, .ref b9, .ref s9, .ref k9, .ref p9, .ref t9, .ref n9, .int (nI tn), .int (nI he), .int (nI en), .int (nI ln), .int (zI iw), .int (zI dg)])), (v9, .inl (cy 0, 188, .inl (upd (upd (zpt v a 1 0) (58 + ac) (zpt v a 1 0 (58 + ac) - 1)) 8 ((upd (zpt v a 1 0) (58 + ac) (zpt v a 1 0 (58 + ac) - 1)) 8 + 1))))] := hD
  exact ziret hend hx hb hr hlk hK hP hD hS dX6_does_143 rfl rfl

abbrev rmX6_does_rej117 : Room := { frames := 5, cells := 0, slots := 0, locals := 116 }
set_option maxHeartbeats 4000000 in
set_option maxRecDepth 100000 in
theorem c_X6_does_rej117 {G : zG} (hg : zGN G) (l : Launch) (D : va_G) (cy : Nat → ClassId) (x9 : Nat) (ch : Nat) (era : Int32) (why : Int32) (det : Int32) (cau : Int32) (sv : Bool) (rj : Bool) (v9 : Nat) (b9 : Nat) (s9 : Nat) (k9 : Nat) (p9 : Nat) (t9 : Nat) (n9 : Nat) (tn : Nat) (he : Nat) (en : Nat) (ln : Nat) (iw : Bool) (dg : Bool) (v : Nat → Int32) (a : Nat) (ac : Nat) (wq2 : Int32) (ha : a < 24) (hv2 : v 2 = nI ac) (hac : ac < 4) (hr0 : ¬ zrP6 v ac a = 0) : zM G D vwCl (zT cy) l yX6_does wsX6_does rmX6_does_rej117 [.ref x9, .int 117, .int (nI a), .int wq2] [(x9, .inr (10, [.int 0, .int (nI ch), .int era, .int why, .int det, .int cau, .int (zI sv), .int (zI rj), .ref v9, .ref b9, .ref s9, .ref k9, .ref p9, .ref t9, .ref n9, .int (nI tn), .int (nI he), .int (nI en), .int (nI ln), .int (zI iw), .int (zI dg)])), (v9, .inl (cy 0, 188, .inl v))] (some (.int 0)) [(x9, .inr (10, [.int 2, .int (nI ch), .int era, .int (zrP6 v ac a), .int (zdP6 v a), .int 0, .int (zI sv), .int (zI true), .ref v9, .ref b9, .ref s9, .ref k9, .ref p9, .ref t9, .ref n9, .int (nI tn), .int (nI he), .int (nI en), .int (nI ln), .int (zI iw), .int (zI dg)])), (v9, .inl (cy 0, 188, .inl v))] := by
  refine zM_of (cc := cX6_does) (maxL := 4) (ret := (some .int)) (by decide) rfl (Nat.le_of_ble_eq_true rfl) ?_
  intro p e s m below meth c A Q hend hx hb hml hr hts hown hlk hG hK hP hD hA hS ls hl
  have hown : s.vm.findClass RX6 = some m.cls := hown
  have hl : lv_has ls 4 [(0, .ref x9), (1, .int 117), (2, .int (nI a)), (3, .int wq2)] := hl
  refine lv_iload_n hx hb dX6_does_0 rfl (lv_at hl 1 rfl) ?_
  refine lv_tableIn (off := 137) (tgt := 138) hx hb dX6_does_1 (by decide) (by decide) (by decide) (by decide) ?_
  refine lv_aload_n hx hb dX6_does_138 rfl (lv_at hl 0 rfl) ?_
  refine lv_iload_n hx hb dX6_does_139 rfl (lv_at hl 2 rfl) ?_
  refine zcV (As := [.int (nI a)]) (rest := []) [0, 1] 0 hg.1 ⟨hx, hb, hml, hown, hts⟩ (c_X6_picks_rej hg l D cy x9 0 ch era why det cau sv rj v9 b9 s9 k9 p9 t9 n9 tn he en ln iw dg v a ac ha hv2 hac hr0) (cwV 1 hts gX6_does_X6_picks rfl rfl rfl (by decide +kernel) ⟨Nat.le_of_ble_eq_true rfl, Nat.le_of_ble_eq_true rfl⟩) hG hK hP hD hS hA rfl rfl (Eq.trans (b := [x9, v9]) rfl rfl) rfl rfl rfl hl.1 rfl (Nat.le_of_ble_eq_true rfl) dX6_does_140 ⟨Nat.zero_le _, Nat.zero_le _⟩ (fun H locs hP hD hS => ?_)
  have hP : va_P D vwCl [(x9, .inr (10, [.int 2, .int (nI ch), .int era, .int (zrP6 v ac a), .int (zdP6 v a), .int 0, .int (zI sv), .int (zI true), .ref v9, .ref b9, .ref s9, .ref k9, .ref p9, .ref t9, .ref n9, .int (nI tn), .int (nI he), .int (nI en), .int (nI ln), .int (zI iw), .int (zI dg)])), (v9, .inl (cy 0, 188, .inl v))] H := hP
  have hD : va_D A [(x9, .inr (10, [.int 2, .int (nI ch), .int era, .int (zrP6 v ac a), .int (zdP6 v a), .int 0, .int (zI sv), .int (zI true), .ref v9, .ref b9, .ref s9, .ref k9, .ref p9, .ref t9, .ref n9, .int (nI tn), .int (nI he), .int (nI en), .int (nI ln), .int (zI iw), .int (zI dg)])), (v9, .inl (cy 0, 188, .inl v))] := hD
  exact ziret hend hx hb hr hlk hK hP hD hS dX6_does_143 rfl rfl

abbrev rmX6_does_f1117 : Room := { frames := 5, cells := 0, slots := 0, locals := 116 }
set_option maxHeartbeats 4000000 in
set_option maxRecDepth 100000 in
theorem c_X6_does_f1117 {G : zG} (hg : zGN G) (l : Launch) (D : va_G) (cy : Nat → ClassId) (x9 : Nat) (ch : Nat) (era : Int32) (why : Int32) (det : Int32) (cau : Int32) (sv : Bool) (rj : Bool) (v9 : Nat) (b9 : Nat) (s9 : Nat) (k9 : Nat) (p9 : Nat) (t9 : Nat) (n9 : Nat) (tn : Nat) (he : Nat) (en : Nat) (ln : Nat) (iw : Bool) (dg : Bool) (v : Nat → Int32) (nq : Int32) (wq2 : Int32) (hq : zic 0 23 nq = false) : zM G D vwCl (zT cy) l yX6_does wsX6_does rmX6_does_f1117 [.ref x9, .int 117, .int nq, .int wq2] [(x9, .inr (10, [.int 0, .int (nI ch), .int era, .int why, .int det, .int cau, .int (zI sv), .int (zI rj), .ref v9, .ref b9, .ref s9, .ref k9, .ref p9, .ref t9, .ref n9, .int (nI tn), .int (nI he), .int (nI en), .int (nI ln), .int (zI iw), .int (zI dg)])), (v9, .inl (cy 0, 188, .inl v))] (some (.int 0)) [(x9, .inr (10, [.int 1, .int (nI ch), .int era, .int why, .int det, .int cau, .int (zI sv), .int (zI rj), .ref v9, .ref b9, .ref s9, .ref k9, .ref p9, .ref t9, .ref n9, .int (nI tn), .int (nI he), .int (nI en), .int (nI ln), .int (zI iw), .int (zI dg)])), (v9, .inl (cy 0, 188, .inl v))] := by
  refine zM_of (cc := cX6_does) (maxL := 4) (ret := (some .int)) (by decide) rfl (Nat.le_of_ble_eq_true rfl) ?_
  intro p e s m below meth c A Q hend hx hb hml hr hts hown hlk hG hK hP hD hA hS ls hl
  have hown : s.vm.findClass RX6 = some m.cls := hown
  have hl : lv_has ls 4 [(0, .ref x9), (1, .int 117), (2, .int nq), (3, .int wq2)] := hl
  refine lv_iload_n hx hb dX6_does_0 rfl (lv_at hl 1 rfl) ?_
  refine lv_tableIn (off := 137) (tgt := 138) hx hb dX6_does_1 (by decide) (by decide) (by decide) (by decide) ?_
  refine lv_aload_n hx hb dX6_does_138 rfl (lv_at hl 0 rfl) ?_
  refine lv_iload_n hx hb dX6_does_139 rfl (lv_at hl 2 rfl) ?_
  refine zcV (As := [.int nq]) (rest := []) [0] 0 hg.1 ⟨hx, hb, hml, hown, hts⟩ (c_X6_picks_f1 hg l D cy x9 0 ch era why det cau sv rj v9 b9 s9 k9 p9 t9 n9 tn he en ln iw dg nq hq) (cwV 1 hts gX6_does_X6_picks rfl rfl rfl (by decide +kernel) ⟨Nat.le_of_ble_eq_true rfl, Nat.le_of_ble_eq_true rfl⟩) hG hK hP hD hS hA rfl rfl (Eq.trans (b := [x9]) rfl rfl) rfl rfl rfl hl.1 rfl (Nat.le_of_ble_eq_true rfl) dX6_does_140 ⟨Nat.zero_le _, Nat.zero_le _⟩ (fun H locs hP hD hS => ?_)
  have hP : va_P D vwCl [(x9, .inr (10, [.int 1, .int (nI ch), .int era, .int why, .int det, .int cau, .int (zI sv), .int (zI rj), .ref v9, .ref b9, .ref s9, .ref k9, .ref p9, .ref t9, .ref n9, .int (nI tn), .int (nI he), .int (nI en), .int (nI ln), .int (zI iw), .int (zI dg)])), (v9, .inl (cy 0, 188, .inl v))] H := hP
  have hD : va_D A [(x9, .inr (10, [.int 1, .int (nI ch), .int era, .int why, .int det, .int cau, .int (zI sv), .int (zI rj), .ref v9, .ref b9, .ref s9, .ref k9, .ref p9, .ref t9, .ref n9, .int (nI tn), .int (nI he), .int (nI en), .int (nI ln), .int (zI iw), .int (zI dg)])), (v9, .inl (cy 0, 188, .inl v))] := hD
  exact ziret hend hx hb hr hlk hK hP hD hS dX6_does_143 rfl rfl

abbrev rmX6_does_ok121 : Room := { frames := 5, cells := 0, slots := 0, locals := 116 }
set_option maxHeartbeats 4000000 in
set_option maxRecDepth 100000 in
theorem c_X6_does_ok121 {G : zG} (hg : zGN G) (l : Launch) (D : va_G) (cy : Nat → ClassId) (x9 : Nat) (ch : Nat) (era : Int32) (why : Int32) (det : Int32) (cau : Int32) (sv : Bool) (rj : Bool) (v9 : Nat) (b9 : Nat) (s9 : Nat) (k9 : Nat) (p9 : Nat) (t9 : Nat) (n9 : Nat) (tn : Nat) (he : Nat) (en : Nat) (ln : Nat) (iw : Bool) (dg : Bool) (v : Nat → Int32) (a : Nat) (u : Int32) (ha : a < 4) (hu : zic 1 99 u = true) (hr0 : zrY (zya v) a u = 0) : zM G D vwCl (zT cy) l yX6_does wsX6_does rmX6_does_ok121 [.ref x9, .int 121, .int (nI a), .int u] [(x9, .inr (10, [.int 0, .int (nI ch), .int era, .int why, .int det, .int cau, .int (zI sv), .int (zI rj), .ref v9, .ref b9, .ref s9, .ref k9, .ref p9, .ref t9, .ref n9, .int (nI tn), .int (nI he), .int (nI en), .int (nI ln), .int (zI iw), .int (zI dg)])), (v9, .inl (cy 0, 188, .inl v))] (some (.int ((upd (upd v (58 + a) (v (58 + a) + u)) 7 ((upd v (58 + a) (v (58 + a) + u)) 7 + u)) (58 + a)))) [(x9, .inr (10, [.int 0, .int (nI ch), .int era, .int why, .int det, .int cau, .int (zI sv), .int (zI rj), .ref v9, .ref b9, .ref s9, .ref k9, .ref p9, .ref t9, .ref n9, .int (nI tn), .int (nI he), .int (nI en), .int (nI ln), .int (zI iw), .int (zI dg)])), (v9, .inl (cy 0, 188, .inl (upd (upd v (58 + a) (v (58 + a) + u)) 7 ((upd v (58 + a) (v (58 + a) + u)) 7 + u))))] := by
  refine zM_of (cc := cX6_does) (maxL := 4) (ret := (some .int)) (by decide) rfl (Nat.le_of_ble_eq_true rfl) ?_
  intro p e s m below meth c A Q hend hx hb hml hr hts hown hlk hG hK hP hD hA hS ls hl
  have hown : s.vm.findClass RX6 = some m.cls := hown
  have hl : lv_has ls 4 [(0, .ref x9), (1, .int 121), (2, .int (nI a)), (3, .int u)] := hl
  refine lv_iload_n hx hb dX6_does_0 rfl (lv_at hl 1 rfl) ?_
  refine lv_tableIn (off := 157) (tgt := 158) hx hb dX6_does_1 (by decide) (by decide) (by decide) (by decide) ?_
  refine lv_aload_n hx hb dX6_does_158 rfl (lv_at hl 0 rfl) ?_
  refine lv_iload_n hx hb dX6_does_159 rfl (lv_at hl 2 rfl) ?_
  refine lv_iload_n hx hb dX6_does_160 rfl (lv_at hl 3 rfl) ?_
  refine zcV (As := [.int (nI a), .int u]) (rest := []) [0, 1] 0 hg.1 ⟨hx, hb, hml, hown, hts⟩ (c_X6_adds_ok hg l D cy x9 0 ch era why det cau sv rj v9 b9 s9 k9 p9 t9 n9 tn he en ln iw dg v a u ha hu hr0) (cwV 2 hts gX6_does_X6_adds rfl rfl rfl (by decide +kernel) ⟨Nat.le_of_ble_eq_true rfl, Nat.le_of_ble_eq_true rfl⟩) hG hK hP hD hS hA rfl rfl (Eq.trans (b := [x9, v9]) rfl rfl) rfl rfl rfl hl.1 rfl (Nat.le_of_ble_eq_true rfl) dX6_does_161 ⟨Nat.zero_le _, Nat.zero_le _⟩ (fun H locs hP hD hS => ?_)
  have hP : va_P D vwCl [(x9, .inr (10, [.int 0, .int (nI ch), .int era, .int why, .int det, .int cau, .int (zI sv), .int (zI rj), .ref v9, .ref b9, .ref s9, .ref k9, .ref p9, .ref t9, .ref n9, .int (nI tn), .int (nI he), .int (nI en), .int (nI ln), .int (zI iw), .int (zI dg)])), (v9, .inl (cy 0, 188, .inl (upd (upd v (58 + a) (v (58 + a) + u)) 7 ((upd v (58 + a) (v (58 + a) + u)) 7 + u))))] H := hP
  have hD : va_D A [(x9, .inr (10, [.int 0, .int (nI ch), .int era, .int why, .int det, .int cau, .int (zI sv), .int (zI rj), .ref v9, .ref b9, .ref s9, .ref k9, .ref p9, .ref t9, .ref n9, .int (nI tn), .int (nI he), .int (nI en), .int (nI ln), .int (zI iw), .int (zI dg)])), (v9, .inl (cy 0, 188, .inl (upd (upd v (58 + a) (v (58 + a) + u)) 7 ((upd v (58 + a) (v (58 + a) + u)) 7 + u))))] := hD
  exact ziret hend hx hb hr hlk hK hP hD hS dX6_does_164 rfl rfl

abbrev rmX6_does_rej121 : Room := { frames := 5, cells := 0, slots := 0, locals := 116 }
set_option maxHeartbeats 4000000 in
set_option maxRecDepth 100000 in
theorem c_X6_does_rej121 {G : zG} (hg : zGN G) (l : Launch) (D : va_G) (cy : Nat → ClassId) (x9 : Nat) (ch : Nat) (era : Int32) (why : Int32) (det : Int32) (cau : Int32) (sv : Bool) (rj : Bool) (v9 : Nat) (b9 : Nat) (s9 : Nat) (k9 : Nat) (p9 : Nat) (t9 : Nat) (n9 : Nat) (tn : Nat) (he : Nat) (en : Nat) (ln : Nat) (iw : Bool) (dg : Bool) (v : Nat → Int32) (a : Nat) (u : Int32) (ha : a < 4) (hu : zic 1 99 u = true) (hr0 : ¬ zrY (zya v) a u = 0) : zM G D vwCl (zT cy) l yX6_does wsX6_does rmX6_does_rej121 [.ref x9, .int 121, .int (nI a), .int u] [(x9, .inr (10, [.int 0, .int (nI ch), .int era, .int why, .int det, .int cau, .int (zI sv), .int (zI rj), .ref v9, .ref b9, .ref s9, .ref k9, .ref p9, .ref t9, .ref n9, .int (nI tn), .int (nI he), .int (nI en), .int (nI ln), .int (zI iw), .int (zI dg)])), (v9, .inl (cy 0, 188, .inl v))] (some (.int 0)) [(x9, .inr (10, [.int 3, .int (nI ch), .int era, .int (zrY (zya v) a u), .int (v (58 + a)), .int 0, .int (zI sv), .int (zI true), .ref v9, .ref b9, .ref s9, .ref k9, .ref p9, .ref t9, .ref n9, .int (nI tn), .int (nI he), .int (nI en), .int (nI ln), .int (zI iw), .int (zI dg)])), (v9, .inl (cy 0, 188, .inl v))] := by
  refine zM_of (cc := cX6_does) (maxL := 4) (ret := (some .int)) (by decide) rfl (Nat.le_of_ble_eq_true rfl) ?_
  intro p e s m below meth c A Q hend hx hb hml hr hts hown hlk hG hK hP hD hA hS ls hl
  have hown : s.vm.findClass RX6 = some m.cls := hown
  have hl : lv_has ls 4 [(0, .ref x9), (1, .int 121), (2, .int (nI a)), (3, .int u)] := hl
  refine lv_iload_n hx hb dX6_does_0 rfl (lv_at hl 1 rfl) ?_
  refine lv_tableIn (off := 157) (tgt := 158) hx hb dX6_does_1 (by decide) (by decide) (by decide) (by decide) ?_
  refine lv_aload_n hx hb dX6_does_158 rfl (lv_at hl 0 rfl) ?_
  refine lv_iload_n hx hb dX6_does_159 rfl (lv_at hl 2 rfl) ?_
  refine lv_iload_n hx hb dX6_does_160 rfl (lv_at hl 3 rfl) ?_
  refine zcV (As := [.int (nI a), .int u]) (rest := []) [0, 1] 0 hg.1 ⟨hx, hb, hml, hown, hts⟩ (c_X6_adds_rej hg l D cy x9 0 ch era why det cau sv rj v9 b9 s9 k9 p9 t9 n9 tn he en ln iw dg v a u ha hu hr0) (cwV 2 hts gX6_does_X6_adds rfl rfl rfl (by decide +kernel) ⟨Nat.le_of_ble_eq_true rfl, Nat.le_of_ble_eq_true rfl⟩) hG hK hP hD hS hA rfl rfl (Eq.trans (b := [x9, v9]) rfl rfl) rfl rfl rfl hl.1 rfl (Nat.le_of_ble_eq_true rfl) dX6_does_161 ⟨Nat.zero_le _, Nat.zero_le _⟩ (fun H locs hP hD hS => ?_)
  have hP : va_P D vwCl [(x9, .inr (10, [.int 3, .int (nI ch), .int era, .int (zrY (zya v) a u), .int (v (58 + a)), .int 0, .int (zI sv), .int (zI true), .ref v9, .ref b9, .ref s9, .ref k9, .ref p9, .ref t9, .ref n9, .int (nI tn), .int (nI he), .int (nI en), .int (nI ln), .int (zI iw), .int (zI dg)])), (v9, .inl (cy 0, 188, .inl v))] H := hP
  have hD : va_D A [(x9, .inr (10, [.int 3, .int (nI ch), .int era, .int (zrY (zya v) a u), .int (v (58 + a)), .int 0, .int (zI sv), .int (zI true), .ref v9, .ref b9, .ref s9, .ref k9, .ref p9, .ref t9, .ref n9, .int (nI tn), .int (nI he), .int (nI en), .int (nI ln), .int (zI iw), .int (zI dg)])), (v9, .inl (cy 0, 188, .inl v))] := hD
  exact ziret hend hx hb hr hlk hK hP hD hS dX6_does_164 rfl rfl

abbrev rmX6_does_f1121 : Room := { frames := 5, cells := 0, slots := 0, locals := 116 }
set_option maxHeartbeats 4000000 in
set_option maxRecDepth 100000 in
theorem c_X6_does_f1121 {G : zG} (hg : zGN G) (l : Launch) (D : va_G) (cy : Nat → ClassId) (x9 : Nat) (ch : Nat) (era : Int32) (why : Int32) (det : Int32) (cau : Int32) (sv : Bool) (rj : Bool) (v9 : Nat) (b9 : Nat) (s9 : Nat) (k9 : Nat) (p9 : Nat) (t9 : Nat) (n9 : Nat) (tn : Nat) (he : Nat) (en : Nat) (ln : Nat) (iw : Bool) (dg : Bool) (v : Nat → Int32) (nq : Int32) (u : Int32) (hq : zic 0 3 nq = false) : zM G D vwCl (zT cy) l yX6_does wsX6_does rmX6_does_f1121 [.ref x9, .int 121, .int nq, .int u] [(x9, .inr (10, [.int 0, .int (nI ch), .int era, .int why, .int det, .int cau, .int (zI sv), .int (zI rj), .ref v9, .ref b9, .ref s9, .ref k9, .ref p9, .ref t9, .ref n9, .int (nI tn), .int (nI he), .int (nI en), .int (nI ln), .int (zI iw), .int (zI dg)])), (v9, .inl (cy 0, 188, .inl v))] (some (.int 0)) [(x9, .inr (10, [.int 1, .int (nI ch), .int era, .int why, .int det, .int cau, .int (zI sv), .int (zI rj), .ref v9, .ref b9, .ref s9, .ref k9, .ref p9, .ref t9, .ref n9, .int (nI tn), .int (nI he), .int (nI en), .int (nI ln), .int (zI iw), .int (zI dg)])), (v9, .inl (cy 0, 188, .inl v))] := by
  refine zM_of (cc := cX6_does) (maxL := 4) (ret := (some .int)) (by decide) rfl (Nat.le_of_ble_eq_true rfl) ?_
  intro p e s m below meth c A Q hend hx hb hml hr hts hown hlk hG hK hP hD hA hS ls hl
  have hown : s.vm.findClass RX6 = some m.cls := hown
  have hl : lv_has ls 4 [(0, .ref x9), (1, .int 121), (2, .int nq), (3, .int u)] := hl
  refine lv_iload_n hx hb dX6_does_0 rfl (lv_at hl 1 rfl) ?_
  refine lv_tableIn (off := 157) (tgt := 158) hx hb dX6_does_1 (by decide) (by decide) (by decide) (by decide) ?_
  refine lv_aload_n hx hb dX6_does_158 rfl (lv_at hl 0 rfl) ?_
  refine lv_iload_n hx hb dX6_does_159 rfl (lv_at hl 2 rfl) ?_
  refine lv_iload_n hx hb dX6_does_160 rfl (lv_at hl 3 rfl) ?_
  refine zcV (As := [.int nq, .int u]) (rest := []) [0] 0 hg.1 ⟨hx, hb, hml, hown, hts⟩ (c_X6_adds_f1 hg l D cy x9 0 ch era why det cau sv rj v9 b9 s9 k9 p9 t9 n9 tn he en ln iw dg nq u hq) (cwV 2 hts gX6_does_X6_adds rfl rfl rfl (by decide +kernel) ⟨Nat.le_of_ble_eq_true rfl, Nat.le_of_ble_eq_true rfl⟩) hG hK hP hD hS hA rfl rfl (Eq.trans (b := [x9]) rfl rfl) rfl rfl rfl hl.1 rfl (Nat.le_of_ble_eq_true rfl) dX6_does_161 ⟨Nat.zero_le _, Nat.zero_le _⟩ (fun H locs hP hD hS => ?_)
  have hP : va_P D vwCl [(x9, .inr (10, [.int 1, .int (nI ch), .int era, .int why, .int det, .int cau, .int (zI sv), .int (zI rj), .ref v9, .ref b9, .ref s9, .ref k9, .ref p9, .ref t9, .ref n9, .int (nI tn), .int (nI he), .int (nI en), .int (nI ln), .int (zI iw), .int (zI dg)])), (v9, .inl (cy 0, 188, .inl v))] H := hP
  have hD : va_D A [(x9, .inr (10, [.int 1, .int (nI ch), .int era, .int why, .int det, .int cau, .int (zI sv), .int (zI rj), .ref v9, .ref b9, .ref s9, .ref k9, .ref p9, .ref t9, .ref n9, .int (nI tn), .int (nI he), .int (nI en), .int (nI ln), .int (zI iw), .int (zI dg)])), (v9, .inl (cy 0, 188, .inl v))] := hD
  exact ziret hend hx hb hr hlk hK hP hD hS dX6_does_164 rfl rfl

abbrev rmX6_does_f2121 : Room := { frames := 5, cells := 0, slots := 0, locals := 116 }
set_option maxHeartbeats 4000000 in
set_option maxRecDepth 100000 in
theorem c_X6_does_f2121 {G : zG} (hg : zGN G) (l : Launch) (D : va_G) (cy : Nat → ClassId) (x9 : Nat) (ch : Nat) (era : Int32) (why : Int32) (det : Int32) (cau : Int32) (sv : Bool) (rj : Bool) (v9 : Nat) (b9 : Nat) (s9 : Nat) (k9 : Nat) (p9 : Nat) (t9 : Nat) (n9 : Nat) (tn : Nat) (he : Nat) (en : Nat) (ln : Nat) (iw : Bool) (dg : Bool) (v : Nat → Int32) (a : Nat) (u : Int32) (ha : a < 4) (hu : zic 1 99 u = false) : zM G D vwCl (zT cy) l yX6_does wsX6_does rmX6_does_f2121 [.ref x9, .int 121, .int (nI a), .int u] [(x9, .inr (10, [.int 0, .int (nI ch), .int era, .int why, .int det, .int cau, .int (zI sv), .int (zI rj), .ref v9, .ref b9, .ref s9, .ref k9, .ref p9, .ref t9, .ref n9, .int (nI tn), .int (nI he), .int (nI en), .int (nI ln), .int (zI iw), .int (zI dg)])), (v9, .inl (cy 0, 188, .inl v))] (some (.int 0)) [(x9, .inr (10, [.int 2, .int (nI ch), .int era, .int why, .int det, .int cau, .int (zI sv), .int (zI rj), .ref v9, .ref b9, .ref s9, .ref k9, .ref p9, .ref t9, .ref n9, .int (nI tn), .int (nI he), .int (nI en), .int (nI ln), .int (zI iw), .int (zI dg)])), (v9, .inl (cy 0, 188, .inl v))] := by
  refine zM_of (cc := cX6_does) (maxL := 4) (ret := (some .int)) (by decide) rfl (Nat.le_of_ble_eq_true rfl) ?_
  intro p e s m below meth c A Q hend hx hb hml hr hts hown hlk hG hK hP hD hA hS ls hl
  have hown : s.vm.findClass RX6 = some m.cls := hown
  have hl : lv_has ls 4 [(0, .ref x9), (1, .int 121), (2, .int (nI a)), (3, .int u)] := hl
  refine lv_iload_n hx hb dX6_does_0 rfl (lv_at hl 1 rfl) ?_
  refine lv_tableIn (off := 157) (tgt := 158) hx hb dX6_does_1 (by decide) (by decide) (by decide) (by decide) ?_
  refine lv_aload_n hx hb dX6_does_158 rfl (lv_at hl 0 rfl) ?_
  refine lv_iload_n hx hb dX6_does_159 rfl (lv_at hl 2 rfl) ?_
  refine lv_iload_n hx hb dX6_does_160 rfl (lv_at hl 3 rfl) ?_
  refine zcV (As := [.int (nI a), .int u]) (rest := []) [0] 0 hg.1 ⟨hx, hb, hml, hown, hts⟩ (c_X6_adds_f2 hg l D cy x9 0 ch era why det cau sv rj v9 b9 s9 k9 p9 t9 n9 tn he en ln iw dg a u ha hu) (cwV 2 hts gX6_does_X6_adds rfl rfl rfl (by decide +kernel) ⟨Nat.le_of_ble_eq_true rfl, Nat.le_of_ble_eq_true rfl⟩) hG hK hP hD hS hA rfl rfl (Eq.trans (b := [x9]) rfl rfl) rfl rfl rfl hl.1 rfl (Nat.le_of_ble_eq_true rfl) dX6_does_161 ⟨Nat.zero_le _, Nat.zero_le _⟩ (fun H locs hP hD hS => ?_)
  have hP : va_P D vwCl [(x9, .inr (10, [.int 2, .int (nI ch), .int era, .int why, .int det, .int cau, .int (zI sv), .int (zI rj), .ref v9, .ref b9, .ref s9, .ref k9, .ref p9, .ref t9, .ref n9, .int (nI tn), .int (nI he), .int (nI en), .int (nI ln), .int (zI iw), .int (zI dg)])), (v9, .inl (cy 0, 188, .inl v))] H := hP
  have hD : va_D A [(x9, .inr (10, [.int 2, .int (nI ch), .int era, .int why, .int det, .int cau, .int (zI sv), .int (zI rj), .ref v9, .ref b9, .ref s9, .ref k9, .ref p9, .ref t9, .ref n9, .int (nI tn), .int (nI he), .int (nI en), .int (nI ln), .int (zI iw), .int (zI dg)])), (v9, .inl (cy 0, 188, .inl v))] := hD
  exact ziret hend hx hb hr hlk hK hP hD hS dX6_does_164 rfl rfl

abbrev rmX6_does_ok102 : Room := { frames := 5, cells := 0, slots := 0, locals := 116 }
set_option maxHeartbeats 4000000 in
set_option maxRecDepth 100000 in
theorem c_X6_does_ok102 {G : zG} (hg : zGN G) (l : Launch) (D : va_G) (cy : Nat → ClassId) (x9 : Nat) (ch : Nat) (era : Int32) (why : Int32) (det : Int32) (cau : Int32) (sv : Bool) (rj : Bool) (v9 : Nat) (b9 : Nat) (s9 : Nat) (k9 : Nat) (p9 : Nat) (t9 : Nat) (n9 : Nat) (tn : Nat) (he : Nat) (en : Nat) (ln : Nat) (iw : Bool) (dg : Bool) (v : Nat → Int32) (a : Nat) (wq2 : Int32) (ha : a < 4) : zM G D vwCl (zT cy) l yX6_does wsX6_does rmX6_does_ok102 [.ref x9, .int 102, .int (nI a), .int wq2] [(x9, .inr (10, [.int 0, .int (nI ch), .int era, .int why, .int det, .int cau, .int (zI sv), .int (zI rj), .ref v9, .ref b9, .ref s9, .ref k9, .ref p9, .ref t9, .ref n9, .int (nI tn), .int (nI he), .int (nI en), .int (nI ln), .int (zI iw), .int (zI dg)])), (v9, .inl (cy 0, 188, .inl v))] (some (.int (v 2))) [(x9, .inr (10, [.int 0, .int (nI ch), .int era, .int why, .int det, .int cau, .int (zI sv), .int (zI rj), .ref v9, .ref b9, .ref s9, .ref k9, .ref p9, .ref t9, .ref n9, .int (nI tn), .int (nI he), .int (nI en), .int (nI ln), .int (zI iw), .int (zI dg)])), (v9, .inl (cy 0, 188, .inl (upd v 2 (nI a))))] := by
  refine zM_of (cc := cX6_does) (maxL := 4) (ret := (some .int)) (by decide) rfl (Nat.le_of_ble_eq_true rfl) ?_
  intro p e s m below meth c A Q hend hx hb hml hr hts hown hlk hG hK hP hD hA hS ls hl
  have hown : s.vm.findClass RX6 = some m.cls := hown
  have hl : lv_has ls 4 [(0, .ref x9), (1, .int 102), (2, .int (nI a)), (3, .int wq2)] := hl
  refine lv_iload_n hx hb dX6_does_0 rfl (lv_at hl 1 rfl) ?_
  refine lv_tableIn (off := 164) (tgt := 165) hx hb dX6_does_1 (by decide) (by decide) (by decide) (by decide) ?_
  refine lv_aload_n hx hb dX6_does_165 rfl (lv_at hl 0 rfl) ?_
  refine lv_iload_n hx hb dX6_does_166 rfl (lv_at hl 2 rfl) ?_
  refine zcV (As := [.int (nI a)]) (rest := []) [0, 1] 0 hg.1 ⟨hx, hb, hml, hown, hts⟩ (c_X6_selects_ok hg l D cy x9 0 ch era why det cau sv rj v9 b9 s9 k9 p9 t9 n9 tn he en ln iw dg v a ha) (cwV 1 hts gX6_does_X6_selects rfl rfl rfl (by decide +kernel) ⟨Nat.le_of_ble_eq_true rfl, Nat.le_of_ble_eq_true rfl⟩) hG hK hP hD hS hA rfl rfl (Eq.trans (b := [x9, v9]) rfl rfl) rfl rfl rfl hl.1 rfl (Nat.le_of_ble_eq_true rfl) dX6_does_167 ⟨Nat.zero_le _, Nat.zero_le _⟩ (fun H locs hP hD hS => ?_)
  have hP : va_P D vwCl [(x9, .inr (10, [.int 0, .int (nI ch), .int era, .int why, .int det, .int cau, .int (zI sv), .int (zI rj), .ref v9, .ref b9, .ref s9, .ref k9, .ref p9, .ref t9, .ref n9, .int (nI tn), .int (nI he), .int (nI en), .int (nI ln), .int (zI iw), .int (zI dg)])), (v9, .inl (cy 0, 188, .inl (upd v 2 (nI a))))] H := hP
  have hD : va_D A [(x9, .inr (10, [.int 0, .int (nI ch), .int era, .int why, .int det, .int cau, .int (zI sv), .int (zI rj), .ref v9, .ref b9, .ref s9, .ref k9, .ref p9, .ref t9, .ref n9, .int (nI tn), .int (nI he), .int (nI en), .int (nI ln), .int (zI iw), .int (zI dg)])), (v9, .inl (cy 0, 188, .inl (upd v 2 (nI a))))] := hD
  exact ziret hend hx hb hr hlk hK hP hD hS dX6_does_170 rfl rfl

abbrev rmX6_does_f1102 : Room := { frames := 5, cells := 0, slots := 0, locals := 116 }
set_option maxHeartbeats 4000000 in
set_option maxRecDepth 100000 in
theorem c_X6_does_f1102 {G : zG} (hg : zGN G) (l : Launch) (D : va_G) (cy : Nat → ClassId) (x9 : Nat) (ch : Nat) (era : Int32) (why : Int32) (det : Int32) (cau : Int32) (sv : Bool) (rj : Bool) (v9 : Nat) (b9 : Nat) (s9 : Nat) (k9 : Nat) (p9 : Nat) (t9 : Nat) (n9 : Nat) (tn : Nat) (he : Nat) (en : Nat) (ln : Nat) (iw : Bool) (dg : Bool) (v : Nat → Int32) (nq : Int32) (wq2 : Int32) (hq : zic 0 3 nq = false) : zM G D vwCl (zT cy) l yX6_does wsX6_does rmX6_does_f1102 [.ref x9, .int 102, .int nq, .int wq2] [(x9, .inr (10, [.int 0, .int (nI ch), .int era, .int why, .int det, .int cau, .int (zI sv), .int (zI rj), .ref v9, .ref b9, .ref s9, .ref k9, .ref p9, .ref t9, .ref n9, .int (nI tn), .int (nI he), .int (nI en), .int (nI ln), .int (zI iw), .int (zI dg)])), (v9, .inl (cy 0, 188, .inl v))] (some (.int 0)) [(x9, .inr (10, [.int 1, .int (nI ch), .int era, .int why, .int det, .int cau, .int (zI sv), .int (zI rj), .ref v9, .ref b9, .ref s9, .ref k9, .ref p9, .ref t9, .ref n9, .int (nI tn), .int (nI he), .int (nI en), .int (nI ln), .int (zI iw), .int (zI dg)])), (v9, .inl (cy 0, 188, .inl v))] := by
  refine zM_of (cc := cX6_does) (maxL := 4) (ret := (some .int)) (by decide) rfl (Nat.le_of_ble_eq_true rfl) ?_
  intro p e s m below meth c A Q hend hx hb hml hr hts hown hlk hG hK hP hD hA hS ls hl
  have hown : s.vm.findClass RX6 = some m.cls := hown
  have hl : lv_has ls 4 [(0, .ref x9), (1, .int 102), (2, .int nq), (3, .int wq2)] := hl
  refine lv_iload_n hx hb dX6_does_0 rfl (lv_at hl 1 rfl) ?_
  refine lv_tableIn (off := 164) (tgt := 165) hx hb dX6_does_1 (by decide) (by decide) (by decide) (by decide) ?_
  refine lv_aload_n hx hb dX6_does_165 rfl (lv_at hl 0 rfl) ?_
  refine lv_iload_n hx hb dX6_does_166 rfl (lv_at hl 2 rfl) ?_
  refine zcV (As := [.int nq]) (rest := []) [0] 0 hg.1 ⟨hx, hb, hml, hown, hts⟩ (c_X6_selects_f1 hg l D cy x9 0 ch era why det cau sv rj v9 b9 s9 k9 p9 t9 n9 tn he en ln iw dg nq hq) (cwV 1 hts gX6_does_X6_selects rfl rfl rfl (by decide +kernel) ⟨Nat.le_of_ble_eq_true rfl, Nat.le_of_ble_eq_true rfl⟩) hG hK hP hD hS hA rfl rfl (Eq.trans (b := [x9]) rfl rfl) rfl rfl rfl hl.1 rfl (Nat.le_of_ble_eq_true rfl) dX6_does_167 ⟨Nat.zero_le _, Nat.zero_le _⟩ (fun H locs hP hD hS => ?_)
  have hP : va_P D vwCl [(x9, .inr (10, [.int 1, .int (nI ch), .int era, .int why, .int det, .int cau, .int (zI sv), .int (zI rj), .ref v9, .ref b9, .ref s9, .ref k9, .ref p9, .ref t9, .ref n9, .int (nI tn), .int (nI he), .int (nI en), .int (nI ln), .int (zI iw), .int (zI dg)])), (v9, .inl (cy 0, 188, .inl v))] H := hP
  have hD : va_D A [(x9, .inr (10, [.int 1, .int (nI ch), .int era, .int why, .int det, .int cau, .int (zI sv), .int (zI rj), .ref v9, .ref b9, .ref s9, .ref k9, .ref p9, .ref t9, .ref n9, .int (nI tn), .int (nI he), .int (nI en), .int (nI ln), .int (zI iw), .int (zI dg)])), (v9, .inl (cy 0, 188, .inl v))] := hD
  exact ziret hend hx hb hr hlk hK hP hD hS dX6_does_170 rfl rfl

abbrev rmX6_does_ok116 : Room := { frames := 5, cells := 0, slots := 0, locals := 116 }
set_option maxHeartbeats 4000000 in
set_option maxRecDepth 100000 in
theorem c_X6_does_ok116 {G : zG} (hg : zGN G) (l : Launch) (D : va_G) (cy : Nat → ClassId) (x9 : Nat) (ch : Nat) (era : Int32) (why : Int32) (det : Int32) (cau : Int32) (sv : Bool) (rj : Bool) (v9 : Nat) (b9 : Nat) (s9 : Nat) (k9 : Nat) (p9 : Nat) (t9 : Nat) (n9 : Nat) (tn : Nat) (he : Nat) (en : Nat) (ln : Nat) (iw : Bool) (dg : Bool) (v : Nat → Int32) (u : Int32) (wq2 : Int32) (hu : zic 1 9 u = true) : zM G D vwCl (zT cy) l yX6_does wsX6_does rmX6_does_ok116 [.ref x9, .int 116, .int u, .int wq2] [(x9, .inr (10, [.int 0, .int (nI ch), .int era, .int why, .int det, .int cau, .int (zI sv), .int (zI rj), .ref v9, .ref b9, .ref s9, .ref k9, .ref p9, .ref t9, .ref n9, .int (nI tn), .int (nI he), .int (nI en), .int (nI ln), .int (zI iw), .int (zI dg)])), (v9, .inl (cy 0, 188, .inl v))] (some (.int (v 3))) [(x9, .inr (10, [.int 0, .int (nI ch), .int era, .int why, .int det, .int cau, .int (zI sv), .int (zI rj), .ref v9, .ref b9, .ref s9, .ref k9, .ref p9, .ref t9, .ref n9, .int (nI tn), .int (nI he), .int (nI en), .int (nI ln), .int (zI iw), .int (zI dg)])), (v9, .inl (cy 0, 188, .inl (upd v 3 u)))] := by
  refine zM_of (cc := cX6_does) (maxL := 4) (ret := (some .int)) (by decide) rfl (Nat.le_of_ble_eq_true rfl) ?_
  intro p e s m below meth c A Q hend hx hb hml hr hts hown hlk hG hK hP hD hA hS ls hl
  have hown : s.vm.findClass RX6 = some m.cls := hown
  have hl : lv_has ls 4 [(0, .ref x9), (1, .int 116), (2, .int u), (3, .int wq2)] := hl
  refine lv_iload_n hx hb dX6_does_0 rfl (lv_at hl 1 rfl) ?_
  refine lv_tableIn (off := 170) (tgt := 171) hx hb dX6_does_1 (by decide) (by decide) (by decide) (by decide) ?_
  refine lv_aload_n hx hb dX6_does_171 rfl (lv_at hl 0 rfl) ?_
  refine lv_iload_n hx hb dX6_does_172 rfl (lv_at hl 2 rfl) ?_
  refine zcV (As := [.int u]) (rest := []) [0, 1] 0 hg.1 ⟨hx, hb, hml, hown, hts⟩ (c_X6_tenses_ok hg l D cy x9 0 ch era why det cau sv rj v9 b9 s9 k9 p9 t9 n9 tn he en ln iw dg v u hu) (cwV 1 hts gX6_does_X6_tenses rfl rfl rfl (by decide +kernel) ⟨Nat.le_of_ble_eq_true rfl, Nat.le_of_ble_eq_true rfl⟩) hG hK hP hD hS hA rfl rfl (Eq.trans (b := [x9, v9]) rfl rfl) rfl rfl rfl hl.1 rfl (Nat.le_of_ble_eq_true rfl) dX6_does_173 ⟨Nat.zero_le _, Nat.zero_le _⟩ (fun H locs hP hD hS => ?_)
  have hP : va_P D vwCl [(x9, .inr (10, [.int 0, .int (nI ch), .int era, .int why, .int det, .int cau, .int (zI sv), .int (zI rj), .ref v9, .ref b9, .ref s9, .ref k9, .ref p9, .ref t9, .ref n9, .int (nI tn), .int (nI he), .int (nI en), .int (nI ln), .int (zI iw), .int (zI dg)])), (v9, .inl (cy 0, 188, .inl (upd v 3 u)))] H := hP
  have hD : va_D A [(x9, .inr (10, [.int 0, .int (nI ch), .int era, .int why, .int det, .int cau, .int (zI sv), .int (zI rj), .ref v9, .ref b9, .ref s9, .ref k9, .ref p9, .ref t9, .ref n9, .int (nI tn), .int (nI he), .int (nI en), .int (nI ln), .int (zI iw), .int (zI dg)])), (v9, .inl (cy 0, 188, .inl (upd v 3 u)))] := hD
  exact ziret hend hx hb hr hlk hK hP hD hS dX6_does_176 rfl rfl

abbrev rmX6_does_f1116 : Room := { frames := 5, cells := 0, slots := 0, locals := 116 }
set_option maxHeartbeats 4000000 in
set_option maxRecDepth 100000 in
theorem c_X6_does_f1116 {G : zG} (hg : zGN G) (l : Launch) (D : va_G) (cy : Nat → ClassId) (x9 : Nat) (ch : Nat) (era : Int32) (why : Int32) (det : Int32) (cau : Int32) (sv : Bool) (rj : Bool) (v9 : Nat) (b9 : Nat) (s9 : Nat) (k9 : Nat) (p9 : Nat) (t9 : Nat) (n9 : Nat) (tn : Nat) (he : Nat) (en : Nat) (ln : Nat) (iw : Bool) (dg : Bool) (v : Nat → Int32) (u : Int32) (wq2 : Int32) (hu : zic 1 9 u = false) : zM G D vwCl (zT cy) l yX6_does wsX6_does rmX6_does_f1116 [.ref x9, .int 116, .int u, .int wq2] [(x9, .inr (10, [.int 0, .int (nI ch), .int era, .int why, .int det, .int cau, .int (zI sv), .int (zI rj), .ref v9, .ref b9, .ref s9, .ref k9, .ref p9, .ref t9, .ref n9, .int (nI tn), .int (nI he), .int (nI en), .int (nI ln), .int (zI iw), .int (zI dg)])), (v9, .inl (cy 0, 188, .inl v))] (some (.int 0)) [(x9, .inr (10, [.int 1, .int (nI ch), .int era, .int why, .int det, .int cau, .int (zI sv), .int (zI rj), .ref v9, .ref b9, .ref s9, .ref k9, .ref p9, .ref t9, .ref n9, .int (nI tn), .int (nI he), .int (nI en), .int (nI ln), .int (zI iw), .int (zI dg)])), (v9, .inl (cy 0, 188, .inl v))] := by
  refine zM_of (cc := cX6_does) (maxL := 4) (ret := (some .int)) (by decide) rfl (Nat.le_of_ble_eq_true rfl) ?_
  intro p e s m below meth c A Q hend hx hb hml hr hts hown hlk hG hK hP hD hA hS ls hl
  have hown : s.vm.findClass RX6 = some m.cls := hown
  have hl : lv_has ls 4 [(0, .ref x9), (1, .int 116), (2, .int u), (3, .int wq2)] := hl
  refine lv_iload_n hx hb dX6_does_0 rfl (lv_at hl 1 rfl) ?_
  refine lv_tableIn (off := 170) (tgt := 171) hx hb dX6_does_1 (by decide) (by decide) (by decide) (by decide) ?_
  refine lv_aload_n hx hb dX6_does_171 rfl (lv_at hl 0 rfl) ?_
  refine lv_iload_n hx hb dX6_does_172 rfl (lv_at hl 2 rfl) ?_
  refine zcV (As := [.int u]) (rest := []) [0] 0 hg.1 ⟨hx, hb, hml, hown, hts⟩ (c_X6_tenses_f1 hg l D cy x9 0 ch era why det cau sv rj v9 b9 s9 k9 p9 t9 n9 tn he en ln iw dg u hu) (cwV 1 hts gX6_does_X6_tenses rfl rfl rfl (by decide +kernel) ⟨Nat.le_of_ble_eq_true rfl, Nat.le_of_ble_eq_true rfl⟩) hG hK hP hD hS hA rfl rfl (Eq.trans (b := [x9]) rfl rfl) rfl rfl rfl hl.1 rfl (Nat.le_of_ble_eq_true rfl) dX6_does_173 ⟨Nat.zero_le _, Nat.zero_le _⟩ (fun H locs hP hD hS => ?_)
  have hP : va_P D vwCl [(x9, .inr (10, [.int 1, .int (nI ch), .int era, .int why, .int det, .int cau, .int (zI sv), .int (zI rj), .ref v9, .ref b9, .ref s9, .ref k9, .ref p9, .ref t9, .ref n9, .int (nI tn), .int (nI he), .int (nI en), .int (nI ln), .int (zI iw), .int (zI dg)])), (v9, .inl (cy 0, 188, .inl v))] H := hP
  have hD : va_D A [(x9, .inr (10, [.int 1, .int (nI ch), .int era, .int why, .int det, .int cau, .int (zI sv), .int (zI rj), .ref v9, .ref b9, .ref s9, .ref k9, .ref p9, .ref t9, .ref n9, .int (nI tn), .int (nI he), .int (nI en), .int (nI ln), .int (zI iw), .int (zI dg)])), (v9, .inl (cy 0, 188, .inl v))] := hD
  exact ziret hend hx hb hr hlk hK hP hD hS dX6_does_176 rfl rfl

abbrev rmX6_does_ok112 : Room := { frames := 5, cells := 0, slots := 0, locals := 116 }
set_option maxHeartbeats 4000000 in
set_option maxRecDepth 100000 in
theorem c_X6_does_ok112 {G : zG} (hg : zGN G) (l : Launch) (D : va_G) (cy : Nat → ClassId) (x9 : Nat) (ch : Nat) (era : Int32) (why : Int32) (det : Int32) (cau : Int32) (sv : Bool) (rj : Bool) (v9 : Nat) (b9 : Nat) (s9 : Nat) (k9 : Nat) (p9 : Nat) (t9 : Nat) (n9 : Nat) (tn : Nat) (he : Nat) (en : Nat) (ln : Nat) (iw : Bool) (dg : Bool) (v : Nat → Int32) (u : Int32) (rw : Nat) (wq2 : Int32) (hv4 : v 4 = nI rw) (hrw : rw < 6) (hu : zic 0 255 u = true) : zM G D vwCl (zT cy) l yX6_does wsX6_does rmX6_does_ok112 [.ref x9, .int 112, .int u, .int wq2] [(x9, .inr (10, [.int 0, .int (nI ch), .int era, .int why, .int det, .int cau, .int (zI sv), .int (zI rj), .ref v9, .ref b9, .ref s9, .ref k9, .ref p9, .ref t9, .ref n9, .int (nI tn), .int (nI he), .int (nI en), .int (nI ln), .int (zI iw), .int (zI dg)])), (v9, .inl (cy 0, 188, .inl v))] (some (.int (nI (rw + 1)))) [(x9, .inr (10, [.int 0, .int (nI ch), .int era, .int why, .int det, .int cau, .int (zI sv), .int (zI rj), .ref v9, .ref b9, .ref s9, .ref k9, .ref p9, .ref t9, .ref n9, .int (nI tn), .int (nI he), .int (nI en), .int (nI ln), .int (zI iw), .int (zI dg)])), (v9, .inl (cy 0, 188, .inl (upd (upd v (62 + rw) u) 4 (nI (rw + 1)))))] := by
  refine zM_of (cc := cX6_does) (maxL := 4) (ret := (some .int)) (by decide) rfl (Nat.le_of_ble_eq_true rfl) ?_
  intro p e s m below meth c A Q hend hx hb hml hr hts hown hlk hG hK hP hD hA hS ls hl
  have hown : s.vm.findClass RX6 = some m.cls := hown
  have hl : lv_has ls 4 [(0, .ref x9), (1, .int 112), (2, .int u), (3, .int wq2)] := hl
  refine lv_iload_n hx hb dX6_does_0 rfl (lv_at hl 1 rfl) ?_
  refine lv_tableIn (off := 176) (tgt := 177) hx hb dX6_does_1 (by decide) (by decide) (by decide) (by decide) ?_
  refine lv_aload_n hx hb dX6_does_177 rfl (lv_at hl 0 rfl) ?_
  refine lv_iload_n hx hb dX6_does_178 rfl (lv_at hl 2 rfl) ?_
  refine zcV (As := [.int u]) (rest := []) [0, 1] 0 hg.1 ⟨hx, hb, hml, hown, hts⟩ (c_X6_addsRow_ok hg l D cy x9 0 ch era why det cau sv rj v9 b9 s9 k9 p9 t9 n9 tn he en ln iw dg v u rw hv4 hrw hu) (cwV 1 hts gX6_does_X6_addsRow rfl rfl rfl (by decide +kernel) ⟨Nat.le_of_ble_eq_true rfl, Nat.le_of_ble_eq_true rfl⟩) hG hK hP hD hS hA rfl rfl (Eq.trans (b := [x9, v9]) rfl rfl) rfl rfl rfl hl.1 rfl (Nat.le_of_ble_eq_true rfl) dX6_does_179 ⟨Nat.zero_le _, Nat.zero_le _⟩ (fun H locs hP hD hS => ?_)
  have hP : va_P D vwCl [(x9, .inr (10, [.int 0, .int (nI ch), .int era, .int why, .int det, .int cau, .int (zI sv), .int (zI rj), .ref v9, .ref b9, .ref s9, .ref k9, .ref p9, .ref t9, .ref n9, .int (nI tn), .int (nI he), .int (nI en), .int (nI ln), .int (zI iw), .int (zI dg)])), (v9, .inl (cy 0, 188, .inl (upd (upd v (62 + rw) u) 4 (nI (rw + 1)))))] H := hP
  have hD : va_D A [(x9, .inr (10, [.int 0, .int (nI ch), .int era, .int why, .int det, .int cau, .int (zI sv), .int (zI rj), .ref v9, .ref b9, .ref s9, .ref k9, .ref p9, .ref t9, .ref n9, .int (nI tn), .int (nI he), .int (nI en), .int (nI ln), .int (zI iw), .int (zI dg)])), (v9, .inl (cy 0, 188, .inl (upd (upd v (62 + rw) u) 4 (nI (rw + 1)))))] := hD
  exact ziret hend hx hb hr hlk hK hP hD hS dX6_does_182 rfl rfl

abbrev rmX6_does_rej112 : Room := { frames := 5, cells := 0, slots := 0, locals := 116 }
set_option maxHeartbeats 4000000 in
set_option maxRecDepth 100000 in
theorem c_X6_does_rej112 {G : zG} (hg : zGN G) (l : Launch) (D : va_G) (cy : Nat → ClassId) (x9 : Nat) (ch : Nat) (era : Int32) (why : Int32) (det : Int32) (cau : Int32) (sv : Bool) (rj : Bool) (v9 : Nat) (b9 : Nat) (s9 : Nat) (k9 : Nat) (p9 : Nat) (t9 : Nat) (n9 : Nat) (tn : Nat) (he : Nat) (en : Nat) (ln : Nat) (iw : Bool) (dg : Bool) (v : Nat → Int32) (u : Int32) (rw : Nat) (wq2 : Int32) (hv4 : v 4 = nI rw) (hrw : rw = 6) (hu : zic 0 255 u = true) : zM G D vwCl (zT cy) l yX6_does wsX6_does rmX6_does_rej112 [.ref x9, .int 112, .int u, .int wq2] [(x9, .inr (10, [.int 0, .int (nI ch), .int era, .int why, .int det, .int cau, .int (zI sv), .int (zI rj), .ref v9, .ref b9, .ref s9, .ref k9, .ref p9, .ref t9, .ref n9, .int (nI tn), .int (nI he), .int (nI en), .int (nI ln), .int (zI iw), .int (zI dg)])), (v9, .inl (cy 0, 188, .inl v))] (some (.int 0)) [(x9, .inr (10, [.int 2, .int (nI ch), .int era, .int 12, .int 6, .int 0, .int (zI sv), .int (zI true), .ref v9, .ref b9, .ref s9, .ref k9, .ref p9, .ref t9, .ref n9, .int (nI tn), .int (nI he), .int (nI en), .int (nI ln), .int (zI iw), .int (zI dg)])), (v9, .inl (cy 0, 188, .inl v))] := by
  refine zM_of (cc := cX6_does) (maxL := 4) (ret := (some .int)) (by decide) rfl (Nat.le_of_ble_eq_true rfl) ?_
  intro p e s m below meth c A Q hend hx hb hml hr hts hown hlk hG hK hP hD hA hS ls hl
  have hown : s.vm.findClass RX6 = some m.cls := hown
  have hl : lv_has ls 4 [(0, .ref x9), (1, .int 112), (2, .int u), (3, .int wq2)] := hl
  refine lv_iload_n hx hb dX6_does_0 rfl (lv_at hl 1 rfl) ?_
  refine lv_tableIn (off := 176) (tgt := 177) hx hb dX6_does_1 (by decide) (by decide) (by decide) (by decide) ?_
  refine lv_aload_n hx hb dX6_does_177 rfl (lv_at hl 0 rfl) ?_
  refine lv_iload_n hx hb dX6_does_178 rfl (lv_at hl 2 rfl) ?_
  refine zcV (As := [.int u]) (rest := []) [0, 1] 0 hg.1 ⟨hx, hb, hml, hown, hts⟩ (c_X6_addsRow_rej hg l D cy x9 0 ch era why det cau sv rj v9 b9 s9 k9 p9 t9 n9 tn he en ln iw dg v u rw hv4 hrw hu) (cwV 1 hts gX6_does_X6_addsRow rfl rfl rfl (by decide +kernel) ⟨Nat.le_of_ble_eq_true rfl, Nat.le_of_ble_eq_true rfl⟩) hG hK hP hD hS hA rfl rfl (Eq.trans (b := [x9, v9]) rfl rfl) rfl rfl rfl hl.1 rfl (Nat.le_of_ble_eq_true rfl) dX6_does_179 ⟨Nat.zero_le _, Nat.zero_le _⟩ (fun H locs hP hD hS => ?_)
  have hP : va_P D vwCl [(x9, .inr (10, [.int 2, .int (nI ch), .int era, .int 12, .int 6, .int 0, .int (zI sv), .int (zI true), .ref v9, .ref b9, .ref s9, .ref k9, .ref p9, .ref t9, .ref n9, .int (nI tn), .int (nI he), .int (nI en), .int (nI ln), .int (zI iw), .int (zI dg)])), (v9, .inl (cy 0, 188, .inl v))] H := hP
  have hD : va_D A [(x9, .inr (10, [.int 2, .int (nI ch), .int era, .int 12, .int 6, .int 0, .int (zI sv), .int (zI true), .ref v9, .ref b9, .ref s9, .ref k9, .ref p9, .ref t9, .ref n9, .int (nI tn), .int (nI he), .int (nI en), .int (nI ln), .int (zI iw), .int (zI dg)])), (v9, .inl (cy 0, 188, .inl v))] := hD
  exact ziret hend hx hb hr hlk hK hP hD hS dX6_does_182 rfl rfl

abbrev rmX6_does_f1112 : Room := { frames := 5, cells := 0, slots := 0, locals := 116 }
set_option maxHeartbeats 4000000 in
set_option maxRecDepth 100000 in
theorem c_X6_does_f1112 {G : zG} (hg : zGN G) (l : Launch) (D : va_G) (cy : Nat → ClassId) (x9 : Nat) (ch : Nat) (era : Int32) (why : Int32) (det : Int32) (cau : Int32) (sv : Bool) (rj : Bool) (v9 : Nat) (b9 : Nat) (s9 : Nat) (k9 : Nat) (p9 : Nat) (t9 : Nat) (n9 : Nat) (tn : Nat) (he : Nat) (en : Nat) (ln : Nat) (iw : Bool) (dg : Bool) (v : Nat → Int32) (u : Int32) (wq2 : Int32) (hu : zic 0 255 u = false) : zM G D vwCl (zT cy) l yX6_does wsX6_does rmX6_does_f1112 [.ref x9, .int 112, .int u, .int wq2] [(x9, .inr (10, [.int 0, .int (nI ch), .int era, .int why, .int det, .int cau, .int (zI sv), .int (zI rj), .ref v9, .ref b9, .ref s9, .ref k9, .ref p9, .ref t9, .ref n9, .int (nI tn), .int (nI he), .int (nI en), .int (nI ln), .int (zI iw), .int (zI dg)])), (v9, .inl (cy 0, 188, .inl v))] (some (.int 0)) [(x9, .inr (10, [.int 1, .int (nI ch), .int era, .int why, .int det, .int cau, .int (zI sv), .int (zI rj), .ref v9, .ref b9, .ref s9, .ref k9, .ref p9, .ref t9, .ref n9, .int (nI tn), .int (nI he), .int (nI en), .int (nI ln), .int (zI iw), .int (zI dg)])), (v9, .inl (cy 0, 188, .inl v))] := by
  refine zM_of (cc := cX6_does) (maxL := 4) (ret := (some .int)) (by decide) rfl (Nat.le_of_ble_eq_true rfl) ?_
  intro p e s m below meth c A Q hend hx hb hml hr hts hown hlk hG hK hP hD hA hS ls hl
  have hown : s.vm.findClass RX6 = some m.cls := hown
  have hl : lv_has ls 4 [(0, .ref x9), (1, .int 112), (2, .int u), (3, .int wq2)] := hl
  refine lv_iload_n hx hb dX6_does_0 rfl (lv_at hl 1 rfl) ?_
  refine lv_tableIn (off := 176) (tgt := 177) hx hb dX6_does_1 (by decide) (by decide) (by decide) (by decide) ?_
  refine lv_aload_n hx hb dX6_does_177 rfl (lv_at hl 0 rfl) ?_
  refine lv_iload_n hx hb dX6_does_178 rfl (lv_at hl 2 rfl) ?_
  refine zcV (As := [.int u]) (rest := []) [0] 0 hg.1 ⟨hx, hb, hml, hown, hts⟩ (c_X6_addsRow_f1 hg l D cy x9 0 ch era why det cau sv rj v9 b9 s9 k9 p9 t9 n9 tn he en ln iw dg u hu) (cwV 1 hts gX6_does_X6_addsRow rfl rfl rfl (by decide +kernel) ⟨Nat.le_of_ble_eq_true rfl, Nat.le_of_ble_eq_true rfl⟩) hG hK hP hD hS hA rfl rfl (Eq.trans (b := [x9]) rfl rfl) rfl rfl rfl hl.1 rfl (Nat.le_of_ble_eq_true rfl) dX6_does_179 ⟨Nat.zero_le _, Nat.zero_le _⟩ (fun H locs hP hD hS => ?_)
  have hP : va_P D vwCl [(x9, .inr (10, [.int 1, .int (nI ch), .int era, .int why, .int det, .int cau, .int (zI sv), .int (zI rj), .ref v9, .ref b9, .ref s9, .ref k9, .ref p9, .ref t9, .ref n9, .int (nI tn), .int (nI he), .int (nI en), .int (nI ln), .int (zI iw), .int (zI dg)])), (v9, .inl (cy 0, 188, .inl v))] H := hP
  have hD : va_D A [(x9, .inr (10, [.int 1, .int (nI ch), .int era, .int why, .int det, .int cau, .int (zI sv), .int (zI rj), .ref v9, .ref b9, .ref s9, .ref k9, .ref p9, .ref t9, .ref n9, .int (nI tn), .int (nI he), .int (nI en), .int (nI ln), .int (zI iw), .int (zI dg)])), (v9, .inl (cy 0, 188, .inl v))] := hD
  exact ziret hend hx hb hr hlk hK hP hD hS dX6_does_182 rfl rfl

abbrev rmX6_does_ok113 : Room := { frames := 5, cells := 0, slots := 0, locals := 116 }
set_option maxHeartbeats 4000000 in
set_option maxRecDepth 100000 in
theorem c_X6_does_ok113 {G : zG} (hg : zGN G) (l : Launch) (D : va_G) (cy : Nat → ClassId) (x9 : Nat) (ch : Nat) (era : Int32) (why : Int32) (det : Int32) (cau : Int32) (sv : Bool) (rj : Bool) (v9 : Nat) (b9 : Nat) (s9 : Nat) (k9 : Nat) (p9 : Nat) (t9 : Nat) (n9 : Nat) (tn : Nat) (he : Nat) (en : Nat) (ln : Nat) (iw : Bool) (dg : Bool) (v : Nat → Int32) (oq : Int32) (wq2 : Int32) : zM G D vwCl (zT cy) l yX6_does wsX6_does rmX6_does_ok113 [.ref x9, .int 113, .int oq, .int wq2] [(x9, .inr (10, [.int 0, .int (nI ch), .int era, .int why, .int det, .int cau, .int (zI sv), .int (zI rj), .ref v9, .ref b9, .ref s9, .ref k9, .ref p9, .ref t9, .ref n9, .int (nI tn), .int (nI he), .int (nI en), .int (nI ln), .int (zI iw), .int (zI dg)])), (v9, .inl (cy 0, 188, .inl v))] (some (.int (v 4))) [(x9, .inr (10, [.int 0, .int (nI ch), .int era, .int why, .int det, .int cau, .int (zI sv), .int (zI rj), .ref v9, .ref b9, .ref s9, .ref k9, .ref p9, .ref t9, .ref n9, .int (nI tn), .int (nI he), .int (nI en), .int (nI ln), .int (zI iw), .int (zI dg)])), (v9, .inl (cy 0, 188, .inl (upd (zrz v 6) 4 0)))] := by
  refine zM_of (cc := cX6_does) (maxL := 4) (ret := (some .int)) (by decide) rfl (Nat.le_of_ble_eq_true rfl) ?_
  intro p e s m below meth c A Q hend hx hb hml hr hts hown hlk hG hK hP hD hA hS ls hl
  have hown : s.vm.findClass RX6 = some m.cls := hown
  have hl : lv_has ls 4 [(0, .ref x9), (1, .int 113), (2, .int oq), (3, .int wq2)] := hl
  refine lv_iload_n hx hb dX6_does_0 rfl (lv_at hl 1 rfl) ?_
  refine lv_tableIn (off := 182) (tgt := 183) hx hb dX6_does_1 (by decide) (by decide) (by decide) (by decide) ?_
  refine lv_aload_n hx hb dX6_does_183 rfl (lv_at hl 0 rfl) ?_
  refine zcV (As := []) (rest := []) [0, 1] 0 hg.1 ⟨hx, hb, hml, hown, hts⟩ (c_X6_clears hg l D cy x9 0 ch era why det cau sv rj v9 b9 s9 k9 p9 t9 n9 tn he en ln iw dg v) (cwV 0 hts gX6_does_X6_clears rfl rfl rfl (by decide +kernel) ⟨Nat.le_of_ble_eq_true rfl, Nat.le_of_ble_eq_true rfl⟩) hG hK hP hD hS hA rfl rfl (Eq.trans (b := [x9, v9]) rfl rfl) rfl rfl rfl hl.1 rfl (Nat.le_of_ble_eq_true rfl) dX6_does_184 ⟨Nat.zero_le _, Nat.zero_le _⟩ (fun H locs hP hD hS => ?_)
  have hP : va_P D vwCl [(x9, .inr (10, [.int 0, .int (nI ch), .int era, .int why, .int det, .int cau, .int (zI sv), .int (zI rj), .ref v9, .ref b9, .ref s9, .ref k9, .ref p9, .ref t9, .ref n9, .int (nI tn), .int (nI he), .int (nI en), .int (nI ln), .int (zI iw), .int (zI dg)])), (v9, .inl (cy 0, 188, .inl (upd (zrz v 6) 4 0)))] H := hP
  have hD : va_D A [(x9, .inr (10, [.int 0, .int (nI ch), .int era, .int why, .int det, .int cau, .int (zI sv), .int (zI rj), .ref v9, .ref b9, .ref s9, .ref k9, .ref p9, .ref t9, .ref n9, .int (nI tn), .int (nI he), .int (nI en), .int (nI ln), .int (zI iw), .int (zI dg)])), (v9, .inl (cy 0, 188, .inl (upd (zrz v 6) 4 0)))] := hD
  exact ziret hend hx hb hr hlk hK hP hD hS dX6_does_187 rfl rfl

abbrev rmX6_does_ok107 : Room := { frames := 5, cells := 0, slots := 0, locals := 116 }
set_option maxHeartbeats 4000000 in
set_option maxRecDepth 100000 in
theorem c_X6_does_ok107 {G : zG} (hg : zGN G) (l : Launch) (D : va_G) (cy : Nat → ClassId) (x9 : Nat) (ch : Nat) (era : Int32) (why : Int32) (det : Int32) (cau : Int32) (sv : Bool) (rj : Bool) (v9 : Nat) (b9 : Nat) (s9 : Nat) (k9 : Nat) (p9 : Nat) (t9 : Nat) (n9 : Nat) (tn : Nat) (he : Nat) (en : Nat) (ln : Nat) (iw : Bool) (dg : Bool) (v : Nat → Int32) (ac : Nat) (rw : Nat) (cn : Nat) (qn : Nat) (wq2 : Int32) (hv2 : v 2 = nI ac) (hv4 : v 4 = nI rw) (hv5 : v 5 = nI cn) (hrw : rw ≤ 6) (hac : ac < 4) (hcn : cn ≤ 30) (hq1 : 0 < qn) (hq2 : qn ≤ 10) (hcq : cn + qn ≤ 30) (hr0 : ∀ i, i < qn → zrc6 (zkV6 v ac rw cn i) ac rw (cn + i) = 0) : zM G D vwCl (zT cy) l yX6_does wsX6_does rmX6_does_ok107 [.ref x9, .int 107, .int (nI qn), .int wq2] [(x9, .inr (10, [.int 0, .int (nI ch), .int era, .int why, .int det, .int cau, .int (zI sv), .int (zI rj), .ref v9, .ref b9, .ref s9, .ref k9, .ref p9, .ref t9, .ref n9, .int (nI tn), .int (nI he), .int (nI en), .int (nI ln), .int (zI iw), .int (zI dg)])), (v9, .inl (cy 0, 188, .inl v))] (some (.int (zkW6 v ac rw cn qn))) [(x9, .inr (10, [.int 0, .int (nI ch), .int era, .int why, .int det, .int cau, .int (zI sv), .int (zI rj), .ref v9, .ref b9, .ref s9, .ref k9, .ref p9, .ref t9, .ref n9, .int (nI tn), .int (nI he), .int (nI en), .int (nI ln), .int (zI iw), .int (zI dg)])), (v9, .inl (cy 0, 188, .inl (zkV6 v ac rw cn qn)))] := by
  refine zM_of (cc := cX6_does) (maxL := 4) (ret := (some .int)) (by decide) rfl (Nat.le_of_ble_eq_true rfl) ?_
  intro p e s m below meth c A Q hend hx hb hml hr hts hown hlk hG hK hP hD hA hS ls hl
  have hown : s.vm.findClass RX6 = some m.cls := hown
  have hl : lv_has ls 4 [(0, .ref x9), (1, .int 107), (2, .int (nI qn)), (3, .int wq2)] := hl
  refine lv_iload_n hx hb dX6_does_0 rfl (lv_at hl 1 rfl) ?_
  refine lv_tableIn (off := 187) (tgt := 188) hx hb dX6_does_1 (by decide) (by decide) (by decide) (by decide) ?_
  refine lv_aload_n hx hb dX6_does_188 rfl (lv_at hl 0 rfl) ?_
  refine lv_iload_n hx hb dX6_does_189 rfl (lv_at hl 2 rfl) ?_
  refine zcV (As := [.int (nI qn)]) (rest := []) [0, 1] 0 hg.1 ⟨hx, hb, hml, hown, hts⟩ (c_X6_knitsAll_ok hg l D cy x9 ch era why det cau sv rj v9 b9 s9 k9 p9 t9 n9 tn he en ln iw dg v ac rw cn qn hv2 hv4 hv5 hrw hac hcn hq1 hq2 hcq hr0) (cwV 1 hts gX6_does_X6_knitsAll rfl rfl rfl (by decide +kernel) ⟨Nat.le_of_ble_eq_true rfl, Nat.le_of_ble_eq_true rfl⟩) hG hK hP hD hS hA rfl rfl (Eq.trans (b := [x9, v9]) rfl rfl) rfl rfl rfl hl.1 rfl (Nat.le_of_ble_eq_true rfl) dX6_does_190 ⟨Nat.zero_le _, Nat.zero_le _⟩ (fun H locs hP hD hS => ?_)
  have hP : va_P D vwCl [(x9, .inr (10, [.int 0, .int (nI ch), .int era, .int why, .int det, .int cau, .int (zI sv), .int (zI rj), .ref v9, .ref b9, .ref s9, .ref k9, .ref p9, .ref t9, .ref n9, .int (nI tn), .int (nI he), .int (nI en), .int (nI ln), .int (zI iw), .int (zI dg)])), (v9, .inl (cy 0, 188, .inl (zkV6 v ac rw cn qn)))] H := hP
  have hD : va_D A [(x9, .inr (10, [.int 0, .int (nI ch), .int era, .int why, .int det, .int cau, .int (zI sv), .int (zI rj), .ref v9, .ref b9, .ref s9, .ref k9, .ref p9, .ref t9, .ref n9, .int (nI tn), .int (nI he), .int (nI en), .int (nI ln), .int (zI iw), .int (zI dg)])), (v9, .inl (cy 0, 188, .inl (zkV6 v ac rw cn qn)))] := hD
  exact ziret hend hx hb hr hlk hK hP hD hS dX6_does_193 rfl rfl

abbrev rmX6_does_rej107 : Room := { frames := 5, cells := 0, slots := 0, locals := 116 }
set_option maxHeartbeats 4000000 in
set_option maxRecDepth 100000 in
theorem c_X6_does_rej107 {G : zG} (hg : zGN G) (l : Launch) (D : va_G) (cy : Nat → ClassId) (x9 : Nat) (ch : Nat) (era : Int32) (why : Int32) (det : Int32) (cau : Int32) (sv : Bool) (rj : Bool) (v9 : Nat) (b9 : Nat) (s9 : Nat) (k9 : Nat) (p9 : Nat) (t9 : Nat) (n9 : Nat) (tn : Nat) (he : Nat) (en : Nat) (ln : Nat) (iw : Bool) (dg : Bool) (v : Nat → Int32) (ac : Nat) (rw : Nat) (cn : Nat) (qn : Nat) (jn : Nat) (wq2 : Int32) (hv2 : v 2 = nI ac) (hv4 : v 4 = nI rw) (hv5 : v 5 = nI cn) (hrw : rw ≤ 6) (hac : ac < 4) (hcn : cn ≤ 30) (hq1 : 0 < qn) (hq2 : qn ≤ 10) (hjq : jn < qn) (hcq : cn + jn ≤ 30) (hr0 : ∀ i, i < jn → zrc6 (zkV6 v ac rw cn i) ac rw (cn + i) = 0) (hrj : ¬ zrc6 (zkV6 v ac rw cn jn) ac rw (cn + jn) = 0) : zM G D vwCl (zT cy) l yX6_does wsX6_does rmX6_does_rej107 [.ref x9, .int 107, .int (nI qn), .int wq2] [(x9, .inr (10, [.int 0, .int (nI ch), .int era, .int why, .int det, .int cau, .int (zI sv), .int (zI rj), .ref v9, .ref b9, .ref s9, .ref k9, .ref p9, .ref t9, .ref n9, .int (nI tn), .int (nI he), .int (nI en), .int (nI ln), .int (zI iw), .int (zI dg)])), (v9, .inl (cy 0, 188, .inl v))] (some (.int (zkW6 v ac rw cn jn))) [(x9, .inr (10, [.int 2, .int (nI ch), .int era, .int (zrc6 (zkV6 v ac rw cn jn) ac rw (cn + jn)), .int (zdc6 (zkV6 v ac rw cn jn) rw (cn + jn)), .int 0, .int (zI sv), .int (zI true), .ref v9, .ref b9, .ref s9, .ref k9, .ref p9, .ref t9, .ref n9, .int (nI tn), .int (nI he), .int (nI en), .int (nI ln), .int (zI iw), .int (zI dg)])), (v9, .inl (cy 0, 188, .inl (zkV6 v ac rw cn jn)))] := by
  refine zM_of (cc := cX6_does) (maxL := 4) (ret := (some .int)) (by decide) rfl (Nat.le_of_ble_eq_true rfl) ?_
  intro p e s m below meth c A Q hend hx hb hml hr hts hown hlk hG hK hP hD hA hS ls hl
  have hown : s.vm.findClass RX6 = some m.cls := hown
  have hl : lv_has ls 4 [(0, .ref x9), (1, .int 107), (2, .int (nI qn)), (3, .int wq2)] := hl
  refine lv_iload_n hx hb dX6_does_0 rfl (lv_at hl 1 rfl) ?_
  refine lv_tableIn (off := 187) (tgt := 188) hx hb dX6_does_1 (by decide) (by decide) (by decide) (by decide) ?_
  refine lv_aload_n hx hb dX6_does_188 rfl (lv_at hl 0 rfl) ?_
  refine lv_iload_n hx hb dX6_does_189 rfl (lv_at hl 2 rfl) ?_
  refine zcV (As := [.int (nI qn)]) (rest := []) [0, 1] 0 hg.1 ⟨hx, hb, hml, hown, hts⟩ (c_X6_knitsAll_rej hg l D cy x9 ch era why det cau sv rj v9 b9 s9 k9 p9 t9 n9 tn he en ln iw dg v ac rw cn qn jn hv2 hv4 hv5 hrw hac hcn hq1 hq2 hjq hcq hr0 hrj) (cwV 1 hts gX6_does_X6_knitsAll rfl rfl rfl (by decide +kernel) ⟨Nat.le_of_ble_eq_true rfl, Nat.le_of_ble_eq_true rfl⟩) hG hK hP hD hS hA rfl rfl (Eq.trans (b := [x9, v9]) rfl rfl) rfl rfl rfl hl.1 rfl (Nat.le_of_ble_eq_true rfl) dX6_does_190 ⟨Nat.zero_le _, Nat.zero_le _⟩ (fun H locs hP hD hS => ?_)
  have hP : va_P D vwCl [(x9, .inr (10, [.int 2, .int (nI ch), .int era, .int (zrc6 (zkV6 v ac rw cn jn) ac rw (cn + jn)), .int (zdc6 (zkV6 v ac rw cn jn) rw (cn + jn)), .int 0, .int (zI sv), .int (zI true), .ref v9, .ref b9, .ref s9, .ref k9, .ref p9, .ref t9, .ref n9, .int (nI tn), .int (nI he), .int (nI en), .int (nI ln), .int (zI iw), .int (zI dg)])), (v9, .inl (cy 0, 188, .inl (zkV6 v ac rw cn jn)))] H := hP
  have hD : va_D A [(x9, .inr (10, [.int 2, .int (nI ch), .int era, .int (zrc6 (zkV6 v ac rw cn jn) ac rw (cn + jn)), .int (zdc6 (zkV6 v ac rw cn jn) rw (cn + jn)), .int 0, .int (zI sv), .int (zI true), .ref v9, .ref b9, .ref s9, .ref k9, .ref p9, .ref t9, .ref n9, .int (nI tn), .int (nI he), .int (nI en), .int (nI ln), .int (zI iw), .int (zI dg)])), (v9, .inl (cy 0, 188, .inl (zkV6 v ac rw cn jn)))] := hD
  exact ziret hend hx hb hr hlk hK hP hD hS dX6_does_193 rfl rfl

abbrev rmX6_does_f1107 : Room := { frames := 5, cells := 0, slots := 0, locals := 116 }
set_option maxHeartbeats 4000000 in
set_option maxRecDepth 100000 in
theorem c_X6_does_f1107 {G : zG} (hg : zGN G) (l : Launch) (D : va_G) (cy : Nat → ClassId) (x9 : Nat) (ch : Nat) (era : Int32) (why : Int32) (det : Int32) (cau : Int32) (sv : Bool) (rj : Bool) (v9 : Nat) (b9 : Nat) (s9 : Nat) (k9 : Nat) (p9 : Nat) (t9 : Nat) (n9 : Nat) (tn : Nat) (he : Nat) (en : Nat) (ln : Nat) (iw : Bool) (dg : Bool) (v : Nat → Int32) (nq : Int32) (wq2 : Int32) (hq : zic 1 10 nq = false) : zM G D vwCl (zT cy) l yX6_does wsX6_does rmX6_does_f1107 [.ref x9, .int 107, .int nq, .int wq2] [(x9, .inr (10, [.int 0, .int (nI ch), .int era, .int why, .int det, .int cau, .int (zI sv), .int (zI rj), .ref v9, .ref b9, .ref s9, .ref k9, .ref p9, .ref t9, .ref n9, .int (nI tn), .int (nI he), .int (nI en), .int (nI ln), .int (zI iw), .int (zI dg)])), (v9, .inl (cy 0, 188, .inl v))] (some (.int 0)) [(x9, .inr (10, [.int 1, .int (nI ch), .int era, .int why, .int det, .int cau, .int (zI sv), .int (zI rj), .ref v9, .ref b9, .ref s9, .ref k9, .ref p9, .ref t9, .ref n9, .int (nI tn), .int (nI he), .int (nI en), .int (nI ln), .int (zI iw), .int (zI dg)])), (v9, .inl (cy 0, 188, .inl v))] := by
  refine zM_of (cc := cX6_does) (maxL := 4) (ret := (some .int)) (by decide) rfl (Nat.le_of_ble_eq_true rfl) ?_
  intro p e s m below meth c A Q hend hx hb hml hr hts hown hlk hG hK hP hD hA hS ls hl
  have hown : s.vm.findClass RX6 = some m.cls := hown
  have hl : lv_has ls 4 [(0, .ref x9), (1, .int 107), (2, .int nq), (3, .int wq2)] := hl
  refine lv_iload_n hx hb dX6_does_0 rfl (lv_at hl 1 rfl) ?_
  refine lv_tableIn (off := 187) (tgt := 188) hx hb dX6_does_1 (by decide) (by decide) (by decide) (by decide) ?_
  refine lv_aload_n hx hb dX6_does_188 rfl (lv_at hl 0 rfl) ?_
  refine lv_iload_n hx hb dX6_does_189 rfl (lv_at hl 2 rfl) ?_
  refine zcV (As := [.int nq]) (rest := []) [0] 0 hg.1 ⟨hx, hb, hml, hown, hts⟩ (c_X6_knitsAll_f1 hg l D cy x9 0 ch era why det cau sv rj v9 b9 s9 k9 p9 t9 n9 tn he en ln iw dg nq hq) (cwV 1 hts gX6_does_X6_knitsAll rfl rfl rfl (by decide +kernel) ⟨Nat.le_of_ble_eq_true rfl, Nat.le_of_ble_eq_true rfl⟩) hG hK hP hD hS hA rfl rfl (Eq.trans (b := [x9]) rfl rfl) rfl rfl rfl hl.1 rfl (Nat.le_of_ble_eq_true rfl) dX6_does_190 ⟨Nat.zero_le _, Nat.zero_le _⟩ (fun H locs hP hD hS => ?_)
  have hP : va_P D vwCl [(x9, .inr (10, [.int 1, .int (nI ch), .int era, .int why, .int det, .int cau, .int (zI sv), .int (zI rj), .ref v9, .ref b9, .ref s9, .ref k9, .ref p9, .ref t9, .ref n9, .int (nI tn), .int (nI he), .int (nI en), .int (nI ln), .int (zI iw), .int (zI dg)])), (v9, .inl (cy 0, 188, .inl v))] H := hP
  have hD : va_D A [(x9, .inr (10, [.int 1, .int (nI ch), .int era, .int why, .int det, .int cau, .int (zI sv), .int (zI rj), .ref v9, .ref b9, .ref s9, .ref k9, .ref p9, .ref t9, .ref n9, .int (nI tn), .int (nI he), .int (nI en), .int (nI ln), .int (zI iw), .int (zI dg)])), (v9, .inl (cy 0, 188, .inl v))] := hD
  exact ziret hend hx hb hr hlk hK hP hD hS dX6_does_193 rfl rfl

abbrev rmX6_does_ok108 : Room := { frames := 5, cells := 0, slots := 0, locals := 116 }
set_option maxHeartbeats 4000000 in
set_option maxRecDepth 100000 in
theorem c_X6_does_ok108 {G : zG} (hg : zGN G) (l : Launch) (D : va_G) (cy : Nat → ClassId) (x9 : Nat) (ch : Nat) (era : Int32) (why : Int32) (det : Int32) (cau : Int32) (sv : Bool) (rj : Bool) (v9 : Nat) (b9 : Nat) (s9 : Nat) (k9 : Nat) (p9 : Nat) (t9 : Nat) (n9 : Nat) (tn : Nat) (he : Nat) (en : Nat) (ln : Nat) (iw : Bool) (dg : Bool) (v : Nat → Int32) (a : Nat) (bs : Int32) (j : Nat) (wq2 : Int32) (ha : a < 24) (hbs : nI a + (-1) = bs) (hbj : zic 0 23 bs = true → bs = nI j ∧ j < 24) (hr0 : zrR6 v a bs j = 0) : zM G D vwCl (zT cy) l yX6_does wsX6_does rmX6_does_ok108 [.ref x9, .int 108, .int (nI a), .int wq2] [(x9, .inr (10, [.int 0, .int (nI ch), .int era, .int why, .int det, .int cau, .int (zI sv), .int (zI rj), .ref v9, .ref b9, .ref s9, .ref k9, .ref p9, .ref t9, .ref n9, .int (nI tn), .int (nI he), .int (nI en), .int (nI ln), .int (zI iw), .int (zI dg)])), (v9, .inl (cy 0, 188, .inl v))] (some (.int (v (10 + a) + v (10 + j)))) [(x9, .inr (10, [.int 0, .int (nI ch), .int era, .int why, .int det, .int cau, .int (zI sv), .int (zI rj), .ref v9, .ref b9, .ref s9, .ref k9, .ref p9, .ref t9, .ref n9, .int (nI tn), .int (nI he), .int (nI en), .int (nI ln), .int (zI iw), .int (zI dg)])), (v9, .inl (cy 0, 188, .inl (zmv v a j)))] := by
  refine zM_of (cc := cX6_does) (maxL := 4) (ret := (some .int)) (by decide) rfl (Nat.le_of_ble_eq_true rfl) ?_
  intro p e s m below meth c A Q hend hx hb hml hr hts hown hlk hG hK hP hD hA hS ls hl
  have hown : s.vm.findClass RX6 = some m.cls := hown
  have hl : lv_has ls 4 [(0, .ref x9), (1, .int 108), (2, .int (nI a)), (3, .int wq2)] := hl
  refine lv_iload_n hx hb dX6_does_0 rfl (lv_at hl 1 rfl) ?_
  refine lv_tableIn (off := 143) (tgt := 144) hx hb dX6_does_1 (by decide) (by decide) (by decide) (by decide) ?_
  refine lv_aload_n hx hb dX6_does_144 rfl (lv_at hl 0 rfl) ?_
  refine lv_iload_n hx hb dX6_does_145 rfl (lv_at hl 2 rfl) ?_
  refine lv_iconst (v := (-1)) hx hb dX6_does_146 (by decide) ?_
  refine zcV (As := [.int (nI a), .int (-1)]) (rest := []) [0, 1] 0 hg.1 ⟨hx, hb, hml, hown, hts⟩ (c_X6_moves_ok hg l D cy x9 0 ch era why det cau sv rj v9 b9 s9 k9 p9 t9 n9 tn he en ln iw dg v a (-1) bs j ha hbs hbj hr0) (cwV 2 hts gX6_does_X6_moves rfl rfl rfl (by decide +kernel) ⟨Nat.le_of_ble_eq_true rfl, Nat.le_of_ble_eq_true rfl⟩) hG hK hP hD hS hA rfl rfl (Eq.trans (b := [x9, v9]) rfl rfl) rfl rfl rfl hl.1 rfl (Nat.le_of_ble_eq_true rfl) dX6_does_147 ⟨Nat.zero_le _, Nat.zero_le _⟩ (fun H locs hP hD hS => ?_)
  have hP : va_P D vwCl [(x9, .inr (10, [.int 0, .int (nI ch), .int era, .int why, .int det, .int cau, .int (zI sv), .int (zI rj), .ref v9, .ref b9, .ref s9, .ref k9, .ref p9, .ref t9, .ref n9, .int (nI tn), .int (nI he), .int (nI en), .int (nI ln), .int (zI iw), .int (zI dg)])), (v9, .inl (cy 0, 188, .inl (zmv v a j)))] H := hP
  have hD : va_D A [(x9, .inr (10, [.int 0, .int (nI ch), .int era, .int why, .int det, .int cau, .int (zI sv), .int (zI rj), .ref v9, .ref b9, .ref s9, .ref k9, .ref p9, .ref t9, .ref n9, .int (nI tn), .int (nI he), .int (nI en), .int (nI ln), .int (zI iw), .int (zI dg)])), (v9, .inl (cy 0, 188, .inl (zmv v a j)))] := hD
  exact ziret hend hx hb hr hlk hK hP hD hS dX6_does_150 rfl rfl

abbrev rmX6_does_rej108 : Room := { frames := 5, cells := 0, slots := 0, locals := 116 }
set_option maxHeartbeats 4000000 in
set_option maxRecDepth 100000 in
theorem c_X6_does_rej108 {G : zG} (hg : zGN G) (l : Launch) (D : va_G) (cy : Nat → ClassId) (x9 : Nat) (ch : Nat) (era : Int32) (why : Int32) (det : Int32) (cau : Int32) (sv : Bool) (rj : Bool) (v9 : Nat) (b9 : Nat) (s9 : Nat) (k9 : Nat) (p9 : Nat) (t9 : Nat) (n9 : Nat) (tn : Nat) (he : Nat) (en : Nat) (ln : Nat) (iw : Bool) (dg : Bool) (v : Nat → Int32) (a : Nat) (bs : Int32) (j : Nat) (wq2 : Int32) (ha : a < 24) (hbs : nI a + (-1) = bs) (hbj : zic 0 23 bs = true → bs = nI j ∧ j < 24) (hr0 : ¬ zrR6 v a bs j = 0) (hsq : zbok 40 (v 0)) : zM G D vwCl (zT cy) l yX6_does wsX6_does rmX6_does_rej108 [.ref x9, .int 108, .int (nI a), .int wq2] [(x9, .inr (10, [.int 0, .int (nI ch), .int era, .int why, .int det, .int cau, .int (zI sv), .int (zI rj), .ref v9, .ref b9, .ref s9, .ref k9, .ref p9, .ref t9, .ref n9, .int (nI tn), .int (nI he), .int (nI en), .int (nI ln), .int (zI iw), .int (zI dg)])), (v9, .inl (cy 0, 188, .inl v))] (some (.int 0)) [(x9, .inr (10, [.int 2, .int (nI ch), .int era, .int (zrR6 v a bs j), .int (zdR6 v a bs j), .int 0, .int (zI sv), .int (zI true), .ref v9, .ref b9, .ref s9, .ref k9, .ref p9, .ref t9, .ref n9, .int (nI tn), .int (nI he), .int (nI en), .int (nI ln), .int (zI iw), .int (zI dg)])), (v9, .inl (cy 0, 188, .inl v))] := by
  refine zM_of (cc := cX6_does) (maxL := 4) (ret := (some .int)) (by decide) rfl (Nat.le_of_ble_eq_true rfl) ?_
  intro p e s m below meth c A Q hend hx hb hml hr hts hown hlk hG hK hP hD hA hS ls hl
  have hown : s.vm.findClass RX6 = some m.cls := hown
  have hl : lv_has ls 4 [(0, .ref x9), (1, .int 108), (2, .int (nI a)), (3, .int wq2)] := hl
  refine lv_iload_n hx hb dX6_does_0 rfl (lv_at hl 1 rfl) ?_
  refine lv_tableIn (off := 143) (tgt := 144) hx hb dX6_does_1 (by decide) (by decide) (by decide) (by decide) ?_
  refine lv_aload_n hx hb dX6_does_144 rfl (lv_at hl 0 rfl) ?_
  refine lv_iload_n hx hb dX6_does_145 rfl (lv_at hl 2 rfl) ?_
  refine lv_iconst (v := (-1)) hx hb dX6_does_146 (by decide) ?_
  refine zcV (As := [.int (nI a), .int (-1)]) (rest := []) [0, 1] 0 hg.1 ⟨hx, hb, hml, hown, hts⟩ (c_X6_moves_rej hg l D cy x9 0 ch era why det cau sv rj v9 b9 s9 k9 p9 t9 n9 tn he en ln iw dg v a (-1) bs j ha hbs hbj hr0 hsq) (cwV 2 hts gX6_does_X6_moves rfl rfl rfl (by decide +kernel) ⟨Nat.le_of_ble_eq_true rfl, Nat.le_of_ble_eq_true rfl⟩) hG hK hP hD hS hA rfl rfl (Eq.trans (b := [x9, v9]) rfl rfl) rfl rfl rfl hl.1 rfl (Nat.le_of_ble_eq_true rfl) dX6_does_147 ⟨Nat.zero_le _, Nat.zero_le _⟩ (fun H locs hP hD hS => ?_)
  have hP : va_P D vwCl [(x9, .inr (10, [.int 2, .int (nI ch), .int era, .int (zrR6 v a bs j), .int (zdR6 v a bs j), .int 0, .int (zI sv), .int (zI true), .ref v9, .ref b9, .ref s9, .ref k9, .ref p9, .ref t9, .ref n9, .int (nI tn), .int (nI he), .int (nI en), .int (nI ln), .int (zI iw), .int (zI dg)])), (v9, .inl (cy 0, 188, .inl v))] H := hP
  have hD : va_D A [(x9, .inr (10, [.int 2, .int (nI ch), .int era, .int (zrR6 v a bs j), .int (zdR6 v a bs j), .int 0, .int (zI sv), .int (zI true), .ref v9, .ref b9, .ref s9, .ref k9, .ref p9, .ref t9, .ref n9, .int (nI tn), .int (nI he), .int (nI en), .int (nI ln), .int (zI iw), .int (zI dg)])), (v9, .inl (cy 0, 188, .inl v))] := hD
  exact ziret hend hx hb hr hlk hK hP hD hS dX6_does_150 rfl rfl

abbrev rmX6_does_f1108 : Room := { frames := 5, cells := 0, slots := 0, locals := 116 }
set_option maxHeartbeats 4000000 in
set_option maxRecDepth 100000 in
theorem c_X6_does_f1108 {G : zG} (hg : zGN G) (l : Launch) (D : va_G) (cy : Nat → ClassId) (x9 : Nat) (ch : Nat) (era : Int32) (why : Int32) (det : Int32) (cau : Int32) (sv : Bool) (rj : Bool) (v9 : Nat) (b9 : Nat) (s9 : Nat) (k9 : Nat) (p9 : Nat) (t9 : Nat) (n9 : Nat) (tn : Nat) (he : Nat) (en : Nat) (ln : Nat) (iw : Bool) (dg : Bool) (v : Nat → Int32) (nq : Int32) (wq2 : Int32) (hq : zic 0 23 nq = false) : zM G D vwCl (zT cy) l yX6_does wsX6_does rmX6_does_f1108 [.ref x9, .int 108, .int nq, .int wq2] [(x9, .inr (10, [.int 0, .int (nI ch), .int era, .int why, .int det, .int cau, .int (zI sv), .int (zI rj), .ref v9, .ref b9, .ref s9, .ref k9, .ref p9, .ref t9, .ref n9, .int (nI tn), .int (nI he), .int (nI en), .int (nI ln), .int (zI iw), .int (zI dg)])), (v9, .inl (cy 0, 188, .inl v))] (some (.int 0)) [(x9, .inr (10, [.int 1, .int (nI ch), .int era, .int why, .int det, .int cau, .int (zI sv), .int (zI rj), .ref v9, .ref b9, .ref s9, .ref k9, .ref p9, .ref t9, .ref n9, .int (nI tn), .int (nI he), .int (nI en), .int (nI ln), .int (zI iw), .int (zI dg)])), (v9, .inl (cy 0, 188, .inl v))] := by
  refine zM_of (cc := cX6_does) (maxL := 4) (ret := (some .int)) (by decide) rfl (Nat.le_of_ble_eq_true rfl) ?_
  intro p e s m below meth c A Q hend hx hb hml hr hts hown hlk hG hK hP hD hA hS ls hl
  have hown : s.vm.findClass RX6 = some m.cls := hown
  have hl : lv_has ls 4 [(0, .ref x9), (1, .int 108), (2, .int nq), (3, .int wq2)] := hl
  refine lv_iload_n hx hb dX6_does_0 rfl (lv_at hl 1 rfl) ?_
  refine lv_tableIn (off := 143) (tgt := 144) hx hb dX6_does_1 (by decide) (by decide) (by decide) (by decide) ?_
  refine lv_aload_n hx hb dX6_does_144 rfl (lv_at hl 0 rfl) ?_
  refine lv_iload_n hx hb dX6_does_145 rfl (lv_at hl 2 rfl) ?_
  refine lv_iconst (v := (-1)) hx hb dX6_does_146 (by decide) ?_
  refine zcV (As := [.int nq, .int (-1)]) (rest := []) [0] 0 hg.1 ⟨hx, hb, hml, hown, hts⟩ (c_X6_moves_f1 hg l D cy x9 0 ch era why det cau sv rj v9 b9 s9 k9 p9 t9 n9 tn he en ln iw dg nq (-1) hq) (cwV 2 hts gX6_does_X6_moves rfl rfl rfl (by decide +kernel) ⟨Nat.le_of_ble_eq_true rfl, Nat.le_of_ble_eq_true rfl⟩) hG hK hP hD hS hA rfl rfl (Eq.trans (b := [x9]) rfl rfl) rfl rfl rfl hl.1 rfl (Nat.le_of_ble_eq_true rfl) dX6_does_147 ⟨Nat.zero_le _, Nat.zero_le _⟩ (fun H locs hP hD hS => ?_)
  have hP : va_P D vwCl [(x9, .inr (10, [.int 1, .int (nI ch), .int era, .int why, .int det, .int cau, .int (zI sv), .int (zI rj), .ref v9, .ref b9, .ref s9, .ref k9, .ref p9, .ref t9, .ref n9, .int (nI tn), .int (nI he), .int (nI en), .int (nI ln), .int (zI iw), .int (zI dg)])), (v9, .inl (cy 0, 188, .inl v))] H := hP
  have hD : va_D A [(x9, .inr (10, [.int 1, .int (nI ch), .int era, .int why, .int det, .int cau, .int (zI sv), .int (zI rj), .ref v9, .ref b9, .ref s9, .ref k9, .ref p9, .ref t9, .ref n9, .int (nI tn), .int (nI he), .int (nI en), .int (nI ln), .int (zI iw), .int (zI dg)])), (v9, .inl (cy 0, 188, .inl v))] := hD
  exact ziret hend hx hb hr hlk hK hP hD hS dX6_does_150 rfl rfl

abbrev rmX6_does_ok103 : Room := { frames := 5, cells := 0, slots := 0, locals := 116 }
set_option maxHeartbeats 4000000 in
set_option maxRecDepth 100000 in
theorem c_X6_does_ok103 {G : zG} (hg : zGN G) (l : Launch) (D : va_G) (cy : Nat → ClassId) (x9 : Nat) (ch : Nat) (era : Int32) (why : Int32) (det : Int32) (cau : Int32) (sv : Bool) (rj : Bool) (v9 : Nat) (b9 : Nat) (s9 : Nat) (k9 : Nat) (p9 : Nat) (t9 : Nat) (n9 : Nat) (tn : Nat) (he : Nat) (en : Nat) (ln : Nat) (iw : Bool) (dg : Bool) (v : Nat → Int32) (a : Nat) (bs : Int32) (j : Nat) (wq2 : Int32) (ha : a < 24) (hbs : nI a + 1 = bs) (hbj : zic 0 23 bs = true → bs = nI j ∧ j < 24) (hr0 : zrR6 v a bs j = 0) : zM G D vwCl (zT cy) l yX6_does wsX6_does rmX6_does_ok103 [.ref x9, .int 103, .int (nI a), .int wq2] [(x9, .inr (10, [.int 0, .int (nI ch), .int era, .int why, .int det, .int cau, .int (zI sv), .int (zI rj), .ref v9, .ref b9, .ref s9, .ref k9, .ref p9, .ref t9, .ref n9, .int (nI tn), .int (nI he), .int (nI en), .int (nI ln), .int (zI iw), .int (zI dg)])), (v9, .inl (cy 0, 188, .inl v))] (some (.int (v (10 + a) + v (10 + j)))) [(x9, .inr (10, [.int 0, .int (nI ch), .int era, .int why, .int det, .int cau, .int (zI sv), .int (zI rj), .ref v9, .ref b9, .ref s9, .ref k9, .ref p9, .ref t9, .ref n9, .int (nI tn), .int (nI he), .int (nI en), .int (nI ln), .int (zI iw), .int (zI dg)])), (v9, .inl (cy 0, 188, .inl (zmv v a j)))] := by
  refine zM_of (cc := cX6_does) (maxL := 4) (ret := (some .int)) (by decide) rfl (Nat.le_of_ble_eq_true rfl) ?_
  intro p e s m below meth c A Q hend hx hb hml hr hts hown hlk hG hK hP hD hA hS ls hl
  have hown : s.vm.findClass RX6 = some m.cls := hown
  have hl : lv_has ls 4 [(0, .ref x9), (1, .int 103), (2, .int (nI a)), (3, .int wq2)] := hl
  refine lv_iload_n hx hb dX6_does_0 rfl (lv_at hl 1 rfl) ?_
  refine lv_tableIn (off := 150) (tgt := 151) hx hb dX6_does_1 (by decide) (by decide) (by decide) (by decide) ?_
  refine lv_aload_n hx hb dX6_does_151 rfl (lv_at hl 0 rfl) ?_
  refine lv_iload_n hx hb dX6_does_152 rfl (lv_at hl 2 rfl) ?_
  refine lv_iconst (v := 1) hx hb dX6_does_153 (by decide) ?_
  refine zcV (As := [.int (nI a), .int 1]) (rest := []) [0, 1] 0 hg.1 ⟨hx, hb, hml, hown, hts⟩ (c_X6_moves_ok hg l D cy x9 0 ch era why det cau sv rj v9 b9 s9 k9 p9 t9 n9 tn he en ln iw dg v a 1 bs j ha hbs hbj hr0) (cwV 2 hts gX6_does_X6_moves rfl rfl rfl (by decide +kernel) ⟨Nat.le_of_ble_eq_true rfl, Nat.le_of_ble_eq_true rfl⟩) hG hK hP hD hS hA rfl rfl (Eq.trans (b := [x9, v9]) rfl rfl) rfl rfl rfl hl.1 rfl (Nat.le_of_ble_eq_true rfl) dX6_does_154 ⟨Nat.zero_le _, Nat.zero_le _⟩ (fun H locs hP hD hS => ?_)
  have hP : va_P D vwCl [(x9, .inr (10, [.int 0, .int (nI ch), .int era, .int why, .int det, .int cau, .int (zI sv), .int (zI rj), .ref v9, .ref b9, .ref s9, .ref k9, .ref p9, .ref t9, .ref n9, .int (nI tn), .int (nI he), .int (nI en), .int (nI ln), .int (zI iw), .int (zI dg)])), (v9, .inl (cy 0, 188, .inl (zmv v a j)))] H := hP
  have hD : va_D A [(x9, .inr (10, [.int 0, .int (nI ch), .int era, .int why, .int det, .int cau, .int (zI sv), .int (zI rj), .ref v9, .ref b9, .ref s9, .ref k9, .ref p9, .ref t9, .ref n9, .int (nI tn), .int (nI he), .int (nI en), .int (nI ln), .int (zI iw), .int (zI dg)])), (v9, .inl (cy 0, 188, .inl (zmv v a j)))] := hD
  exact ziret hend hx hb hr hlk hK hP hD hS dX6_does_157 rfl rfl

abbrev rmX6_does_rej103 : Room := { frames := 5, cells := 0, slots := 0, locals := 116 }
set_option maxHeartbeats 4000000 in
set_option maxRecDepth 100000 in
theorem c_X6_does_rej103 {G : zG} (hg : zGN G) (l : Launch) (D : va_G) (cy : Nat → ClassId) (x9 : Nat) (ch : Nat) (era : Int32) (why : Int32) (det : Int32) (cau : Int32) (sv : Bool) (rj : Bool) (v9 : Nat) (b9 : Nat) (s9 : Nat) (k9 : Nat) (p9 : Nat) (t9 : Nat) (n9 : Nat) (tn : Nat) (he : Nat) (en : Nat) (ln : Nat) (iw : Bool) (dg : Bool) (v : Nat → Int32) (a : Nat) (bs : Int32) (j : Nat) (wq2 : Int32) (ha : a < 24) (hbs : nI a + 1 = bs) (hbj : zic 0 23 bs = true → bs = nI j ∧ j < 24) (hr0 : ¬ zrR6 v a bs j = 0) (hsq : zbok 40 (v 0)) : zM G D vwCl (zT cy) l yX6_does wsX6_does rmX6_does_rej103 [.ref x9, .int 103, .int (nI a), .int wq2] [(x9, .inr (10, [.int 0, .int (nI ch), .int era, .int why, .int det, .int cau, .int (zI sv), .int (zI rj), .ref v9, .ref b9, .ref s9, .ref k9, .ref p9, .ref t9, .ref n9, .int (nI tn), .int (nI he), .int (nI en), .int (nI ln), .int (zI iw), .int (zI dg)])), (v9, .inl (cy 0, 188, .inl v))] (some (.int 0)) [(x9, .inr (10, [.int 2, .int (nI ch), .int era, .int (zrR6 v a bs j), .int (zdR6 v a bs j), .int 0, .int (zI sv), .int (zI true), .ref v9, .ref b9, .ref s9, .ref k9, .ref p9, .ref t9, .ref n9, .int (nI tn), .int (nI he), .int (nI en), .int (nI ln), .int (zI iw), .int (zI dg)])), (v9, .inl (cy 0, 188, .inl v))] := by
  refine zM_of (cc := cX6_does) (maxL := 4) (ret := (some .int)) (by decide) rfl (Nat.le_of_ble_eq_true rfl) ?_
  intro p e s m below meth c A Q hend hx hb hml hr hts hown hlk hG hK hP hD hA hS ls hl
  have hown : s.vm.findClass RX6 = some m.cls := hown
  have hl : lv_has ls 4 [(0, .ref x9), (1, .int 103), (2, .int (nI a)), (3, .int wq2)] := hl
  refine lv_iload_n hx hb dX6_does_0 rfl (lv_at hl 1 rfl) ?_
  refine lv_tableIn (off := 150) (tgt := 151) hx hb dX6_does_1 (by decide) (by decide) (by decide) (by decide) ?_
  refine lv_aload_n hx hb dX6_does_151 rfl (lv_at hl 0 rfl) ?_
  refine lv_iload_n hx hb dX6_does_152 rfl (lv_at hl 2 rfl) ?_
  refine lv_iconst (v := 1) hx hb dX6_does_153 (by decide) ?_
  refine zcV (As := [.int (nI a), .int 1]) (rest := []) [0, 1] 0 hg.1 ⟨hx, hb, hml, hown, hts⟩ (c_X6_moves_rej hg l D cy x9 0 ch era why det cau sv rj v9 b9 s9 k9 p9 t9 n9 tn he en ln iw dg v a 1 bs j ha hbs hbj hr0 hsq) (cwV 2 hts gX6_does_X6_moves rfl rfl rfl (by decide +kernel) ⟨Nat.le_of_ble_eq_true rfl, Nat.le_of_ble_eq_true rfl⟩) hG hK hP hD hS hA rfl rfl (Eq.trans (b := [x9, v9]) rfl rfl) rfl rfl rfl hl.1 rfl (Nat.le_of_ble_eq_true rfl) dX6_does_154 ⟨Nat.zero_le _, Nat.zero_le _⟩ (fun H locs hP hD hS => ?_)
  have hP : va_P D vwCl [(x9, .inr (10, [.int 2, .int (nI ch), .int era, .int (zrR6 v a bs j), .int (zdR6 v a bs j), .int 0, .int (zI sv), .int (zI true), .ref v9, .ref b9, .ref s9, .ref k9, .ref p9, .ref t9, .ref n9, .int (nI tn), .int (nI he), .int (nI en), .int (nI ln), .int (zI iw), .int (zI dg)])), (v9, .inl (cy 0, 188, .inl v))] H := hP
  have hD : va_D A [(x9, .inr (10, [.int 2, .int (nI ch), .int era, .int (zrR6 v a bs j), .int (zdR6 v a bs j), .int 0, .int (zI sv), .int (zI true), .ref v9, .ref b9, .ref s9, .ref k9, .ref p9, .ref t9, .ref n9, .int (nI tn), .int (nI he), .int (nI en), .int (nI ln), .int (zI iw), .int (zI dg)])), (v9, .inl (cy 0, 188, .inl v))] := hD
  exact ziret hend hx hb hr hlk hK hP hD hS dX6_does_157 rfl rfl

abbrev rmX6_does_f1103 : Room := { frames := 5, cells := 0, slots := 0, locals := 116 }
set_option maxHeartbeats 4000000 in
set_option maxRecDepth 100000 in
theorem c_X6_does_f1103 {G : zG} (hg : zGN G) (l : Launch) (D : va_G) (cy : Nat → ClassId) (x9 : Nat) (ch : Nat) (era : Int32) (why : Int32) (det : Int32) (cau : Int32) (sv : Bool) (rj : Bool) (v9 : Nat) (b9 : Nat) (s9 : Nat) (k9 : Nat) (p9 : Nat) (t9 : Nat) (n9 : Nat) (tn : Nat) (he : Nat) (en : Nat) (ln : Nat) (iw : Bool) (dg : Bool) (v : Nat → Int32) (nq : Int32) (wq2 : Int32) (hq : zic 0 23 nq = false) : zM G D vwCl (zT cy) l yX6_does wsX6_does rmX6_does_f1103 [.ref x9, .int 103, .int nq, .int wq2] [(x9, .inr (10, [.int 0, .int (nI ch), .int era, .int why, .int det, .int cau, .int (zI sv), .int (zI rj), .ref v9, .ref b9, .ref s9, .ref k9, .ref p9, .ref t9, .ref n9, .int (nI tn), .int (nI he), .int (nI en), .int (nI ln), .int (zI iw), .int (zI dg)])), (v9, .inl (cy 0, 188, .inl v))] (some (.int 0)) [(x9, .inr (10, [.int 1, .int (nI ch), .int era, .int why, .int det, .int cau, .int (zI sv), .int (zI rj), .ref v9, .ref b9, .ref s9, .ref k9, .ref p9, .ref t9, .ref n9, .int (nI tn), .int (nI he), .int (nI en), .int (nI ln), .int (zI iw), .int (zI dg)])), (v9, .inl (cy 0, 188, .inl v))] := by
  refine zM_of (cc := cX6_does) (maxL := 4) (ret := (some .int)) (by decide) rfl (Nat.le_of_ble_eq_true rfl) ?_
  intro p e s m below meth c A Q hend hx hb hml hr hts hown hlk hG hK hP hD hA hS ls hl
  have hown : s.vm.findClass RX6 = some m.cls := hown
  have hl : lv_has ls 4 [(0, .ref x9), (1, .int 103), (2, .int nq), (3, .int wq2)] := hl
  refine lv_iload_n hx hb dX6_does_0 rfl (lv_at hl 1 rfl) ?_
  refine lv_tableIn (off := 150) (tgt := 151) hx hb dX6_does_1 (by decide) (by decide) (by decide) (by decide) ?_
  refine lv_aload_n hx hb dX6_does_151 rfl (lv_at hl 0 rfl) ?_
  refine lv_iload_n hx hb dX6_does_152 rfl (lv_at hl 2 rfl) ?_
  refine lv_iconst (v := 1) hx hb dX6_does_153 (by decide) ?_
  refine zcV (As := [.int nq, .int 1]) (rest := []) [0] 0 hg.1 ⟨hx, hb, hml, hown, hts⟩ (c_X6_moves_f1 hg l D cy x9 0 ch era why det cau sv rj v9 b9 s9 k9 p9 t9 n9 tn he en ln iw dg nq 1 hq) (cwV 2 hts gX6_does_X6_moves rfl rfl rfl (by decide +kernel) ⟨Nat.le_of_ble_eq_true rfl, Nat.le_of_ble_eq_true rfl⟩) hG hK hP hD hS hA rfl rfl (Eq.trans (b := [x9]) rfl rfl) rfl rfl rfl hl.1 rfl (Nat.le_of_ble_eq_true rfl) dX6_does_154 ⟨Nat.zero_le _, Nat.zero_le _⟩ (fun H locs hP hD hS => ?_)
  have hP : va_P D vwCl [(x9, .inr (10, [.int 1, .int (nI ch), .int era, .int why, .int det, .int cau, .int (zI sv), .int (zI rj), .ref v9, .ref b9, .ref s9, .ref k9, .ref p9, .ref t9, .ref n9, .int (nI tn), .int (nI he), .int (nI en), .int (nI ln), .int (zI iw), .int (zI dg)])), (v9, .inl (cy 0, 188, .inl v))] H := hP
  have hD : va_D A [(x9, .inr (10, [.int 1, .int (nI ch), .int era, .int why, .int det, .int cau, .int (zI sv), .int (zI rj), .ref v9, .ref b9, .ref s9, .ref k9, .ref p9, .ref t9, .ref n9, .int (nI tn), .int (nI he), .int (nI en), .int (nI ln), .int (zI iw), .int (zI dg)])), (v9, .inl (cy 0, 188, .inl v))] := hD
  exact ziret hend hx hb hr hlk hK hP hD hS dX6_does_157 rfl rfl

abbrev rmX6_command_p99 : Room := { frames := 3, cells := 0, slots := 0, locals := 66 }
set_option maxHeartbeats 4000000 in
set_option maxRecDepth 100000 in
theorem c_X6_command_p99 {G : zG} (hg : zGN G) (l : Launch) (D : va_G) (cy : Nat → ClassId) (x9 : Nat) (th : Int32) (ch : Nat) (era : Int32) (why : Int32) (det : Int32) (cau : Int32) (sv : Bool) (rj : Bool) (v9 : Nat) (b9 : Nat) (s9 : Nat) (k9 : Nat) (p9 : Nat) (t9 : Nat) (n9 : Nat) (tn : Nat) (he : Nat) (en : Nat) (ln : Nat) (iw : Bool) (tx : Nat → Int32) (hhe : he ≤ 60) (hen : en ≤ 60) (hc : zqs tx en he = 99) : zM G D vwCl (zT cy) l yX6_command wsX6_command rmX6_command_p99 [.ref x9] [(x9, .inr (10, [.int th, .int (nI ch), .int era, .int why, .int det, .int cau, .int (zI sv), .int (zI rj), .ref v9, .ref b9, .ref s9, .ref k9, .ref p9, .ref t9, .ref n9, .int (nI tn), .int (nI he), .int (nI en), .int (nI ln), .int (zI iw), .int (zI false)])), (t9, .inl (cy 0, 60, .inl tx))] none [(x9, .inr (10, [.int th, .int (nI ch), .int era, .int why, .int det, .int cau, .int (zI sv), .int (zI rj), .ref v9, .ref b9, .ref s9, .ref k9, .ref p9, .ref t9, .ref n9, .int (nI tn), .int (nI (zbH tx en ((he + 1) + zdN tx en 2 (he + 1)) (decide (zdN tx en 2 (he + 1) = 0)) 45)), .int (nI en), .int (nI ln), .int (zI (zbW tx en ((he + 1) + zdN tx en 2 (he + 1)) (decide (zdN tx en 2 (he + 1) = 0)) 45)), .int (zI false)])), (t9, .inl (cy 0, 60, .inl tx))] := by
  refine zM_of (cc := cX6_command) (maxL := 5) (ret := none) (by decide) rfl (Nat.le_of_ble_eq_true rfl) ?_
  intro p e s m below meth c A Q hend hx hb hml hr hts hown hlk hG hK hP hD hA hS ls hl
  have hown : s.vm.findClass RX6 = some m.cls := hown
  have in_RX6 : ∀ w ∈ u_ws RX6 TX6 21, w ∈ wsX6_command := by decide +kernel
  have hl : lv_has ls 5 [(0, .ref x9)] := hl
  refine lv_aload_n hx hb dX6_command_0 rfl (lv_at hl 0 rfl) ?_
  refine zcV (As := []) (rest := []) [0, 1] 0 hg.1 ⟨hx, hb, hml, hown, hts⟩ (c_X6_sign hg l D cy x9 th ch era why det cau sv rj v9 b9 s9 k9 p9 t9 n9 tn he en ln iw false tx (by first | assumption | omega) (by first | assumption | omega)) (cwV 0 hts gX6_command_X6_sign rfl rfl rfl (by decide +kernel) ⟨Nat.le_of_ble_eq_true rfl, Nat.le_of_ble_eq_true rfl⟩) hG hK hP hD hS hA rfl rfl rfl rfl rfl rfl hl.1 rfl (Nat.le_of_ble_eq_true rfl) dX6_command_1 ⟨Nat.zero_le _, Nat.zero_le _⟩ (fun H locs hP hD hS => ?_)
  have hP : va_P D vwCl [(x9, .inr (10, [.int th, .int (nI ch), .int era, .int why, .int det, .int cau, .int (zI sv), .int (zI rj), .ref v9, .ref b9, .ref s9, .ref k9, .ref p9, .ref t9, .ref n9, .int (nI tn), .int (nI he), .int (nI en), .int (nI ln), .int (zI iw), .int (zI false)])), (t9, .inl (cy 0, 60, .inl tx))] H := hP
  have hD : va_D A [(x9, .inr (10, [.int th, .int (nI ch), .int era, .int why, .int det, .int cau, .int (zI sv), .int (zI rj), .ref v9, .ref b9, .ref s9, .ref k9, .ref p9, .ref t9, .ref n9, .int (nI tn), .int (nI he), .int (nI en), .int (nI ln), .int (zI iw), .int (zI false)])), (t9, .inl (cy 0, 60, .inl tx))] := hD
  refine z_top (y := 99) (hc) ?_
  refine lv_istore_n (lv' := [(1, .int 99), (0, .ref x9)]) hx hb dX6_command_4 rfl hl (by decide) rfl (fun ls hl => ?_)
  refine lv_iconst (v := 0) hx hb dX6_command_5 (by decide) ?_
  refine lv_istore_n (lv' := [(2, .int 0), (1, .int 99), (0, .ref x9)]) hx hb dX6_command_6 rfl hl (by decide) rfl (fun ls hl => ?_)
  refine lv_iconst (v := 0) hx hb dX6_command_7 (by decide) ?_
  refine lv_istore_n (lv' := [(3, .int 0), (2, .int 0), (1, .int 99), (0, .ref x9)]) hx hb dX6_command_8 rfl hl (by decide) rfl (fun ls hl => ?_)
  refine lv_aload_n hx hb dX6_command_9 rfl (lv_at hl 3 rfl) ?_
  refine lv_iload_n hx hb dX6_command_10 rfl (lv_at hl 2 rfl) ?_
  refine zcS (As := [.int 99]) (rest := [.ref x9]) [] hg.1 ⟨hx, hb, hml, hown, hts⟩ (c_X6_isNumbered hg l D cy 99) (va_cwS 1 hts gX6_command_X6_isNumbered rfl rfl rfl (by decide +kernel) ⟨Nat.le_of_ble_eq_true rfl, Nat.le_of_ble_eq_true rfl⟩) hG hK hP hD hS hA rfl rfl rfl  rfl hl.1 rfl (Nat.le_of_ble_eq_true rfl) dX6_command_11 ⟨Nat.zero_le _, Nat.zero_le _⟩ (fun H locs hP hD hS => ?_)
  have hP : va_P D vwCl [(x9, .inr (10, [.int th, .int (nI ch), .int era, .int why, .int det, .int cau, .int (zI sv), .int (zI rj), .ref v9, .ref b9, .ref s9, .ref k9, .ref p9, .ref t9, .ref n9, .int (nI tn), .int (nI he), .int (nI en), .int (nI ln), .int (zI iw), .int (zI false)])), (t9, .inl (cy 0, 60, .inl tx))] H := hP
  have hD : va_D A [(x9, .inr (10, [.int th, .int (nI ch), .int era, .int why, .int det, .int cau, .int (zI sv), .int (zI rj), .ref v9, .ref b9, .ref s9, .ref k9, .ref p9, .ref t9, .ref n9, .int (nI tn), .int (nI he), .int (nI en), .int (nI ln), .int (zI iw), .int (zI false)])), (t9, .inl (cy 0, 60, .inl tx))] := hD
  refine z_top (y := zI true) (rfl) ?_
  refine lv_if_ne (tgt := 46) hx hb dX6_command_14 (by decide) (fun c_1 => ?_) (fun c_1 => ?_)
  · replace c_1 := zI1 c_1
    refine lv_iconst (v := 0) hx hb dX6_command_46 (by decide) ?_
    refine z_top (y := zI false) rfl ?_
    refine va_put (D := D) (ci := 10) (v := .int (zI false)) (ty := .boolean) (C := RX6) (T := TX6) (N := 21) hx hb hts in_RX6 tyX6 tyX6_ok nmX6 hown hK hP hD hS 0 rfl rfl 19 (by decide) (hts _ (List.mem_of_getElem? (i := 1) rfl)) (fun _ h9 => h9) rfl (by decide +kernel) (zI_nar _) (zI_fit _) (Nat.le_of_ble_eq_true rfl) dX6_command_47 (fun H locs hP hD hS => ?_)
    have hP : va_P D vwCl [(x9, .inr (10, [.int th, .int (nI ch), .int era, .int why, .int det, .int cau, .int (zI sv), .int (zI rj), .ref v9, .ref b9, .ref s9, .ref k9, .ref p9, .ref t9, .ref n9, .int (nI tn), .int (nI he), .int (nI en), .int (nI ln), .int (zI false), .int (zI false)])), (t9, .inl (cy 0, 60, .inl tx))] H := hP
    have hD : va_D A [(x9, .inr (10, [.int th, .int (nI ch), .int era, .int why, .int det, .int cau, .int (zI sv), .int (zI rj), .ref v9, .ref b9, .ref s9, .ref k9, .ref p9, .ref t9, .ref n9, .int (nI tn), .int (nI he), .int (nI en), .int (nI ln), .int (zI false), .int (zI false)])), (t9, .inl (cy 0, 60, .inl tx))] := hD
    refine lv_aload_n hx hb dX6_command_50 rfl (lv_at hl 3 rfl) ?_
    refine va_get (D := D) (ci := 10) (v := .int (zI false)) (C := RX6) (T := TX6) (N := 21) hx hb hts in_RX6 hown hK hP 0 rfl rfl 19 (by decide) (hts _ (List.mem_of_getElem? (i := 1) rfl)) (fun _ h9 => h9) rfl dX6_command_51 ?_
    refine lv_if_eq (tgt := 58) hx hb dX6_command_54 (by decide) (fun c_2 => ?_) (fun c_2 => ?_)
    · replace c_2 := zI0 c_2
      refine lv_aload_n hx hb dX6_command_58 rfl (lv_at hl 3 rfl) ?_
      refine lv_dup hx hb dX6_command_59 rfl ?_
      refine va_get (D := D) (ci := 10) (v := .int (nI he)) (C := RX6) (T := TX6) (N := 21) hx hb hts in_RX6 hown hK hP 0 rfl rfl 16 (by decide) (hts _ (List.mem_of_getElem? (i := 2) rfl)) (fun _ h9 => h9) rfl dX6_command_60 ?_
      refine lv_iconst (v := 1) hx hb dX6_command_63 (by decide) ?_
      refine lv_iadd hx hb dX6_command_64 ?_
      refine z_top (y := nI (he + 1)) (nI_add he 1) ?_
      refine va_put (D := D) (ci := 10) (v := .int (nI (he + 1))) (ty := .int) (C := RX6) (T := TX6) (N := 21) hx hb hts in_RX6 tyX6 tyX6_ok nmX6 hown hK hP hD hS 0 rfl rfl 16 (by decide) (hts _ (List.mem_of_getElem? (i := 2) rfl)) (fun _ h9 => h9) rfl (by decide +kernel) rfl rfl (Nat.le_of_ble_eq_true rfl) dX6_command_65 (fun H locs hP hD hS => ?_)
      have hP : va_P D vwCl [(x9, .inr (10, [.int th, .int (nI ch), .int era, .int why, .int det, .int cau, .int (zI sv), .int (zI rj), .ref v9, .ref b9, .ref s9, .ref k9, .ref p9, .ref t9, .ref n9, .int (nI tn), .int (nI (he + 1)), .int (nI en), .int (nI ln), .int (zI false), .int (zI false)])), (t9, .inl (cy 0, 60, .inl tx))] H := hP
      have hD : va_D A [(x9, .inr (10, [.int th, .int (nI ch), .int era, .int why, .int det, .int cau, .int (zI sv), .int (zI rj), .ref v9, .ref b9, .ref s9, .ref k9, .ref p9, .ref t9, .ref n9, .int (nI tn), .int (nI (he + 1)), .int (nI en), .int (nI ln), .int (zI false), .int (zI false)])), (t9, .inl (cy 0, 60, .inl tx))] := hD
      refine lv_iload_n hx hb dX6_command_68 rfl (lv_at hl 2 rfl) ?_
      refine zcS (As := [.int 99]) (rest := []) [] hg.1 ⟨hx, hb, hml, hown, hts⟩ (c_X6_isNumbered hg l D cy 99) (va_cwS 1 hts gX6_command_X6_isNumbered rfl rfl rfl (by decide +kernel) ⟨Nat.le_of_ble_eq_true rfl, Nat.le_of_ble_eq_true rfl⟩) hG hK hP hD hS hA rfl rfl rfl  rfl hl.1 rfl (Nat.le_of_ble_eq_true rfl) dX6_command_69 ⟨Nat.zero_le _, Nat.zero_le _⟩ (fun H locs hP hD hS => ?_)
      have hP : va_P D vwCl [(x9, .inr (10, [.int th, .int (nI ch), .int era, .int why, .int det, .int cau, .int (zI sv), .int (zI rj), .ref v9, .ref b9, .ref s9, .ref k9, .ref p9, .ref t9, .ref n9, .int (nI tn), .int (nI (he + 1)), .int (nI en), .int (nI ln), .int (zI false), .int (zI false)])), (t9, .inl (cy 0, 60, .inl tx))] H := hP
      have hD : va_D A [(x9, .inr (10, [.int th, .int (nI ch), .int era, .int why, .int det, .int cau, .int (zI sv), .int (zI rj), .ref v9, .ref b9, .ref s9, .ref k9, .ref p9, .ref t9, .ref n9, .int (nI tn), .int (nI (he + 1)), .int (nI en), .int (nI ln), .int (zI false), .int (zI false)])), (t9, .inl (cy 0, 60, .inl tx))] := hD
      refine z_top (y := zI true) (rfl) ?_
      refine lv_if_eq (tgt := 81) hx hb dX6_command_72 (by decide) (fun c_3 => ?_) (fun c_3 => ?_)
      · replace c_3 := zI0 c_3
        exact absurd c_3 (by decide)
      · replace c_3 := zI1 c_3
        refine lv_aload_n hx hb dX6_command_75 rfl (lv_at hl 3 rfl) ?_
        refine lv_iconst (v := 2) hx hb dX6_command_76 (by decide) ?_
        refine z_top (y := nI 2) (rfl) ?_
        refine zcV (As := [.int (nI 2)]) (rest := []) [0, 1] 0 hg.1 ⟨hx, hb, hml, hown, hts⟩ (c_X6_digits hg l D cy x9 th ch era why det cau sv rj v9 b9 s9 k9 p9 t9 n9 tn (he + 1) en ln false tx 2 (by first | assumption | omega) (by first | assumption | omega) (by first | assumption | omega) (by first | assumption | omega)) (cwV 1 hts gX6_command_X6_digits rfl rfl rfl (by decide +kernel) ⟨Nat.le_of_ble_eq_true rfl, Nat.le_of_ble_eq_true rfl⟩) hG hK hP hD hS hA rfl rfl (Eq.trans (b := [x9, t9]) rfl rfl) rfl rfl rfl hl.1 rfl (Nat.le_of_ble_eq_true rfl) dX6_command_77 ⟨Nat.zero_le _, Nat.zero_le _⟩ (fun H locs hP hD hS => ?_)
        have hP : va_P D vwCl [(x9, .inr (10, [.int th, .int (nI ch), .int era, .int why, .int det, .int cau, .int (zI sv), .int (zI rj), .ref v9, .ref b9, .ref s9, .ref k9, .ref p9, .ref t9, .ref n9, .int (nI tn), .int (nI ((he + 1) + zdN tx en 2 (he + 1))), .int (nI en), .int (nI ln), .int (zI (decide (zdN tx en 2 (he + 1) = 0))), .int (zI false)])), (t9, .inl (cy 0, 60, .inl tx))] H := hP
        have hD : va_D A [(x9, .inr (10, [.int th, .int (nI ch), .int era, .int why, .int det, .int cau, .int (zI sv), .int (zI rj), .ref v9, .ref b9, .ref s9, .ref k9, .ref p9, .ref t9, .ref n9, .int (nI tn), .int (nI ((he + 1) + zdN tx en 2 (he + 1))), .int (nI en), .int (nI ln), .int (zI (decide (zdN tx en 2 (he + 1) = 0))), .int (zI false)])), (t9, .inl (cy 0, 60, .inl tx))] := hD
        refine lv_istore_n (lv' := [(2, .int (zdV tx en 2 (he + 1) 0)), (3, .int 0), (1, .int 99), (0, .ref x9)]) hx hb dX6_command_80 rfl hl (by decide) rfl (fun ls hl => ?_)
        refine lv_iload_n hx hb dX6_command_81 rfl (lv_at hl 2 rfl) ?_
        refine zcS (As := [.int 99]) (rest := []) [] hg.1 ⟨hx, hb, hml, hown, hts⟩ (c_X6_isDigit hg l D cy 99) (va_cwS 1 hts gX6_command_X6_isDigit rfl rfl rfl (by decide +kernel) ⟨Nat.le_of_ble_eq_true rfl, Nat.le_of_ble_eq_true rfl⟩) hG hK hP hD hS hA rfl rfl rfl  rfl hl.1 rfl (Nat.le_of_ble_eq_true rfl) dX6_command_82 ⟨Nat.zero_le _, Nat.zero_le _⟩ (fun H locs hP hD hS => ?_)
        have hP : va_P D vwCl [(x9, .inr (10, [.int th, .int (nI ch), .int era, .int why, .int det, .int cau, .int (zI sv), .int (zI rj), .ref v9, .ref b9, .ref s9, .ref k9, .ref p9, .ref t9, .ref n9, .int (nI tn), .int (nI ((he + 1) + zdN tx en 2 (he + 1))), .int (nI en), .int (nI ln), .int (zI (decide (zdN tx en 2 (he + 1) = 0))), .int (zI false)])), (t9, .inl (cy 0, 60, .inl tx))] H := hP
        have hD : va_D A [(x9, .inr (10, [.int th, .int (nI ch), .int era, .int why, .int det, .int cau, .int (zI sv), .int (zI rj), .ref v9, .ref b9, .ref s9, .ref k9, .ref p9, .ref t9, .ref n9, .int (nI tn), .int (nI ((he + 1) + zdN tx en 2 (he + 1))), .int (nI en), .int (nI ln), .int (zI (decide (zdN tx en 2 (he + 1) = 0))), .int (zI false)])), (t9, .inl (cy 0, 60, .inl tx))] := hD
        refine z_top (y := zI false) (rfl) ?_
        refine lv_if_eq (tgt := 94) hx hb dX6_command_85 (by decide) (fun c_4 => ?_) (fun c_4 => ?_)
        · replace c_4 := zI0 c_4
          refine lv_iload_n hx hb dX6_command_94 rfl (lv_at hl 2 rfl) ?_
          refine lv_bipush (v := 112) hx hb dX6_command_95 (by decide) ?_
          refine lv_icmp_ne (tgt := 105) hx hb dX6_command_97 (by decide) (fun c_5 => ?_) (fun c_5 => ?_)
          · refine lv_iload_n hx hb dX6_command_105 rfl (lv_at hl 2 rfl) ?_
            refine lv_bipush (v := 99) hx hb dX6_command_106 (by decide) ?_
            refine lv_icmp_ne (tgt := 118) hx hb dX6_command_108 (by decide) (fun c_6 => ?_) (fun c_6 => ?_)
            · exact absurd c_6 (by decide)
            · refine lv_aload_n hx hb dX6_command_111 rfl (lv_at hl 3 rfl) ?_
              refine lv_bipush (v := 45) hx hb dX6_command_112 (by decide) ?_
              refine zcV (As := [.int 45]) (rest := []) [0, 1] 0 hg.1 ⟨hx, hb, hml, hown, hts⟩ (c_X6_behind hg l D cy x9 th ch era why det cau sv rj v9 b9 s9 k9 p9 t9 n9 tn ((he + 1) + zdN tx en 2 (he + 1)) en ln (decide (zdN tx en 2 (he + 1) = 0)) false tx 45 (by have := zdN_le tx en 2 (he + 1); omega) (by first | assumption | omega) (by have := zdN_le tx en 2 (he + 1); omega)) (cwV 1 hts gX6_command_X6_behind rfl rfl rfl (by decide +kernel) ⟨Nat.le_of_ble_eq_true rfl, Nat.le_of_ble_eq_true rfl⟩) hG hK hP hD hS hA rfl rfl (Eq.trans (b := [x9, t9]) rfl rfl) rfl rfl rfl hl.1 rfl (Nat.le_of_ble_eq_true rfl) dX6_command_114 ⟨Nat.zero_le _, Nat.zero_le _⟩ (fun H locs hP hD hS => ?_)
              have hP : va_P D vwCl [(x9, .inr (10, [.int th, .int (nI ch), .int era, .int why, .int det, .int cau, .int (zI sv), .int (zI rj), .ref v9, .ref b9, .ref s9, .ref k9, .ref p9, .ref t9, .ref n9, .int (nI tn), .int (nI (zbH tx en ((he + 1) + zdN tx en 2 (he + 1)) (decide (zdN tx en 2 (he + 1) = 0)) 45)), .int (nI en), .int (nI ln), .int (zI (zbW tx en ((he + 1) + zdN tx en 2 (he + 1)) (decide (zdN tx en 2 (he + 1) = 0)) 45)), .int (zI false)])), (t9, .inl (cy 0, 60, .inl tx))] H := hP
              have hD : va_D A [(x9, .inr (10, [.int th, .int (nI ch), .int era, .int why, .int det, .int cau, .int (zI sv), .int (zI rj), .ref v9, .ref b9, .ref s9, .ref k9, .ref p9, .ref t9, .ref n9, .int (nI tn), .int (nI (zbH tx en ((he + 1) + zdN tx en 2 (he + 1)) (decide (zdN tx en 2 (he + 1) = 0)) 45)), .int (nI en), .int (nI ln), .int (zI (zbW tx en ((he + 1) + zdN tx en 2 (he + 1)) (decide (zdN tx en 2 (he + 1) = 0)) 45)), .int (zI false)])), (t9, .inl (cy 0, 60, .inl tx))] := hD
              refine lv_istore_n (lv' := [(3, .int (zbV tx en ((he + 1) + zdN tx en 2 (he + 1)) (decide (zdN tx en 2 (he + 1) = 0)) 45)), (2, .int (zdV tx en 2 (he + 1) 0)), (1, .int 99), (0, .ref x9)]) hx hb dX6_command_117 rfl hl (by decide) rfl (fun ls hl => ?_)
              refine lv_iload_n hx hb dX6_command_118 rfl (lv_at hl 2 rfl) ?_
              refine lv_bipush (v := 121) hx hb dX6_command_119 (by decide) ?_
              refine lv_icmp_ne (tgt := 131) hx hb dX6_command_121 (by decide) (fun c_7 => ?_) (fun c_7 => ?_)
              · refine lv_aload_n hx hb dX6_command_131 rfl (lv_at hl 3 rfl) ?_
                refine va_get (D := D) (ci := 10) (v := .int (zI (zbW tx en ((he + 1) + zdN tx en 2 (he + 1)) (decide (zdN tx en 2 (he + 1) = 0)) 45))) (C := RX6) (T := TX6) (N := 21) hx hb hts in_RX6 hown hK hP 0 rfl rfl 19 (by decide) (hts _ (List.mem_of_getElem? (i := 1) rfl)) (fun _ h9 => h9) rfl dX6_command_132 ?_
                refine lv_if_ne (tgt := 145) hx hb dX6_command_135 (by decide) (fun c_8 => ?_) (fun c_8 => ?_)
                · replace c_8 := zI1 c_8
                  exact zvret hend hx hb hr hlk hK hP hD hS dX6_command_145 rfl
                · replace c_8 := zI0 c_8
                  refine lv_aload_n hx hb dX6_command_138 rfl (lv_at hl 3 rfl) ?_
                  refine va_get (D := D) (ci := 10) (v := .int (zI false)) (C := RX6) (T := TX6) (N := 21) hx hb hts in_RX6 hown hK hP 0 rfl rfl 20 (by decide) (hts _ (List.mem_of_getElem? (i := 3) rfl)) (fun _ h9 => h9) rfl dX6_command_139 ?_
                  refine lv_if_ne (tgt := 146) hx hb dX6_command_142 (by decide) (fun c_9 => ?_) (fun c_9 => ?_)
                  · replace c_9 := zI1 c_9
                    exact absurd c_9 (by decide)
                  · replace c_9 := zI0 c_9
                    exact zvret hend hx hb hr hlk hK hP hD hS dX6_command_145 rfl
              · exact absurd c_7 (by decide)
          · exact absurd c_5 (by decide)
        · replace c_4 := zI1 c_4
          exact absurd c_4 (by decide)
    · replace c_2 := zI1 c_2
      exact absurd c_2 (by decide)
  · replace c_1 := zI0 c_1
    exact absurd c_1 (by decide)

abbrev rmX6_command_p104 : Room := { frames := 3, cells := 0, slots := 0, locals := 66 }
set_option maxHeartbeats 4000000 in
set_option maxRecDepth 100000 in
theorem c_X6_command_p104 {G : zG} (hg : zGN G) (l : Launch) (D : va_G) (cy : Nat → ClassId) (x9 : Nat) (th : Int32) (ch : Nat) (era : Int32) (why : Int32) (det : Int32) (cau : Int32) (sv : Bool) (rj : Bool) (v9 : Nat) (b9 : Nat) (s9 : Nat) (k9 : Nat) (p9 : Nat) (t9 : Nat) (n9 : Nat) (tn : Nat) (he : Nat) (en : Nat) (ln : Nat) (iw : Bool) (tx : Nat → Int32) (hhe : he ≤ 60) (hen : en ≤ 60) (hc : zqs tx en he = 104) : zM G D vwCl (zT cy) l yX6_command wsX6_command rmX6_command_p104 [.ref x9] [(x9, .inr (10, [.int th, .int (nI ch), .int era, .int why, .int det, .int cau, .int (zI sv), .int (zI rj), .ref v9, .ref b9, .ref s9, .ref k9, .ref p9, .ref t9, .ref n9, .int (nI tn), .int (nI he), .int (nI en), .int (nI ln), .int (zI iw), .int (zI false)])), (t9, .inl (cy 0, 60, .inl tx))] none [(x9, .inr (10, [.int th, .int (nI ch), .int era, .int why, .int det, .int cau, .int (zI sv), .int (zI rj), .ref v9, .ref b9, .ref s9, .ref k9, .ref p9, .ref t9, .ref n9, .int (nI tn), .int (nI ((he + 1) + zdN tx en 2 (he + 1))), .int (nI en), .int (nI ln), .int (zI (decide (zdN tx en 2 (he + 1) = 0))), .int (zI false)])), (t9, .inl (cy 0, 60, .inl tx))] := by
  refine zM_of (cc := cX6_command) (maxL := 5) (ret := none) (by decide) rfl (Nat.le_of_ble_eq_true rfl) ?_
  intro p e s m below meth c A Q hend hx hb hml hr hts hown hlk hG hK hP hD hA hS ls hl
  have hown : s.vm.findClass RX6 = some m.cls := hown
  have in_RX6 : ∀ w ∈ u_ws RX6 TX6 21, w ∈ wsX6_command := by decide +kernel
  have hl : lv_has ls 5 [(0, .ref x9)] := hl
  refine lv_aload_n hx hb dX6_command_0 rfl (lv_at hl 0 rfl) ?_
  refine zcV (As := []) (rest := []) [0, 1] 0 hg.1 ⟨hx, hb, hml, hown, hts⟩ (c_X6_sign hg l D cy x9 th ch era why det cau sv rj v9 b9 s9 k9 p9 t9 n9 tn he en ln iw false tx (by first | assumption | omega) (by first | assumption | omega)) (cwV 0 hts gX6_command_X6_sign rfl rfl rfl (by decide +kernel) ⟨Nat.le_of_ble_eq_true rfl, Nat.le_of_ble_eq_true rfl⟩) hG hK hP hD hS hA rfl rfl rfl rfl rfl rfl hl.1 rfl (Nat.le_of_ble_eq_true rfl) dX6_command_1 ⟨Nat.zero_le _, Nat.zero_le _⟩ (fun H locs hP hD hS => ?_)
  have hP : va_P D vwCl [(x9, .inr (10, [.int th, .int (nI ch), .int era, .int why, .int det, .int cau, .int (zI sv), .int (zI rj), .ref v9, .ref b9, .ref s9, .ref k9, .ref p9, .ref t9, .ref n9, .int (nI tn), .int (nI he), .int (nI en), .int (nI ln), .int (zI iw), .int (zI false)])), (t9, .inl (cy 0, 60, .inl tx))] H := hP
  have hD : va_D A [(x9, .inr (10, [.int th, .int (nI ch), .int era, .int why, .int det, .int cau, .int (zI sv), .int (zI rj), .ref v9, .ref b9, .ref s9, .ref k9, .ref p9, .ref t9, .ref n9, .int (nI tn), .int (nI he), .int (nI en), .int (nI ln), .int (zI iw), .int (zI false)])), (t9, .inl (cy 0, 60, .inl tx))] := hD
  refine z_top (y := 104) (hc) ?_
  refine lv_istore_n (lv' := [(1, .int 104), (0, .ref x9)]) hx hb dX6_command_4 rfl hl (by decide) rfl (fun ls hl => ?_)
  refine lv_iconst (v := 0) hx hb dX6_command_5 (by decide) ?_
  refine lv_istore_n (lv' := [(2, .int 0), (1, .int 104), (0, .ref x9)]) hx hb dX6_command_6 rfl hl (by decide) rfl (fun ls hl => ?_)
  refine lv_iconst (v := 0) hx hb dX6_command_7 (by decide) ?_
  refine lv_istore_n (lv' := [(3, .int 0), (2, .int 0), (1, .int 104), (0, .ref x9)]) hx hb dX6_command_8 rfl hl (by decide) rfl (fun ls hl => ?_)
  refine lv_aload_n hx hb dX6_command_9 rfl (lv_at hl 3 rfl) ?_
  refine lv_iload_n hx hb dX6_command_10 rfl (lv_at hl 2 rfl) ?_
  refine zcS (As := [.int 104]) (rest := [.ref x9]) [] hg.1 ⟨hx, hb, hml, hown, hts⟩ (c_X6_isNumbered hg l D cy 104) (va_cwS 1 hts gX6_command_X6_isNumbered rfl rfl rfl (by decide +kernel) ⟨Nat.le_of_ble_eq_true rfl, Nat.le_of_ble_eq_true rfl⟩) hG hK hP hD hS hA rfl rfl rfl  rfl hl.1 rfl (Nat.le_of_ble_eq_true rfl) dX6_command_11 ⟨Nat.zero_le _, Nat.zero_le _⟩ (fun H locs hP hD hS => ?_)
  have hP : va_P D vwCl [(x9, .inr (10, [.int th, .int (nI ch), .int era, .int why, .int det, .int cau, .int (zI sv), .int (zI rj), .ref v9, .ref b9, .ref s9, .ref k9, .ref p9, .ref t9, .ref n9, .int (nI tn), .int (nI he), .int (nI en), .int (nI ln), .int (zI iw), .int (zI false)])), (t9, .inl (cy 0, 60, .inl tx))] H := hP
  have hD : va_D A [(x9, .inr (10, [.int th, .int (nI ch), .int era, .int why, .int det, .int cau, .int (zI sv), .int (zI rj), .ref v9, .ref b9, .ref s9, .ref k9, .ref p9, .ref t9, .ref n9, .int (nI tn), .int (nI he), .int (nI en), .int (nI ln), .int (zI iw), .int (zI false)])), (t9, .inl (cy 0, 60, .inl tx))] := hD
  refine z_top (y := zI true) (rfl) ?_
  refine lv_if_ne (tgt := 46) hx hb dX6_command_14 (by decide) (fun c_1 => ?_) (fun c_1 => ?_)
  · replace c_1 := zI1 c_1
    refine lv_iconst (v := 0) hx hb dX6_command_46 (by decide) ?_
    refine z_top (y := zI false) rfl ?_
    refine va_put (D := D) (ci := 10) (v := .int (zI false)) (ty := .boolean) (C := RX6) (T := TX6) (N := 21) hx hb hts in_RX6 tyX6 tyX6_ok nmX6 hown hK hP hD hS 0 rfl rfl 19 (by decide) (hts _ (List.mem_of_getElem? (i := 1) rfl)) (fun _ h9 => h9) rfl (by decide +kernel) (zI_nar _) (zI_fit _) (Nat.le_of_ble_eq_true rfl) dX6_command_47 (fun H locs hP hD hS => ?_)
    have hP : va_P D vwCl [(x9, .inr (10, [.int th, .int (nI ch), .int era, .int why, .int det, .int cau, .int (zI sv), .int (zI rj), .ref v9, .ref b9, .ref s9, .ref k9, .ref p9, .ref t9, .ref n9, .int (nI tn), .int (nI he), .int (nI en), .int (nI ln), .int (zI false), .int (zI false)])), (t9, .inl (cy 0, 60, .inl tx))] H := hP
    have hD : va_D A [(x9, .inr (10, [.int th, .int (nI ch), .int era, .int why, .int det, .int cau, .int (zI sv), .int (zI rj), .ref v9, .ref b9, .ref s9, .ref k9, .ref p9, .ref t9, .ref n9, .int (nI tn), .int (nI he), .int (nI en), .int (nI ln), .int (zI false), .int (zI false)])), (t9, .inl (cy 0, 60, .inl tx))] := hD
    refine lv_aload_n hx hb dX6_command_50 rfl (lv_at hl 3 rfl) ?_
    refine va_get (D := D) (ci := 10) (v := .int (zI false)) (C := RX6) (T := TX6) (N := 21) hx hb hts in_RX6 hown hK hP 0 rfl rfl 19 (by decide) (hts _ (List.mem_of_getElem? (i := 1) rfl)) (fun _ h9 => h9) rfl dX6_command_51 ?_
    refine lv_if_eq (tgt := 58) hx hb dX6_command_54 (by decide) (fun c_2 => ?_) (fun c_2 => ?_)
    · replace c_2 := zI0 c_2
      refine lv_aload_n hx hb dX6_command_58 rfl (lv_at hl 3 rfl) ?_
      refine lv_dup hx hb dX6_command_59 rfl ?_
      refine va_get (D := D) (ci := 10) (v := .int (nI he)) (C := RX6) (T := TX6) (N := 21) hx hb hts in_RX6 hown hK hP 0 rfl rfl 16 (by decide) (hts _ (List.mem_of_getElem? (i := 2) rfl)) (fun _ h9 => h9) rfl dX6_command_60 ?_
      refine lv_iconst (v := 1) hx hb dX6_command_63 (by decide) ?_
      refine lv_iadd hx hb dX6_command_64 ?_
      refine z_top (y := nI (he + 1)) (nI_add he 1) ?_
      refine va_put (D := D) (ci := 10) (v := .int (nI (he + 1))) (ty := .int) (C := RX6) (T := TX6) (N := 21) hx hb hts in_RX6 tyX6 tyX6_ok nmX6 hown hK hP hD hS 0 rfl rfl 16 (by decide) (hts _ (List.mem_of_getElem? (i := 2) rfl)) (fun _ h9 => h9) rfl (by decide +kernel) rfl rfl (Nat.le_of_ble_eq_true rfl) dX6_command_65 (fun H locs hP hD hS => ?_)
      have hP : va_P D vwCl [(x9, .inr (10, [.int th, .int (nI ch), .int era, .int why, .int det, .int cau, .int (zI sv), .int (zI rj), .ref v9, .ref b9, .ref s9, .ref k9, .ref p9, .ref t9, .ref n9, .int (nI tn), .int (nI (he + 1)), .int (nI en), .int (nI ln), .int (zI false), .int (zI false)])), (t9, .inl (cy 0, 60, .inl tx))] H := hP
      have hD : va_D A [(x9, .inr (10, [.int th, .int (nI ch), .int era, .int why, .int det, .int cau, .int (zI sv), .int (zI rj), .ref v9, .ref b9, .ref s9, .ref k9, .ref p9, .ref t9, .ref n9, .int (nI tn), .int (nI (he + 1)), .int (nI en), .int (nI ln), .int (zI false), .int (zI false)])), (t9, .inl (cy 0, 60, .inl tx))] := hD
      refine lv_iload_n hx hb dX6_command_68 rfl (lv_at hl 2 rfl) ?_
      refine zcS (As := [.int 104]) (rest := []) [] hg.1 ⟨hx, hb, hml, hown, hts⟩ (c_X6_isNumbered hg l D cy 104) (va_cwS 1 hts gX6_command_X6_isNumbered rfl rfl rfl (by decide +kernel) ⟨Nat.le_of_ble_eq_true rfl, Nat.le_of_ble_eq_true rfl⟩) hG hK hP hD hS hA rfl rfl rfl  rfl hl.1 rfl (Nat.le_of_ble_eq_true rfl) dX6_command_69 ⟨Nat.zero_le _, Nat.zero_le _⟩ (fun H locs hP hD hS => ?_)
      have hP : va_P D vwCl [(x9, .inr (10, [.int th, .int (nI ch), .int era, .int why, .int det, .int cau, .int (zI sv), .int (zI rj), .ref v9, .ref b9, .ref s9, .ref k9, .ref p9, .ref t9, .ref n9, .int (nI tn), .int (nI (he + 1)), .int (nI en), .int (nI ln), .int (zI false), .int (zI false)])), (t9, .inl (cy 0, 60, .inl tx))] H := hP
      have hD : va_D A [(x9, .inr (10, [.int th, .int (nI ch), .int era, .int why, .int det, .int cau, .int (zI sv), .int (zI rj), .ref v9, .ref b9, .ref s9, .ref k9, .ref p9, .ref t9, .ref n9, .int (nI tn), .int (nI (he + 1)), .int (nI en), .int (nI ln), .int (zI false), .int (zI false)])), (t9, .inl (cy 0, 60, .inl tx))] := hD
      refine z_top (y := zI true) (rfl) ?_
      refine lv_if_eq (tgt := 81) hx hb dX6_command_72 (by decide) (fun c_3 => ?_) (fun c_3 => ?_)
      · replace c_3 := zI0 c_3
        exact absurd c_3 (by decide)
      · replace c_3 := zI1 c_3
        refine lv_aload_n hx hb dX6_command_75 rfl (lv_at hl 3 rfl) ?_
        refine lv_iconst (v := 2) hx hb dX6_command_76 (by decide) ?_
        refine z_top (y := nI 2) (rfl) ?_
        refine zcV (As := [.int (nI 2)]) (rest := []) [0, 1] 0 hg.1 ⟨hx, hb, hml, hown, hts⟩ (c_X6_digits hg l D cy x9 th ch era why det cau sv rj v9 b9 s9 k9 p9 t9 n9 tn (he + 1) en ln false tx 2 (by first | assumption | omega) (by first | assumption | omega) (by first | assumption | omega) (by first | assumption | omega)) (cwV 1 hts gX6_command_X6_digits rfl rfl rfl (by decide +kernel) ⟨Nat.le_of_ble_eq_true rfl, Nat.le_of_ble_eq_true rfl⟩) hG hK hP hD hS hA rfl rfl (Eq.trans (b := [x9, t9]) rfl rfl) rfl rfl rfl hl.1 rfl (Nat.le_of_ble_eq_true rfl) dX6_command_77 ⟨Nat.zero_le _, Nat.zero_le _⟩ (fun H locs hP hD hS => ?_)
        have hP : va_P D vwCl [(x9, .inr (10, [.int th, .int (nI ch), .int era, .int why, .int det, .int cau, .int (zI sv), .int (zI rj), .ref v9, .ref b9, .ref s9, .ref k9, .ref p9, .ref t9, .ref n9, .int (nI tn), .int (nI ((he + 1) + zdN tx en 2 (he + 1))), .int (nI en), .int (nI ln), .int (zI (decide (zdN tx en 2 (he + 1) = 0))), .int (zI false)])), (t9, .inl (cy 0, 60, .inl tx))] H := hP
        have hD : va_D A [(x9, .inr (10, [.int th, .int (nI ch), .int era, .int why, .int det, .int cau, .int (zI sv), .int (zI rj), .ref v9, .ref b9, .ref s9, .ref k9, .ref p9, .ref t9, .ref n9, .int (nI tn), .int (nI ((he + 1) + zdN tx en 2 (he + 1))), .int (nI en), .int (nI ln), .int (zI (decide (zdN tx en 2 (he + 1) = 0))), .int (zI false)])), (t9, .inl (cy 0, 60, .inl tx))] := hD
        refine lv_istore_n (lv' := [(2, .int (zdV tx en 2 (he + 1) 0)), (3, .int 0), (1, .int 104), (0, .ref x9)]) hx hb dX6_command_80 rfl hl (by decide) rfl (fun ls hl => ?_)
        refine lv_iload_n hx hb dX6_command_81 rfl (lv_at hl 2 rfl) ?_
        refine zcS (As := [.int 104]) (rest := []) [] hg.1 ⟨hx, hb, hml, hown, hts⟩ (c_X6_isDigit hg l D cy 104) (va_cwS 1 hts gX6_command_X6_isDigit rfl rfl rfl (by decide +kernel) ⟨Nat.le_of_ble_eq_true rfl, Nat.le_of_ble_eq_true rfl⟩) hG hK hP hD hS hA rfl rfl rfl  rfl hl.1 rfl (Nat.le_of_ble_eq_true rfl) dX6_command_82 ⟨Nat.zero_le _, Nat.zero_le _⟩ (fun H locs hP hD hS => ?_)
        have hP : va_P D vwCl [(x9, .inr (10, [.int th, .int (nI ch), .int era, .int why, .int det, .int cau, .int (zI sv), .int (zI rj), .ref v9, .ref b9, .ref s9, .ref k9, .ref p9, .ref t9, .ref n9, .int (nI tn), .int (nI ((he + 1) + zdN tx en 2 (he + 1))), .int (nI en), .int (nI ln), .int (zI (decide (zdN tx en 2 (he + 1) = 0))), .int (zI false)])), (t9, .inl (cy 0, 60, .inl tx))] H := hP
        have hD : va_D A [(x9, .inr (10, [.int th, .int (nI ch), .int era, .int why, .int det, .int cau, .int (zI sv), .int (zI rj), .ref v9, .ref b9, .ref s9, .ref k9, .ref p9, .ref t9, .ref n9, .int (nI tn), .int (nI ((he + 1) + zdN tx en 2 (he + 1))), .int (nI en), .int (nI ln), .int (zI (decide (zdN tx en 2 (he + 1) = 0))), .int (zI false)])), (t9, .inl (cy 0, 60, .inl tx))] := hD
        refine z_top (y := zI false) (rfl) ?_
        refine lv_if_eq (tgt := 94) hx hb dX6_command_85 (by decide) (fun c_4 => ?_) (fun c_4 => ?_)
        · replace c_4 := zI0 c_4
          refine lv_iload_n hx hb dX6_command_94 rfl (lv_at hl 2 rfl) ?_
          refine lv_bipush (v := 112) hx hb dX6_command_95 (by decide) ?_
          refine lv_icmp_ne (tgt := 105) hx hb dX6_command_97 (by decide) (fun c_5 => ?_) (fun c_5 => ?_)
          · refine lv_iload_n hx hb dX6_command_105 rfl (lv_at hl 2 rfl) ?_
            refine lv_bipush (v := 99) hx hb dX6_command_106 (by decide) ?_
            refine lv_icmp_ne (tgt := 118) hx hb dX6_command_108 (by decide) (fun c_6 => ?_) (fun c_6 => ?_)
            · refine lv_iload_n hx hb dX6_command_118 rfl (lv_at hl 2 rfl) ?_
              refine lv_bipush (v := 121) hx hb dX6_command_119 (by decide) ?_
              refine lv_icmp_ne (tgt := 131) hx hb dX6_command_121 (by decide) (fun c_7 => ?_) (fun c_7 => ?_)
              · refine lv_aload_n hx hb dX6_command_131 rfl (lv_at hl 3 rfl) ?_
                refine va_get (D := D) (ci := 10) (v := .int (zI (decide (zdN tx en 2 (he + 1) = 0)))) (C := RX6) (T := TX6) (N := 21) hx hb hts in_RX6 hown hK hP 0 rfl rfl 19 (by decide) (hts _ (List.mem_of_getElem? (i := 1) rfl)) (fun _ h9 => h9) rfl dX6_command_132 ?_
                refine lv_if_ne (tgt := 145) hx hb dX6_command_135 (by decide) (fun c_8 => ?_) (fun c_8 => ?_)
                · replace c_8 := zI1 c_8
                  exact zvret hend hx hb hr hlk hK hP hD hS dX6_command_145 rfl
                · replace c_8 := zI0 c_8
                  refine lv_aload_n hx hb dX6_command_138 rfl (lv_at hl 3 rfl) ?_
                  refine va_get (D := D) (ci := 10) (v := .int (zI false)) (C := RX6) (T := TX6) (N := 21) hx hb hts in_RX6 hown hK hP 0 rfl rfl 20 (by decide) (hts _ (List.mem_of_getElem? (i := 3) rfl)) (fun _ h9 => h9) rfl dX6_command_139 ?_
                  refine lv_if_ne (tgt := 146) hx hb dX6_command_142 (by decide) (fun c_9 => ?_) (fun c_9 => ?_)
                  · replace c_9 := zI1 c_9
                    exact absurd c_9 (by decide)
                  · replace c_9 := zI0 c_9
                    exact zvret hend hx hb hr hlk hK hP hD hS dX6_command_145 rfl
              · exact absurd c_7 (by decide)
            · exact absurd c_6 (by decide)
          · exact absurd c_5 (by decide)
        · replace c_4 := zI1 c_4
          exact absurd c_4 (by decide)
    · replace c_2 := zI1 c_2
      exact absurd c_2 (by decide)
  · replace c_1 := zI0 c_1
    exact absurd c_1 (by decide)

abbrev rmX6_command_p114 : Room := { frames := 3, cells := 0, slots := 0, locals := 66 }
set_option maxHeartbeats 4000000 in
set_option maxRecDepth 100000 in
theorem c_X6_command_p114 {G : zG} (hg : zGN G) (l : Launch) (D : va_G) (cy : Nat → ClassId) (x9 : Nat) (th : Int32) (ch : Nat) (era : Int32) (why : Int32) (det : Int32) (cau : Int32) (sv : Bool) (rj : Bool) (v9 : Nat) (b9 : Nat) (s9 : Nat) (k9 : Nat) (p9 : Nat) (t9 : Nat) (n9 : Nat) (tn : Nat) (he : Nat) (en : Nat) (ln : Nat) (iw : Bool) (tx : Nat → Int32) (hhe : he ≤ 60) (hen : en ≤ 60) (hc : zqs tx en he = 114) : zM G D vwCl (zT cy) l yX6_command wsX6_command rmX6_command_p114 [.ref x9] [(x9, .inr (10, [.int th, .int (nI ch), .int era, .int why, .int det, .int cau, .int (zI sv), .int (zI rj), .ref v9, .ref b9, .ref s9, .ref k9, .ref p9, .ref t9, .ref n9, .int (nI tn), .int (nI he), .int (nI en), .int (nI ln), .int (zI iw), .int (zI false)])), (t9, .inl (cy 0, 60, .inl tx))] none [(x9, .inr (10, [.int th, .int (nI ch), .int era, .int why, .int det, .int cau, .int (zI sv), .int (zI rj), .ref v9, .ref b9, .ref s9, .ref k9, .ref p9, .ref t9, .ref n9, .int (nI tn), .int (nI ((he + 1) + zdN tx en 2 (he + 1))), .int (nI en), .int (nI ln), .int (zI (decide (zdN tx en 2 (he + 1) = 0))), .int (zI false)])), (t9, .inl (cy 0, 60, .inl tx))] := by
  refine zM_of (cc := cX6_command) (maxL := 5) (ret := none) (by decide) rfl (Nat.le_of_ble_eq_true rfl) ?_
  intro p e s m below meth c A Q hend hx hb hml hr hts hown hlk hG hK hP hD hA hS ls hl
  have hown : s.vm.findClass RX6 = some m.cls := hown
  have in_RX6 : ∀ w ∈ u_ws RX6 TX6 21, w ∈ wsX6_command := by decide +kernel
  have hl : lv_has ls 5 [(0, .ref x9)] := hl
  refine lv_aload_n hx hb dX6_command_0 rfl (lv_at hl 0 rfl) ?_
  refine zcV (As := []) (rest := []) [0, 1] 0 hg.1 ⟨hx, hb, hml, hown, hts⟩ (c_X6_sign hg l D cy x9 th ch era why det cau sv rj v9 b9 s9 k9 p9 t9 n9 tn he en ln iw false tx (by first | assumption | omega) (by first | assumption | omega)) (cwV 0 hts gX6_command_X6_sign rfl rfl rfl (by decide +kernel) ⟨Nat.le_of_ble_eq_true rfl, Nat.le_of_ble_eq_true rfl⟩) hG hK hP hD hS hA rfl rfl rfl rfl rfl rfl hl.1 rfl (Nat.le_of_ble_eq_true rfl) dX6_command_1 ⟨Nat.zero_le _, Nat.zero_le _⟩ (fun H locs hP hD hS => ?_)
  have hP : va_P D vwCl [(x9, .inr (10, [.int th, .int (nI ch), .int era, .int why, .int det, .int cau, .int (zI sv), .int (zI rj), .ref v9, .ref b9, .ref s9, .ref k9, .ref p9, .ref t9, .ref n9, .int (nI tn), .int (nI he), .int (nI en), .int (nI ln), .int (zI iw), .int (zI false)])), (t9, .inl (cy 0, 60, .inl tx))] H := hP
  have hD : va_D A [(x9, .inr (10, [.int th, .int (nI ch), .int era, .int why, .int det, .int cau, .int (zI sv), .int (zI rj), .ref v9, .ref b9, .ref s9, .ref k9, .ref p9, .ref t9, .ref n9, .int (nI tn), .int (nI he), .int (nI en), .int (nI ln), .int (zI iw), .int (zI false)])), (t9, .inl (cy 0, 60, .inl tx))] := hD
  refine z_top (y := 114) (hc) ?_
  refine lv_istore_n (lv' := [(1, .int 114), (0, .ref x9)]) hx hb dX6_command_4 rfl hl (by decide) rfl (fun ls hl => ?_)
  refine lv_iconst (v := 0) hx hb dX6_command_5 (by decide) ?_
  refine lv_istore_n (lv' := [(2, .int 0), (1, .int 114), (0, .ref x9)]) hx hb dX6_command_6 rfl hl (by decide) rfl (fun ls hl => ?_)
  refine lv_iconst (v := 0) hx hb dX6_command_7 (by decide) ?_
  refine lv_istore_n (lv' := [(3, .int 0), (2, .int 0), (1, .int 114), (0, .ref x9)]) hx hb dX6_command_8 rfl hl (by decide) rfl (fun ls hl => ?_)
  refine lv_aload_n hx hb dX6_command_9 rfl (lv_at hl 3 rfl) ?_
  refine lv_iload_n hx hb dX6_command_10 rfl (lv_at hl 2 rfl) ?_
  refine zcS (As := [.int 114]) (rest := [.ref x9]) [] hg.1 ⟨hx, hb, hml, hown, hts⟩ (c_X6_isNumbered hg l D cy 114) (va_cwS 1 hts gX6_command_X6_isNumbered rfl rfl rfl (by decide +kernel) ⟨Nat.le_of_ble_eq_true rfl, Nat.le_of_ble_eq_true rfl⟩) hG hK hP hD hS hA rfl rfl rfl  rfl hl.1 rfl (Nat.le_of_ble_eq_true rfl) dX6_command_11 ⟨Nat.zero_le _, Nat.zero_le _⟩ (fun H locs hP hD hS => ?_)
  have hP : va_P D vwCl [(x9, .inr (10, [.int th, .int (nI ch), .int era, .int why, .int det, .int cau, .int (zI sv), .int (zI rj), .ref v9, .ref b9, .ref s9, .ref k9, .ref p9, .ref t9, .ref n9, .int (nI tn), .int (nI he), .int (nI en), .int (nI ln), .int (zI iw), .int (zI false)])), (t9, .inl (cy 0, 60, .inl tx))] H := hP
  have hD : va_D A [(x9, .inr (10, [.int th, .int (nI ch), .int era, .int why, .int det, .int cau, .int (zI sv), .int (zI rj), .ref v9, .ref b9, .ref s9, .ref k9, .ref p9, .ref t9, .ref n9, .int (nI tn), .int (nI he), .int (nI en), .int (nI ln), .int (zI iw), .int (zI false)])), (t9, .inl (cy 0, 60, .inl tx))] := hD
  refine z_top (y := zI true) (rfl) ?_
  refine lv_if_ne (tgt := 46) hx hb dX6_command_14 (by decide) (fun c_1 => ?_) (fun c_1 => ?_)
  · replace c_1 := zI1 c_1
    refine lv_iconst (v := 0) hx hb dX6_command_46 (by decide) ?_
    refine z_top (y := zI false) rfl ?_
    refine va_put (D := D) (ci := 10) (v := .int (zI false)) (ty := .boolean) (C := RX6) (T := TX6) (N := 21) hx hb hts in_RX6 tyX6 tyX6_ok nmX6 hown hK hP hD hS 0 rfl rfl 19 (by decide) (hts _ (List.mem_of_getElem? (i := 1) rfl)) (fun _ h9 => h9) rfl (by decide +kernel) (zI_nar _) (zI_fit _) (Nat.le_of_ble_eq_true rfl) dX6_command_47 (fun H locs hP hD hS => ?_)
    have hP : va_P D vwCl [(x9, .inr (10, [.int th, .int (nI ch), .int era, .int why, .int det, .int cau, .int (zI sv), .int (zI rj), .ref v9, .ref b9, .ref s9, .ref k9, .ref p9, .ref t9, .ref n9, .int (nI tn), .int (nI he), .int (nI en), .int (nI ln), .int (zI false), .int (zI false)])), (t9, .inl (cy 0, 60, .inl tx))] H := hP
    have hD : va_D A [(x9, .inr (10, [.int th, .int (nI ch), .int era, .int why, .int det, .int cau, .int (zI sv), .int (zI rj), .ref v9, .ref b9, .ref s9, .ref k9, .ref p9, .ref t9, .ref n9, .int (nI tn), .int (nI he), .int (nI en), .int (nI ln), .int (zI false), .int (zI false)])), (t9, .inl (cy 0, 60, .inl tx))] := hD
    refine lv_aload_n hx hb dX6_command_50 rfl (lv_at hl 3 rfl) ?_
    refine va_get (D := D) (ci := 10) (v := .int (zI false)) (C := RX6) (T := TX6) (N := 21) hx hb hts in_RX6 hown hK hP 0 rfl rfl 19 (by decide) (hts _ (List.mem_of_getElem? (i := 1) rfl)) (fun _ h9 => h9) rfl dX6_command_51 ?_
    refine lv_if_eq (tgt := 58) hx hb dX6_command_54 (by decide) (fun c_2 => ?_) (fun c_2 => ?_)
    · replace c_2 := zI0 c_2
      refine lv_aload_n hx hb dX6_command_58 rfl (lv_at hl 3 rfl) ?_
      refine lv_dup hx hb dX6_command_59 rfl ?_
      refine va_get (D := D) (ci := 10) (v := .int (nI he)) (C := RX6) (T := TX6) (N := 21) hx hb hts in_RX6 hown hK hP 0 rfl rfl 16 (by decide) (hts _ (List.mem_of_getElem? (i := 2) rfl)) (fun _ h9 => h9) rfl dX6_command_60 ?_
      refine lv_iconst (v := 1) hx hb dX6_command_63 (by decide) ?_
      refine lv_iadd hx hb dX6_command_64 ?_
      refine z_top (y := nI (he + 1)) (nI_add he 1) ?_
      refine va_put (D := D) (ci := 10) (v := .int (nI (he + 1))) (ty := .int) (C := RX6) (T := TX6) (N := 21) hx hb hts in_RX6 tyX6 tyX6_ok nmX6 hown hK hP hD hS 0 rfl rfl 16 (by decide) (hts _ (List.mem_of_getElem? (i := 2) rfl)) (fun _ h9 => h9) rfl (by decide +kernel) rfl rfl (Nat.le_of_ble_eq_true rfl) dX6_command_65 (fun H locs hP hD hS => ?_)
      have hP : va_P D vwCl [(x9, .inr (10, [.int th, .int (nI ch), .int era, .int why, .int det, .int cau, .int (zI sv), .int (zI rj), .ref v9, .ref b9, .ref s9, .ref k9, .ref p9, .ref t9, .ref n9, .int (nI tn), .int (nI (he + 1)), .int (nI en), .int (nI ln), .int (zI false), .int (zI false)])), (t9, .inl (cy 0, 60, .inl tx))] H := hP
      have hD : va_D A [(x9, .inr (10, [.int th, .int (nI ch), .int era, .int why, .int det, .int cau, .int (zI sv), .int (zI rj), .ref v9, .ref b9, .ref s9, .ref k9, .ref p9, .ref t9, .ref n9, .int (nI tn), .int (nI (he + 1)), .int (nI en), .int (nI ln), .int (zI false), .int (zI false)])), (t9, .inl (cy 0, 60, .inl tx))] := hD
      refine lv_iload_n hx hb dX6_command_68 rfl (lv_at hl 2 rfl) ?_
      refine zcS (As := [.int 114]) (rest := []) [] hg.1 ⟨hx, hb, hml, hown, hts⟩ (c_X6_isNumbered hg l D cy 114) (va_cwS 1 hts gX6_command_X6_isNumbered rfl rfl rfl (by decide +kernel) ⟨Nat.le_of_ble_eq_true rfl, Nat.le_of_ble_eq_true rfl⟩) hG hK hP hD hS hA rfl rfl rfl  rfl hl.1 rfl (Nat.le_of_ble_eq_true rfl) dX6_command_69 ⟨Nat.zero_le _, Nat.zero_le _⟩ (fun H locs hP hD hS => ?_)
      have hP : va_P D vwCl [(x9, .inr (10, [.int th, .int (nI ch), .int era, .int why, .int det, .int cau, .int (zI sv), .int (zI rj), .ref v9, .ref b9, .ref s9, .ref k9, .ref p9, .ref t9, .ref n9, .int (nI tn), .int (nI (he + 1)), .int (nI en), .int (nI ln), .int (zI false), .int (zI false)])), (t9, .inl (cy 0, 60, .inl tx))] H := hP
      have hD : va_D A [(x9, .inr (10, [.int th, .int (nI ch), .int era, .int why, .int det, .int cau, .int (zI sv), .int (zI rj), .ref v9, .ref b9, .ref s9, .ref k9, .ref p9, .ref t9, .ref n9, .int (nI tn), .int (nI (he + 1)), .int (nI en), .int (nI ln), .int (zI false), .int (zI false)])), (t9, .inl (cy 0, 60, .inl tx))] := hD
      refine z_top (y := zI true) (rfl) ?_
      refine lv_if_eq (tgt := 81) hx hb dX6_command_72 (by decide) (fun c_3 => ?_) (fun c_3 => ?_)
      · replace c_3 := zI0 c_3
        exact absurd c_3 (by decide)
      · replace c_3 := zI1 c_3
        refine lv_aload_n hx hb dX6_command_75 rfl (lv_at hl 3 rfl) ?_
        refine lv_iconst (v := 2) hx hb dX6_command_76 (by decide) ?_
        refine z_top (y := nI 2) (rfl) ?_
        refine zcV (As := [.int (nI 2)]) (rest := []) [0, 1] 0 hg.1 ⟨hx, hb, hml, hown, hts⟩ (c_X6_digits hg l D cy x9 th ch era why det cau sv rj v9 b9 s9 k9 p9 t9 n9 tn (he + 1) en ln false tx 2 (by first | assumption | omega) (by first | assumption | omega) (by first | assumption | omega) (by first | assumption | omega)) (cwV 1 hts gX6_command_X6_digits rfl rfl rfl (by decide +kernel) ⟨Nat.le_of_ble_eq_true rfl, Nat.le_of_ble_eq_true rfl⟩) hG hK hP hD hS hA rfl rfl (Eq.trans (b := [x9, t9]) rfl rfl) rfl rfl rfl hl.1 rfl (Nat.le_of_ble_eq_true rfl) dX6_command_77 ⟨Nat.zero_le _, Nat.zero_le _⟩ (fun H locs hP hD hS => ?_)
        have hP : va_P D vwCl [(x9, .inr (10, [.int th, .int (nI ch), .int era, .int why, .int det, .int cau, .int (zI sv), .int (zI rj), .ref v9, .ref b9, .ref s9, .ref k9, .ref p9, .ref t9, .ref n9, .int (nI tn), .int (nI ((he + 1) + zdN tx en 2 (he + 1))), .int (nI en), .int (nI ln), .int (zI (decide (zdN tx en 2 (he + 1) = 0))), .int (zI false)])), (t9, .inl (cy 0, 60, .inl tx))] H := hP
        have hD : va_D A [(x9, .inr (10, [.int th, .int (nI ch), .int era, .int why, .int det, .int cau, .int (zI sv), .int (zI rj), .ref v9, .ref b9, .ref s9, .ref k9, .ref p9, .ref t9, .ref n9, .int (nI tn), .int (nI ((he + 1) + zdN tx en 2 (he + 1))), .int (nI en), .int (nI ln), .int (zI (decide (zdN tx en 2 (he + 1) = 0))), .int (zI false)])), (t9, .inl (cy 0, 60, .inl tx))] := hD
        refine lv_istore_n (lv' := [(2, .int (zdV tx en 2 (he + 1) 0)), (3, .int 0), (1, .int 114), (0, .ref x9)]) hx hb dX6_command_80 rfl hl (by decide) rfl (fun ls hl => ?_)
        refine lv_iload_n hx hb dX6_command_81 rfl (lv_at hl 2 rfl) ?_
        refine zcS (As := [.int 114]) (rest := []) [] hg.1 ⟨hx, hb, hml, hown, hts⟩ (c_X6_isDigit hg l D cy 114) (va_cwS 1 hts gX6_command_X6_isDigit rfl rfl rfl (by decide +kernel) ⟨Nat.le_of_ble_eq_true rfl, Nat.le_of_ble_eq_true rfl⟩) hG hK hP hD hS hA rfl rfl rfl  rfl hl.1 rfl (Nat.le_of_ble_eq_true rfl) dX6_command_82 ⟨Nat.zero_le _, Nat.zero_le _⟩ (fun H locs hP hD hS => ?_)
        have hP : va_P D vwCl [(x9, .inr (10, [.int th, .int (nI ch), .int era, .int why, .int det, .int cau, .int (zI sv), .int (zI rj), .ref v9, .ref b9, .ref s9, .ref k9, .ref p9, .ref t9, .ref n9, .int (nI tn), .int (nI ((he + 1) + zdN tx en 2 (he + 1))), .int (nI en), .int (nI ln), .int (zI (decide (zdN tx en 2 (he + 1) = 0))), .int (zI false)])), (t9, .inl (cy 0, 60, .inl tx))] H := hP
        have hD : va_D A [(x9, .inr (10, [.int th, .int (nI ch), .int era, .int why, .int det, .int cau, .int (zI sv), .int (zI rj), .ref v9, .ref b9, .ref s9, .ref k9, .ref p9, .ref t9, .ref n9, .int (nI tn), .int (nI ((he + 1) + zdN tx en 2 (he + 1))), .int (nI en), .int (nI ln), .int (zI (decide (zdN tx en 2 (he + 1) = 0))), .int (zI false)])), (t9, .inl (cy 0, 60, .inl tx))] := hD
        refine z_top (y := zI false) (rfl) ?_
        refine lv_if_eq (tgt := 94) hx hb dX6_command_85 (by decide) (fun c_4 => ?_) (fun c_4 => ?_)
        · replace c_4 := zI0 c_4
          refine lv_iload_n hx hb dX6_command_94 rfl (lv_at hl 2 rfl) ?_
          refine lv_bipush (v := 112) hx hb dX6_command_95 (by decide) ?_
          refine lv_icmp_ne (tgt := 105) hx hb dX6_command_97 (by decide) (fun c_5 => ?_) (fun c_5 => ?_)
          · refine lv_iload_n hx hb dX6_command_105 rfl (lv_at hl 2 rfl) ?_
            refine lv_bipush (v := 99) hx hb dX6_command_106 (by decide) ?_
            refine lv_icmp_ne (tgt := 118) hx hb dX6_command_108 (by decide) (fun c_6 => ?_) (fun c_6 => ?_)
            · refine lv_iload_n hx hb dX6_command_118 rfl (lv_at hl 2 rfl) ?_
              refine lv_bipush (v := 121) hx hb dX6_command_119 (by decide) ?_
              refine lv_icmp_ne (tgt := 131) hx hb dX6_command_121 (by decide) (fun c_7 => ?_) (fun c_7 => ?_)
              · refine lv_aload_n hx hb dX6_command_131 rfl (lv_at hl 3 rfl) ?_
                refine va_get (D := D) (ci := 10) (v := .int (zI (decide (zdN tx en 2 (he + 1) = 0)))) (C := RX6) (T := TX6) (N := 21) hx hb hts in_RX6 hown hK hP 0 rfl rfl 19 (by decide) (hts _ (List.mem_of_getElem? (i := 1) rfl)) (fun _ h9 => h9) rfl dX6_command_132 ?_
                refine lv_if_ne (tgt := 145) hx hb dX6_command_135 (by decide) (fun c_8 => ?_) (fun c_8 => ?_)
                · replace c_8 := zI1 c_8
                  exact zvret hend hx hb hr hlk hK hP hD hS dX6_command_145 rfl
                · replace c_8 := zI0 c_8
                  refine lv_aload_n hx hb dX6_command_138 rfl (lv_at hl 3 rfl) ?_
                  refine va_get (D := D) (ci := 10) (v := .int (zI false)) (C := RX6) (T := TX6) (N := 21) hx hb hts in_RX6 hown hK hP 0 rfl rfl 20 (by decide) (hts _ (List.mem_of_getElem? (i := 3) rfl)) (fun _ h9 => h9) rfl dX6_command_139 ?_
                  refine lv_if_ne (tgt := 146) hx hb dX6_command_142 (by decide) (fun c_9 => ?_) (fun c_9 => ?_)
                  · replace c_9 := zI1 c_9
                    exact absurd c_9 (by decide)
                  · replace c_9 := zI0 c_9
                    exact zvret hend hx hb hr hlk hK hP hD hS dX6_command_145 rfl
              · exact absurd c_7 (by decide)
            · exact absurd c_6 (by decide)
          · exact absurd c_5 (by decide)
        · replace c_4 := zI1 c_4
          exact absurd c_4 (by decide)
    · replace c_2 := zI1 c_2
      exact absurd c_2 (by decide)
  · replace c_1 := zI0 c_1
    exact absurd c_1 (by decide)

abbrev rmX6_command_p100 : Room := { frames := 3, cells := 0, slots := 0, locals := 66 }
set_option maxHeartbeats 4000000 in
set_option maxRecDepth 100000 in
theorem c_X6_command_p100 {G : zG} (hg : zGN G) (l : Launch) (D : va_G) (cy : Nat → ClassId) (x9 : Nat) (th : Int32) (ch : Nat) (era : Int32) (why : Int32) (det : Int32) (cau : Int32) (sv : Bool) (rj : Bool) (v9 : Nat) (b9 : Nat) (s9 : Nat) (k9 : Nat) (p9 : Nat) (t9 : Nat) (n9 : Nat) (tn : Nat) (he : Nat) (en : Nat) (ln : Nat) (iw : Bool) (tx : Nat → Int32) (hhe : he ≤ 60) (hen : en ≤ 60) (hc : zqs tx en he = 100) : zM G D vwCl (zT cy) l yX6_command wsX6_command rmX6_command_p100 [.ref x9] [(x9, .inr (10, [.int th, .int (nI ch), .int era, .int why, .int det, .int cau, .int (zI sv), .int (zI rj), .ref v9, .ref b9, .ref s9, .ref k9, .ref p9, .ref t9, .ref n9, .int (nI tn), .int (nI he), .int (nI en), .int (nI ln), .int (zI iw), .int (zI false)])), (t9, .inl (cy 0, 60, .inl tx))] none [(x9, .inr (10, [.int th, .int (nI ch), .int era, .int why, .int det, .int cau, .int (zI sv), .int (zI rj), .ref v9, .ref b9, .ref s9, .ref k9, .ref p9, .ref t9, .ref n9, .int (nI tn), .int (nI ((he + 1) + zdN tx en 2 (he + 1))), .int (nI en), .int (nI ln), .int (zI (decide (zdN tx en 2 (he + 1) = 0))), .int (zI false)])), (t9, .inl (cy 0, 60, .inl tx))] := by
  refine zM_of (cc := cX6_command) (maxL := 5) (ret := none) (by decide) rfl (Nat.le_of_ble_eq_true rfl) ?_
  intro p e s m below meth c A Q hend hx hb hml hr hts hown hlk hG hK hP hD hA hS ls hl
  have hown : s.vm.findClass RX6 = some m.cls := hown
  have in_RX6 : ∀ w ∈ u_ws RX6 TX6 21, w ∈ wsX6_command := by decide +kernel
  have hl : lv_has ls 5 [(0, .ref x9)] := hl
  refine lv_aload_n hx hb dX6_command_0 rfl (lv_at hl 0 rfl) ?_
  refine zcV (As := []) (rest := []) [0, 1] 0 hg.1 ⟨hx, hb, hml, hown, hts⟩ (c_X6_sign hg l D cy x9 th ch era why det cau sv rj v9 b9 s9 k9 p9 t9 n9 tn he en ln iw false tx (by first | assumption | omega) (by first | assumption | omega)) (cwV 0 hts gX6_command_X6_sign rfl rfl rfl (by decide +kernel) ⟨Nat.le_of_ble_eq_true rfl, Nat.le_of_ble_eq_true rfl⟩) hG hK hP hD hS hA rfl rfl rfl rfl rfl rfl hl.1 rfl (Nat.le_of_ble_eq_true rfl) dX6_command_1 ⟨Nat.zero_le _, Nat.zero_le _⟩ (fun H locs hP hD hS => ?_)
  have hP : va_P D vwCl [(x9, .inr (10, [.int th, .int (nI ch), .int era, .int why, .int det, .int cau, .int (zI sv), .int (zI rj), .ref v9, .ref b9, .ref s9, .ref k9, .ref p9, .ref t9, .ref n9, .int (nI tn), .int (nI he), .int (nI en), .int (nI ln), .int (zI iw), .int (zI false)])), (t9, .inl (cy 0, 60, .inl tx))] H := hP
  have hD : va_D A [(x9, .inr (10, [.int th, .int (nI ch), .int era, .int why, .int det, .int cau, .int (zI sv), .int (zI rj), .ref v9, .ref b9, .ref s9, .ref k9, .ref p9, .ref t9, .ref n9, .int (nI tn), .int (nI he), .int (nI en), .int (nI ln), .int (zI iw), .int (zI false)])), (t9, .inl (cy 0, 60, .inl tx))] := hD
  refine z_top (y := 100) (hc) ?_
  refine lv_istore_n (lv' := [(1, .int 100), (0, .ref x9)]) hx hb dX6_command_4 rfl hl (by decide) rfl (fun ls hl => ?_)
  refine lv_iconst (v := 0) hx hb dX6_command_5 (by decide) ?_
  refine lv_istore_n (lv' := [(2, .int 0), (1, .int 100), (0, .ref x9)]) hx hb dX6_command_6 rfl hl (by decide) rfl (fun ls hl => ?_)
  refine lv_iconst (v := 0) hx hb dX6_command_7 (by decide) ?_
  refine lv_istore_n (lv' := [(3, .int 0), (2, .int 0), (1, .int 100), (0, .ref x9)]) hx hb dX6_command_8 rfl hl (by decide) rfl (fun ls hl => ?_)
  refine lv_aload_n hx hb dX6_command_9 rfl (lv_at hl 3 rfl) ?_
  refine lv_iload_n hx hb dX6_command_10 rfl (lv_at hl 2 rfl) ?_
  refine zcS (As := [.int 100]) (rest := [.ref x9]) [] hg.1 ⟨hx, hb, hml, hown, hts⟩ (c_X6_isNumbered hg l D cy 100) (va_cwS 1 hts gX6_command_X6_isNumbered rfl rfl rfl (by decide +kernel) ⟨Nat.le_of_ble_eq_true rfl, Nat.le_of_ble_eq_true rfl⟩) hG hK hP hD hS hA rfl rfl rfl  rfl hl.1 rfl (Nat.le_of_ble_eq_true rfl) dX6_command_11 ⟨Nat.zero_le _, Nat.zero_le _⟩ (fun H locs hP hD hS => ?_)
  have hP : va_P D vwCl [(x9, .inr (10, [.int th, .int (nI ch), .int era, .int why, .int det, .int cau, .int (zI sv), .int (zI rj), .ref v9, .ref b9, .ref s9, .ref k9, .ref p9, .ref t9, .ref n9, .int (nI tn), .int (nI he), .int (nI en), .int (nI ln), .int (zI iw), .int (zI false)])), (t9, .inl (cy 0, 60, .inl tx))] H := hP
  have hD : va_D A [(x9, .inr (10, [.int th, .int (nI ch), .int era, .int why, .int det, .int cau, .int (zI sv), .int (zI rj), .ref v9, .ref b9, .ref s9, .ref k9, .ref p9, .ref t9, .ref n9, .int (nI tn), .int (nI he), .int (nI en), .int (nI ln), .int (zI iw), .int (zI false)])), (t9, .inl (cy 0, 60, .inl tx))] := hD
  refine z_top (y := zI true) (rfl) ?_
  refine lv_if_ne (tgt := 46) hx hb dX6_command_14 (by decide) (fun c_1 => ?_) (fun c_1 => ?_)
  · replace c_1 := zI1 c_1
    refine lv_iconst (v := 0) hx hb dX6_command_46 (by decide) ?_
    refine z_top (y := zI false) rfl ?_
    refine va_put (D := D) (ci := 10) (v := .int (zI false)) (ty := .boolean) (C := RX6) (T := TX6) (N := 21) hx hb hts in_RX6 tyX6 tyX6_ok nmX6 hown hK hP hD hS 0 rfl rfl 19 (by decide) (hts _ (List.mem_of_getElem? (i := 1) rfl)) (fun _ h9 => h9) rfl (by decide +kernel) (zI_nar _) (zI_fit _) (Nat.le_of_ble_eq_true rfl) dX6_command_47 (fun H locs hP hD hS => ?_)
    have hP : va_P D vwCl [(x9, .inr (10, [.int th, .int (nI ch), .int era, .int why, .int det, .int cau, .int (zI sv), .int (zI rj), .ref v9, .ref b9, .ref s9, .ref k9, .ref p9, .ref t9, .ref n9, .int (nI tn), .int (nI he), .int (nI en), .int (nI ln), .int (zI false), .int (zI false)])), (t9, .inl (cy 0, 60, .inl tx))] H := hP
    have hD : va_D A [(x9, .inr (10, [.int th, .int (nI ch), .int era, .int why, .int det, .int cau, .int (zI sv), .int (zI rj), .ref v9, .ref b9, .ref s9, .ref k9, .ref p9, .ref t9, .ref n9, .int (nI tn), .int (nI he), .int (nI en), .int (nI ln), .int (zI false), .int (zI false)])), (t9, .inl (cy 0, 60, .inl tx))] := hD
    refine lv_aload_n hx hb dX6_command_50 rfl (lv_at hl 3 rfl) ?_
    refine va_get (D := D) (ci := 10) (v := .int (zI false)) (C := RX6) (T := TX6) (N := 21) hx hb hts in_RX6 hown hK hP 0 rfl rfl 19 (by decide) (hts _ (List.mem_of_getElem? (i := 1) rfl)) (fun _ h9 => h9) rfl dX6_command_51 ?_
    refine lv_if_eq (tgt := 58) hx hb dX6_command_54 (by decide) (fun c_2 => ?_) (fun c_2 => ?_)
    · replace c_2 := zI0 c_2
      refine lv_aload_n hx hb dX6_command_58 rfl (lv_at hl 3 rfl) ?_
      refine lv_dup hx hb dX6_command_59 rfl ?_
      refine va_get (D := D) (ci := 10) (v := .int (nI he)) (C := RX6) (T := TX6) (N := 21) hx hb hts in_RX6 hown hK hP 0 rfl rfl 16 (by decide) (hts _ (List.mem_of_getElem? (i := 2) rfl)) (fun _ h9 => h9) rfl dX6_command_60 ?_
      refine lv_iconst (v := 1) hx hb dX6_command_63 (by decide) ?_
      refine lv_iadd hx hb dX6_command_64 ?_
      refine z_top (y := nI (he + 1)) (nI_add he 1) ?_
      refine va_put (D := D) (ci := 10) (v := .int (nI (he + 1))) (ty := .int) (C := RX6) (T := TX6) (N := 21) hx hb hts in_RX6 tyX6 tyX6_ok nmX6 hown hK hP hD hS 0 rfl rfl 16 (by decide) (hts _ (List.mem_of_getElem? (i := 2) rfl)) (fun _ h9 => h9) rfl (by decide +kernel) rfl rfl (Nat.le_of_ble_eq_true rfl) dX6_command_65 (fun H locs hP hD hS => ?_)
      have hP : va_P D vwCl [(x9, .inr (10, [.int th, .int (nI ch), .int era, .int why, .int det, .int cau, .int (zI sv), .int (zI rj), .ref v9, .ref b9, .ref s9, .ref k9, .ref p9, .ref t9, .ref n9, .int (nI tn), .int (nI (he + 1)), .int (nI en), .int (nI ln), .int (zI false), .int (zI false)])), (t9, .inl (cy 0, 60, .inl tx))] H := hP
      have hD : va_D A [(x9, .inr (10, [.int th, .int (nI ch), .int era, .int why, .int det, .int cau, .int (zI sv), .int (zI rj), .ref v9, .ref b9, .ref s9, .ref k9, .ref p9, .ref t9, .ref n9, .int (nI tn), .int (nI (he + 1)), .int (nI en), .int (nI ln), .int (zI false), .int (zI false)])), (t9, .inl (cy 0, 60, .inl tx))] := hD
      refine lv_iload_n hx hb dX6_command_68 rfl (lv_at hl 2 rfl) ?_
      refine zcS (As := [.int 100]) (rest := []) [] hg.1 ⟨hx, hb, hml, hown, hts⟩ (c_X6_isNumbered hg l D cy 100) (va_cwS 1 hts gX6_command_X6_isNumbered rfl rfl rfl (by decide +kernel) ⟨Nat.le_of_ble_eq_true rfl, Nat.le_of_ble_eq_true rfl⟩) hG hK hP hD hS hA rfl rfl rfl  rfl hl.1 rfl (Nat.le_of_ble_eq_true rfl) dX6_command_69 ⟨Nat.zero_le _, Nat.zero_le _⟩ (fun H locs hP hD hS => ?_)
      have hP : va_P D vwCl [(x9, .inr (10, [.int th, .int (nI ch), .int era, .int why, .int det, .int cau, .int (zI sv), .int (zI rj), .ref v9, .ref b9, .ref s9, .ref k9, .ref p9, .ref t9, .ref n9, .int (nI tn), .int (nI (he + 1)), .int (nI en), .int (nI ln), .int (zI false), .int (zI false)])), (t9, .inl (cy 0, 60, .inl tx))] H := hP
      have hD : va_D A [(x9, .inr (10, [.int th, .int (nI ch), .int era, .int why, .int det, .int cau, .int (zI sv), .int (zI rj), .ref v9, .ref b9, .ref s9, .ref k9, .ref p9, .ref t9, .ref n9, .int (nI tn), .int (nI (he + 1)), .int (nI en), .int (nI ln), .int (zI false), .int (zI false)])), (t9, .inl (cy 0, 60, .inl tx))] := hD
      refine z_top (y := zI true) (rfl) ?_
      refine lv_if_eq (tgt := 81) hx hb dX6_command_72 (by decide) (fun c_3 => ?_) (fun c_3 => ?_)
      · replace c_3 := zI0 c_3
        exact absurd c_3 (by decide)
      · replace c_3 := zI1 c_3
        refine lv_aload_n hx hb dX6_command_75 rfl (lv_at hl 3 rfl) ?_
        refine lv_iconst (v := 2) hx hb dX6_command_76 (by decide) ?_
        refine z_top (y := nI 2) (rfl) ?_
        refine zcV (As := [.int (nI 2)]) (rest := []) [0, 1] 0 hg.1 ⟨hx, hb, hml, hown, hts⟩ (c_X6_digits hg l D cy x9 th ch era why det cau sv rj v9 b9 s9 k9 p9 t9 n9 tn (he + 1) en ln false tx 2 (by first | assumption | omega) (by first | assumption | omega) (by first | assumption | omega) (by first | assumption | omega)) (cwV 1 hts gX6_command_X6_digits rfl rfl rfl (by decide +kernel) ⟨Nat.le_of_ble_eq_true rfl, Nat.le_of_ble_eq_true rfl⟩) hG hK hP hD hS hA rfl rfl (Eq.trans (b := [x9, t9]) rfl rfl) rfl rfl rfl hl.1 rfl (Nat.le_of_ble_eq_true rfl) dX6_command_77 ⟨Nat.zero_le _, Nat.zero_le _⟩ (fun H locs hP hD hS => ?_)
        have hP : va_P D vwCl [(x9, .inr (10, [.int th, .int (nI ch), .int era, .int why, .int det, .int cau, .int (zI sv), .int (zI rj), .ref v9, .ref b9, .ref s9, .ref k9, .ref p9, .ref t9, .ref n9, .int (nI tn), .int (nI ((he + 1) + zdN tx en 2 (he + 1))), .int (nI en), .int (nI ln), .int (zI (decide (zdN tx en 2 (he + 1) = 0))), .int (zI false)])), (t9, .inl (cy 0, 60, .inl tx))] H := hP
        have hD : va_D A [(x9, .inr (10, [.int th, .int (nI ch), .int era, .int why, .int det, .int cau, .int (zI sv), .int (zI rj), .ref v9, .ref b9, .ref s9, .ref k9, .ref p9, .ref t9, .ref n9, .int (nI tn), .int (nI ((he + 1) + zdN tx en 2 (he + 1))), .int (nI en), .int (nI ln), .int (zI (decide (zdN tx en 2 (he + 1) = 0))), .int (zI false)])), (t9, .inl (cy 0, 60, .inl tx))] := hD
        refine lv_istore_n (lv' := [(2, .int (zdV tx en 2 (he + 1) 0)), (3, .int 0), (1, .int 100), (0, .ref x9)]) hx hb dX6_command_80 rfl hl (by decide) rfl (fun ls hl => ?_)
        refine lv_iload_n hx hb dX6_command_81 rfl (lv_at hl 2 rfl) ?_
        refine zcS (As := [.int 100]) (rest := []) [] hg.1 ⟨hx, hb, hml, hown, hts⟩ (c_X6_isDigit hg l D cy 100) (va_cwS 1 hts gX6_command_X6_isDigit rfl rfl rfl (by decide +kernel) ⟨Nat.le_of_ble_eq_true rfl, Nat.le_of_ble_eq_true rfl⟩) hG hK hP hD hS hA rfl rfl rfl  rfl hl.1 rfl (Nat.le_of_ble_eq_true rfl) dX6_command_82 ⟨Nat.zero_le _, Nat.zero_le _⟩ (fun H locs hP hD hS => ?_)
        have hP : va_P D vwCl [(x9, .inr (10, [.int th, .int (nI ch), .int era, .int why, .int det, .int cau, .int (zI sv), .int (zI rj), .ref v9, .ref b9, .ref s9, .ref k9, .ref p9, .ref t9, .ref n9, .int (nI tn), .int (nI ((he + 1) + zdN tx en 2 (he + 1))), .int (nI en), .int (nI ln), .int (zI (decide (zdN tx en 2 (he + 1) = 0))), .int (zI false)])), (t9, .inl (cy 0, 60, .inl tx))] H := hP
        have hD : va_D A [(x9, .inr (10, [.int th, .int (nI ch), .int era, .int why, .int det, .int cau, .int (zI sv), .int (zI rj), .ref v9, .ref b9, .ref s9, .ref k9, .ref p9, .ref t9, .ref n9, .int (nI tn), .int (nI ((he + 1) + zdN tx en 2 (he + 1))), .int (nI en), .int (nI ln), .int (zI (decide (zdN tx en 2 (he + 1) = 0))), .int (zI false)])), (t9, .inl (cy 0, 60, .inl tx))] := hD
        refine z_top (y := zI false) (rfl) ?_
        refine lv_if_eq (tgt := 94) hx hb dX6_command_85 (by decide) (fun c_4 => ?_) (fun c_4 => ?_)
        · replace c_4 := zI0 c_4
          refine lv_iload_n hx hb dX6_command_94 rfl (lv_at hl 2 rfl) ?_
          refine lv_bipush (v := 112) hx hb dX6_command_95 (by decide) ?_
          refine lv_icmp_ne (tgt := 105) hx hb dX6_command_97 (by decide) (fun c_5 => ?_) (fun c_5 => ?_)
          · refine lv_iload_n hx hb dX6_command_105 rfl (lv_at hl 2 rfl) ?_
            refine lv_bipush (v := 99) hx hb dX6_command_106 (by decide) ?_
            refine lv_icmp_ne (tgt := 118) hx hb dX6_command_108 (by decide) (fun c_6 => ?_) (fun c_6 => ?_)
            · refine lv_iload_n hx hb dX6_command_118 rfl (lv_at hl 2 rfl) ?_
              refine lv_bipush (v := 121) hx hb dX6_command_119 (by decide) ?_
              refine lv_icmp_ne (tgt := 131) hx hb dX6_command_121 (by decide) (fun c_7 => ?_) (fun c_7 => ?_)
              · refine lv_aload_n hx hb dX6_command_131 rfl (lv_at hl 3 rfl) ?_
                refine va_get (D := D) (ci := 10) (v := .int (zI (decide (zdN tx en 2 (he + 1) = 0)))) (C := RX6) (T := TX6) (N := 21) hx hb hts in_RX6 hown hK hP 0 rfl rfl 19 (by decide) (hts _ (List.mem_of_getElem? (i := 1) rfl)) (fun _ h9 => h9) rfl dX6_command_132 ?_
                refine lv_if_ne (tgt := 145) hx hb dX6_command_135 (by decide) (fun c_8 => ?_) (fun c_8 => ?_)
                · replace c_8 := zI1 c_8
                  exact zvret hend hx hb hr hlk hK hP hD hS dX6_command_145 rfl
                · replace c_8 := zI0 c_8
                  refine lv_aload_n hx hb dX6_command_138 rfl (lv_at hl 3 rfl) ?_
                  refine va_get (D := D) (ci := 10) (v := .int (zI false)) (C := RX6) (T := TX6) (N := 21) hx hb hts in_RX6 hown hK hP 0 rfl rfl 20 (by decide) (hts _ (List.mem_of_getElem? (i := 3) rfl)) (fun _ h9 => h9) rfl dX6_command_139 ?_
                  refine lv_if_ne (tgt := 146) hx hb dX6_command_142 (by decide) (fun c_9 => ?_) (fun c_9 => ?_)
                  · replace c_9 := zI1 c_9
                    exact absurd c_9 (by decide)
                  · replace c_9 := zI0 c_9
                    exact zvret hend hx hb hr hlk hK hP hD hS dX6_command_145 rfl
              · exact absurd c_7 (by decide)
            · exact absurd c_6 (by decide)
          · exact absurd c_5 (by decide)
        · replace c_4 := zI1 c_4
          exact absurd c_4 (by decide)
    · replace c_2 := zI1 c_2
      exact absurd c_2 (by decide)
  · replace c_1 := zI0 c_1
    exact absurd c_1 (by decide)

abbrev rmX6_command_p117 : Room := { frames := 3, cells := 0, slots := 0, locals := 66 }
set_option maxHeartbeats 4000000 in
set_option maxRecDepth 100000 in
theorem c_X6_command_p117 {G : zG} (hg : zGN G) (l : Launch) (D : va_G) (cy : Nat → ClassId) (x9 : Nat) (th : Int32) (ch : Nat) (era : Int32) (why : Int32) (det : Int32) (cau : Int32) (sv : Bool) (rj : Bool) (v9 : Nat) (b9 : Nat) (s9 : Nat) (k9 : Nat) (p9 : Nat) (t9 : Nat) (n9 : Nat) (tn : Nat) (he : Nat) (en : Nat) (ln : Nat) (iw : Bool) (tx : Nat → Int32) (hhe : he ≤ 60) (hen : en ≤ 60) (hc : zqs tx en he = 117) : zM G D vwCl (zT cy) l yX6_command wsX6_command rmX6_command_p117 [.ref x9] [(x9, .inr (10, [.int th, .int (nI ch), .int era, .int why, .int det, .int cau, .int (zI sv), .int (zI rj), .ref v9, .ref b9, .ref s9, .ref k9, .ref p9, .ref t9, .ref n9, .int (nI tn), .int (nI he), .int (nI en), .int (nI ln), .int (zI iw), .int (zI false)])), (t9, .inl (cy 0, 60, .inl tx))] none [(x9, .inr (10, [.int th, .int (nI ch), .int era, .int why, .int det, .int cau, .int (zI sv), .int (zI rj), .ref v9, .ref b9, .ref s9, .ref k9, .ref p9, .ref t9, .ref n9, .int (nI tn), .int (nI ((he + 1) + zdN tx en 2 (he + 1))), .int (nI en), .int (nI ln), .int (zI (decide (zdN tx en 2 (he + 1) = 0))), .int (zI false)])), (t9, .inl (cy 0, 60, .inl tx))] := by
  refine zM_of (cc := cX6_command) (maxL := 5) (ret := none) (by decide) rfl (Nat.le_of_ble_eq_true rfl) ?_
  intro p e s m below meth c A Q hend hx hb hml hr hts hown hlk hG hK hP hD hA hS ls hl
  have hown : s.vm.findClass RX6 = some m.cls := hown
  have in_RX6 : ∀ w ∈ u_ws RX6 TX6 21, w ∈ wsX6_command := by decide +kernel
  have hl : lv_has ls 5 [(0, .ref x9)] := hl
  refine lv_aload_n hx hb dX6_command_0 rfl (lv_at hl 0 rfl) ?_
  refine zcV (As := []) (rest := []) [0, 1] 0 hg.1 ⟨hx, hb, hml, hown, hts⟩ (c_X6_sign hg l D cy x9 th ch era why det cau sv rj v9 b9 s9 k9 p9 t9 n9 tn he en ln iw false tx (by first | assumption | omega) (by first | assumption | omega)) (cwV 0 hts gX6_command_X6_sign rfl rfl rfl (by decide +kernel) ⟨Nat.le_of_ble_eq_true rfl, Nat.le_of_ble_eq_true rfl⟩) hG hK hP hD hS hA rfl rfl rfl rfl rfl rfl hl.1 rfl (Nat.le_of_ble_eq_true rfl) dX6_command_1 ⟨Nat.zero_le _, Nat.zero_le _⟩ (fun H locs hP hD hS => ?_)
  have hP : va_P D vwCl [(x9, .inr (10, [.int th, .int (nI ch), .int era, .int why, .int det, .int cau, .int (zI sv), .int (zI rj), .ref v9, .ref b9, .ref s9, .ref k9, .ref p9, .ref t9, .ref n9, .int (nI tn), .int (nI he), .int (nI en), .int (nI ln), .int (zI iw), .int (zI false)])), (t9, .inl (cy 0, 60, .inl tx))] H := hP
  have hD : va_D A [(x9, .inr (10, [.int th, .int (nI ch), .int era, .int why, .int det, .int cau, .int (zI sv), .int (zI rj), .ref v9, .ref b9, .ref s9, .ref k9, .ref p9, .ref t9, .ref n9, .int (nI tn), .int (nI he), .int (nI en), .int (nI ln), .int (zI iw), .int (zI false)])), (t9, .inl (cy 0, 60, .inl tx))] := hD
  refine z_top (y := 117) (hc) ?_
  refine lv_istore_n (lv' := [(1, .int 117), (0, .ref x9)]) hx hb dX6_command_4 rfl hl (by decide) rfl (fun ls hl => ?_)
  refine lv_iconst (v := 0) hx hb dX6_command_5 (by decide) ?_
  refine lv_istore_n (lv' := [(2, .int 0), (1, .int 117), (0, .ref x9)]) hx hb dX6_command_6 rfl hl (by decide) rfl (fun ls hl => ?_)
  refine lv_iconst (v := 0) hx hb dX6_command_7 (by decide) ?_
  refine lv_istore_n (lv' := [(3, .int 0), (2, .int 0), (1, .int 117), (0, .ref x9)]) hx hb dX6_command_8 rfl hl (by decide) rfl (fun ls hl => ?_)
  refine lv_aload_n hx hb dX6_command_9 rfl (lv_at hl 3 rfl) ?_
  refine lv_iload_n hx hb dX6_command_10 rfl (lv_at hl 2 rfl) ?_
  refine zcS (As := [.int 117]) (rest := [.ref x9]) [] hg.1 ⟨hx, hb, hml, hown, hts⟩ (c_X6_isNumbered hg l D cy 117) (va_cwS 1 hts gX6_command_X6_isNumbered rfl rfl rfl (by decide +kernel) ⟨Nat.le_of_ble_eq_true rfl, Nat.le_of_ble_eq_true rfl⟩) hG hK hP hD hS hA rfl rfl rfl  rfl hl.1 rfl (Nat.le_of_ble_eq_true rfl) dX6_command_11 ⟨Nat.zero_le _, Nat.zero_le _⟩ (fun H locs hP hD hS => ?_)
  have hP : va_P D vwCl [(x9, .inr (10, [.int th, .int (nI ch), .int era, .int why, .int det, .int cau, .int (zI sv), .int (zI rj), .ref v9, .ref b9, .ref s9, .ref k9, .ref p9, .ref t9, .ref n9, .int (nI tn), .int (nI he), .int (nI en), .int (nI ln), .int (zI iw), .int (zI false)])), (t9, .inl (cy 0, 60, .inl tx))] H := hP
  have hD : va_D A [(x9, .inr (10, [.int th, .int (nI ch), .int era, .int why, .int det, .int cau, .int (zI sv), .int (zI rj), .ref v9, .ref b9, .ref s9, .ref k9, .ref p9, .ref t9, .ref n9, .int (nI tn), .int (nI he), .int (nI en), .int (nI ln), .int (zI iw), .int (zI false)])), (t9, .inl (cy 0, 60, .inl tx))] := hD
  refine z_top (y := zI true) (rfl) ?_
  refine lv_if_ne (tgt := 46) hx hb dX6_command_14 (by decide) (fun c_1 => ?_) (fun c_1 => ?_)
  · replace c_1 := zI1 c_1
    refine lv_iconst (v := 0) hx hb dX6_command_46 (by decide) ?_
    refine z_top (y := zI false) rfl ?_
    refine va_put (D := D) (ci := 10) (v := .int (zI false)) (ty := .boolean) (C := RX6) (T := TX6) (N := 21) hx hb hts in_RX6 tyX6 tyX6_ok nmX6 hown hK hP hD hS 0 rfl rfl 19 (by decide) (hts _ (List.mem_of_getElem? (i := 1) rfl)) (fun _ h9 => h9) rfl (by decide +kernel) (zI_nar _) (zI_fit _) (Nat.le_of_ble_eq_true rfl) dX6_command_47 (fun H locs hP hD hS => ?_)
    have hP : va_P D vwCl [(x9, .inr (10, [.int th, .int (nI ch), .int era, .int why, .int det, .int cau, .int (zI sv), .int (zI rj), .ref v9, .ref b9, .ref s9, .ref k9, .ref p9, .ref t9, .ref n9, .int (nI tn), .int (nI he), .int (nI en), .int (nI ln), .int (zI false), .int (zI false)])), (t9, .inl (cy 0, 60, .inl tx))] H := hP
    have hD : va_D A [(x9, .inr (10, [.int th, .int (nI ch), .int era, .int why, .int det, .int cau, .int (zI sv), .int (zI rj), .ref v9, .ref b9, .ref s9, .ref k9, .ref p9, .ref t9, .ref n9, .int (nI tn), .int (nI he), .int (nI en), .int (nI ln), .int (zI false), .int (zI false)])), (t9, .inl (cy 0, 60, .inl tx))] := hD
    refine lv_aload_n hx hb dX6_command_50 rfl (lv_at hl 3 rfl) ?_
    refine va_get (D := D) (ci := 10) (v := .int (zI false)) (C := RX6) (T := TX6) (N := 21) hx hb hts in_RX6 hown hK hP 0 rfl rfl 19 (by decide) (hts _ (List.mem_of_getElem? (i := 1) rfl)) (fun _ h9 => h9) rfl dX6_command_51 ?_
    refine lv_if_eq (tgt := 58) hx hb dX6_command_54 (by decide) (fun c_2 => ?_) (fun c_2 => ?_)
    · replace c_2 := zI0 c_2
      refine lv_aload_n hx hb dX6_command_58 rfl (lv_at hl 3 rfl) ?_
      refine lv_dup hx hb dX6_command_59 rfl ?_
      refine va_get (D := D) (ci := 10) (v := .int (nI he)) (C := RX6) (T := TX6) (N := 21) hx hb hts in_RX6 hown hK hP 0 rfl rfl 16 (by decide) (hts _ (List.mem_of_getElem? (i := 2) rfl)) (fun _ h9 => h9) rfl dX6_command_60 ?_
      refine lv_iconst (v := 1) hx hb dX6_command_63 (by decide) ?_
      refine lv_iadd hx hb dX6_command_64 ?_
      refine z_top (y := nI (he + 1)) (nI_add he 1) ?_
      refine va_put (D := D) (ci := 10) (v := .int (nI (he + 1))) (ty := .int) (C := RX6) (T := TX6) (N := 21) hx hb hts in_RX6 tyX6 tyX6_ok nmX6 hown hK hP hD hS 0 rfl rfl 16 (by decide) (hts _ (List.mem_of_getElem? (i := 2) rfl)) (fun _ h9 => h9) rfl (by decide +kernel) rfl rfl (Nat.le_of_ble_eq_true rfl) dX6_command_65 (fun H locs hP hD hS => ?_)
      have hP : va_P D vwCl [(x9, .inr (10, [.int th, .int (nI ch), .int era, .int why, .int det, .int cau, .int (zI sv), .int (zI rj), .ref v9, .ref b9, .ref s9, .ref k9, .ref p9, .ref t9, .ref n9, .int (nI tn), .int (nI (he + 1)), .int (nI en), .int (nI ln), .int (zI false), .int (zI false)])), (t9, .inl (cy 0, 60, .inl tx))] H := hP
      have hD : va_D A [(x9, .inr (10, [.int th, .int (nI ch), .int era, .int why, .int det, .int cau, .int (zI sv), .int (zI rj), .ref v9, .ref b9, .ref s9, .ref k9, .ref p9, .ref t9, .ref n9, .int (nI tn), .int (nI (he + 1)), .int (nI en), .int (nI ln), .int (zI false), .int (zI false)])), (t9, .inl (cy 0, 60, .inl tx))] := hD
      refine lv_iload_n hx hb dX6_command_68 rfl (lv_at hl 2 rfl) ?_
      refine zcS (As := [.int 117]) (rest := []) [] hg.1 ⟨hx, hb, hml, hown, hts⟩ (c_X6_isNumbered hg l D cy 117) (va_cwS 1 hts gX6_command_X6_isNumbered rfl rfl rfl (by decide +kernel) ⟨Nat.le_of_ble_eq_true rfl, Nat.le_of_ble_eq_true rfl⟩) hG hK hP hD hS hA rfl rfl rfl  rfl hl.1 rfl (Nat.le_of_ble_eq_true rfl) dX6_command_69 ⟨Nat.zero_le _, Nat.zero_le _⟩ (fun H locs hP hD hS => ?_)
      have hP : va_P D vwCl [(x9, .inr (10, [.int th, .int (nI ch), .int era, .int why, .int det, .int cau, .int (zI sv), .int (zI rj), .ref v9, .ref b9, .ref s9, .ref k9, .ref p9, .ref t9, .ref n9, .int (nI tn), .int (nI (he + 1)), .int (nI en), .int (nI ln), .int (zI false), .int (zI false)])), (t9, .inl (cy 0, 60, .inl tx))] H := hP
      have hD : va_D A [(x9, .inr (10, [.int th, .int (nI ch), .int era, .int why, .int det, .int cau, .int (zI sv), .int (zI rj), .ref v9, .ref b9, .ref s9, .ref k9, .ref p9, .ref t9, .ref n9, .int (nI tn), .int (nI (he + 1)), .int (nI en), .int (nI ln), .int (zI false), .int (zI false)])), (t9, .inl (cy 0, 60, .inl tx))] := hD
      refine z_top (y := zI true) (rfl) ?_
      refine lv_if_eq (tgt := 81) hx hb dX6_command_72 (by decide) (fun c_3 => ?_) (fun c_3 => ?_)
      · replace c_3 := zI0 c_3
        exact absurd c_3 (by decide)
      · replace c_3 := zI1 c_3
        refine lv_aload_n hx hb dX6_command_75 rfl (lv_at hl 3 rfl) ?_
        refine lv_iconst (v := 2) hx hb dX6_command_76 (by decide) ?_
        refine z_top (y := nI 2) (rfl) ?_
        refine zcV (As := [.int (nI 2)]) (rest := []) [0, 1] 0 hg.1 ⟨hx, hb, hml, hown, hts⟩ (c_X6_digits hg l D cy x9 th ch era why det cau sv rj v9 b9 s9 k9 p9 t9 n9 tn (he + 1) en ln false tx 2 (by first | assumption | omega) (by first | assumption | omega) (by first | assumption | omega) (by first | assumption | omega)) (cwV 1 hts gX6_command_X6_digits rfl rfl rfl (by decide +kernel) ⟨Nat.le_of_ble_eq_true rfl, Nat.le_of_ble_eq_true rfl⟩) hG hK hP hD hS hA rfl rfl (Eq.trans (b := [x9, t9]) rfl rfl) rfl rfl rfl hl.1 rfl (Nat.le_of_ble_eq_true rfl) dX6_command_77 ⟨Nat.zero_le _, Nat.zero_le _⟩ (fun H locs hP hD hS => ?_)
        have hP : va_P D vwCl [(x9, .inr (10, [.int th, .int (nI ch), .int era, .int why, .int det, .int cau, .int (zI sv), .int (zI rj), .ref v9, .ref b9, .ref s9, .ref k9, .ref p9, .ref t9, .ref n9, .int (nI tn), .int (nI ((he + 1) + zdN tx en 2 (he + 1))), .int (nI en), .int (nI ln), .int (zI (decide (zdN tx en 2 (he + 1) = 0))), .int (zI false)])), (t9, .inl (cy 0, 60, .inl tx))] H := hP
        have hD : va_D A [(x9, .inr (10, [.int th, .int (nI ch), .int era, .int why, .int det, .int cau, .int (zI sv), .int (zI rj), .ref v9, .ref b9, .ref s9, .ref k9, .ref p9, .ref t9, .ref n9, .int (nI tn), .int (nI ((he + 1) + zdN tx en 2 (he + 1))), .int (nI en), .int (nI ln), .int (zI (decide (zdN tx en 2 (he + 1) = 0))), .int (zI false)])), (t9, .inl (cy 0, 60, .inl tx))] := hD
        refine lv_istore_n (lv' := [(2, .int (zdV tx en 2 (he + 1) 0)), (3, .int 0), (1, .int 117), (0, .ref x9)]) hx hb dX6_command_80 rfl hl (by decide) rfl (fun ls hl => ?_)
        refine lv_iload_n hx hb dX6_command_81 rfl (lv_at hl 2 rfl) ?_
        refine zcS (As := [.int 117]) (rest := []) [] hg.1 ⟨hx, hb, hml, hown, hts⟩ (c_X6_isDigit hg l D cy 117) (va_cwS 1 hts gX6_command_X6_isDigit rfl rfl rfl (by decide +kernel) ⟨Nat.le_of_ble_eq_true rfl, Nat.le_of_ble_eq_true rfl⟩) hG hK hP hD hS hA rfl rfl rfl  rfl hl.1 rfl (Nat.le_of_ble_eq_true rfl) dX6_command_82 ⟨Nat.zero_le _, Nat.zero_le _⟩ (fun H locs hP hD hS => ?_)
        have hP : va_P D vwCl [(x9, .inr (10, [.int th, .int (nI ch), .int era, .int why, .int det, .int cau, .int (zI sv), .int (zI rj), .ref v9, .ref b9, .ref s9, .ref k9, .ref p9, .ref t9, .ref n9, .int (nI tn), .int (nI ((he + 1) + zdN tx en 2 (he + 1))), .int (nI en), .int (nI ln), .int (zI (decide (zdN tx en 2 (he + 1) = 0))), .int (zI false)])), (t9, .inl (cy 0, 60, .inl tx))] H := hP
        have hD : va_D A [(x9, .inr (10, [.int th, .int (nI ch), .int era, .int why, .int det, .int cau, .int (zI sv), .int (zI rj), .ref v9, .ref b9, .ref s9, .ref k9, .ref p9, .ref t9, .ref n9, .int (nI tn), .int (nI ((he + 1) + zdN tx en 2 (he + 1))), .int (nI en), .int (nI ln), .int (zI (decide (zdN tx en 2 (he + 1) = 0))), .int (zI false)])), (t9, .inl (cy 0, 60, .inl tx))] := hD
        refine z_top (y := zI false) (rfl) ?_
        refine lv_if_eq (tgt := 94) hx hb dX6_command_85 (by decide) (fun c_4 => ?_) (fun c_4 => ?_)
        · replace c_4 := zI0 c_4
          refine lv_iload_n hx hb dX6_command_94 rfl (lv_at hl 2 rfl) ?_
          refine lv_bipush (v := 112) hx hb dX6_command_95 (by decide) ?_
          refine lv_icmp_ne (tgt := 105) hx hb dX6_command_97 (by decide) (fun c_5 => ?_) (fun c_5 => ?_)
          · refine lv_iload_n hx hb dX6_command_105 rfl (lv_at hl 2 rfl) ?_
            refine lv_bipush (v := 99) hx hb dX6_command_106 (by decide) ?_
            refine lv_icmp_ne (tgt := 118) hx hb dX6_command_108 (by decide) (fun c_6 => ?_) (fun c_6 => ?_)
            · refine lv_iload_n hx hb dX6_command_118 rfl (lv_at hl 2 rfl) ?_
              refine lv_bipush (v := 121) hx hb dX6_command_119 (by decide) ?_
              refine lv_icmp_ne (tgt := 131) hx hb dX6_command_121 (by decide) (fun c_7 => ?_) (fun c_7 => ?_)
              · refine lv_aload_n hx hb dX6_command_131 rfl (lv_at hl 3 rfl) ?_
                refine va_get (D := D) (ci := 10) (v := .int (zI (decide (zdN tx en 2 (he + 1) = 0)))) (C := RX6) (T := TX6) (N := 21) hx hb hts in_RX6 hown hK hP 0 rfl rfl 19 (by decide) (hts _ (List.mem_of_getElem? (i := 1) rfl)) (fun _ h9 => h9) rfl dX6_command_132 ?_
                refine lv_if_ne (tgt := 145) hx hb dX6_command_135 (by decide) (fun c_8 => ?_) (fun c_8 => ?_)
                · replace c_8 := zI1 c_8
                  exact zvret hend hx hb hr hlk hK hP hD hS dX6_command_145 rfl
                · replace c_8 := zI0 c_8
                  refine lv_aload_n hx hb dX6_command_138 rfl (lv_at hl 3 rfl) ?_
                  refine va_get (D := D) (ci := 10) (v := .int (zI false)) (C := RX6) (T := TX6) (N := 21) hx hb hts in_RX6 hown hK hP 0 rfl rfl 20 (by decide) (hts _ (List.mem_of_getElem? (i := 3) rfl)) (fun _ h9 => h9) rfl dX6_command_139 ?_
                  refine lv_if_ne (tgt := 146) hx hb dX6_command_142 (by decide) (fun c_9 => ?_) (fun c_9 => ?_)
                  · replace c_9 := zI1 c_9
                    exact absurd c_9 (by decide)
                  · replace c_9 := zI0 c_9
                    exact zvret hend hx hb hr hlk hK hP hD hS dX6_command_145 rfl
              · exact absurd c_7 (by decide)
            · exact absurd c_6 (by decide)
          · exact absurd c_5 (by decide)
        · replace c_4 := zI1 c_4
          exact absurd c_4 (by decide)
    · replace c_2 := zI1 c_2
      exact absurd c_2 (by decide)
  · replace c_1 := zI0 c_1
    exact absurd c_1 (by decide)

abbrev rmX6_command_p108 : Room := { frames := 3, cells := 0, slots := 0, locals := 66 }
set_option maxHeartbeats 4000000 in
set_option maxRecDepth 100000 in
theorem c_X6_command_p108 {G : zG} (hg : zGN G) (l : Launch) (D : va_G) (cy : Nat → ClassId) (x9 : Nat) (th : Int32) (ch : Nat) (era : Int32) (why : Int32) (det : Int32) (cau : Int32) (sv : Bool) (rj : Bool) (v9 : Nat) (b9 : Nat) (s9 : Nat) (k9 : Nat) (p9 : Nat) (t9 : Nat) (n9 : Nat) (tn : Nat) (he : Nat) (en : Nat) (ln : Nat) (iw : Bool) (tx : Nat → Int32) (hhe : he ≤ 60) (hen : en ≤ 60) (hc : zqs tx en he = 108) : zM G D vwCl (zT cy) l yX6_command wsX6_command rmX6_command_p108 [.ref x9] [(x9, .inr (10, [.int th, .int (nI ch), .int era, .int why, .int det, .int cau, .int (zI sv), .int (zI rj), .ref v9, .ref b9, .ref s9, .ref k9, .ref p9, .ref t9, .ref n9, .int (nI tn), .int (nI he), .int (nI en), .int (nI ln), .int (zI iw), .int (zI false)])), (t9, .inl (cy 0, 60, .inl tx))] none [(x9, .inr (10, [.int th, .int (nI ch), .int era, .int why, .int det, .int cau, .int (zI sv), .int (zI rj), .ref v9, .ref b9, .ref s9, .ref k9, .ref p9, .ref t9, .ref n9, .int (nI tn), .int (nI ((he + 1) + zdN tx en 2 (he + 1))), .int (nI en), .int (nI ln), .int (zI (decide (zdN tx en 2 (he + 1) = 0))), .int (zI false)])), (t9, .inl (cy 0, 60, .inl tx))] := by
  refine zM_of (cc := cX6_command) (maxL := 5) (ret := none) (by decide) rfl (Nat.le_of_ble_eq_true rfl) ?_
  intro p e s m below meth c A Q hend hx hb hml hr hts hown hlk hG hK hP hD hA hS ls hl
  have hown : s.vm.findClass RX6 = some m.cls := hown
  have in_RX6 : ∀ w ∈ u_ws RX6 TX6 21, w ∈ wsX6_command := by decide +kernel
  have hl : lv_has ls 5 [(0, .ref x9)] := hl
  refine lv_aload_n hx hb dX6_command_0 rfl (lv_at hl 0 rfl) ?_
  refine zcV (As := []) (rest := []) [0, 1] 0 hg.1 ⟨hx, hb, hml, hown, hts⟩ (c_X6_sign hg l D cy x9 th ch era why det cau sv rj v9 b9 s9 k9 p9 t9 n9 tn he en ln iw false tx (by first | assumption | omega) (by first | assumption | omega)) (cwV 0 hts gX6_command_X6_sign rfl rfl rfl (by decide +kernel) ⟨Nat.le_of_ble_eq_true rfl, Nat.le_of_ble_eq_true rfl⟩) hG hK hP hD hS hA rfl rfl rfl rfl rfl rfl hl.1 rfl (Nat.le_of_ble_eq_true rfl) dX6_command_1 ⟨Nat.zero_le _, Nat.zero_le _⟩ (fun H locs hP hD hS => ?_)
  have hP : va_P D vwCl [(x9, .inr (10, [.int th, .int (nI ch), .int era, .int why, .int det, .int cau, .int (zI sv), .int (zI rj), .ref v9, .ref b9, .ref s9, .ref k9, .ref p9, .ref t9, .ref n9, .int (nI tn), .int (nI he), .int (nI en), .int (nI ln), .int (zI iw), .int (zI false)])), (t9, .inl (cy 0, 60, .inl tx))] H := hP
  have hD : va_D A [(x9, .inr (10, [.int th, .int (nI ch), .int era, .int why, .int det, .int cau, .int (zI sv), .int (zI rj), .ref v9, .ref b9, .ref s9, .ref k9, .ref p9, .ref t9, .ref n9, .int (nI tn), .int (nI he), .int (nI en), .int (nI ln), .int (zI iw), .int (zI false)])), (t9, .inl (cy 0, 60, .inl tx))] := hD
  refine z_top (y := 108) (hc) ?_
  refine lv_istore_n (lv' := [(1, .int 108), (0, .ref x9)]) hx hb dX6_command_4 rfl hl (by decide) rfl (fun ls hl => ?_)
  refine lv_iconst (v := 0) hx hb dX6_command_5 (by decide) ?_
  refine lv_istore_n (lv' := [(2, .int 0), (1, .int 108), (0, .ref x9)]) hx hb dX6_command_6 rfl hl (by decide) rfl (fun ls hl => ?_)
  refine lv_iconst (v := 0) hx hb dX6_command_7 (by decide) ?_
  refine lv_istore_n (lv' := [(3, .int 0), (2, .int 0), (1, .int 108), (0, .ref x9)]) hx hb dX6_command_8 rfl hl (by decide) rfl (fun ls hl => ?_)
  refine lv_aload_n hx hb dX6_command_9 rfl (lv_at hl 3 rfl) ?_
  refine lv_iload_n hx hb dX6_command_10 rfl (lv_at hl 2 rfl) ?_
  refine zcS (As := [.int 108]) (rest := [.ref x9]) [] hg.1 ⟨hx, hb, hml, hown, hts⟩ (c_X6_isNumbered hg l D cy 108) (va_cwS 1 hts gX6_command_X6_isNumbered rfl rfl rfl (by decide +kernel) ⟨Nat.le_of_ble_eq_true rfl, Nat.le_of_ble_eq_true rfl⟩) hG hK hP hD hS hA rfl rfl rfl  rfl hl.1 rfl (Nat.le_of_ble_eq_true rfl) dX6_command_11 ⟨Nat.zero_le _, Nat.zero_le _⟩ (fun H locs hP hD hS => ?_)
  have hP : va_P D vwCl [(x9, .inr (10, [.int th, .int (nI ch), .int era, .int why, .int det, .int cau, .int (zI sv), .int (zI rj), .ref v9, .ref b9, .ref s9, .ref k9, .ref p9, .ref t9, .ref n9, .int (nI tn), .int (nI he), .int (nI en), .int (nI ln), .int (zI iw), .int (zI false)])), (t9, .inl (cy 0, 60, .inl tx))] H := hP
  have hD : va_D A [(x9, .inr (10, [.int th, .int (nI ch), .int era, .int why, .int det, .int cau, .int (zI sv), .int (zI rj), .ref v9, .ref b9, .ref s9, .ref k9, .ref p9, .ref t9, .ref n9, .int (nI tn), .int (nI he), .int (nI en), .int (nI ln), .int (zI iw), .int (zI false)])), (t9, .inl (cy 0, 60, .inl tx))] := hD
  refine z_top (y := zI true) (rfl) ?_
  refine lv_if_ne (tgt := 46) hx hb dX6_command_14 (by decide) (fun c_1 => ?_) (fun c_1 => ?_)
  · replace c_1 := zI1 c_1
    refine lv_iconst (v := 0) hx hb dX6_command_46 (by decide) ?_
    refine z_top (y := zI false) rfl ?_
    refine va_put (D := D) (ci := 10) (v := .int (zI false)) (ty := .boolean) (C := RX6) (T := TX6) (N := 21) hx hb hts in_RX6 tyX6 tyX6_ok nmX6 hown hK hP hD hS 0 rfl rfl 19 (by decide) (hts _ (List.mem_of_getElem? (i := 1) rfl)) (fun _ h9 => h9) rfl (by decide +kernel) (zI_nar _) (zI_fit _) (Nat.le_of_ble_eq_true rfl) dX6_command_47 (fun H locs hP hD hS => ?_)
    have hP : va_P D vwCl [(x9, .inr (10, [.int th, .int (nI ch), .int era, .int why, .int det, .int cau, .int (zI sv), .int (zI rj), .ref v9, .ref b9, .ref s9, .ref k9, .ref p9, .ref t9, .ref n9, .int (nI tn), .int (nI he), .int (nI en), .int (nI ln), .int (zI false), .int (zI false)])), (t9, .inl (cy 0, 60, .inl tx))] H := hP
    have hD : va_D A [(x9, .inr (10, [.int th, .int (nI ch), .int era, .int why, .int det, .int cau, .int (zI sv), .int (zI rj), .ref v9, .ref b9, .ref s9, .ref k9, .ref p9, .ref t9, .ref n9, .int (nI tn), .int (nI he), .int (nI en), .int (nI ln), .int (zI false), .int (zI false)])), (t9, .inl (cy 0, 60, .inl tx))] := hD
    refine lv_aload_n hx hb dX6_command_50 rfl (lv_at hl 3 rfl) ?_
    refine va_get (D := D) (ci := 10) (v := .int (zI false)) (C := RX6) (T := TX6) (N := 21) hx hb hts in_RX6 hown hK hP 0 rfl rfl 19 (by decide) (hts _ (List.mem_of_getElem? (i := 1) rfl)) (fun _ h9 => h9) rfl dX6_command_51 ?_
    refine lv_if_eq (tgt := 58) hx hb dX6_command_54 (by decide) (fun c_2 => ?_) (fun c_2 => ?_)
    · replace c_2 := zI0 c_2
      refine lv_aload_n hx hb dX6_command_58 rfl (lv_at hl 3 rfl) ?_
      refine lv_dup hx hb dX6_command_59 rfl ?_
      refine va_get (D := D) (ci := 10) (v := .int (nI he)) (C := RX6) (T := TX6) (N := 21) hx hb hts in_RX6 hown hK hP 0 rfl rfl 16 (by decide) (hts _ (List.mem_of_getElem? (i := 2) rfl)) (fun _ h9 => h9) rfl dX6_command_60 ?_
      refine lv_iconst (v := 1) hx hb dX6_command_63 (by decide) ?_
      refine lv_iadd hx hb dX6_command_64 ?_
      refine z_top (y := nI (he + 1)) (nI_add he 1) ?_
      refine va_put (D := D) (ci := 10) (v := .int (nI (he + 1))) (ty := .int) (C := RX6) (T := TX6) (N := 21) hx hb hts in_RX6 tyX6 tyX6_ok nmX6 hown hK hP hD hS 0 rfl rfl 16 (by decide) (hts _ (List.mem_of_getElem? (i := 2) rfl)) (fun _ h9 => h9) rfl (by decide +kernel) rfl rfl (Nat.le_of_ble_eq_true rfl) dX6_command_65 (fun H locs hP hD hS => ?_)
      have hP : va_P D vwCl [(x9, .inr (10, [.int th, .int (nI ch), .int era, .int why, .int det, .int cau, .int (zI sv), .int (zI rj), .ref v9, .ref b9, .ref s9, .ref k9, .ref p9, .ref t9, .ref n9, .int (nI tn), .int (nI (he + 1)), .int (nI en), .int (nI ln), .int (zI false), .int (zI false)])), (t9, .inl (cy 0, 60, .inl tx))] H := hP
      have hD : va_D A [(x9, .inr (10, [.int th, .int (nI ch), .int era, .int why, .int det, .int cau, .int (zI sv), .int (zI rj), .ref v9, .ref b9, .ref s9, .ref k9, .ref p9, .ref t9, .ref n9, .int (nI tn), .int (nI (he + 1)), .int (nI en), .int (nI ln), .int (zI false), .int (zI false)])), (t9, .inl (cy 0, 60, .inl tx))] := hD
      refine lv_iload_n hx hb dX6_command_68 rfl (lv_at hl 2 rfl) ?_
      refine zcS (As := [.int 108]) (rest := []) [] hg.1 ⟨hx, hb, hml, hown, hts⟩ (c_X6_isNumbered hg l D cy 108) (va_cwS 1 hts gX6_command_X6_isNumbered rfl rfl rfl (by decide +kernel) ⟨Nat.le_of_ble_eq_true rfl, Nat.le_of_ble_eq_true rfl⟩) hG hK hP hD hS hA rfl rfl rfl  rfl hl.1 rfl (Nat.le_of_ble_eq_true rfl) dX6_command_69 ⟨Nat.zero_le _, Nat.zero_le _⟩ (fun H locs hP hD hS => ?_)
      have hP : va_P D vwCl [(x9, .inr (10, [.int th, .int (nI ch), .int era, .int why, .int det, .int cau, .int (zI sv), .int (zI rj), .ref v9, .ref b9, .ref s9, .ref k9, .ref p9, .ref t9, .ref n9, .int (nI tn), .int (nI (he + 1)), .int (nI en), .int (nI ln), .int (zI false), .int (zI false)])), (t9, .inl (cy 0, 60, .inl tx))] H := hP
      have hD : va_D A [(x9, .inr (10, [.int th, .int (nI ch), .int era, .int why, .int det, .int cau, .int (zI sv), .int (zI rj), .ref v9, .ref b9, .ref s9, .ref k9, .ref p9, .ref t9, .ref n9, .int (nI tn), .int (nI (he + 1)), .int (nI en), .int (nI ln), .int (zI false), .int (zI false)])), (t9, .inl (cy 0, 60, .inl tx))] := hD
      refine z_top (y := zI true) (rfl) ?_
      refine lv_if_eq (tgt := 81) hx hb dX6_command_72 (by decide) (fun c_3 => ?_) (fun c_3 => ?_)
      · replace c_3 := zI0 c_3
        exact absurd c_3 (by decide)
      · replace c_3 := zI1 c_3
        refine lv_aload_n hx hb dX6_command_75 rfl (lv_at hl 3 rfl) ?_
        refine lv_iconst (v := 2) hx hb dX6_command_76 (by decide) ?_
        refine z_top (y := nI 2) (rfl) ?_
        refine zcV (As := [.int (nI 2)]) (rest := []) [0, 1] 0 hg.1 ⟨hx, hb, hml, hown, hts⟩ (c_X6_digits hg l D cy x9 th ch era why det cau sv rj v9 b9 s9 k9 p9 t9 n9 tn (he + 1) en ln false tx 2 (by first | assumption | omega) (by first | assumption | omega) (by first | assumption | omega) (by first | assumption | omega)) (cwV 1 hts gX6_command_X6_digits rfl rfl rfl (by decide +kernel) ⟨Nat.le_of_ble_eq_true rfl, Nat.le_of_ble_eq_true rfl⟩) hG hK hP hD hS hA rfl rfl (Eq.trans (b := [x9, t9]) rfl rfl) rfl rfl rfl hl.1 rfl (Nat.le_of_ble_eq_true rfl) dX6_command_77 ⟨Nat.zero_le _, Nat.zero_le _⟩ (fun H locs hP hD hS => ?_)
        have hP : va_P D vwCl [(x9, .inr (10, [.int th, .int (nI ch), .int era, .int why, .int det, .int cau, .int (zI sv), .int (zI rj), .ref v9, .ref b9, .ref s9, .ref k9, .ref p9, .ref t9, .ref n9, .int (nI tn), .int (nI ((he + 1) + zdN tx en 2 (he + 1))), .int (nI en), .int (nI ln), .int (zI (decide (zdN tx en 2 (he + 1) = 0))), .int (zI false)])), (t9, .inl (cy 0, 60, .inl tx))] H := hP
        have hD : va_D A [(x9, .inr (10, [.int th, .int (nI ch), .int era, .int why, .int det, .int cau, .int (zI sv), .int (zI rj), .ref v9, .ref b9, .ref s9, .ref k9, .ref p9, .ref t9, .ref n9, .int (nI tn), .int (nI ((he + 1) + zdN tx en 2 (he + 1))), .int (nI en), .int (nI ln), .int (zI (decide (zdN tx en 2 (he + 1) = 0))), .int (zI false)])), (t9, .inl (cy 0, 60, .inl tx))] := hD
        refine lv_istore_n (lv' := [(2, .int (zdV tx en 2 (he + 1) 0)), (3, .int 0), (1, .int 108), (0, .ref x9)]) hx hb dX6_command_80 rfl hl (by decide) rfl (fun ls hl => ?_)
        refine lv_iload_n hx hb dX6_command_81 rfl (lv_at hl 2 rfl) ?_
        refine zcS (As := [.int 108]) (rest := []) [] hg.1 ⟨hx, hb, hml, hown, hts⟩ (c_X6_isDigit hg l D cy 108) (va_cwS 1 hts gX6_command_X6_isDigit rfl rfl rfl (by decide +kernel) ⟨Nat.le_of_ble_eq_true rfl, Nat.le_of_ble_eq_true rfl⟩) hG hK hP hD hS hA rfl rfl rfl  rfl hl.1 rfl (Nat.le_of_ble_eq_true rfl) dX6_command_82 ⟨Nat.zero_le _, Nat.zero_le _⟩ (fun H locs hP hD hS => ?_)
        have hP : va_P D vwCl [(x9, .inr (10, [.int th, .int (nI ch), .int era, .int why, .int det, .int cau, .int (zI sv), .int (zI rj), .ref v9, .ref b9, .ref s9, .ref k9, .ref p9, .ref t9, .ref n9, .int (nI tn), .int (nI ((he + 1) + zdN tx en 2 (he + 1))), .int (nI en), .int (nI ln), .int (zI (decide (zdN tx en 2 (he + 1) = 0))), .int (zI false)])), (t9, .inl (cy 0, 60, .inl tx))] H := hP
        have hD : va_D A [(x9, .inr (10, [.int th, .int (nI ch), .int era, .int why, .int det, .int cau, .int (zI sv), .int (zI rj), .ref v9, .ref b9, .ref s9, .ref k9, .ref p9, .ref t9, .ref n9, .int (nI tn), .int (nI ((he + 1) + zdN tx en 2 (he + 1))), .int (nI en), .int (nI ln), .int (zI (decide (zdN tx en 2 (he + 1) = 0))), .int (zI false)])), (t9, .inl (cy 0, 60, .inl tx))] := hD
        refine z_top (y := zI false) (rfl) ?_
        refine lv_if_eq (tgt := 94) hx hb dX6_command_85 (by decide) (fun c_4 => ?_) (fun c_4 => ?_)
        · replace c_4 := zI0 c_4
          refine lv_iload_n hx hb dX6_command_94 rfl (lv_at hl 2 rfl) ?_
          refine lv_bipush (v := 112) hx hb dX6_command_95 (by decide) ?_
          refine lv_icmp_ne (tgt := 105) hx hb dX6_command_97 (by decide) (fun c_5 => ?_) (fun c_5 => ?_)
          · refine lv_iload_n hx hb dX6_command_105 rfl (lv_at hl 2 rfl) ?_
            refine lv_bipush (v := 99) hx hb dX6_command_106 (by decide) ?_
            refine lv_icmp_ne (tgt := 118) hx hb dX6_command_108 (by decide) (fun c_6 => ?_) (fun c_6 => ?_)
            · refine lv_iload_n hx hb dX6_command_118 rfl (lv_at hl 2 rfl) ?_
              refine lv_bipush (v := 121) hx hb dX6_command_119 (by decide) ?_
              refine lv_icmp_ne (tgt := 131) hx hb dX6_command_121 (by decide) (fun c_7 => ?_) (fun c_7 => ?_)
              · refine lv_aload_n hx hb dX6_command_131 rfl (lv_at hl 3 rfl) ?_
                refine va_get (D := D) (ci := 10) (v := .int (zI (decide (zdN tx en 2 (he + 1) = 0)))) (C := RX6) (T := TX6) (N := 21) hx hb hts in_RX6 hown hK hP 0 rfl rfl 19 (by decide) (hts _ (List.mem_of_getElem? (i := 1) rfl)) (fun _ h9 => h9) rfl dX6_command_132 ?_
                refine lv_if_ne (tgt := 145) hx hb dX6_command_135 (by decide) (fun c_8 => ?_) (fun c_8 => ?_)
                · replace c_8 := zI1 c_8
                  exact zvret hend hx hb hr hlk hK hP hD hS dX6_command_145 rfl
                · replace c_8 := zI0 c_8
                  refine lv_aload_n hx hb dX6_command_138 rfl (lv_at hl 3 rfl) ?_
                  refine va_get (D := D) (ci := 10) (v := .int (zI false)) (C := RX6) (T := TX6) (N := 21) hx hb hts in_RX6 hown hK hP 0 rfl rfl 20 (by decide) (hts _ (List.mem_of_getElem? (i := 3) rfl)) (fun _ h9 => h9) rfl dX6_command_139 ?_
                  refine lv_if_ne (tgt := 146) hx hb dX6_command_142 (by decide) (fun c_9 => ?_) (fun c_9 => ?_)
                  · replace c_9 := zI1 c_9
                    exact absurd c_9 (by decide)
                  · replace c_9 := zI0 c_9
                    exact zvret hend hx hb hr hlk hK hP hD hS dX6_command_145 rfl
              · exact absurd c_7 (by decide)
            · exact absurd c_6 (by decide)
          · exact absurd c_5 (by decide)
        · replace c_4 := zI1 c_4
          exact absurd c_4 (by decide)
    · replace c_2 := zI1 c_2
      exact absurd c_2 (by decide)
  · replace c_1 := zI0 c_1
    exact absurd c_1 (by decide)

abbrev rmX6_command_p103 : Room := { frames := 3, cells := 0, slots := 0, locals := 66 }
set_option maxHeartbeats 4000000 in
set_option maxRecDepth 100000 in
theorem c_X6_command_p103 {G : zG} (hg : zGN G) (l : Launch) (D : va_G) (cy : Nat → ClassId) (x9 : Nat) (th : Int32) (ch : Nat) (era : Int32) (why : Int32) (det : Int32) (cau : Int32) (sv : Bool) (rj : Bool) (v9 : Nat) (b9 : Nat) (s9 : Nat) (k9 : Nat) (p9 : Nat) (t9 : Nat) (n9 : Nat) (tn : Nat) (he : Nat) (en : Nat) (ln : Nat) (iw : Bool) (tx : Nat → Int32) (hhe : he ≤ 60) (hen : en ≤ 60) (hc : zqs tx en he = 103) : zM G D vwCl (zT cy) l yX6_command wsX6_command rmX6_command_p103 [.ref x9] [(x9, .inr (10, [.int th, .int (nI ch), .int era, .int why, .int det, .int cau, .int (zI sv), .int (zI rj), .ref v9, .ref b9, .ref s9, .ref k9, .ref p9, .ref t9, .ref n9, .int (nI tn), .int (nI he), .int (nI en), .int (nI ln), .int (zI iw), .int (zI false)])), (t9, .inl (cy 0, 60, .inl tx))] none [(x9, .inr (10, [.int th, .int (nI ch), .int era, .int why, .int det, .int cau, .int (zI sv), .int (zI rj), .ref v9, .ref b9, .ref s9, .ref k9, .ref p9, .ref t9, .ref n9, .int (nI tn), .int (nI ((he + 1) + zdN tx en 2 (he + 1))), .int (nI en), .int (nI ln), .int (zI (decide (zdN tx en 2 (he + 1) = 0))), .int (zI false)])), (t9, .inl (cy 0, 60, .inl tx))] := by
  refine zM_of (cc := cX6_command) (maxL := 5) (ret := none) (by decide) rfl (Nat.le_of_ble_eq_true rfl) ?_
  intro p e s m below meth c A Q hend hx hb hml hr hts hown hlk hG hK hP hD hA hS ls hl
  have hown : s.vm.findClass RX6 = some m.cls := hown
  have in_RX6 : ∀ w ∈ u_ws RX6 TX6 21, w ∈ wsX6_command := by decide +kernel
  have hl : lv_has ls 5 [(0, .ref x9)] := hl
  refine lv_aload_n hx hb dX6_command_0 rfl (lv_at hl 0 rfl) ?_
  refine zcV (As := []) (rest := []) [0, 1] 0 hg.1 ⟨hx, hb, hml, hown, hts⟩ (c_X6_sign hg l D cy x9 th ch era why det cau sv rj v9 b9 s9 k9 p9 t9 n9 tn he en ln iw false tx (by first | assumption | omega) (by first | assumption | omega)) (cwV 0 hts gX6_command_X6_sign rfl rfl rfl (by decide +kernel) ⟨Nat.le_of_ble_eq_true rfl, Nat.le_of_ble_eq_true rfl⟩) hG hK hP hD hS hA rfl rfl rfl rfl rfl rfl hl.1 rfl (Nat.le_of_ble_eq_true rfl) dX6_command_1 ⟨Nat.zero_le _, Nat.zero_le _⟩ (fun H locs hP hD hS => ?_)
  have hP : va_P D vwCl [(x9, .inr (10, [.int th, .int (nI ch), .int era, .int why, .int det, .int cau, .int (zI sv), .int (zI rj), .ref v9, .ref b9, .ref s9, .ref k9, .ref p9, .ref t9, .ref n9, .int (nI tn), .int (nI he), .int (nI en), .int (nI ln), .int (zI iw), .int (zI false)])), (t9, .inl (cy 0, 60, .inl tx))] H := hP
  have hD : va_D A [(x9, .inr (10, [.int th, .int (nI ch), .int era, .int why, .int det, .int cau, .int (zI sv), .int (zI rj), .ref v9, .ref b9, .ref s9, .ref k9, .ref p9, .ref t9, .ref n9, .int (nI tn), .int (nI he), .int (nI en), .int (nI ln), .int (zI iw), .int (zI false)])), (t9, .inl (cy 0, 60, .inl tx))] := hD
  refine z_top (y := 103) (hc) ?_
  refine lv_istore_n (lv' := [(1, .int 103), (0, .ref x9)]) hx hb dX6_command_4 rfl hl (by decide) rfl (fun ls hl => ?_)
  refine lv_iconst (v := 0) hx hb dX6_command_5 (by decide) ?_
  refine lv_istore_n (lv' := [(2, .int 0), (1, .int 103), (0, .ref x9)]) hx hb dX6_command_6 rfl hl (by decide) rfl (fun ls hl => ?_)
  refine lv_iconst (v := 0) hx hb dX6_command_7 (by decide) ?_
  refine lv_istore_n (lv' := [(3, .int 0), (2, .int 0), (1, .int 103), (0, .ref x9)]) hx hb dX6_command_8 rfl hl (by decide) rfl (fun ls hl => ?_)
  refine lv_aload_n hx hb dX6_command_9 rfl (lv_at hl 3 rfl) ?_
  refine lv_iload_n hx hb dX6_command_10 rfl (lv_at hl 2 rfl) ?_
  refine zcS (As := [.int 103]) (rest := [.ref x9]) [] hg.1 ⟨hx, hb, hml, hown, hts⟩ (c_X6_isNumbered hg l D cy 103) (va_cwS 1 hts gX6_command_X6_isNumbered rfl rfl rfl (by decide +kernel) ⟨Nat.le_of_ble_eq_true rfl, Nat.le_of_ble_eq_true rfl⟩) hG hK hP hD hS hA rfl rfl rfl  rfl hl.1 rfl (Nat.le_of_ble_eq_true rfl) dX6_command_11 ⟨Nat.zero_le _, Nat.zero_le _⟩ (fun H locs hP hD hS => ?_)
  have hP : va_P D vwCl [(x9, .inr (10, [.int th, .int (nI ch), .int era, .int why, .int det, .int cau, .int (zI sv), .int (zI rj), .ref v9, .ref b9, .ref s9, .ref k9, .ref p9, .ref t9, .ref n9, .int (nI tn), .int (nI he), .int (nI en), .int (nI ln), .int (zI iw), .int (zI false)])), (t9, .inl (cy 0, 60, .inl tx))] H := hP
  have hD : va_D A [(x9, .inr (10, [.int th, .int (nI ch), .int era, .int why, .int det, .int cau, .int (zI sv), .int (zI rj), .ref v9, .ref b9, .ref s9, .ref k9, .ref p9, .ref t9, .ref n9, .int (nI tn), .int (nI he), .int (nI en), .int (nI ln), .int (zI iw), .int (zI false)])), (t9, .inl (cy 0, 60, .inl tx))] := hD
  refine z_top (y := zI true) (rfl) ?_
  refine lv_if_ne (tgt := 46) hx hb dX6_command_14 (by decide) (fun c_1 => ?_) (fun c_1 => ?_)
  · replace c_1 := zI1 c_1
    refine lv_iconst (v := 0) hx hb dX6_command_46 (by decide) ?_
    refine z_top (y := zI false) rfl ?_
    refine va_put (D := D) (ci := 10) (v := .int (zI false)) (ty := .boolean) (C := RX6) (T := TX6) (N := 21) hx hb hts in_RX6 tyX6 tyX6_ok nmX6 hown hK hP hD hS 0 rfl rfl 19 (by decide) (hts _ (List.mem_of_getElem? (i := 1) rfl)) (fun _ h9 => h9) rfl (by decide +kernel) (zI_nar _) (zI_fit _) (Nat.le_of_ble_eq_true rfl) dX6_command_47 (fun H locs hP hD hS => ?_)
    have hP : va_P D vwCl [(x9, .inr (10, [.int th, .int (nI ch), .int era, .int why, .int det, .int cau, .int (zI sv), .int (zI rj), .ref v9, .ref b9, .ref s9, .ref k9, .ref p9, .ref t9, .ref n9, .int (nI tn), .int (nI he), .int (nI en), .int (nI ln), .int (zI false), .int (zI false)])), (t9, .inl (cy 0, 60, .inl tx))] H := hP
    have hD : va_D A [(x9, .inr (10, [.int th, .int (nI ch), .int era, .int why, .int det, .int cau, .int (zI sv), .int (zI rj), .ref v9, .ref b9, .ref s9, .ref k9, .ref p9, .ref t9, .ref n9, .int (nI tn), .int (nI he), .int (nI en), .int (nI ln), .int (zI false), .int (zI false)])), (t9, .inl (cy 0, 60, .inl tx))] := hD
    refine lv_aload_n hx hb dX6_command_50 rfl (lv_at hl 3 rfl) ?_
    refine va_get (D := D) (ci := 10) (v := .int (zI false)) (C := RX6) (T := TX6) (N := 21) hx hb hts in_RX6 hown hK hP 0 rfl rfl 19 (by decide) (hts _ (List.mem_of_getElem? (i := 1) rfl)) (fun _ h9 => h9) rfl dX6_command_51 ?_
    refine lv_if_eq (tgt := 58) hx hb dX6_command_54 (by decide) (fun c_2 => ?_) (fun c_2 => ?_)
    · replace c_2 := zI0 c_2
      refine lv_aload_n hx hb dX6_command_58 rfl (lv_at hl 3 rfl) ?_
      refine lv_dup hx hb dX6_command_59 rfl ?_
      refine va_get (D := D) (ci := 10) (v := .int (nI he)) (C := RX6) (T := TX6) (N := 21) hx hb hts in_RX6 hown hK hP 0 rfl rfl 16 (by decide) (hts _ (List.mem_of_getElem? (i := 2) rfl)) (fun _ h9 => h9) rfl dX6_command_60 ?_
      refine lv_iconst (v := 1) hx hb dX6_command_63 (by decide) ?_
      refine lv_iadd hx hb dX6_command_64 ?_
      refine z_top (y := nI (he + 1)) (nI_add he 1) ?_
      refine va_put (D := D) (ci := 10) (v := .int (nI (he + 1))) (ty := .int) (C := RX6) (T := TX6) (N := 21) hx hb hts in_RX6 tyX6 tyX6_ok nmX6 hown hK hP hD hS 0 rfl rfl 16 (by decide) (hts _ (List.mem_of_getElem? (i := 2) rfl)) (fun _ h9 => h9) rfl (by decide +kernel) rfl rfl (Nat.le_of_ble_eq_true rfl) dX6_command_65 (fun H locs hP hD hS => ?_)
      have hP : va_P D vwCl [(x9, .inr (10, [.int th, .int (nI ch), .int era, .int why, .int det, .int cau, .int (zI sv), .int (zI rj), .ref v9, .ref b9, .ref s9, .ref k9, .ref p9, .ref t9, .ref n9, .int (nI tn), .int (nI (he + 1)), .int (nI en), .int (nI ln), .int (zI false), .int (zI false)])), (t9, .inl (cy 0, 60, .inl tx))] H := hP
      have hD : va_D A [(x9, .inr (10, [.int th, .int (nI ch), .int era, .int why, .int det, .int cau, .int (zI sv), .int (zI rj), .ref v9, .ref b9, .ref s9, .ref k9, .ref p9, .ref t9, .ref n9, .int (nI tn), .int (nI (he + 1)), .int (nI en), .int (nI ln), .int (zI false), .int (zI false)])), (t9, .inl (cy 0, 60, .inl tx))] := hD
      refine lv_iload_n hx hb dX6_command_68 rfl (lv_at hl 2 rfl) ?_
      refine zcS (As := [.int 103]) (rest := []) [] hg.1 ⟨hx, hb, hml, hown, hts⟩ (c_X6_isNumbered hg l D cy 103) (va_cwS 1 hts gX6_command_X6_isNumbered rfl rfl rfl (by decide +kernel) ⟨Nat.le_of_ble_eq_true rfl, Nat.le_of_ble_eq_true rfl⟩) hG hK hP hD hS hA rfl rfl rfl  rfl hl.1 rfl (Nat.le_of_ble_eq_true rfl) dX6_command_69 ⟨Nat.zero_le _, Nat.zero_le _⟩ (fun H locs hP hD hS => ?_)
      have hP : va_P D vwCl [(x9, .inr (10, [.int th, .int (nI ch), .int era, .int why, .int det, .int cau, .int (zI sv), .int (zI rj), .ref v9, .ref b9, .ref s9, .ref k9, .ref p9, .ref t9, .ref n9, .int (nI tn), .int (nI (he + 1)), .int (nI en), .int (nI ln), .int (zI false), .int (zI false)])), (t9, .inl (cy 0, 60, .inl tx))] H := hP
      have hD : va_D A [(x9, .inr (10, [.int th, .int (nI ch), .int era, .int why, .int det, .int cau, .int (zI sv), .int (zI rj), .ref v9, .ref b9, .ref s9, .ref k9, .ref p9, .ref t9, .ref n9, .int (nI tn), .int (nI (he + 1)), .int (nI en), .int (nI ln), .int (zI false), .int (zI false)])), (t9, .inl (cy 0, 60, .inl tx))] := hD
      refine z_top (y := zI true) (rfl) ?_
      refine lv_if_eq (tgt := 81) hx hb dX6_command_72 (by decide) (fun c_3 => ?_) (fun c_3 => ?_)
      · replace c_3 := zI0 c_3
        exact absurd c_3 (by decide)
      · replace c_3 := zI1 c_3
        refine lv_aload_n hx hb dX6_command_75 rfl (lv_at hl 3 rfl) ?_
        refine lv_iconst (v := 2) hx hb dX6_command_76 (by decide) ?_
        refine z_top (y := nI 2) (rfl) ?_
        refine zcV (As := [.int (nI 2)]) (rest := []) [0, 1] 0 hg.1 ⟨hx, hb, hml, hown, hts⟩ (c_X6_digits hg l D cy x9 th ch era why det cau sv rj v9 b9 s9 k9 p9 t9 n9 tn (he + 1) en ln false tx 2 (by first | assumption | omega) (by first | assumption | omega) (by first | assumption | omega) (by first | assumption | omega)) (cwV 1 hts gX6_command_X6_digits rfl rfl rfl (by decide +kernel) ⟨Nat.le_of_ble_eq_true rfl, Nat.le_of_ble_eq_true rfl⟩) hG hK hP hD hS hA rfl rfl (Eq.trans (b := [x9, t9]) rfl rfl) rfl rfl rfl hl.1 rfl (Nat.le_of_ble_eq_true rfl) dX6_command_77 ⟨Nat.zero_le _, Nat.zero_le _⟩ (fun H locs hP hD hS => ?_)
        have hP : va_P D vwCl [(x9, .inr (10, [.int th, .int (nI ch), .int era, .int why, .int det, .int cau, .int (zI sv), .int (zI rj), .ref v9, .ref b9, .ref s9, .ref k9, .ref p9, .ref t9, .ref n9, .int (nI tn), .int (nI ((he + 1) + zdN tx en 2 (he + 1))), .int (nI en), .int (nI ln), .int (zI (decide (zdN tx en 2 (he + 1) = 0))), .int (zI false)])), (t9, .inl (cy 0, 60, .inl tx))] H := hP
        have hD : va_D A [(x9, .inr (10, [.int th, .int (nI ch), .int era, .int why, .int det, .int cau, .int (zI sv), .int (zI rj), .ref v9, .ref b9, .ref s9, .ref k9, .ref p9, .ref t9, .ref n9, .int (nI tn), .int (nI ((he + 1) + zdN tx en 2 (he + 1))), .int (nI en), .int (nI ln), .int (zI (decide (zdN tx en 2 (he + 1) = 0))), .int (zI false)])), (t9, .inl (cy 0, 60, .inl tx))] := hD
        refine lv_istore_n (lv' := [(2, .int (zdV tx en 2 (he + 1) 0)), (3, .int 0), (1, .int 103), (0, .ref x9)]) hx hb dX6_command_80 rfl hl (by decide) rfl (fun ls hl => ?_)
        refine lv_iload_n hx hb dX6_command_81 rfl (lv_at hl 2 rfl) ?_
        refine zcS (As := [.int 103]) (rest := []) [] hg.1 ⟨hx, hb, hml, hown, hts⟩ (c_X6_isDigit hg l D cy 103) (va_cwS 1 hts gX6_command_X6_isDigit rfl rfl rfl (by decide +kernel) ⟨Nat.le_of_ble_eq_true rfl, Nat.le_of_ble_eq_true rfl⟩) hG hK hP hD hS hA rfl rfl rfl  rfl hl.1 rfl (Nat.le_of_ble_eq_true rfl) dX6_command_82 ⟨Nat.zero_le _, Nat.zero_le _⟩ (fun H locs hP hD hS => ?_)
        have hP : va_P D vwCl [(x9, .inr (10, [.int th, .int (nI ch), .int era, .int why, .int det, .int cau, .int (zI sv), .int (zI rj), .ref v9, .ref b9, .ref s9, .ref k9, .ref p9, .ref t9, .ref n9, .int (nI tn), .int (nI ((he + 1) + zdN tx en 2 (he + 1))), .int (nI en), .int (nI ln), .int (zI (decide (zdN tx en 2 (he + 1) = 0))), .int (zI false)])), (t9, .inl (cy 0, 60, .inl tx))] H := hP
        have hD : va_D A [(x9, .inr (10, [.int th, .int (nI ch), .int era, .int why, .int det, .int cau, .int (zI sv), .int (zI rj), .ref v9, .ref b9, .ref s9, .ref k9, .ref p9, .ref t9, .ref n9, .int (nI tn), .int (nI ((he + 1) + zdN tx en 2 (he + 1))), .int (nI en), .int (nI ln), .int (zI (decide (zdN tx en 2 (he + 1) = 0))), .int (zI false)])), (t9, .inl (cy 0, 60, .inl tx))] := hD
        refine z_top (y := zI false) (rfl) ?_
        refine lv_if_eq (tgt := 94) hx hb dX6_command_85 (by decide) (fun c_4 => ?_) (fun c_4 => ?_)
        · replace c_4 := zI0 c_4
          refine lv_iload_n hx hb dX6_command_94 rfl (lv_at hl 2 rfl) ?_
          refine lv_bipush (v := 112) hx hb dX6_command_95 (by decide) ?_
          refine lv_icmp_ne (tgt := 105) hx hb dX6_command_97 (by decide) (fun c_5 => ?_) (fun c_5 => ?_)
          · refine lv_iload_n hx hb dX6_command_105 rfl (lv_at hl 2 rfl) ?_
            refine lv_bipush (v := 99) hx hb dX6_command_106 (by decide) ?_
            refine lv_icmp_ne (tgt := 118) hx hb dX6_command_108 (by decide) (fun c_6 => ?_) (fun c_6 => ?_)
            · refine lv_iload_n hx hb dX6_command_118 rfl (lv_at hl 2 rfl) ?_
              refine lv_bipush (v := 121) hx hb dX6_command_119 (by decide) ?_
              refine lv_icmp_ne (tgt := 131) hx hb dX6_command_121 (by decide) (fun c_7 => ?_) (fun c_7 => ?_)
              · refine lv_aload_n hx hb dX6_command_131 rfl (lv_at hl 3 rfl) ?_
                refine va_get (D := D) (ci := 10) (v := .int (zI (decide (zdN tx en 2 (he + 1) = 0)))) (C := RX6) (T := TX6) (N := 21) hx hb hts in_RX6 hown hK hP 0 rfl rfl 19 (by decide) (hts _ (List.mem_of_getElem? (i := 1) rfl)) (fun _ h9 => h9) rfl dX6_command_132 ?_
                refine lv_if_ne (tgt := 145) hx hb dX6_command_135 (by decide) (fun c_8 => ?_) (fun c_8 => ?_)
                · replace c_8 := zI1 c_8
                  exact zvret hend hx hb hr hlk hK hP hD hS dX6_command_145 rfl
                · replace c_8 := zI0 c_8
                  refine lv_aload_n hx hb dX6_command_138 rfl (lv_at hl 3 rfl) ?_
                  refine va_get (D := D) (ci := 10) (v := .int (zI false)) (C := RX6) (T := TX6) (N := 21) hx hb hts in_RX6 hown hK hP 0 rfl rfl 20 (by decide) (hts _ (List.mem_of_getElem? (i := 3) rfl)) (fun _ h9 => h9) rfl dX6_command_139 ?_
                  refine lv_if_ne (tgt := 146) hx hb dX6_command_142 (by decide) (fun c_9 => ?_) (fun c_9 => ?_)
                  · replace c_9 := zI1 c_9
                    exact absurd c_9 (by decide)
                  · replace c_9 := zI0 c_9
                    exact zvret hend hx hb hr hlk hK hP hD hS dX6_command_145 rfl
              · exact absurd c_7 (by decide)
            · exact absurd c_6 (by decide)
          · exact absurd c_5 (by decide)
        · replace c_4 := zI1 c_4
          exact absurd c_4 (by decide)
    · replace c_2 := zI1 c_2
      exact absurd c_2 (by decide)
  · replace c_1 := zI0 c_1
    exact absurd c_1 (by decide)

abbrev rmX6_command_p107 : Room := { frames := 3, cells := 0, slots := 0, locals := 66 }
set_option maxHeartbeats 4000000 in
set_option maxRecDepth 100000 in
theorem c_X6_command_p107 {G : zG} (hg : zGN G) (l : Launch) (D : va_G) (cy : Nat → ClassId) (x9 : Nat) (th : Int32) (ch : Nat) (era : Int32) (why : Int32) (det : Int32) (cau : Int32) (sv : Bool) (rj : Bool) (v9 : Nat) (b9 : Nat) (s9 : Nat) (k9 : Nat) (p9 : Nat) (t9 : Nat) (n9 : Nat) (tn : Nat) (he : Nat) (en : Nat) (ln : Nat) (iw : Bool) (tx : Nat → Int32) (hhe : he ≤ 60) (hen : en ≤ 60) (hc : zqs tx en he = 107) : zM G D vwCl (zT cy) l yX6_command wsX6_command rmX6_command_p107 [.ref x9] [(x9, .inr (10, [.int th, .int (nI ch), .int era, .int why, .int det, .int cau, .int (zI sv), .int (zI rj), .ref v9, .ref b9, .ref s9, .ref k9, .ref p9, .ref t9, .ref n9, .int (nI tn), .int (nI he), .int (nI en), .int (nI ln), .int (zI iw), .int (zI false)])), (t9, .inl (cy 0, 60, .inl tx))] none [(x9, .inr (10, [.int th, .int (nI ch), .int era, .int why, .int det, .int cau, .int (zI sv), .int (zI rj), .ref v9, .ref b9, .ref s9, .ref k9, .ref p9, .ref t9, .ref n9, .int (nI tn), .int (nI ((he + 1) + zdN tx en 2 (he + 1))), .int (nI en), .int (nI ln), .int (zI (decide (zdN tx en 2 (he + 1) = 0))), .int (zI false)])), (t9, .inl (cy 0, 60, .inl tx))] := by
  refine zM_of (cc := cX6_command) (maxL := 5) (ret := none) (by decide) rfl (Nat.le_of_ble_eq_true rfl) ?_
  intro p e s m below meth c A Q hend hx hb hml hr hts hown hlk hG hK hP hD hA hS ls hl
  have hown : s.vm.findClass RX6 = some m.cls := hown
  have in_RX6 : ∀ w ∈ u_ws RX6 TX6 21, w ∈ wsX6_command := by decide +kernel
  have hl : lv_has ls 5 [(0, .ref x9)] := hl
  refine lv_aload_n hx hb dX6_command_0 rfl (lv_at hl 0 rfl) ?_
  refine zcV (As := []) (rest := []) [0, 1] 0 hg.1 ⟨hx, hb, hml, hown, hts⟩ (c_X6_sign hg l D cy x9 th ch era why det cau sv rj v9 b9 s9 k9 p9 t9 n9 tn he en ln iw false tx (by first | assumption | omega) (by first | assumption | omega)) (cwV 0 hts gX6_command_X6_sign rfl rfl rfl (by decide +kernel) ⟨Nat.le_of_ble_eq_true rfl, Nat.le_of_ble_eq_true rfl⟩) hG hK hP hD hS hA rfl rfl rfl rfl rfl rfl hl.1 rfl (Nat.le_of_ble_eq_true rfl) dX6_command_1 ⟨Nat.zero_le _, Nat.zero_le _⟩ (fun H locs hP hD hS => ?_)
  have hP : va_P D vwCl [(x9, .inr (10, [.int th, .int (nI ch), .int era, .int why, .int det, .int cau, .int (zI sv), .int (zI rj), .ref v9, .ref b9, .ref s9, .ref k9, .ref p9, .ref t9, .ref n9, .int (nI tn), .int (nI he), .int (nI en), .int (nI ln), .int (zI iw), .int (zI false)])), (t9, .inl (cy 0, 60, .inl tx))] H := hP
  have hD : va_D A [(x9, .inr (10, [.int th, .int (nI ch), .int era, .int why, .int det, .int cau, .int (zI sv), .int (zI rj), .ref v9, .ref b9, .ref s9, .ref k9, .ref p9, .ref t9, .ref n9, .int (nI tn), .int (nI he), .int (nI en), .int (nI ln), .int (zI iw), .int (zI false)])), (t9, .inl (cy 0, 60, .inl tx))] := hD
  refine z_top (y := 107) (hc) ?_
  refine lv_istore_n (lv' := [(1, .int 107), (0, .ref x9)]) hx hb dX6_command_4 rfl hl (by decide) rfl (fun ls hl => ?_)
  refine lv_iconst (v := 0) hx hb dX6_command_5 (by decide) ?_
  refine lv_istore_n (lv' := [(2, .int 0), (1, .int 107), (0, .ref x9)]) hx hb dX6_command_6 rfl hl (by decide) rfl (fun ls hl => ?_)
  refine lv_iconst (v := 0) hx hb dX6_command_7 (by decide) ?_
  refine lv_istore_n (lv' := [(3, .int 0), (2, .int 0), (1, .int 107), (0, .ref x9)]) hx hb dX6_command_8 rfl hl (by decide) rfl (fun ls hl => ?_)
  refine lv_aload_n hx hb dX6_command_9 rfl (lv_at hl 3 rfl) ?_
  refine lv_iload_n hx hb dX6_command_10 rfl (lv_at hl 2 rfl) ?_
  refine zcS (As := [.int 107]) (rest := [.ref x9]) [] hg.1 ⟨hx, hb, hml, hown, hts⟩ (c_X6_isNumbered hg l D cy 107) (va_cwS 1 hts gX6_command_X6_isNumbered rfl rfl rfl (by decide +kernel) ⟨Nat.le_of_ble_eq_true rfl, Nat.le_of_ble_eq_true rfl⟩) hG hK hP hD hS hA rfl rfl rfl  rfl hl.1 rfl (Nat.le_of_ble_eq_true rfl) dX6_command_11 ⟨Nat.zero_le _, Nat.zero_le _⟩ (fun H locs hP hD hS => ?_)
  have hP : va_P D vwCl [(x9, .inr (10, [.int th, .int (nI ch), .int era, .int why, .int det, .int cau, .int (zI sv), .int (zI rj), .ref v9, .ref b9, .ref s9, .ref k9, .ref p9, .ref t9, .ref n9, .int (nI tn), .int (nI he), .int (nI en), .int (nI ln), .int (zI iw), .int (zI false)])), (t9, .inl (cy 0, 60, .inl tx))] H := hP
  have hD : va_D A [(x9, .inr (10, [.int th, .int (nI ch), .int era, .int why, .int det, .int cau, .int (zI sv), .int (zI rj), .ref v9, .ref b9, .ref s9, .ref k9, .ref p9, .ref t9, .ref n9, .int (nI tn), .int (nI he), .int (nI en), .int (nI ln), .int (zI iw), .int (zI false)])), (t9, .inl (cy 0, 60, .inl tx))] := hD
  refine z_top (y := zI true) (rfl) ?_
  refine lv_if_ne (tgt := 46) hx hb dX6_command_14 (by decide) (fun c_1 => ?_) (fun c_1 => ?_)
  · replace c_1 := zI1 c_1
    refine lv_iconst (v := 0) hx hb dX6_command_46 (by decide) ?_
    refine z_top (y := zI false) rfl ?_
    refine va_put (D := D) (ci := 10) (v := .int (zI false)) (ty := .boolean) (C := RX6) (T := TX6) (N := 21) hx hb hts in_RX6 tyX6 tyX6_ok nmX6 hown hK hP hD hS 0 rfl rfl 19 (by decide) (hts _ (List.mem_of_getElem? (i := 1) rfl)) (fun _ h9 => h9) rfl (by decide +kernel) (zI_nar _) (zI_fit _) (Nat.le_of_ble_eq_true rfl) dX6_command_47 (fun H locs hP hD hS => ?_)
    have hP : va_P D vwCl [(x9, .inr (10, [.int th, .int (nI ch), .int era, .int why, .int det, .int cau, .int (zI sv), .int (zI rj), .ref v9, .ref b9, .ref s9, .ref k9, .ref p9, .ref t9, .ref n9, .int (nI tn), .int (nI he), .int (nI en), .int (nI ln), .int (zI false), .int (zI false)])), (t9, .inl (cy 0, 60, .inl tx))] H := hP
    have hD : va_D A [(x9, .inr (10, [.int th, .int (nI ch), .int era, .int why, .int det, .int cau, .int (zI sv), .int (zI rj), .ref v9, .ref b9, .ref s9, .ref k9, .ref p9, .ref t9, .ref n9, .int (nI tn), .int (nI he), .int (nI en), .int (nI ln), .int (zI false), .int (zI false)])), (t9, .inl (cy 0, 60, .inl tx))] := hD
    refine lv_aload_n hx hb dX6_command_50 rfl (lv_at hl 3 rfl) ?_
    refine va_get (D := D) (ci := 10) (v := .int (zI false)) (C := RX6) (T := TX6) (N := 21) hx hb hts in_RX6 hown hK hP 0 rfl rfl 19 (by decide) (hts _ (List.mem_of_getElem? (i := 1) rfl)) (fun _ h9 => h9) rfl dX6_command_51 ?_
    refine lv_if_eq (tgt := 58) hx hb dX6_command_54 (by decide) (fun c_2 => ?_) (fun c_2 => ?_)
    · replace c_2 := zI0 c_2
      refine lv_aload_n hx hb dX6_command_58 rfl (lv_at hl 3 rfl) ?_
      refine lv_dup hx hb dX6_command_59 rfl ?_
      refine va_get (D := D) (ci := 10) (v := .int (nI he)) (C := RX6) (T := TX6) (N := 21) hx hb hts in_RX6 hown hK hP 0 rfl rfl 16 (by decide) (hts _ (List.mem_of_getElem? (i := 2) rfl)) (fun _ h9 => h9) rfl dX6_command_60 ?_
      refine lv_iconst (v := 1) hx hb dX6_command_63 (by decide) ?_
      refine lv_iadd hx hb dX6_command_64 ?_
      refine z_top (y := nI (he + 1)) (nI_add he 1) ?_
      refine va_put (D := D) (ci := 10) (v := .int (nI (he + 1))) (ty := .int) (C := RX6) (T := TX6) (N := 21) hx hb hts in_RX6 tyX6 tyX6_ok nmX6 hown hK hP hD hS 0 rfl rfl 16 (by decide) (hts _ (List.mem_of_getElem? (i := 2) rfl)) (fun _ h9 => h9) rfl (by decide +kernel) rfl rfl (Nat.le_of_ble_eq_true rfl) dX6_command_65 (fun H locs hP hD hS => ?_)
      have hP : va_P D vwCl [(x9, .inr (10, [.int th, .int (nI ch), .int era, .int why, .int det, .int cau, .int (zI sv), .int (zI rj), .ref v9, .ref b9, .ref s9, .ref k9, .ref p9, .ref t9, .ref n9, .int (nI tn), .int (nI (he + 1)), .int (nI en), .int (nI ln), .int (zI false), .int (zI false)])), (t9, .inl (cy 0, 60, .inl tx))] H := hP
      have hD : va_D A [(x9, .inr (10, [.int th, .int (nI ch), .int era, .int why, .int det, .int cau, .int (zI sv), .int (zI rj), .ref v9, .ref b9, .ref s9, .ref k9, .ref p9, .ref t9, .ref n9, .int (nI tn), .int (nI (he + 1)), .int (nI en), .int (nI ln), .int (zI false), .int (zI false)])), (t9, .inl (cy 0, 60, .inl tx))] := hD
      refine lv_iload_n hx hb dX6_command_68 rfl (lv_at hl 2 rfl) ?_
      refine zcS (As := [.int 107]) (rest := []) [] hg.1 ⟨hx, hb, hml, hown, hts⟩ (c_X6_isNumbered hg l D cy 107) (va_cwS 1 hts gX6_command_X6_isNumbered rfl rfl rfl (by decide +kernel) ⟨Nat.le_of_ble_eq_true rfl, Nat.le_of_ble_eq_true rfl⟩) hG hK hP hD hS hA rfl rfl rfl  rfl hl.1 rfl (Nat.le_of_ble_eq_true rfl) dX6_command_69 ⟨Nat.zero_le _, Nat.zero_le _⟩ (fun H locs hP hD hS => ?_)
      have hP : va_P D vwCl [(x9, .inr (10, [.int th, .int (nI ch), .int era, .int why, .int det, .int cau, .int (zI sv), .int (zI rj), .ref v9, .ref b9, .ref s9, .ref k9, .ref p9, .ref t9, .ref n9, .int (nI tn), .int (nI (he + 1)), .int (nI en), .int (nI ln), .int (zI false), .int (zI false)])), (t9, .inl (cy 0, 60, .inl tx))] H := hP
      have hD : va_D A [(x9, .inr (10, [.int th, .int (nI ch), .int era, .int why, .int det, .int cau, .int (zI sv), .int (zI rj), .ref v9, .ref b9, .ref s9, .ref k9, .ref p9, .ref t9, .ref n9, .int (nI tn), .int (nI (he + 1)), .int (nI en), .int (nI ln), .int (zI false), .int (zI false)])), (t9, .inl (cy 0, 60, .inl tx))] := hD
      refine z_top (y := zI true) (rfl) ?_
      refine lv_if_eq (tgt := 81) hx hb dX6_command_72 (by decide) (fun c_3 => ?_) (fun c_3 => ?_)
      · replace c_3 := zI0 c_3
        exact absurd c_3 (by decide)
      · replace c_3 := zI1 c_3
        refine lv_aload_n hx hb dX6_command_75 rfl (lv_at hl 3 rfl) ?_
        refine lv_iconst (v := 2) hx hb dX6_command_76 (by decide) ?_
        refine z_top (y := nI 2) (rfl) ?_
        refine zcV (As := [.int (nI 2)]) (rest := []) [0, 1] 0 hg.1 ⟨hx, hb, hml, hown, hts⟩ (c_X6_digits hg l D cy x9 th ch era why det cau sv rj v9 b9 s9 k9 p9 t9 n9 tn (he + 1) en ln false tx 2 (by first | assumption | omega) (by first | assumption | omega) (by first | assumption | omega) (by first | assumption | omega)) (cwV 1 hts gX6_command_X6_digits rfl rfl rfl (by decide +kernel) ⟨Nat.le_of_ble_eq_true rfl, Nat.le_of_ble_eq_true rfl⟩) hG hK hP hD hS hA rfl rfl (Eq.trans (b := [x9, t9]) rfl rfl) rfl rfl rfl hl.1 rfl (Nat.le_of_ble_eq_true rfl) dX6_command_77 ⟨Nat.zero_le _, Nat.zero_le _⟩ (fun H locs hP hD hS => ?_)
        have hP : va_P D vwCl [(x9, .inr (10, [.int th, .int (nI ch), .int era, .int why, .int det, .int cau, .int (zI sv), .int (zI rj), .ref v9, .ref b9, .ref s9, .ref k9, .ref p9, .ref t9, .ref n9, .int (nI tn), .int (nI ((he + 1) + zdN tx en 2 (he + 1))), .int (nI en), .int (nI ln), .int (zI (decide (zdN tx en 2 (he + 1) = 0))), .int (zI false)])), (t9, .inl (cy 0, 60, .inl tx))] H := hP
        have hD : va_D A [(x9, .inr (10, [.int th, .int (nI ch), .int era, .int why, .int det, .int cau, .int (zI sv), .int (zI rj), .ref v9, .ref b9, .ref s9, .ref k9, .ref p9, .ref t9, .ref n9, .int (nI tn), .int (nI ((he + 1) + zdN tx en 2 (he + 1))), .int (nI en), .int (nI ln), .int (zI (decide (zdN tx en 2 (he + 1) = 0))), .int (zI false)])), (t9, .inl (cy 0, 60, .inl tx))] := hD
        refine lv_istore_n (lv' := [(2, .int (zdV tx en 2 (he + 1) 0)), (3, .int 0), (1, .int 107), (0, .ref x9)]) hx hb dX6_command_80 rfl hl (by decide) rfl (fun ls hl => ?_)
        refine lv_iload_n hx hb dX6_command_81 rfl (lv_at hl 2 rfl) ?_
        refine zcS (As := [.int 107]) (rest := []) [] hg.1 ⟨hx, hb, hml, hown, hts⟩ (c_X6_isDigit hg l D cy 107) (va_cwS 1 hts gX6_command_X6_isDigit rfl rfl rfl (by decide +kernel) ⟨Nat.le_of_ble_eq_true rfl, Nat.le_of_ble_eq_true rfl⟩) hG hK hP hD hS hA rfl rfl rfl  rfl hl.1 rfl (Nat.le_of_ble_eq_true rfl) dX6_command_82 ⟨Nat.zero_le _, Nat.zero_le _⟩ (fun H locs hP hD hS => ?_)
        have hP : va_P D vwCl [(x9, .inr (10, [.int th, .int (nI ch), .int era, .int why, .int det, .int cau, .int (zI sv), .int (zI rj), .ref v9, .ref b9, .ref s9, .ref k9, .ref p9, .ref t9, .ref n9, .int (nI tn), .int (nI ((he + 1) + zdN tx en 2 (he + 1))), .int (nI en), .int (nI ln), .int (zI (decide (zdN tx en 2 (he + 1) = 0))), .int (zI false)])), (t9, .inl (cy 0, 60, .inl tx))] H := hP
        have hD : va_D A [(x9, .inr (10, [.int th, .int (nI ch), .int era, .int why, .int det, .int cau, .int (zI sv), .int (zI rj), .ref v9, .ref b9, .ref s9, .ref k9, .ref p9, .ref t9, .ref n9, .int (nI tn), .int (nI ((he + 1) + zdN tx en 2 (he + 1))), .int (nI en), .int (nI ln), .int (zI (decide (zdN tx en 2 (he + 1) = 0))), .int (zI false)])), (t9, .inl (cy 0, 60, .inl tx))] := hD
        refine z_top (y := zI false) (rfl) ?_
        refine lv_if_eq (tgt := 94) hx hb dX6_command_85 (by decide) (fun c_4 => ?_) (fun c_4 => ?_)
        · replace c_4 := zI0 c_4
          refine lv_iload_n hx hb dX6_command_94 rfl (lv_at hl 2 rfl) ?_
          refine lv_bipush (v := 112) hx hb dX6_command_95 (by decide) ?_
          refine lv_icmp_ne (tgt := 105) hx hb dX6_command_97 (by decide) (fun c_5 => ?_) (fun c_5 => ?_)
          · refine lv_iload_n hx hb dX6_command_105 rfl (lv_at hl 2 rfl) ?_
            refine lv_bipush (v := 99) hx hb dX6_command_106 (by decide) ?_
            refine lv_icmp_ne (tgt := 118) hx hb dX6_command_108 (by decide) (fun c_6 => ?_) (fun c_6 => ?_)
            · refine lv_iload_n hx hb dX6_command_118 rfl (lv_at hl 2 rfl) ?_
              refine lv_bipush (v := 121) hx hb dX6_command_119 (by decide) ?_
              refine lv_icmp_ne (tgt := 131) hx hb dX6_command_121 (by decide) (fun c_7 => ?_) (fun c_7 => ?_)
              · refine lv_aload_n hx hb dX6_command_131 rfl (lv_at hl 3 rfl) ?_
                refine va_get (D := D) (ci := 10) (v := .int (zI (decide (zdN tx en 2 (he + 1) = 0)))) (C := RX6) (T := TX6) (N := 21) hx hb hts in_RX6 hown hK hP 0 rfl rfl 19 (by decide) (hts _ (List.mem_of_getElem? (i := 1) rfl)) (fun _ h9 => h9) rfl dX6_command_132 ?_
                refine lv_if_ne (tgt := 145) hx hb dX6_command_135 (by decide) (fun c_8 => ?_) (fun c_8 => ?_)
                · replace c_8 := zI1 c_8
                  exact zvret hend hx hb hr hlk hK hP hD hS dX6_command_145 rfl
                · replace c_8 := zI0 c_8
                  refine lv_aload_n hx hb dX6_command_138 rfl (lv_at hl 3 rfl) ?_
                  refine va_get (D := D) (ci := 10) (v := .int (zI false)) (C := RX6) (T := TX6) (N := 21) hx hb hts in_RX6 hown hK hP 0 rfl rfl 20 (by decide) (hts _ (List.mem_of_getElem? (i := 3) rfl)) (fun _ h9 => h9) rfl dX6_command_139 ?_
                  refine lv_if_ne (tgt := 146) hx hb dX6_command_142 (by decide) (fun c_9 => ?_) (fun c_9 => ?_)
                  · replace c_9 := zI1 c_9
                    exact absurd c_9 (by decide)
                  · replace c_9 := zI0 c_9
                    exact zvret hend hx hb hr hlk hK hP hD hS dX6_command_145 rfl
              · exact absurd c_7 (by decide)
            · exact absurd c_6 (by decide)
          · exact absurd c_5 (by decide)
        · replace c_4 := zI1 c_4
          exact absurd c_4 (by decide)
    · replace c_2 := zI1 c_2
      exact absurd c_2 (by decide)
  · replace c_1 := zI0 c_1
    exact absurd c_1 (by decide)

abbrev rmX6_command_p121 : Room := { frames := 3, cells := 0, slots := 0, locals := 66 }
set_option maxHeartbeats 4000000 in
set_option maxRecDepth 100000 in
theorem c_X6_command_p121 {G : zG} (hg : zGN G) (l : Launch) (D : va_G) (cy : Nat → ClassId) (x9 : Nat) (th : Int32) (ch : Nat) (era : Int32) (why : Int32) (det : Int32) (cau : Int32) (sv : Bool) (rj : Bool) (v9 : Nat) (b9 : Nat) (s9 : Nat) (k9 : Nat) (p9 : Nat) (t9 : Nat) (n9 : Nat) (tn : Nat) (he : Nat) (en : Nat) (ln : Nat) (iw : Bool) (tx : Nat → Int32) (hhe : he ≤ 60) (hen : en ≤ 60) (hc : zqs tx en he = 121) : zM G D vwCl (zT cy) l yX6_command wsX6_command rmX6_command_p121 [.ref x9] [(x9, .inr (10, [.int th, .int (nI ch), .int era, .int why, .int det, .int cau, .int (zI sv), .int (zI rj), .ref v9, .ref b9, .ref s9, .ref k9, .ref p9, .ref t9, .ref n9, .int (nI tn), .int (nI he), .int (nI en), .int (nI ln), .int (zI iw), .int (zI false)])), (t9, .inl (cy 0, 60, .inl tx))] none [(x9, .inr (10, [.int th, .int (nI ch), .int era, .int why, .int det, .int cau, .int (zI sv), .int (zI rj), .ref v9, .ref b9, .ref s9, .ref k9, .ref p9, .ref t9, .ref n9, .int (nI tn), .int (nI (zbH tx en ((he + 1) + zdN tx en 1 (he + 1)) (decide (zdN tx en 1 (he + 1) = 0)) 61)), .int (nI en), .int (nI ln), .int (zI (zbW tx en ((he + 1) + zdN tx en 1 (he + 1)) (decide (zdN tx en 1 (he + 1) = 0)) 61)), .int (zI false)])), (t9, .inl (cy 0, 60, .inl tx))] := by
  refine zM_of (cc := cX6_command) (maxL := 5) (ret := none) (by decide) rfl (Nat.le_of_ble_eq_true rfl) ?_
  intro p e s m below meth c A Q hend hx hb hml hr hts hown hlk hG hK hP hD hA hS ls hl
  have hown : s.vm.findClass RX6 = some m.cls := hown
  have in_RX6 : ∀ w ∈ u_ws RX6 TX6 21, w ∈ wsX6_command := by decide +kernel
  have hl : lv_has ls 5 [(0, .ref x9)] := hl
  refine lv_aload_n hx hb dX6_command_0 rfl (lv_at hl 0 rfl) ?_
  refine zcV (As := []) (rest := []) [0, 1] 0 hg.1 ⟨hx, hb, hml, hown, hts⟩ (c_X6_sign hg l D cy x9 th ch era why det cau sv rj v9 b9 s9 k9 p9 t9 n9 tn he en ln iw false tx (by first | assumption | omega) (by first | assumption | omega)) (cwV 0 hts gX6_command_X6_sign rfl rfl rfl (by decide +kernel) ⟨Nat.le_of_ble_eq_true rfl, Nat.le_of_ble_eq_true rfl⟩) hG hK hP hD hS hA rfl rfl rfl rfl rfl rfl hl.1 rfl (Nat.le_of_ble_eq_true rfl) dX6_command_1 ⟨Nat.zero_le _, Nat.zero_le _⟩ (fun H locs hP hD hS => ?_)
  have hP : va_P D vwCl [(x9, .inr (10, [.int th, .int (nI ch), .int era, .int why, .int det, .int cau, .int (zI sv), .int (zI rj), .ref v9, .ref b9, .ref s9, .ref k9, .ref p9, .ref t9, .ref n9, .int (nI tn), .int (nI he), .int (nI en), .int (nI ln), .int (zI iw), .int (zI false)])), (t9, .inl (cy 0, 60, .inl tx))] H := hP
  have hD : va_D A [(x9, .inr (10, [.int th, .int (nI ch), .int era, .int why, .int det, .int cau, .int (zI sv), .int (zI rj), .ref v9, .ref b9, .ref s9, .ref k9, .ref p9, .ref t9, .ref n9, .int (nI tn), .int (nI he), .int (nI en), .int (nI ln), .int (zI iw), .int (zI false)])), (t9, .inl (cy 0, 60, .inl tx))] := hD
  refine z_top (y := 121) (hc) ?_
  refine lv_istore_n (lv' := [(1, .int 121), (0, .ref x9)]) hx hb dX6_command_4 rfl hl (by decide) rfl (fun ls hl => ?_)
  refine lv_iconst (v := 0) hx hb dX6_command_5 (by decide) ?_
  refine lv_istore_n (lv' := [(2, .int 0), (1, .int 121), (0, .ref x9)]) hx hb dX6_command_6 rfl hl (by decide) rfl (fun ls hl => ?_)
  refine lv_iconst (v := 0) hx hb dX6_command_7 (by decide) ?_
  refine lv_istore_n (lv' := [(3, .int 0), (2, .int 0), (1, .int 121), (0, .ref x9)]) hx hb dX6_command_8 rfl hl (by decide) rfl (fun ls hl => ?_)
  refine lv_aload_n hx hb dX6_command_9 rfl (lv_at hl 3 rfl) ?_
  refine lv_iload_n hx hb dX6_command_10 rfl (lv_at hl 2 rfl) ?_
  refine zcS (As := [.int 121]) (rest := [.ref x9]) [] hg.1 ⟨hx, hb, hml, hown, hts⟩ (c_X6_isNumbered hg l D cy 121) (va_cwS 1 hts gX6_command_X6_isNumbered rfl rfl rfl (by decide +kernel) ⟨Nat.le_of_ble_eq_true rfl, Nat.le_of_ble_eq_true rfl⟩) hG hK hP hD hS hA rfl rfl rfl  rfl hl.1 rfl (Nat.le_of_ble_eq_true rfl) dX6_command_11 ⟨Nat.zero_le _, Nat.zero_le _⟩ (fun H locs hP hD hS => ?_)
  have hP : va_P D vwCl [(x9, .inr (10, [.int th, .int (nI ch), .int era, .int why, .int det, .int cau, .int (zI sv), .int (zI rj), .ref v9, .ref b9, .ref s9, .ref k9, .ref p9, .ref t9, .ref n9, .int (nI tn), .int (nI he), .int (nI en), .int (nI ln), .int (zI iw), .int (zI false)])), (t9, .inl (cy 0, 60, .inl tx))] H := hP
  have hD : va_D A [(x9, .inr (10, [.int th, .int (nI ch), .int era, .int why, .int det, .int cau, .int (zI sv), .int (zI rj), .ref v9, .ref b9, .ref s9, .ref k9, .ref p9, .ref t9, .ref n9, .int (nI tn), .int (nI he), .int (nI en), .int (nI ln), .int (zI iw), .int (zI false)])), (t9, .inl (cy 0, 60, .inl tx))] := hD
  refine z_top (y := zI false) (rfl) ?_
  refine lv_if_ne (tgt := 46) hx hb dX6_command_14 (by decide) (fun c_1 => ?_) (fun c_1 => ?_)
  · replace c_1 := zI1 c_1
    exact absurd c_1 (by decide)
  · replace c_1 := zI0 c_1
    refine lv_iload_n hx hb dX6_command_17 rfl (lv_at hl 2 rfl) ?_
    refine zcS (As := [.int 121]) (rest := [.ref x9]) [] hg.1 ⟨hx, hb, hml, hown, hts⟩ (c_X6_isDigit hg l D cy 121) (va_cwS 1 hts gX6_command_X6_isDigit rfl rfl rfl (by decide +kernel) ⟨Nat.le_of_ble_eq_true rfl, Nat.le_of_ble_eq_true rfl⟩) hG hK hP hD hS hA rfl rfl rfl  rfl hl.1 rfl (Nat.le_of_ble_eq_true rfl) dX6_command_18 ⟨Nat.zero_le _, Nat.zero_le _⟩ (fun H locs hP hD hS => ?_)
    have hP : va_P D vwCl [(x9, .inr (10, [.int th, .int (nI ch), .int era, .int why, .int det, .int cau, .int (zI sv), .int (zI rj), .ref v9, .ref b9, .ref s9, .ref k9, .ref p9, .ref t9, .ref n9, .int (nI tn), .int (nI he), .int (nI en), .int (nI ln), .int (zI iw), .int (zI false)])), (t9, .inl (cy 0, 60, .inl tx))] H := hP
    have hD : va_D A [(x9, .inr (10, [.int th, .int (nI ch), .int era, .int why, .int det, .int cau, .int (zI sv), .int (zI rj), .ref v9, .ref b9, .ref s9, .ref k9, .ref p9, .ref t9, .ref n9, .int (nI tn), .int (nI he), .int (nI en), .int (nI ln), .int (zI iw), .int (zI false)])), (t9, .inl (cy 0, 60, .inl tx))] := hD
    refine z_top (y := zI true) (rfl) ?_
    refine lv_if_ne (tgt := 46) hx hb dX6_command_21 (by decide) (fun c_2 => ?_) (fun c_2 => ?_)
    · replace c_2 := zI1 c_2
      refine lv_iconst (v := 0) hx hb dX6_command_46 (by decide) ?_
      refine z_top (y := zI false) rfl ?_
      refine va_put (D := D) (ci := 10) (v := .int (zI false)) (ty := .boolean) (C := RX6) (T := TX6) (N := 21) hx hb hts in_RX6 tyX6 tyX6_ok nmX6 hown hK hP hD hS 0 rfl rfl 19 (by decide) (hts _ (List.mem_of_getElem? (i := 1) rfl)) (fun _ h9 => h9) rfl (by decide +kernel) (zI_nar _) (zI_fit _) (Nat.le_of_ble_eq_true rfl) dX6_command_47 (fun H locs hP hD hS => ?_)
      have hP : va_P D vwCl [(x9, .inr (10, [.int th, .int (nI ch), .int era, .int why, .int det, .int cau, .int (zI sv), .int (zI rj), .ref v9, .ref b9, .ref s9, .ref k9, .ref p9, .ref t9, .ref n9, .int (nI tn), .int (nI he), .int (nI en), .int (nI ln), .int (zI false), .int (zI false)])), (t9, .inl (cy 0, 60, .inl tx))] H := hP
      have hD : va_D A [(x9, .inr (10, [.int th, .int (nI ch), .int era, .int why, .int det, .int cau, .int (zI sv), .int (zI rj), .ref v9, .ref b9, .ref s9, .ref k9, .ref p9, .ref t9, .ref n9, .int (nI tn), .int (nI he), .int (nI en), .int (nI ln), .int (zI false), .int (zI false)])), (t9, .inl (cy 0, 60, .inl tx))] := hD
      refine lv_aload_n hx hb dX6_command_50 rfl (lv_at hl 3 rfl) ?_
      refine va_get (D := D) (ci := 10) (v := .int (zI false)) (C := RX6) (T := TX6) (N := 21) hx hb hts in_RX6 hown hK hP 0 rfl rfl 19 (by decide) (hts _ (List.mem_of_getElem? (i := 1) rfl)) (fun _ h9 => h9) rfl dX6_command_51 ?_
      refine lv_if_eq (tgt := 58) hx hb dX6_command_54 (by decide) (fun c_3 => ?_) (fun c_3 => ?_)
      · replace c_3 := zI0 c_3
        refine lv_aload_n hx hb dX6_command_58 rfl (lv_at hl 3 rfl) ?_
        refine lv_dup hx hb dX6_command_59 rfl ?_
        refine va_get (D := D) (ci := 10) (v := .int (nI he)) (C := RX6) (T := TX6) (N := 21) hx hb hts in_RX6 hown hK hP 0 rfl rfl 16 (by decide) (hts _ (List.mem_of_getElem? (i := 2) rfl)) (fun _ h9 => h9) rfl dX6_command_60 ?_
        refine lv_iconst (v := 1) hx hb dX6_command_63 (by decide) ?_
        refine lv_iadd hx hb dX6_command_64 ?_
        refine z_top (y := nI (he + 1)) (nI_add he 1) ?_
        refine va_put (D := D) (ci := 10) (v := .int (nI (he + 1))) (ty := .int) (C := RX6) (T := TX6) (N := 21) hx hb hts in_RX6 tyX6 tyX6_ok nmX6 hown hK hP hD hS 0 rfl rfl 16 (by decide) (hts _ (List.mem_of_getElem? (i := 2) rfl)) (fun _ h9 => h9) rfl (by decide +kernel) rfl rfl (Nat.le_of_ble_eq_true rfl) dX6_command_65 (fun H locs hP hD hS => ?_)
        have hP : va_P D vwCl [(x9, .inr (10, [.int th, .int (nI ch), .int era, .int why, .int det, .int cau, .int (zI sv), .int (zI rj), .ref v9, .ref b9, .ref s9, .ref k9, .ref p9, .ref t9, .ref n9, .int (nI tn), .int (nI (he + 1)), .int (nI en), .int (nI ln), .int (zI false), .int (zI false)])), (t9, .inl (cy 0, 60, .inl tx))] H := hP
        have hD : va_D A [(x9, .inr (10, [.int th, .int (nI ch), .int era, .int why, .int det, .int cau, .int (zI sv), .int (zI rj), .ref v9, .ref b9, .ref s9, .ref k9, .ref p9, .ref t9, .ref n9, .int (nI tn), .int (nI (he + 1)), .int (nI en), .int (nI ln), .int (zI false), .int (zI false)])), (t9, .inl (cy 0, 60, .inl tx))] := hD
        refine lv_iload_n hx hb dX6_command_68 rfl (lv_at hl 2 rfl) ?_
        refine zcS (As := [.int 121]) (rest := []) [] hg.1 ⟨hx, hb, hml, hown, hts⟩ (c_X6_isNumbered hg l D cy 121) (va_cwS 1 hts gX6_command_X6_isNumbered rfl rfl rfl (by decide +kernel) ⟨Nat.le_of_ble_eq_true rfl, Nat.le_of_ble_eq_true rfl⟩) hG hK hP hD hS hA rfl rfl rfl  rfl hl.1 rfl (Nat.le_of_ble_eq_true rfl) dX6_command_69 ⟨Nat.zero_le _, Nat.zero_le _⟩ (fun H locs hP hD hS => ?_)
        have hP : va_P D vwCl [(x9, .inr (10, [.int th, .int (nI ch), .int era, .int why, .int det, .int cau, .int (zI sv), .int (zI rj), .ref v9, .ref b9, .ref s9, .ref k9, .ref p9, .ref t9, .ref n9, .int (nI tn), .int (nI (he + 1)), .int (nI en), .int (nI ln), .int (zI false), .int (zI false)])), (t9, .inl (cy 0, 60, .inl tx))] H := hP
        have hD : va_D A [(x9, .inr (10, [.int th, .int (nI ch), .int era, .int why, .int det, .int cau, .int (zI sv), .int (zI rj), .ref v9, .ref b9, .ref s9, .ref k9, .ref p9, .ref t9, .ref n9, .int (nI tn), .int (nI (he + 1)), .int (nI en), .int (nI ln), .int (zI false), .int (zI false)])), (t9, .inl (cy 0, 60, .inl tx))] := hD
        refine z_top (y := zI false) (rfl) ?_
        refine lv_if_eq (tgt := 81) hx hb dX6_command_72 (by decide) (fun c_4 => ?_) (fun c_4 => ?_)
        · replace c_4 := zI0 c_4
          refine lv_iload_n hx hb dX6_command_81 rfl (lv_at hl 2 rfl) ?_
          refine zcS (As := [.int 121]) (rest := []) [] hg.1 ⟨hx, hb, hml, hown, hts⟩ (c_X6_isDigit hg l D cy 121) (va_cwS 1 hts gX6_command_X6_isDigit rfl rfl rfl (by decide +kernel) ⟨Nat.le_of_ble_eq_true rfl, Nat.le_of_ble_eq_true rfl⟩) hG hK hP hD hS hA rfl rfl rfl  rfl hl.1 rfl (Nat.le_of_ble_eq_true rfl) dX6_command_82 ⟨Nat.zero_le _, Nat.zero_le _⟩ (fun H locs hP hD hS => ?_)
          have hP : va_P D vwCl [(x9, .inr (10, [.int th, .int (nI ch), .int era, .int why, .int det, .int cau, .int (zI sv), .int (zI rj), .ref v9, .ref b9, .ref s9, .ref k9, .ref p9, .ref t9, .ref n9, .int (nI tn), .int (nI (he + 1)), .int (nI en), .int (nI ln), .int (zI false), .int (zI false)])), (t9, .inl (cy 0, 60, .inl tx))] H := hP
          have hD : va_D A [(x9, .inr (10, [.int th, .int (nI ch), .int era, .int why, .int det, .int cau, .int (zI sv), .int (zI rj), .ref v9, .ref b9, .ref s9, .ref k9, .ref p9, .ref t9, .ref n9, .int (nI tn), .int (nI (he + 1)), .int (nI en), .int (nI ln), .int (zI false), .int (zI false)])), (t9, .inl (cy 0, 60, .inl tx))] := hD
          refine z_top (y := zI true) (rfl) ?_
          refine lv_if_eq (tgt := 94) hx hb dX6_command_85 (by decide) (fun c_5 => ?_) (fun c_5 => ?_)
          · replace c_5 := zI0 c_5
            exact absurd c_5 (by decide)
          · replace c_5 := zI1 c_5
            refine lv_aload_n hx hb dX6_command_88 rfl (lv_at hl 3 rfl) ?_
            refine lv_iconst (v := 1) hx hb dX6_command_89 (by decide) ?_
            refine z_top (y := nI 1) (rfl) ?_
            refine zcV (As := [.int (nI 1)]) (rest := []) [0, 1] 0 hg.1 ⟨hx, hb, hml, hown, hts⟩ (c_X6_digits hg l D cy x9 th ch era why det cau sv rj v9 b9 s9 k9 p9 t9 n9 tn (he + 1) en ln false tx 1 (by first | assumption | omega) (by first | assumption | omega) (by first | assumption | omega) (by first | assumption | omega)) (cwV 1 hts gX6_command_X6_digits rfl rfl rfl (by decide +kernel) ⟨Nat.le_of_ble_eq_true rfl, Nat.le_of_ble_eq_true rfl⟩) hG hK hP hD hS hA rfl rfl (Eq.trans (b := [x9, t9]) rfl rfl) rfl rfl rfl hl.1 rfl (Nat.le_of_ble_eq_true rfl) dX6_command_90 ⟨Nat.zero_le _, Nat.zero_le _⟩ (fun H locs hP hD hS => ?_)
            have hP : va_P D vwCl [(x9, .inr (10, [.int th, .int (nI ch), .int era, .int why, .int det, .int cau, .int (zI sv), .int (zI rj), .ref v9, .ref b9, .ref s9, .ref k9, .ref p9, .ref t9, .ref n9, .int (nI tn), .int (nI ((he + 1) + zdN tx en 1 (he + 1))), .int (nI en), .int (nI ln), .int (zI (decide (zdN tx en 1 (he + 1) = 0))), .int (zI false)])), (t9, .inl (cy 0, 60, .inl tx))] H := hP
            have hD : va_D A [(x9, .inr (10, [.int th, .int (nI ch), .int era, .int why, .int det, .int cau, .int (zI sv), .int (zI rj), .ref v9, .ref b9, .ref s9, .ref k9, .ref p9, .ref t9, .ref n9, .int (nI tn), .int (nI ((he + 1) + zdN tx en 1 (he + 1))), .int (nI en), .int (nI ln), .int (zI (decide (zdN tx en 1 (he + 1) = 0))), .int (zI false)])), (t9, .inl (cy 0, 60, .inl tx))] := hD
            refine lv_istore_n (lv' := [(2, .int (zdV tx en 1 (he + 1) 0)), (3, .int 0), (1, .int 121), (0, .ref x9)]) hx hb dX6_command_93 rfl hl (by decide) rfl (fun ls hl => ?_)
            refine lv_iload_n hx hb dX6_command_94 rfl (lv_at hl 2 rfl) ?_
            refine lv_bipush (v := 112) hx hb dX6_command_95 (by decide) ?_
            refine lv_icmp_ne (tgt := 105) hx hb dX6_command_97 (by decide) (fun c_6 => ?_) (fun c_6 => ?_)
            · refine lv_iload_n hx hb dX6_command_105 rfl (lv_at hl 2 rfl) ?_
              refine lv_bipush (v := 99) hx hb dX6_command_106 (by decide) ?_
              refine lv_icmp_ne (tgt := 118) hx hb dX6_command_108 (by decide) (fun c_7 => ?_) (fun c_7 => ?_)
              · refine lv_iload_n hx hb dX6_command_118 rfl (lv_at hl 2 rfl) ?_
                refine lv_bipush (v := 121) hx hb dX6_command_119 (by decide) ?_
                refine lv_icmp_ne (tgt := 131) hx hb dX6_command_121 (by decide) (fun c_8 => ?_) (fun c_8 => ?_)
                · exact absurd c_8 (by decide)
                · refine lv_aload_n hx hb dX6_command_124 rfl (lv_at hl 3 rfl) ?_
                  refine lv_bipush (v := 61) hx hb dX6_command_125 (by decide) ?_
                  refine zcV (As := [.int 61]) (rest := []) [0, 1] 0 hg.1 ⟨hx, hb, hml, hown, hts⟩ (c_X6_behind hg l D cy x9 th ch era why det cau sv rj v9 b9 s9 k9 p9 t9 n9 tn ((he + 1) + zdN tx en 1 (he + 1)) en ln (decide (zdN tx en 1 (he + 1) = 0)) false tx 61 (by have := zdN_le tx en 1 (he + 1); omega) (by first | assumption | omega) (by have := zdN_le tx en 1 (he + 1); omega)) (cwV 1 hts gX6_command_X6_behind rfl rfl rfl (by decide +kernel) ⟨Nat.le_of_ble_eq_true rfl, Nat.le_of_ble_eq_true rfl⟩) hG hK hP hD hS hA rfl rfl (Eq.trans (b := [x9, t9]) rfl rfl) rfl rfl rfl hl.1 rfl (Nat.le_of_ble_eq_true rfl) dX6_command_127 ⟨Nat.zero_le _, Nat.zero_le _⟩ (fun H locs hP hD hS => ?_)
                  have hP : va_P D vwCl [(x9, .inr (10, [.int th, .int (nI ch), .int era, .int why, .int det, .int cau, .int (zI sv), .int (zI rj), .ref v9, .ref b9, .ref s9, .ref k9, .ref p9, .ref t9, .ref n9, .int (nI tn), .int (nI (zbH tx en ((he + 1) + zdN tx en 1 (he + 1)) (decide (zdN tx en 1 (he + 1) = 0)) 61)), .int (nI en), .int (nI ln), .int (zI (zbW tx en ((he + 1) + zdN tx en 1 (he + 1)) (decide (zdN tx en 1 (he + 1) = 0)) 61)), .int (zI false)])), (t9, .inl (cy 0, 60, .inl tx))] H := hP
                  have hD : va_D A [(x9, .inr (10, [.int th, .int (nI ch), .int era, .int why, .int det, .int cau, .int (zI sv), .int (zI rj), .ref v9, .ref b9, .ref s9, .ref k9, .ref p9, .ref t9, .ref n9, .int (nI tn), .int (nI (zbH tx en ((he + 1) + zdN tx en 1 (he + 1)) (decide (zdN tx en 1 (he + 1) = 0)) 61)), .int (nI en), .int (nI ln), .int (zI (zbW tx en ((he + 1) + zdN tx en 1 (he + 1)) (decide (zdN tx en 1 (he + 1) = 0)) 61)), .int (zI false)])), (t9, .inl (cy 0, 60, .inl tx))] := hD
                  refine lv_istore_n (lv' := [(3, .int (zbV tx en ((he + 1) + zdN tx en 1 (he + 1)) (decide (zdN tx en 1 (he + 1) = 0)) 61)), (2, .int (zdV tx en 1 (he + 1) 0)), (1, .int 121), (0, .ref x9)]) hx hb dX6_command_130 rfl hl (by decide) rfl (fun ls hl => ?_)
                  refine lv_aload_n hx hb dX6_command_131 rfl (lv_at hl 3 rfl) ?_
                  refine va_get (D := D) (ci := 10) (v := .int (zI (zbW tx en ((he + 1) + zdN tx en 1 (he + 1)) (decide (zdN tx en 1 (he + 1) = 0)) 61))) (C := RX6) (T := TX6) (N := 21) hx hb hts in_RX6 hown hK hP 0 rfl rfl 19 (by decide) (hts _ (List.mem_of_getElem? (i := 1) rfl)) (fun _ h9 => h9) rfl dX6_command_132 ?_
                  refine lv_if_ne (tgt := 145) hx hb dX6_command_135 (by decide) (fun c_9 => ?_) (fun c_9 => ?_)
                  · replace c_9 := zI1 c_9
                    exact zvret hend hx hb hr hlk hK hP hD hS dX6_command_145 rfl
                  · replace c_9 := zI0 c_9
                    refine lv_aload_n hx hb dX6_command_138 rfl (lv_at hl 3 rfl) ?_
                    refine va_get (D := D) (ci := 10) (v := .int (zI false)) (C := RX6) (T := TX6) (N := 21) hx hb hts in_RX6 hown hK hP 0 rfl rfl 20 (by decide) (hts _ (List.mem_of_getElem? (i := 3) rfl)) (fun _ h9 => h9) rfl dX6_command_139 ?_
                    refine lv_if_ne (tgt := 146) hx hb dX6_command_142 (by decide) (fun c_10 => ?_) (fun c_10 => ?_)
                    · replace c_10 := zI1 c_10
                      exact absurd c_10 (by decide)
                    · replace c_10 := zI0 c_10
                      exact zvret hend hx hb hr hlk hK hP hD hS dX6_command_145 rfl
              · exact absurd c_7 (by decide)
            · exact absurd c_6 (by decide)
        · replace c_4 := zI1 c_4
          exact absurd c_4 (by decide)
      · replace c_3 := zI1 c_3
        exact absurd c_3 (by decide)
    · replace c_2 := zI0 c_2
      exact absurd c_2 (by decide)

abbrev rmX6_command_p102 : Room := { frames := 3, cells := 0, slots := 0, locals := 66 }
set_option maxHeartbeats 4000000 in
set_option maxRecDepth 100000 in
theorem c_X6_command_p102 {G : zG} (hg : zGN G) (l : Launch) (D : va_G) (cy : Nat → ClassId) (x9 : Nat) (th : Int32) (ch : Nat) (era : Int32) (why : Int32) (det : Int32) (cau : Int32) (sv : Bool) (rj : Bool) (v9 : Nat) (b9 : Nat) (s9 : Nat) (k9 : Nat) (p9 : Nat) (t9 : Nat) (n9 : Nat) (tn : Nat) (he : Nat) (en : Nat) (ln : Nat) (iw : Bool) (tx : Nat → Int32) (hhe : he ≤ 60) (hen : en ≤ 60) (hc : zqs tx en he = 102) : zM G D vwCl (zT cy) l yX6_command wsX6_command rmX6_command_p102 [.ref x9] [(x9, .inr (10, [.int th, .int (nI ch), .int era, .int why, .int det, .int cau, .int (zI sv), .int (zI rj), .ref v9, .ref b9, .ref s9, .ref k9, .ref p9, .ref t9, .ref n9, .int (nI tn), .int (nI he), .int (nI en), .int (nI ln), .int (zI iw), .int (zI false)])), (t9, .inl (cy 0, 60, .inl tx))] none [(x9, .inr (10, [.int th, .int (nI ch), .int era, .int why, .int det, .int cau, .int (zI sv), .int (zI rj), .ref v9, .ref b9, .ref s9, .ref k9, .ref p9, .ref t9, .ref n9, .int (nI tn), .int (nI ((he + 1) + zdN tx en 1 (he + 1))), .int (nI en), .int (nI ln), .int (zI (decide (zdN tx en 1 (he + 1) = 0))), .int (zI false)])), (t9, .inl (cy 0, 60, .inl tx))] := by
  refine zM_of (cc := cX6_command) (maxL := 5) (ret := none) (by decide) rfl (Nat.le_of_ble_eq_true rfl) ?_
  intro p e s m below meth c A Q hend hx hb hml hr hts hown hlk hG hK hP hD hA hS ls hl
  have hown : s.vm.findClass RX6 = some m.cls := hown
  have in_RX6 : ∀ w ∈ u_ws RX6 TX6 21, w ∈ wsX6_command := by decide +kernel
  have hl : lv_has ls 5 [(0, .ref x9)] := hl
  refine lv_aload_n hx hb dX6_command_0 rfl (lv_at hl 0 rfl) ?_
  refine zcV (As := []) (rest := []) [0, 1] 0 hg.1 ⟨hx, hb, hml, hown, hts⟩ (c_X6_sign hg l D cy x9 th ch era why det cau sv rj v9 b9 s9 k9 p9 t9 n9 tn he en ln iw false tx (by first | assumption | omega) (by first | assumption | omega)) (cwV 0 hts gX6_command_X6_sign rfl rfl rfl (by decide +kernel) ⟨Nat.le_of_ble_eq_true rfl, Nat.le_of_ble_eq_true rfl⟩) hG hK hP hD hS hA rfl rfl rfl rfl rfl rfl hl.1 rfl (Nat.le_of_ble_eq_true rfl) dX6_command_1 ⟨Nat.zero_le _, Nat.zero_le _⟩ (fun H locs hP hD hS => ?_)
  have hP : va_P D vwCl [(x9, .inr (10, [.int th, .int (nI ch), .int era, .int why, .int det, .int cau, .int (zI sv), .int (zI rj), .ref v9, .ref b9, .ref s9, .ref k9, .ref p9, .ref t9, .ref n9, .int (nI tn), .int (nI he), .int (nI en), .int (nI ln), .int (zI iw), .int (zI false)])), (t9, .inl (cy 0, 60, .inl tx))] H := hP
  have hD : va_D A [(x9, .inr (10, [.int th, .int (nI ch), .int era, .int why, .int det, .int cau, .int (zI sv), .int (zI rj), .ref v9, .ref b9, .ref s9, .ref k9, .ref p9, .ref t9, .ref n9, .int (nI tn), .int (nI he), .int (nI en), .int (nI ln), .int (zI iw), .int (zI false)])), (t9, .inl (cy 0, 60, .inl tx))] := hD
  refine z_top (y := 102) (hc) ?_
  refine lv_istore_n (lv' := [(1, .int 102), (0, .ref x9)]) hx hb dX6_command_4 rfl hl (by decide) rfl (fun ls hl => ?_)
  refine lv_iconst (v := 0) hx hb dX6_command_5 (by decide) ?_
  refine lv_istore_n (lv' := [(2, .int 0), (1, .int 102), (0, .ref x9)]) hx hb dX6_command_6 rfl hl (by decide) rfl (fun ls hl => ?_)
  refine lv_iconst (v := 0) hx hb dX6_command_7 (by decide) ?_
  refine lv_istore_n (lv' := [(3, .int 0), (2, .int 0), (1, .int 102), (0, .ref x9)]) hx hb dX6_command_8 rfl hl (by decide) rfl (fun ls hl => ?_)
  refine lv_aload_n hx hb dX6_command_9 rfl (lv_at hl 3 rfl) ?_
  refine lv_iload_n hx hb dX6_command_10 rfl (lv_at hl 2 rfl) ?_
  refine zcS (As := [.int 102]) (rest := [.ref x9]) [] hg.1 ⟨hx, hb, hml, hown, hts⟩ (c_X6_isNumbered hg l D cy 102) (va_cwS 1 hts gX6_command_X6_isNumbered rfl rfl rfl (by decide +kernel) ⟨Nat.le_of_ble_eq_true rfl, Nat.le_of_ble_eq_true rfl⟩) hG hK hP hD hS hA rfl rfl rfl  rfl hl.1 rfl (Nat.le_of_ble_eq_true rfl) dX6_command_11 ⟨Nat.zero_le _, Nat.zero_le _⟩ (fun H locs hP hD hS => ?_)
  have hP : va_P D vwCl [(x9, .inr (10, [.int th, .int (nI ch), .int era, .int why, .int det, .int cau, .int (zI sv), .int (zI rj), .ref v9, .ref b9, .ref s9, .ref k9, .ref p9, .ref t9, .ref n9, .int (nI tn), .int (nI he), .int (nI en), .int (nI ln), .int (zI iw), .int (zI false)])), (t9, .inl (cy 0, 60, .inl tx))] H := hP
  have hD : va_D A [(x9, .inr (10, [.int th, .int (nI ch), .int era, .int why, .int det, .int cau, .int (zI sv), .int (zI rj), .ref v9, .ref b9, .ref s9, .ref k9, .ref p9, .ref t9, .ref n9, .int (nI tn), .int (nI he), .int (nI en), .int (nI ln), .int (zI iw), .int (zI false)])), (t9, .inl (cy 0, 60, .inl tx))] := hD
  refine z_top (y := zI false) (rfl) ?_
  refine lv_if_ne (tgt := 46) hx hb dX6_command_14 (by decide) (fun c_1 => ?_) (fun c_1 => ?_)
  · replace c_1 := zI1 c_1
    exact absurd c_1 (by decide)
  · replace c_1 := zI0 c_1
    refine lv_iload_n hx hb dX6_command_17 rfl (lv_at hl 2 rfl) ?_
    refine zcS (As := [.int 102]) (rest := [.ref x9]) [] hg.1 ⟨hx, hb, hml, hown, hts⟩ (c_X6_isDigit hg l D cy 102) (va_cwS 1 hts gX6_command_X6_isDigit rfl rfl rfl (by decide +kernel) ⟨Nat.le_of_ble_eq_true rfl, Nat.le_of_ble_eq_true rfl⟩) hG hK hP hD hS hA rfl rfl rfl  rfl hl.1 rfl (Nat.le_of_ble_eq_true rfl) dX6_command_18 ⟨Nat.zero_le _, Nat.zero_le _⟩ (fun H locs hP hD hS => ?_)
    have hP : va_P D vwCl [(x9, .inr (10, [.int th, .int (nI ch), .int era, .int why, .int det, .int cau, .int (zI sv), .int (zI rj), .ref v9, .ref b9, .ref s9, .ref k9, .ref p9, .ref t9, .ref n9, .int (nI tn), .int (nI he), .int (nI en), .int (nI ln), .int (zI iw), .int (zI false)])), (t9, .inl (cy 0, 60, .inl tx))] H := hP
    have hD : va_D A [(x9, .inr (10, [.int th, .int (nI ch), .int era, .int why, .int det, .int cau, .int (zI sv), .int (zI rj), .ref v9, .ref b9, .ref s9, .ref k9, .ref p9, .ref t9, .ref n9, .int (nI tn), .int (nI he), .int (nI en), .int (nI ln), .int (zI iw), .int (zI false)])), (t9, .inl (cy 0, 60, .inl tx))] := hD
    refine z_top (y := zI true) (rfl) ?_
    refine lv_if_ne (tgt := 46) hx hb dX6_command_21 (by decide) (fun c_2 => ?_) (fun c_2 => ?_)
    · replace c_2 := zI1 c_2
      refine lv_iconst (v := 0) hx hb dX6_command_46 (by decide) ?_
      refine z_top (y := zI false) rfl ?_
      refine va_put (D := D) (ci := 10) (v := .int (zI false)) (ty := .boolean) (C := RX6) (T := TX6) (N := 21) hx hb hts in_RX6 tyX6 tyX6_ok nmX6 hown hK hP hD hS 0 rfl rfl 19 (by decide) (hts _ (List.mem_of_getElem? (i := 1) rfl)) (fun _ h9 => h9) rfl (by decide +kernel) (zI_nar _) (zI_fit _) (Nat.le_of_ble_eq_true rfl) dX6_command_47 (fun H locs hP hD hS => ?_)
      have hP : va_P D vwCl [(x9, .inr (10, [.int th, .int (nI ch), .int era, .int why, .int det, .int cau, .int (zI sv), .int (zI rj), .ref v9, .ref b9, .ref s9, .ref k9, .ref p9, .ref t9, .ref n9, .int (nI tn), .int (nI he), .int (nI en), .int (nI ln), .int (zI false), .int (zI false)])), (t9, .inl (cy 0, 60, .inl tx))] H := hP
      have hD : va_D A [(x9, .inr (10, [.int th, .int (nI ch), .int era, .int why, .int det, .int cau, .int (zI sv), .int (zI rj), .ref v9, .ref b9, .ref s9, .ref k9, .ref p9, .ref t9, .ref n9, .int (nI tn), .int (nI he), .int (nI en), .int (nI ln), .int (zI false), .int (zI false)])), (t9, .inl (cy 0, 60, .inl tx))] := hD
      refine lv_aload_n hx hb dX6_command_50 rfl (lv_at hl 3 rfl) ?_
      refine va_get (D := D) (ci := 10) (v := .int (zI false)) (C := RX6) (T := TX6) (N := 21) hx hb hts in_RX6 hown hK hP 0 rfl rfl 19 (by decide) (hts _ (List.mem_of_getElem? (i := 1) rfl)) (fun _ h9 => h9) rfl dX6_command_51 ?_
      refine lv_if_eq (tgt := 58) hx hb dX6_command_54 (by decide) (fun c_3 => ?_) (fun c_3 => ?_)
      · replace c_3 := zI0 c_3
        refine lv_aload_n hx hb dX6_command_58 rfl (lv_at hl 3 rfl) ?_
        refine lv_dup hx hb dX6_command_59 rfl ?_
        refine va_get (D := D) (ci := 10) (v := .int (nI he)) (C := RX6) (T := TX6) (N := 21) hx hb hts in_RX6 hown hK hP 0 rfl rfl 16 (by decide) (hts _ (List.mem_of_getElem? (i := 2) rfl)) (fun _ h9 => h9) rfl dX6_command_60 ?_
        refine lv_iconst (v := 1) hx hb dX6_command_63 (by decide) ?_
        refine lv_iadd hx hb dX6_command_64 ?_
        refine z_top (y := nI (he + 1)) (nI_add he 1) ?_
        refine va_put (D := D) (ci := 10) (v := .int (nI (he + 1))) (ty := .int) (C := RX6) (T := TX6) (N := 21) hx hb hts in_RX6 tyX6 tyX6_ok nmX6 hown hK hP hD hS 0 rfl rfl 16 (by decide) (hts _ (List.mem_of_getElem? (i := 2) rfl)) (fun _ h9 => h9) rfl (by decide +kernel) rfl rfl (Nat.le_of_ble_eq_true rfl) dX6_command_65 (fun H locs hP hD hS => ?_)
        have hP : va_P D vwCl [(x9, .inr (10, [.int th, .int (nI ch), .int era, .int why, .int det, .int cau, .int (zI sv), .int (zI rj), .ref v9, .ref b9, .ref s9, .ref k9, .ref p9, .ref t9, .ref n9, .int (nI tn), .int (nI (he + 1)), .int (nI en), .int (nI ln), .int (zI false), .int (zI false)])), (t9, .inl (cy 0, 60, .inl tx))] H := hP
        have hD : va_D A [(x9, .inr (10, [.int th, .int (nI ch), .int era, .int why, .int det, .int cau, .int (zI sv), .int (zI rj), .ref v9, .ref b9, .ref s9, .ref k9, .ref p9, .ref t9, .ref n9, .int (nI tn), .int (nI (he + 1)), .int (nI en), .int (nI ln), .int (zI false), .int (zI false)])), (t9, .inl (cy 0, 60, .inl tx))] := hD
        refine lv_iload_n hx hb dX6_command_68 rfl (lv_at hl 2 rfl) ?_
        refine zcS (As := [.int 102]) (rest := []) [] hg.1 ⟨hx, hb, hml, hown, hts⟩ (c_X6_isNumbered hg l D cy 102) (va_cwS 1 hts gX6_command_X6_isNumbered rfl rfl rfl (by decide +kernel) ⟨Nat.le_of_ble_eq_true rfl, Nat.le_of_ble_eq_true rfl⟩) hG hK hP hD hS hA rfl rfl rfl  rfl hl.1 rfl (Nat.le_of_ble_eq_true rfl) dX6_command_69 ⟨Nat.zero_le _, Nat.zero_le _⟩ (fun H locs hP hD hS => ?_)
        have hP : va_P D vwCl [(x9, .inr (10, [.int th, .int (nI ch), .int era, .int why, .int det, .int cau, .int (zI sv), .int (zI rj), .ref v9, .ref b9, .ref s9, .ref k9, .ref p9, .ref t9, .ref n9, .int (nI tn), .int (nI (he + 1)), .int (nI en), .int (nI ln), .int (zI false), .int (zI false)])), (t9, .inl (cy 0, 60, .inl tx))] H := hP
        have hD : va_D A [(x9, .inr (10, [.int th, .int (nI ch), .int era, .int why, .int det, .int cau, .int (zI sv), .int (zI rj), .ref v9, .ref b9, .ref s9, .ref k9, .ref p9, .ref t9, .ref n9, .int (nI tn), .int (nI (he + 1)), .int (nI en), .int (nI ln), .int (zI false), .int (zI false)])), (t9, .inl (cy 0, 60, .inl tx))] := hD
        refine z_top (y := zI false) (rfl) ?_
        refine lv_if_eq (tgt := 81) hx hb dX6_command_72 (by decide) (fun c_4 => ?_) (fun c_4 => ?_)
        · replace c_4 := zI0 c_4
          refine lv_iload_n hx hb dX6_command_81 rfl (lv_at hl 2 rfl) ?_
          refine zcS (As := [.int 102]) (rest := []) [] hg.1 ⟨hx, hb, hml, hown, hts⟩ (c_X6_isDigit hg l D cy 102) (va_cwS 1 hts gX6_command_X6_isDigit rfl rfl rfl (by decide +kernel) ⟨Nat.le_of_ble_eq_true rfl, Nat.le_of_ble_eq_true rfl⟩) hG hK hP hD hS hA rfl rfl rfl  rfl hl.1 rfl (Nat.le_of_ble_eq_true rfl) dX6_command_82 ⟨Nat.zero_le _, Nat.zero_le _⟩ (fun H locs hP hD hS => ?_)
          have hP : va_P D vwCl [(x9, .inr (10, [.int th, .int (nI ch), .int era, .int why, .int det, .int cau, .int (zI sv), .int (zI rj), .ref v9, .ref b9, .ref s9, .ref k9, .ref p9, .ref t9, .ref n9, .int (nI tn), .int (nI (he + 1)), .int (nI en), .int (nI ln), .int (zI false), .int (zI false)])), (t9, .inl (cy 0, 60, .inl tx))] H := hP
          have hD : va_D A [(x9, .inr (10, [.int th, .int (nI ch), .int era, .int why, .int det, .int cau, .int (zI sv), .int (zI rj), .ref v9, .ref b9, .ref s9, .ref k9, .ref p9, .ref t9, .ref n9, .int (nI tn), .int (nI (he + 1)), .int (nI en), .int (nI ln), .int (zI false), .int (zI false)])), (t9, .inl (cy 0, 60, .inl tx))] := hD
          refine z_top (y := zI true) (rfl) ?_
          refine lv_if_eq (tgt := 94) hx hb dX6_command_85 (by decide) (fun c_5 => ?_) (fun c_5 => ?_)
          · replace c_5 := zI0 c_5
            exact absurd c_5 (by decide)
          · replace c_5 := zI1 c_5
            refine lv_aload_n hx hb dX6_command_88 rfl (lv_at hl 3 rfl) ?_
            refine lv_iconst (v := 1) hx hb dX6_command_89 (by decide) ?_
            refine z_top (y := nI 1) (rfl) ?_
            refine zcV (As := [.int (nI 1)]) (rest := []) [0, 1] 0 hg.1 ⟨hx, hb, hml, hown, hts⟩ (c_X6_digits hg l D cy x9 th ch era why det cau sv rj v9 b9 s9 k9 p9 t9 n9 tn (he + 1) en ln false tx 1 (by first | assumption | omega) (by first | assumption | omega) (by first | assumption | omega) (by first | assumption | omega)) (cwV 1 hts gX6_command_X6_digits rfl rfl rfl (by decide +kernel) ⟨Nat.le_of_ble_eq_true rfl, Nat.le_of_ble_eq_true rfl⟩) hG hK hP hD hS hA rfl rfl (Eq.trans (b := [x9, t9]) rfl rfl) rfl rfl rfl hl.1 rfl (Nat.le_of_ble_eq_true rfl) dX6_command_90 ⟨Nat.zero_le _, Nat.zero_le _⟩ (fun H locs hP hD hS => ?_)
            have hP : va_P D vwCl [(x9, .inr (10, [.int th, .int (nI ch), .int era, .int why, .int det, .int cau, .int (zI sv), .int (zI rj), .ref v9, .ref b9, .ref s9, .ref k9, .ref p9, .ref t9, .ref n9, .int (nI tn), .int (nI ((he + 1) + zdN tx en 1 (he + 1))), .int (nI en), .int (nI ln), .int (zI (decide (zdN tx en 1 (he + 1) = 0))), .int (zI false)])), (t9, .inl (cy 0, 60, .inl tx))] H := hP
            have hD : va_D A [(x9, .inr (10, [.int th, .int (nI ch), .int era, .int why, .int det, .int cau, .int (zI sv), .int (zI rj), .ref v9, .ref b9, .ref s9, .ref k9, .ref p9, .ref t9, .ref n9, .int (nI tn), .int (nI ((he + 1) + zdN tx en 1 (he + 1))), .int (nI en), .int (nI ln), .int (zI (decide (zdN tx en 1 (he + 1) = 0))), .int (zI false)])), (t9, .inl (cy 0, 60, .inl tx))] := hD
            refine lv_istore_n (lv' := [(2, .int (zdV tx en 1 (he + 1) 0)), (3, .int 0), (1, .int 102), (0, .ref x9)]) hx hb dX6_command_93 rfl hl (by decide) rfl (fun ls hl => ?_)
            refine lv_iload_n hx hb dX6_command_94 rfl (lv_at hl 2 rfl) ?_
            refine lv_bipush (v := 112) hx hb dX6_command_95 (by decide) ?_
            refine lv_icmp_ne (tgt := 105) hx hb dX6_command_97 (by decide) (fun c_6 => ?_) (fun c_6 => ?_)
            · refine lv_iload_n hx hb dX6_command_105 rfl (lv_at hl 2 rfl) ?_
              refine lv_bipush (v := 99) hx hb dX6_command_106 (by decide) ?_
              refine lv_icmp_ne (tgt := 118) hx hb dX6_command_108 (by decide) (fun c_7 => ?_) (fun c_7 => ?_)
              · refine lv_iload_n hx hb dX6_command_118 rfl (lv_at hl 2 rfl) ?_
                refine lv_bipush (v := 121) hx hb dX6_command_119 (by decide) ?_
                refine lv_icmp_ne (tgt := 131) hx hb dX6_command_121 (by decide) (fun c_8 => ?_) (fun c_8 => ?_)
                · refine lv_aload_n hx hb dX6_command_131 rfl (lv_at hl 3 rfl) ?_
                  refine va_get (D := D) (ci := 10) (v := .int (zI (decide (zdN tx en 1 (he + 1) = 0)))) (C := RX6) (T := TX6) (N := 21) hx hb hts in_RX6 hown hK hP 0 rfl rfl 19 (by decide) (hts _ (List.mem_of_getElem? (i := 1) rfl)) (fun _ h9 => h9) rfl dX6_command_132 ?_
                  refine lv_if_ne (tgt := 145) hx hb dX6_command_135 (by decide) (fun c_9 => ?_) (fun c_9 => ?_)
                  · replace c_9 := zI1 c_9
                    exact zvret hend hx hb hr hlk hK hP hD hS dX6_command_145 rfl
                  · replace c_9 := zI0 c_9
                    refine lv_aload_n hx hb dX6_command_138 rfl (lv_at hl 3 rfl) ?_
                    refine va_get (D := D) (ci := 10) (v := .int (zI false)) (C := RX6) (T := TX6) (N := 21) hx hb hts in_RX6 hown hK hP 0 rfl rfl 20 (by decide) (hts _ (List.mem_of_getElem? (i := 3) rfl)) (fun _ h9 => h9) rfl dX6_command_139 ?_
                    refine lv_if_ne (tgt := 146) hx hb dX6_command_142 (by decide) (fun c_10 => ?_) (fun c_10 => ?_)
                    · replace c_10 := zI1 c_10
                      exact absurd c_10 (by decide)
                    · replace c_10 := zI0 c_10
                      exact zvret hend hx hb hr hlk hK hP hD hS dX6_command_145 rfl
                · exact absurd c_8 (by decide)
              · exact absurd c_7 (by decide)
            · exact absurd c_6 (by decide)
        · replace c_4 := zI1 c_4
          exact absurd c_4 (by decide)
      · replace c_3 := zI1 c_3
        exact absurd c_3 (by decide)
    · replace c_2 := zI0 c_2
      exact absurd c_2 (by decide)

abbrev rmX6_command_p116 : Room := { frames := 3, cells := 0, slots := 0, locals := 66 }
set_option maxHeartbeats 4000000 in
set_option maxRecDepth 100000 in
theorem c_X6_command_p116 {G : zG} (hg : zGN G) (l : Launch) (D : va_G) (cy : Nat → ClassId) (x9 : Nat) (th : Int32) (ch : Nat) (era : Int32) (why : Int32) (det : Int32) (cau : Int32) (sv : Bool) (rj : Bool) (v9 : Nat) (b9 : Nat) (s9 : Nat) (k9 : Nat) (p9 : Nat) (t9 : Nat) (n9 : Nat) (tn : Nat) (he : Nat) (en : Nat) (ln : Nat) (iw : Bool) (tx : Nat → Int32) (hhe : he ≤ 60) (hen : en ≤ 60) (hc : zqs tx en he = 116) : zM G D vwCl (zT cy) l yX6_command wsX6_command rmX6_command_p116 [.ref x9] [(x9, .inr (10, [.int th, .int (nI ch), .int era, .int why, .int det, .int cau, .int (zI sv), .int (zI rj), .ref v9, .ref b9, .ref s9, .ref k9, .ref p9, .ref t9, .ref n9, .int (nI tn), .int (nI he), .int (nI en), .int (nI ln), .int (zI iw), .int (zI false)])), (t9, .inl (cy 0, 60, .inl tx))] none [(x9, .inr (10, [.int th, .int (nI ch), .int era, .int why, .int det, .int cau, .int (zI sv), .int (zI rj), .ref v9, .ref b9, .ref s9, .ref k9, .ref p9, .ref t9, .ref n9, .int (nI tn), .int (nI ((he + 1) + zdN tx en 1 (he + 1))), .int (nI en), .int (nI ln), .int (zI (decide (zdN tx en 1 (he + 1) = 0))), .int (zI false)])), (t9, .inl (cy 0, 60, .inl tx))] := by
  refine zM_of (cc := cX6_command) (maxL := 5) (ret := none) (by decide) rfl (Nat.le_of_ble_eq_true rfl) ?_
  intro p e s m below meth c A Q hend hx hb hml hr hts hown hlk hG hK hP hD hA hS ls hl
  have hown : s.vm.findClass RX6 = some m.cls := hown
  have in_RX6 : ∀ w ∈ u_ws RX6 TX6 21, w ∈ wsX6_command := by decide +kernel
  have hl : lv_has ls 5 [(0, .ref x9)] := hl
  refine lv_aload_n hx hb dX6_command_0 rfl (lv_at hl 0 rfl) ?_
  refine zcV (As := []) (rest := []) [0, 1] 0 hg.1 ⟨hx, hb, hml, hown, hts⟩ (c_X6_sign hg l D cy x9 th ch era why det cau sv rj v9 b9 s9 k9 p9 t9 n9 tn he en ln iw false tx (by first | assumption | omega) (by first | assumption | omega)) (cwV 0 hts gX6_command_X6_sign rfl rfl rfl (by decide +kernel) ⟨Nat.le_of_ble_eq_true rfl, Nat.le_of_ble_eq_true rfl⟩) hG hK hP hD hS hA rfl rfl rfl rfl rfl rfl hl.1 rfl (Nat.le_of_ble_eq_true rfl) dX6_command_1 ⟨Nat.zero_le _, Nat.zero_le _⟩ (fun H locs hP hD hS => ?_)
  have hP : va_P D vwCl [(x9, .inr (10, [.int th, .int (nI ch), .int era, .int why, .int det, .int cau, .int (zI sv), .int (zI rj), .ref v9, .ref b9, .ref s9, .ref k9, .ref p9, .ref t9, .ref n9, .int (nI tn), .int (nI he), .int (nI en), .int (nI ln), .int (zI iw), .int (zI false)])), (t9, .inl (cy 0, 60, .inl tx))] H := hP
  have hD : va_D A [(x9, .inr (10, [.int th, .int (nI ch), .int era, .int why, .int det, .int cau, .int (zI sv), .int (zI rj), .ref v9, .ref b9, .ref s9, .ref k9, .ref p9, .ref t9, .ref n9, .int (nI tn), .int (nI he), .int (nI en), .int (nI ln), .int (zI iw), .int (zI false)])), (t9, .inl (cy 0, 60, .inl tx))] := hD
  refine z_top (y := 116) (hc) ?_
  refine lv_istore_n (lv' := [(1, .int 116), (0, .ref x9)]) hx hb dX6_command_4 rfl hl (by decide) rfl (fun ls hl => ?_)
  refine lv_iconst (v := 0) hx hb dX6_command_5 (by decide) ?_
  refine lv_istore_n (lv' := [(2, .int 0), (1, .int 116), (0, .ref x9)]) hx hb dX6_command_6 rfl hl (by decide) rfl (fun ls hl => ?_)
  refine lv_iconst (v := 0) hx hb dX6_command_7 (by decide) ?_
  refine lv_istore_n (lv' := [(3, .int 0), (2, .int 0), (1, .int 116), (0, .ref x9)]) hx hb dX6_command_8 rfl hl (by decide) rfl (fun ls hl => ?_)
  refine lv_aload_n hx hb dX6_command_9 rfl (lv_at hl 3 rfl) ?_
  refine lv_iload_n hx hb dX6_command_10 rfl (lv_at hl 2 rfl) ?_
  refine zcS (As := [.int 116]) (rest := [.ref x9]) [] hg.1 ⟨hx, hb, hml, hown, hts⟩ (c_X6_isNumbered hg l D cy 116) (va_cwS 1 hts gX6_command_X6_isNumbered rfl rfl rfl (by decide +kernel) ⟨Nat.le_of_ble_eq_true rfl, Nat.le_of_ble_eq_true rfl⟩) hG hK hP hD hS hA rfl rfl rfl  rfl hl.1 rfl (Nat.le_of_ble_eq_true rfl) dX6_command_11 ⟨Nat.zero_le _, Nat.zero_le _⟩ (fun H locs hP hD hS => ?_)
  have hP : va_P D vwCl [(x9, .inr (10, [.int th, .int (nI ch), .int era, .int why, .int det, .int cau, .int (zI sv), .int (zI rj), .ref v9, .ref b9, .ref s9, .ref k9, .ref p9, .ref t9, .ref n9, .int (nI tn), .int (nI he), .int (nI en), .int (nI ln), .int (zI iw), .int (zI false)])), (t9, .inl (cy 0, 60, .inl tx))] H := hP
  have hD : va_D A [(x9, .inr (10, [.int th, .int (nI ch), .int era, .int why, .int det, .int cau, .int (zI sv), .int (zI rj), .ref v9, .ref b9, .ref s9, .ref k9, .ref p9, .ref t9, .ref n9, .int (nI tn), .int (nI he), .int (nI en), .int (nI ln), .int (zI iw), .int (zI false)])), (t9, .inl (cy 0, 60, .inl tx))] := hD
  refine z_top (y := zI false) (rfl) ?_
  refine lv_if_ne (tgt := 46) hx hb dX6_command_14 (by decide) (fun c_1 => ?_) (fun c_1 => ?_)
  · replace c_1 := zI1 c_1
    exact absurd c_1 (by decide)
  · replace c_1 := zI0 c_1
    refine lv_iload_n hx hb dX6_command_17 rfl (lv_at hl 2 rfl) ?_
    refine zcS (As := [.int 116]) (rest := [.ref x9]) [] hg.1 ⟨hx, hb, hml, hown, hts⟩ (c_X6_isDigit hg l D cy 116) (va_cwS 1 hts gX6_command_X6_isDigit rfl rfl rfl (by decide +kernel) ⟨Nat.le_of_ble_eq_true rfl, Nat.le_of_ble_eq_true rfl⟩) hG hK hP hD hS hA rfl rfl rfl  rfl hl.1 rfl (Nat.le_of_ble_eq_true rfl) dX6_command_18 ⟨Nat.zero_le _, Nat.zero_le _⟩ (fun H locs hP hD hS => ?_)
    have hP : va_P D vwCl [(x9, .inr (10, [.int th, .int (nI ch), .int era, .int why, .int det, .int cau, .int (zI sv), .int (zI rj), .ref v9, .ref b9, .ref s9, .ref k9, .ref p9, .ref t9, .ref n9, .int (nI tn), .int (nI he), .int (nI en), .int (nI ln), .int (zI iw), .int (zI false)])), (t9, .inl (cy 0, 60, .inl tx))] H := hP
    have hD : va_D A [(x9, .inr (10, [.int th, .int (nI ch), .int era, .int why, .int det, .int cau, .int (zI sv), .int (zI rj), .ref v9, .ref b9, .ref s9, .ref k9, .ref p9, .ref t9, .ref n9, .int (nI tn), .int (nI he), .int (nI en), .int (nI ln), .int (zI iw), .int (zI false)])), (t9, .inl (cy 0, 60, .inl tx))] := hD
    refine z_top (y := zI true) (rfl) ?_
    refine lv_if_ne (tgt := 46) hx hb dX6_command_21 (by decide) (fun c_2 => ?_) (fun c_2 => ?_)
    · replace c_2 := zI1 c_2
      refine lv_iconst (v := 0) hx hb dX6_command_46 (by decide) ?_
      refine z_top (y := zI false) rfl ?_
      refine va_put (D := D) (ci := 10) (v := .int (zI false)) (ty := .boolean) (C := RX6) (T := TX6) (N := 21) hx hb hts in_RX6 tyX6 tyX6_ok nmX6 hown hK hP hD hS 0 rfl rfl 19 (by decide) (hts _ (List.mem_of_getElem? (i := 1) rfl)) (fun _ h9 => h9) rfl (by decide +kernel) (zI_nar _) (zI_fit _) (Nat.le_of_ble_eq_true rfl) dX6_command_47 (fun H locs hP hD hS => ?_)
      have hP : va_P D vwCl [(x9, .inr (10, [.int th, .int (nI ch), .int era, .int why, .int det, .int cau, .int (zI sv), .int (zI rj), .ref v9, .ref b9, .ref s9, .ref k9, .ref p9, .ref t9, .ref n9, .int (nI tn), .int (nI he), .int (nI en), .int (nI ln), .int (zI false), .int (zI false)])), (t9, .inl (cy 0, 60, .inl tx))] H := hP
      have hD : va_D A [(x9, .inr (10, [.int th, .int (nI ch), .int era, .int why, .int det, .int cau, .int (zI sv), .int (zI rj), .ref v9, .ref b9, .ref s9, .ref k9, .ref p9, .ref t9, .ref n9, .int (nI tn), .int (nI he), .int (nI en), .int (nI ln), .int (zI false), .int (zI false)])), (t9, .inl (cy 0, 60, .inl tx))] := hD
      refine lv_aload_n hx hb dX6_command_50 rfl (lv_at hl 3 rfl) ?_
      refine va_get (D := D) (ci := 10) (v := .int (zI false)) (C := RX6) (T := TX6) (N := 21) hx hb hts in_RX6 hown hK hP 0 rfl rfl 19 (by decide) (hts _ (List.mem_of_getElem? (i := 1) rfl)) (fun _ h9 => h9) rfl dX6_command_51 ?_
      refine lv_if_eq (tgt := 58) hx hb dX6_command_54 (by decide) (fun c_3 => ?_) (fun c_3 => ?_)
      · replace c_3 := zI0 c_3
        refine lv_aload_n hx hb dX6_command_58 rfl (lv_at hl 3 rfl) ?_
        refine lv_dup hx hb dX6_command_59 rfl ?_
        refine va_get (D := D) (ci := 10) (v := .int (nI he)) (C := RX6) (T := TX6) (N := 21) hx hb hts in_RX6 hown hK hP 0 rfl rfl 16 (by decide) (hts _ (List.mem_of_getElem? (i := 2) rfl)) (fun _ h9 => h9) rfl dX6_command_60 ?_
        refine lv_iconst (v := 1) hx hb dX6_command_63 (by decide) ?_
        refine lv_iadd hx hb dX6_command_64 ?_
        refine z_top (y := nI (he + 1)) (nI_add he 1) ?_
        refine va_put (D := D) (ci := 10) (v := .int (nI (he + 1))) (ty := .int) (C := RX6) (T := TX6) (N := 21) hx hb hts in_RX6 tyX6 tyX6_ok nmX6 hown hK hP hD hS 0 rfl rfl 16 (by decide) (hts _ (List.mem_of_getElem? (i := 2) rfl)) (fun _ h9 => h9) rfl (by decide +kernel) rfl rfl (Nat.le_of_ble_eq_true rfl) dX6_command_65 (fun H locs hP hD hS => ?_)
        have hP : va_P D vwCl [(x9, .inr (10, [.int th, .int (nI ch), .int era, .int why, .int det, .int cau, .int (zI sv), .int (zI rj), .ref v9, .ref b9, .ref s9, .ref k9, .ref p9, .ref t9, .ref n9, .int (nI tn), .int (nI (he + 1)), .int (nI en), .int (nI ln), .int (zI false), .int (zI false)])), (t9, .inl (cy 0, 60, .inl tx))] H := hP
        have hD : va_D A [(x9, .inr (10, [.int th, .int (nI ch), .int era, .int why, .int det, .int cau, .int (zI sv), .int (zI rj), .ref v9, .ref b9, .ref s9, .ref k9, .ref p9, .ref t9, .ref n9, .int (nI tn), .int (nI (he + 1)), .int (nI en), .int (nI ln), .int (zI false), .int (zI false)])), (t9, .inl (cy 0, 60, .inl tx))] := hD
        refine lv_iload_n hx hb dX6_command_68 rfl (lv_at hl 2 rfl) ?_
        refine zcS (As := [.int 116]) (rest := []) [] hg.1 ⟨hx, hb, hml, hown, hts⟩ (c_X6_isNumbered hg l D cy 116) (va_cwS 1 hts gX6_command_X6_isNumbered rfl rfl rfl (by decide +kernel) ⟨Nat.le_of_ble_eq_true rfl, Nat.le_of_ble_eq_true rfl⟩) hG hK hP hD hS hA rfl rfl rfl  rfl hl.1 rfl (Nat.le_of_ble_eq_true rfl) dX6_command_69 ⟨Nat.zero_le _, Nat.zero_le _⟩ (fun H locs hP hD hS => ?_)
        have hP : va_P D vwCl [(x9, .inr (10, [.int th, .int (nI ch), .int era, .int why, .int det, .int cau, .int (zI sv), .int (zI rj), .ref v9, .ref b9, .ref s9, .ref k9, .ref p9, .ref t9, .ref n9, .int (nI tn), .int (nI (he + 1)), .int (nI en), .int (nI ln), .int (zI false), .int (zI false)])), (t9, .inl (cy 0, 60, .inl tx))] H := hP
        have hD : va_D A [(x9, .inr (10, [.int th, .int (nI ch), .int era, .int why, .int det, .int cau, .int (zI sv), .int (zI rj), .ref v9, .ref b9, .ref s9, .ref k9, .ref p9, .ref t9, .ref n9, .int (nI tn), .int (nI (he + 1)), .int (nI en), .int (nI ln), .int (zI false), .int (zI false)])), (t9, .inl (cy 0, 60, .inl tx))] := hD
        refine z_top (y := zI false) (rfl) ?_
        refine lv_if_eq (tgt := 81) hx hb dX6_command_72 (by decide) (fun c_4 => ?_) (fun c_4 => ?_)
        · replace c_4 := zI0 c_4
          refine lv_iload_n hx hb dX6_command_81 rfl (lv_at hl 2 rfl) ?_
          refine zcS (As := [.int 116]) (rest := []) [] hg.1 ⟨hx, hb, hml, hown, hts⟩ (c_X6_isDigit hg l D cy 116) (va_cwS 1 hts gX6_command_X6_isDigit rfl rfl rfl (by decide +kernel) ⟨Nat.le_of_ble_eq_true rfl, Nat.le_of_ble_eq_true rfl⟩) hG hK hP hD hS hA rfl rfl rfl  rfl hl.1 rfl (Nat.le_of_ble_eq_true rfl) dX6_command_82 ⟨Nat.zero_le _, Nat.zero_le _⟩ (fun H locs hP hD hS => ?_)
          have hP : va_P D vwCl [(x9, .inr (10, [.int th, .int (nI ch), .int era, .int why, .int det, .int cau, .int (zI sv), .int (zI rj), .ref v9, .ref b9, .ref s9, .ref k9, .ref p9, .ref t9, .ref n9, .int (nI tn), .int (nI (he + 1)), .int (nI en), .int (nI ln), .int (zI false), .int (zI false)])), (t9, .inl (cy 0, 60, .inl tx))] H := hP
          have hD : va_D A [(x9, .inr (10, [.int th, .int (nI ch), .int era, .int why, .int det, .int cau, .int (zI sv), .int (zI rj), .ref v9, .ref b9, .ref s9, .ref k9, .ref p9, .ref t9, .ref n9, .int (nI tn), .int (nI (he + 1)), .int (nI en), .int (nI ln), .int (zI false), .int (zI false)])), (t9, .inl (cy 0, 60, .inl tx))] := hD
          refine z_top (y := zI true) (rfl) ?_
          refine lv_if_eq (tgt := 94) hx hb dX6_command_85 (by decide) (fun c_5 => ?_) (fun c_5 => ?_)
          · replace c_5 := zI0 c_5
            exact absurd c_5 (by decide)
          · replace c_5 := zI1 c_5
            refine lv_aload_n hx hb dX6_command_88 rfl (lv_at hl 3 rfl) ?_
            refine lv_iconst (v := 1) hx hb dX6_command_89 (by decide) ?_
            refine z_top (y := nI 1) (rfl) ?_
            refine zcV (As := [.int (nI 1)]) (rest := []) [0, 1] 0 hg.1 ⟨hx, hb, hml, hown, hts⟩ (c_X6_digits hg l D cy x9 th ch era why det cau sv rj v9 b9 s9 k9 p9 t9 n9 tn (he + 1) en ln false tx 1 (by first | assumption | omega) (by first | assumption | omega) (by first | assumption | omega) (by first | assumption | omega)) (cwV 1 hts gX6_command_X6_digits rfl rfl rfl (by decide +kernel) ⟨Nat.le_of_ble_eq_true rfl, Nat.le_of_ble_eq_true rfl⟩) hG hK hP hD hS hA rfl rfl (Eq.trans (b := [x9, t9]) rfl rfl) rfl rfl rfl hl.1 rfl (Nat.le_of_ble_eq_true rfl) dX6_command_90 ⟨Nat.zero_le _, Nat.zero_le _⟩ (fun H locs hP hD hS => ?_)
            have hP : va_P D vwCl [(x9, .inr (10, [.int th, .int (nI ch), .int era, .int why, .int det, .int cau, .int (zI sv), .int (zI rj), .ref v9, .ref b9, .ref s9, .ref k9, .ref p9, .ref t9, .ref n9, .int (nI tn), .int (nI ((he + 1) + zdN tx en 1 (he + 1))), .int (nI en), .int (nI ln), .int (zI (decide (zdN tx en 1 (he + 1) = 0))), .int (zI false)])), (t9, .inl (cy 0, 60, .inl tx))] H := hP
            have hD : va_D A [(x9, .inr (10, [.int th, .int (nI ch), .int era, .int why, .int det, .int cau, .int (zI sv), .int (zI rj), .ref v9, .ref b9, .ref s9, .ref k9, .ref p9, .ref t9, .ref n9, .int (nI tn), .int (nI ((he + 1) + zdN tx en 1 (he + 1))), .int (nI en), .int (nI ln), .int (zI (decide (zdN tx en 1 (he + 1) = 0))), .int (zI false)])), (t9, .inl (cy 0, 60, .inl tx))] := hD
            refine lv_istore_n (lv' := [(2, .int (zdV tx en 1 (he + 1) 0)), (3, .int 0), (1, .int 116), (0, .ref x9)]) hx hb dX6_command_93 rfl hl (by decide) rfl (fun ls hl => ?_)
            refine lv_iload_n hx hb dX6_command_94 rfl (lv_at hl 2 rfl) ?_
            refine lv_bipush (v := 112) hx hb dX6_command_95 (by decide) ?_
            refine lv_icmp_ne (tgt := 105) hx hb dX6_command_97 (by decide) (fun c_6 => ?_) (fun c_6 => ?_)
            · refine lv_iload_n hx hb dX6_command_105 rfl (lv_at hl 2 rfl) ?_
              refine lv_bipush (v := 99) hx hb dX6_command_106 (by decide) ?_
              refine lv_icmp_ne (tgt := 118) hx hb dX6_command_108 (by decide) (fun c_7 => ?_) (fun c_7 => ?_)
              · refine lv_iload_n hx hb dX6_command_118 rfl (lv_at hl 2 rfl) ?_
                refine lv_bipush (v := 121) hx hb dX6_command_119 (by decide) ?_
                refine lv_icmp_ne (tgt := 131) hx hb dX6_command_121 (by decide) (fun c_8 => ?_) (fun c_8 => ?_)
                · refine lv_aload_n hx hb dX6_command_131 rfl (lv_at hl 3 rfl) ?_
                  refine va_get (D := D) (ci := 10) (v := .int (zI (decide (zdN tx en 1 (he + 1) = 0)))) (C := RX6) (T := TX6) (N := 21) hx hb hts in_RX6 hown hK hP 0 rfl rfl 19 (by decide) (hts _ (List.mem_of_getElem? (i := 1) rfl)) (fun _ h9 => h9) rfl dX6_command_132 ?_
                  refine lv_if_ne (tgt := 145) hx hb dX6_command_135 (by decide) (fun c_9 => ?_) (fun c_9 => ?_)
                  · replace c_9 := zI1 c_9
                    exact zvret hend hx hb hr hlk hK hP hD hS dX6_command_145 rfl
                  · replace c_9 := zI0 c_9
                    refine lv_aload_n hx hb dX6_command_138 rfl (lv_at hl 3 rfl) ?_
                    refine va_get (D := D) (ci := 10) (v := .int (zI false)) (C := RX6) (T := TX6) (N := 21) hx hb hts in_RX6 hown hK hP 0 rfl rfl 20 (by decide) (hts _ (List.mem_of_getElem? (i := 3) rfl)) (fun _ h9 => h9) rfl dX6_command_139 ?_
                    refine lv_if_ne (tgt := 146) hx hb dX6_command_142 (by decide) (fun c_10 => ?_) (fun c_10 => ?_)
                    · replace c_10 := zI1 c_10
                      exact absurd c_10 (by decide)
                    · replace c_10 := zI0 c_10
                      exact zvret hend hx hb hr hlk hK hP hD hS dX6_command_145 rfl
                · exact absurd c_8 (by decide)
              · exact absurd c_7 (by decide)
            · exact absurd c_6 (by decide)
        · replace c_4 := zI1 c_4
          exact absurd c_4 (by decide)
      · replace c_3 := zI1 c_3
        exact absurd c_3 (by decide)
    · replace c_2 := zI0 c_2
      exact absurd c_2 (by decide)

abbrev rmX6_command_p112 : Room := { frames := 3, cells := 0, slots := 0, locals := 66 }
set_option maxHeartbeats 4000000 in
set_option maxRecDepth 100000 in
theorem c_X6_command_p112 {G : zG} (hg : zGN G) (l : Launch) (D : va_G) (cy : Nat → ClassId) (x9 : Nat) (th : Int32) (ch : Nat) (era : Int32) (why : Int32) (det : Int32) (cau : Int32) (sv : Bool) (rj : Bool) (v9 : Nat) (b9 : Nat) (s9 : Nat) (k9 : Nat) (p9 : Nat) (t9 : Nat) (n9 : Nat) (tn : Nat) (he : Nat) (en : Nat) (ln : Nat) (iw : Bool) (tx : Nat → Int32) (hhe : he ≤ 60) (hen : en ≤ 60) (hc : zqs tx en he = 112) : zM G D vwCl (zT cy) l yX6_command wsX6_command rmX6_command_p112 [.ref x9] [(x9, .inr (10, [.int th, .int (nI ch), .int era, .int why, .int det, .int cau, .int (zI sv), .int (zI rj), .ref v9, .ref b9, .ref s9, .ref k9, .ref p9, .ref t9, .ref n9, .int (nI tn), .int (nI he), .int (nI en), .int (nI ln), .int (zI iw), .int (zI false)])), (t9, .inl (cy 0, 60, .inl tx))] none [(x9, .inr (10, [.int th, .int (nI ch), .int era, .int why, .int det, .int cau, .int (zI sv), .int (zI rj), .ref v9, .ref b9, .ref s9, .ref k9, .ref p9, .ref t9, .ref n9, .int (nI tn), .int (nI ((he + 1) + zkN tx en 8 (he + 1))), .int (nI en), .int (nI ln), .int (zI (decide (¬ zkN tx en 8 (he + 1) = 8))), .int (zI false)])), (t9, .inl (cy 0, 60, .inl tx))] := by
  refine zM_of (cc := cX6_command) (maxL := 5) (ret := none) (by decide) rfl (Nat.le_of_ble_eq_true rfl) ?_
  intro p e s m below meth c A Q hend hx hb hml hr hts hown hlk hG hK hP hD hA hS ls hl
  have hown : s.vm.findClass RX6 = some m.cls := hown
  have in_RX6 : ∀ w ∈ u_ws RX6 TX6 21, w ∈ wsX6_command := by decide +kernel
  have hl : lv_has ls 5 [(0, .ref x9)] := hl
  refine lv_aload_n hx hb dX6_command_0 rfl (lv_at hl 0 rfl) ?_
  refine zcV (As := []) (rest := []) [0, 1] 0 hg.1 ⟨hx, hb, hml, hown, hts⟩ (c_X6_sign hg l D cy x9 th ch era why det cau sv rj v9 b9 s9 k9 p9 t9 n9 tn he en ln iw false tx (by first | assumption | omega) (by first | assumption | omega)) (cwV 0 hts gX6_command_X6_sign rfl rfl rfl (by decide +kernel) ⟨Nat.le_of_ble_eq_true rfl, Nat.le_of_ble_eq_true rfl⟩) hG hK hP hD hS hA rfl rfl rfl rfl rfl rfl hl.1 rfl (Nat.le_of_ble_eq_true rfl) dX6_command_1 ⟨Nat.zero_le _, Nat.zero_le _⟩ (fun H locs hP hD hS => ?_)
  have hP : va_P D vwCl [(x9, .inr (10, [.int th, .int (nI ch), .int era, .int why, .int det, .int cau, .int (zI sv), .int (zI rj), .ref v9, .ref b9, .ref s9, .ref k9, .ref p9, .ref t9, .ref n9, .int (nI tn), .int (nI he), .int (nI en), .int (nI ln), .int (zI iw), .int (zI false)])), (t9, .inl (cy 0, 60, .inl tx))] H := hP
  have hD : va_D A [(x9, .inr (10, [.int th, .int (nI ch), .int era, .int why, .int det, .int cau, .int (zI sv), .int (zI rj), .ref v9, .ref b9, .ref s9, .ref k9, .ref p9, .ref t9, .ref n9, .int (nI tn), .int (nI he), .int (nI en), .int (nI ln), .int (zI iw), .int (zI false)])), (t9, .inl (cy 0, 60, .inl tx))] := hD
  refine z_top (y := 112) (hc) ?_
  refine lv_istore_n (lv' := [(1, .int 112), (0, .ref x9)]) hx hb dX6_command_4 rfl hl (by decide) rfl (fun ls hl => ?_)
  refine lv_iconst (v := 0) hx hb dX6_command_5 (by decide) ?_
  refine lv_istore_n (lv' := [(2, .int 0), (1, .int 112), (0, .ref x9)]) hx hb dX6_command_6 rfl hl (by decide) rfl (fun ls hl => ?_)
  refine lv_iconst (v := 0) hx hb dX6_command_7 (by decide) ?_
  refine lv_istore_n (lv' := [(3, .int 0), (2, .int 0), (1, .int 112), (0, .ref x9)]) hx hb dX6_command_8 rfl hl (by decide) rfl (fun ls hl => ?_)
  refine lv_aload_n hx hb dX6_command_9 rfl (lv_at hl 3 rfl) ?_
  refine lv_iload_n hx hb dX6_command_10 rfl (lv_at hl 2 rfl) ?_
  refine zcS (As := [.int 112]) (rest := [.ref x9]) [] hg.1 ⟨hx, hb, hml, hown, hts⟩ (c_X6_isNumbered hg l D cy 112) (va_cwS 1 hts gX6_command_X6_isNumbered rfl rfl rfl (by decide +kernel) ⟨Nat.le_of_ble_eq_true rfl, Nat.le_of_ble_eq_true rfl⟩) hG hK hP hD hS hA rfl rfl rfl  rfl hl.1 rfl (Nat.le_of_ble_eq_true rfl) dX6_command_11 ⟨Nat.zero_le _, Nat.zero_le _⟩ (fun H locs hP hD hS => ?_)
  have hP : va_P D vwCl [(x9, .inr (10, [.int th, .int (nI ch), .int era, .int why, .int det, .int cau, .int (zI sv), .int (zI rj), .ref v9, .ref b9, .ref s9, .ref k9, .ref p9, .ref t9, .ref n9, .int (nI tn), .int (nI he), .int (nI en), .int (nI ln), .int (zI iw), .int (zI false)])), (t9, .inl (cy 0, 60, .inl tx))] H := hP
  have hD : va_D A [(x9, .inr (10, [.int th, .int (nI ch), .int era, .int why, .int det, .int cau, .int (zI sv), .int (zI rj), .ref v9, .ref b9, .ref s9, .ref k9, .ref p9, .ref t9, .ref n9, .int (nI tn), .int (nI he), .int (nI en), .int (nI ln), .int (zI iw), .int (zI false)])), (t9, .inl (cy 0, 60, .inl tx))] := hD
  refine z_top (y := zI false) (rfl) ?_
  refine lv_if_ne (tgt := 46) hx hb dX6_command_14 (by decide) (fun c_1 => ?_) (fun c_1 => ?_)
  · replace c_1 := zI1 c_1
    exact absurd c_1 (by decide)
  · replace c_1 := zI0 c_1
    refine lv_iload_n hx hb dX6_command_17 rfl (lv_at hl 2 rfl) ?_
    refine zcS (As := [.int 112]) (rest := [.ref x9]) [] hg.1 ⟨hx, hb, hml, hown, hts⟩ (c_X6_isDigit hg l D cy 112) (va_cwS 1 hts gX6_command_X6_isDigit rfl rfl rfl (by decide +kernel) ⟨Nat.le_of_ble_eq_true rfl, Nat.le_of_ble_eq_true rfl⟩) hG hK hP hD hS hA rfl rfl rfl  rfl hl.1 rfl (Nat.le_of_ble_eq_true rfl) dX6_command_18 ⟨Nat.zero_le _, Nat.zero_le _⟩ (fun H locs hP hD hS => ?_)
    have hP : va_P D vwCl [(x9, .inr (10, [.int th, .int (nI ch), .int era, .int why, .int det, .int cau, .int (zI sv), .int (zI rj), .ref v9, .ref b9, .ref s9, .ref k9, .ref p9, .ref t9, .ref n9, .int (nI tn), .int (nI he), .int (nI en), .int (nI ln), .int (zI iw), .int (zI false)])), (t9, .inl (cy 0, 60, .inl tx))] H := hP
    have hD : va_D A [(x9, .inr (10, [.int th, .int (nI ch), .int era, .int why, .int det, .int cau, .int (zI sv), .int (zI rj), .ref v9, .ref b9, .ref s9, .ref k9, .ref p9, .ref t9, .ref n9, .int (nI tn), .int (nI he), .int (nI en), .int (nI ln), .int (zI iw), .int (zI false)])), (t9, .inl (cy 0, 60, .inl tx))] := hD
    refine z_top (y := zI false) (rfl) ?_
    refine lv_if_ne (tgt := 46) hx hb dX6_command_21 (by decide) (fun c_2 => ?_) (fun c_2 => ?_)
    · replace c_2 := zI1 c_2
      exact absurd c_2 (by decide)
    · replace c_2 := zI0 c_2
      refine lv_iload_n hx hb dX6_command_24 rfl (lv_at hl 2 rfl) ?_
      refine lv_bipush (v := 120) hx hb dX6_command_25 (by decide) ?_
      refine lv_icmp_eq (tgt := 46) hx hb dX6_command_27 (by decide) (fun c_3 => ?_) (fun c_3 => ?_)
      · exact absurd c_3 (by decide)
      · refine lv_iload_n hx hb dX6_command_30 rfl (lv_at hl 2 rfl) ?_
        refine lv_bipush (v := 112) hx hb dX6_command_31 (by decide) ?_
        refine lv_icmp_eq (tgt := 46) hx hb dX6_command_33 (by decide) (fun c_4 => ?_) (fun c_4 => ?_)
        · refine lv_iconst (v := 0) hx hb dX6_command_46 (by decide) ?_
          refine z_top (y := zI false) rfl ?_
          refine va_put (D := D) (ci := 10) (v := .int (zI false)) (ty := .boolean) (C := RX6) (T := TX6) (N := 21) hx hb hts in_RX6 tyX6 tyX6_ok nmX6 hown hK hP hD hS 0 rfl rfl 19 (by decide) (hts _ (List.mem_of_getElem? (i := 1) rfl)) (fun _ h9 => h9) rfl (by decide +kernel) (zI_nar _) (zI_fit _) (Nat.le_of_ble_eq_true rfl) dX6_command_47 (fun H locs hP hD hS => ?_)
          have hP : va_P D vwCl [(x9, .inr (10, [.int th, .int (nI ch), .int era, .int why, .int det, .int cau, .int (zI sv), .int (zI rj), .ref v9, .ref b9, .ref s9, .ref k9, .ref p9, .ref t9, .ref n9, .int (nI tn), .int (nI he), .int (nI en), .int (nI ln), .int (zI false), .int (zI false)])), (t9, .inl (cy 0, 60, .inl tx))] H := hP
          have hD : va_D A [(x9, .inr (10, [.int th, .int (nI ch), .int era, .int why, .int det, .int cau, .int (zI sv), .int (zI rj), .ref v9, .ref b9, .ref s9, .ref k9, .ref p9, .ref t9, .ref n9, .int (nI tn), .int (nI he), .int (nI en), .int (nI ln), .int (zI false), .int (zI false)])), (t9, .inl (cy 0, 60, .inl tx))] := hD
          refine lv_aload_n hx hb dX6_command_50 rfl (lv_at hl 3 rfl) ?_
          refine va_get (D := D) (ci := 10) (v := .int (zI false)) (C := RX6) (T := TX6) (N := 21) hx hb hts in_RX6 hown hK hP 0 rfl rfl 19 (by decide) (hts _ (List.mem_of_getElem? (i := 1) rfl)) (fun _ h9 => h9) rfl dX6_command_51 ?_
          refine lv_if_eq (tgt := 58) hx hb dX6_command_54 (by decide) (fun c_5 => ?_) (fun c_5 => ?_)
          · replace c_5 := zI0 c_5
            refine lv_aload_n hx hb dX6_command_58 rfl (lv_at hl 3 rfl) ?_
            refine lv_dup hx hb dX6_command_59 rfl ?_
            refine va_get (D := D) (ci := 10) (v := .int (nI he)) (C := RX6) (T := TX6) (N := 21) hx hb hts in_RX6 hown hK hP 0 rfl rfl 16 (by decide) (hts _ (List.mem_of_getElem? (i := 2) rfl)) (fun _ h9 => h9) rfl dX6_command_60 ?_
            refine lv_iconst (v := 1) hx hb dX6_command_63 (by decide) ?_
            refine lv_iadd hx hb dX6_command_64 ?_
            refine z_top (y := nI (he + 1)) (nI_add he 1) ?_
            refine va_put (D := D) (ci := 10) (v := .int (nI (he + 1))) (ty := .int) (C := RX6) (T := TX6) (N := 21) hx hb hts in_RX6 tyX6 tyX6_ok nmX6 hown hK hP hD hS 0 rfl rfl 16 (by decide) (hts _ (List.mem_of_getElem? (i := 2) rfl)) (fun _ h9 => h9) rfl (by decide +kernel) rfl rfl (Nat.le_of_ble_eq_true rfl) dX6_command_65 (fun H locs hP hD hS => ?_)
            have hP : va_P D vwCl [(x9, .inr (10, [.int th, .int (nI ch), .int era, .int why, .int det, .int cau, .int (zI sv), .int (zI rj), .ref v9, .ref b9, .ref s9, .ref k9, .ref p9, .ref t9, .ref n9, .int (nI tn), .int (nI (he + 1)), .int (nI en), .int (nI ln), .int (zI false), .int (zI false)])), (t9, .inl (cy 0, 60, .inl tx))] H := hP
            have hD : va_D A [(x9, .inr (10, [.int th, .int (nI ch), .int era, .int why, .int det, .int cau, .int (zI sv), .int (zI rj), .ref v9, .ref b9, .ref s9, .ref k9, .ref p9, .ref t9, .ref n9, .int (nI tn), .int (nI (he + 1)), .int (nI en), .int (nI ln), .int (zI false), .int (zI false)])), (t9, .inl (cy 0, 60, .inl tx))] := hD
            refine lv_iload_n hx hb dX6_command_68 rfl (lv_at hl 2 rfl) ?_
            refine zcS (As := [.int 112]) (rest := []) [] hg.1 ⟨hx, hb, hml, hown, hts⟩ (c_X6_isNumbered hg l D cy 112) (va_cwS 1 hts gX6_command_X6_isNumbered rfl rfl rfl (by decide +kernel) ⟨Nat.le_of_ble_eq_true rfl, Nat.le_of_ble_eq_true rfl⟩) hG hK hP hD hS hA rfl rfl rfl  rfl hl.1 rfl (Nat.le_of_ble_eq_true rfl) dX6_command_69 ⟨Nat.zero_le _, Nat.zero_le _⟩ (fun H locs hP hD hS => ?_)
            have hP : va_P D vwCl [(x9, .inr (10, [.int th, .int (nI ch), .int era, .int why, .int det, .int cau, .int (zI sv), .int (zI rj), .ref v9, .ref b9, .ref s9, .ref k9, .ref p9, .ref t9, .ref n9, .int (nI tn), .int (nI (he + 1)), .int (nI en), .int (nI ln), .int (zI false), .int (zI false)])), (t9, .inl (cy 0, 60, .inl tx))] H := hP
            have hD : va_D A [(x9, .inr (10, [.int th, .int (nI ch), .int era, .int why, .int det, .int cau, .int (zI sv), .int (zI rj), .ref v9, .ref b9, .ref s9, .ref k9, .ref p9, .ref t9, .ref n9, .int (nI tn), .int (nI (he + 1)), .int (nI en), .int (nI ln), .int (zI false), .int (zI false)])), (t9, .inl (cy 0, 60, .inl tx))] := hD
            refine z_top (y := zI false) (rfl) ?_
            refine lv_if_eq (tgt := 81) hx hb dX6_command_72 (by decide) (fun c_6 => ?_) (fun c_6 => ?_)
            · replace c_6 := zI0 c_6
              refine lv_iload_n hx hb dX6_command_81 rfl (lv_at hl 2 rfl) ?_
              refine zcS (As := [.int 112]) (rest := []) [] hg.1 ⟨hx, hb, hml, hown, hts⟩ (c_X6_isDigit hg l D cy 112) (va_cwS 1 hts gX6_command_X6_isDigit rfl rfl rfl (by decide +kernel) ⟨Nat.le_of_ble_eq_true rfl, Nat.le_of_ble_eq_true rfl⟩) hG hK hP hD hS hA rfl rfl rfl  rfl hl.1 rfl (Nat.le_of_ble_eq_true rfl) dX6_command_82 ⟨Nat.zero_le _, Nat.zero_le _⟩ (fun H locs hP hD hS => ?_)
              have hP : va_P D vwCl [(x9, .inr (10, [.int th, .int (nI ch), .int era, .int why, .int det, .int cau, .int (zI sv), .int (zI rj), .ref v9, .ref b9, .ref s9, .ref k9, .ref p9, .ref t9, .ref n9, .int (nI tn), .int (nI (he + 1)), .int (nI en), .int (nI ln), .int (zI false), .int (zI false)])), (t9, .inl (cy 0, 60, .inl tx))] H := hP
              have hD : va_D A [(x9, .inr (10, [.int th, .int (nI ch), .int era, .int why, .int det, .int cau, .int (zI sv), .int (zI rj), .ref v9, .ref b9, .ref s9, .ref k9, .ref p9, .ref t9, .ref n9, .int (nI tn), .int (nI (he + 1)), .int (nI en), .int (nI ln), .int (zI false), .int (zI false)])), (t9, .inl (cy 0, 60, .inl tx))] := hD
              refine z_top (y := zI false) (rfl) ?_
              refine lv_if_eq (tgt := 94) hx hb dX6_command_85 (by decide) (fun c_7 => ?_) (fun c_7 => ?_)
              · replace c_7 := zI0 c_7
                refine lv_iload_n hx hb dX6_command_94 rfl (lv_at hl 2 rfl) ?_
                refine lv_bipush (v := 112) hx hb dX6_command_95 (by decide) ?_
                refine lv_icmp_ne (tgt := 105) hx hb dX6_command_97 (by decide) (fun c_8 => ?_) (fun c_8 => ?_)
                · exact absurd c_8 (by decide)
                · refine lv_aload_n hx hb dX6_command_100 rfl (lv_at hl 3 rfl) ?_
                  refine zcV (As := []) (rest := []) [0, 1] 0 hg.1 ⟨hx, hb, hml, hown, hts⟩ (c_X6_mask hg l D cy x9 th ch era why det cau sv rj v9 b9 s9 k9 p9 t9 n9 tn (he + 1) en ln false tx (by first | assumption | omega) (by first | assumption | omega) (by first | assumption | omega)) (cwV 0 hts gX6_command_X6_mask rfl rfl rfl (by decide +kernel) ⟨Nat.le_of_ble_eq_true rfl, Nat.le_of_ble_eq_true rfl⟩) hG hK hP hD hS hA rfl rfl (Eq.trans (b := [x9, t9]) rfl rfl) rfl rfl rfl hl.1 rfl (Nat.le_of_ble_eq_true rfl) dX6_command_101 ⟨Nat.zero_le _, Nat.zero_le _⟩ (fun H locs hP hD hS => ?_)
                  have hP : va_P D vwCl [(x9, .inr (10, [.int th, .int (nI ch), .int era, .int why, .int det, .int cau, .int (zI sv), .int (zI rj), .ref v9, .ref b9, .ref s9, .ref k9, .ref p9, .ref t9, .ref n9, .int (nI tn), .int (nI ((he + 1) + zkN tx en 8 (he + 1))), .int (nI en), .int (nI ln), .int (zI (decide (¬ zkN tx en 8 (he + 1) = 8))), .int (zI false)])), (t9, .inl (cy 0, 60, .inl tx))] H := hP
                  have hD : va_D A [(x9, .inr (10, [.int th, .int (nI ch), .int era, .int why, .int det, .int cau, .int (zI sv), .int (zI rj), .ref v9, .ref b9, .ref s9, .ref k9, .ref p9, .ref t9, .ref n9, .int (nI tn), .int (nI ((he + 1) + zkN tx en 8 (he + 1))), .int (nI en), .int (nI ln), .int (zI (decide (¬ zkN tx en 8 (he + 1) = 8))), .int (zI false)])), (t9, .inl (cy 0, 60, .inl tx))] := hD
                  refine lv_istore_n (lv' := [(2, .int (zkM tx en 8 (he + 1) 0 0)), (3, .int 0), (1, .int 112), (0, .ref x9)]) hx hb dX6_command_104 rfl hl (by decide) rfl (fun ls hl => ?_)
                  refine lv_iload_n hx hb dX6_command_105 rfl (lv_at hl 2 rfl) ?_
                  refine lv_bipush (v := 99) hx hb dX6_command_106 (by decide) ?_
                  refine lv_icmp_ne (tgt := 118) hx hb dX6_command_108 (by decide) (fun c_9 => ?_) (fun c_9 => ?_)
                  · refine lv_iload_n hx hb dX6_command_118 rfl (lv_at hl 2 rfl) ?_
                    refine lv_bipush (v := 121) hx hb dX6_command_119 (by decide) ?_
                    refine lv_icmp_ne (tgt := 131) hx hb dX6_command_121 (by decide) (fun c_10 => ?_) (fun c_10 => ?_)
                    · refine lv_aload_n hx hb dX6_command_131 rfl (lv_at hl 3 rfl) ?_
                      refine va_get (D := D) (ci := 10) (v := .int (zI (decide (¬ zkN tx en 8 (he + 1) = 8)))) (C := RX6) (T := TX6) (N := 21) hx hb hts in_RX6 hown hK hP 0 rfl rfl 19 (by decide) (hts _ (List.mem_of_getElem? (i := 1) rfl)) (fun _ h9 => h9) rfl dX6_command_132 ?_
                      refine lv_if_ne (tgt := 145) hx hb dX6_command_135 (by decide) (fun c_11 => ?_) (fun c_11 => ?_)
                      · replace c_11 := zI1 c_11
                        exact zvret hend hx hb hr hlk hK hP hD hS dX6_command_145 rfl
                      · replace c_11 := zI0 c_11
                        refine lv_aload_n hx hb dX6_command_138 rfl (lv_at hl 3 rfl) ?_
                        refine va_get (D := D) (ci := 10) (v := .int (zI false)) (C := RX6) (T := TX6) (N := 21) hx hb hts in_RX6 hown hK hP 0 rfl rfl 20 (by decide) (hts _ (List.mem_of_getElem? (i := 3) rfl)) (fun _ h9 => h9) rfl dX6_command_139 ?_
                        refine lv_if_ne (tgt := 146) hx hb dX6_command_142 (by decide) (fun c_12 => ?_) (fun c_12 => ?_)
                        · replace c_12 := zI1 c_12
                          exact absurd c_12 (by decide)
                        · replace c_12 := zI0 c_12
                          exact zvret hend hx hb hr hlk hK hP hD hS dX6_command_145 rfl
                    · exact absurd c_10 (by decide)
                  · exact absurd c_9 (by decide)
              · replace c_7 := zI1 c_7
                exact absurd c_7 (by decide)
            · replace c_6 := zI1 c_6
              exact absurd c_6 (by decide)
          · replace c_5 := zI1 c_5
            exact absurd c_5 (by decide)
        · exact absurd c_4 (by decide)

abbrev rmX6_command_p120 : Room := { frames := 3, cells := 0, slots := 0, locals := 66 }
set_option maxHeartbeats 4000000 in
set_option maxRecDepth 100000 in
theorem c_X6_command_p120 {G : zG} (hg : zGN G) (l : Launch) (D : va_G) (cy : Nat → ClassId) (x9 : Nat) (th : Int32) (ch : Nat) (era : Int32) (why : Int32) (det : Int32) (cau : Int32) (sv : Bool) (rj : Bool) (v9 : Nat) (b9 : Nat) (s9 : Nat) (k9 : Nat) (p9 : Nat) (t9 : Nat) (n9 : Nat) (tn : Nat) (he : Nat) (en : Nat) (ln : Nat) (iw : Bool) (tx : Nat → Int32) (hhe : he ≤ 60) (hen : en ≤ 60) (hc : zqs tx en he = 120) : zM G D vwCl (zT cy) l yX6_command wsX6_command rmX6_command_p120 [.ref x9] [(x9, .inr (10, [.int th, .int (nI ch), .int era, .int why, .int det, .int cau, .int (zI sv), .int (zI rj), .ref v9, .ref b9, .ref s9, .ref k9, .ref p9, .ref t9, .ref n9, .int (nI tn), .int (nI he), .int (nI en), .int (nI ln), .int (zI iw), .int (zI false)])), (t9, .inl (cy 0, 60, .inl tx))] none [(x9, .inr (10, [.int th, .int (nI ch), .int era, .int why, .int det, .int cau, .int (zI sv), .int (zI rj), .ref v9, .ref b9, .ref s9, .ref k9, .ref p9, .ref t9, .ref n9, .int (nI tn), .int (nI (he + 1)), .int (nI en), .int (nI ln), .int (zI false), .int (zI false)])), (t9, .inl (cy 0, 60, .inl tx))] := by
  refine zM_of (cc := cX6_command) (maxL := 5) (ret := none) (by decide) rfl (Nat.le_of_ble_eq_true rfl) ?_
  intro p e s m below meth c A Q hend hx hb hml hr hts hown hlk hG hK hP hD hA hS ls hl
  have hown : s.vm.findClass RX6 = some m.cls := hown
  have in_RX6 : ∀ w ∈ u_ws RX6 TX6 21, w ∈ wsX6_command := by decide +kernel
  have hl : lv_has ls 5 [(0, .ref x9)] := hl
  refine lv_aload_n hx hb dX6_command_0 rfl (lv_at hl 0 rfl) ?_
  refine zcV (As := []) (rest := []) [0, 1] 0 hg.1 ⟨hx, hb, hml, hown, hts⟩ (c_X6_sign hg l D cy x9 th ch era why det cau sv rj v9 b9 s9 k9 p9 t9 n9 tn he en ln iw false tx (by first | assumption | omega) (by first | assumption | omega)) (cwV 0 hts gX6_command_X6_sign rfl rfl rfl (by decide +kernel) ⟨Nat.le_of_ble_eq_true rfl, Nat.le_of_ble_eq_true rfl⟩) hG hK hP hD hS hA rfl rfl rfl rfl rfl rfl hl.1 rfl (Nat.le_of_ble_eq_true rfl) dX6_command_1 ⟨Nat.zero_le _, Nat.zero_le _⟩ (fun H locs hP hD hS => ?_)
  have hP : va_P D vwCl [(x9, .inr (10, [.int th, .int (nI ch), .int era, .int why, .int det, .int cau, .int (zI sv), .int (zI rj), .ref v9, .ref b9, .ref s9, .ref k9, .ref p9, .ref t9, .ref n9, .int (nI tn), .int (nI he), .int (nI en), .int (nI ln), .int (zI iw), .int (zI false)])), (t9, .inl (cy 0, 60, .inl tx))] H := hP
  have hD : va_D A [(x9, .inr (10, [.int th, .int (nI ch), .int era, .int why, .int det, .int cau, .int (zI sv), .int (zI rj), .ref v9, .ref b9, .ref s9, .ref k9, .ref p9, .ref t9, .ref n9, .int (nI tn), .int (nI he), .int (nI en), .int (nI ln), .int (zI iw), .int (zI false)])), (t9, .inl (cy 0, 60, .inl tx))] := hD
  refine z_top (y := 120) (hc) ?_
  refine lv_istore_n (lv' := [(1, .int 120), (0, .ref x9)]) hx hb dX6_command_4 rfl hl (by decide) rfl (fun ls hl => ?_)
  refine lv_iconst (v := 0) hx hb dX6_command_5 (by decide) ?_
  refine lv_istore_n (lv' := [(2, .int 0), (1, .int 120), (0, .ref x9)]) hx hb dX6_command_6 rfl hl (by decide) rfl (fun ls hl => ?_)
  refine lv_iconst (v := 0) hx hb dX6_command_7 (by decide) ?_
  refine lv_istore_n (lv' := [(3, .int 0), (2, .int 0), (1, .int 120), (0, .ref x9)]) hx hb dX6_command_8 rfl hl (by decide) rfl (fun ls hl => ?_)
  refine lv_aload_n hx hb dX6_command_9 rfl (lv_at hl 3 rfl) ?_
  refine lv_iload_n hx hb dX6_command_10 rfl (lv_at hl 2 rfl) ?_
  refine zcS (As := [.int 120]) (rest := [.ref x9]) [] hg.1 ⟨hx, hb, hml, hown, hts⟩ (c_X6_isNumbered hg l D cy 120) (va_cwS 1 hts gX6_command_X6_isNumbered rfl rfl rfl (by decide +kernel) ⟨Nat.le_of_ble_eq_true rfl, Nat.le_of_ble_eq_true rfl⟩) hG hK hP hD hS hA rfl rfl rfl  rfl hl.1 rfl (Nat.le_of_ble_eq_true rfl) dX6_command_11 ⟨Nat.zero_le _, Nat.zero_le _⟩ (fun H locs hP hD hS => ?_)
  have hP : va_P D vwCl [(x9, .inr (10, [.int th, .int (nI ch), .int era, .int why, .int det, .int cau, .int (zI sv), .int (zI rj), .ref v9, .ref b9, .ref s9, .ref k9, .ref p9, .ref t9, .ref n9, .int (nI tn), .int (nI he), .int (nI en), .int (nI ln), .int (zI iw), .int (zI false)])), (t9, .inl (cy 0, 60, .inl tx))] H := hP
  have hD : va_D A [(x9, .inr (10, [.int th, .int (nI ch), .int era, .int why, .int det, .int cau, .int (zI sv), .int (zI rj), .ref v9, .ref b9, .ref s9, .ref k9, .ref p9, .ref t9, .ref n9, .int (nI tn), .int (nI he), .int (nI en), .int (nI ln), .int (zI iw), .int (zI false)])), (t9, .inl (cy 0, 60, .inl tx))] := hD
  refine z_top (y := zI false) (rfl) ?_
  refine lv_if_ne (tgt := 46) hx hb dX6_command_14 (by decide) (fun c_1 => ?_) (fun c_1 => ?_)
  · replace c_1 := zI1 c_1
    exact absurd c_1 (by decide)
  · replace c_1 := zI0 c_1
    refine lv_iload_n hx hb dX6_command_17 rfl (lv_at hl 2 rfl) ?_
    refine zcS (As := [.int 120]) (rest := [.ref x9]) [] hg.1 ⟨hx, hb, hml, hown, hts⟩ (c_X6_isDigit hg l D cy 120) (va_cwS 1 hts gX6_command_X6_isDigit rfl rfl rfl (by decide +kernel) ⟨Nat.le_of_ble_eq_true rfl, Nat.le_of_ble_eq_true rfl⟩) hG hK hP hD hS hA rfl rfl rfl  rfl hl.1 rfl (Nat.le_of_ble_eq_true rfl) dX6_command_18 ⟨Nat.zero_le _, Nat.zero_le _⟩ (fun H locs hP hD hS => ?_)
    have hP : va_P D vwCl [(x9, .inr (10, [.int th, .int (nI ch), .int era, .int why, .int det, .int cau, .int (zI sv), .int (zI rj), .ref v9, .ref b9, .ref s9, .ref k9, .ref p9, .ref t9, .ref n9, .int (nI tn), .int (nI he), .int (nI en), .int (nI ln), .int (zI iw), .int (zI false)])), (t9, .inl (cy 0, 60, .inl tx))] H := hP
    have hD : va_D A [(x9, .inr (10, [.int th, .int (nI ch), .int era, .int why, .int det, .int cau, .int (zI sv), .int (zI rj), .ref v9, .ref b9, .ref s9, .ref k9, .ref p9, .ref t9, .ref n9, .int (nI tn), .int (nI he), .int (nI en), .int (nI ln), .int (zI iw), .int (zI false)])), (t9, .inl (cy 0, 60, .inl tx))] := hD
    refine z_top (y := zI false) (rfl) ?_
    refine lv_if_ne (tgt := 46) hx hb dX6_command_21 (by decide) (fun c_2 => ?_) (fun c_2 => ?_)
    · replace c_2 := zI1 c_2
      exact absurd c_2 (by decide)
    · replace c_2 := zI0 c_2
      refine lv_iload_n hx hb dX6_command_24 rfl (lv_at hl 2 rfl) ?_
      refine lv_bipush (v := 120) hx hb dX6_command_25 (by decide) ?_
      refine lv_icmp_eq (tgt := 46) hx hb dX6_command_27 (by decide) (fun c_3 => ?_) (fun c_3 => ?_)
      · refine lv_iconst (v := 0) hx hb dX6_command_46 (by decide) ?_
        refine z_top (y := zI false) rfl ?_
        refine va_put (D := D) (ci := 10) (v := .int (zI false)) (ty := .boolean) (C := RX6) (T := TX6) (N := 21) hx hb hts in_RX6 tyX6 tyX6_ok nmX6 hown hK hP hD hS 0 rfl rfl 19 (by decide) (hts _ (List.mem_of_getElem? (i := 1) rfl)) (fun _ h9 => h9) rfl (by decide +kernel) (zI_nar _) (zI_fit _) (Nat.le_of_ble_eq_true rfl) dX6_command_47 (fun H locs hP hD hS => ?_)
        have hP : va_P D vwCl [(x9, .inr (10, [.int th, .int (nI ch), .int era, .int why, .int det, .int cau, .int (zI sv), .int (zI rj), .ref v9, .ref b9, .ref s9, .ref k9, .ref p9, .ref t9, .ref n9, .int (nI tn), .int (nI he), .int (nI en), .int (nI ln), .int (zI false), .int (zI false)])), (t9, .inl (cy 0, 60, .inl tx))] H := hP
        have hD : va_D A [(x9, .inr (10, [.int th, .int (nI ch), .int era, .int why, .int det, .int cau, .int (zI sv), .int (zI rj), .ref v9, .ref b9, .ref s9, .ref k9, .ref p9, .ref t9, .ref n9, .int (nI tn), .int (nI he), .int (nI en), .int (nI ln), .int (zI false), .int (zI false)])), (t9, .inl (cy 0, 60, .inl tx))] := hD
        refine lv_aload_n hx hb dX6_command_50 rfl (lv_at hl 3 rfl) ?_
        refine va_get (D := D) (ci := 10) (v := .int (zI false)) (C := RX6) (T := TX6) (N := 21) hx hb hts in_RX6 hown hK hP 0 rfl rfl 19 (by decide) (hts _ (List.mem_of_getElem? (i := 1) rfl)) (fun _ h9 => h9) rfl dX6_command_51 ?_
        refine lv_if_eq (tgt := 58) hx hb dX6_command_54 (by decide) (fun c_4 => ?_) (fun c_4 => ?_)
        · replace c_4 := zI0 c_4
          refine lv_aload_n hx hb dX6_command_58 rfl (lv_at hl 3 rfl) ?_
          refine lv_dup hx hb dX6_command_59 rfl ?_
          refine va_get (D := D) (ci := 10) (v := .int (nI he)) (C := RX6) (T := TX6) (N := 21) hx hb hts in_RX6 hown hK hP 0 rfl rfl 16 (by decide) (hts _ (List.mem_of_getElem? (i := 2) rfl)) (fun _ h9 => h9) rfl dX6_command_60 ?_
          refine lv_iconst (v := 1) hx hb dX6_command_63 (by decide) ?_
          refine lv_iadd hx hb dX6_command_64 ?_
          refine z_top (y := nI (he + 1)) (nI_add he 1) ?_
          refine va_put (D := D) (ci := 10) (v := .int (nI (he + 1))) (ty := .int) (C := RX6) (T := TX6) (N := 21) hx hb hts in_RX6 tyX6 tyX6_ok nmX6 hown hK hP hD hS 0 rfl rfl 16 (by decide) (hts _ (List.mem_of_getElem? (i := 2) rfl)) (fun _ h9 => h9) rfl (by decide +kernel) rfl rfl (Nat.le_of_ble_eq_true rfl) dX6_command_65 (fun H locs hP hD hS => ?_)
          have hP : va_P D vwCl [(x9, .inr (10, [.int th, .int (nI ch), .int era, .int why, .int det, .int cau, .int (zI sv), .int (zI rj), .ref v9, .ref b9, .ref s9, .ref k9, .ref p9, .ref t9, .ref n9, .int (nI tn), .int (nI (he + 1)), .int (nI en), .int (nI ln), .int (zI false), .int (zI false)])), (t9, .inl (cy 0, 60, .inl tx))] H := hP
          have hD : va_D A [(x9, .inr (10, [.int th, .int (nI ch), .int era, .int why, .int det, .int cau, .int (zI sv), .int (zI rj), .ref v9, .ref b9, .ref s9, .ref k9, .ref p9, .ref t9, .ref n9, .int (nI tn), .int (nI (he + 1)), .int (nI en), .int (nI ln), .int (zI false), .int (zI false)])), (t9, .inl (cy 0, 60, .inl tx))] := hD
          refine lv_iload_n hx hb dX6_command_68 rfl (lv_at hl 2 rfl) ?_
          refine zcS (As := [.int 120]) (rest := []) [] hg.1 ⟨hx, hb, hml, hown, hts⟩ (c_X6_isNumbered hg l D cy 120) (va_cwS 1 hts gX6_command_X6_isNumbered rfl rfl rfl (by decide +kernel) ⟨Nat.le_of_ble_eq_true rfl, Nat.le_of_ble_eq_true rfl⟩) hG hK hP hD hS hA rfl rfl rfl  rfl hl.1 rfl (Nat.le_of_ble_eq_true rfl) dX6_command_69 ⟨Nat.zero_le _, Nat.zero_le _⟩ (fun H locs hP hD hS => ?_)
          have hP : va_P D vwCl [(x9, .inr (10, [.int th, .int (nI ch), .int era, .int why, .int det, .int cau, .int (zI sv), .int (zI rj), .ref v9, .ref b9, .ref s9, .ref k9, .ref p9, .ref t9, .ref n9, .int (nI tn), .int (nI (he + 1)), .int (nI en), .int (nI ln), .int (zI false), .int (zI false)])), (t9, .inl (cy 0, 60, .inl tx))] H := hP
          have hD : va_D A [(x9, .inr (10, [.int th, .int (nI ch), .int era, .int why, .int det, .int cau, .int (zI sv), .int (zI rj), .ref v9, .ref b9, .ref s9, .ref k9, .ref p9, .ref t9, .ref n9, .int (nI tn), .int (nI (he + 1)), .int (nI en), .int (nI ln), .int (zI false), .int (zI false)])), (t9, .inl (cy 0, 60, .inl tx))] := hD
          refine z_top (y := zI false) (rfl) ?_
          refine lv_if_eq (tgt := 81) hx hb dX6_command_72 (by decide) (fun c_5 => ?_) (fun c_5 => ?_)
          · replace c_5 := zI0 c_5
            refine lv_iload_n hx hb dX6_command_81 rfl (lv_at hl 2 rfl) ?_
            refine zcS (As := [.int 120]) (rest := []) [] hg.1 ⟨hx, hb, hml, hown, hts⟩ (c_X6_isDigit hg l D cy 120) (va_cwS 1 hts gX6_command_X6_isDigit rfl rfl rfl (by decide +kernel) ⟨Nat.le_of_ble_eq_true rfl, Nat.le_of_ble_eq_true rfl⟩) hG hK hP hD hS hA rfl rfl rfl  rfl hl.1 rfl (Nat.le_of_ble_eq_true rfl) dX6_command_82 ⟨Nat.zero_le _, Nat.zero_le _⟩ (fun H locs hP hD hS => ?_)
            have hP : va_P D vwCl [(x9, .inr (10, [.int th, .int (nI ch), .int era, .int why, .int det, .int cau, .int (zI sv), .int (zI rj), .ref v9, .ref b9, .ref s9, .ref k9, .ref p9, .ref t9, .ref n9, .int (nI tn), .int (nI (he + 1)), .int (nI en), .int (nI ln), .int (zI false), .int (zI false)])), (t9, .inl (cy 0, 60, .inl tx))] H := hP
            have hD : va_D A [(x9, .inr (10, [.int th, .int (nI ch), .int era, .int why, .int det, .int cau, .int (zI sv), .int (zI rj), .ref v9, .ref b9, .ref s9, .ref k9, .ref p9, .ref t9, .ref n9, .int (nI tn), .int (nI (he + 1)), .int (nI en), .int (nI ln), .int (zI false), .int (zI false)])), (t9, .inl (cy 0, 60, .inl tx))] := hD
            refine z_top (y := zI false) (rfl) ?_
            refine lv_if_eq (tgt := 94) hx hb dX6_command_85 (by decide) (fun c_6 => ?_) (fun c_6 => ?_)
            · replace c_6 := zI0 c_6
              refine lv_iload_n hx hb dX6_command_94 rfl (lv_at hl 2 rfl) ?_
              refine lv_bipush (v := 112) hx hb dX6_command_95 (by decide) ?_
              refine lv_icmp_ne (tgt := 105) hx hb dX6_command_97 (by decide) (fun c_7 => ?_) (fun c_7 => ?_)
              · refine lv_iload_n hx hb dX6_command_105 rfl (lv_at hl 2 rfl) ?_
                refine lv_bipush (v := 99) hx hb dX6_command_106 (by decide) ?_
                refine lv_icmp_ne (tgt := 118) hx hb dX6_command_108 (by decide) (fun c_8 => ?_) (fun c_8 => ?_)
                · refine lv_iload_n hx hb dX6_command_118 rfl (lv_at hl 2 rfl) ?_
                  refine lv_bipush (v := 121) hx hb dX6_command_119 (by decide) ?_
                  refine lv_icmp_ne (tgt := 131) hx hb dX6_command_121 (by decide) (fun c_9 => ?_) (fun c_9 => ?_)
                  · refine lv_aload_n hx hb dX6_command_131 rfl (lv_at hl 3 rfl) ?_
                    refine va_get (D := D) (ci := 10) (v := .int (zI false)) (C := RX6) (T := TX6) (N := 21) hx hb hts in_RX6 hown hK hP 0 rfl rfl 19 (by decide) (hts _ (List.mem_of_getElem? (i := 1) rfl)) (fun _ h9 => h9) rfl dX6_command_132 ?_
                    refine lv_if_ne (tgt := 145) hx hb dX6_command_135 (by decide) (fun c_10 => ?_) (fun c_10 => ?_)
                    · replace c_10 := zI1 c_10
                      exact absurd c_10 (by decide)
                    · replace c_10 := zI0 c_10
                      refine lv_aload_n hx hb dX6_command_138 rfl (lv_at hl 3 rfl) ?_
                      refine va_get (D := D) (ci := 10) (v := .int (zI false)) (C := RX6) (T := TX6) (N := 21) hx hb hts in_RX6 hown hK hP 0 rfl rfl 20 (by decide) (hts _ (List.mem_of_getElem? (i := 3) rfl)) (fun _ h9 => h9) rfl dX6_command_139 ?_
                      refine lv_if_ne (tgt := 146) hx hb dX6_command_142 (by decide) (fun c_11 => ?_) (fun c_11 => ?_)
                      · replace c_11 := zI1 c_11
                        exact absurd c_11 (by decide)
                      · replace c_11 := zI0 c_11
                        exact zvret hend hx hb hr hlk hK hP hD hS dX6_command_145 rfl
                  · exact absurd c_9 (by decide)
                · exact absurd c_8 (by decide)
              · exact absurd c_7 (by decide)
            · replace c_6 := zI1 c_6
              exact absurd c_6 (by decide)
          · replace c_5 := zI1 c_5
            exact absurd c_5 (by decide)
        · replace c_4 := zI1 c_4
          exact absurd c_4 (by decide)
      · exact absurd c_3 (by decide)

abbrev rmX6_command_p113 : Room := { frames := 3, cells := 0, slots := 0, locals := 66 }
set_option maxHeartbeats 4000000 in
set_option maxRecDepth 100000 in
theorem c_X6_command_p113 {G : zG} (hg : zGN G) (l : Launch) (D : va_G) (cy : Nat → ClassId) (x9 : Nat) (th : Int32) (ch : Nat) (era : Int32) (why : Int32) (det : Int32) (cau : Int32) (sv : Bool) (rj : Bool) (v9 : Nat) (b9 : Nat) (s9 : Nat) (k9 : Nat) (p9 : Nat) (t9 : Nat) (n9 : Nat) (tn : Nat) (he : Nat) (en : Nat) (ln : Nat) (iw : Bool) (tx : Nat → Int32) (hhe : he ≤ 60) (hen : en ≤ 60) (hc : zqs tx en he = 113) : zM G D vwCl (zT cy) l yX6_command wsX6_command rmX6_command_p113 [.ref x9] [(x9, .inr (10, [.int th, .int (nI ch), .int era, .int why, .int det, .int cau, .int (zI sv), .int (zI rj), .ref v9, .ref b9, .ref s9, .ref k9, .ref p9, .ref t9, .ref n9, .int (nI tn), .int (nI he), .int (nI en), .int (nI ln), .int (zI iw), .int (zI false)])), (t9, .inl (cy 0, 60, .inl tx))] none [(x9, .inr (10, [.int th, .int (nI ch), .int era, .int why, .int det, .int cau, .int (zI sv), .int (zI rj), .ref v9, .ref b9, .ref s9, .ref k9, .ref p9, .ref t9, .ref n9, .int (nI tn), .int (nI (he + 1)), .int (nI en), .int (nI ln), .int (zI false), .int (zI false)])), (t9, .inl (cy 0, 60, .inl tx))] := by
  refine zM_of (cc := cX6_command) (maxL := 5) (ret := none) (by decide) rfl (Nat.le_of_ble_eq_true rfl) ?_
  intro p e s m below meth c A Q hend hx hb hml hr hts hown hlk hG hK hP hD hA hS ls hl
  have hown : s.vm.findClass RX6 = some m.cls := hown
  have in_RX6 : ∀ w ∈ u_ws RX6 TX6 21, w ∈ wsX6_command := by decide +kernel
  have hl : lv_has ls 5 [(0, .ref x9)] := hl
  refine lv_aload_n hx hb dX6_command_0 rfl (lv_at hl 0 rfl) ?_
  refine zcV (As := []) (rest := []) [0, 1] 0 hg.1 ⟨hx, hb, hml, hown, hts⟩ (c_X6_sign hg l D cy x9 th ch era why det cau sv rj v9 b9 s9 k9 p9 t9 n9 tn he en ln iw false tx (by first | assumption | omega) (by first | assumption | omega)) (cwV 0 hts gX6_command_X6_sign rfl rfl rfl (by decide +kernel) ⟨Nat.le_of_ble_eq_true rfl, Nat.le_of_ble_eq_true rfl⟩) hG hK hP hD hS hA rfl rfl rfl rfl rfl rfl hl.1 rfl (Nat.le_of_ble_eq_true rfl) dX6_command_1 ⟨Nat.zero_le _, Nat.zero_le _⟩ (fun H locs hP hD hS => ?_)
  have hP : va_P D vwCl [(x9, .inr (10, [.int th, .int (nI ch), .int era, .int why, .int det, .int cau, .int (zI sv), .int (zI rj), .ref v9, .ref b9, .ref s9, .ref k9, .ref p9, .ref t9, .ref n9, .int (nI tn), .int (nI he), .int (nI en), .int (nI ln), .int (zI iw), .int (zI false)])), (t9, .inl (cy 0, 60, .inl tx))] H := hP
  have hD : va_D A [(x9, .inr (10, [.int th, .int (nI ch), .int era, .int why, .int det, .int cau, .int (zI sv), .int (zI rj), .ref v9, .ref b9, .ref s9, .ref k9, .ref p9, .ref t9, .ref n9, .int (nI tn), .int (nI he), .int (nI en), .int (nI ln), .int (zI iw), .int (zI false)])), (t9, .inl (cy 0, 60, .inl tx))] := hD
  refine z_top (y := 113) (hc) ?_
  refine lv_istore_n (lv' := [(1, .int 113), (0, .ref x9)]) hx hb dX6_command_4 rfl hl (by decide) rfl (fun ls hl => ?_)
  refine lv_iconst (v := 0) hx hb dX6_command_5 (by decide) ?_
  refine lv_istore_n (lv' := [(2, .int 0), (1, .int 113), (0, .ref x9)]) hx hb dX6_command_6 rfl hl (by decide) rfl (fun ls hl => ?_)
  refine lv_iconst (v := 0) hx hb dX6_command_7 (by decide) ?_
  refine lv_istore_n (lv' := [(3, .int 0), (2, .int 0), (1, .int 113), (0, .ref x9)]) hx hb dX6_command_8 rfl hl (by decide) rfl (fun ls hl => ?_)
  refine lv_aload_n hx hb dX6_command_9 rfl (lv_at hl 3 rfl) ?_
  refine lv_iload_n hx hb dX6_command_10 rfl (lv_at hl 2 rfl) ?_
  refine zcS (As := [.int 113]) (rest := [.ref x9]) [] hg.1 ⟨hx, hb, hml, hown, hts⟩ (c_X6_isNumbered hg l D cy 113) (va_cwS 1 hts gX6_command_X6_isNumbered rfl rfl rfl (by decide +kernel) ⟨Nat.le_of_ble_eq_true rfl, Nat.le_of_ble_eq_true rfl⟩) hG hK hP hD hS hA rfl rfl rfl  rfl hl.1 rfl (Nat.le_of_ble_eq_true rfl) dX6_command_11 ⟨Nat.zero_le _, Nat.zero_le _⟩ (fun H locs hP hD hS => ?_)
  have hP : va_P D vwCl [(x9, .inr (10, [.int th, .int (nI ch), .int era, .int why, .int det, .int cau, .int (zI sv), .int (zI rj), .ref v9, .ref b9, .ref s9, .ref k9, .ref p9, .ref t9, .ref n9, .int (nI tn), .int (nI he), .int (nI en), .int (nI ln), .int (zI iw), .int (zI false)])), (t9, .inl (cy 0, 60, .inl tx))] H := hP
  have hD : va_D A [(x9, .inr (10, [.int th, .int (nI ch), .int era, .int why, .int det, .int cau, .int (zI sv), .int (zI rj), .ref v9, .ref b9, .ref s9, .ref k9, .ref p9, .ref t9, .ref n9, .int (nI tn), .int (nI he), .int (nI en), .int (nI ln), .int (zI iw), .int (zI false)])), (t9, .inl (cy 0, 60, .inl tx))] := hD
  refine z_top (y := zI false) (rfl) ?_
  refine lv_if_ne (tgt := 46) hx hb dX6_command_14 (by decide) (fun c_1 => ?_) (fun c_1 => ?_)
  · replace c_1 := zI1 c_1
    exact absurd c_1 (by decide)
  · replace c_1 := zI0 c_1
    refine lv_iload_n hx hb dX6_command_17 rfl (lv_at hl 2 rfl) ?_
    refine zcS (As := [.int 113]) (rest := [.ref x9]) [] hg.1 ⟨hx, hb, hml, hown, hts⟩ (c_X6_isDigit hg l D cy 113) (va_cwS 1 hts gX6_command_X6_isDigit rfl rfl rfl (by decide +kernel) ⟨Nat.le_of_ble_eq_true rfl, Nat.le_of_ble_eq_true rfl⟩) hG hK hP hD hS hA rfl rfl rfl  rfl hl.1 rfl (Nat.le_of_ble_eq_true rfl) dX6_command_18 ⟨Nat.zero_le _, Nat.zero_le _⟩ (fun H locs hP hD hS => ?_)
    have hP : va_P D vwCl [(x9, .inr (10, [.int th, .int (nI ch), .int era, .int why, .int det, .int cau, .int (zI sv), .int (zI rj), .ref v9, .ref b9, .ref s9, .ref k9, .ref p9, .ref t9, .ref n9, .int (nI tn), .int (nI he), .int (nI en), .int (nI ln), .int (zI iw), .int (zI false)])), (t9, .inl (cy 0, 60, .inl tx))] H := hP
    have hD : va_D A [(x9, .inr (10, [.int th, .int (nI ch), .int era, .int why, .int det, .int cau, .int (zI sv), .int (zI rj), .ref v9, .ref b9, .ref s9, .ref k9, .ref p9, .ref t9, .ref n9, .int (nI tn), .int (nI he), .int (nI en), .int (nI ln), .int (zI iw), .int (zI false)])), (t9, .inl (cy 0, 60, .inl tx))] := hD
    refine z_top (y := zI false) (rfl) ?_
    refine lv_if_ne (tgt := 46) hx hb dX6_command_21 (by decide) (fun c_2 => ?_) (fun c_2 => ?_)
    · replace c_2 := zI1 c_2
      exact absurd c_2 (by decide)
    · replace c_2 := zI0 c_2
      refine lv_iload_n hx hb dX6_command_24 rfl (lv_at hl 2 rfl) ?_
      refine lv_bipush (v := 120) hx hb dX6_command_25 (by decide) ?_
      refine lv_icmp_eq (tgt := 46) hx hb dX6_command_27 (by decide) (fun c_3 => ?_) (fun c_3 => ?_)
      · exact absurd c_3 (by decide)
      · refine lv_iload_n hx hb dX6_command_30 rfl (lv_at hl 2 rfl) ?_
        refine lv_bipush (v := 112) hx hb dX6_command_31 (by decide) ?_
        refine lv_icmp_eq (tgt := 46) hx hb dX6_command_33 (by decide) (fun c_4 => ?_) (fun c_4 => ?_)
        · exact absurd c_4 (by decide)
        · refine lv_iload_n hx hb dX6_command_36 rfl (lv_at hl 2 rfl) ?_
          refine lv_bipush (v := 113) hx hb dX6_command_37 (by decide) ?_
          refine lv_icmp_eq (tgt := 46) hx hb dX6_command_39 (by decide) (fun c_5 => ?_) (fun c_5 => ?_)
          · refine lv_iconst (v := 0) hx hb dX6_command_46 (by decide) ?_
            refine z_top (y := zI false) rfl ?_
            refine va_put (D := D) (ci := 10) (v := .int (zI false)) (ty := .boolean) (C := RX6) (T := TX6) (N := 21) hx hb hts in_RX6 tyX6 tyX6_ok nmX6 hown hK hP hD hS 0 rfl rfl 19 (by decide) (hts _ (List.mem_of_getElem? (i := 1) rfl)) (fun _ h9 => h9) rfl (by decide +kernel) (zI_nar _) (zI_fit _) (Nat.le_of_ble_eq_true rfl) dX6_command_47 (fun H locs hP hD hS => ?_)
            have hP : va_P D vwCl [(x9, .inr (10, [.int th, .int (nI ch), .int era, .int why, .int det, .int cau, .int (zI sv), .int (zI rj), .ref v9, .ref b9, .ref s9, .ref k9, .ref p9, .ref t9, .ref n9, .int (nI tn), .int (nI he), .int (nI en), .int (nI ln), .int (zI false), .int (zI false)])), (t9, .inl (cy 0, 60, .inl tx))] H := hP
            have hD : va_D A [(x9, .inr (10, [.int th, .int (nI ch), .int era, .int why, .int det, .int cau, .int (zI sv), .int (zI rj), .ref v9, .ref b9, .ref s9, .ref k9, .ref p9, .ref t9, .ref n9, .int (nI tn), .int (nI he), .int (nI en), .int (nI ln), .int (zI false), .int (zI false)])), (t9, .inl (cy 0, 60, .inl tx))] := hD
            refine lv_aload_n hx hb dX6_command_50 rfl (lv_at hl 3 rfl) ?_
            refine va_get (D := D) (ci := 10) (v := .int (zI false)) (C := RX6) (T := TX6) (N := 21) hx hb hts in_RX6 hown hK hP 0 rfl rfl 19 (by decide) (hts _ (List.mem_of_getElem? (i := 1) rfl)) (fun _ h9 => h9) rfl dX6_command_51 ?_
            refine lv_if_eq (tgt := 58) hx hb dX6_command_54 (by decide) (fun c_6 => ?_) (fun c_6 => ?_)
            · replace c_6 := zI0 c_6
              refine lv_aload_n hx hb dX6_command_58 rfl (lv_at hl 3 rfl) ?_
              refine lv_dup hx hb dX6_command_59 rfl ?_
              refine va_get (D := D) (ci := 10) (v := .int (nI he)) (C := RX6) (T := TX6) (N := 21) hx hb hts in_RX6 hown hK hP 0 rfl rfl 16 (by decide) (hts _ (List.mem_of_getElem? (i := 2) rfl)) (fun _ h9 => h9) rfl dX6_command_60 ?_
              refine lv_iconst (v := 1) hx hb dX6_command_63 (by decide) ?_
              refine lv_iadd hx hb dX6_command_64 ?_
              refine z_top (y := nI (he + 1)) (nI_add he 1) ?_
              refine va_put (D := D) (ci := 10) (v := .int (nI (he + 1))) (ty := .int) (C := RX6) (T := TX6) (N := 21) hx hb hts in_RX6 tyX6 tyX6_ok nmX6 hown hK hP hD hS 0 rfl rfl 16 (by decide) (hts _ (List.mem_of_getElem? (i := 2) rfl)) (fun _ h9 => h9) rfl (by decide +kernel) rfl rfl (Nat.le_of_ble_eq_true rfl) dX6_command_65 (fun H locs hP hD hS => ?_)
              have hP : va_P D vwCl [(x9, .inr (10, [.int th, .int (nI ch), .int era, .int why, .int det, .int cau, .int (zI sv), .int (zI rj), .ref v9, .ref b9, .ref s9, .ref k9, .ref p9, .ref t9, .ref n9, .int (nI tn), .int (nI (he + 1)), .int (nI en), .int (nI ln), .int (zI false), .int (zI false)])), (t9, .inl (cy 0, 60, .inl tx))] H := hP
              have hD : va_D A [(x9, .inr (10, [.int th, .int (nI ch), .int era, .int why, .int det, .int cau, .int (zI sv), .int (zI rj), .ref v9, .ref b9, .ref s9, .ref k9, .ref p9, .ref t9, .ref n9, .int (nI tn), .int (nI (he + 1)), .int (nI en), .int (nI ln), .int (zI false), .int (zI false)])), (t9, .inl (cy 0, 60, .inl tx))] := hD
              refine lv_iload_n hx hb dX6_command_68 rfl (lv_at hl 2 rfl) ?_
              refine zcS (As := [.int 113]) (rest := []) [] hg.1 ⟨hx, hb, hml, hown, hts⟩ (c_X6_isNumbered hg l D cy 113) (va_cwS 1 hts gX6_command_X6_isNumbered rfl rfl rfl (by decide +kernel) ⟨Nat.le_of_ble_eq_true rfl, Nat.le_of_ble_eq_true rfl⟩) hG hK hP hD hS hA rfl rfl rfl  rfl hl.1 rfl (Nat.le_of_ble_eq_true rfl) dX6_command_69 ⟨Nat.zero_le _, Nat.zero_le _⟩ (fun H locs hP hD hS => ?_)
              have hP : va_P D vwCl [(x9, .inr (10, [.int th, .int (nI ch), .int era, .int why, .int det, .int cau, .int (zI sv), .int (zI rj), .ref v9, .ref b9, .ref s9, .ref k9, .ref p9, .ref t9, .ref n9, .int (nI tn), .int (nI (he + 1)), .int (nI en), .int (nI ln), .int (zI false), .int (zI false)])), (t9, .inl (cy 0, 60, .inl tx))] H := hP
              have hD : va_D A [(x9, .inr (10, [.int th, .int (nI ch), .int era, .int why, .int det, .int cau, .int (zI sv), .int (zI rj), .ref v9, .ref b9, .ref s9, .ref k9, .ref p9, .ref t9, .ref n9, .int (nI tn), .int (nI (he + 1)), .int (nI en), .int (nI ln), .int (zI false), .int (zI false)])), (t9, .inl (cy 0, 60, .inl tx))] := hD
              refine z_top (y := zI false) (rfl) ?_
              refine lv_if_eq (tgt := 81) hx hb dX6_command_72 (by decide) (fun c_7 => ?_) (fun c_7 => ?_)
              · replace c_7 := zI0 c_7
                refine lv_iload_n hx hb dX6_command_81 rfl (lv_at hl 2 rfl) ?_
                refine zcS (As := [.int 113]) (rest := []) [] hg.1 ⟨hx, hb, hml, hown, hts⟩ (c_X6_isDigit hg l D cy 113) (va_cwS 1 hts gX6_command_X6_isDigit rfl rfl rfl (by decide +kernel) ⟨Nat.le_of_ble_eq_true rfl, Nat.le_of_ble_eq_true rfl⟩) hG hK hP hD hS hA rfl rfl rfl  rfl hl.1 rfl (Nat.le_of_ble_eq_true rfl) dX6_command_82 ⟨Nat.zero_le _, Nat.zero_le _⟩ (fun H locs hP hD hS => ?_)
                have hP : va_P D vwCl [(x9, .inr (10, [.int th, .int (nI ch), .int era, .int why, .int det, .int cau, .int (zI sv), .int (zI rj), .ref v9, .ref b9, .ref s9, .ref k9, .ref p9, .ref t9, .ref n9, .int (nI tn), .int (nI (he + 1)), .int (nI en), .int (nI ln), .int (zI false), .int (zI false)])), (t9, .inl (cy 0, 60, .inl tx))] H := hP
                have hD : va_D A [(x9, .inr (10, [.int th, .int (nI ch), .int era, .int why, .int det, .int cau, .int (zI sv), .int (zI rj), .ref v9, .ref b9, .ref s9, .ref k9, .ref p9, .ref t9, .ref n9, .int (nI tn), .int (nI (he + 1)), .int (nI en), .int (nI ln), .int (zI false), .int (zI false)])), (t9, .inl (cy 0, 60, .inl tx))] := hD
                refine z_top (y := zI false) (rfl) ?_
                refine lv_if_eq (tgt := 94) hx hb dX6_command_85 (by decide) (fun c_8 => ?_) (fun c_8 => ?_)
                · replace c_8 := zI0 c_8
                  refine lv_iload_n hx hb dX6_command_94 rfl (lv_at hl 2 rfl) ?_
                  refine lv_bipush (v := 112) hx hb dX6_command_95 (by decide) ?_
                  refine lv_icmp_ne (tgt := 105) hx hb dX6_command_97 (by decide) (fun c_9 => ?_) (fun c_9 => ?_)
                  · refine lv_iload_n hx hb dX6_command_105 rfl (lv_at hl 2 rfl) ?_
                    refine lv_bipush (v := 99) hx hb dX6_command_106 (by decide) ?_
                    refine lv_icmp_ne (tgt := 118) hx hb dX6_command_108 (by decide) (fun c_10 => ?_) (fun c_10 => ?_)
                    · refine lv_iload_n hx hb dX6_command_118 rfl (lv_at hl 2 rfl) ?_
                      refine lv_bipush (v := 121) hx hb dX6_command_119 (by decide) ?_
                      refine lv_icmp_ne (tgt := 131) hx hb dX6_command_121 (by decide) (fun c_11 => ?_) (fun c_11 => ?_)
                      · refine lv_aload_n hx hb dX6_command_131 rfl (lv_at hl 3 rfl) ?_
                        refine va_get (D := D) (ci := 10) (v := .int (zI false)) (C := RX6) (T := TX6) (N := 21) hx hb hts in_RX6 hown hK hP 0 rfl rfl 19 (by decide) (hts _ (List.mem_of_getElem? (i := 1) rfl)) (fun _ h9 => h9) rfl dX6_command_132 ?_
                        refine lv_if_ne (tgt := 145) hx hb dX6_command_135 (by decide) (fun c_12 => ?_) (fun c_12 => ?_)
                        · replace c_12 := zI1 c_12
                          exact absurd c_12 (by decide)
                        · replace c_12 := zI0 c_12
                          refine lv_aload_n hx hb dX6_command_138 rfl (lv_at hl 3 rfl) ?_
                          refine va_get (D := D) (ci := 10) (v := .int (zI false)) (C := RX6) (T := TX6) (N := 21) hx hb hts in_RX6 hown hK hP 0 rfl rfl 20 (by decide) (hts _ (List.mem_of_getElem? (i := 3) rfl)) (fun _ h9 => h9) rfl dX6_command_139 ?_
                          refine lv_if_ne (tgt := 146) hx hb dX6_command_142 (by decide) (fun c_13 => ?_) (fun c_13 => ?_)
                          · replace c_13 := zI1 c_13
                            exact absurd c_13 (by decide)
                          · replace c_13 := zI0 c_13
                            exact zvret hend hx hb hr hlk hK hP hD hS dX6_command_145 rfl
                      · exact absurd c_11 (by decide)
                    · exact absurd c_10 (by decide)
                  · exact absurd c_9 (by decide)
                · replace c_8 := zI1 c_8
                  exact absurd c_8 (by decide)
              · replace c_7 := zI1 c_7
                exact absurd c_7 (by decide)
            · replace c_6 := zI1 c_6
              exact absurd c_6 (by decide)
          · exact absurd c_5 (by decide)

abbrev rmX6_command_pbad : Room := { frames := 3, cells := 0, slots := 0, locals := 66 }
set_option maxHeartbeats 4000000 in
set_option maxRecDepth 100000 in
theorem c_X6_command_pbad {G : zG} (hg : zGN G) (l : Launch) (D : va_G) (cy : Nat → ClassId) (x9 : Nat) (th : Int32) (ch : Nat) (era : Int32) (why : Int32) (det : Int32) (cau : Int32) (sv : Bool) (rj : Bool) (v9 : Nat) (b9 : Nat) (s9 : Nat) (k9 : Nat) (p9 : Nat) (t9 : Nat) (n9 : Nat) (tn : Nat) (he : Nat) (en : Nat) (ln : Nat) (iw : Bool) (tx : Nat → Int32) (hhe : he ≤ 60) (hen : en ≤ 60) (hn : zqn (zqs tx en he) = false) (hd : zid (zqs tx en he) = false) (h120 : ¬ zqs tx en he = 120) (h112 : ¬ zqs tx en he = 112) (h113 : ¬ zqs tx en he = 113) : zM G D vwCl (zT cy) l yX6_command wsX6_command rmX6_command_pbad [.ref x9] [(x9, .inr (10, [.int th, .int (nI ch), .int era, .int why, .int det, .int cau, .int (zI sv), .int (zI rj), .ref v9, .ref b9, .ref s9, .ref k9, .ref p9, .ref t9, .ref n9, .int (nI tn), .int (nI he), .int (nI en), .int (nI ln), .int (zI iw), .int (zI false)])), (t9, .inl (cy 0, 60, .inl tx))] none [(x9, .inr (10, [.int th, .int (nI ch), .int era, .int why, .int det, .int cau, .int (zI sv), .int (zI rj), .ref v9, .ref b9, .ref s9, .ref k9, .ref p9, .ref t9, .ref n9, .int (nI tn), .int (nI he), .int (nI en), .int (nI ln), .int (zI true), .int (zI false)])), (t9, .inl (cy 0, 60, .inl tx))] := by
  refine zM_of (cc := cX6_command) (maxL := 5) (ret := none) (by decide) rfl (Nat.le_of_ble_eq_true rfl) ?_
  intro p e s m below meth c A Q hend hx hb hml hr hts hown hlk hG hK hP hD hA hS ls hl
  have hown : s.vm.findClass RX6 = some m.cls := hown
  have in_RX6 : ∀ w ∈ u_ws RX6 TX6 21, w ∈ wsX6_command := by decide +kernel
  have hl : lv_has ls 5 [(0, .ref x9)] := hl
  refine lv_aload_n hx hb dX6_command_0 rfl (lv_at hl 0 rfl) ?_
  refine zcV (As := []) (rest := []) [0, 1] 0 hg.1 ⟨hx, hb, hml, hown, hts⟩ (c_X6_sign hg l D cy x9 th ch era why det cau sv rj v9 b9 s9 k9 p9 t9 n9 tn he en ln iw false tx (by first | assumption | omega) (by first | assumption | omega)) (cwV 0 hts gX6_command_X6_sign rfl rfl rfl (by decide +kernel) ⟨Nat.le_of_ble_eq_true rfl, Nat.le_of_ble_eq_true rfl⟩) hG hK hP hD hS hA rfl rfl rfl rfl rfl rfl hl.1 rfl (Nat.le_of_ble_eq_true rfl) dX6_command_1 ⟨Nat.zero_le _, Nat.zero_le _⟩ (fun H locs hP hD hS => ?_)
  have hP : va_P D vwCl [(x9, .inr (10, [.int th, .int (nI ch), .int era, .int why, .int det, .int cau, .int (zI sv), .int (zI rj), .ref v9, .ref b9, .ref s9, .ref k9, .ref p9, .ref t9, .ref n9, .int (nI tn), .int (nI he), .int (nI en), .int (nI ln), .int (zI iw), .int (zI false)])), (t9, .inl (cy 0, 60, .inl tx))] H := hP
  have hD : va_D A [(x9, .inr (10, [.int th, .int (nI ch), .int era, .int why, .int det, .int cau, .int (zI sv), .int (zI rj), .ref v9, .ref b9, .ref s9, .ref k9, .ref p9, .ref t9, .ref n9, .int (nI tn), .int (nI he), .int (nI en), .int (nI ln), .int (zI iw), .int (zI false)])), (t9, .inl (cy 0, 60, .inl tx))] := hD
  refine lv_istore_n (lv' := [(1, .int (zqs tx en he)), (0, .ref x9)]) hx hb dX6_command_4 rfl hl (by decide) rfl (fun ls hl => ?_)
  refine lv_iconst (v := 0) hx hb dX6_command_5 (by decide) ?_
  refine lv_istore_n (lv' := [(2, .int 0), (1, .int (zqs tx en he)), (0, .ref x9)]) hx hb dX6_command_6 rfl hl (by decide) rfl (fun ls hl => ?_)
  refine lv_iconst (v := 0) hx hb dX6_command_7 (by decide) ?_
  refine lv_istore_n (lv' := [(3, .int 0), (2, .int 0), (1, .int (zqs tx en he)), (0, .ref x9)]) hx hb dX6_command_8 rfl hl (by decide) rfl (fun ls hl => ?_)
  refine lv_aload_n hx hb dX6_command_9 rfl (lv_at hl 3 rfl) ?_
  refine lv_iload_n hx hb dX6_command_10 rfl (lv_at hl 2 rfl) ?_
  refine zcS (As := [.int (zqs tx en he)]) (rest := [.ref x9]) [] hg.1 ⟨hx, hb, hml, hown, hts⟩ (c_X6_isNumbered hg l D cy (zqs tx en he)) (va_cwS 1 hts gX6_command_X6_isNumbered rfl rfl rfl (by decide +kernel) ⟨Nat.le_of_ble_eq_true rfl, Nat.le_of_ble_eq_true rfl⟩) hG hK hP hD hS hA rfl rfl rfl  rfl hl.1 rfl (Nat.le_of_ble_eq_true rfl) dX6_command_11 ⟨Nat.zero_le _, Nat.zero_le _⟩ (fun H locs hP hD hS => ?_)
  have hP : va_P D vwCl [(x9, .inr (10, [.int th, .int (nI ch), .int era, .int why, .int det, .int cau, .int (zI sv), .int (zI rj), .ref v9, .ref b9, .ref s9, .ref k9, .ref p9, .ref t9, .ref n9, .int (nI tn), .int (nI he), .int (nI en), .int (nI ln), .int (zI iw), .int (zI false)])), (t9, .inl (cy 0, 60, .inl tx))] H := hP
  have hD : va_D A [(x9, .inr (10, [.int th, .int (nI ch), .int era, .int why, .int det, .int cau, .int (zI sv), .int (zI rj), .ref v9, .ref b9, .ref s9, .ref k9, .ref p9, .ref t9, .ref n9, .int (nI tn), .int (nI he), .int (nI en), .int (nI ln), .int (zI iw), .int (zI false)])), (t9, .inl (cy 0, 60, .inl tx))] := hD
  refine lv_if_ne (tgt := 46) hx hb dX6_command_14 (by decide) (fun c_1 => ?_) (fun c_1 => ?_)
  · replace c_1 := zI1 c_1
    exact absurd (hn.symm.trans c_1) (by decide)
  · replace c_1 := zI0 c_1
    refine lv_iload_n hx hb dX6_command_17 rfl (lv_at hl 2 rfl) ?_
    refine zcS (As := [.int (zqs tx en he)]) (rest := [.ref x9]) [] hg.1 ⟨hx, hb, hml, hown, hts⟩ (c_X6_isDigit hg l D cy (zqs tx en he)) (va_cwS 1 hts gX6_command_X6_isDigit rfl rfl rfl (by decide +kernel) ⟨Nat.le_of_ble_eq_true rfl, Nat.le_of_ble_eq_true rfl⟩) hG hK hP hD hS hA rfl rfl rfl  rfl hl.1 rfl (Nat.le_of_ble_eq_true rfl) dX6_command_18 ⟨Nat.zero_le _, Nat.zero_le _⟩ (fun H locs hP hD hS => ?_)
    have hP : va_P D vwCl [(x9, .inr (10, [.int th, .int (nI ch), .int era, .int why, .int det, .int cau, .int (zI sv), .int (zI rj), .ref v9, .ref b9, .ref s9, .ref k9, .ref p9, .ref t9, .ref n9, .int (nI tn), .int (nI he), .int (nI en), .int (nI ln), .int (zI iw), .int (zI false)])), (t9, .inl (cy 0, 60, .inl tx))] H := hP
    have hD : va_D A [(x9, .inr (10, [.int th, .int (nI ch), .int era, .int why, .int det, .int cau, .int (zI sv), .int (zI rj), .ref v9, .ref b9, .ref s9, .ref k9, .ref p9, .ref t9, .ref n9, .int (nI tn), .int (nI he), .int (nI en), .int (nI ln), .int (zI iw), .int (zI false)])), (t9, .inl (cy 0, 60, .inl tx))] := hD
    refine lv_if_ne (tgt := 46) hx hb dX6_command_21 (by decide) (fun c_2 => ?_) (fun c_2 => ?_)
    · replace c_2 := zI1 c_2
      exact absurd (hd.symm.trans c_2) (by decide)
    · replace c_2 := zI0 c_2
      refine lv_iload_n hx hb dX6_command_24 rfl (lv_at hl 2 rfl) ?_
      refine lv_bipush (v := 120) hx hb dX6_command_25 (by decide) ?_
      refine lv_icmp_eq (tgt := 46) hx hb dX6_command_27 (by decide) (fun c_3 => ?_) (fun c_3 => ?_)
      · exact absurd c_3 h120
      · refine lv_iload_n hx hb dX6_command_30 rfl (lv_at hl 2 rfl) ?_
        refine lv_bipush (v := 112) hx hb dX6_command_31 (by decide) ?_
        refine lv_icmp_eq (tgt := 46) hx hb dX6_command_33 (by decide) (fun c_4 => ?_) (fun c_4 => ?_)
        · exact absurd c_4 h112
        · refine lv_iload_n hx hb dX6_command_36 rfl (lv_at hl 2 rfl) ?_
          refine lv_bipush (v := 113) hx hb dX6_command_37 (by decide) ?_
          refine lv_icmp_eq (tgt := 46) hx hb dX6_command_39 (by decide) (fun c_5 => ?_) (fun c_5 => ?_)
          · exact absurd c_5 h113
          · refine lv_iconst (v := 1) hx hb dX6_command_42 (by decide) ?_
            refine lv_goto (tgt := 47) hx hb dX6_command_43 (by decide) ?_
            refine z_top (y := zI true) rfl ?_
            refine va_put (D := D) (ci := 10) (v := .int (zI true)) (ty := .boolean) (C := RX6) (T := TX6) (N := 21) hx hb hts in_RX6 tyX6 tyX6_ok nmX6 hown hK hP hD hS 0 rfl rfl 19 (by decide) (hts _ (List.mem_of_getElem? (i := 1) rfl)) (fun _ h9 => h9) rfl (by decide +kernel) (zI_nar _) (zI_fit _) (Nat.le_of_ble_eq_true rfl) dX6_command_47 (fun H locs hP hD hS => ?_)
            have hP : va_P D vwCl [(x9, .inr (10, [.int th, .int (nI ch), .int era, .int why, .int det, .int cau, .int (zI sv), .int (zI rj), .ref v9, .ref b9, .ref s9, .ref k9, .ref p9, .ref t9, .ref n9, .int (nI tn), .int (nI he), .int (nI en), .int (nI ln), .int (zI true), .int (zI false)])), (t9, .inl (cy 0, 60, .inl tx))] H := hP
            have hD : va_D A [(x9, .inr (10, [.int th, .int (nI ch), .int era, .int why, .int det, .int cau, .int (zI sv), .int (zI rj), .ref v9, .ref b9, .ref s9, .ref k9, .ref p9, .ref t9, .ref n9, .int (nI tn), .int (nI he), .int (nI en), .int (nI ln), .int (zI true), .int (zI false)])), (t9, .inl (cy 0, 60, .inl tx))] := hD
            refine lv_aload_n hx hb dX6_command_50 rfl (lv_at hl 3 rfl) ?_
            refine va_get (D := D) (ci := 10) (v := .int (zI true)) (C := RX6) (T := TX6) (N := 21) hx hb hts in_RX6 hown hK hP 0 rfl rfl 19 (by decide) (hts _ (List.mem_of_getElem? (i := 1) rfl)) (fun _ h9 => h9) rfl dX6_command_51 ?_
            refine lv_if_eq (tgt := 58) hx hb dX6_command_54 (by decide) (fun c_6 => ?_) (fun c_6 => ?_)
            · replace c_6 := zI0 c_6
              exact absurd c_6 (by decide)
            · replace c_6 := zI1 c_6
              exact zvret hend hx hb hr hlk hK hP hD hS dX6_command_57 rfl

abbrev rmX6_command_d99 : Room := { frames := 6, cells := 0, slots := 0, locals := 139 }
set_option maxHeartbeats 4000000 in
set_option maxRecDepth 100000 in
theorem c_X6_command_d99 {G : zG} (hg : zGN G) (l : Launch) (D : va_G) (cy : Nat → ClassId) (x9 : Nat) (ch : Nat) (era : Int32) (why : Int32) (det : Int32) (cau : Int32) (sv : Bool) (rj : Bool) (v9 : Nat) (b9 : Nat) (s9 : Nat) (k9 : Nat) (p9 : Nat) (t9 : Nat) (n9 : Nat) (tn : Nat) (he : Nat) (en : Nat) (ln : Nat) (iw : Bool) (tx : Nat → Int32) (v : Nat → Int32) (res2 : Int32) (th2 : Int32) (why2 : Int32) (det2 : Int32) (cau2 : Int32) (rj2 : Bool) (v2 : Nat → Int32) (hhe : he ≤ 60) (hen : en ≤ 60) (hc : zqs tx en he = 99) (hw : (zbW tx en ((he + 1) + zdN tx en 2 (he + 1)) (decide (zdN tx en 2 (he + 1) = 0)) 45) = false) (hdo : zM G D vwCl (zT cy) l yX6_does wsX6_does { frames := 5, cells := 0, slots := 0, locals := 116 } [.ref x9, .int 99, .int (zdV tx en 2 (he + 1) 0), .int (zbV tx en ((he + 1) + zdN tx en 2 (he + 1)) (decide (zdN tx en 2 (he + 1) = 0)) 45)] [(x9, .inr (10, [.int 0, .int (nI ch), .int era, .int why, .int det, .int cau, .int (zI sv), .int (zI rj), .ref v9, .ref b9, .ref s9, .ref k9, .ref p9, .ref t9, .ref n9, .int (nI tn), .int (nI (zbH tx en ((he + 1) + zdN tx en 2 (he + 1)) (decide (zdN tx en 2 (he + 1) = 0)) 45)), .int (nI en), .int (nI ln), .int (zI false), .int (zI true)])), (v9, .inl (cy 0, 188, .inl v))] (some (.int res2)) [(x9, .inr (10, [.int th2, .int (nI ch), .int era, .int why2, .int det2, .int cau2, .int (zI sv), .int (zI rj2), .ref v9, .ref b9, .ref s9, .ref k9, .ref p9, .ref t9, .ref n9, .int (nI tn), .int (nI (zbH tx en ((he + 1) + zdN tx en 2 (he + 1)) (decide (zdN tx en 2 (he + 1) = 0)) 45)), .int (nI en), .int (nI ln), .int (zI false), .int (zI true)])), (v9, .inl (cy 0, 188, .inl v2))]) : zM G D vwCl (zT cy) l yX6_command wsX6_command rmX6_command_d99 [.ref x9] [(x9, .inr (10, [.int 0, .int (nI ch), .int era, .int why, .int det, .int cau, .int (zI sv), .int (zI rj), .ref v9, .ref b9, .ref s9, .ref k9, .ref p9, .ref t9, .ref n9, .int (nI tn), .int (nI he), .int (nI en), .int (nI ln), .int (zI iw), .int (zI true)])), (t9, .inl (cy 0, 60, .inl tx)), (v9, .inl (cy 0, 188, .inl v))] none [(x9, .inr (10, [.int th2, .int (nI ch), .int era, .int why2, .int det2, .int cau2, .int (zI sv), .int (zI rj2), .ref v9, .ref b9, .ref s9, .ref k9, .ref p9, .ref t9, .ref n9, .int (nI tn), .int (nI (zbH tx en ((he + 1) + zdN tx en 2 (he + 1)) (decide (zdN tx en 2 (he + 1) = 0)) 45)), .int (nI en), .int (nI ln), .int (zI false), .int (zI true)])), (t9, .inl (cy 0, 60, .inl tx)), (v9, .inl (cy 0, 188, .inl v2))] := by
  refine zM_of (cc := cX6_command) (maxL := 5) (ret := none) (by decide) rfl (Nat.le_of_ble_eq_true rfl) ?_
  intro p e s m below meth c A Q hend hx hb hml hr hts hown hlk hG hK hP hD hA hS ls hl
  have hown : s.vm.findClass RX6 = some m.cls := hown
  have in_RX6 : ∀ w ∈ u_ws RX6 TX6 21, w ∈ wsX6_command := by decide +kernel
  have hl : lv_has ls 5 [(0, .ref x9)] := hl
  refine lv_aload_n hx hb dX6_command_0 rfl (lv_at hl 0 rfl) ?_
  refine zcV (As := []) (rest := []) [0, 1] 0 hg.1 ⟨hx, hb, hml, hown, hts⟩ (c_X6_sign hg l D cy x9 0 ch era why det cau sv rj v9 b9 s9 k9 p9 t9 n9 tn he en ln iw true tx (by first | assumption | omega) (by first | assumption | omega)) (cwV 0 hts gX6_command_X6_sign rfl rfl rfl (by decide +kernel) ⟨Nat.le_of_ble_eq_true rfl, Nat.le_of_ble_eq_true rfl⟩) hG hK hP hD hS hA rfl rfl rfl rfl rfl rfl hl.1 rfl (Nat.le_of_ble_eq_true rfl) dX6_command_1 ⟨Nat.zero_le _, Nat.zero_le _⟩ (fun H locs hP hD hS => ?_)
  have hP : va_P D vwCl [(x9, .inr (10, [.int 0, .int (nI ch), .int era, .int why, .int det, .int cau, .int (zI sv), .int (zI rj), .ref v9, .ref b9, .ref s9, .ref k9, .ref p9, .ref t9, .ref n9, .int (nI tn), .int (nI he), .int (nI en), .int (nI ln), .int (zI iw), .int (zI true)])), (t9, .inl (cy 0, 60, .inl tx)), (v9, .inl (cy 0, 188, .inl v))] H := hP
  have hD : va_D A [(x9, .inr (10, [.int 0, .int (nI ch), .int era, .int why, .int det, .int cau, .int (zI sv), .int (zI rj), .ref v9, .ref b9, .ref s9, .ref k9, .ref p9, .ref t9, .ref n9, .int (nI tn), .int (nI he), .int (nI en), .int (nI ln), .int (zI iw), .int (zI true)])), (t9, .inl (cy 0, 60, .inl tx)), (v9, .inl (cy 0, 188, .inl v))] := hD
  refine z_top (y := 99) (hc) ?_
  refine lv_istore_n (lv' := [(1, .int 99), (0, .ref x9)]) hx hb dX6_command_4 rfl hl (by decide) rfl (fun ls hl => ?_)
  refine lv_iconst (v := 0) hx hb dX6_command_5 (by decide) ?_
  refine lv_istore_n (lv' := [(2, .int 0), (1, .int 99), (0, .ref x9)]) hx hb dX6_command_6 rfl hl (by decide) rfl (fun ls hl => ?_)
  refine lv_iconst (v := 0) hx hb dX6_command_7 (by decide) ?_
  refine lv_istore_n (lv' := [(3, .int 0), (2, .int 0), (1, .int 99), (0, .ref x9)]) hx hb dX6_command_8 rfl hl (by decide) rfl (fun ls hl => ?_)
  refine lv_aload_n hx hb dX6_command_9 rfl (lv_at hl 3 rfl) ?_
  refine lv_iload_n hx hb dX6_command_10 rfl (lv_at hl 2 rfl) ?_
  refine zcS (As := [.int 99]) (rest := [.ref x9]) [] hg.1 ⟨hx, hb, hml, hown, hts⟩ (c_X6_isNumbered hg l D cy 99) (va_cwS 1 hts gX6_command_X6_isNumbered rfl rfl rfl (by decide +kernel) ⟨Nat.le_of_ble_eq_true rfl, Nat.le_of_ble_eq_true rfl⟩) hG hK hP hD hS hA rfl rfl rfl  rfl hl.1 rfl (Nat.le_of_ble_eq_true rfl) dX6_command_11 ⟨Nat.zero_le _, Nat.zero_le _⟩ (fun H locs hP hD hS => ?_)
  have hP : va_P D vwCl [(x9, .inr (10, [.int 0, .int (nI ch), .int era, .int why, .int det, .int cau, .int (zI sv), .int (zI rj), .ref v9, .ref b9, .ref s9, .ref k9, .ref p9, .ref t9, .ref n9, .int (nI tn), .int (nI he), .int (nI en), .int (nI ln), .int (zI iw), .int (zI true)])), (t9, .inl (cy 0, 60, .inl tx)), (v9, .inl (cy 0, 188, .inl v))] H := hP
  have hD : va_D A [(x9, .inr (10, [.int 0, .int (nI ch), .int era, .int why, .int det, .int cau, .int (zI sv), .int (zI rj), .ref v9, .ref b9, .ref s9, .ref k9, .ref p9, .ref t9, .ref n9, .int (nI tn), .int (nI he), .int (nI en), .int (nI ln), .int (zI iw), .int (zI true)])), (t9, .inl (cy 0, 60, .inl tx)), (v9, .inl (cy 0, 188, .inl v))] := hD
  refine z_top (y := zI true) (rfl) ?_
  refine lv_if_ne (tgt := 46) hx hb dX6_command_14 (by decide) (fun c_1 => ?_) (fun c_1 => ?_)
  · replace c_1 := zI1 c_1
    refine lv_iconst (v := 0) hx hb dX6_command_46 (by decide) ?_
    refine z_top (y := zI false) rfl ?_
    refine va_put (D := D) (ci := 10) (v := .int (zI false)) (ty := .boolean) (C := RX6) (T := TX6) (N := 21) hx hb hts in_RX6 tyX6 tyX6_ok nmX6 hown hK hP hD hS 0 rfl rfl 19 (by decide) (hts _ (List.mem_of_getElem? (i := 1) rfl)) (fun _ h9 => h9) rfl (by decide +kernel) (zI_nar _) (zI_fit _) (Nat.le_of_ble_eq_true rfl) dX6_command_47 (fun H locs hP hD hS => ?_)
    have hP : va_P D vwCl [(x9, .inr (10, [.int 0, .int (nI ch), .int era, .int why, .int det, .int cau, .int (zI sv), .int (zI rj), .ref v9, .ref b9, .ref s9, .ref k9, .ref p9, .ref t9, .ref n9, .int (nI tn), .int (nI he), .int (nI en), .int (nI ln), .int (zI false), .int (zI true)])), (t9, .inl (cy 0, 60, .inl tx)), (v9, .inl (cy 0, 188, .inl v))] H := hP
    have hD : va_D A [(x9, .inr (10, [.int 0, .int (nI ch), .int era, .int why, .int det, .int cau, .int (zI sv), .int (zI rj), .ref v9, .ref b9, .ref s9, .ref k9, .ref p9, .ref t9, .ref n9, .int (nI tn), .int (nI he), .int (nI en), .int (nI ln), .int (zI false), .int (zI true)])), (t9, .inl (cy 0, 60, .inl tx)), (v9, .inl (cy 0, 188, .inl v))] := hD
    refine lv_aload_n hx hb dX6_command_50 rfl (lv_at hl 3 rfl) ?_
    refine va_get (D := D) (ci := 10) (v := .int (zI false)) (C := RX6) (T := TX6) (N := 21) hx hb hts in_RX6 hown hK hP 0 rfl rfl 19 (by decide) (hts _ (List.mem_of_getElem? (i := 1) rfl)) (fun _ h9 => h9) rfl dX6_command_51 ?_
    refine lv_if_eq (tgt := 58) hx hb dX6_command_54 (by decide) (fun c_2 => ?_) (fun c_2 => ?_)
    · replace c_2 := zI0 c_2
      refine lv_aload_n hx hb dX6_command_58 rfl (lv_at hl 3 rfl) ?_
      refine lv_dup hx hb dX6_command_59 rfl ?_
      refine va_get (D := D) (ci := 10) (v := .int (nI he)) (C := RX6) (T := TX6) (N := 21) hx hb hts in_RX6 hown hK hP 0 rfl rfl 16 (by decide) (hts _ (List.mem_of_getElem? (i := 2) rfl)) (fun _ h9 => h9) rfl dX6_command_60 ?_
      refine lv_iconst (v := 1) hx hb dX6_command_63 (by decide) ?_
      refine lv_iadd hx hb dX6_command_64 ?_
      refine z_top (y := nI (he + 1)) (nI_add he 1) ?_
      refine va_put (D := D) (ci := 10) (v := .int (nI (he + 1))) (ty := .int) (C := RX6) (T := TX6) (N := 21) hx hb hts in_RX6 tyX6 tyX6_ok nmX6 hown hK hP hD hS 0 rfl rfl 16 (by decide) (hts _ (List.mem_of_getElem? (i := 2) rfl)) (fun _ h9 => h9) rfl (by decide +kernel) rfl rfl (Nat.le_of_ble_eq_true rfl) dX6_command_65 (fun H locs hP hD hS => ?_)
      have hP : va_P D vwCl [(x9, .inr (10, [.int 0, .int (nI ch), .int era, .int why, .int det, .int cau, .int (zI sv), .int (zI rj), .ref v9, .ref b9, .ref s9, .ref k9, .ref p9, .ref t9, .ref n9, .int (nI tn), .int (nI (he + 1)), .int (nI en), .int (nI ln), .int (zI false), .int (zI true)])), (t9, .inl (cy 0, 60, .inl tx)), (v9, .inl (cy 0, 188, .inl v))] H := hP
      have hD : va_D A [(x9, .inr (10, [.int 0, .int (nI ch), .int era, .int why, .int det, .int cau, .int (zI sv), .int (zI rj), .ref v9, .ref b9, .ref s9, .ref k9, .ref p9, .ref t9, .ref n9, .int (nI tn), .int (nI (he + 1)), .int (nI en), .int (nI ln), .int (zI false), .int (zI true)])), (t9, .inl (cy 0, 60, .inl tx)), (v9, .inl (cy 0, 188, .inl v))] := hD
      refine lv_iload_n hx hb dX6_command_68 rfl (lv_at hl 2 rfl) ?_
      refine zcS (As := [.int 99]) (rest := []) [] hg.1 ⟨hx, hb, hml, hown, hts⟩ (c_X6_isNumbered hg l D cy 99) (va_cwS 1 hts gX6_command_X6_isNumbered rfl rfl rfl (by decide +kernel) ⟨Nat.le_of_ble_eq_true rfl, Nat.le_of_ble_eq_true rfl⟩) hG hK hP hD hS hA rfl rfl rfl  rfl hl.1 rfl (Nat.le_of_ble_eq_true rfl) dX6_command_69 ⟨Nat.zero_le _, Nat.zero_le _⟩ (fun H locs hP hD hS => ?_)
      have hP : va_P D vwCl [(x9, .inr (10, [.int 0, .int (nI ch), .int era, .int why, .int det, .int cau, .int (zI sv), .int (zI rj), .ref v9, .ref b9, .ref s9, .ref k9, .ref p9, .ref t9, .ref n9, .int (nI tn), .int (nI (he + 1)), .int (nI en), .int (nI ln), .int (zI false), .int (zI true)])), (t9, .inl (cy 0, 60, .inl tx)), (v9, .inl (cy 0, 188, .inl v))] H := hP
      have hD : va_D A [(x9, .inr (10, [.int 0, .int (nI ch), .int era, .int why, .int det, .int cau, .int (zI sv), .int (zI rj), .ref v9, .ref b9, .ref s9, .ref k9, .ref p9, .ref t9, .ref n9, .int (nI tn), .int (nI (he + 1)), .int (nI en), .int (nI ln), .int (zI false), .int (zI true)])), (t9, .inl (cy 0, 60, .inl tx)), (v9, .inl (cy 0, 188, .inl v))] := hD
      refine z_top (y := zI true) (rfl) ?_
      refine lv_if_eq (tgt := 81) hx hb dX6_command_72 (by decide) (fun c_3 => ?_) (fun c_3 => ?_)
      · replace c_3 := zI0 c_3
        exact absurd c_3 (by decide)
      · replace c_3 := zI1 c_3
        refine lv_aload_n hx hb dX6_command_75 rfl (lv_at hl 3 rfl) ?_
        refine lv_iconst (v := 2) hx hb dX6_command_76 (by decide) ?_
        refine z_top (y := nI 2) (rfl) ?_
        refine zcV (As := [.int (nI 2)]) (rest := []) [0, 1] 0 hg.1 ⟨hx, hb, hml, hown, hts⟩ (c_X6_digits hg l D cy x9 0 ch era why det cau sv rj v9 b9 s9 k9 p9 t9 n9 tn (he + 1) en ln true tx 2 (by first | assumption | omega) (by first | assumption | omega) (by first | assumption | omega) (by first | assumption | omega)) (cwV 1 hts gX6_command_X6_digits rfl rfl rfl (by decide +kernel) ⟨Nat.le_of_ble_eq_true rfl, Nat.le_of_ble_eq_true rfl⟩) hG hK hP hD hS hA rfl rfl (Eq.trans (b := [x9, t9]) rfl rfl) rfl rfl rfl hl.1 rfl (Nat.le_of_ble_eq_true rfl) dX6_command_77 ⟨Nat.zero_le _, Nat.zero_le _⟩ (fun H locs hP hD hS => ?_)
        have hP : va_P D vwCl [(x9, .inr (10, [.int 0, .int (nI ch), .int era, .int why, .int det, .int cau, .int (zI sv), .int (zI rj), .ref v9, .ref b9, .ref s9, .ref k9, .ref p9, .ref t9, .ref n9, .int (nI tn), .int (nI ((he + 1) + zdN tx en 2 (he + 1))), .int (nI en), .int (nI ln), .int (zI (decide (zdN tx en 2 (he + 1) = 0))), .int (zI true)])), (t9, .inl (cy 0, 60, .inl tx)), (v9, .inl (cy 0, 188, .inl v))] H := hP
        have hD : va_D A [(x9, .inr (10, [.int 0, .int (nI ch), .int era, .int why, .int det, .int cau, .int (zI sv), .int (zI rj), .ref v9, .ref b9, .ref s9, .ref k9, .ref p9, .ref t9, .ref n9, .int (nI tn), .int (nI ((he + 1) + zdN tx en 2 (he + 1))), .int (nI en), .int (nI ln), .int (zI (decide (zdN tx en 2 (he + 1) = 0))), .int (zI true)])), (t9, .inl (cy 0, 60, .inl tx)), (v9, .inl (cy 0, 188, .inl v))] := hD
        refine lv_istore_n (lv' := [(2, .int (zdV tx en 2 (he + 1) 0)), (3, .int 0), (1, .int 99), (0, .ref x9)]) hx hb dX6_command_80 rfl hl (by decide) rfl (fun ls hl => ?_)
        refine lv_iload_n hx hb dX6_command_81 rfl (lv_at hl 2 rfl) ?_
        refine zcS (As := [.int 99]) (rest := []) [] hg.1 ⟨hx, hb, hml, hown, hts⟩ (c_X6_isDigit hg l D cy 99) (va_cwS 1 hts gX6_command_X6_isDigit rfl rfl rfl (by decide +kernel) ⟨Nat.le_of_ble_eq_true rfl, Nat.le_of_ble_eq_true rfl⟩) hG hK hP hD hS hA rfl rfl rfl  rfl hl.1 rfl (Nat.le_of_ble_eq_true rfl) dX6_command_82 ⟨Nat.zero_le _, Nat.zero_le _⟩ (fun H locs hP hD hS => ?_)
        have hP : va_P D vwCl [(x9, .inr (10, [.int 0, .int (nI ch), .int era, .int why, .int det, .int cau, .int (zI sv), .int (zI rj), .ref v9, .ref b9, .ref s9, .ref k9, .ref p9, .ref t9, .ref n9, .int (nI tn), .int (nI ((he + 1) + zdN tx en 2 (he + 1))), .int (nI en), .int (nI ln), .int (zI (decide (zdN tx en 2 (he + 1) = 0))), .int (zI true)])), (t9, .inl (cy 0, 60, .inl tx)), (v9, .inl (cy 0, 188, .inl v))] H := hP
        have hD : va_D A [(x9, .inr (10, [.int 0, .int (nI ch), .int era, .int why, .int det, .int cau, .int (zI sv), .int (zI rj), .ref v9, .ref b9, .ref s9, .ref k9, .ref p9, .ref t9, .ref n9, .int (nI tn), .int (nI ((he + 1) + zdN tx en 2 (he + 1))), .int (nI en), .int (nI ln), .int (zI (decide (zdN tx en 2 (he + 1) = 0))), .int (zI true)])), (t9, .inl (cy 0, 60, .inl tx)), (v9, .inl (cy 0, 188, .inl v))] := hD
        refine z_top (y := zI false) (rfl) ?_
        refine lv_if_eq (tgt := 94) hx hb dX6_command_85 (by decide) (fun c_4 => ?_) (fun c_4 => ?_)
        · replace c_4 := zI0 c_4
          refine lv_iload_n hx hb dX6_command_94 rfl (lv_at hl 2 rfl) ?_
          refine lv_bipush (v := 112) hx hb dX6_command_95 (by decide) ?_
          refine lv_icmp_ne (tgt := 105) hx hb dX6_command_97 (by decide) (fun c_5 => ?_) (fun c_5 => ?_)
          · refine lv_iload_n hx hb dX6_command_105 rfl (lv_at hl 2 rfl) ?_
            refine lv_bipush (v := 99) hx hb dX6_command_106 (by decide) ?_
            refine lv_icmp_ne (tgt := 118) hx hb dX6_command_108 (by decide) (fun c_6 => ?_) (fun c_6 => ?_)
            · exact absurd c_6 (by decide)
            · refine lv_aload_n hx hb dX6_command_111 rfl (lv_at hl 3 rfl) ?_
              refine lv_bipush (v := 45) hx hb dX6_command_112 (by decide) ?_
              refine zcV (As := [.int 45]) (rest := []) [0, 1] 0 hg.1 ⟨hx, hb, hml, hown, hts⟩ (c_X6_behind hg l D cy x9 0 ch era why det cau sv rj v9 b9 s9 k9 p9 t9 n9 tn ((he + 1) + zdN tx en 2 (he + 1)) en ln (decide (zdN tx en 2 (he + 1) = 0)) true tx 45 (by have := zdN_le tx en 2 (he + 1); omega) (by first | assumption | omega) (by have := zdN_le tx en 2 (he + 1); omega)) (cwV 1 hts gX6_command_X6_behind rfl rfl rfl (by decide +kernel) ⟨Nat.le_of_ble_eq_true rfl, Nat.le_of_ble_eq_true rfl⟩) hG hK hP hD hS hA rfl rfl (Eq.trans (b := [x9, t9]) rfl rfl) rfl rfl rfl hl.1 rfl (Nat.le_of_ble_eq_true rfl) dX6_command_114 ⟨Nat.zero_le _, Nat.zero_le _⟩ (fun H locs hP hD hS => ?_)
              have hP : va_P D vwCl [(x9, .inr (10, [.int 0, .int (nI ch), .int era, .int why, .int det, .int cau, .int (zI sv), .int (zI rj), .ref v9, .ref b9, .ref s9, .ref k9, .ref p9, .ref t9, .ref n9, .int (nI tn), .int (nI (zbH tx en ((he + 1) + zdN tx en 2 (he + 1)) (decide (zdN tx en 2 (he + 1) = 0)) 45)), .int (nI en), .int (nI ln), .int (zI (zbW tx en ((he + 1) + zdN tx en 2 (he + 1)) (decide (zdN tx en 2 (he + 1) = 0)) 45)), .int (zI true)])), (t9, .inl (cy 0, 60, .inl tx)), (v9, .inl (cy 0, 188, .inl v))] H := hP
              have hD : va_D A [(x9, .inr (10, [.int 0, .int (nI ch), .int era, .int why, .int det, .int cau, .int (zI sv), .int (zI rj), .ref v9, .ref b9, .ref s9, .ref k9, .ref p9, .ref t9, .ref n9, .int (nI tn), .int (nI (zbH tx en ((he + 1) + zdN tx en 2 (he + 1)) (decide (zdN tx en 2 (he + 1) = 0)) 45)), .int (nI en), .int (nI ln), .int (zI (zbW tx en ((he + 1) + zdN tx en 2 (he + 1)) (decide (zdN tx en 2 (he + 1) = 0)) 45)), .int (zI true)])), (t9, .inl (cy 0, 60, .inl tx)), (v9, .inl (cy 0, 188, .inl v))] := hD
              refine lv_istore_n (lv' := [(3, .int (zbV tx en ((he + 1) + zdN tx en 2 (he + 1)) (decide (zdN tx en 2 (he + 1) = 0)) 45)), (2, .int (zdV tx en 2 (he + 1) 0)), (1, .int 99), (0, .ref x9)]) hx hb dX6_command_117 rfl hl (by decide) rfl (fun ls hl => ?_)
              refine lv_iload_n hx hb dX6_command_118 rfl (lv_at hl 2 rfl) ?_
              refine lv_bipush (v := 121) hx hb dX6_command_119 (by decide) ?_
              refine lv_icmp_ne (tgt := 131) hx hb dX6_command_121 (by decide) (fun c_7 => ?_) (fun c_7 => ?_)
              · refine lv_aload_n hx hb dX6_command_131 rfl (lv_at hl 3 rfl) ?_
                refine va_get (D := D) (ci := 10) (v := .int (zI (zbW tx en ((he + 1) + zdN tx en 2 (he + 1)) (decide (zdN tx en 2 (he + 1) = 0)) 45))) (C := RX6) (T := TX6) (N := 21) hx hb hts in_RX6 hown hK hP 0 rfl rfl 19 (by decide) (hts _ (List.mem_of_getElem? (i := 1) rfl)) (fun _ h9 => h9) rfl dX6_command_132 ?_
                refine lv_if_ne (tgt := 145) hx hb dX6_command_135 (by decide) (fun c_8 => ?_) (fun c_8 => ?_)
                · replace c_8 := zI1 c_8
                  exact absurd (hw.symm.trans c_8) (by decide)
                · replace c_8 := zI0 c_8
                  have er_9 : zbW tx en ((he + 1) + zdN tx en 2 (he + 1)) (decide (zdN tx en 2 (he + 1) = 0)) 45 = false := c_8
                  rw [er_9] at hP hD
                  refine lv_aload_n hx hb dX6_command_138 rfl (lv_at hl 3 rfl) ?_
                  refine va_get (D := D) (ci := 10) (v := .int (zI true)) (C := RX6) (T := TX6) (N := 21) hx hb hts in_RX6 hown hK hP 0 rfl rfl 20 (by decide) (hts _ (List.mem_of_getElem? (i := 3) rfl)) (fun _ h9 => h9) rfl dX6_command_139 ?_
                  refine lv_if_ne (tgt := 146) hx hb dX6_command_142 (by decide) (fun c_10 => ?_) (fun c_10 => ?_)
                  · replace c_10 := zI1 c_10
                    refine lv_aload_n hx hb dX6_command_146 rfl (lv_at hl 3 rfl) ?_
                    refine lv_iload_n hx hb dX6_command_147 rfl (lv_at hl 2 rfl) ?_
                    refine lv_iload_n hx hb dX6_command_148 rfl (lv_at hl 1 rfl) ?_
                    refine lv_iload_n hx hb dX6_command_149 rfl (lv_at hl 0 rfl) ?_
                    refine zcV (As := [.int 99, .int (zdV tx en 2 (he + 1) 0), .int (zbV tx en ((he + 1) + zdN tx en 2 (he + 1)) (decide (zdN tx en 2 (he + 1) = 0)) 45)]) (rest := []) [0, 2] 0 hg.1 ⟨hx, hb, hml, hown, hts⟩ hdo (cwV 3 hts gX6_command_X6_does rfl rfl rfl (by decide +kernel) ⟨Nat.le_of_ble_eq_true rfl, Nat.le_of_ble_eq_true rfl⟩) hG hK hP hD hS hA rfl rfl (Eq.trans (b := [x9, v9]) rfl rfl) rfl rfl rfl hl.1 rfl (Nat.le_of_ble_eq_true rfl) dX6_command_150 ⟨Nat.zero_le _, Nat.zero_le _⟩ (fun H locs hP hD hS => ?_)
                    have hP : va_P D vwCl [(x9, .inr (10, [.int th2, .int (nI ch), .int era, .int why2, .int det2, .int cau2, .int (zI sv), .int (zI rj2), .ref v9, .ref b9, .ref s9, .ref k9, .ref p9, .ref t9, .ref n9, .int (nI tn), .int (nI (zbH tx en ((he + 1) + zdN tx en 2 (he + 1)) (decide (zdN tx en 2 (he + 1) = 0)) 45)), .int (nI en), .int (nI ln), .int (zI false), .int (zI true)])), (t9, .inl (cy 0, 60, .inl tx)), (v9, .inl (cy 0, 188, .inl v2))] H := hP
                    have hD : va_D A [(x9, .inr (10, [.int th2, .int (nI ch), .int era, .int why2, .int det2, .int cau2, .int (zI sv), .int (zI rj2), .ref v9, .ref b9, .ref s9, .ref k9, .ref p9, .ref t9, .ref n9, .int (nI tn), .int (nI (zbH tx en ((he + 1) + zdN tx en 2 (he + 1)) (decide (zdN tx en 2 (he + 1) = 0)) 45)), .int (nI en), .int (nI ln), .int (zI false), .int (zI true)])), (t9, .inl (cy 0, 60, .inl tx)), (v9, .inl (cy 0, 188, .inl v2))] := hD
                    refine lv_istore (lv' := [(4, .int res2), (3, .int (zbV tx en ((he + 1) + zdN tx en 2 (he + 1)) (decide (zdN tx en 2 (he + 1) = 0)) 45)), (2, .int (zdV tx en 2 (he + 1) 0)), (1, .int 99), (0, .ref x9)]) hx hb dX6_command_153 hl (by decide) rfl (fun ls hl => ?_)
                    exact zvret hend hx hb hr hlk hK hP hD hS dX6_command_155 rfl
                  · replace c_10 := zI0 c_10
                    exact absurd c_10 (by decide)
              · exact absurd c_7 (by decide)
          · exact absurd c_5 (by decide)
        · replace c_4 := zI1 c_4
          exact absurd c_4 (by decide)
    · replace c_2 := zI1 c_2
      exact absurd c_2 (by decide)
  · replace c_1 := zI0 c_1
    exact absurd c_1 (by decide)

abbrev rmX6_command_d104 : Room := { frames := 6, cells := 0, slots := 0, locals := 139 }
set_option maxHeartbeats 4000000 in
set_option maxRecDepth 100000 in
theorem c_X6_command_d104 {G : zG} (hg : zGN G) (l : Launch) (D : va_G) (cy : Nat → ClassId) (x9 : Nat) (ch : Nat) (era : Int32) (why : Int32) (det : Int32) (cau : Int32) (sv : Bool) (rj : Bool) (v9 : Nat) (b9 : Nat) (s9 : Nat) (k9 : Nat) (p9 : Nat) (t9 : Nat) (n9 : Nat) (tn : Nat) (he : Nat) (en : Nat) (ln : Nat) (iw : Bool) (tx : Nat → Int32) (v : Nat → Int32) (res2 : Int32) (th2 : Int32) (why2 : Int32) (det2 : Int32) (cau2 : Int32) (rj2 : Bool) (v2 : Nat → Int32) (hhe : he ≤ 60) (hen : en ≤ 60) (hc : zqs tx en he = 104) (hw : (decide (zdN tx en 2 (he + 1) = 0)) = false) (hdo : zM G D vwCl (zT cy) l yX6_does wsX6_does { frames := 5, cells := 0, slots := 0, locals := 116 } [.ref x9, .int 104, .int (zdV tx en 2 (he + 1) 0), .int 0] [(x9, .inr (10, [.int 0, .int (nI ch), .int era, .int why, .int det, .int cau, .int (zI sv), .int (zI rj), .ref v9, .ref b9, .ref s9, .ref k9, .ref p9, .ref t9, .ref n9, .int (nI tn), .int (nI ((he + 1) + zdN tx en 2 (he + 1))), .int (nI en), .int (nI ln), .int (zI false), .int (zI true)])), (v9, .inl (cy 0, 188, .inl v))] (some (.int res2)) [(x9, .inr (10, [.int th2, .int (nI ch), .int era, .int why2, .int det2, .int cau2, .int (zI sv), .int (zI rj2), .ref v9, .ref b9, .ref s9, .ref k9, .ref p9, .ref t9, .ref n9, .int (nI tn), .int (nI ((he + 1) + zdN tx en 2 (he + 1))), .int (nI en), .int (nI ln), .int (zI false), .int (zI true)])), (v9, .inl (cy 0, 188, .inl v2))]) : zM G D vwCl (zT cy) l yX6_command wsX6_command rmX6_command_d104 [.ref x9] [(x9, .inr (10, [.int 0, .int (nI ch), .int era, .int why, .int det, .int cau, .int (zI sv), .int (zI rj), .ref v9, .ref b9, .ref s9, .ref k9, .ref p9, .ref t9, .ref n9, .int (nI tn), .int (nI he), .int (nI en), .int (nI ln), .int (zI iw), .int (zI true)])), (t9, .inl (cy 0, 60, .inl tx)), (v9, .inl (cy 0, 188, .inl v))] none [(x9, .inr (10, [.int th2, .int (nI ch), .int era, .int why2, .int det2, .int cau2, .int (zI sv), .int (zI rj2), .ref v9, .ref b9, .ref s9, .ref k9, .ref p9, .ref t9, .ref n9, .int (nI tn), .int (nI ((he + 1) + zdN tx en 2 (he + 1))), .int (nI en), .int (nI ln), .int (zI false), .int (zI true)])), (t9, .inl (cy 0, 60, .inl tx)), (v9, .inl (cy 0, 188, .inl v2))] := by
  refine zM_of (cc := cX6_command) (maxL := 5) (ret := none) (by decide) rfl (Nat.le_of_ble_eq_true rfl) ?_
  intro p e s m below meth c A Q hend hx hb hml hr hts hown hlk hG hK hP hD hA hS ls hl
  have hown : s.vm.findClass RX6 = some m.cls := hown
  have in_RX6 : ∀ w ∈ u_ws RX6 TX6 21, w ∈ wsX6_command := by decide +kernel
  have hl : lv_has ls 5 [(0, .ref x9)] := hl
  refine lv_aload_n hx hb dX6_command_0 rfl (lv_at hl 0 rfl) ?_
  refine zcV (As := []) (rest := []) [0, 1] 0 hg.1 ⟨hx, hb, hml, hown, hts⟩ (c_X6_sign hg l D cy x9 0 ch era why det cau sv rj v9 b9 s9 k9 p9 t9 n9 tn he en ln iw true tx (by first | assumption | omega) (by first | assumption | omega)) (cwV 0 hts gX6_command_X6_sign rfl rfl rfl (by decide +kernel) ⟨Nat.le_of_ble_eq_true rfl, Nat.le_of_ble_eq_true rfl⟩) hG hK hP hD hS hA rfl rfl rfl rfl rfl rfl hl.1 rfl (Nat.le_of_ble_eq_true rfl) dX6_command_1 ⟨Nat.zero_le _, Nat.zero_le _⟩ (fun H locs hP hD hS => ?_)
  have hP : va_P D vwCl [(x9, .inr (10, [.int 0, .int (nI ch), .int era, .int why, .int det, .int cau, .int (zI sv), .int (zI rj), .ref v9, .ref b9, .ref s9, .ref k9, .ref p9, .ref t9, .ref n9, .int (nI tn), .int (nI he), .int (nI en), .int (nI ln), .int (zI iw), .int (zI true)])), (t9, .inl (cy 0, 60, .inl tx)), (v9, .inl (cy 0, 188, .inl v))] H := hP
  have hD : va_D A [(x9, .inr (10, [.int 0, .int (nI ch), .int era, .int why, .int det, .int cau, .int (zI sv), .int (zI rj), .ref v9, .ref b9, .ref s9, .ref k9, .ref p9, .ref t9, .ref n9, .int (nI tn), .int (nI he), .int (nI en), .int (nI ln), .int (zI iw), .int (zI true)])), (t9, .inl (cy 0, 60, .inl tx)), (v9, .inl (cy 0, 188, .inl v))] := hD
  refine z_top (y := 104) (hc) ?_
  refine lv_istore_n (lv' := [(1, .int 104), (0, .ref x9)]) hx hb dX6_command_4 rfl hl (by decide) rfl (fun ls hl => ?_)
  refine lv_iconst (v := 0) hx hb dX6_command_5 (by decide) ?_
  refine lv_istore_n (lv' := [(2, .int 0), (1, .int 104), (0, .ref x9)]) hx hb dX6_command_6 rfl hl (by decide) rfl (fun ls hl => ?_)
  refine lv_iconst (v := 0) hx hb dX6_command_7 (by decide) ?_
  refine lv_istore_n (lv' := [(3, .int 0), (2, .int 0), (1, .int 104), (0, .ref x9)]) hx hb dX6_command_8 rfl hl (by decide) rfl (fun ls hl => ?_)
  refine lv_aload_n hx hb dX6_command_9 rfl (lv_at hl 3 rfl) ?_
  refine lv_iload_n hx hb dX6_command_10 rfl (lv_at hl 2 rfl) ?_
  refine zcS (As := [.int 104]) (rest := [.ref x9]) [] hg.1 ⟨hx, hb, hml, hown, hts⟩ (c_X6_isNumbered hg l D cy 104) (va_cwS 1 hts gX6_command_X6_isNumbered rfl rfl rfl (by decide +kernel) ⟨Nat.le_of_ble_eq_true rfl, Nat.le_of_ble_eq_true rfl⟩) hG hK hP hD hS hA rfl rfl rfl  rfl hl.1 rfl (Nat.le_of_ble_eq_true rfl) dX6_command_11 ⟨Nat.zero_le _, Nat.zero_le _⟩ (fun H locs hP hD hS => ?_)
  have hP : va_P D vwCl [(x9, .inr (10, [.int 0, .int (nI ch), .int era, .int why, .int det, .int cau, .int (zI sv), .int (zI rj), .ref v9, .ref b9, .ref s9, .ref k9, .ref p9, .ref t9, .ref n9, .int (nI tn), .int (nI he), .int (nI en), .int (nI ln), .int (zI iw), .int (zI true)])), (t9, .inl (cy 0, 60, .inl tx)), (v9, .inl (cy 0, 188, .inl v))] H := hP
  have hD : va_D A [(x9, .inr (10, [.int 0, .int (nI ch), .int era, .int why, .int det, .int cau, .int (zI sv), .int (zI rj), .ref v9, .ref b9, .ref s9, .ref k9, .ref p9, .ref t9, .ref n9, .int (nI tn), .int (nI he), .int (nI en), .int (nI ln), .int (zI iw), .int (zI true)])), (t9, .inl (cy 0, 60, .inl tx)), (v9, .inl (cy 0, 188, .inl v))] := hD
  refine z_top (y := zI true) (rfl) ?_
  refine lv_if_ne (tgt := 46) hx hb dX6_command_14 (by decide) (fun c_1 => ?_) (fun c_1 => ?_)
  · replace c_1 := zI1 c_1
    refine lv_iconst (v := 0) hx hb dX6_command_46 (by decide) ?_
    refine z_top (y := zI false) rfl ?_
    refine va_put (D := D) (ci := 10) (v := .int (zI false)) (ty := .boolean) (C := RX6) (T := TX6) (N := 21) hx hb hts in_RX6 tyX6 tyX6_ok nmX6 hown hK hP hD hS 0 rfl rfl 19 (by decide) (hts _ (List.mem_of_getElem? (i := 1) rfl)) (fun _ h9 => h9) rfl (by decide +kernel) (zI_nar _) (zI_fit _) (Nat.le_of_ble_eq_true rfl) dX6_command_47 (fun H locs hP hD hS => ?_)
    have hP : va_P D vwCl [(x9, .inr (10, [.int 0, .int (nI ch), .int era, .int why, .int det, .int cau, .int (zI sv), .int (zI rj), .ref v9, .ref b9, .ref s9, .ref k9, .ref p9, .ref t9, .ref n9, .int (nI tn), .int (nI he), .int (nI en), .int (nI ln), .int (zI false), .int (zI true)])), (t9, .inl (cy 0, 60, .inl tx)), (v9, .inl (cy 0, 188, .inl v))] H := hP
    have hD : va_D A [(x9, .inr (10, [.int 0, .int (nI ch), .int era, .int why, .int det, .int cau, .int (zI sv), .int (zI rj), .ref v9, .ref b9, .ref s9, .ref k9, .ref p9, .ref t9, .ref n9, .int (nI tn), .int (nI he), .int (nI en), .int (nI ln), .int (zI false), .int (zI true)])), (t9, .inl (cy 0, 60, .inl tx)), (v9, .inl (cy 0, 188, .inl v))] := hD
    refine lv_aload_n hx hb dX6_command_50 rfl (lv_at hl 3 rfl) ?_
    refine va_get (D := D) (ci := 10) (v := .int (zI false)) (C := RX6) (T := TX6) (N := 21) hx hb hts in_RX6 hown hK hP 0 rfl rfl 19 (by decide) (hts _ (List.mem_of_getElem? (i := 1) rfl)) (fun _ h9 => h9) rfl dX6_command_51 ?_
    refine lv_if_eq (tgt := 58) hx hb dX6_command_54 (by decide) (fun c_2 => ?_) (fun c_2 => ?_)
    · replace c_2 := zI0 c_2
      refine lv_aload_n hx hb dX6_command_58 rfl (lv_at hl 3 rfl) ?_
      refine lv_dup hx hb dX6_command_59 rfl ?_
      refine va_get (D := D) (ci := 10) (v := .int (nI he)) (C := RX6) (T := TX6) (N := 21) hx hb hts in_RX6 hown hK hP 0 rfl rfl 16 (by decide) (hts _ (List.mem_of_getElem? (i := 2) rfl)) (fun _ h9 => h9) rfl dX6_command_60 ?_
      refine lv_iconst (v := 1) hx hb dX6_command_63 (by decide) ?_
      refine lv_iadd hx hb dX6_command_64 ?_
      refine z_top (y := nI (he + 1)) (nI_add he 1) ?_
      refine va_put (D := D) (ci := 10) (v := .int (nI (he + 1))) (ty := .int) (C := RX6) (T := TX6) (N := 21) hx hb hts in_RX6 tyX6 tyX6_ok nmX6 hown hK hP hD hS 0 rfl rfl 16 (by decide) (hts _ (List.mem_of_getElem? (i := 2) rfl)) (fun _ h9 => h9) rfl (by decide +kernel) rfl rfl (Nat.le_of_ble_eq_true rfl) dX6_command_65 (fun H locs hP hD hS => ?_)
      have hP : va_P D vwCl [(x9, .inr (10, [.int 0, .int (nI ch), .int era, .int why, .int det, .int cau, .int (zI sv), .int (zI rj), .ref v9, .ref b9, .ref s9, .ref k9, .ref p9, .ref t9, .ref n9, .int (nI tn), .int (nI (he + 1)), .int (nI en), .int (nI ln), .int (zI false), .int (zI true)])), (t9, .inl (cy 0, 60, .inl tx)), (v9, .inl (cy 0, 188, .inl v))] H := hP
      have hD : va_D A [(x9, .inr (10, [.int 0, .int (nI ch), .int era, .int why, .int det, .int cau, .int (zI sv), .int (zI rj), .ref v9, .ref b9, .ref s9, .ref k9, .ref p9, .ref t9, .ref n9, .int (nI tn), .int (nI (he + 1)), .int (nI en), .int (nI ln), .int (zI false), .int (zI true)])), (t9, .inl (cy 0, 60, .inl tx)), (v9, .inl (cy 0, 188, .inl v))] := hD
      refine lv_iload_n hx hb dX6_command_68 rfl (lv_at hl 2 rfl) ?_
      refine zcS (As := [.int 104]) (rest := []) [] hg.1 ⟨hx, hb, hml, hown, hts⟩ (c_X6_isNumbered hg l D cy 104) (va_cwS 1 hts gX6_command_X6_isNumbered rfl rfl rfl (by decide +kernel) ⟨Nat.le_of_ble_eq_true rfl, Nat.le_of_ble_eq_true rfl⟩) hG hK hP hD hS hA rfl rfl rfl  rfl hl.1 rfl (Nat.le_of_ble_eq_true rfl) dX6_command_69 ⟨Nat.zero_le _, Nat.zero_le _⟩ (fun H locs hP hD hS => ?_)
      have hP : va_P D vwCl [(x9, .inr (10, [.int 0, .int (nI ch), .int era, .int why, .int det, .int cau, .int (zI sv), .int (zI rj), .ref v9, .ref b9, .ref s9, .ref k9, .ref p9, .ref t9, .ref n9, .int (nI tn), .int (nI (he + 1)), .int (nI en), .int (nI ln), .int (zI false), .int (zI true)])), (t9, .inl (cy 0, 60, .inl tx)), (v9, .inl (cy 0, 188, .inl v))] H := hP
      have hD : va_D A [(x9, .inr (10, [.int 0, .int (nI ch), .int era, .int why, .int det, .int cau, .int (zI sv), .int (zI rj), .ref v9, .ref b9, .ref s9, .ref k9, .ref p9, .ref t9, .ref n9, .int (nI tn), .int (nI (he + 1)), .int (nI en), .int (nI ln), .int (zI false), .int (zI true)])), (t9, .inl (cy 0, 60, .inl tx)), (v9, .inl (cy 0, 188, .inl v))] := hD
      refine z_top (y := zI true) (rfl) ?_
      refine lv_if_eq (tgt := 81) hx hb dX6_command_72 (by decide) (fun c_3 => ?_) (fun c_3 => ?_)
      · replace c_3 := zI0 c_3
        exact absurd c_3 (by decide)
      · replace c_3 := zI1 c_3
        refine lv_aload_n hx hb dX6_command_75 rfl (lv_at hl 3 rfl) ?_
        refine lv_iconst (v := 2) hx hb dX6_command_76 (by decide) ?_
        refine z_top (y := nI 2) (rfl) ?_
        refine zcV (As := [.int (nI 2)]) (rest := []) [0, 1] 0 hg.1 ⟨hx, hb, hml, hown, hts⟩ (c_X6_digits hg l D cy x9 0 ch era why det cau sv rj v9 b9 s9 k9 p9 t9 n9 tn (he + 1) en ln true tx 2 (by first | assumption | omega) (by first | assumption | omega) (by first | assumption | omega) (by first | assumption | omega)) (cwV 1 hts gX6_command_X6_digits rfl rfl rfl (by decide +kernel) ⟨Nat.le_of_ble_eq_true rfl, Nat.le_of_ble_eq_true rfl⟩) hG hK hP hD hS hA rfl rfl (Eq.trans (b := [x9, t9]) rfl rfl) rfl rfl rfl hl.1 rfl (Nat.le_of_ble_eq_true rfl) dX6_command_77 ⟨Nat.zero_le _, Nat.zero_le _⟩ (fun H locs hP hD hS => ?_)
        have hP : va_P D vwCl [(x9, .inr (10, [.int 0, .int (nI ch), .int era, .int why, .int det, .int cau, .int (zI sv), .int (zI rj), .ref v9, .ref b9, .ref s9, .ref k9, .ref p9, .ref t9, .ref n9, .int (nI tn), .int (nI ((he + 1) + zdN tx en 2 (he + 1))), .int (nI en), .int (nI ln), .int (zI (decide (zdN tx en 2 (he + 1) = 0))), .int (zI true)])), (t9, .inl (cy 0, 60, .inl tx)), (v9, .inl (cy 0, 188, .inl v))] H := hP
        have hD : va_D A [(x9, .inr (10, [.int 0, .int (nI ch), .int era, .int why, .int det, .int cau, .int (zI sv), .int (zI rj), .ref v9, .ref b9, .ref s9, .ref k9, .ref p9, .ref t9, .ref n9, .int (nI tn), .int (nI ((he + 1) + zdN tx en 2 (he + 1))), .int (nI en), .int (nI ln), .int (zI (decide (zdN tx en 2 (he + 1) = 0))), .int (zI true)])), (t9, .inl (cy 0, 60, .inl tx)), (v9, .inl (cy 0, 188, .inl v))] := hD
        refine lv_istore_n (lv' := [(2, .int (zdV tx en 2 (he + 1) 0)), (3, .int 0), (1, .int 104), (0, .ref x9)]) hx hb dX6_command_80 rfl hl (by decide) rfl (fun ls hl => ?_)
        refine lv_iload_n hx hb dX6_command_81 rfl (lv_at hl 2 rfl) ?_
        refine zcS (As := [.int 104]) (rest := []) [] hg.1 ⟨hx, hb, hml, hown, hts⟩ (c_X6_isDigit hg l D cy 104) (va_cwS 1 hts gX6_command_X6_isDigit rfl rfl rfl (by decide +kernel) ⟨Nat.le_of_ble_eq_true rfl, Nat.le_of_ble_eq_true rfl⟩) hG hK hP hD hS hA rfl rfl rfl  rfl hl.1 rfl (Nat.le_of_ble_eq_true rfl) dX6_command_82 ⟨Nat.zero_le _, Nat.zero_le _⟩ (fun H locs hP hD hS => ?_)
        have hP : va_P D vwCl [(x9, .inr (10, [.int 0, .int (nI ch), .int era, .int why, .int det, .int cau, .int (zI sv), .int (zI rj), .ref v9, .ref b9, .ref s9, .ref k9, .ref p9, .ref t9, .ref n9, .int (nI tn), .int (nI ((he + 1) + zdN tx en 2 (he + 1))), .int (nI en), .int (nI ln), .int (zI (decide (zdN tx en 2 (he + 1) = 0))), .int (zI true)])), (t9, .inl (cy 0, 60, .inl tx)), (v9, .inl (cy 0, 188, .inl v))] H := hP
        have hD : va_D A [(x9, .inr (10, [.int 0, .int (nI ch), .int era, .int why, .int det, .int cau, .int (zI sv), .int (zI rj), .ref v9, .ref b9, .ref s9, .ref k9, .ref p9, .ref t9, .ref n9, .int (nI tn), .int (nI ((he + 1) + zdN tx en 2 (he + 1))), .int (nI en), .int (nI ln), .int (zI (decide (zdN tx en 2 (he + 1) = 0))), .int (zI true)])), (t9, .inl (cy 0, 60, .inl tx)), (v9, .inl (cy 0, 188, .inl v))] := hD
        refine z_top (y := zI false) (rfl) ?_
        refine lv_if_eq (tgt := 94) hx hb dX6_command_85 (by decide) (fun c_4 => ?_) (fun c_4 => ?_)
        · replace c_4 := zI0 c_4
          refine lv_iload_n hx hb dX6_command_94 rfl (lv_at hl 2 rfl) ?_
          refine lv_bipush (v := 112) hx hb dX6_command_95 (by decide) ?_
          refine lv_icmp_ne (tgt := 105) hx hb dX6_command_97 (by decide) (fun c_5 => ?_) (fun c_5 => ?_)
          · refine lv_iload_n hx hb dX6_command_105 rfl (lv_at hl 2 rfl) ?_
            refine lv_bipush (v := 99) hx hb dX6_command_106 (by decide) ?_
            refine lv_icmp_ne (tgt := 118) hx hb dX6_command_108 (by decide) (fun c_6 => ?_) (fun c_6 => ?_)
            · refine lv_iload_n hx hb dX6_command_118 rfl (lv_at hl 2 rfl) ?_
              refine lv_bipush (v := 121) hx hb dX6_command_119 (by decide) ?_
              refine lv_icmp_ne (tgt := 131) hx hb dX6_command_121 (by decide) (fun c_7 => ?_) (fun c_7 => ?_)
              · refine lv_aload_n hx hb dX6_command_131 rfl (lv_at hl 3 rfl) ?_
                refine va_get (D := D) (ci := 10) (v := .int (zI (decide (zdN tx en 2 (he + 1) = 0)))) (C := RX6) (T := TX6) (N := 21) hx hb hts in_RX6 hown hK hP 0 rfl rfl 19 (by decide) (hts _ (List.mem_of_getElem? (i := 1) rfl)) (fun _ h9 => h9) rfl dX6_command_132 ?_
                refine lv_if_ne (tgt := 145) hx hb dX6_command_135 (by decide) (fun c_8 => ?_) (fun c_8 => ?_)
                · replace c_8 := zI1 c_8
                  exact absurd (hw.symm.trans c_8) (by decide)
                · replace c_8 := zI0 c_8
                  have er_9 : decide (zdN tx en 2 (he + 1) = 0) = false := c_8
                  rw [er_9] at hP hD
                  refine lv_aload_n hx hb dX6_command_138 rfl (lv_at hl 3 rfl) ?_
                  refine va_get (D := D) (ci := 10) (v := .int (zI true)) (C := RX6) (T := TX6) (N := 21) hx hb hts in_RX6 hown hK hP 0 rfl rfl 20 (by decide) (hts _ (List.mem_of_getElem? (i := 3) rfl)) (fun _ h9 => h9) rfl dX6_command_139 ?_
                  refine lv_if_ne (tgt := 146) hx hb dX6_command_142 (by decide) (fun c_10 => ?_) (fun c_10 => ?_)
                  · replace c_10 := zI1 c_10
                    refine lv_aload_n hx hb dX6_command_146 rfl (lv_at hl 3 rfl) ?_
                    refine lv_iload_n hx hb dX6_command_147 rfl (lv_at hl 2 rfl) ?_
                    refine lv_iload_n hx hb dX6_command_148 rfl (lv_at hl 0 rfl) ?_
                    refine lv_iload_n hx hb dX6_command_149 rfl (lv_at hl 1 rfl) ?_
                    refine zcV (As := [.int 104, .int (zdV tx en 2 (he + 1) 0), .int 0]) (rest := []) [0, 2] 0 hg.1 ⟨hx, hb, hml, hown, hts⟩ hdo (cwV 3 hts gX6_command_X6_does rfl rfl rfl (by decide +kernel) ⟨Nat.le_of_ble_eq_true rfl, Nat.le_of_ble_eq_true rfl⟩) hG hK hP hD hS hA rfl rfl (Eq.trans (b := [x9, v9]) rfl rfl) rfl rfl rfl hl.1 rfl (Nat.le_of_ble_eq_true rfl) dX6_command_150 ⟨Nat.zero_le _, Nat.zero_le _⟩ (fun H locs hP hD hS => ?_)
                    have hP : va_P D vwCl [(x9, .inr (10, [.int th2, .int (nI ch), .int era, .int why2, .int det2, .int cau2, .int (zI sv), .int (zI rj2), .ref v9, .ref b9, .ref s9, .ref k9, .ref p9, .ref t9, .ref n9, .int (nI tn), .int (nI ((he + 1) + zdN tx en 2 (he + 1))), .int (nI en), .int (nI ln), .int (zI false), .int (zI true)])), (t9, .inl (cy 0, 60, .inl tx)), (v9, .inl (cy 0, 188, .inl v2))] H := hP
                    have hD : va_D A [(x9, .inr (10, [.int th2, .int (nI ch), .int era, .int why2, .int det2, .int cau2, .int (zI sv), .int (zI rj2), .ref v9, .ref b9, .ref s9, .ref k9, .ref p9, .ref t9, .ref n9, .int (nI tn), .int (nI ((he + 1) + zdN tx en 2 (he + 1))), .int (nI en), .int (nI ln), .int (zI false), .int (zI true)])), (t9, .inl (cy 0, 60, .inl tx)), (v9, .inl (cy 0, 188, .inl v2))] := hD
                    refine lv_istore (lv' := [(4, .int res2), (2, .int (zdV tx en 2 (he + 1) 0)), (3, .int 0), (1, .int 104), (0, .ref x9)]) hx hb dX6_command_153 hl (by decide) rfl (fun ls hl => ?_)
                    exact zvret hend hx hb hr hlk hK hP hD hS dX6_command_155 rfl
                  · replace c_10 := zI0 c_10
                    exact absurd c_10 (by decide)
              · exact absurd c_7 (by decide)
            · exact absurd c_6 (by decide)
          · exact absurd c_5 (by decide)
        · replace c_4 := zI1 c_4
          exact absurd c_4 (by decide)
    · replace c_2 := zI1 c_2
      exact absurd c_2 (by decide)
  · replace c_1 := zI0 c_1
    exact absurd c_1 (by decide)

abbrev rmX6_command_d114 : Room := { frames := 6, cells := 0, slots := 0, locals := 139 }
set_option maxHeartbeats 4000000 in
set_option maxRecDepth 100000 in
theorem c_X6_command_d114 {G : zG} (hg : zGN G) (l : Launch) (D : va_G) (cy : Nat → ClassId) (x9 : Nat) (ch : Nat) (era : Int32) (why : Int32) (det : Int32) (cau : Int32) (sv : Bool) (rj : Bool) (v9 : Nat) (b9 : Nat) (s9 : Nat) (k9 : Nat) (p9 : Nat) (t9 : Nat) (n9 : Nat) (tn : Nat) (he : Nat) (en : Nat) (ln : Nat) (iw : Bool) (tx : Nat → Int32) (v : Nat → Int32) (res2 : Int32) (th2 : Int32) (why2 : Int32) (det2 : Int32) (cau2 : Int32) (rj2 : Bool) (v2 : Nat → Int32) (hhe : he ≤ 60) (hen : en ≤ 60) (hc : zqs tx en he = 114) (hw : (decide (zdN tx en 2 (he + 1) = 0)) = false) (hdo : zM G D vwCl (zT cy) l yX6_does wsX6_does { frames := 5, cells := 0, slots := 0, locals := 116 } [.ref x9, .int 114, .int (zdV tx en 2 (he + 1) 0), .int 0] [(x9, .inr (10, [.int 0, .int (nI ch), .int era, .int why, .int det, .int cau, .int (zI sv), .int (zI rj), .ref v9, .ref b9, .ref s9, .ref k9, .ref p9, .ref t9, .ref n9, .int (nI tn), .int (nI ((he + 1) + zdN tx en 2 (he + 1))), .int (nI en), .int (nI ln), .int (zI false), .int (zI true)])), (v9, .inl (cy 0, 188, .inl v))] (some (.int res2)) [(x9, .inr (10, [.int th2, .int (nI ch), .int era, .int why2, .int det2, .int cau2, .int (zI sv), .int (zI rj2), .ref v9, .ref b9, .ref s9, .ref k9, .ref p9, .ref t9, .ref n9, .int (nI tn), .int (nI ((he + 1) + zdN tx en 2 (he + 1))), .int (nI en), .int (nI ln), .int (zI false), .int (zI true)])), (v9, .inl (cy 0, 188, .inl v2))]) : zM G D vwCl (zT cy) l yX6_command wsX6_command rmX6_command_d114 [.ref x9] [(x9, .inr (10, [.int 0, .int (nI ch), .int era, .int why, .int det, .int cau, .int (zI sv), .int (zI rj), .ref v9, .ref b9, .ref s9, .ref k9, .ref p9, .ref t9, .ref n9, .int (nI tn), .int (nI he), .int (nI en), .int (nI ln), .int (zI iw), .int (zI true)])), (t9, .inl (cy 0, 60, .inl tx)), (v9, .inl (cy 0, 188, .inl v))] none [(x9, .inr (10, [.int th2, .int (nI ch), .int era, .int why2, .int det2, .int cau2, .int (zI sv), .int (zI rj2), .ref v9, .ref b9, .ref s9, .ref k9, .ref p9, .ref t9, .ref n9, .int (nI tn), .int (nI ((he + 1) + zdN tx en 2 (he + 1))), .int (nI en), .int (nI ln), .int (zI false), .int (zI true)])), (t9, .inl (cy 0, 60, .inl tx)), (v9, .inl (cy 0, 188, .inl v2))] := by
  refine zM_of (cc := cX6_command) (maxL := 5) (ret := none) (by decide) rfl (Nat.le_of_ble_eq_true rfl) ?_
  intro p e s m below meth c A Q hend hx hb hml hr hts hown hlk hG hK hP hD hA hS ls hl
  have hown : s.vm.findClass RX6 = some m.cls := hown
  have in_RX6 : ∀ w ∈ u_ws RX6 TX6 21, w ∈ wsX6_command := by decide +kernel
  have hl : lv_has ls 5 [(0, .ref x9)] := hl
  refine lv_aload_n hx hb dX6_command_0 rfl (lv_at hl 0 rfl) ?_
  refine zcV (As := []) (rest := []) [0, 1] 0 hg.1 ⟨hx, hb, hml, hown, hts⟩ (c_X6_sign hg l D cy x9 0 ch era why det cau sv rj v9 b9 s9 k9 p9 t9 n9 tn he en ln iw true tx (by first | assumption | omega) (by first | assumption | omega)) (cwV 0 hts gX6_command_X6_sign rfl rfl rfl (by decide +kernel) ⟨Nat.le_of_ble_eq_true rfl, Nat.le_of_ble_eq_true rfl⟩) hG hK hP hD hS hA rfl rfl rfl rfl rfl rfl hl.1 rfl (Nat.le_of_ble_eq_true rfl) dX6_command_1 ⟨Nat.zero_le _, Nat.zero_le _⟩ (fun H locs hP hD hS => ?_)
  have hP : va_P D vwCl [(x9, .inr (10, [.int 0, .int (nI ch), .int era, .int why, .int det, .int cau, .int (zI sv), .int (zI rj), .ref v9, .ref b9, .ref s9, .ref k9, .ref p9, .ref t9, .ref n9, .int (nI tn), .int (nI he), .int (nI en), .int (nI ln), .int (zI iw), .int (zI true)])), (t9, .inl (cy 0, 60, .inl tx)), (v9, .inl (cy 0, 188, .inl v))] H := hP
  have hD : va_D A [(x9, .inr (10, [.int 0, .int (nI ch), .int era, .int why, .int det, .int cau, .int (zI sv), .int (zI rj), .ref v9, .ref b9, .ref s9, .ref k9, .ref p9, .ref t9, .ref n9, .int (nI tn), .int (nI he), .int (nI en), .int (nI ln), .int (zI iw), .int (zI true)])), (t9, .inl (cy 0, 60, .inl tx)), (v9, .inl (cy 0, 188, .inl v))] := hD
  refine z_top (y := 114) (hc) ?_
  refine lv_istore_n (lv' := [(1, .int 114), (0, .ref x9)]) hx hb dX6_command_4 rfl hl (by decide) rfl (fun ls hl => ?_)
  refine lv_iconst (v := 0) hx hb dX6_command_5 (by decide) ?_
  refine lv_istore_n (lv' := [(2, .int 0), (1, .int 114), (0, .ref x9)]) hx hb dX6_command_6 rfl hl (by decide) rfl (fun ls hl => ?_)
  refine lv_iconst (v := 0) hx hb dX6_command_7 (by decide) ?_
  refine lv_istore_n (lv' := [(3, .int 0), (2, .int 0), (1, .int 114), (0, .ref x9)]) hx hb dX6_command_8 rfl hl (by decide) rfl (fun ls hl => ?_)
  refine lv_aload_n hx hb dX6_command_9 rfl (lv_at hl 3 rfl) ?_
  refine lv_iload_n hx hb dX6_command_10 rfl (lv_at hl 2 rfl) ?_
  refine zcS (As := [.int 114]) (rest := [.ref x9]) [] hg.1 ⟨hx, hb, hml, hown, hts⟩ (c_X6_isNumbered hg l D cy 114) (va_cwS 1 hts gX6_command_X6_isNumbered rfl rfl rfl (by decide +kernel) ⟨Nat.le_of_ble_eq_true rfl, Nat.le_of_ble_eq_true rfl⟩) hG hK hP hD hS hA rfl rfl rfl  rfl hl.1 rfl (Nat.le_of_ble_eq_true rfl) dX6_command_11 ⟨Nat.zero_le _, Nat.zero_le _⟩ (fun H locs hP hD hS => ?_)
  have hP : va_P D vwCl [(x9, .inr (10, [.int 0, .int (nI ch), .int era, .int why, .int det, .int cau, .int (zI sv), .int (zI rj), .ref v9, .ref b9, .ref s9, .ref k9, .ref p9, .ref t9, .ref n9, .int (nI tn), .int (nI he), .int (nI en), .int (nI ln), .int (zI iw), .int (zI true)])), (t9, .inl (cy 0, 60, .inl tx)), (v9, .inl (cy 0, 188, .inl v))] H := hP
  have hD : va_D A [(x9, .inr (10, [.int 0, .int (nI ch), .int era, .int why, .int det, .int cau, .int (zI sv), .int (zI rj), .ref v9, .ref b9, .ref s9, .ref k9, .ref p9, .ref t9, .ref n9, .int (nI tn), .int (nI he), .int (nI en), .int (nI ln), .int (zI iw), .int (zI true)])), (t9, .inl (cy 0, 60, .inl tx)), (v9, .inl (cy 0, 188, .inl v))] := hD
  refine z_top (y := zI true) (rfl) ?_
  refine lv_if_ne (tgt := 46) hx hb dX6_command_14 (by decide) (fun c_1 => ?_) (fun c_1 => ?_)
  · replace c_1 := zI1 c_1
    refine lv_iconst (v := 0) hx hb dX6_command_46 (by decide) ?_
    refine z_top (y := zI false) rfl ?_
    refine va_put (D := D) (ci := 10) (v := .int (zI false)) (ty := .boolean) (C := RX6) (T := TX6) (N := 21) hx hb hts in_RX6 tyX6 tyX6_ok nmX6 hown hK hP hD hS 0 rfl rfl 19 (by decide) (hts _ (List.mem_of_getElem? (i := 1) rfl)) (fun _ h9 => h9) rfl (by decide +kernel) (zI_nar _) (zI_fit _) (Nat.le_of_ble_eq_true rfl) dX6_command_47 (fun H locs hP hD hS => ?_)
    have hP : va_P D vwCl [(x9, .inr (10, [.int 0, .int (nI ch), .int era, .int why, .int det, .int cau, .int (zI sv), .int (zI rj), .ref v9, .ref b9, .ref s9, .ref k9, .ref p9, .ref t9, .ref n9, .int (nI tn), .int (nI he), .int (nI en), .int (nI ln), .int (zI false), .int (zI true)])), (t9, .inl (cy 0, 60, .inl tx)), (v9, .inl (cy 0, 188, .inl v))] H := hP
    have hD : va_D A [(x9, .inr (10, [.int 0, .int (nI ch), .int era, .int why, .int det, .int cau, .int (zI sv), .int (zI rj), .ref v9, .ref b9, .ref s9, .ref k9, .ref p9, .ref t9, .ref n9, .int (nI tn), .int (nI he), .int (nI en), .int (nI ln), .int (zI false), .int (zI true)])), (t9, .inl (cy 0, 60, .inl tx)), (v9, .inl (cy 0, 188, .inl v))] := hD
    refine lv_aload_n hx hb dX6_command_50 rfl (lv_at hl 3 rfl) ?_
    refine va_get (D := D) (ci := 10) (v := .int (zI false)) (C := RX6) (T := TX6) (N := 21) hx hb hts in_RX6 hown hK hP 0 rfl rfl 19 (by decide) (hts _ (List.mem_of_getElem? (i := 1) rfl)) (fun _ h9 => h9) rfl dX6_command_51 ?_
    refine lv_if_eq (tgt := 58) hx hb dX6_command_54 (by decide) (fun c_2 => ?_) (fun c_2 => ?_)
    · replace c_2 := zI0 c_2
      refine lv_aload_n hx hb dX6_command_58 rfl (lv_at hl 3 rfl) ?_
      refine lv_dup hx hb dX6_command_59 rfl ?_
      refine va_get (D := D) (ci := 10) (v := .int (nI he)) (C := RX6) (T := TX6) (N := 21) hx hb hts in_RX6 hown hK hP 0 rfl rfl 16 (by decide) (hts _ (List.mem_of_getElem? (i := 2) rfl)) (fun _ h9 => h9) rfl dX6_command_60 ?_
      refine lv_iconst (v := 1) hx hb dX6_command_63 (by decide) ?_
      refine lv_iadd hx hb dX6_command_64 ?_
      refine z_top (y := nI (he + 1)) (nI_add he 1) ?_
      refine va_put (D := D) (ci := 10) (v := .int (nI (he + 1))) (ty := .int) (C := RX6) (T := TX6) (N := 21) hx hb hts in_RX6 tyX6 tyX6_ok nmX6 hown hK hP hD hS 0 rfl rfl 16 (by decide) (hts _ (List.mem_of_getElem? (i := 2) rfl)) (fun _ h9 => h9) rfl (by decide +kernel) rfl rfl (Nat.le_of_ble_eq_true rfl) dX6_command_65 (fun H locs hP hD hS => ?_)
      have hP : va_P D vwCl [(x9, .inr (10, [.int 0, .int (nI ch), .int era, .int why, .int det, .int cau, .int (zI sv), .int (zI rj), .ref v9, .ref b9, .ref s9, .ref k9, .ref p9, .ref t9, .ref n9, .int (nI tn), .int (nI (he + 1)), .int (nI en), .int (nI ln), .int (zI false), .int (zI true)])), (t9, .inl (cy 0, 60, .inl tx)), (v9, .inl (cy 0, 188, .inl v))] H := hP
      have hD : va_D A [(x9, .inr (10, [.int 0, .int (nI ch), .int era, .int why, .int det, .int cau, .int (zI sv), .int (zI rj), .ref v9, .ref b9, .ref s9, .ref k9, .ref p9, .ref t9, .ref n9, .int (nI tn), .int (nI (he + 1)), .int (nI en), .int (nI ln), .int (zI false), .int (zI true)])), (t9, .inl (cy 0, 60, .inl tx)), (v9, .inl (cy 0, 188, .inl v))] := hD
      refine lv_iload_n hx hb dX6_command_68 rfl (lv_at hl 2 rfl) ?_
      refine zcS (As := [.int 114]) (rest := []) [] hg.1 ⟨hx, hb, hml, hown, hts⟩ (c_X6_isNumbered hg l D cy 114) (va_cwS 1 hts gX6_command_X6_isNumbered rfl rfl rfl (by decide +kernel) ⟨Nat.le_of_ble_eq_true rfl, Nat.le_of_ble_eq_true rfl⟩) hG hK hP hD hS hA rfl rfl rfl  rfl hl.1 rfl (Nat.le_of_ble_eq_true rfl) dX6_command_69 ⟨Nat.zero_le _, Nat.zero_le _⟩ (fun H locs hP hD hS => ?_)
      have hP : va_P D vwCl [(x9, .inr (10, [.int 0, .int (nI ch), .int era, .int why, .int det, .int cau, .int (zI sv), .int (zI rj), .ref v9, .ref b9, .ref s9, .ref k9, .ref p9, .ref t9, .ref n9, .int (nI tn), .int (nI (he + 1)), .int (nI en), .int (nI ln), .int (zI false), .int (zI true)])), (t9, .inl (cy 0, 60, .inl tx)), (v9, .inl (cy 0, 188, .inl v))] H := hP
      have hD : va_D A [(x9, .inr (10, [.int 0, .int (nI ch), .int era, .int why, .int det, .int cau, .int (zI sv), .int (zI rj), .ref v9, .ref b9, .ref s9, .ref k9, .ref p9, .ref t9, .ref n9, .int (nI tn), .int (nI (he + 1)), .int (nI en), .int (nI ln), .int (zI false), .int (zI true)])), (t9, .inl (cy 0, 60, .inl tx)), (v9, .inl (cy 0, 188, .inl v))] := hD
      refine z_top (y := zI true) (rfl) ?_
      refine lv_if_eq (tgt := 81) hx hb dX6_command_72 (by decide) (fun c_3 => ?_) (fun c_3 => ?_)
      · replace c_3 := zI0 c_3
        exact absurd c_3 (by decide)
      · replace c_3 := zI1 c_3
        refine lv_aload_n hx hb dX6_command_75 rfl (lv_at hl 3 rfl) ?_
        refine lv_iconst (v := 2) hx hb dX6_command_76 (by decide) ?_
        refine z_top (y := nI 2) (rfl) ?_
        refine zcV (As := [.int (nI 2)]) (rest := []) [0, 1] 0 hg.1 ⟨hx, hb, hml, hown, hts⟩ (c_X6_digits hg l D cy x9 0 ch era why det cau sv rj v9 b9 s9 k9 p9 t9 n9 tn (he + 1) en ln true tx 2 (by first | assumption | omega) (by first | assumption | omega) (by first | assumption | omega) (by first | assumption | omega)) (cwV 1 hts gX6_command_X6_digits rfl rfl rfl (by decide +kernel) ⟨Nat.le_of_ble_eq_true rfl, Nat.le_of_ble_eq_true rfl⟩) hG hK hP hD hS hA rfl rfl (Eq.trans (b := [x9, t9]) rfl rfl) rfl rfl rfl hl.1 rfl (Nat.le_of_ble_eq_true rfl) dX6_command_77 ⟨Nat.zero_le _, Nat.zero_le _⟩ (fun H locs hP hD hS => ?_)
        have hP : va_P D vwCl [(x9, .inr (10, [.int 0, .int (nI ch), .int era, .int why, .int det, .int cau, .int (zI sv), .int (zI rj), .ref v9, .ref b9, .ref s9, .ref k9, .ref p9, .ref t9, .ref n9, .int (nI tn), .int (nI ((he + 1) + zdN tx en 2 (he + 1))), .int (nI en), .int (nI ln), .int (zI (decide (zdN tx en 2 (he + 1) = 0))), .int (zI true)])), (t9, .inl (cy 0, 60, .inl tx)), (v9, .inl (cy 0, 188, .inl v))] H := hP
        have hD : va_D A [(x9, .inr (10, [.int 0, .int (nI ch), .int era, .int why, .int det, .int cau, .int (zI sv), .int (zI rj), .ref v9, .ref b9, .ref s9, .ref k9, .ref p9, .ref t9, .ref n9, .int (nI tn), .int (nI ((he + 1) + zdN tx en 2 (he + 1))), .int (nI en), .int (nI ln), .int (zI (decide (zdN tx en 2 (he + 1) = 0))), .int (zI true)])), (t9, .inl (cy 0, 60, .inl tx)), (v9, .inl (cy 0, 188, .inl v))] := hD
        refine lv_istore_n (lv' := [(2, .int (zdV tx en 2 (he + 1) 0)), (3, .int 0), (1, .int 114), (0, .ref x9)]) hx hb dX6_command_80 rfl hl (by decide) rfl (fun ls hl => ?_)
        refine lv_iload_n hx hb dX6_command_81 rfl (lv_at hl 2 rfl) ?_
        refine zcS (As := [.int 114]) (rest := []) [] hg.1 ⟨hx, hb, hml, hown, hts⟩ (c_X6_isDigit hg l D cy 114) (va_cwS 1 hts gX6_command_X6_isDigit rfl rfl rfl (by decide +kernel) ⟨Nat.le_of_ble_eq_true rfl, Nat.le_of_ble_eq_true rfl⟩) hG hK hP hD hS hA rfl rfl rfl  rfl hl.1 rfl (Nat.le_of_ble_eq_true rfl) dX6_command_82 ⟨Nat.zero_le _, Nat.zero_le _⟩ (fun H locs hP hD hS => ?_)
        have hP : va_P D vwCl [(x9, .inr (10, [.int 0, .int (nI ch), .int era, .int why, .int det, .int cau, .int (zI sv), .int (zI rj), .ref v9, .ref b9, .ref s9, .ref k9, .ref p9, .ref t9, .ref n9, .int (nI tn), .int (nI ((he + 1) + zdN tx en 2 (he + 1))), .int (nI en), .int (nI ln), .int (zI (decide (zdN tx en 2 (he + 1) = 0))), .int (zI true)])), (t9, .inl (cy 0, 60, .inl tx)), (v9, .inl (cy 0, 188, .inl v))] H := hP
        have hD : va_D A [(x9, .inr (10, [.int 0, .int (nI ch), .int era, .int why, .int det, .int cau, .int (zI sv), .int (zI rj), .ref v9, .ref b9, .ref s9, .ref k9, .ref p9, .ref t9, .ref n9, .int (nI tn), .int (nI ((he + 1) + zdN tx en 2 (he + 1))), .int (nI en), .int (nI ln), .int (zI (decide (zdN tx en 2 (he + 1) = 0))), .int (zI true)])), (t9, .inl (cy 0, 60, .inl tx)), (v9, .inl (cy 0, 188, .inl v))] := hD
        refine z_top (y := zI false) (rfl) ?_
        refine lv_if_eq (tgt := 94) hx hb dX6_command_85 (by decide) (fun c_4 => ?_) (fun c_4 => ?_)
        · replace c_4 := zI0 c_4
          refine lv_iload_n hx hb dX6_command_94 rfl (lv_at hl 2 rfl) ?_
          refine lv_bipush (v := 112) hx hb dX6_command_95 (by decide) ?_
          refine lv_icmp_ne (tgt := 105) hx hb dX6_command_97 (by decide) (fun c_5 => ?_) (fun c_5 => ?_)
          · refine lv_iload_n hx hb dX6_command_105 rfl (lv_at hl 2 rfl) ?_
            refine lv_bipush (v := 99) hx hb dX6_command_106 (by decide) ?_
            refine lv_icmp_ne (tgt := 118) hx hb dX6_command_108 (by decide) (fun c_6 => ?_) (fun c_6 => ?_)
            · refine lv_iload_n hx hb dX6_command_118 rfl (lv_at hl 2 rfl) ?_
              refine lv_bipush (v := 121) hx hb dX6_command_119 (by decide) ?_
              refine lv_icmp_ne (tgt := 131) hx hb dX6_command_121 (by decide) (fun c_7 => ?_) (fun c_7 => ?_)
              · refine lv_aload_n hx hb dX6_command_131 rfl (lv_at hl 3 rfl) ?_
                refine va_get (D := D) (ci := 10) (v := .int (zI (decide (zdN tx en 2 (he + 1) = 0)))) (C := RX6) (T := TX6) (N := 21) hx hb hts in_RX6 hown hK hP 0 rfl rfl 19 (by decide) (hts _ (List.mem_of_getElem? (i := 1) rfl)) (fun _ h9 => h9) rfl dX6_command_132 ?_
                refine lv_if_ne (tgt := 145) hx hb dX6_command_135 (by decide) (fun c_8 => ?_) (fun c_8 => ?_)
                · replace c_8 := zI1 c_8
                  exact absurd (hw.symm.trans c_8) (by decide)
                · replace c_8 := zI0 c_8
                  have er_9 : decide (zdN tx en 2 (he + 1) = 0) = false := c_8
                  rw [er_9] at hP hD
                  refine lv_aload_n hx hb dX6_command_138 rfl (lv_at hl 3 rfl) ?_
                  refine va_get (D := D) (ci := 10) (v := .int (zI true)) (C := RX6) (T := TX6) (N := 21) hx hb hts in_RX6 hown hK hP 0 rfl rfl 20 (by decide) (hts _ (List.mem_of_getElem? (i := 3) rfl)) (fun _ h9 => h9) rfl dX6_command_139 ?_
                  refine lv_if_ne (tgt := 146) hx hb dX6_command_142 (by decide) (fun c_10 => ?_) (fun c_10 => ?_)
                  · replace c_10 := zI1 c_10
                    refine lv_aload_n hx hb dX6_command_146 rfl (lv_at hl 3 rfl) ?_
                    refine lv_iload_n hx hb dX6_command_147 rfl (lv_at hl 2 rfl) ?_
                    refine lv_iload_n hx hb dX6_command_148 rfl (lv_at hl 0 rfl) ?_
                    refine lv_iload_n hx hb dX6_command_149 rfl (lv_at hl 1 rfl) ?_
                    refine zcV (As := [.int 114, .int (zdV tx en 2 (he + 1) 0), .int 0]) (rest := []) [0, 2] 0 hg.1 ⟨hx, hb, hml, hown, hts⟩ hdo (cwV 3 hts gX6_command_X6_does rfl rfl rfl (by decide +kernel) ⟨Nat.le_of_ble_eq_true rfl, Nat.le_of_ble_eq_true rfl⟩) hG hK hP hD hS hA rfl rfl (Eq.trans (b := [x9, v9]) rfl rfl) rfl rfl rfl hl.1 rfl (Nat.le_of_ble_eq_true rfl) dX6_command_150 ⟨Nat.zero_le _, Nat.zero_le _⟩ (fun H locs hP hD hS => ?_)
                    have hP : va_P D vwCl [(x9, .inr (10, [.int th2, .int (nI ch), .int era, .int why2, .int det2, .int cau2, .int (zI sv), .int (zI rj2), .ref v9, .ref b9, .ref s9, .ref k9, .ref p9, .ref t9, .ref n9, .int (nI tn), .int (nI ((he + 1) + zdN tx en 2 (he + 1))), .int (nI en), .int (nI ln), .int (zI false), .int (zI true)])), (t9, .inl (cy 0, 60, .inl tx)), (v9, .inl (cy 0, 188, .inl v2))] H := hP
                    have hD : va_D A [(x9, .inr (10, [.int th2, .int (nI ch), .int era, .int why2, .int det2, .int cau2, .int (zI sv), .int (zI rj2), .ref v9, .ref b9, .ref s9, .ref k9, .ref p9, .ref t9, .ref n9, .int (nI tn), .int (nI ((he + 1) + zdN tx en 2 (he + 1))), .int (nI en), .int (nI ln), .int (zI false), .int (zI true)])), (t9, .inl (cy 0, 60, .inl tx)), (v9, .inl (cy 0, 188, .inl v2))] := hD
                    refine lv_istore (lv' := [(4, .int res2), (2, .int (zdV tx en 2 (he + 1) 0)), (3, .int 0), (1, .int 114), (0, .ref x9)]) hx hb dX6_command_153 hl (by decide) rfl (fun ls hl => ?_)
                    exact zvret hend hx hb hr hlk hK hP hD hS dX6_command_155 rfl
                  · replace c_10 := zI0 c_10
                    exact absurd c_10 (by decide)
              · exact absurd c_7 (by decide)
            · exact absurd c_6 (by decide)
          · exact absurd c_5 (by decide)
        · replace c_4 := zI1 c_4
          exact absurd c_4 (by decide)
    · replace c_2 := zI1 c_2
      exact absurd c_2 (by decide)
  · replace c_1 := zI0 c_1
    exact absurd c_1 (by decide)

abbrev rmX6_command_d100 : Room := { frames := 6, cells := 0, slots := 0, locals := 139 }
set_option maxHeartbeats 4000000 in
set_option maxRecDepth 100000 in
theorem c_X6_command_d100 {G : zG} (hg : zGN G) (l : Launch) (D : va_G) (cy : Nat → ClassId) (x9 : Nat) (ch : Nat) (era : Int32) (why : Int32) (det : Int32) (cau : Int32) (sv : Bool) (rj : Bool) (v9 : Nat) (b9 : Nat) (s9 : Nat) (k9 : Nat) (p9 : Nat) (t9 : Nat) (n9 : Nat) (tn : Nat) (he : Nat) (en : Nat) (ln : Nat) (iw : Bool) (tx : Nat → Int32) (v : Nat → Int32) (res2 : Int32) (th2 : Int32) (why2 : Int32) (det2 : Int32) (cau2 : Int32) (rj2 : Bool) (v2 : Nat → Int32) (hhe : he ≤ 60) (hen : en ≤ 60) (hc : zqs tx en he = 100) (hw : (decide (zdN tx en 2 (he + 1) = 0)) = false) (hdo : zM G D vwCl (zT cy) l yX6_does wsX6_does { frames := 5, cells := 0, slots := 0, locals := 116 } [.ref x9, .int 100, .int (zdV tx en 2 (he + 1) 0), .int 0] [(x9, .inr (10, [.int 0, .int (nI ch), .int era, .int why, .int det, .int cau, .int (zI sv), .int (zI rj), .ref v9, .ref b9, .ref s9, .ref k9, .ref p9, .ref t9, .ref n9, .int (nI tn), .int (nI ((he + 1) + zdN tx en 2 (he + 1))), .int (nI en), .int (nI ln), .int (zI false), .int (zI true)])), (v9, .inl (cy 0, 188, .inl v))] (some (.int res2)) [(x9, .inr (10, [.int th2, .int (nI ch), .int era, .int why2, .int det2, .int cau2, .int (zI sv), .int (zI rj2), .ref v9, .ref b9, .ref s9, .ref k9, .ref p9, .ref t9, .ref n9, .int (nI tn), .int (nI ((he + 1) + zdN tx en 2 (he + 1))), .int (nI en), .int (nI ln), .int (zI false), .int (zI true)])), (v9, .inl (cy 0, 188, .inl v2))]) : zM G D vwCl (zT cy) l yX6_command wsX6_command rmX6_command_d100 [.ref x9] [(x9, .inr (10, [.int 0, .int (nI ch), .int era, .int why, .int det, .int cau, .int (zI sv), .int (zI rj), .ref v9, .ref b9, .ref s9, .ref k9, .ref p9, .ref t9, .ref n9, .int (nI tn), .int (nI he), .int (nI en), .int (nI ln), .int (zI iw), .int (zI true)])), (t9, .inl (cy 0, 60, .inl tx)), (v9, .inl (cy 0, 188, .inl v))] none [(x9, .inr (10, [.int th2, .int (nI ch), .int era, .int why2, .int det2, .int cau2, .int (zI sv), .int (zI rj2), .ref v9, .ref b9, .ref s9, .ref k9, .ref p9, .ref t9, .ref n9, .int (nI tn), .int (nI ((he + 1) + zdN tx en 2 (he + 1))), .int (nI en), .int (nI ln), .int (zI false), .int (zI true)])), (t9, .inl (cy 0, 60, .inl tx)), (v9, .inl (cy 0, 188, .inl v2))] := by
  refine zM_of (cc := cX6_command) (maxL := 5) (ret := none) (by decide) rfl (Nat.le_of_ble_eq_true rfl) ?_
  intro p e s m below meth c A Q hend hx hb hml hr hts hown hlk hG hK hP hD hA hS ls hl
  have hown : s.vm.findClass RX6 = some m.cls := hown
  have in_RX6 : ∀ w ∈ u_ws RX6 TX6 21, w ∈ wsX6_command := by decide +kernel
  have hl : lv_has ls 5 [(0, .ref x9)] := hl
  refine lv_aload_n hx hb dX6_command_0 rfl (lv_at hl 0 rfl) ?_
  refine zcV (As := []) (rest := []) [0, 1] 0 hg.1 ⟨hx, hb, hml, hown, hts⟩ (c_X6_sign hg l D cy x9 0 ch era why det cau sv rj v9 b9 s9 k9 p9 t9 n9 tn he en ln iw true tx (by first | assumption | omega) (by first | assumption | omega)) (cwV 0 hts gX6_command_X6_sign rfl rfl rfl (by decide +kernel) ⟨Nat.le_of_ble_eq_true rfl, Nat.le_of_ble_eq_true rfl⟩) hG hK hP hD hS hA rfl rfl rfl rfl rfl rfl hl.1 rfl (Nat.le_of_ble_eq_true rfl) dX6_command_1 ⟨Nat.zero_le _, Nat.zero_le _⟩ (fun H locs hP hD hS => ?_)
  have hP : va_P D vwCl [(x9, .inr (10, [.int 0, .int (nI ch), .int era, .int why, .int det, .int cau, .int (zI sv), .int (zI rj), .ref v9, .ref b9, .ref s9, .ref k9, .ref p9, .ref t9, .ref n9, .int (nI tn), .int (nI he), .int (nI en), .int (nI ln), .int (zI iw), .int (zI true)])), (t9, .inl (cy 0, 60, .inl tx)), (v9, .inl (cy 0, 188, .inl v))] H := hP
  have hD : va_D A [(x9, .inr (10, [.int 0, .int (nI ch), .int era, .int why, .int det, .int cau, .int (zI sv), .int (zI rj), .ref v9, .ref b9, .ref s9, .ref k9, .ref p9, .ref t9, .ref n9, .int (nI tn), .int (nI he), .int (nI en), .int (nI ln), .int (zI iw), .int (zI true)])), (t9, .inl (cy 0, 60, .inl tx)), (v9, .inl (cy 0, 188, .inl v))] := hD
  refine z_top (y := 100) (hc) ?_
  refine lv_istore_n (lv' := [(1, .int 100), (0, .ref x9)]) hx hb dX6_command_4 rfl hl (by decide) rfl (fun ls hl => ?_)
  refine lv_iconst (v := 0) hx hb dX6_command_5 (by decide) ?_
  refine lv_istore_n (lv' := [(2, .int 0), (1, .int 100), (0, .ref x9)]) hx hb dX6_command_6 rfl hl (by decide) rfl (fun ls hl => ?_)
  refine lv_iconst (v := 0) hx hb dX6_command_7 (by decide) ?_
  refine lv_istore_n (lv' := [(3, .int 0), (2, .int 0), (1, .int 100), (0, .ref x9)]) hx hb dX6_command_8 rfl hl (by decide) rfl (fun ls hl => ?_)
  refine lv_aload_n hx hb dX6_command_9 rfl (lv_at hl 3 rfl) ?_
  refine lv_iload_n hx hb dX6_command_10 rfl (lv_at hl 2 rfl) ?_
  refine zcS (As := [.int 100]) (rest := [.ref x9]) [] hg.1 ⟨hx, hb, hml, hown, hts⟩ (c_X6_isNumbered hg l D cy 100) (va_cwS 1 hts gX6_command_X6_isNumbered rfl rfl rfl (by decide +kernel) ⟨Nat.le_of_ble_eq_true rfl, Nat.le_of_ble_eq_true rfl⟩) hG hK hP hD hS hA rfl rfl rfl  rfl hl.1 rfl (Nat.le_of_ble_eq_true rfl) dX6_command_11 ⟨Nat.zero_le _, Nat.zero_le _⟩ (fun H locs hP hD hS => ?_)
  have hP : va_P D vwCl [(x9, .inr (10, [.int 0, .int (nI ch), .int era, .int why, .int det, .int cau, .int (zI sv), .int (zI rj), .ref v9, .ref b9, .ref s9, .ref k9, .ref p9, .ref t9, .ref n9, .int (nI tn), .int (nI he), .int (nI en), .int (nI ln), .int (zI iw), .int (zI true)])), (t9, .inl (cy 0, 60, .inl tx)), (v9, .inl (cy 0, 188, .inl v))] H := hP
  have hD : va_D A [(x9, .inr (10, [.int 0, .int (nI ch), .int era, .int why, .int det, .int cau, .int (zI sv), .int (zI rj), .ref v9, .ref b9, .ref s9, .ref k9, .ref p9, .ref t9, .ref n9, .int (nI tn), .int (nI he), .int (nI en), .int (nI ln), .int (zI iw), .int (zI true)])), (t9, .inl (cy 0, 60, .inl tx)), (v9, .inl (cy 0, 188, .inl v))] := hD
  refine z_top (y := zI true) (rfl) ?_
  refine lv_if_ne (tgt := 46) hx hb dX6_command_14 (by decide) (fun c_1 => ?_) (fun c_1 => ?_)
  · replace c_1 := zI1 c_1
    refine lv_iconst (v := 0) hx hb dX6_command_46 (by decide) ?_
    refine z_top (y := zI false) rfl ?_
    refine va_put (D := D) (ci := 10) (v := .int (zI false)) (ty := .boolean) (C := RX6) (T := TX6) (N := 21) hx hb hts in_RX6 tyX6 tyX6_ok nmX6 hown hK hP hD hS 0 rfl rfl 19 (by decide) (hts _ (List.mem_of_getElem? (i := 1) rfl)) (fun _ h9 => h9) rfl (by decide +kernel) (zI_nar _) (zI_fit _) (Nat.le_of_ble_eq_true rfl) dX6_command_47 (fun H locs hP hD hS => ?_)
    have hP : va_P D vwCl [(x9, .inr (10, [.int 0, .int (nI ch), .int era, .int why, .int det, .int cau, .int (zI sv), .int (zI rj), .ref v9, .ref b9, .ref s9, .ref k9, .ref p9, .ref t9, .ref n9, .int (nI tn), .int (nI he), .int (nI en), .int (nI ln), .int (zI false), .int (zI true)])), (t9, .inl (cy 0, 60, .inl tx)), (v9, .inl (cy 0, 188, .inl v))] H := hP
    have hD : va_D A [(x9, .inr (10, [.int 0, .int (nI ch), .int era, .int why, .int det, .int cau, .int (zI sv), .int (zI rj), .ref v9, .ref b9, .ref s9, .ref k9, .ref p9, .ref t9, .ref n9, .int (nI tn), .int (nI he), .int (nI en), .int (nI ln), .int (zI false), .int (zI true)])), (t9, .inl (cy 0, 60, .inl tx)), (v9, .inl (cy 0, 188, .inl v))] := hD
    refine lv_aload_n hx hb dX6_command_50 rfl (lv_at hl 3 rfl) ?_
    refine va_get (D := D) (ci := 10) (v := .int (zI false)) (C := RX6) (T := TX6) (N := 21) hx hb hts in_RX6 hown hK hP 0 rfl rfl 19 (by decide) (hts _ (List.mem_of_getElem? (i := 1) rfl)) (fun _ h9 => h9) rfl dX6_command_51 ?_
    refine lv_if_eq (tgt := 58) hx hb dX6_command_54 (by decide) (fun c_2 => ?_) (fun c_2 => ?_)
    · replace c_2 := zI0 c_2
      refine lv_aload_n hx hb dX6_command_58 rfl (lv_at hl 3 rfl) ?_
      refine lv_dup hx hb dX6_command_59 rfl ?_
      refine va_get (D := D) (ci := 10) (v := .int (nI he)) (C := RX6) (T := TX6) (N := 21) hx hb hts in_RX6 hown hK hP 0 rfl rfl 16 (by decide) (hts _ (List.mem_of_getElem? (i := 2) rfl)) (fun _ h9 => h9) rfl dX6_command_60 ?_
      refine lv_iconst (v := 1) hx hb dX6_command_63 (by decide) ?_
      refine lv_iadd hx hb dX6_command_64 ?_
      refine z_top (y := nI (he + 1)) (nI_add he 1) ?_
      refine va_put (D := D) (ci := 10) (v := .int (nI (he + 1))) (ty := .int) (C := RX6) (T := TX6) (N := 21) hx hb hts in_RX6 tyX6 tyX6_ok nmX6 hown hK hP hD hS 0 rfl rfl 16 (by decide) (hts _ (List.mem_of_getElem? (i := 2) rfl)) (fun _ h9 => h9) rfl (by decide +kernel) rfl rfl (Nat.le_of_ble_eq_true rfl) dX6_command_65 (fun H locs hP hD hS => ?_)
      have hP : va_P D vwCl [(x9, .inr (10, [.int 0, .int (nI ch), .int era, .int why, .int det, .int cau, .int (zI sv), .int (zI rj), .ref v9, .ref b9, .ref s9, .ref k9, .ref p9, .ref t9, .ref n9, .int (nI tn), .int (nI (he + 1)), .int (nI en), .int (nI ln), .int (zI false), .int (zI true)])), (t9, .inl (cy 0, 60, .inl tx)), (v9, .inl (cy 0, 188, .inl v))] H := hP
      have hD : va_D A [(x9, .inr (10, [.int 0, .int (nI ch), .int era, .int why, .int det, .int cau, .int (zI sv), .int (zI rj), .ref v9, .ref b9, .ref s9, .ref k9, .ref p9, .ref t9, .ref n9, .int (nI tn), .int (nI (he + 1)), .int (nI en), .int (nI ln), .int (zI false), .int (zI true)])), (t9, .inl (cy 0, 60, .inl tx)), (v9, .inl (cy 0, 188, .inl v))] := hD
      refine lv_iload_n hx hb dX6_command_68 rfl (lv_at hl 2 rfl) ?_
      refine zcS (As := [.int 100]) (rest := []) [] hg.1 ⟨hx, hb, hml, hown, hts⟩ (c_X6_isNumbered hg l D cy 100) (va_cwS 1 hts gX6_command_X6_isNumbered rfl rfl rfl (by decide +kernel) ⟨Nat.le_of_ble_eq_true rfl, Nat.le_of_ble_eq_true rfl⟩) hG hK hP hD hS hA rfl rfl rfl  rfl hl.1 rfl (Nat.le_of_ble_eq_true rfl) dX6_command_69 ⟨Nat.zero_le _, Nat.zero_le _⟩ (fun H locs hP hD hS => ?_)
      have hP : va_P D vwCl [(x9, .inr (10, [.int 0, .int (nI ch), .int era, .int why, .int det, .int cau, .int (zI sv), .int (zI rj), .ref v9, .ref b9, .ref s9, .ref k9, .ref p9, .ref t9, .ref n9, .int (nI tn), .int (nI (he + 1)), .int (nI en), .int (nI ln), .int (zI false), .int (zI true)])), (t9, .inl (cy 0, 60, .inl tx)), (v9, .inl (cy 0, 188, .inl v))] H := hP
      have hD : va_D A [(x9, .inr (10, [.int 0, .int (nI ch), .int era, .int why, .int det, .int cau, .int (zI sv), .int (zI rj), .ref v9, .ref b9, .ref s9, .ref k9, .ref p9, .ref t9, .ref n9, .int (nI tn), .int (nI (he + 1)), .int (nI en), .int (nI ln), .int (zI false), .int (zI true)])), (t9, .inl (cy 0, 60, .inl tx)), (v9, .inl (cy 0, 188, .inl v))] := hD
      refine z_top (y := zI true) (rfl) ?_
      refine lv_if_eq (tgt := 81) hx hb dX6_command_72 (by decide) (fun c_3 => ?_) (fun c_3 => ?_)
      · replace c_3 := zI0 c_3
        exact absurd c_3 (by decide)
      · replace c_3 := zI1 c_3
        refine lv_aload_n hx hb dX6_command_75 rfl (lv_at hl 3 rfl) ?_
        refine lv_iconst (v := 2) hx hb dX6_command_76 (by decide) ?_
        refine z_top (y := nI 2) (rfl) ?_
        refine zcV (As := [.int (nI 2)]) (rest := []) [0, 1] 0 hg.1 ⟨hx, hb, hml, hown, hts⟩ (c_X6_digits hg l D cy x9 0 ch era why det cau sv rj v9 b9 s9 k9 p9 t9 n9 tn (he + 1) en ln true tx 2 (by first | assumption | omega) (by first | assumption | omega) (by first | assumption | omega) (by first | assumption | omega)) (cwV 1 hts gX6_command_X6_digits rfl rfl rfl (by decide +kernel) ⟨Nat.le_of_ble_eq_true rfl, Nat.le_of_ble_eq_true rfl⟩) hG hK hP hD hS hA rfl rfl (Eq.trans (b := [x9, t9]) rfl rfl) rfl rfl rfl hl.1 rfl (Nat.le_of_ble_eq_true rfl) dX6_command_77 ⟨Nat.zero_le _, Nat.zero_le _⟩ (fun H locs hP hD hS => ?_)
        have hP : va_P D vwCl [(x9, .inr (10, [.int 0, .int (nI ch), .int era, .int why, .int det, .int cau, .int (zI sv), .int (zI rj), .ref v9, .ref b9, .ref s9, .ref k9, .ref p9, .ref t9, .ref n9, .int (nI tn), .int (nI ((he + 1) + zdN tx en 2 (he + 1))), .int (nI en), .int (nI ln), .int (zI (decide (zdN tx en 2 (he + 1) = 0))), .int (zI true)])), (t9, .inl (cy 0, 60, .inl tx)), (v9, .inl (cy 0, 188, .inl v))] H := hP
        have hD : va_D A [(x9, .inr (10, [.int 0, .int (nI ch), .int era, .int why, .int det, .int cau, .int (zI sv), .int (zI rj), .ref v9, .ref b9, .ref s9, .ref k9, .ref p9, .ref t9, .ref n9, .int (nI tn), .int (nI ((he + 1) + zdN tx en 2 (he + 1))), .int (nI en), .int (nI ln), .int (zI (decide (zdN tx en 2 (he + 1) = 0))), .int (zI true)])), (t9, .inl (cy 0, 60, .inl tx)), (v9, .inl (cy 0, 188, .inl v))] := hD
        refine lv_istore_n (lv' := [(2, .int (zdV tx en 2 (he + 1) 0)), (3, .int 0), (1, .int 100), (0, .ref x9)]) hx hb dX6_command_80 rfl hl (by decide) rfl (fun ls hl => ?_)
        refine lv_iload_n hx hb dX6_command_81 rfl (lv_at hl 2 rfl) ?_
        refine zcS (As := [.int 100]) (rest := []) [] hg.1 ⟨hx, hb, hml, hown, hts⟩ (c_X6_isDigit hg l D cy 100) (va_cwS 1 hts gX6_command_X6_isDigit rfl rfl rfl (by decide +kernel) ⟨Nat.le_of_ble_eq_true rfl, Nat.le_of_ble_eq_true rfl⟩) hG hK hP hD hS hA rfl rfl rfl  rfl hl.1 rfl (Nat.le_of_ble_eq_true rfl) dX6_command_82 ⟨Nat.zero_le _, Nat.zero_le _⟩ (fun H locs hP hD hS => ?_)
        have hP : va_P D vwCl [(x9, .inr (10, [.int 0, .int (nI ch), .int era, .int why, .int det, .int cau, .int (zI sv), .int (zI rj), .ref v9, .ref b9, .ref s9, .ref k9, .ref p9, .ref t9, .ref n9, .int (nI tn), .int (nI ((he + 1) + zdN tx en 2 (he + 1))), .int (nI en), .int (nI ln), .int (zI (decide (zdN tx en 2 (he + 1) = 0))), .int (zI true)])), (t9, .inl (cy 0, 60, .inl tx)), (v9, .inl (cy 0, 188, .inl v))] H := hP
        have hD : va_D A [(x9, .inr (10, [.int 0, .int (nI ch), .int era, .int why, .int det, .int cau, .int (zI sv), .int (zI rj), .ref v9, .ref b9, .ref s9, .ref k9, .ref p9, .ref t9, .ref n9, .int (nI tn), .int (nI ((he + 1) + zdN tx en 2 (he + 1))), .int (nI en), .int (nI ln), .int (zI (decide (zdN tx en 2 (he + 1) = 0))), .int (zI true)])), (t9, .inl (cy 0, 60, .inl tx)), (v9, .inl (cy 0, 188, .inl v))] := hD
        refine z_top (y := zI false) (rfl) ?_
        refine lv_if_eq (tgt := 94) hx hb dX6_command_85 (by decide) (fun c_4 => ?_) (fun c_4 => ?_)
        · replace c_4 := zI0 c_4
          refine lv_iload_n hx hb dX6_command_94 rfl (lv_at hl 2 rfl) ?_
          refine lv_bipush (v := 112) hx hb dX6_command_95 (by decide) ?_
          refine lv_icmp_ne (tgt := 105) hx hb dX6_command_97 (by decide) (fun c_5 => ?_) (fun c_5 => ?_)
          · refine lv_iload_n hx hb dX6_command_105 rfl (lv_at hl 2 rfl) ?_
            refine lv_bipush (v := 99) hx hb dX6_command_106 (by decide) ?_
            refine lv_icmp_ne (tgt := 118) hx hb dX6_command_108 (by decide) (fun c_6 => ?_) (fun c_6 => ?_)
            · refine lv_iload_n hx hb dX6_command_118 rfl (lv_at hl 2 rfl) ?_
              refine lv_bipush (v := 121) hx hb dX6_command_119 (by decide) ?_
              refine lv_icmp_ne (tgt := 131) hx hb dX6_command_121 (by decide) (fun c_7 => ?_) (fun c_7 => ?_)
              · refine lv_aload_n hx hb dX6_command_131 rfl (lv_at hl 3 rfl) ?_
                refine va_get (D := D) (ci := 10) (v := .int (zI (decide (zdN tx en 2 (he + 1) = 0)))) (C := RX6) (T := TX6) (N := 21) hx hb hts in_RX6 hown hK hP 0 rfl rfl 19 (by decide) (hts _ (List.mem_of_getElem? (i := 1) rfl)) (fun _ h9 => h9) rfl dX6_command_132 ?_
                refine lv_if_ne (tgt := 145) hx hb dX6_command_135 (by decide) (fun c_8 => ?_) (fun c_8 => ?_)
                · replace c_8 := zI1 c_8
                  exact absurd (hw.symm.trans c_8) (by decide)
                · replace c_8 := zI0 c_8
                  have er_9 : decide (zdN tx en 2 (he + 1) = 0) = false := c_8
                  rw [er_9] at hP hD
                  refine lv_aload_n hx hb dX6_command_138 rfl (lv_at hl 3 rfl) ?_
                  refine va_get (D := D) (ci := 10) (v := .int (zI true)) (C := RX6) (T := TX6) (N := 21) hx hb hts in_RX6 hown hK hP 0 rfl rfl 20 (by decide) (hts _ (List.mem_of_getElem? (i := 3) rfl)) (fun _ h9 => h9) rfl dX6_command_139 ?_
                  refine lv_if_ne (tgt := 146) hx hb dX6_command_142 (by decide) (fun c_10 => ?_) (fun c_10 => ?_)
                  · replace c_10 := zI1 c_10
                    refine lv_aload_n hx hb dX6_command_146 rfl (lv_at hl 3 rfl) ?_
                    refine lv_iload_n hx hb dX6_command_147 rfl (lv_at hl 2 rfl) ?_
                    refine lv_iload_n hx hb dX6_command_148 rfl (lv_at hl 0 rfl) ?_
                    refine lv_iload_n hx hb dX6_command_149 rfl (lv_at hl 1 rfl) ?_
                    refine zcV (As := [.int 100, .int (zdV tx en 2 (he + 1) 0), .int 0]) (rest := []) [0, 2] 0 hg.1 ⟨hx, hb, hml, hown, hts⟩ hdo (cwV 3 hts gX6_command_X6_does rfl rfl rfl (by decide +kernel) ⟨Nat.le_of_ble_eq_true rfl, Nat.le_of_ble_eq_true rfl⟩) hG hK hP hD hS hA rfl rfl (Eq.trans (b := [x9, v9]) rfl rfl) rfl rfl rfl hl.1 rfl (Nat.le_of_ble_eq_true rfl) dX6_command_150 ⟨Nat.zero_le _, Nat.zero_le _⟩ (fun H locs hP hD hS => ?_)
                    have hP : va_P D vwCl [(x9, .inr (10, [.int th2, .int (nI ch), .int era, .int why2, .int det2, .int cau2, .int (zI sv), .int (zI rj2), .ref v9, .ref b9, .ref s9, .ref k9, .ref p9, .ref t9, .ref n9, .int (nI tn), .int (nI ((he + 1) + zdN tx en 2 (he + 1))), .int (nI en), .int (nI ln), .int (zI false), .int (zI true)])), (t9, .inl (cy 0, 60, .inl tx)), (v9, .inl (cy 0, 188, .inl v2))] H := hP
                    have hD : va_D A [(x9, .inr (10, [.int th2, .int (nI ch), .int era, .int why2, .int det2, .int cau2, .int (zI sv), .int (zI rj2), .ref v9, .ref b9, .ref s9, .ref k9, .ref p9, .ref t9, .ref n9, .int (nI tn), .int (nI ((he + 1) + zdN tx en 2 (he + 1))), .int (nI en), .int (nI ln), .int (zI false), .int (zI true)])), (t9, .inl (cy 0, 60, .inl tx)), (v9, .inl (cy 0, 188, .inl v2))] := hD
                    refine lv_istore (lv' := [(4, .int res2), (2, .int (zdV tx en 2 (he + 1) 0)), (3, .int 0), (1, .int 100), (0, .ref x9)]) hx hb dX6_command_153 hl (by decide) rfl (fun ls hl => ?_)
                    exact zvret hend hx hb hr hlk hK hP hD hS dX6_command_155 rfl
                  · replace c_10 := zI0 c_10
                    exact absurd c_10 (by decide)
              · exact absurd c_7 (by decide)
            · exact absurd c_6 (by decide)
          · exact absurd c_5 (by decide)
        · replace c_4 := zI1 c_4
          exact absurd c_4 (by decide)
    · replace c_2 := zI1 c_2
      exact absurd c_2 (by decide)
  · replace c_1 := zI0 c_1
    exact absurd c_1 (by decide)

abbrev rmX6_command_d117 : Room := { frames := 6, cells := 0, slots := 0, locals := 139 }
set_option maxHeartbeats 4000000 in
set_option maxRecDepth 100000 in
theorem c_X6_command_d117 {G : zG} (hg : zGN G) (l : Launch) (D : va_G) (cy : Nat → ClassId) (x9 : Nat) (ch : Nat) (era : Int32) (why : Int32) (det : Int32) (cau : Int32) (sv : Bool) (rj : Bool) (v9 : Nat) (b9 : Nat) (s9 : Nat) (k9 : Nat) (p9 : Nat) (t9 : Nat) (n9 : Nat) (tn : Nat) (he : Nat) (en : Nat) (ln : Nat) (iw : Bool) (tx : Nat → Int32) (v : Nat → Int32) (res2 : Int32) (th2 : Int32) (why2 : Int32) (det2 : Int32) (cau2 : Int32) (rj2 : Bool) (v2 : Nat → Int32) (hhe : he ≤ 60) (hen : en ≤ 60) (hc : zqs tx en he = 117) (hw : (decide (zdN tx en 2 (he + 1) = 0)) = false) (hdo : zM G D vwCl (zT cy) l yX6_does wsX6_does { frames := 5, cells := 0, slots := 0, locals := 116 } [.ref x9, .int 117, .int (zdV tx en 2 (he + 1) 0), .int 0] [(x9, .inr (10, [.int 0, .int (nI ch), .int era, .int why, .int det, .int cau, .int (zI sv), .int (zI rj), .ref v9, .ref b9, .ref s9, .ref k9, .ref p9, .ref t9, .ref n9, .int (nI tn), .int (nI ((he + 1) + zdN tx en 2 (he + 1))), .int (nI en), .int (nI ln), .int (zI false), .int (zI true)])), (v9, .inl (cy 0, 188, .inl v))] (some (.int res2)) [(x9, .inr (10, [.int th2, .int (nI ch), .int era, .int why2, .int det2, .int cau2, .int (zI sv), .int (zI rj2), .ref v9, .ref b9, .ref s9, .ref k9, .ref p9, .ref t9, .ref n9, .int (nI tn), .int (nI ((he + 1) + zdN tx en 2 (he + 1))), .int (nI en), .int (nI ln), .int (zI false), .int (zI true)])), (v9, .inl (cy 0, 188, .inl v2))]) : zM G D vwCl (zT cy) l yX6_command wsX6_command rmX6_command_d117 [.ref x9] [(x9, .inr (10, [.int 0, .int (nI ch), .int era, .int why, .int det, .int cau, .int (zI sv), .int (zI rj), .ref v9, .ref b9, .ref s9, .ref k9, .ref p9, .ref t9, .ref n9, .int (nI tn), .int (nI he), .int (nI en), .int (nI ln), .int (zI iw), .int (zI true)])), (t9, .inl (cy 0, 60, .inl tx)), (v9, .inl (cy 0, 188, .inl v))] none [(x9, .inr (10, [.int th2, .int (nI ch), .int era, .int why2, .int det2, .int cau2, .int (zI sv), .int (zI rj2), .ref v9, .ref b9, .ref s9, .ref k9, .ref p9, .ref t9, .ref n9, .int (nI tn), .int (nI ((he + 1) + zdN tx en 2 (he + 1))), .int (nI en), .int (nI ln), .int (zI false), .int (zI true)])), (t9, .inl (cy 0, 60, .inl tx)), (v9, .inl (cy 0, 188, .inl v2))] := by
  refine zM_of (cc := cX6_command) (maxL := 5) (ret := none) (by decide) rfl (Nat.le_of_ble_eq_true rfl) ?_
  intro p e s m below meth c A Q hend hx hb hml hr hts hown hlk hG hK hP hD hA hS ls hl
  have hown : s.vm.findClass RX6 = some m.cls := hown
  have in_RX6 : ∀ w ∈ u_ws RX6 TX6 21, w ∈ wsX6_command := by decide +kernel
  have hl : lv_has ls 5 [(0, .ref x9)] := hl
  refine lv_aload_n hx hb dX6_command_0 rfl (lv_at hl 0 rfl) ?_
  refine zcV (As := []) (rest := []) [0, 1] 0 hg.1 ⟨hx, hb, hml, hown, hts⟩ (c_X6_sign hg l D cy x9 0 ch era why det cau sv rj v9 b9 s9 k9 p9 t9 n9 tn he en ln iw true tx (by first | assumption | omega) (by first | assumption | omega)) (cwV 0 hts gX6_command_X6_sign rfl rfl rfl (by decide +kernel) ⟨Nat.le_of_ble_eq_true rfl, Nat.le_of_ble_eq_true rfl⟩) hG hK hP hD hS hA rfl rfl rfl rfl rfl rfl hl.1 rfl (Nat.le_of_ble_eq_true rfl) dX6_command_1 ⟨Nat.zero_le _, Nat.zero_le _⟩ (fun H locs hP hD hS => ?_)
  have hP : va_P D vwCl [(x9, .inr (10, [.int 0, .int (nI ch), .int era, .int why, .int det, .int cau, .int (zI sv), .int (zI rj), .ref v9, .ref b9, .ref s9, .ref k9, .ref p9, .ref t9, .ref n9, .int (nI tn), .int (nI he), .int (nI en), .int (nI ln), .int (zI iw), .int (zI true)])), (t9, .inl (cy 0, 60, .inl tx)), (v9, .inl (cy 0, 188, .inl v))] H := hP
  have hD : va_D A [(x9, .inr (10, [.int 0, .int (nI ch), .int era, .int why, .int det, .int cau, .int (zI sv), .int (zI rj), .ref v9, .ref b9, .ref s9, .ref k9, .ref p9, .ref t9, .ref n9, .int (nI tn), .int (nI he), .int (nI en), .int (nI ln), .int (zI iw), .int (zI true)])), (t9, .inl (cy 0, 60, .inl tx)), (v9, .inl (cy 0, 188, .inl v))] := hD
  refine z_top (y := 117) (hc) ?_
  refine lv_istore_n (lv' := [(1, .int 117), (0, .ref x9)]) hx hb dX6_command_4 rfl hl (by decide) rfl (fun ls hl => ?_)
  refine lv_iconst (v := 0) hx hb dX6_command_5 (by decide) ?_
  refine lv_istore_n (lv' := [(2, .int 0), (1, .int 117), (0, .ref x9)]) hx hb dX6_command_6 rfl hl (by decide) rfl (fun ls hl => ?_)
  refine lv_iconst (v := 0) hx hb dX6_command_7 (by decide) ?_
  refine lv_istore_n (lv' := [(3, .int 0), (2, .int 0), (1, .int 117), (0, .ref x9)]) hx hb dX6_command_8 rfl hl (by decide) rfl (fun ls hl => ?_)
  refine lv_aload_n hx hb dX6_command_9 rfl (lv_at hl 3 rfl) ?_
  refine lv_iload_n hx hb dX6_command_10 rfl (lv_at hl 2 rfl) ?_
  refine zcS (As := [.int 117]) (rest := [.ref x9]) [] hg.1 ⟨hx, hb, hml, hown, hts⟩ (c_X6_isNumbered hg l D cy 117) (va_cwS 1 hts gX6_command_X6_isNumbered rfl rfl rfl (by decide +kernel) ⟨Nat.le_of_ble_eq_true rfl, Nat.le_of_ble_eq_true rfl⟩) hG hK hP hD hS hA rfl rfl rfl  rfl hl.1 rfl (Nat.le_of_ble_eq_true rfl) dX6_command_11 ⟨Nat.zero_le _, Nat.zero_le _⟩ (fun H locs hP hD hS => ?_)
  have hP : va_P D vwCl [(x9, .inr (10, [.int 0, .int (nI ch), .int era, .int why, .int det, .int cau, .int (zI sv), .int (zI rj), .ref v9, .ref b9, .ref s9, .ref k9, .ref p9, .ref t9, .ref n9, .int (nI tn), .int (nI he), .int (nI en), .int (nI ln), .int (zI iw), .int (zI true)])), (t9, .inl (cy 0, 60, .inl tx)), (v9, .inl (cy 0, 188, .inl v))] H := hP
  have hD : va_D A [(x9, .inr (10, [.int 0, .int (nI ch), .int era, .int why, .int det, .int cau, .int (zI sv), .int (zI rj), .ref v9, .ref b9, .ref s9, .ref k9, .ref p9, .ref t9, .ref n9, .int (nI tn), .int (nI he), .int (nI en), .int (nI ln), .int (zI iw), .int (zI true)])), (t9, .inl (cy 0, 60, .inl tx)), (v9, .inl (cy 0, 188, .inl v))] := hD
  refine z_top (y := zI true) (rfl) ?_
  refine lv_if_ne (tgt := 46) hx hb dX6_command_14 (by decide) (fun c_1 => ?_) (fun c_1 => ?_)
  · replace c_1 := zI1 c_1
    refine lv_iconst (v := 0) hx hb dX6_command_46 (by decide) ?_
    refine z_top (y := zI false) rfl ?_
    refine va_put (D := D) (ci := 10) (v := .int (zI false)) (ty := .boolean) (C := RX6) (T := TX6) (N := 21) hx hb hts in_RX6 tyX6 tyX6_ok nmX6 hown hK hP hD hS 0 rfl rfl 19 (by decide) (hts _ (List.mem_of_getElem? (i := 1) rfl)) (fun _ h9 => h9) rfl (by decide +kernel) (zI_nar _) (zI_fit _) (Nat.le_of_ble_eq_true rfl) dX6_command_47 (fun H locs hP hD hS => ?_)
    have hP : va_P D vwCl [(x9, .inr (10, [.int 0, .int (nI ch), .int era, .int why, .int det, .int cau, .int (zI sv), .int (zI rj), .ref v9, .ref b9, .ref s9, .ref k9, .ref p9, .ref t9, .ref n9, .int (nI tn), .int (nI he), .int (nI en), .int (nI ln), .int (zI false), .int (zI true)])), (t9, .inl (cy 0, 60, .inl tx)), (v9, .inl (cy 0, 188, .inl v))] H := hP
    have hD : va_D A [(x9, .inr (10, [.int 0, .int (nI ch), .int era, .int why, .int det, .int cau, .int (zI sv), .int (zI rj), .ref v9, .ref b9, .ref s9, .ref k9, .ref p9, .ref t9, .ref n9, .int (nI tn), .int (nI he), .int (nI en), .int (nI ln), .int (zI false), .int (zI true)])), (t9, .inl (cy 0, 60, .inl tx)), (v9, .inl (cy 0, 188, .inl v))] := hD
    refine lv_aload_n hx hb dX6_command_50 rfl (lv_at hl 3 rfl) ?_
    refine va_get (D := D) (ci := 10) (v := .int (zI false)) (C := RX6) (T := TX6) (N := 21) hx hb hts in_RX6 hown hK hP 0 rfl rfl 19 (by decide) (hts _ (List.mem_of_getElem? (i := 1) rfl)) (fun _ h9 => h9) rfl dX6_command_51 ?_
    refine lv_if_eq (tgt := 58) hx hb dX6_command_54 (by decide) (fun c_2 => ?_) (fun c_2 => ?_)
    · replace c_2 := zI0 c_2
      refine lv_aload_n hx hb dX6_command_58 rfl (lv_at hl 3 rfl) ?_
      refine lv_dup hx hb dX6_command_59 rfl ?_
      refine va_get (D := D) (ci := 10) (v := .int (nI he)) (C := RX6) (T := TX6) (N := 21) hx hb hts in_RX6 hown hK hP 0 rfl rfl 16 (by decide) (hts _ (List.mem_of_getElem? (i := 2) rfl)) (fun _ h9 => h9) rfl dX6_command_60 ?_
      refine lv_iconst (v := 1) hx hb dX6_command_63 (by decide) ?_
      refine lv_iadd hx hb dX6_command_64 ?_
      refine z_top (y := nI (he + 1)) (nI_add he 1) ?_
      refine va_put (D := D) (ci := 10) (v := .int (nI (he + 1))) (ty := .int) (C := RX6) (T := TX6) (N := 21) hx hb hts in_RX6 tyX6 tyX6_ok nmX6 hown hK hP hD hS 0 rfl rfl 16 (by decide) (hts _ (List.mem_of_getElem? (i := 2) rfl)) (fun _ h9 => h9) rfl (by decide +kernel) rfl rfl (Nat.le_of_ble_eq_true rfl) dX6_command_65 (fun H locs hP hD hS => ?_)
      have hP : va_P D vwCl [(x9, .inr (10, [.int 0, .int (nI ch), .int era, .int why, .int det, .int cau, .int (zI sv), .int (zI rj), .ref v9, .ref b9, .ref s9, .ref k9, .ref p9, .ref t9, .ref n9, .int (nI tn), .int (nI (he + 1)), .int (nI en), .int (nI ln), .int (zI false), .int (zI true)])), (t9, .inl (cy 0, 60, .inl tx)), (v9, .inl (cy 0, 188, .inl v))] H := hP
      have hD : va_D A [(x9, .inr (10, [.int 0, .int (nI ch), .int era, .int why, .int det, .int cau, .int (zI sv), .int (zI rj), .ref v9, .ref b9, .ref s9, .ref k9, .ref p9, .ref t9, .ref n9, .int (nI tn), .int (nI (he + 1)), .int (nI en), .int (nI ln), .int (zI false), .int (zI true)])), (t9, .inl (cy 0, 60, .inl tx)), (v9, .inl (cy 0, 188, .inl v))] := hD
      refine lv_iload_n hx hb dX6_command_68 rfl (lv_at hl 2 rfl) ?_
      refine zcS (As := [.int 117]) (rest := []) [] hg.1 ⟨hx, hb, hml, hown, hts⟩ (c_X6_isNumbered hg l D cy 117) (va_cwS 1 hts gX6_command_X6_isNumbered rfl rfl rfl (by decide +kernel) ⟨Nat.le_of_ble_eq_true rfl, Nat.le_of_ble_eq_true rfl⟩) hG hK hP hD hS hA rfl rfl rfl  rfl hl.1 rfl (Nat.le_of_ble_eq_true rfl) dX6_command_69 ⟨Nat.zero_le _, Nat.zero_le _⟩ (fun H locs hP hD hS => ?_)
      have hP : va_P D vwCl [(x9, .inr (10, [.int 0, .int (nI ch), .int era, .int why, .int det, .int cau, .int (zI sv), .int (zI rj), .ref v9, .ref b9, .ref s9, .ref k9, .ref p9, .ref t9, .ref n9, .int (nI tn), .int (nI (he + 1)), .int (nI en), .int (nI ln), .int (zI false), .int (zI true)])), (t9, .inl (cy 0, 60, .inl tx)), (v9, .inl (cy 0, 188, .inl v))] H := hP
      have hD : va_D A [(x9, .inr (10, [.int 0, .int (nI ch), .int era, .int why, .int det, .int cau, .int (zI sv), .int (zI rj), .ref v9, .ref b9, .ref s9, .ref k9, .ref p9, .ref t9, .ref n9, .int (nI tn), .int (nI (he + 1)), .int (nI en), .int (nI ln), .int (zI false), .int (zI true)])), (t9, .inl (cy 0, 60, .inl tx)), (v9, .inl (cy 0, 188, .inl v))] := hD
      refine z_top (y := zI true) (rfl) ?_
      refine lv_if_eq (tgt := 81) hx hb dX6_command_72 (by decide) (fun c_3 => ?_) (fun c_3 => ?_)
      · replace c_3 := zI0 c_3
        exact absurd c_3 (by decide)
      · replace c_3 := zI1 c_3
        refine lv_aload_n hx hb dX6_command_75 rfl (lv_at hl 3 rfl) ?_
        refine lv_iconst (v := 2) hx hb dX6_command_76 (by decide) ?_
        refine z_top (y := nI 2) (rfl) ?_
        refine zcV (As := [.int (nI 2)]) (rest := []) [0, 1] 0 hg.1 ⟨hx, hb, hml, hown, hts⟩ (c_X6_digits hg l D cy x9 0 ch era why det cau sv rj v9 b9 s9 k9 p9 t9 n9 tn (he + 1) en ln true tx 2 (by first | assumption | omega) (by first | assumption | omega) (by first | assumption | omega) (by first | assumption | omega)) (cwV 1 hts gX6_command_X6_digits rfl rfl rfl (by decide +kernel) ⟨Nat.le_of_ble_eq_true rfl, Nat.le_of_ble_eq_true rfl⟩) hG hK hP hD hS hA rfl rfl (Eq.trans (b := [x9, t9]) rfl rfl) rfl rfl rfl hl.1 rfl (Nat.le_of_ble_eq_true rfl) dX6_command_77 ⟨Nat.zero_le _, Nat.zero_le _⟩ (fun H locs hP hD hS => ?_)
        have hP : va_P D vwCl [(x9, .inr (10, [.int 0, .int (nI ch), .int era, .int why, .int det, .int cau, .int (zI sv), .int (zI rj), .ref v9, .ref b9, .ref s9, .ref k9, .ref p9, .ref t9, .ref n9, .int (nI tn), .int (nI ((he + 1) + zdN tx en 2 (he + 1))), .int (nI en), .int (nI ln), .int (zI (decide (zdN tx en 2 (he + 1) = 0))), .int (zI true)])), (t9, .inl (cy 0, 60, .inl tx)), (v9, .inl (cy 0, 188, .inl v))] H := hP
        have hD : va_D A [(x9, .inr (10, [.int 0, .int (nI ch), .int era, .int why, .int det, .int cau, .int (zI sv), .int (zI rj), .ref v9, .ref b9, .ref s9, .ref k9, .ref p9, .ref t9, .ref n9, .int (nI tn), .int (nI ((he + 1) + zdN tx en 2 (he + 1))), .int (nI en), .int (nI ln), .int (zI (decide (zdN tx en 2 (he + 1) = 0))), .int (zI true)])), (t9, .inl (cy 0, 60, .inl tx)), (v9, .inl (cy 0, 188, .inl v))] := hD
        refine lv_istore_n (lv' := [(2, .int (zdV tx en 2 (he + 1) 0)), (3, .int 0), (1, .int 117), (0, .ref x9)]) hx hb dX6_command_80 rfl hl (by decide) rfl (fun ls hl => ?_)
        refine lv_iload_n hx hb dX6_command_81 rfl (lv_at hl 2 rfl) ?_
        refine zcS (As := [.int 117]) (rest := []) [] hg.1 ⟨hx, hb, hml, hown, hts⟩ (c_X6_isDigit hg l D cy 117) (va_cwS 1 hts gX6_command_X6_isDigit rfl rfl rfl (by decide +kernel) ⟨Nat.le_of_ble_eq_true rfl, Nat.le_of_ble_eq_true rfl⟩) hG hK hP hD hS hA rfl rfl rfl  rfl hl.1 rfl (Nat.le_of_ble_eq_true rfl) dX6_command_82 ⟨Nat.zero_le _, Nat.zero_le _⟩ (fun H locs hP hD hS => ?_)
        have hP : va_P D vwCl [(x9, .inr (10, [.int 0, .int (nI ch), .int era, .int why, .int det, .int cau, .int (zI sv), .int (zI rj), .ref v9, .ref b9, .ref s9, .ref k9, .ref p9, .ref t9, .ref n9, .int (nI tn), .int (nI ((he + 1) + zdN tx en 2 (he + 1))), .int (nI en), .int (nI ln), .int (zI (decide (zdN tx en 2 (he + 1) = 0))), .int (zI true)])), (t9, .inl (cy 0, 60, .inl tx)), (v9, .inl (cy 0, 188, .inl v))] H := hP
        have hD : va_D A [(x9, .inr (10, [.int 0, .int (nI ch), .int era, .int why, .int det, .int cau, .int (zI sv), .int (zI rj), .ref v9, .ref b9, .ref s9, .ref k9, .ref p9, .ref t9, .ref n9, .int (nI tn), .int (nI ((he + 1) + zdN tx en 2 (he + 1))), .int (nI en), .int (nI ln), .int (zI (decide (zdN tx en 2 (he + 1) = 0))), .int (zI true)])), (t9, .inl (cy 0, 60, .inl tx)), (v9, .inl (cy 0, 188, .inl v))] := hD
        refine z_top (y := zI false) (rfl) ?_
        refine lv_if_eq (tgt := 94) hx hb dX6_command_85 (by decide) (fun c_4 => ?_) (fun c_4 => ?_)
        · replace c_4 := zI0 c_4
          refine lv_iload_n hx hb dX6_command_94 rfl (lv_at hl 2 rfl) ?_
          refine lv_bipush (v := 112) hx hb dX6_command_95 (by decide) ?_
          refine lv_icmp_ne (tgt := 105) hx hb dX6_command_97 (by decide) (fun c_5 => ?_) (fun c_5 => ?_)
          · refine lv_iload_n hx hb dX6_command_105 rfl (lv_at hl 2 rfl) ?_
            refine lv_bipush (v := 99) hx hb dX6_command_106 (by decide) ?_
            refine lv_icmp_ne (tgt := 118) hx hb dX6_command_108 (by decide) (fun c_6 => ?_) (fun c_6 => ?_)
            · refine lv_iload_n hx hb dX6_command_118 rfl (lv_at hl 2 rfl) ?_
              refine lv_bipush (v := 121) hx hb dX6_command_119 (by decide) ?_
              refine lv_icmp_ne (tgt := 131) hx hb dX6_command_121 (by decide) (fun c_7 => ?_) (fun c_7 => ?_)
              · refine lv_aload_n hx hb dX6_command_131 rfl (lv_at hl 3 rfl) ?_
                refine va_get (D := D) (ci := 10) (v := .int (zI (decide (zdN tx en 2 (he + 1) = 0)))) (C := RX6) (T := TX6) (N := 21) hx hb hts in_RX6 hown hK hP 0 rfl rfl 19 (by decide) (hts _ (List.mem_of_getElem? (i := 1) rfl)) (fun _ h9 => h9) rfl dX6_command_132 ?_
                refine lv_if_ne (tgt := 145) hx hb dX6_command_135 (by decide) (fun c_8 => ?_) (fun c_8 => ?_)
                · replace c_8 := zI1 c_8
                  exact absurd (hw.symm.trans c_8) (by decide)
                · replace c_8 := zI0 c_8
                  have er_9 : decide (zdN tx en 2 (he + 1) = 0) = false := c_8
                  rw [er_9] at hP hD
                  refine lv_aload_n hx hb dX6_command_138 rfl (lv_at hl 3 rfl) ?_
                  refine va_get (D := D) (ci := 10) (v := .int (zI true)) (C := RX6) (T := TX6) (N := 21) hx hb hts in_RX6 hown hK hP 0 rfl rfl 20 (by decide) (hts _ (List.mem_of_getElem? (i := 3) rfl)) (fun _ h9 => h9) rfl dX6_command_139 ?_
                  refine lv_if_ne (tgt := 146) hx hb dX6_command_142 (by decide) (fun c_10 => ?_) (fun c_10 => ?_)
                  · replace c_10 := zI1 c_10
                    refine lv_aload_n hx hb dX6_command_146 rfl (lv_at hl 3 rfl) ?_
                    refine lv_iload_n hx hb dX6_command_147 rfl (lv_at hl 2 rfl) ?_
                    refine lv_iload_n hx hb dX6_command_148 rfl (lv_at hl 0 rfl) ?_
                    refine lv_iload_n hx hb dX6_command_149 rfl (lv_at hl 1 rfl) ?_
                    refine zcV (As := [.int 117, .int (zdV tx en 2 (he + 1) 0), .int 0]) (rest := []) [0, 2] 0 hg.1 ⟨hx, hb, hml, hown, hts⟩ hdo (cwV 3 hts gX6_command_X6_does rfl rfl rfl (by decide +kernel) ⟨Nat.le_of_ble_eq_true rfl, Nat.le_of_ble_eq_true rfl⟩) hG hK hP hD hS hA rfl rfl (Eq.trans (b := [x9, v9]) rfl rfl) rfl rfl rfl hl.1 rfl (Nat.le_of_ble_eq_true rfl) dX6_command_150 ⟨Nat.zero_le _, Nat.zero_le _⟩ (fun H locs hP hD hS => ?_)
                    have hP : va_P D vwCl [(x9, .inr (10, [.int th2, .int (nI ch), .int era, .int why2, .int det2, .int cau2, .int (zI sv), .int (zI rj2), .ref v9, .ref b9, .ref s9, .ref k9, .ref p9, .ref t9, .ref n9, .int (nI tn), .int (nI ((he + 1) + zdN tx en 2 (he + 1))), .int (nI en), .int (nI ln), .int (zI false), .int (zI true)])), (t9, .inl (cy 0, 60, .inl tx)), (v9, .inl (cy 0, 188, .inl v2))] H := hP
                    have hD : va_D A [(x9, .inr (10, [.int th2, .int (nI ch), .int era, .int why2, .int det2, .int cau2, .int (zI sv), .int (zI rj2), .ref v9, .ref b9, .ref s9, .ref k9, .ref p9, .ref t9, .ref n9, .int (nI tn), .int (nI ((he + 1) + zdN tx en 2 (he + 1))), .int (nI en), .int (nI ln), .int (zI false), .int (zI true)])), (t9, .inl (cy 0, 60, .inl tx)), (v9, .inl (cy 0, 188, .inl v2))] := hD
                    refine lv_istore (lv' := [(4, .int res2), (2, .int (zdV tx en 2 (he + 1) 0)), (3, .int 0), (1, .int 117), (0, .ref x9)]) hx hb dX6_command_153 hl (by decide) rfl (fun ls hl => ?_)
                    exact zvret hend hx hb hr hlk hK hP hD hS dX6_command_155 rfl
                  · replace c_10 := zI0 c_10
                    exact absurd c_10 (by decide)
              · exact absurd c_7 (by decide)
            · exact absurd c_6 (by decide)
          · exact absurd c_5 (by decide)
        · replace c_4 := zI1 c_4
          exact absurd c_4 (by decide)
    · replace c_2 := zI1 c_2
      exact absurd c_2 (by decide)
  · replace c_1 := zI0 c_1
    exact absurd c_1 (by decide)

abbrev rmX6_command_d108 : Room := { frames := 6, cells := 0, slots := 0, locals := 139 }
set_option maxHeartbeats 4000000 in
set_option maxRecDepth 100000 in
theorem c_X6_command_d108 {G : zG} (hg : zGN G) (l : Launch) (D : va_G) (cy : Nat → ClassId) (x9 : Nat) (ch : Nat) (era : Int32) (why : Int32) (det : Int32) (cau : Int32) (sv : Bool) (rj : Bool) (v9 : Nat) (b9 : Nat) (s9 : Nat) (k9 : Nat) (p9 : Nat) (t9 : Nat) (n9 : Nat) (tn : Nat) (he : Nat) (en : Nat) (ln : Nat) (iw : Bool) (tx : Nat → Int32) (v : Nat → Int32) (res2 : Int32) (th2 : Int32) (why2 : Int32) (det2 : Int32) (cau2 : Int32) (rj2 : Bool) (v2 : Nat → Int32) (hhe : he ≤ 60) (hen : en ≤ 60) (hc : zqs tx en he = 108) (hw : (decide (zdN tx en 2 (he + 1) = 0)) = false) (hdo : zM G D vwCl (zT cy) l yX6_does wsX6_does { frames := 5, cells := 0, slots := 0, locals := 116 } [.ref x9, .int 108, .int (zdV tx en 2 (he + 1) 0), .int 0] [(x9, .inr (10, [.int 0, .int (nI ch), .int era, .int why, .int det, .int cau, .int (zI sv), .int (zI rj), .ref v9, .ref b9, .ref s9, .ref k9, .ref p9, .ref t9, .ref n9, .int (nI tn), .int (nI ((he + 1) + zdN tx en 2 (he + 1))), .int (nI en), .int (nI ln), .int (zI false), .int (zI true)])), (v9, .inl (cy 0, 188, .inl v))] (some (.int res2)) [(x9, .inr (10, [.int th2, .int (nI ch), .int era, .int why2, .int det2, .int cau2, .int (zI sv), .int (zI rj2), .ref v9, .ref b9, .ref s9, .ref k9, .ref p9, .ref t9, .ref n9, .int (nI tn), .int (nI ((he + 1) + zdN tx en 2 (he + 1))), .int (nI en), .int (nI ln), .int (zI false), .int (zI true)])), (v9, .inl (cy 0, 188, .inl v2))]) : zM G D vwCl (zT cy) l yX6_command wsX6_command rmX6_command_d108 [.ref x9] [(x9, .inr (10, [.int 0, .int (nI ch), .int era, .int why, .int det, .int cau, .int (zI sv), .int (zI rj), .ref v9, .ref b9, .ref s9, .ref k9, .ref p9, .ref t9, .ref n9, .int (nI tn), .int (nI he), .int (nI en), .int (nI ln), .int (zI iw), .int (zI true)])), (t9, .inl (cy 0, 60, .inl tx)), (v9, .inl (cy 0, 188, .inl v))] none [(x9, .inr (10, [.int th2, .int (nI ch), .int era, .int why2, .int det2, .int cau2, .int (zI sv), .int (zI rj2), .ref v9, .ref b9, .ref s9, .ref k9, .ref p9, .ref t9, .ref n9, .int (nI tn), .int (nI ((he + 1) + zdN tx en 2 (he + 1))), .int (nI en), .int (nI ln), .int (zI false), .int (zI true)])), (t9, .inl (cy 0, 60, .inl tx)), (v9, .inl (cy 0, 188, .inl v2))] := by
  refine zM_of (cc := cX6_command) (maxL := 5) (ret := none) (by decide) rfl (Nat.le_of_ble_eq_true rfl) ?_
  intro p e s m below meth c A Q hend hx hb hml hr hts hown hlk hG hK hP hD hA hS ls hl
  have hown : s.vm.findClass RX6 = some m.cls := hown
  have in_RX6 : ∀ w ∈ u_ws RX6 TX6 21, w ∈ wsX6_command := by decide +kernel
  have hl : lv_has ls 5 [(0, .ref x9)] := hl
  refine lv_aload_n hx hb dX6_command_0 rfl (lv_at hl 0 rfl) ?_
  refine zcV (As := []) (rest := []) [0, 1] 0 hg.1 ⟨hx, hb, hml, hown, hts⟩ (c_X6_sign hg l D cy x9 0 ch era why det cau sv rj v9 b9 s9 k9 p9 t9 n9 tn he en ln iw true tx (by first | assumption | omega) (by first | assumption | omega)) (cwV 0 hts gX6_command_X6_sign rfl rfl rfl (by decide +kernel) ⟨Nat.le_of_ble_eq_true rfl, Nat.le_of_ble_eq_true rfl⟩) hG hK hP hD hS hA rfl rfl rfl rfl rfl rfl hl.1 rfl (Nat.le_of_ble_eq_true rfl) dX6_command_1 ⟨Nat.zero_le _, Nat.zero_le _⟩ (fun H locs hP hD hS => ?_)
  have hP : va_P D vwCl [(x9, .inr (10, [.int 0, .int (nI ch), .int era, .int why, .int det, .int cau, .int (zI sv), .int (zI rj), .ref v9, .ref b9, .ref s9, .ref k9, .ref p9, .ref t9, .ref n9, .int (nI tn), .int (nI he), .int (nI en), .int (nI ln), .int (zI iw), .int (zI true)])), (t9, .inl (cy 0, 60, .inl tx)), (v9, .inl (cy 0, 188, .inl v))] H := hP
  have hD : va_D A [(x9, .inr (10, [.int 0, .int (nI ch), .int era, .int why, .int det, .int cau, .int (zI sv), .int (zI rj), .ref v9, .ref b9, .ref s9, .ref k9, .ref p9, .ref t9, .ref n9, .int (nI tn), .int (nI he), .int (nI en), .int (nI ln), .int (zI iw), .int (zI true)])), (t9, .inl (cy 0, 60, .inl tx)), (v9, .inl (cy 0, 188, .inl v))] := hD
  refine z_top (y := 108) (hc) ?_
  refine lv_istore_n (lv' := [(1, .int 108), (0, .ref x9)]) hx hb dX6_command_4 rfl hl (by decide) rfl (fun ls hl => ?_)
  refine lv_iconst (v := 0) hx hb dX6_command_5 (by decide) ?_
  refine lv_istore_n (lv' := [(2, .int 0), (1, .int 108), (0, .ref x9)]) hx hb dX6_command_6 rfl hl (by decide) rfl (fun ls hl => ?_)
  refine lv_iconst (v := 0) hx hb dX6_command_7 (by decide) ?_
  refine lv_istore_n (lv' := [(3, .int 0), (2, .int 0), (1, .int 108), (0, .ref x9)]) hx hb dX6_command_8 rfl hl (by decide) rfl (fun ls hl => ?_)
  refine lv_aload_n hx hb dX6_command_9 rfl (lv_at hl 3 rfl) ?_
  refine lv_iload_n hx hb dX6_command_10 rfl (lv_at hl 2 rfl) ?_
  refine zcS (As := [.int 108]) (rest := [.ref x9]) [] hg.1 ⟨hx, hb, hml, hown, hts⟩ (c_X6_isNumbered hg l D cy 108) (va_cwS 1 hts gX6_command_X6_isNumbered rfl rfl rfl (by decide +kernel) ⟨Nat.le_of_ble_eq_true rfl, Nat.le_of_ble_eq_true rfl⟩) hG hK hP hD hS hA rfl rfl rfl  rfl hl.1 rfl (Nat.le_of_ble_eq_true rfl) dX6_command_11 ⟨Nat.zero_le _, Nat.zero_le _⟩ (fun H locs hP hD hS => ?_)
  have hP : va_P D vwCl [(x9, .inr (10, [.int 0, .int (nI ch), .int era, .int why, .int det, .int cau, .int (zI sv), .int (zI rj), .ref v9, .ref b9, .ref s9, .ref k9, .ref p9, .ref t9, .ref n9, .int (nI tn), .int (nI he), .int (nI en), .int (nI ln), .int (zI iw), .int (zI true)])), (t9, .inl (cy 0, 60, .inl tx)), (v9, .inl (cy 0, 188, .inl v))] H := hP
  have hD : va_D A [(x9, .inr (10, [.int 0, .int (nI ch), .int era, .int why, .int det, .int cau, .int (zI sv), .int (zI rj), .ref v9, .ref b9, .ref s9, .ref k9, .ref p9, .ref t9, .ref n9, .int (nI tn), .int (nI he), .int (nI en), .int (nI ln), .int (zI iw), .int (zI true)])), (t9, .inl (cy 0, 60, .inl tx)), (v9, .inl (cy 0, 188, .inl v))] := hD
  refine z_top (y := zI true) (rfl) ?_
  refine lv_if_ne (tgt := 46) hx hb dX6_command_14 (by decide) (fun c_1 => ?_) (fun c_1 => ?_)
  · replace c_1 := zI1 c_1
    refine lv_iconst (v := 0) hx hb dX6_command_46 (by decide) ?_
    refine z_top (y := zI false) rfl ?_
    refine va_put (D := D) (ci := 10) (v := .int (zI false)) (ty := .boolean) (C := RX6) (T := TX6) (N := 21) hx hb hts in_RX6 tyX6 tyX6_ok nmX6 hown hK hP hD hS 0 rfl rfl 19 (by decide) (hts _ (List.mem_of_getElem? (i := 1) rfl)) (fun _ h9 => h9) rfl (by decide +kernel) (zI_nar _) (zI_fit _) (Nat.le_of_ble_eq_true rfl) dX6_command_47 (fun H locs hP hD hS => ?_)
    have hP : va_P D vwCl [(x9, .inr (10, [.int 0, .int (nI ch), .int era, .int why, .int det, .int cau, .int (zI sv), .int (zI rj), .ref v9, .ref b9, .ref s9, .ref k9, .ref p9, .ref t9, .ref n9, .int (nI tn), .int (nI he), .int (nI en), .int (nI ln), .int (zI false), .int (zI true)])), (t9, .inl (cy 0, 60, .inl tx)), (v9, .inl (cy 0, 188, .inl v))] H := hP
    have hD : va_D A [(x9, .inr (10, [.int 0, .int (nI ch), .int era, .int why, .int det, .int cau, .int (zI sv), .int (zI rj), .ref v9, .ref b9, .ref s9, .ref k9, .ref p9, .ref t9, .ref n9, .int (nI tn), .int (nI he), .int (nI en), .int (nI ln), .int (zI false), .int (zI true)])), (t9, .inl (cy 0, 60, .inl tx)), (v9, .inl (cy 0, 188, .inl v))] := hD
    refine lv_aload_n hx hb dX6_command_50 rfl (lv_at hl 3 rfl) ?_
    refine va_get (D := D) (ci := 10) (v := .int (zI false)) (C := RX6) (T := TX6) (N := 21) hx hb hts in_RX6 hown hK hP 0 rfl rfl 19 (by decide) (hts _ (List.mem_of_getElem? (i := 1) rfl)) (fun _ h9 => h9) rfl dX6_command_51 ?_
    refine lv_if_eq (tgt := 58) hx hb dX6_command_54 (by decide) (fun c_2 => ?_) (fun c_2 => ?_)
    · replace c_2 := zI0 c_2
      refine lv_aload_n hx hb dX6_command_58 rfl (lv_at hl 3 rfl) ?_
      refine lv_dup hx hb dX6_command_59 rfl ?_
      refine va_get (D := D) (ci := 10) (v := .int (nI he)) (C := RX6) (T := TX6) (N := 21) hx hb hts in_RX6 hown hK hP 0 rfl rfl 16 (by decide) (hts _ (List.mem_of_getElem? (i := 2) rfl)) (fun _ h9 => h9) rfl dX6_command_60 ?_
      refine lv_iconst (v := 1) hx hb dX6_command_63 (by decide) ?_
      refine lv_iadd hx hb dX6_command_64 ?_
      refine z_top (y := nI (he + 1)) (nI_add he 1) ?_
      refine va_put (D := D) (ci := 10) (v := .int (nI (he + 1))) (ty := .int) (C := RX6) (T := TX6) (N := 21) hx hb hts in_RX6 tyX6 tyX6_ok nmX6 hown hK hP hD hS 0 rfl rfl 16 (by decide) (hts _ (List.mem_of_getElem? (i := 2) rfl)) (fun _ h9 => h9) rfl (by decide +kernel) rfl rfl (Nat.le_of_ble_eq_true rfl) dX6_command_65 (fun H locs hP hD hS => ?_)
      have hP : va_P D vwCl [(x9, .inr (10, [.int 0, .int (nI ch), .int era, .int why, .int det, .int cau, .int (zI sv), .int (zI rj), .ref v9, .ref b9, .ref s9, .ref k9, .ref p9, .ref t9, .ref n9, .int (nI tn), .int (nI (he + 1)), .int (nI en), .int (nI ln), .int (zI false), .int (zI true)])), (t9, .inl (cy 0, 60, .inl tx)), (v9, .inl (cy 0, 188, .inl v))] H := hP
      have hD : va_D A [(x9, .inr (10, [.int 0, .int (nI ch), .int era, .int why, .int det, .int cau, .int (zI sv), .int (zI rj), .ref v9, .ref b9, .ref s9, .ref k9, .ref p9, .ref t9, .ref n9, .int (nI tn), .int (nI (he + 1)), .int (nI en), .int (nI ln), .int (zI false), .int (zI true)])), (t9, .inl (cy 0, 60, .inl tx)), (v9, .inl (cy 0, 188, .inl v))] := hD
      refine lv_iload_n hx hb dX6_command_68 rfl (lv_at hl 2 rfl) ?_
      refine zcS (As := [.int 108]) (rest := []) [] hg.1 ⟨hx, hb, hml, hown, hts⟩ (c_X6_isNumbered hg l D cy 108) (va_cwS 1 hts gX6_command_X6_isNumbered rfl rfl rfl (by decide +kernel) ⟨Nat.le_of_ble_eq_true rfl, Nat.le_of_ble_eq_true rfl⟩) hG hK hP hD hS hA rfl rfl rfl  rfl hl.1 rfl (Nat.le_of_ble_eq_true rfl) dX6_command_69 ⟨Nat.zero_le _, Nat.zero_le _⟩ (fun H locs hP hD hS => ?_)
      have hP : va_P D vwCl [(x9, .inr (10, [.int 0, .int (nI ch), .int era, .int why, .int det, .int cau, .int (zI sv), .int (zI rj), .ref v9, .ref b9, .ref s9, .ref k9, .ref p9, .ref t9, .ref n9, .int (nI tn), .int (nI (he + 1)), .int (nI en), .int (nI ln), .int (zI false), .int (zI true)])), (t9, .inl (cy 0, 60, .inl tx)), (v9, .inl (cy 0, 188, .inl v))] H := hP
      have hD : va_D A [(x9, .inr (10, [.int 0, .int (nI ch), .int era, .int why, .int det, .int cau, .int (zI sv), .int (zI rj), .ref v9, .ref b9, .ref s9, .ref k9, .ref p9, .ref t9, .ref n9, .int (nI tn), .int (nI (he + 1)), .int (nI en), .int (nI ln), .int (zI false), .int (zI true)])), (t9, .inl (cy 0, 60, .inl tx)), (v9, .inl (cy 0, 188, .inl v))] := hD
      refine z_top (y := zI true) (rfl) ?_
      refine lv_if_eq (tgt := 81) hx hb dX6_command_72 (by decide) (fun c_3 => ?_) (fun c_3 => ?_)
      · replace c_3 := zI0 c_3
        exact absurd c_3 (by decide)
      · replace c_3 := zI1 c_3
        refine lv_aload_n hx hb dX6_command_75 rfl (lv_at hl 3 rfl) ?_
        refine lv_iconst (v := 2) hx hb dX6_command_76 (by decide) ?_
        refine z_top (y := nI 2) (rfl) ?_
        refine zcV (As := [.int (nI 2)]) (rest := []) [0, 1] 0 hg.1 ⟨hx, hb, hml, hown, hts⟩ (c_X6_digits hg l D cy x9 0 ch era why det cau sv rj v9 b9 s9 k9 p9 t9 n9 tn (he + 1) en ln true tx 2 (by first | assumption | omega) (by first | assumption | omega) (by first | assumption | omega) (by first | assumption | omega)) (cwV 1 hts gX6_command_X6_digits rfl rfl rfl (by decide +kernel) ⟨Nat.le_of_ble_eq_true rfl, Nat.le_of_ble_eq_true rfl⟩) hG hK hP hD hS hA rfl rfl (Eq.trans (b := [x9, t9]) rfl rfl) rfl rfl rfl hl.1 rfl (Nat.le_of_ble_eq_true rfl) dX6_command_77 ⟨Nat.zero_le _, Nat.zero_le _⟩ (fun H locs hP hD hS => ?_)
        have hP : va_P D vwCl [(x9, .inr (10, [.int 0, .int (nI ch), .int era, .int why, .int det, .int cau, .int (zI sv), .int (zI rj), .ref v9, .ref b9, .ref s9, .ref k9, .ref p9, .ref t9, .ref n9, .int (nI tn), .int (nI ((he + 1) + zdN tx en 2 (he + 1))), .int (nI en), .int (nI ln), .int (zI (decide (zdN tx en 2 (he + 1) = 0))), .int (zI true)])), (t9, .inl (cy 0, 60, .inl tx)), (v9, .inl (cy 0, 188, .inl v))] H := hP
        have hD : va_D A [(x9, .inr (10, [.int 0, .int (nI ch), .int era, .int why, .int det, .int cau, .int (zI sv), .int (zI rj), .ref v9, .ref b9, .ref s9, .ref k9, .ref p9, .ref t9, .ref n9, .int (nI tn), .int (nI ((he + 1) + zdN tx en 2 (he + 1))), .int (nI en), .int (nI ln), .int (zI (decide (zdN tx en 2 (he + 1) = 0))), .int (zI true)])), (t9, .inl (cy 0, 60, .inl tx)), (v9, .inl (cy 0, 188, .inl v))] := hD
        refine lv_istore_n (lv' := [(2, .int (zdV tx en 2 (he + 1) 0)), (3, .int 0), (1, .int 108), (0, .ref x9)]) hx hb dX6_command_80 rfl hl (by decide) rfl (fun ls hl => ?_)
        refine lv_iload_n hx hb dX6_command_81 rfl (lv_at hl 2 rfl) ?_
        refine zcS (As := [.int 108]) (rest := []) [] hg.1 ⟨hx, hb, hml, hown, hts⟩ (c_X6_isDigit hg l D cy 108) (va_cwS 1 hts gX6_command_X6_isDigit rfl rfl rfl (by decide +kernel) ⟨Nat.le_of_ble_eq_true rfl, Nat.le_of_ble_eq_true rfl⟩) hG hK hP hD hS hA rfl rfl rfl  rfl hl.1 rfl (Nat.le_of_ble_eq_true rfl) dX6_command_82 ⟨Nat.zero_le _, Nat.zero_le _⟩ (fun H locs hP hD hS => ?_)
        have hP : va_P D vwCl [(x9, .inr (10, [.int 0, .int (nI ch), .int era, .int why, .int det, .int cau, .int (zI sv), .int (zI rj), .ref v9, .ref b9, .ref s9, .ref k9, .ref p9, .ref t9, .ref n9, .int (nI tn), .int (nI ((he + 1) + zdN tx en 2 (he + 1))), .int (nI en), .int (nI ln), .int (zI (decide (zdN tx en 2 (he + 1) = 0))), .int (zI true)])), (t9, .inl (cy 0, 60, .inl tx)), (v9, .inl (cy 0, 188, .inl v))] H := hP
        have hD : va_D A [(x9, .inr (10, [.int 0, .int (nI ch), .int era, .int why, .int det, .int cau, .int (zI sv), .int (zI rj), .ref v9, .ref b9, .ref s9, .ref k9, .ref p9, .ref t9, .ref n9, .int (nI tn), .int (nI ((he + 1) + zdN tx en 2 (he + 1))), .int (nI en), .int (nI ln), .int (zI (decide (zdN tx en 2 (he + 1) = 0))), .int (zI true)])), (t9, .inl (cy 0, 60, .inl tx)), (v9, .inl (cy 0, 188, .inl v))] := hD
        refine z_top (y := zI false) (rfl) ?_
        refine lv_if_eq (tgt := 94) hx hb dX6_command_85 (by decide) (fun c_4 => ?_) (fun c_4 => ?_)
        · replace c_4 := zI0 c_4
          refine lv_iload_n hx hb dX6_command_94 rfl (lv_at hl 2 rfl) ?_
          refine lv_bipush (v := 112) hx hb dX6_command_95 (by decide) ?_
          refine lv_icmp_ne (tgt := 105) hx hb dX6_command_97 (by decide) (fun c_5 => ?_) (fun c_5 => ?_)
          · refine lv_iload_n hx hb dX6_command_105 rfl (lv_at hl 2 rfl) ?_
            refine lv_bipush (v := 99) hx hb dX6_command_106 (by decide) ?_
            refine lv_icmp_ne (tgt := 118) hx hb dX6_command_108 (by decide) (fun c_6 => ?_) (fun c_6 => ?_)
            · refine lv_iload_n hx hb dX6_command_118 rfl (lv_at hl 2 rfl) ?_
              refine lv_bipush (v := 121) hx hb dX6_command_119 (by decide) ?_
              refine lv_icmp_ne (tgt := 131) hx hb dX6_command_121 (by decide) (fun c_7 => ?_) (fun c_7 => ?_)
              · refine lv_aload_n hx hb dX6_command_131 rfl (lv_at hl 3 rfl) ?_
                refine va_get (D := D) (ci := 10) (v := .int (zI (decide (zdN tx en 2 (he + 1) = 0)))) (C := RX6) (T := TX6) (N := 21) hx hb hts in_RX6 hown hK hP 0 rfl rfl 19 (by decide) (hts _ (List.mem_of_getElem? (i := 1) rfl)) (fun _ h9 => h9) rfl dX6_command_132 ?_
                refine lv_if_ne (tgt := 145) hx hb dX6_command_135 (by decide) (fun c_8 => ?_) (fun c_8 => ?_)
                · replace c_8 := zI1 c_8
                  exact absurd (hw.symm.trans c_8) (by decide)
                · replace c_8 := zI0 c_8
                  have er_9 : decide (zdN tx en 2 (he + 1) = 0) = false := c_8
                  rw [er_9] at hP hD
                  refine lv_aload_n hx hb dX6_command_138 rfl (lv_at hl 3 rfl) ?_
                  refine va_get (D := D) (ci := 10) (v := .int (zI true)) (C := RX6) (T := TX6) (N := 21) hx hb hts in_RX6 hown hK hP 0 rfl rfl 20 (by decide) (hts _ (List.mem_of_getElem? (i := 3) rfl)) (fun _ h9 => h9) rfl dX6_command_139 ?_
                  refine lv_if_ne (tgt := 146) hx hb dX6_command_142 (by decide) (fun c_10 => ?_) (fun c_10 => ?_)
                  · replace c_10 := zI1 c_10
                    refine lv_aload_n hx hb dX6_command_146 rfl (lv_at hl 3 rfl) ?_
                    refine lv_iload_n hx hb dX6_command_147 rfl (lv_at hl 2 rfl) ?_
                    refine lv_iload_n hx hb dX6_command_148 rfl (lv_at hl 0 rfl) ?_
                    refine lv_iload_n hx hb dX6_command_149 rfl (lv_at hl 1 rfl) ?_
                    refine zcV (As := [.int 108, .int (zdV tx en 2 (he + 1) 0), .int 0]) (rest := []) [0, 2] 0 hg.1 ⟨hx, hb, hml, hown, hts⟩ hdo (cwV 3 hts gX6_command_X6_does rfl rfl rfl (by decide +kernel) ⟨Nat.le_of_ble_eq_true rfl, Nat.le_of_ble_eq_true rfl⟩) hG hK hP hD hS hA rfl rfl (Eq.trans (b := [x9, v9]) rfl rfl) rfl rfl rfl hl.1 rfl (Nat.le_of_ble_eq_true rfl) dX6_command_150 ⟨Nat.zero_le _, Nat.zero_le _⟩ (fun H locs hP hD hS => ?_)
                    have hP : va_P D vwCl [(x9, .inr (10, [.int th2, .int (nI ch), .int era, .int why2, .int det2, .int cau2, .int (zI sv), .int (zI rj2), .ref v9, .ref b9, .ref s9, .ref k9, .ref p9, .ref t9, .ref n9, .int (nI tn), .int (nI ((he + 1) + zdN tx en 2 (he + 1))), .int (nI en), .int (nI ln), .int (zI false), .int (zI true)])), (t9, .inl (cy 0, 60, .inl tx)), (v9, .inl (cy 0, 188, .inl v2))] H := hP
                    have hD : va_D A [(x9, .inr (10, [.int th2, .int (nI ch), .int era, .int why2, .int det2, .int cau2, .int (zI sv), .int (zI rj2), .ref v9, .ref b9, .ref s9, .ref k9, .ref p9, .ref t9, .ref n9, .int (nI tn), .int (nI ((he + 1) + zdN tx en 2 (he + 1))), .int (nI en), .int (nI ln), .int (zI false), .int (zI true)])), (t9, .inl (cy 0, 60, .inl tx)), (v9, .inl (cy 0, 188, .inl v2))] := hD
                    refine lv_istore (lv' := [(4, .int res2), (2, .int (zdV tx en 2 (he + 1) 0)), (3, .int 0), (1, .int 108), (0, .ref x9)]) hx hb dX6_command_153 hl (by decide) rfl (fun ls hl => ?_)
                    exact zvret hend hx hb hr hlk hK hP hD hS dX6_command_155 rfl
                  · replace c_10 := zI0 c_10
                    exact absurd c_10 (by decide)
              · exact absurd c_7 (by decide)
            · exact absurd c_6 (by decide)
          · exact absurd c_5 (by decide)
        · replace c_4 := zI1 c_4
          exact absurd c_4 (by decide)
    · replace c_2 := zI1 c_2
      exact absurd c_2 (by decide)
  · replace c_1 := zI0 c_1
    exact absurd c_1 (by decide)

abbrev rmX6_command_d103 : Room := { frames := 6, cells := 0, slots := 0, locals := 139 }
set_option maxHeartbeats 4000000 in
set_option maxRecDepth 100000 in
theorem c_X6_command_d103 {G : zG} (hg : zGN G) (l : Launch) (D : va_G) (cy : Nat → ClassId) (x9 : Nat) (ch : Nat) (era : Int32) (why : Int32) (det : Int32) (cau : Int32) (sv : Bool) (rj : Bool) (v9 : Nat) (b9 : Nat) (s9 : Nat) (k9 : Nat) (p9 : Nat) (t9 : Nat) (n9 : Nat) (tn : Nat) (he : Nat) (en : Nat) (ln : Nat) (iw : Bool) (tx : Nat → Int32) (v : Nat → Int32) (res2 : Int32) (th2 : Int32) (why2 : Int32) (det2 : Int32) (cau2 : Int32) (rj2 : Bool) (v2 : Nat → Int32) (hhe : he ≤ 60) (hen : en ≤ 60) (hc : zqs tx en he = 103) (hw : (decide (zdN tx en 2 (he + 1) = 0)) = false) (hdo : zM G D vwCl (zT cy) l yX6_does wsX6_does { frames := 5, cells := 0, slots := 0, locals := 116 } [.ref x9, .int 103, .int (zdV tx en 2 (he + 1) 0), .int 0] [(x9, .inr (10, [.int 0, .int (nI ch), .int era, .int why, .int det, .int cau, .int (zI sv), .int (zI rj), .ref v9, .ref b9, .ref s9, .ref k9, .ref p9, .ref t9, .ref n9, .int (nI tn), .int (nI ((he + 1) + zdN tx en 2 (he + 1))), .int (nI en), .int (nI ln), .int (zI false), .int (zI true)])), (v9, .inl (cy 0, 188, .inl v))] (some (.int res2)) [(x9, .inr (10, [.int th2, .int (nI ch), .int era, .int why2, .int det2, .int cau2, .int (zI sv), .int (zI rj2), .ref v9, .ref b9, .ref s9, .ref k9, .ref p9, .ref t9, .ref n9, .int (nI tn), .int (nI ((he + 1) + zdN tx en 2 (he + 1))), .int (nI en), .int (nI ln), .int (zI false), .int (zI true)])), (v9, .inl (cy 0, 188, .inl v2))]) : zM G D vwCl (zT cy) l yX6_command wsX6_command rmX6_command_d103 [.ref x9] [(x9, .inr (10, [.int 0, .int (nI ch), .int era, .int why, .int det, .int cau, .int (zI sv), .int (zI rj), .ref v9, .ref b9, .ref s9, .ref k9, .ref p9, .ref t9, .ref n9, .int (nI tn), .int (nI he), .int (nI en), .int (nI ln), .int (zI iw), .int (zI true)])), (t9, .inl (cy 0, 60, .inl tx)), (v9, .inl (cy 0, 188, .inl v))] none [(x9, .inr (10, [.int th2, .int (nI ch), .int era, .int why2, .int det2, .int cau2, .int (zI sv), .int (zI rj2), .ref v9, .ref b9, .ref s9, .ref k9, .ref p9, .ref t9, .ref n9, .int (nI tn), .int (nI ((he + 1) + zdN tx en 2 (he + 1))), .int (nI en), .int (nI ln), .int (zI false), .int (zI true)])), (t9, .inl (cy 0, 60, .inl tx)), (v9, .inl (cy 0, 188, .inl v2))] := by
  refine zM_of (cc := cX6_command) (maxL := 5) (ret := none) (by decide) rfl (Nat.le_of_ble_eq_true rfl) ?_
  intro p e s m below meth c A Q hend hx hb hml hr hts hown hlk hG hK hP hD hA hS ls hl
  have hown : s.vm.findClass RX6 = some m.cls := hown
  have in_RX6 : ∀ w ∈ u_ws RX6 TX6 21, w ∈ wsX6_command := by decide +kernel
  have hl : lv_has ls 5 [(0, .ref x9)] := hl
  refine lv_aload_n hx hb dX6_command_0 rfl (lv_at hl 0 rfl) ?_
  refine zcV (As := []) (rest := []) [0, 1] 0 hg.1 ⟨hx, hb, hml, hown, hts⟩ (c_X6_sign hg l D cy x9 0 ch era why det cau sv rj v9 b9 s9 k9 p9 t9 n9 tn he en ln iw true tx (by first | assumption | omega) (by first | assumption | omega)) (cwV 0 hts gX6_command_X6_sign rfl rfl rfl (by decide +kernel) ⟨Nat.le_of_ble_eq_true rfl, Nat.le_of_ble_eq_true rfl⟩) hG hK hP hD hS hA rfl rfl rfl rfl rfl rfl hl.1 rfl (Nat.le_of_ble_eq_true rfl) dX6_command_1 ⟨Nat.zero_le _, Nat.zero_le _⟩ (fun H locs hP hD hS => ?_)
  have hP : va_P D vwCl [(x9, .inr (10, [.int 0, .int (nI ch), .int era, .int why, .int det, .int cau, .int (zI sv), .int (zI rj), .ref v9, .ref b9, .ref s9, .ref k9, .ref p9, .ref t9, .ref n9, .int (nI tn), .int (nI he), .int (nI en), .int (nI ln), .int (zI iw), .int (zI true)])), (t9, .inl (cy 0, 60, .inl tx)), (v9, .inl (cy 0, 188, .inl v))] H := hP
  have hD : va_D A [(x9, .inr (10, [.int 0, .int (nI ch), .int era, .int why, .int det, .int cau, .int (zI sv), .int (zI rj), .ref v9, .ref b9, .ref s9, .ref k9, .ref p9, .ref t9, .ref n9, .int (nI tn), .int (nI he), .int (nI en), .int (nI ln), .int (zI iw), .int (zI true)])), (t9, .inl (cy 0, 60, .inl tx)), (v9, .inl (cy 0, 188, .inl v))] := hD
  refine z_top (y := 103) (hc) ?_
  refine lv_istore_n (lv' := [(1, .int 103), (0, .ref x9)]) hx hb dX6_command_4 rfl hl (by decide) rfl (fun ls hl => ?_)
  refine lv_iconst (v := 0) hx hb dX6_command_5 (by decide) ?_
  refine lv_istore_n (lv' := [(2, .int 0), (1, .int 103), (0, .ref x9)]) hx hb dX6_command_6 rfl hl (by decide) rfl (fun ls hl => ?_)
  refine lv_iconst (v := 0) hx hb dX6_command_7 (by decide) ?_
  refine lv_istore_n (lv' := [(3, .int 0), (2, .int 0), (1, .int 103), (0, .ref x9)]) hx hb dX6_command_8 rfl hl (by decide) rfl (fun ls hl => ?_)
  refine lv_aload_n hx hb dX6_command_9 rfl (lv_at hl 3 rfl) ?_
  refine lv_iload_n hx hb dX6_command_10 rfl (lv_at hl 2 rfl) ?_
  refine zcS (As := [.int 103]) (rest := [.ref x9]) [] hg.1 ⟨hx, hb, hml, hown, hts⟩ (c_X6_isNumbered hg l D cy 103) (va_cwS 1 hts gX6_command_X6_isNumbered rfl rfl rfl (by decide +kernel) ⟨Nat.le_of_ble_eq_true rfl, Nat.le_of_ble_eq_true rfl⟩) hG hK hP hD hS hA rfl rfl rfl  rfl hl.1 rfl (Nat.le_of_ble_eq_true rfl) dX6_command_11 ⟨Nat.zero_le _, Nat.zero_le _⟩ (fun H locs hP hD hS => ?_)
  have hP : va_P D vwCl [(x9, .inr (10, [.int 0, .int (nI ch), .int era, .int why, .int det, .int cau, .int (zI sv), .int (zI rj), .ref v9, .ref b9, .ref s9, .ref k9, .ref p9, .ref t9, .ref n9, .int (nI tn), .int (nI he), .int (nI en), .int (nI ln), .int (zI iw), .int (zI true)])), (t9, .inl (cy 0, 60, .inl tx)), (v9, .inl (cy 0, 188, .inl v))] H := hP
  have hD : va_D A [(x9, .inr (10, [.int 0, .int (nI ch), .int era, .int why, .int det, .int cau, .int (zI sv), .int (zI rj), .ref v9, .ref b9, .ref s9, .ref k9, .ref p9, .ref t9, .ref n9, .int (nI tn), .int (nI he), .int (nI en), .int (nI ln), .int (zI iw), .int (zI true)])), (t9, .inl (cy 0, 60, .inl tx)), (v9, .inl (cy 0, 188, .inl v))] := hD
  refine z_top (y := zI true) (rfl) ?_
  refine lv_if_ne (tgt := 46) hx hb dX6_command_14 (by decide) (fun c_1 => ?_) (fun c_1 => ?_)
  · replace c_1 := zI1 c_1
    refine lv_iconst (v := 0) hx hb dX6_command_46 (by decide) ?_
    refine z_top (y := zI false) rfl ?_
    refine va_put (D := D) (ci := 10) (v := .int (zI false)) (ty := .boolean) (C := RX6) (T := TX6) (N := 21) hx hb hts in_RX6 tyX6 tyX6_ok nmX6 hown hK hP hD hS 0 rfl rfl 19 (by decide) (hts _ (List.mem_of_getElem? (i := 1) rfl)) (fun _ h9 => h9) rfl (by decide +kernel) (zI_nar _) (zI_fit _) (Nat.le_of_ble_eq_true rfl) dX6_command_47 (fun H locs hP hD hS => ?_)
    have hP : va_P D vwCl [(x9, .inr (10, [.int 0, .int (nI ch), .int era, .int why, .int det, .int cau, .int (zI sv), .int (zI rj), .ref v9, .ref b9, .ref s9, .ref k9, .ref p9, .ref t9, .ref n9, .int (nI tn), .int (nI he), .int (nI en), .int (nI ln), .int (zI false), .int (zI true)])), (t9, .inl (cy 0, 60, .inl tx)), (v9, .inl (cy 0, 188, .inl v))] H := hP
    have hD : va_D A [(x9, .inr (10, [.int 0, .int (nI ch), .int era, .int why, .int det, .int cau, .int (zI sv), .int (zI rj), .ref v9, .ref b9, .ref s9, .ref k9, .ref p9, .ref t9, .ref n9, .int (nI tn), .int (nI he), .int (nI en), .int (nI ln), .int (zI false), .int (zI true)])), (t9, .inl (cy 0, 60, .inl tx)), (v9, .inl (cy 0, 188, .inl v))] := hD
    refine lv_aload_n hx hb dX6_command_50 rfl (lv_at hl 3 rfl) ?_
    refine va_get (D := D) (ci := 10) (v := .int (zI false)) (C := RX6) (T := TX6) (N := 21) hx hb hts in_RX6 hown hK hP 0 rfl rfl 19 (by decide) (hts _ (List.mem_of_getElem? (i := 1) rfl)) (fun _ h9 => h9) rfl dX6_command_51 ?_
    refine lv_if_eq (tgt := 58) hx hb dX6_command_54 (by decide) (fun c_2 => ?_) (fun c_2 => ?_)
    · replace c_2 := zI0 c_2
      refine lv_aload_n hx hb dX6_command_58 rfl (lv_at hl 3 rfl) ?_
      refine lv_dup hx hb dX6_command_59 rfl ?_
      refine va_get (D := D) (ci := 10) (v := .int (nI he)) (C := RX6) (T := TX6) (N := 21) hx hb hts in_RX6 hown hK hP 0 rfl rfl 16 (by decide) (hts _ (List.mem_of_getElem? (i := 2) rfl)) (fun _ h9 => h9) rfl dX6_command_60 ?_
      refine lv_iconst (v := 1) hx hb dX6_command_63 (by decide) ?_
      refine lv_iadd hx hb dX6_command_64 ?_
      refine z_top (y := nI (he + 1)) (nI_add he 1) ?_
      refine va_put (D := D) (ci := 10) (v := .int (nI (he + 1))) (ty := .int) (C := RX6) (T := TX6) (N := 21) hx hb hts in_RX6 tyX6 tyX6_ok nmX6 hown hK hP hD hS 0 rfl rfl 16 (by decide) (hts _ (List.mem_of_getElem? (i := 2) rfl)) (fun _ h9 => h9) rfl (by decide +kernel) rfl rfl (Nat.le_of_ble_eq_true rfl) dX6_command_65 (fun H locs hP hD hS => ?_)
      have hP : va_P D vwCl [(x9, .inr (10, [.int 0, .int (nI ch), .int era, .int why, .int det, .int cau, .int (zI sv), .int (zI rj), .ref v9, .ref b9, .ref s9, .ref k9, .ref p9, .ref t9, .ref n9, .int (nI tn), .int (nI (he + 1)), .int (nI en), .int (nI ln), .int (zI false), .int (zI true)])), (t9, .inl (cy 0, 60, .inl tx)), (v9, .inl (cy 0, 188, .inl v))] H := hP
      have hD : va_D A [(x9, .inr (10, [.int 0, .int (nI ch), .int era, .int why, .int det, .int cau, .int (zI sv), .int (zI rj), .ref v9, .ref b9, .ref s9, .ref k9, .ref p9, .ref t9, .ref n9, .int (nI tn), .int (nI (he + 1)), .int (nI en), .int (nI ln), .int (zI false), .int (zI true)])), (t9, .inl (cy 0, 60, .inl tx)), (v9, .inl (cy 0, 188, .inl v))] := hD
      refine lv_iload_n hx hb dX6_command_68 rfl (lv_at hl 2 rfl) ?_
      refine zcS (As := [.int 103]) (rest := []) [] hg.1 ⟨hx, hb, hml, hown, hts⟩ (c_X6_isNumbered hg l D cy 103) (va_cwS 1 hts gX6_command_X6_isNumbered rfl rfl rfl (by decide +kernel) ⟨Nat.le_of_ble_eq_true rfl, Nat.le_of_ble_eq_true rfl⟩) hG hK hP hD hS hA rfl rfl rfl  rfl hl.1 rfl (Nat.le_of_ble_eq_true rfl) dX6_command_69 ⟨Nat.zero_le _, Nat.zero_le _⟩ (fun H locs hP hD hS => ?_)
      have hP : va_P D vwCl [(x9, .inr (10, [.int 0, .int (nI ch), .int era, .int why, .int det, .int cau, .int (zI sv), .int (zI rj), .ref v9, .ref b9, .ref s9, .ref k9, .ref p9, .ref t9, .ref n9, .int (nI tn), .int (nI (he + 1)), .int (nI en), .int (nI ln), .int (zI false), .int (zI true)])), (t9, .inl (cy 0, 60, .inl tx)), (v9, .inl (cy 0, 188, .inl v))] H := hP
      have hD : va_D A [(x9, .inr (10, [.int 0, .int (nI ch), .int era, .int why, .int det, .int cau, .int (zI sv), .int (zI rj), .ref v9, .ref b9, .ref s9, .ref k9, .ref p9, .ref t9, .ref n9, .int (nI tn), .int (nI (he + 1)), .int (nI en), .int (nI ln), .int (zI false), .int (zI true)])), (t9, .inl (cy 0, 60, .inl tx)), (v9, .inl (cy 0, 188, .inl v))] := hD
      refine z_top (y := zI true) (rfl) ?_
      refine lv_if_eq (tgt := 81) hx hb dX6_command_72 (by decide) (fun c_3 => ?_) (fun c_3 => ?_)
      · replace c_3 := zI0 c_3
        exact absurd c_3 (by decide)
      · replace c_3 := zI1 c_3
        refine lv_aload_n hx hb dX6_command_75 rfl (lv_at hl 3 rfl) ?_
        refine lv_iconst (v := 2) hx hb dX6_command_76 (by decide) ?_
        refine z_top (y := nI 2) (rfl) ?_
        refine zcV (As := [.int (nI 2)]) (rest := []) [0, 1] 0 hg.1 ⟨hx, hb, hml, hown, hts⟩ (c_X6_digits hg l D cy x9 0 ch era why det cau sv rj v9 b9 s9 k9 p9 t9 n9 tn (he + 1) en ln true tx 2 (by first | assumption | omega) (by first | assumption | omega) (by first | assumption | omega) (by first | assumption | omega)) (cwV 1 hts gX6_command_X6_digits rfl rfl rfl (by decide +kernel) ⟨Nat.le_of_ble_eq_true rfl, Nat.le_of_ble_eq_true rfl⟩) hG hK hP hD hS hA rfl rfl (Eq.trans (b := [x9, t9]) rfl rfl) rfl rfl rfl hl.1 rfl (Nat.le_of_ble_eq_true rfl) dX6_command_77 ⟨Nat.zero_le _, Nat.zero_le _⟩ (fun H locs hP hD hS => ?_)
        have hP : va_P D vwCl [(x9, .inr (10, [.int 0, .int (nI ch), .int era, .int why, .int det, .int cau, .int (zI sv), .int (zI rj), .ref v9, .ref b9, .ref s9, .ref k9, .ref p9, .ref t9, .ref n9, .int (nI tn), .int (nI ((he + 1) + zdN tx en 2 (he + 1))), .int (nI en), .int (nI ln), .int (zI (decide (zdN tx en 2 (he + 1) = 0))), .int (zI true)])), (t9, .inl (cy 0, 60, .inl tx)), (v9, .inl (cy 0, 188, .inl v))] H := hP
        have hD : va_D A [(x9, .inr (10, [.int 0, .int (nI ch), .int era, .int why, .int det, .int cau, .int (zI sv), .int (zI rj), .ref v9, .ref b9, .ref s9, .ref k9, .ref p9, .ref t9, .ref n9, .int (nI tn), .int (nI ((he + 1) + zdN tx en 2 (he + 1))), .int (nI en), .int (nI ln), .int (zI (decide (zdN tx en 2 (he + 1) = 0))), .int (zI true)])), (t9, .inl (cy 0, 60, .inl tx)), (v9, .inl (cy 0, 188, .inl v))] := hD
        refine lv_istore_n (lv' := [(2, .int (zdV tx en 2 (he + 1) 0)), (3, .int 0), (1, .int 103), (0, .ref x9)]) hx hb dX6_command_80 rfl hl (by decide) rfl (fun ls hl => ?_)
        refine lv_iload_n hx hb dX6_command_81 rfl (lv_at hl 2 rfl) ?_
        refine zcS (As := [.int 103]) (rest := []) [] hg.1 ⟨hx, hb, hml, hown, hts⟩ (c_X6_isDigit hg l D cy 103) (va_cwS 1 hts gX6_command_X6_isDigit rfl rfl rfl (by decide +kernel) ⟨Nat.le_of_ble_eq_true rfl, Nat.le_of_ble_eq_true rfl⟩) hG hK hP hD hS hA rfl rfl rfl  rfl hl.1 rfl (Nat.le_of_ble_eq_true rfl) dX6_command_82 ⟨Nat.zero_le _, Nat.zero_le _⟩ (fun H locs hP hD hS => ?_)
        have hP : va_P D vwCl [(x9, .inr (10, [.int 0, .int (nI ch), .int era, .int why, .int det, .int cau, .int (zI sv), .int (zI rj), .ref v9, .ref b9, .ref s9, .ref k9, .ref p9, .ref t9, .ref n9, .int (nI tn), .int (nI ((he + 1) + zdN tx en 2 (he + 1))), .int (nI en), .int (nI ln), .int (zI (decide (zdN tx en 2 (he + 1) = 0))), .int (zI true)])), (t9, .inl (cy 0, 60, .inl tx)), (v9, .inl (cy 0, 188, .inl v))] H := hP
        have hD : va_D A [(x9, .inr (10, [.int 0, .int (nI ch), .int era, .int why, .int det, .int cau, .int (zI sv), .int (zI rj), .ref v9, .ref b9, .ref s9, .ref k9, .ref p9, .ref t9, .ref n9, .int (nI tn), .int (nI ((he + 1) + zdN tx en 2 (he + 1))), .int (nI en), .int (nI ln), .int (zI (decide (zdN tx en 2 (he + 1) = 0))), .int (zI true)])), (t9, .inl (cy 0, 60, .inl tx)), (v9, .inl (cy 0, 188, .inl v))] := hD
        refine z_top (y := zI false) (rfl) ?_
        refine lv_if_eq (tgt := 94) hx hb dX6_command_85 (by decide) (fun c_4 => ?_) (fun c_4 => ?_)
        · replace c_4 := zI0 c_4
          refine lv_iload_n hx hb dX6_command_94 rfl (lv_at hl 2 rfl) ?_
          refine lv_bipush (v := 112) hx hb dX6_command_95 (by decide) ?_
          refine lv_icmp_ne (tgt := 105) hx hb dX6_command_97 (by decide) (fun c_5 => ?_) (fun c_5 => ?_)
          · refine lv_iload_n hx hb dX6_command_105 rfl (lv_at hl 2 rfl) ?_
            refine lv_bipush (v := 99) hx hb dX6_command_106 (by decide) ?_
            refine lv_icmp_ne (tgt := 118) hx hb dX6_command_108 (by decide) (fun c_6 => ?_) (fun c_6 => ?_)
            · refine lv_iload_n hx hb dX6_command_118 rfl (lv_at hl 2 rfl) ?_
              refine lv_bipush (v := 121) hx hb dX6_command_119 (by decide) ?_
              refine lv_icmp_ne (tgt := 131) hx hb dX6_command_121 (by decide) (fun c_7 => ?_) (fun c_7 => ?_)
              · refine lv_aload_n hx hb dX6_command_131 rfl (lv_at hl 3 rfl) ?_
                refine va_get (D := D) (ci := 10) (v := .int (zI (decide (zdN tx en 2 (he + 1) = 0)))) (C := RX6) (T := TX6) (N := 21) hx hb hts in_RX6 hown hK hP 0 rfl rfl 19 (by decide) (hts _ (List.mem_of_getElem? (i := 1) rfl)) (fun _ h9 => h9) rfl dX6_command_132 ?_
                refine lv_if_ne (tgt := 145) hx hb dX6_command_135 (by decide) (fun c_8 => ?_) (fun c_8 => ?_)
                · replace c_8 := zI1 c_8
                  exact absurd (hw.symm.trans c_8) (by decide)
                · replace c_8 := zI0 c_8
                  have er_9 : decide (zdN tx en 2 (he + 1) = 0) = false := c_8
                  rw [er_9] at hP hD
                  refine lv_aload_n hx hb dX6_command_138 rfl (lv_at hl 3 rfl) ?_
                  refine va_get (D := D) (ci := 10) (v := .int (zI true)) (C := RX6) (T := TX6) (N := 21) hx hb hts in_RX6 hown hK hP 0 rfl rfl 20 (by decide) (hts _ (List.mem_of_getElem? (i := 3) rfl)) (fun _ h9 => h9) rfl dX6_command_139 ?_
                  refine lv_if_ne (tgt := 146) hx hb dX6_command_142 (by decide) (fun c_10 => ?_) (fun c_10 => ?_)
                  · replace c_10 := zI1 c_10
                    refine lv_aload_n hx hb dX6_command_146 rfl (lv_at hl 3 rfl) ?_
                    refine lv_iload_n hx hb dX6_command_147 rfl (lv_at hl 2 rfl) ?_
                    refine lv_iload_n hx hb dX6_command_148 rfl (lv_at hl 0 rfl) ?_
                    refine lv_iload_n hx hb dX6_command_149 rfl (lv_at hl 1 rfl) ?_
                    refine zcV (As := [.int 103, .int (zdV tx en 2 (he + 1) 0), .int 0]) (rest := []) [0, 2] 0 hg.1 ⟨hx, hb, hml, hown, hts⟩ hdo (cwV 3 hts gX6_command_X6_does rfl rfl rfl (by decide +kernel) ⟨Nat.le_of_ble_eq_true rfl, Nat.le_of_ble_eq_true rfl⟩) hG hK hP hD hS hA rfl rfl (Eq.trans (b := [x9, v9]) rfl rfl) rfl rfl rfl hl.1 rfl (Nat.le_of_ble_eq_true rfl) dX6_command_150 ⟨Nat.zero_le _, Nat.zero_le _⟩ (fun H locs hP hD hS => ?_)
                    have hP : va_P D vwCl [(x9, .inr (10, [.int th2, .int (nI ch), .int era, .int why2, .int det2, .int cau2, .int (zI sv), .int (zI rj2), .ref v9, .ref b9, .ref s9, .ref k9, .ref p9, .ref t9, .ref n9, .int (nI tn), .int (nI ((he + 1) + zdN tx en 2 (he + 1))), .int (nI en), .int (nI ln), .int (zI false), .int (zI true)])), (t9, .inl (cy 0, 60, .inl tx)), (v9, .inl (cy 0, 188, .inl v2))] H := hP
                    have hD : va_D A [(x9, .inr (10, [.int th2, .int (nI ch), .int era, .int why2, .int det2, .int cau2, .int (zI sv), .int (zI rj2), .ref v9, .ref b9, .ref s9, .ref k9, .ref p9, .ref t9, .ref n9, .int (nI tn), .int (nI ((he + 1) + zdN tx en 2 (he + 1))), .int (nI en), .int (nI ln), .int (zI false), .int (zI true)])), (t9, .inl (cy 0, 60, .inl tx)), (v9, .inl (cy 0, 188, .inl v2))] := hD
                    refine lv_istore (lv' := [(4, .int res2), (2, .int (zdV tx en 2 (he + 1) 0)), (3, .int 0), (1, .int 103), (0, .ref x9)]) hx hb dX6_command_153 hl (by decide) rfl (fun ls hl => ?_)
                    exact zvret hend hx hb hr hlk hK hP hD hS dX6_command_155 rfl
                  · replace c_10 := zI0 c_10
                    exact absurd c_10 (by decide)
              · exact absurd c_7 (by decide)
            · exact absurd c_6 (by decide)
          · exact absurd c_5 (by decide)
        · replace c_4 := zI1 c_4
          exact absurd c_4 (by decide)
    · replace c_2 := zI1 c_2
      exact absurd c_2 (by decide)
  · replace c_1 := zI0 c_1
    exact absurd c_1 (by decide)

abbrev rmX6_command_d107 : Room := { frames := 6, cells := 0, slots := 0, locals := 139 }
set_option maxHeartbeats 4000000 in
set_option maxRecDepth 100000 in
theorem c_X6_command_d107 {G : zG} (hg : zGN G) (l : Launch) (D : va_G) (cy : Nat → ClassId) (x9 : Nat) (ch : Nat) (era : Int32) (why : Int32) (det : Int32) (cau : Int32) (sv : Bool) (rj : Bool) (v9 : Nat) (b9 : Nat) (s9 : Nat) (k9 : Nat) (p9 : Nat) (t9 : Nat) (n9 : Nat) (tn : Nat) (he : Nat) (en : Nat) (ln : Nat) (iw : Bool) (tx : Nat → Int32) (v : Nat → Int32) (res2 : Int32) (th2 : Int32) (why2 : Int32) (det2 : Int32) (cau2 : Int32) (rj2 : Bool) (v2 : Nat → Int32) (hhe : he ≤ 60) (hen : en ≤ 60) (hc : zqs tx en he = 107) (hw : (decide (zdN tx en 2 (he + 1) = 0)) = false) (hdo : zM G D vwCl (zT cy) l yX6_does wsX6_does { frames := 5, cells := 0, slots := 0, locals := 116 } [.ref x9, .int 107, .int (zdV tx en 2 (he + 1) 0), .int 0] [(x9, .inr (10, [.int 0, .int (nI ch), .int era, .int why, .int det, .int cau, .int (zI sv), .int (zI rj), .ref v9, .ref b9, .ref s9, .ref k9, .ref p9, .ref t9, .ref n9, .int (nI tn), .int (nI ((he + 1) + zdN tx en 2 (he + 1))), .int (nI en), .int (nI ln), .int (zI false), .int (zI true)])), (v9, .inl (cy 0, 188, .inl v))] (some (.int res2)) [(x9, .inr (10, [.int th2, .int (nI ch), .int era, .int why2, .int det2, .int cau2, .int (zI sv), .int (zI rj2), .ref v9, .ref b9, .ref s9, .ref k9, .ref p9, .ref t9, .ref n9, .int (nI tn), .int (nI ((he + 1) + zdN tx en 2 (he + 1))), .int (nI en), .int (nI ln), .int (zI false), .int (zI true)])), (v9, .inl (cy 0, 188, .inl v2))]) : zM G D vwCl (zT cy) l yX6_command wsX6_command rmX6_command_d107 [.ref x9] [(x9, .inr (10, [.int 0, .int (nI ch), .int era, .int why, .int det, .int cau, .int (zI sv), .int (zI rj), .ref v9, .ref b9, .ref s9, .ref k9, .ref p9, .ref t9, .ref n9, .int (nI tn), .int (nI he), .int (nI en), .int (nI ln), .int (zI iw), .int (zI true)])), (t9, .inl (cy 0, 60, .inl tx)), (v9, .inl (cy 0, 188, .inl v))] none [(x9, .inr (10, [.int th2, .int (nI ch), .int era, .int why2, .int det2, .int cau2, .int (zI sv), .int (zI rj2), .ref v9, .ref b9, .ref s9, .ref k9, .ref p9, .ref t9, .ref n9, .int (nI tn), .int (nI ((he + 1) + zdN tx en 2 (he + 1))), .int (nI en), .int (nI ln), .int (zI false), .int (zI true)])), (t9, .inl (cy 0, 60, .inl tx)), (v9, .inl (cy 0, 188, .inl v2))] := by
  refine zM_of (cc := cX6_command) (maxL := 5) (ret := none) (by decide) rfl (Nat.le_of_ble_eq_true rfl) ?_
  intro p e s m below meth c A Q hend hx hb hml hr hts hown hlk hG hK hP hD hA hS ls hl
  have hown : s.vm.findClass RX6 = some m.cls := hown
  have in_RX6 : ∀ w ∈ u_ws RX6 TX6 21, w ∈ wsX6_command := by decide +kernel
  have hl : lv_has ls 5 [(0, .ref x9)] := hl
  refine lv_aload_n hx hb dX6_command_0 rfl (lv_at hl 0 rfl) ?_
  refine zcV (As := []) (rest := []) [0, 1] 0 hg.1 ⟨hx, hb, hml, hown, hts⟩ (c_X6_sign hg l D cy x9 0 ch era why det cau sv rj v9 b9 s9 k9 p9 t9 n9 tn he en ln iw true tx (by first | assumption | omega) (by first | assumption | omega)) (cwV 0 hts gX6_command_X6_sign rfl rfl rfl (by decide +kernel) ⟨Nat.le_of_ble_eq_true rfl, Nat.le_of_ble_eq_true rfl⟩) hG hK hP hD hS hA rfl rfl rfl rfl rfl rfl hl.1 rfl (Nat.le_of_ble_eq_true rfl) dX6_command_1 ⟨Nat.zero_le _, Nat.zero_le _⟩ (fun H locs hP hD hS => ?_)
  have hP : va_P D vwCl [(x9, .inr (10, [.int 0, .int (nI ch), .int era, .int why, .int det, .int cau, .int (zI sv), .int (zI rj), .ref v9, .ref b9, .ref s9, .ref k9, .ref p9, .ref t9, .ref n9, .int (nI tn), .int (nI he), .int (nI en), .int (nI ln), .int (zI iw), .int (zI true)])), (t9, .inl (cy 0, 60, .inl tx)), (v9, .inl (cy 0, 188, .inl v))] H := hP
  have hD : va_D A [(x9, .inr (10, [.int 0, .int (nI ch), .int era, .int why, .int det, .int cau, .int (zI sv), .int (zI rj), .ref v9, .ref b9, .ref s9, .ref k9, .ref p9, .ref t9, .ref n9, .int (nI tn), .int (nI he), .int (nI en), .int (nI ln), .int (zI iw), .int (zI true)])), (t9, .inl (cy 0, 60, .inl tx)), (v9, .inl (cy 0, 188, .inl v))] := hD
  refine z_top (y := 107) (hc) ?_
  refine lv_istore_n (lv' := [(1, .int 107), (0, .ref x9)]) hx hb dX6_command_4 rfl hl (by decide) rfl (fun ls hl => ?_)
  refine lv_iconst (v := 0) hx hb dX6_command_5 (by decide) ?_
  refine lv_istore_n (lv' := [(2, .int 0), (1, .int 107), (0, .ref x9)]) hx hb dX6_command_6 rfl hl (by decide) rfl (fun ls hl => ?_)
  refine lv_iconst (v := 0) hx hb dX6_command_7 (by decide) ?_
  refine lv_istore_n (lv' := [(3, .int 0), (2, .int 0), (1, .int 107), (0, .ref x9)]) hx hb dX6_command_8 rfl hl (by decide) rfl (fun ls hl => ?_)
  refine lv_aload_n hx hb dX6_command_9 rfl (lv_at hl 3 rfl) ?_
  refine lv_iload_n hx hb dX6_command_10 rfl (lv_at hl 2 rfl) ?_
  refine zcS (As := [.int 107]) (rest := [.ref x9]) [] hg.1 ⟨hx, hb, hml, hown, hts⟩ (c_X6_isNumbered hg l D cy 107) (va_cwS 1 hts gX6_command_X6_isNumbered rfl rfl rfl (by decide +kernel) ⟨Nat.le_of_ble_eq_true rfl, Nat.le_of_ble_eq_true rfl⟩) hG hK hP hD hS hA rfl rfl rfl  rfl hl.1 rfl (Nat.le_of_ble_eq_true rfl) dX6_command_11 ⟨Nat.zero_le _, Nat.zero_le _⟩ (fun H locs hP hD hS => ?_)
  have hP : va_P D vwCl [(x9, .inr (10, [.int 0, .int (nI ch), .int era, .int why, .int det, .int cau, .int (zI sv), .int (zI rj), .ref v9, .ref b9, .ref s9, .ref k9, .ref p9, .ref t9, .ref n9, .int (nI tn), .int (nI he), .int (nI en), .int (nI ln), .int (zI iw), .int (zI true)])), (t9, .inl (cy 0, 60, .inl tx)), (v9, .inl (cy 0, 188, .inl v))] H := hP
  have hD : va_D A [(x9, .inr (10, [.int 0, .int (nI ch), .int era, .int why, .int det, .int cau, .int (zI sv), .int (zI rj), .ref v9, .ref b9, .ref s9, .ref k9, .ref p9, .ref t9, .ref n9, .int (nI tn), .int (nI he), .int (nI en), .int (nI ln), .int (zI iw), .int (zI true)])), (t9, .inl (cy 0, 60, .inl tx)), (v9, .inl (cy 0, 188, .inl v))] := hD
  refine z_top (y := zI true) (rfl) ?_
  refine lv_if_ne (tgt := 46) hx hb dX6_command_14 (by decide) (fun c_1 => ?_) (fun c_1 => ?_)
  · replace c_1 := zI1 c_1
    refine lv_iconst (v := 0) hx hb dX6_command_46 (by decide) ?_
    refine z_top (y := zI false) rfl ?_
    refine va_put (D := D) (ci := 10) (v := .int (zI false)) (ty := .boolean) (C := RX6) (T := TX6) (N := 21) hx hb hts in_RX6 tyX6 tyX6_ok nmX6 hown hK hP hD hS 0 rfl rfl 19 (by decide) (hts _ (List.mem_of_getElem? (i := 1) rfl)) (fun _ h9 => h9) rfl (by decide +kernel) (zI_nar _) (zI_fit _) (Nat.le_of_ble_eq_true rfl) dX6_command_47 (fun H locs hP hD hS => ?_)
    have hP : va_P D vwCl [(x9, .inr (10, [.int 0, .int (nI ch), .int era, .int why, .int det, .int cau, .int (zI sv), .int (zI rj), .ref v9, .ref b9, .ref s9, .ref k9, .ref p9, .ref t9, .ref n9, .int (nI tn), .int (nI he), .int (nI en), .int (nI ln), .int (zI false), .int (zI true)])), (t9, .inl (cy 0, 60, .inl tx)), (v9, .inl (cy 0, 188, .inl v))] H := hP
    have hD : va_D A [(x9, .inr (10, [.int 0, .int (nI ch), .int era, .int why, .int det, .int cau, .int (zI sv), .int (zI rj), .ref v9, .ref b9, .ref s9, .ref k9, .ref p9, .ref t9, .ref n9, .int (nI tn), .int (nI he), .int (nI en), .int (nI ln), .int (zI false), .int (zI true)])), (t9, .inl (cy 0, 60, .inl tx)), (v9, .inl (cy 0, 188, .inl v))] := hD
    refine lv_aload_n hx hb dX6_command_50 rfl (lv_at hl 3 rfl) ?_
    refine va_get (D := D) (ci := 10) (v := .int (zI false)) (C := RX6) (T := TX6) (N := 21) hx hb hts in_RX6 hown hK hP 0 rfl rfl 19 (by decide) (hts _ (List.mem_of_getElem? (i := 1) rfl)) (fun _ h9 => h9) rfl dX6_command_51 ?_
    refine lv_if_eq (tgt := 58) hx hb dX6_command_54 (by decide) (fun c_2 => ?_) (fun c_2 => ?_)
    · replace c_2 := zI0 c_2
      refine lv_aload_n hx hb dX6_command_58 rfl (lv_at hl 3 rfl) ?_
      refine lv_dup hx hb dX6_command_59 rfl ?_
      refine va_get (D := D) (ci := 10) (v := .int (nI he)) (C := RX6) (T := TX6) (N := 21) hx hb hts in_RX6 hown hK hP 0 rfl rfl 16 (by decide) (hts _ (List.mem_of_getElem? (i := 2) rfl)) (fun _ h9 => h9) rfl dX6_command_60 ?_
      refine lv_iconst (v := 1) hx hb dX6_command_63 (by decide) ?_
      refine lv_iadd hx hb dX6_command_64 ?_
      refine z_top (y := nI (he + 1)) (nI_add he 1) ?_
      refine va_put (D := D) (ci := 10) (v := .int (nI (he + 1))) (ty := .int) (C := RX6) (T := TX6) (N := 21) hx hb hts in_RX6 tyX6 tyX6_ok nmX6 hown hK hP hD hS 0 rfl rfl 16 (by decide) (hts _ (List.mem_of_getElem? (i := 2) rfl)) (fun _ h9 => h9) rfl (by decide +kernel) rfl rfl (Nat.le_of_ble_eq_true rfl) dX6_command_65 (fun H locs hP hD hS => ?_)
      have hP : va_P D vwCl [(x9, .inr (10, [.int 0, .int (nI ch), .int era, .int why, .int det, .int cau, .int (zI sv), .int (zI rj), .ref v9, .ref b9, .ref s9, .ref k9, .ref p9, .ref t9, .ref n9, .int (nI tn), .int (nI (he + 1)), .int (nI en), .int (nI ln), .int (zI false), .int (zI true)])), (t9, .inl (cy 0, 60, .inl tx)), (v9, .inl (cy 0, 188, .inl v))] H := hP
      have hD : va_D A [(x9, .inr (10, [.int 0, .int (nI ch), .int era, .int why, .int det, .int cau, .int (zI sv), .int (zI rj), .ref v9, .ref b9, .ref s9, .ref k9, .ref p9, .ref t9, .ref n9, .int (nI tn), .int (nI (he + 1)), .int (nI en), .int (nI ln), .int (zI false), .int (zI true)])), (t9, .inl (cy 0, 60, .inl tx)), (v9, .inl (cy 0, 188, .inl v))] := hD
      refine lv_iload_n hx hb dX6_command_68 rfl (lv_at hl 2 rfl) ?_
      refine zcS (As := [.int 107]) (rest := []) [] hg.1 ⟨hx, hb, hml, hown, hts⟩ (c_X6_isNumbered hg l D cy 107) (va_cwS 1 hts gX6_command_X6_isNumbered rfl rfl rfl (by decide +kernel) ⟨Nat.le_of_ble_eq_true rfl, Nat.le_of_ble_eq_true rfl⟩) hG hK hP hD hS hA rfl rfl rfl  rfl hl.1 rfl (Nat.le_of_ble_eq_true rfl) dX6_command_69 ⟨Nat.zero_le _, Nat.zero_le _⟩ (fun H locs hP hD hS => ?_)
      have hP : va_P D vwCl [(x9, .inr (10, [.int 0, .int (nI ch), .int era, .int why, .int det, .int cau, .int (zI sv), .int (zI rj), .ref v9, .ref b9, .ref s9, .ref k9, .ref p9, .ref t9, .ref n9, .int (nI tn), .int (nI (he + 1)), .int (nI en), .int (nI ln), .int (zI false), .int (zI true)])), (t9, .inl (cy 0, 60, .inl tx)), (v9, .inl (cy 0, 188, .inl v))] H := hP
      have hD : va_D A [(x9, .inr (10, [.int 0, .int (nI ch), .int era, .int why, .int det, .int cau, .int (zI sv), .int (zI rj), .ref v9, .ref b9, .ref s9, .ref k9, .ref p9, .ref t9, .ref n9, .int (nI tn), .int (nI (he + 1)), .int (nI en), .int (nI ln), .int (zI false), .int (zI true)])), (t9, .inl (cy 0, 60, .inl tx)), (v9, .inl (cy 0, 188, .inl v))] := hD
      refine z_top (y := zI true) (rfl) ?_
      refine lv_if_eq (tgt := 81) hx hb dX6_command_72 (by decide) (fun c_3 => ?_) (fun c_3 => ?_)
      · replace c_3 := zI0 c_3
        exact absurd c_3 (by decide)
      · replace c_3 := zI1 c_3
        refine lv_aload_n hx hb dX6_command_75 rfl (lv_at hl 3 rfl) ?_
        refine lv_iconst (v := 2) hx hb dX6_command_76 (by decide) ?_
        refine z_top (y := nI 2) (rfl) ?_
        refine zcV (As := [.int (nI 2)]) (rest := []) [0, 1] 0 hg.1 ⟨hx, hb, hml, hown, hts⟩ (c_X6_digits hg l D cy x9 0 ch era why det cau sv rj v9 b9 s9 k9 p9 t9 n9 tn (he + 1) en ln true tx 2 (by first | assumption | omega) (by first | assumption | omega) (by first | assumption | omega) (by first | assumption | omega)) (cwV 1 hts gX6_command_X6_digits rfl rfl rfl (by decide +kernel) ⟨Nat.le_of_ble_eq_true rfl, Nat.le_of_ble_eq_true rfl⟩) hG hK hP hD hS hA rfl rfl (Eq.trans (b := [x9, t9]) rfl rfl) rfl rfl rfl hl.1 rfl (Nat.le_of_ble_eq_true rfl) dX6_command_77 ⟨Nat.zero_le _, Nat.zero_le _⟩ (fun H locs hP hD hS => ?_)
        have hP : va_P D vwCl [(x9, .inr (10, [.int 0, .int (nI ch), .int era, .int why, .int det, .int cau, .int (zI sv), .int (zI rj), .ref v9, .ref b9, .ref s9, .ref k9, .ref p9, .ref t9, .ref n9, .int (nI tn), .int (nI ((he + 1) + zdN tx en 2 (he + 1))), .int (nI en), .int (nI ln), .int (zI (decide (zdN tx en 2 (he + 1) = 0))), .int (zI true)])), (t9, .inl (cy 0, 60, .inl tx)), (v9, .inl (cy 0, 188, .inl v))] H := hP
        have hD : va_D A [(x9, .inr (10, [.int 0, .int (nI ch), .int era, .int why, .int det, .int cau, .int (zI sv), .int (zI rj), .ref v9, .ref b9, .ref s9, .ref k9, .ref p9, .ref t9, .ref n9, .int (nI tn), .int (nI ((he + 1) + zdN tx en 2 (he + 1))), .int (nI en), .int (nI ln), .int (zI (decide (zdN tx en 2 (he + 1) = 0))), .int (zI true)])), (t9, .inl (cy 0, 60, .inl tx)), (v9, .inl (cy 0, 188, .inl v))] := hD
        refine lv_istore_n (lv' := [(2, .int (zdV tx en 2 (he + 1) 0)), (3, .int 0), (1, .int 107), (0, .ref x9)]) hx hb dX6_command_80 rfl hl (by decide) rfl (fun ls hl => ?_)
        refine lv_iload_n hx hb dX6_command_81 rfl (lv_at hl 2 rfl) ?_
        refine zcS (As := [.int 107]) (rest := []) [] hg.1 ⟨hx, hb, hml, hown, hts⟩ (c_X6_isDigit hg l D cy 107) (va_cwS 1 hts gX6_command_X6_isDigit rfl rfl rfl (by decide +kernel) ⟨Nat.le_of_ble_eq_true rfl, Nat.le_of_ble_eq_true rfl⟩) hG hK hP hD hS hA rfl rfl rfl  rfl hl.1 rfl (Nat.le_of_ble_eq_true rfl) dX6_command_82 ⟨Nat.zero_le _, Nat.zero_le _⟩ (fun H locs hP hD hS => ?_)
        have hP : va_P D vwCl [(x9, .inr (10, [.int 0, .int (nI ch), .int era, .int why, .int det, .int cau, .int (zI sv), .int (zI rj), .ref v9, .ref b9, .ref s9, .ref k9, .ref p9, .ref t9, .ref n9, .int (nI tn), .int (nI ((he + 1) + zdN tx en 2 (he + 1))), .int (nI en), .int (nI ln), .int (zI (decide (zdN tx en 2 (he + 1) = 0))), .int (zI true)])), (t9, .inl (cy 0, 60, .inl tx)), (v9, .inl (cy 0, 188, .inl v))] H := hP
        have hD : va_D A [(x9, .inr (10, [.int 0, .int (nI ch), .int era, .int why, .int det, .int cau, .int (zI sv), .int (zI rj), .ref v9, .ref b9, .ref s9, .ref k9, .ref p9, .ref t9, .ref n9, .int (nI tn), .int (nI ((he + 1) + zdN tx en 2 (he + 1))), .int (nI en), .int (nI ln), .int (zI (decide (zdN tx en 2 (he + 1) = 0))), .int (zI true)])), (t9, .inl (cy 0, 60, .inl tx)), (v9, .inl (cy 0, 188, .inl v))] := hD
        refine z_top (y := zI false) (rfl) ?_
        refine lv_if_eq (tgt := 94) hx hb dX6_command_85 (by decide) (fun c_4 => ?_) (fun c_4 => ?_)
        · replace c_4 := zI0 c_4
          refine lv_iload_n hx hb dX6_command_94 rfl (lv_at hl 2 rfl) ?_
          refine lv_bipush (v := 112) hx hb dX6_command_95 (by decide) ?_
          refine lv_icmp_ne (tgt := 105) hx hb dX6_command_97 (by decide) (fun c_5 => ?_) (fun c_5 => ?_)
          · refine lv_iload_n hx hb dX6_command_105 rfl (lv_at hl 2 rfl) ?_
            refine lv_bipush (v := 99) hx hb dX6_command_106 (by decide) ?_
            refine lv_icmp_ne (tgt := 118) hx hb dX6_command_108 (by decide) (fun c_6 => ?_) (fun c_6 => ?_)
            · refine lv_iload_n hx hb dX6_command_118 rfl (lv_at hl 2 rfl) ?_
              refine lv_bipush (v := 121) hx hb dX6_command_119 (by decide) ?_
              refine lv_icmp_ne (tgt := 131) hx hb dX6_command_121 (by decide) (fun c_7 => ?_) (fun c_7 => ?_)
              · refine lv_aload_n hx hb dX6_command_131 rfl (lv_at hl 3 rfl) ?_
                refine va_get (D := D) (ci := 10) (v := .int (zI (decide (zdN tx en 2 (he + 1) = 0)))) (C := RX6) (T := TX6) (N := 21) hx hb hts in_RX6 hown hK hP 0 rfl rfl 19 (by decide) (hts _ (List.mem_of_getElem? (i := 1) rfl)) (fun _ h9 => h9) rfl dX6_command_132 ?_
                refine lv_if_ne (tgt := 145) hx hb dX6_command_135 (by decide) (fun c_8 => ?_) (fun c_8 => ?_)
                · replace c_8 := zI1 c_8
                  exact absurd (hw.symm.trans c_8) (by decide)
                · replace c_8 := zI0 c_8
                  have er_9 : decide (zdN tx en 2 (he + 1) = 0) = false := c_8
                  rw [er_9] at hP hD
                  refine lv_aload_n hx hb dX6_command_138 rfl (lv_at hl 3 rfl) ?_
                  refine va_get (D := D) (ci := 10) (v := .int (zI true)) (C := RX6) (T := TX6) (N := 21) hx hb hts in_RX6 hown hK hP 0 rfl rfl 20 (by decide) (hts _ (List.mem_of_getElem? (i := 3) rfl)) (fun _ h9 => h9) rfl dX6_command_139 ?_
                  refine lv_if_ne (tgt := 146) hx hb dX6_command_142 (by decide) (fun c_10 => ?_) (fun c_10 => ?_)
                  · replace c_10 := zI1 c_10
                    refine lv_aload_n hx hb dX6_command_146 rfl (lv_at hl 3 rfl) ?_
                    refine lv_iload_n hx hb dX6_command_147 rfl (lv_at hl 2 rfl) ?_
                    refine lv_iload_n hx hb dX6_command_148 rfl (lv_at hl 0 rfl) ?_
                    refine lv_iload_n hx hb dX6_command_149 rfl (lv_at hl 1 rfl) ?_
                    refine zcV (As := [.int 107, .int (zdV tx en 2 (he + 1) 0), .int 0]) (rest := []) [0, 2] 0 hg.1 ⟨hx, hb, hml, hown, hts⟩ hdo (cwV 3 hts gX6_command_X6_does rfl rfl rfl (by decide +kernel) ⟨Nat.le_of_ble_eq_true rfl, Nat.le_of_ble_eq_true rfl⟩) hG hK hP hD hS hA rfl rfl (Eq.trans (b := [x9, v9]) rfl rfl) rfl rfl rfl hl.1 rfl (Nat.le_of_ble_eq_true rfl) dX6_command_150 ⟨Nat.zero_le _, Nat.zero_le _⟩ (fun H locs hP hD hS => ?_)
                    have hP : va_P D vwCl [(x9, .inr (10, [.int th2, .int (nI ch), .int era, .int why2, .int det2, .int cau2, .int (zI sv), .int (zI rj2), .ref v9, .ref b9, .ref s9, .ref k9, .ref p9, .ref t9, .ref n9, .int (nI tn), .int (nI ((he + 1) + zdN tx en 2 (he + 1))), .int (nI en), .int (nI ln), .int (zI false), .int (zI true)])), (t9, .inl (cy 0, 60, .inl tx)), (v9, .inl (cy 0, 188, .inl v2))] H := hP
                    have hD : va_D A [(x9, .inr (10, [.int th2, .int (nI ch), .int era, .int why2, .int det2, .int cau2, .int (zI sv), .int (zI rj2), .ref v9, .ref b9, .ref s9, .ref k9, .ref p9, .ref t9, .ref n9, .int (nI tn), .int (nI ((he + 1) + zdN tx en 2 (he + 1))), .int (nI en), .int (nI ln), .int (zI false), .int (zI true)])), (t9, .inl (cy 0, 60, .inl tx)), (v9, .inl (cy 0, 188, .inl v2))] := hD
                    refine lv_istore (lv' := [(4, .int res2), (2, .int (zdV tx en 2 (he + 1) 0)), (3, .int 0), (1, .int 107), (0, .ref x9)]) hx hb dX6_command_153 hl (by decide) rfl (fun ls hl => ?_)
                    exact zvret hend hx hb hr hlk hK hP hD hS dX6_command_155 rfl
                  · replace c_10 := zI0 c_10
                    exact absurd c_10 (by decide)
              · exact absurd c_7 (by decide)
            · exact absurd c_6 (by decide)
          · exact absurd c_5 (by decide)
        · replace c_4 := zI1 c_4
          exact absurd c_4 (by decide)
    · replace c_2 := zI1 c_2
      exact absurd c_2 (by decide)
  · replace c_1 := zI0 c_1
    exact absurd c_1 (by decide)

abbrev rmX6_command_d121 : Room := { frames := 6, cells := 0, slots := 0, locals := 139 }
set_option maxHeartbeats 4000000 in
set_option maxRecDepth 100000 in
theorem c_X6_command_d121 {G : zG} (hg : zGN G) (l : Launch) (D : va_G) (cy : Nat → ClassId) (x9 : Nat) (ch : Nat) (era : Int32) (why : Int32) (det : Int32) (cau : Int32) (sv : Bool) (rj : Bool) (v9 : Nat) (b9 : Nat) (s9 : Nat) (k9 : Nat) (p9 : Nat) (t9 : Nat) (n9 : Nat) (tn : Nat) (he : Nat) (en : Nat) (ln : Nat) (iw : Bool) (tx : Nat → Int32) (v : Nat → Int32) (res2 : Int32) (th2 : Int32) (why2 : Int32) (det2 : Int32) (cau2 : Int32) (rj2 : Bool) (v2 : Nat → Int32) (hhe : he ≤ 60) (hen : en ≤ 60) (hc : zqs tx en he = 121) (hw : (zbW tx en ((he + 1) + zdN tx en 1 (he + 1)) (decide (zdN tx en 1 (he + 1) = 0)) 61) = false) (hdo : zM G D vwCl (zT cy) l yX6_does wsX6_does { frames := 5, cells := 0, slots := 0, locals := 116 } [.ref x9, .int 121, .int (zdV tx en 1 (he + 1) 0), .int (zbV tx en ((he + 1) + zdN tx en 1 (he + 1)) (decide (zdN tx en 1 (he + 1) = 0)) 61)] [(x9, .inr (10, [.int 0, .int (nI ch), .int era, .int why, .int det, .int cau, .int (zI sv), .int (zI rj), .ref v9, .ref b9, .ref s9, .ref k9, .ref p9, .ref t9, .ref n9, .int (nI tn), .int (nI (zbH tx en ((he + 1) + zdN tx en 1 (he + 1)) (decide (zdN tx en 1 (he + 1) = 0)) 61)), .int (nI en), .int (nI ln), .int (zI false), .int (zI true)])), (v9, .inl (cy 0, 188, .inl v))] (some (.int res2)) [(x9, .inr (10, [.int th2, .int (nI ch), .int era, .int why2, .int det2, .int cau2, .int (zI sv), .int (zI rj2), .ref v9, .ref b9, .ref s9, .ref k9, .ref p9, .ref t9, .ref n9, .int (nI tn), .int (nI (zbH tx en ((he + 1) + zdN tx en 1 (he + 1)) (decide (zdN tx en 1 (he + 1) = 0)) 61)), .int (nI en), .int (nI ln), .int (zI false), .int (zI true)])), (v9, .inl (cy 0, 188, .inl v2))]) : zM G D vwCl (zT cy) l yX6_command wsX6_command rmX6_command_d121 [.ref x9] [(x9, .inr (10, [.int 0, .int (nI ch), .int era, .int why, .int det, .int cau, .int (zI sv), .int (zI rj), .ref v9, .ref b9, .ref s9, .ref k9, .ref p9, .ref t9, .ref n9, .int (nI tn), .int (nI he), .int (nI en), .int (nI ln), .int (zI iw), .int (zI true)])), (t9, .inl (cy 0, 60, .inl tx)), (v9, .inl (cy 0, 188, .inl v))] none [(x9, .inr (10, [.int th2, .int (nI ch), .int era, .int why2, .int det2, .int cau2, .int (zI sv), .int (zI rj2), .ref v9, .ref b9, .ref s9, .ref k9, .ref p9, .ref t9, .ref n9, .int (nI tn), .int (nI (zbH tx en ((he + 1) + zdN tx en 1 (he + 1)) (decide (zdN tx en 1 (he + 1) = 0)) 61)), .int (nI en), .int (nI ln), .int (zI false), .int (zI true)])), (t9, .inl (cy 0, 60, .inl tx)), (v9, .inl (cy 0, 188, .inl v2))] := by
  refine zM_of (cc := cX6_command) (maxL := 5) (ret := none) (by decide) rfl (Nat.le_of_ble_eq_true rfl) ?_
  intro p e s m below meth c A Q hend hx hb hml hr hts hown hlk hG hK hP hD hA hS ls hl
  have hown : s.vm.findClass RX6 = some m.cls := hown
  have in_RX6 : ∀ w ∈ u_ws RX6 TX6 21, w ∈ wsX6_command := by decide +kernel
  have hl : lv_has ls 5 [(0, .ref x9)] := hl
  refine lv_aload_n hx hb dX6_command_0 rfl (lv_at hl 0 rfl) ?_
  refine zcV (As := []) (rest := []) [0, 1] 0 hg.1 ⟨hx, hb, hml, hown, hts⟩ (c_X6_sign hg l D cy x9 0 ch era why det cau sv rj v9 b9 s9 k9 p9 t9 n9 tn he en ln iw true tx (by first | assumption | omega) (by first | assumption | omega)) (cwV 0 hts gX6_command_X6_sign rfl rfl rfl (by decide +kernel) ⟨Nat.le_of_ble_eq_true rfl, Nat.le_of_ble_eq_true rfl⟩) hG hK hP hD hS hA rfl rfl rfl rfl rfl rfl hl.1 rfl (Nat.le_of_ble_eq_true rfl) dX6_command_1 ⟨Nat.zero_le _, Nat.zero_le _⟩ (fun H locs hP hD hS => ?_)
  have hP : va_P D vwCl [(x9, .inr (10, [.int 0, .int (nI ch), .int era, .int why, .int det, .int cau, .int (zI sv), .int (zI rj), .ref v9, .ref b9, .ref s9, .ref k9, .ref p9, .ref t9, .ref n9, .int (nI tn), .int (nI he), .int (nI en), .int (nI ln), .int (zI iw), .int (zI true)])), (t9, .inl (cy 0, 60, .inl tx)), (v9, .inl (cy 0, 188, .inl v))] H := hP
  have hD : va_D A [(x9, .inr (10, [.int 0, .int (nI ch), .int era, .int why, .int det, .int cau, .int (zI sv), .int (zI rj), .ref v9, .ref b9, .ref s9, .ref k9, .ref p9, .ref t9, .ref n9, .int (nI tn), .int (nI he), .int (nI en), .int (nI ln), .int (zI iw), .int (zI true)])), (t9, .inl (cy 0, 60, .inl tx)), (v9, .inl (cy 0, 188, .inl v))] := hD
  refine z_top (y := 121) (hc) ?_
  refine lv_istore_n (lv' := [(1, .int 121), (0, .ref x9)]) hx hb dX6_command_4 rfl hl (by decide) rfl (fun ls hl => ?_)
  refine lv_iconst (v := 0) hx hb dX6_command_5 (by decide) ?_
  refine lv_istore_n (lv' := [(2, .int 0), (1, .int 121), (0, .ref x9)]) hx hb dX6_command_6 rfl hl (by decide) rfl (fun ls hl => ?_)
  refine lv_iconst (v := 0) hx hb dX6_command_7 (by decide) ?_
  refine lv_istore_n (lv' := [(3, .int 0), (2, .int 0), (1, .int 121), (0, .ref x9)]) hx hb dX6_command_8 rfl hl (by decide) rfl (fun ls hl => ?_)
  refine lv_aload_n hx hb dX6_command_9 rfl (lv_at hl 3 rfl) ?_
  refine lv_iload_n hx hb dX6_command_10 rfl (lv_at hl 2 rfl) ?_
  refine zcS (As := [.int 121]) (rest := [.ref x9]) [] hg.1 ⟨hx, hb, hml, hown, hts⟩ (c_X6_isNumbered hg l D cy 121) (va_cwS 1 hts gX6_command_X6_isNumbered rfl rfl rfl (by decide +kernel) ⟨Nat.le_of_ble_eq_true rfl, Nat.le_of_ble_eq_true rfl⟩) hG hK hP hD hS hA rfl rfl rfl  rfl hl.1 rfl (Nat.le_of_ble_eq_true rfl) dX6_command_11 ⟨Nat.zero_le _, Nat.zero_le _⟩ (fun H locs hP hD hS => ?_)
  have hP : va_P D vwCl [(x9, .inr (10, [.int 0, .int (nI ch), .int era, .int why, .int det, .int cau, .int (zI sv), .int (zI rj), .ref v9, .ref b9, .ref s9, .ref k9, .ref p9, .ref t9, .ref n9, .int (nI tn), .int (nI he), .int (nI en), .int (nI ln), .int (zI iw), .int (zI true)])), (t9, .inl (cy 0, 60, .inl tx)), (v9, .inl (cy 0, 188, .inl v))] H := hP
  have hD : va_D A [(x9, .inr (10, [.int 0, .int (nI ch), .int era, .int why, .int det, .int cau, .int (zI sv), .int (zI rj), .ref v9, .ref b9, .ref s9, .ref k9, .ref p9, .ref t9, .ref n9, .int (nI tn), .int (nI he), .int (nI en), .int (nI ln), .int (zI iw), .int (zI true)])), (t9, .inl (cy 0, 60, .inl tx)), (v9, .inl (cy 0, 188, .inl v))] := hD
  refine z_top (y := zI false) (rfl) ?_
  refine lv_if_ne (tgt := 46) hx hb dX6_command_14 (by decide) (fun c_1 => ?_) (fun c_1 => ?_)
  · replace c_1 := zI1 c_1
    exact absurd c_1 (by decide)
  · replace c_1 := zI0 c_1
    refine lv_iload_n hx hb dX6_command_17 rfl (lv_at hl 2 rfl) ?_
    refine zcS (As := [.int 121]) (rest := [.ref x9]) [] hg.1 ⟨hx, hb, hml, hown, hts⟩ (c_X6_isDigit hg l D cy 121) (va_cwS 1 hts gX6_command_X6_isDigit rfl rfl rfl (by decide +kernel) ⟨Nat.le_of_ble_eq_true rfl, Nat.le_of_ble_eq_true rfl⟩) hG hK hP hD hS hA rfl rfl rfl  rfl hl.1 rfl (Nat.le_of_ble_eq_true rfl) dX6_command_18 ⟨Nat.zero_le _, Nat.zero_le _⟩ (fun H locs hP hD hS => ?_)
    have hP : va_P D vwCl [(x9, .inr (10, [.int 0, .int (nI ch), .int era, .int why, .int det, .int cau, .int (zI sv), .int (zI rj), .ref v9, .ref b9, .ref s9, .ref k9, .ref p9, .ref t9, .ref n9, .int (nI tn), .int (nI he), .int (nI en), .int (nI ln), .int (zI iw), .int (zI true)])), (t9, .inl (cy 0, 60, .inl tx)), (v9, .inl (cy 0, 188, .inl v))] H := hP
    have hD : va_D A [(x9, .inr (10, [.int 0, .int (nI ch), .int era, .int why, .int det, .int cau, .int (zI sv), .int (zI rj), .ref v9, .ref b9, .ref s9, .ref k9, .ref p9, .ref t9, .ref n9, .int (nI tn), .int (nI he), .int (nI en), .int (nI ln), .int (zI iw), .int (zI true)])), (t9, .inl (cy 0, 60, .inl tx)), (v9, .inl (cy 0, 188, .inl v))] := hD
    refine z_top (y := zI true) (rfl) ?_
    refine lv_if_ne (tgt := 46) hx hb dX6_command_21 (by decide) (fun c_2 => ?_) (fun c_2 => ?_)
    · replace c_2 := zI1 c_2
      refine lv_iconst (v := 0) hx hb dX6_command_46 (by decide) ?_
      refine z_top (y := zI false) rfl ?_
      refine va_put (D := D) (ci := 10) (v := .int (zI false)) (ty := .boolean) (C := RX6) (T := TX6) (N := 21) hx hb hts in_RX6 tyX6 tyX6_ok nmX6 hown hK hP hD hS 0 rfl rfl 19 (by decide) (hts _ (List.mem_of_getElem? (i := 1) rfl)) (fun _ h9 => h9) rfl (by decide +kernel) (zI_nar _) (zI_fit _) (Nat.le_of_ble_eq_true rfl) dX6_command_47 (fun H locs hP hD hS => ?_)
      have hP : va_P D vwCl [(x9, .inr (10, [.int 0, .int (nI ch), .int era, .int why, .int det, .int cau, .int (zI sv), .int (zI rj), .ref v9, .ref b9, .ref s9, .ref k9, .ref p9, .ref t9, .ref n9, .int (nI tn), .int (nI he), .int (nI en), .int (nI ln), .int (zI false), .int (zI true)])), (t9, .inl (cy 0, 60, .inl tx)), (v9, .inl (cy 0, 188, .inl v))] H := hP
      have hD : va_D A [(x9, .inr (10, [.int 0, .int (nI ch), .int era, .int why, .int det, .int cau, .int (zI sv), .int (zI rj), .ref v9, .ref b9, .ref s9, .ref k9, .ref p9, .ref t9, .ref n9, .int (nI tn), .int (nI he), .int (nI en), .int (nI ln), .int (zI false), .int (zI true)])), (t9, .inl (cy 0, 60, .inl tx)), (v9, .inl (cy 0, 188, .inl v))] := hD
      refine lv_aload_n hx hb dX6_command_50 rfl (lv_at hl 3 rfl) ?_
      refine va_get (D := D) (ci := 10) (v := .int (zI false)) (C := RX6) (T := TX6) (N := 21) hx hb hts in_RX6 hown hK hP 0 rfl rfl 19 (by decide) (hts _ (List.mem_of_getElem? (i := 1) rfl)) (fun _ h9 => h9) rfl dX6_command_51 ?_
      refine lv_if_eq (tgt := 58) hx hb dX6_command_54 (by decide) (fun c_3 => ?_) (fun c_3 => ?_)
      · replace c_3 := zI0 c_3
        refine lv_aload_n hx hb dX6_command_58 rfl (lv_at hl 3 rfl) ?_
        refine lv_dup hx hb dX6_command_59 rfl ?_
        refine va_get (D := D) (ci := 10) (v := .int (nI he)) (C := RX6) (T := TX6) (N := 21) hx hb hts in_RX6 hown hK hP 0 rfl rfl 16 (by decide) (hts _ (List.mem_of_getElem? (i := 2) rfl)) (fun _ h9 => h9) rfl dX6_command_60 ?_
        refine lv_iconst (v := 1) hx hb dX6_command_63 (by decide) ?_
        refine lv_iadd hx hb dX6_command_64 ?_
        refine z_top (y := nI (he + 1)) (nI_add he 1) ?_
        refine va_put (D := D) (ci := 10) (v := .int (nI (he + 1))) (ty := .int) (C := RX6) (T := TX6) (N := 21) hx hb hts in_RX6 tyX6 tyX6_ok nmX6 hown hK hP hD hS 0 rfl rfl 16 (by decide) (hts _ (List.mem_of_getElem? (i := 2) rfl)) (fun _ h9 => h9) rfl (by decide +kernel) rfl rfl (Nat.le_of_ble_eq_true rfl) dX6_command_65 (fun H locs hP hD hS => ?_)
        have hP : va_P D vwCl [(x9, .inr (10, [.int 0, .int (nI ch), .int era, .int why, .int det, .int cau, .int (zI sv), .int (zI rj), .ref v9, .ref b9, .ref s9, .ref k9, .ref p9, .ref t9, .ref n9, .int (nI tn), .int (nI (he + 1)), .int (nI en), .int (nI ln), .int (zI false), .int (zI true)])), (t9, .inl (cy 0, 60, .inl tx)), (v9, .inl (cy 0, 188, .inl v))] H := hP
        have hD : va_D A [(x9, .inr (10, [.int 0, .int (nI ch), .int era, .int why, .int det, .int cau, .int (zI sv), .int (zI rj), .ref v9, .ref b9, .ref s9, .ref k9, .ref p9, .ref t9, .ref n9, .int (nI tn), .int (nI (he + 1)), .int (nI en), .int (nI ln), .int (zI false), .int (zI true)])), (t9, .inl (cy 0, 60, .inl tx)), (v9, .inl (cy 0, 188, .inl v))] := hD
        refine lv_iload_n hx hb dX6_command_68 rfl (lv_at hl 2 rfl) ?_
        refine zcS (As := [.int 121]) (rest := []) [] hg.1 ⟨hx, hb, hml, hown, hts⟩ (c_X6_isNumbered hg l D cy 121) (va_cwS 1 hts gX6_command_X6_isNumbered rfl rfl rfl (by decide +kernel) ⟨Nat.le_of_ble_eq_true rfl, Nat.le_of_ble_eq_true rfl⟩) hG hK hP hD hS hA rfl rfl rfl  rfl hl.1 rfl (Nat.le_of_ble_eq_true rfl) dX6_command_69 ⟨Nat.zero_le _, Nat.zero_le _⟩ (fun H locs hP hD hS => ?_)
        have hP : va_P D vwCl [(x9, .inr (10, [.int 0, .int (nI ch), .int era, .int why, .int det, .int cau, .int (zI sv), .int (zI rj), .ref v9, .ref b9, .ref s9, .ref k9, .ref p9, .ref t9, .ref n9, .int (nI tn), .int (nI (he + 1)), .int (nI en), .int (nI ln), .int (zI false), .int (zI true)])), (t9, .inl (cy 0, 60, .inl tx)), (v9, .inl (cy 0, 188, .inl v))] H := hP
        have hD : va_D A [(x9, .inr (10, [.int 0, .int (nI ch), .int era, .int why, .int det, .int cau, .int (zI sv), .int (zI rj), .ref v9, .ref b9, .ref s9, .ref k9, .ref p9, .ref t9, .ref n9, .int (nI tn), .int (nI (he + 1)), .int (nI en), .int (nI ln), .int (zI false), .int (zI true)])), (t9, .inl (cy 0, 60, .inl tx)), (v9, .inl (cy 0, 188, .inl v))] := hD
        refine z_top (y := zI false) (rfl) ?_
        refine lv_if_eq (tgt := 81) hx hb dX6_command_72 (by decide) (fun c_4 => ?_) (fun c_4 => ?_)
        · replace c_4 := zI0 c_4
          refine lv_iload_n hx hb dX6_command_81 rfl (lv_at hl 2 rfl) ?_
          refine zcS (As := [.int 121]) (rest := []) [] hg.1 ⟨hx, hb, hml, hown, hts⟩ (c_X6_isDigit hg l D cy 121) (va_cwS 1 hts gX6_command_X6_isDigit rfl rfl rfl (by decide +kernel) ⟨Nat.le_of_ble_eq_true rfl, Nat.le_of_ble_eq_true rfl⟩) hG hK hP hD hS hA rfl rfl rfl  rfl hl.1 rfl (Nat.le_of_ble_eq_true rfl) dX6_command_82 ⟨Nat.zero_le _, Nat.zero_le _⟩ (fun H locs hP hD hS => ?_)
          have hP : va_P D vwCl [(x9, .inr (10, [.int 0, .int (nI ch), .int era, .int why, .int det, .int cau, .int (zI sv), .int (zI rj), .ref v9, .ref b9, .ref s9, .ref k9, .ref p9, .ref t9, .ref n9, .int (nI tn), .int (nI (he + 1)), .int (nI en), .int (nI ln), .int (zI false), .int (zI true)])), (t9, .inl (cy 0, 60, .inl tx)), (v9, .inl (cy 0, 188, .inl v))] H := hP
          have hD : va_D A [(x9, .inr (10, [.int 0, .int (nI ch), .int era, .int why, .int det, .int cau, .int (zI sv), .int (zI rj), .ref v9, .ref b9, .ref s9, .ref k9, .ref p9, .ref t9, .ref n9, .int (nI tn), .int (nI (he + 1)), .int (nI en), .int (nI ln), .int (zI false), .int (zI true)])), (t9, .inl (cy 0, 60, .inl tx)), (v9, .inl (cy 0, 188, .inl v))] := hD
          refine z_top (y := zI true) (rfl) ?_
          refine lv_if_eq (tgt := 94) hx hb dX6_command_85 (by decide) (fun c_5 => ?_) (fun c_5 => ?_)
          · replace c_5 := zI0 c_5
            exact absurd c_5 (by decide)
          · replace c_5 := zI1 c_5
            refine lv_aload_n hx hb dX6_command_88 rfl (lv_at hl 3 rfl) ?_
            refine lv_iconst (v := 1) hx hb dX6_command_89 (by decide) ?_
            refine z_top (y := nI 1) (rfl) ?_
            refine zcV (As := [.int (nI 1)]) (rest := []) [0, 1] 0 hg.1 ⟨hx, hb, hml, hown, hts⟩ (c_X6_digits hg l D cy x9 0 ch era why det cau sv rj v9 b9 s9 k9 p9 t9 n9 tn (he + 1) en ln true tx 1 (by first | assumption | omega) (by first | assumption | omega) (by first | assumption | omega) (by first | assumption | omega)) (cwV 1 hts gX6_command_X6_digits rfl rfl rfl (by decide +kernel) ⟨Nat.le_of_ble_eq_true rfl, Nat.le_of_ble_eq_true rfl⟩) hG hK hP hD hS hA rfl rfl (Eq.trans (b := [x9, t9]) rfl rfl) rfl rfl rfl hl.1 rfl (Nat.le_of_ble_eq_true rfl) dX6_command_90 ⟨Nat.zero_le _, Nat.zero_le _⟩ (fun H locs hP hD hS => ?_)
            have hP : va_P D vwCl [(x9, .inr (10, [.int 0, .int (nI ch), .int era, .int why, .int det, .int cau, .int (zI sv), .int (zI rj), .ref v9, .ref b9, .ref s9, .ref k9, .ref p9, .ref t9, .ref n9, .int (nI tn), .int (nI ((he + 1) + zdN tx en 1 (he + 1))), .int (nI en), .int (nI ln), .int (zI (decide (zdN tx en 1 (he + 1) = 0))), .int (zI true)])), (t9, .inl (cy 0, 60, .inl tx)), (v9, .inl (cy 0, 188, .inl v))] H := hP
            have hD : va_D A [(x9, .inr (10, [.int 0, .int (nI ch), .int era, .int why, .int det, .int cau, .int (zI sv), .int (zI rj), .ref v9, .ref b9, .ref s9, .ref k9, .ref p9, .ref t9, .ref n9, .int (nI tn), .int (nI ((he + 1) + zdN tx en 1 (he + 1))), .int (nI en), .int (nI ln), .int (zI (decide (zdN tx en 1 (he + 1) = 0))), .int (zI true)])), (t9, .inl (cy 0, 60, .inl tx)), (v9, .inl (cy 0, 188, .inl v))] := hD
            refine lv_istore_n (lv' := [(2, .int (zdV tx en 1 (he + 1) 0)), (3, .int 0), (1, .int 121), (0, .ref x9)]) hx hb dX6_command_93 rfl hl (by decide) rfl (fun ls hl => ?_)
            refine lv_iload_n hx hb dX6_command_94 rfl (lv_at hl 2 rfl) ?_
            refine lv_bipush (v := 112) hx hb dX6_command_95 (by decide) ?_
            refine lv_icmp_ne (tgt := 105) hx hb dX6_command_97 (by decide) (fun c_6 => ?_) (fun c_6 => ?_)
            · refine lv_iload_n hx hb dX6_command_105 rfl (lv_at hl 2 rfl) ?_
              refine lv_bipush (v := 99) hx hb dX6_command_106 (by decide) ?_
              refine lv_icmp_ne (tgt := 118) hx hb dX6_command_108 (by decide) (fun c_7 => ?_) (fun c_7 => ?_)
              · refine lv_iload_n hx hb dX6_command_118 rfl (lv_at hl 2 rfl) ?_
                refine lv_bipush (v := 121) hx hb dX6_command_119 (by decide) ?_
                refine lv_icmp_ne (tgt := 131) hx hb dX6_command_121 (by decide) (fun c_8 => ?_) (fun c_8 => ?_)
                · exact absurd c_8 (by decide)
                · refine lv_aload_n hx hb dX6_command_124 rfl (lv_at hl 3 rfl) ?_
                  refine lv_bipush (v := 61) hx hb dX6_command_125 (by decide) ?_
                  refine zcV (As := [.int 61]) (rest := []) [0, 1] 0 hg.1 ⟨hx, hb, hml, hown, hts⟩ (c_X6_behind hg l D cy x9 0 ch era why det cau sv rj v9 b9 s9 k9 p9 t9 n9 tn ((he + 1) + zdN tx en 1 (he + 1)) en ln (decide (zdN tx en 1 (he + 1) = 0)) true tx 61 (by have := zdN_le tx en 1 (he + 1); omega) (by first | assumption | omega) (by have := zdN_le tx en 1 (he + 1); omega)) (cwV 1 hts gX6_command_X6_behind rfl rfl rfl (by decide +kernel) ⟨Nat.le_of_ble_eq_true rfl, Nat.le_of_ble_eq_true rfl⟩) hG hK hP hD hS hA rfl rfl (Eq.trans (b := [x9, t9]) rfl rfl) rfl rfl rfl hl.1 rfl (Nat.le_of_ble_eq_true rfl) dX6_command_127 ⟨Nat.zero_le _, Nat.zero_le _⟩ (fun H locs hP hD hS => ?_)
                  have hP : va_P D vwCl [(x9, .inr (10, [.int 0, .int (nI ch), .int era, .int why, .int det, .int cau, .int (zI sv), .int (zI rj), .ref v9, .ref b9, .ref s9, .ref k9, .ref p9, .ref t9, .ref n9, .int (nI tn), .int (nI (zbH tx en ((he + 1) + zdN tx en 1 (he + 1)) (decide (zdN tx en 1 (he + 1) = 0)) 61)), .int (nI en), .int (nI ln), .int (zI (zbW tx en ((he + 1) + zdN tx en 1 (he + 1)) (decide (zdN tx en 1 (he + 1) = 0)) 61)), .int (zI true)])), (t9, .inl (cy 0, 60, .inl tx)), (v9, .inl (cy 0, 188, .inl v))] H := hP
                  have hD : va_D A [(x9, .inr (10, [.int 0, .int (nI ch), .int era, .int why, .int det, .int cau, .int (zI sv), .int (zI rj), .ref v9, .ref b9, .ref s9, .ref k9, .ref p9, .ref t9, .ref n9, .int (nI tn), .int (nI (zbH tx en ((he + 1) + zdN tx en 1 (he + 1)) (decide (zdN tx en 1 (he + 1) = 0)) 61)), .int (nI en), .int (nI ln), .int (zI (zbW tx en ((he + 1) + zdN tx en 1 (he + 1)) (decide (zdN tx en 1 (he + 1) = 0)) 61)), .int (zI true)])), (t9, .inl (cy 0, 60, .inl tx)), (v9, .inl (cy 0, 188, .inl v))] := hD
                  refine lv_istore_n (lv' := [(3, .int (zbV tx en ((he + 1) + zdN tx en 1 (he + 1)) (decide (zdN tx en 1 (he + 1) = 0)) 61)), (2, .int (zdV tx en 1 (he + 1) 0)), (1, .int 121), (0, .ref x9)]) hx hb dX6_command_130 rfl hl (by decide) rfl (fun ls hl => ?_)
                  refine lv_aload_n hx hb dX6_command_131 rfl (lv_at hl 3 rfl) ?_
                  refine va_get (D := D) (ci := 10) (v := .int (zI (zbW tx en ((he + 1) + zdN tx en 1 (he + 1)) (decide (zdN tx en 1 (he + 1) = 0)) 61))) (C := RX6) (T := TX6) (N := 21) hx hb hts in_RX6 hown hK hP 0 rfl rfl 19 (by decide) (hts _ (List.mem_of_getElem? (i := 1) rfl)) (fun _ h9 => h9) rfl dX6_command_132 ?_
                  refine lv_if_ne (tgt := 145) hx hb dX6_command_135 (by decide) (fun c_9 => ?_) (fun c_9 => ?_)
                  · replace c_9 := zI1 c_9
                    exact absurd (hw.symm.trans c_9) (by decide)
                  · replace c_9 := zI0 c_9
                    have er_10 : zbW tx en ((he + 1) + zdN tx en 1 (he + 1)) (decide (zdN tx en 1 (he + 1) = 0)) 61 = false := c_9
                    rw [er_10] at hP hD
                    refine lv_aload_n hx hb dX6_command_138 rfl (lv_at hl 3 rfl) ?_
                    refine va_get (D := D) (ci := 10) (v := .int (zI true)) (C := RX6) (T := TX6) (N := 21) hx hb hts in_RX6 hown hK hP 0 rfl rfl 20 (by decide) (hts _ (List.mem_of_getElem? (i := 3) rfl)) (fun _ h9 => h9) rfl dX6_command_139 ?_
                    refine lv_if_ne (tgt := 146) hx hb dX6_command_142 (by decide) (fun c_11 => ?_) (fun c_11 => ?_)
                    · replace c_11 := zI1 c_11
                      refine lv_aload_n hx hb dX6_command_146 rfl (lv_at hl 3 rfl) ?_
                      refine lv_iload_n hx hb dX6_command_147 rfl (lv_at hl 2 rfl) ?_
                      refine lv_iload_n hx hb dX6_command_148 rfl (lv_at hl 1 rfl) ?_
                      refine lv_iload_n hx hb dX6_command_149 rfl (lv_at hl 0 rfl) ?_
                      refine zcV (As := [.int 121, .int (zdV tx en 1 (he + 1) 0), .int (zbV tx en ((he + 1) + zdN tx en 1 (he + 1)) (decide (zdN tx en 1 (he + 1) = 0)) 61)]) (rest := []) [0, 2] 0 hg.1 ⟨hx, hb, hml, hown, hts⟩ hdo (cwV 3 hts gX6_command_X6_does rfl rfl rfl (by decide +kernel) ⟨Nat.le_of_ble_eq_true rfl, Nat.le_of_ble_eq_true rfl⟩) hG hK hP hD hS hA rfl rfl (Eq.trans (b := [x9, v9]) rfl rfl) rfl rfl rfl hl.1 rfl (Nat.le_of_ble_eq_true rfl) dX6_command_150 ⟨Nat.zero_le _, Nat.zero_le _⟩ (fun H locs hP hD hS => ?_)
                      have hP : va_P D vwCl [(x9, .inr (10, [.int th2, .int (nI ch), .int era, .int why2, .int det2, .int cau2, .int (zI sv), .int (zI rj2), .ref v9, .ref b9, .ref s9, .ref k9, .ref p9, .ref t9, .ref n9, .int (nI tn), .int (nI (zbH tx en ((he + 1) + zdN tx en 1 (he + 1)) (decide (zdN tx en 1 (he + 1) = 0)) 61)), .int (nI en), .int (nI ln), .int (zI false), .int (zI true)])), (t9, .inl (cy 0, 60, .inl tx)), (v9, .inl (cy 0, 188, .inl v2))] H := hP
                      have hD : va_D A [(x9, .inr (10, [.int th2, .int (nI ch), .int era, .int why2, .int det2, .int cau2, .int (zI sv), .int (zI rj2), .ref v9, .ref b9, .ref s9, .ref k9, .ref p9, .ref t9, .ref n9, .int (nI tn), .int (nI (zbH tx en ((he + 1) + zdN tx en 1 (he + 1)) (decide (zdN tx en 1 (he + 1) = 0)) 61)), .int (nI en), .int (nI ln), .int (zI false), .int (zI true)])), (t9, .inl (cy 0, 60, .inl tx)), (v9, .inl (cy 0, 188, .inl v2))] := hD
                      refine lv_istore (lv' := [(4, .int res2), (3, .int (zbV tx en ((he + 1) + zdN tx en 1 (he + 1)) (decide (zdN tx en 1 (he + 1) = 0)) 61)), (2, .int (zdV tx en 1 (he + 1) 0)), (1, .int 121), (0, .ref x9)]) hx hb dX6_command_153 hl (by decide) rfl (fun ls hl => ?_)
                      exact zvret hend hx hb hr hlk hK hP hD hS dX6_command_155 rfl
                    · replace c_11 := zI0 c_11
                      exact absurd c_11 (by decide)
              · exact absurd c_7 (by decide)
            · exact absurd c_6 (by decide)
        · replace c_4 := zI1 c_4
          exact absurd c_4 (by decide)
      · replace c_3 := zI1 c_3
        exact absurd c_3 (by decide)
    · replace c_2 := zI0 c_2
      exact absurd c_2 (by decide)

abbrev rmX6_command_d102 : Room := { frames := 6, cells := 0, slots := 0, locals := 139 }
set_option maxHeartbeats 4000000 in
set_option maxRecDepth 100000 in
theorem c_X6_command_d102 {G : zG} (hg : zGN G) (l : Launch) (D : va_G) (cy : Nat → ClassId) (x9 : Nat) (ch : Nat) (era : Int32) (why : Int32) (det : Int32) (cau : Int32) (sv : Bool) (rj : Bool) (v9 : Nat) (b9 : Nat) (s9 : Nat) (k9 : Nat) (p9 : Nat) (t9 : Nat) (n9 : Nat) (tn : Nat) (he : Nat) (en : Nat) (ln : Nat) (iw : Bool) (tx : Nat → Int32) (v : Nat → Int32) (res2 : Int32) (th2 : Int32) (why2 : Int32) (det2 : Int32) (cau2 : Int32) (rj2 : Bool) (v2 : Nat → Int32) (hhe : he ≤ 60) (hen : en ≤ 60) (hc : zqs tx en he = 102) (hw : (decide (zdN tx en 1 (he + 1) = 0)) = false) (hdo : zM G D vwCl (zT cy) l yX6_does wsX6_does { frames := 5, cells := 0, slots := 0, locals := 116 } [.ref x9, .int 102, .int (zdV tx en 1 (he + 1) 0), .int 0] [(x9, .inr (10, [.int 0, .int (nI ch), .int era, .int why, .int det, .int cau, .int (zI sv), .int (zI rj), .ref v9, .ref b9, .ref s9, .ref k9, .ref p9, .ref t9, .ref n9, .int (nI tn), .int (nI ((he + 1) + zdN tx en 1 (he + 1))), .int (nI en), .int (nI ln), .int (zI false), .int (zI true)])), (v9, .inl (cy 0, 188, .inl v))] (some (.int res2)) [(x9, .inr (10, [.int th2, .int (nI ch), .int era, .int why2, .int det2, .int cau2, .int (zI sv), .int (zI rj2), .ref v9, .ref b9, .ref s9, .ref k9, .ref p9, .ref t9, .ref n9, .int (nI tn), .int (nI ((he + 1) + zdN tx en 1 (he + 1))), .int (nI en), .int (nI ln), .int (zI false), .int (zI true)])), (v9, .inl (cy 0, 188, .inl v2))]) : zM G D vwCl (zT cy) l yX6_command wsX6_command rmX6_command_d102 [.ref x9] [(x9, .inr (10, [.int 0, .int (nI ch), .int era, .int why, .int det, .int cau, .int (zI sv), .int (zI rj), .ref v9, .ref b9, .ref s9, .ref k9, .ref p9, .ref t9, .ref n9, .int (nI tn), .int (nI he), .int (nI en), .int (nI ln), .int (zI iw), .int (zI true)])), (t9, .inl (cy 0, 60, .inl tx)), (v9, .inl (cy 0, 188, .inl v))] none [(x9, .inr (10, [.int th2, .int (nI ch), .int era, .int why2, .int det2, .int cau2, .int (zI sv), .int (zI rj2), .ref v9, .ref b9, .ref s9, .ref k9, .ref p9, .ref t9, .ref n9, .int (nI tn), .int (nI ((he + 1) + zdN tx en 1 (he + 1))), .int (nI en), .int (nI ln), .int (zI false), .int (zI true)])), (t9, .inl (cy 0, 60, .inl tx)), (v9, .inl (cy 0, 188, .inl v2))] := by
  refine zM_of (cc := cX6_command) (maxL := 5) (ret := none) (by decide) rfl (Nat.le_of_ble_eq_true rfl) ?_
  intro p e s m below meth c A Q hend hx hb hml hr hts hown hlk hG hK hP hD hA hS ls hl
  have hown : s.vm.findClass RX6 = some m.cls := hown
  have in_RX6 : ∀ w ∈ u_ws RX6 TX6 21, w ∈ wsX6_command := by decide +kernel
  have hl : lv_has ls 5 [(0, .ref x9)] := hl
  refine lv_aload_n hx hb dX6_command_0 rfl (lv_at hl 0 rfl) ?_
  refine zcV (As := []) (rest := []) [0, 1] 0 hg.1 ⟨hx, hb, hml, hown, hts⟩ (c_X6_sign hg l D cy x9 0 ch era why det cau sv rj v9 b9 s9 k9 p9 t9 n9 tn he en ln iw true tx (by first | assumption | omega) (by first | assumption | omega)) (cwV 0 hts gX6_command_X6_sign rfl rfl rfl (by decide +kernel) ⟨Nat.le_of_ble_eq_true rfl, Nat.le_of_ble_eq_true rfl⟩) hG hK hP hD hS hA rfl rfl rfl rfl rfl rfl hl.1 rfl (Nat.le_of_ble_eq_true rfl) dX6_command_1 ⟨Nat.zero_le _, Nat.zero_le _⟩ (fun H locs hP hD hS => ?_)
  have hP : va_P D vwCl [(x9, .inr (10, [.int 0, .int (nI ch), .int era, .int why, .int det, .int cau, .int (zI sv), .int (zI rj), .ref v9, .ref b9, .ref s9, .ref k9, .ref p9, .ref t9, .ref n9, .int (nI tn), .int (nI he), .int (nI en), .int (nI ln), .int (zI iw), .int (zI true)])), (t9, .inl (cy 0, 60, .inl tx)), (v9, .inl (cy 0, 188, .inl v))] H := hP
  have hD : va_D A [(x9, .inr (10, [.int 0, .int (nI ch), .int era, .int why, .int det, .int cau, .int (zI sv), .int (zI rj), .ref v9, .ref b9, .ref s9, .ref k9, .ref p9, .ref t9, .ref n9, .int (nI tn), .int (nI he), .int (nI en), .int (nI ln), .int (zI iw), .int (zI true)])), (t9, .inl (cy 0, 60, .inl tx)), (v9, .inl (cy 0, 188, .inl v))] := hD
  refine z_top (y := 102) (hc) ?_
  refine lv_istore_n (lv' := [(1, .int 102), (0, .ref x9)]) hx hb dX6_command_4 rfl hl (by decide) rfl (fun ls hl => ?_)
  refine lv_iconst (v := 0) hx hb dX6_command_5 (by decide) ?_
  refine lv_istore_n (lv' := [(2, .int 0), (1, .int 102), (0, .ref x9)]) hx hb dX6_command_6 rfl hl (by decide) rfl (fun ls hl => ?_)
  refine lv_iconst (v := 0) hx hb dX6_command_7 (by decide) ?_
  refine lv_istore_n (lv' := [(3, .int 0), (2, .int 0), (1, .int 102), (0, .ref x9)]) hx hb dX6_command_8 rfl hl (by decide) rfl (fun ls hl => ?_)
  refine lv_aload_n hx hb dX6_command_9 rfl (lv_at hl 3 rfl) ?_
  refine lv_iload_n hx hb dX6_command_10 rfl (lv_at hl 2 rfl) ?_
  refine zcS (As := [.int 102]) (rest := [.ref x9]) [] hg.1 ⟨hx, hb, hml, hown, hts⟩ (c_X6_isNumbered hg l D cy 102) (va_cwS 1 hts gX6_command_X6_isNumbered rfl rfl rfl (by decide +kernel) ⟨Nat.le_of_ble_eq_true rfl, Nat.le_of_ble_eq_true rfl⟩) hG hK hP hD hS hA rfl rfl rfl  rfl hl.1 rfl (Nat.le_of_ble_eq_true rfl) dX6_command_11 ⟨Nat.zero_le _, Nat.zero_le _⟩ (fun H locs hP hD hS => ?_)
  have hP : va_P D vwCl [(x9, .inr (10, [.int 0, .int (nI ch), .int era, .int why, .int det, .int cau, .int (zI sv), .int (zI rj), .ref v9, .ref b9, .ref s9, .ref k9, .ref p9, .ref t9, .ref n9, .int (nI tn), .int (nI he), .int (nI en), .int (nI ln), .int (zI iw), .int (zI true)])), (t9, .inl (cy 0, 60, .inl tx)), (v9, .inl (cy 0, 188, .inl v))] H := hP
  have hD : va_D A [(x9, .inr (10, [.int 0, .int (nI ch), .int era, .int why, .int det, .int cau, .int (zI sv), .int (zI rj), .ref v9, .ref b9, .ref s9, .ref k9, .ref p9, .ref t9, .ref n9, .int (nI tn), .int (nI he), .int (nI en), .int (nI ln), .int (zI iw), .int (zI true)])), (t9, .inl (cy 0, 60, .inl tx)), (v9, .inl (cy 0, 188, .inl v))] := hD
  refine z_top (y := zI false) (rfl) ?_
  refine lv_if_ne (tgt := 46) hx hb dX6_command_14 (by decide) (fun c_1 => ?_) (fun c_1 => ?_)
  · replace c_1 := zI1 c_1
    exact absurd c_1 (by decide)
  · replace c_1 := zI0 c_1
    refine lv_iload_n hx hb dX6_command_17 rfl (lv_at hl 2 rfl) ?_
    refine zcS (As := [.int 102]) (rest := [.ref x9]) [] hg.1 ⟨hx, hb, hml, hown, hts⟩ (c_X6_isDigit hg l D cy 102) (va_cwS 1 hts gX6_command_X6_isDigit rfl rfl rfl (by decide +kernel) ⟨Nat.le_of_ble_eq_true rfl, Nat.le_of_ble_eq_true rfl⟩) hG hK hP hD hS hA rfl rfl rfl  rfl hl.1 rfl (Nat.le_of_ble_eq_true rfl) dX6_command_18 ⟨Nat.zero_le _, Nat.zero_le _⟩ (fun H locs hP hD hS => ?_)
    have hP : va_P D vwCl [(x9, .inr (10, [.int 0, .int (nI ch), .int era, .int why, .int det, .int cau, .int (zI sv), .int (zI rj), .ref v9, .ref b9, .ref s9, .ref k9, .ref p9, .ref t9, .ref n9, .int (nI tn), .int (nI he), .int (nI en), .int (nI ln), .int (zI iw), .int (zI true)])), (t9, .inl (cy 0, 60, .inl tx)), (v9, .inl (cy 0, 188, .inl v))] H := hP
    have hD : va_D A [(x9, .inr (10, [.int 0, .int (nI ch), .int era, .int why, .int det, .int cau, .int (zI sv), .int (zI rj), .ref v9, .ref b9, .ref s9, .ref k9, .ref p9, .ref t9, .ref n9, .int (nI tn), .int (nI he), .int (nI en), .int (nI ln), .int (zI iw), .int (zI true)])), (t9, .inl (cy 0, 60, .inl tx)), (v9, .inl (cy 0, 188, .inl v))] := hD
    refine z_top (y := zI true) (rfl) ?_
    refine lv_if_ne (tgt := 46) hx hb dX6_command_21 (by decide) (fun c_2 => ?_) (fun c_2 => ?_)
    · replace c_2 := zI1 c_2
      refine lv_iconst (v := 0) hx hb dX6_command_46 (by decide) ?_
      refine z_top (y := zI false) rfl ?_
      refine va_put (D := D) (ci := 10) (v := .int (zI false)) (ty := .boolean) (C := RX6) (T := TX6) (N := 21) hx hb hts in_RX6 tyX6 tyX6_ok nmX6 hown hK hP hD hS 0 rfl rfl 19 (by decide) (hts _ (List.mem_of_getElem? (i := 1) rfl)) (fun _ h9 => h9) rfl (by decide +kernel) (zI_nar _) (zI_fit _) (Nat.le_of_ble_eq_true rfl) dX6_command_47 (fun H locs hP hD hS => ?_)
      have hP : va_P D vwCl [(x9, .inr (10, [.int 0, .int (nI ch), .int era, .int why, .int det, .int cau, .int (zI sv), .int (zI rj), .ref v9, .ref b9, .ref s9, .ref k9, .ref p9, .ref t9, .ref n9, .int (nI tn), .int (nI he), .int (nI en), .int (nI ln), .int (zI false), .int (zI true)])), (t9, .inl (cy 0, 60, .inl tx)), (v9, .inl (cy 0, 188, .inl v))] H := hP
      have hD : va_D A [(x9, .inr (10, [.int 0, .int (nI ch), .int era, .int why, .int det, .int cau, .int (zI sv), .int (zI rj), .ref v9, .ref b9, .ref s9, .ref k9, .ref p9, .ref t9, .ref n9, .int (nI tn), .int (nI he), .int (nI en), .int (nI ln), .int (zI false), .int (zI true)])), (t9, .inl (cy 0, 60, .inl tx)), (v9, .inl (cy 0, 188, .inl v))] := hD
      refine lv_aload_n hx hb dX6_command_50 rfl (lv_at hl 3 rfl) ?_
      refine va_get (D := D) (ci := 10) (v := .int (zI false)) (C := RX6) (T := TX6) (N := 21) hx hb hts in_RX6 hown hK hP 0 rfl rfl 19 (by decide) (hts _ (List.mem_of_getElem? (i := 1) rfl)) (fun _ h9 => h9) rfl dX6_command_51 ?_
      refine lv_if_eq (tgt := 58) hx hb dX6_command_54 (by decide) (fun c_3 => ?_) (fun c_3 => ?_)
      · replace c_3 := zI0 c_3
        refine lv_aload_n hx hb dX6_command_58 rfl (lv_at hl 3 rfl) ?_
        refine lv_dup hx hb dX6_command_59 rfl ?_
        refine va_get (D := D) (ci := 10) (v := .int (nI he)) (C := RX6) (T := TX6) (N := 21) hx hb hts in_RX6 hown hK hP 0 rfl rfl 16 (by decide) (hts _ (List.mem_of_getElem? (i := 2) rfl)) (fun _ h9 => h9) rfl dX6_command_60 ?_
        refine lv_iconst (v := 1) hx hb dX6_command_63 (by decide) ?_
        refine lv_iadd hx hb dX6_command_64 ?_
        refine z_top (y := nI (he + 1)) (nI_add he 1) ?_
        refine va_put (D := D) (ci := 10) (v := .int (nI (he + 1))) (ty := .int) (C := RX6) (T := TX6) (N := 21) hx hb hts in_RX6 tyX6 tyX6_ok nmX6 hown hK hP hD hS 0 rfl rfl 16 (by decide) (hts _ (List.mem_of_getElem? (i := 2) rfl)) (fun _ h9 => h9) rfl (by decide +kernel) rfl rfl (Nat.le_of_ble_eq_true rfl) dX6_command_65 (fun H locs hP hD hS => ?_)
        have hP : va_P D vwCl [(x9, .inr (10, [.int 0, .int (nI ch), .int era, .int why, .int det, .int cau, .int (zI sv), .int (zI rj), .ref v9, .ref b9, .ref s9, .ref k9, .ref p9, .ref t9, .ref n9, .int (nI tn), .int (nI (he + 1)), .int (nI en), .int (nI ln), .int (zI false), .int (zI true)])), (t9, .inl (cy 0, 60, .inl tx)), (v9, .inl (cy 0, 188, .inl v))] H := hP
        have hD : va_D A [(x9, .inr (10, [.int 0, .int (nI ch), .int era, .int why, .int det, .int cau, .int (zI sv), .int (zI rj), .ref v9, .ref b9, .ref s9, .ref k9, .ref p9, .ref t9, .ref n9, .int (nI tn), .int (nI (he + 1)), .int (nI en), .int (nI ln), .int (zI false), .int (zI true)])), (t9, .inl (cy 0, 60, .inl tx)), (v9, .inl (cy 0, 188, .inl v))] := hD
        refine lv_iload_n hx hb dX6_command_68 rfl (lv_at hl 2 rfl) ?_
        refine zcS (As := [.int 102]) (rest := []) [] hg.1 ⟨hx, hb, hml, hown, hts⟩ (c_X6_isNumbered hg l D cy 102) (va_cwS 1 hts gX6_command_X6_isNumbered rfl rfl rfl (by decide +kernel) ⟨Nat.le_of_ble_eq_true rfl, Nat.le_of_ble_eq_true rfl⟩) hG hK hP hD hS hA rfl rfl rfl  rfl hl.1 rfl (Nat.le_of_ble_eq_true rfl) dX6_command_69 ⟨Nat.zero_le _, Nat.zero_le _⟩ (fun H locs hP hD hS => ?_)
        have hP : va_P D vwCl [(x9, .inr (10, [.int 0, .int (nI ch), .int era, .int why, .int det, .int cau, .int (zI sv), .int (zI rj), .ref v9, .ref b9, .ref s9, .ref k9, .ref p9, .ref t9, .ref n9, .int (nI tn), .int (nI (he + 1)), .int (nI en), .int (nI ln), .int (zI false), .int (zI true)])), (t9, .inl (cy 0, 60, .inl tx)), (v9, .inl (cy 0, 188, .inl v))] H := hP
        have hD : va_D A [(x9, .inr (10, [.int 0, .int (nI ch), .int era, .int why, .int det, .int cau, .int (zI sv), .int (zI rj), .ref v9, .ref b9, .ref s9, .ref k9, .ref p9, .ref t9, .ref n9, .int (nI tn), .int (nI (he + 1)), .int (nI en), .int (nI ln), .int (zI false), .int (zI true)])), (t9, .inl (cy 0, 60, .inl tx)), (v9, .inl (cy 0, 188, .inl v))] := hD
        refine z_top (y := zI false) (rfl) ?_
        refine lv_if_eq (tgt := 81) hx hb dX6_command_72 (by decide) (fun c_4 => ?_) (fun c_4 => ?_)
        · replace c_4 := zI0 c_4
          refine lv_iload_n hx hb dX6_command_81 rfl (lv_at hl 2 rfl) ?_
          refine zcS (As := [.int 102]) (rest := []) [] hg.1 ⟨hx, hb, hml, hown, hts⟩ (c_X6_isDigit hg l D cy 102) (va_cwS 1 hts gX6_command_X6_isDigit rfl rfl rfl (by decide +kernel) ⟨Nat.le_of_ble_eq_true rfl, Nat.le_of_ble_eq_true rfl⟩) hG hK hP hD hS hA rfl rfl rfl  rfl hl.1 rfl (Nat.le_of_ble_eq_true rfl) dX6_command_82 ⟨Nat.zero_le _, Nat.zero_le _⟩ (fun H locs hP hD hS => ?_)
          have hP : va_P D vwCl [(x9, .inr (10, [.int 0, .int (nI ch), .int era, .int why, .int det, .int cau, .int (zI sv), .int (zI rj), .ref v9, .ref b9, .ref s9, .ref k9, .ref p9, .ref t9, .ref n9, .int (nI tn), .int (nI (he + 1)), .int (nI en), .int (nI ln), .int (zI false), .int (zI true)])), (t9, .inl (cy 0, 60, .inl tx)), (v9, .inl (cy 0, 188, .inl v))] H := hP
          have hD : va_D A [(x9, .inr (10, [.int 0, .int (nI ch), .int era, .int why, .int det, .int cau, .int (zI sv), .int (zI rj), .ref v9, .ref b9, .ref s9, .ref k9, .ref p9, .ref t9, .ref n9, .int (nI tn), .int (nI (he + 1)), .int (nI en), .int (nI ln), .int (zI false), .int (zI true)])), (t9, .inl (cy 0, 60, .inl tx)), (v9, .inl (cy 0, 188, .inl v))] := hD
          refine z_top (y := zI true) (rfl) ?_
          refine lv_if_eq (tgt := 94) hx hb dX6_command_85 (by decide) (fun c_5 => ?_) (fun c_5 => ?_)
          · replace c_5 := zI0 c_5
            exact absurd c_5 (by decide)
          · replace c_5 := zI1 c_5
            refine lv_aload_n hx hb dX6_command_88 rfl (lv_at hl 3 rfl) ?_
            refine lv_iconst (v := 1) hx hb dX6_command_89 (by decide) ?_
            refine z_top (y := nI 1) (rfl) ?_
            refine zcV (As := [.int (nI 1)]) (rest := []) [0, 1] 0 hg.1 ⟨hx, hb, hml, hown, hts⟩ (c_X6_digits hg l D cy x9 0 ch era why det cau sv rj v9 b9 s9 k9 p9 t9 n9 tn (he + 1) en ln true tx 1 (by first | assumption | omega) (by first | assumption | omega) (by first | assumption | omega) (by first | assumption | omega)) (cwV 1 hts gX6_command_X6_digits rfl rfl rfl (by decide +kernel) ⟨Nat.le_of_ble_eq_true rfl, Nat.le_of_ble_eq_true rfl⟩) hG hK hP hD hS hA rfl rfl (Eq.trans (b := [x9, t9]) rfl rfl) rfl rfl rfl hl.1 rfl (Nat.le_of_ble_eq_true rfl) dX6_command_90 ⟨Nat.zero_le _, Nat.zero_le _⟩ (fun H locs hP hD hS => ?_)
            have hP : va_P D vwCl [(x9, .inr (10, [.int 0, .int (nI ch), .int era, .int why, .int det, .int cau, .int (zI sv), .int (zI rj), .ref v9, .ref b9, .ref s9, .ref k9, .ref p9, .ref t9, .ref n9, .int (nI tn), .int (nI ((he + 1) + zdN tx en 1 (he + 1))), .int (nI en), .int (nI ln), .int (zI (decide (zdN tx en 1 (he + 1) = 0))), .int (zI true)])), (t9, .inl (cy 0, 60, .inl tx)), (v9, .inl (cy 0, 188, .inl v))] H := hP
            have hD : va_D A [(x9, .inr (10, [.int 0, .int (nI ch), .int era, .int why, .int det, .int cau, .int (zI sv), .int (zI rj), .ref v9, .ref b9, .ref s9, .ref k9, .ref p9, .ref t9, .ref n9, .int (nI tn), .int (nI ((he + 1) + zdN tx en 1 (he + 1))), .int (nI en), .int (nI ln), .int (zI (decide (zdN tx en 1 (he + 1) = 0))), .int (zI true)])), (t9, .inl (cy 0, 60, .inl tx)), (v9, .inl (cy 0, 188, .inl v))] := hD
            refine lv_istore_n (lv' := [(2, .int (zdV tx en 1 (he + 1) 0)), (3, .int 0), (1, .int 102), (0, .ref x9)]) hx hb dX6_command_93 rfl hl (by decide) rfl (fun ls hl => ?_)
            refine lv_iload_n hx hb dX6_command_94 rfl (lv_at hl 2 rfl) ?_
            refine lv_bipush (v := 112) hx hb dX6_command_95 (by decide) ?_
            refine lv_icmp_ne (tgt := 105) hx hb dX6_command_97 (by decide) (fun c_6 => ?_) (fun c_6 => ?_)
            · refine lv_iload_n hx hb dX6_command_105 rfl (lv_at hl 2 rfl) ?_
              refine lv_bipush (v := 99) hx hb dX6_command_106 (by decide) ?_
              refine lv_icmp_ne (tgt := 118) hx hb dX6_command_108 (by decide) (fun c_7 => ?_) (fun c_7 => ?_)
              · refine lv_iload_n hx hb dX6_command_118 rfl (lv_at hl 2 rfl) ?_
                refine lv_bipush (v := 121) hx hb dX6_command_119 (by decide) ?_
                refine lv_icmp_ne (tgt := 131) hx hb dX6_command_121 (by decide) (fun c_8 => ?_) (fun c_8 => ?_)
                · refine lv_aload_n hx hb dX6_command_131 rfl (lv_at hl 3 rfl) ?_
                  refine va_get (D := D) (ci := 10) (v := .int (zI (decide (zdN tx en 1 (he + 1) = 0)))) (C := RX6) (T := TX6) (N := 21) hx hb hts in_RX6 hown hK hP 0 rfl rfl 19 (by decide) (hts _ (List.mem_of_getElem? (i := 1) rfl)) (fun _ h9 => h9) rfl dX6_command_132 ?_
                  refine lv_if_ne (tgt := 145) hx hb dX6_command_135 (by decide) (fun c_9 => ?_) (fun c_9 => ?_)
                  · replace c_9 := zI1 c_9
                    exact absurd (hw.symm.trans c_9) (by decide)
                  · replace c_9 := zI0 c_9
                    have er_10 : decide (zdN tx en 1 (he + 1) = 0) = false := c_9
                    rw [er_10] at hP hD
                    refine lv_aload_n hx hb dX6_command_138 rfl (lv_at hl 3 rfl) ?_
                    refine va_get (D := D) (ci := 10) (v := .int (zI true)) (C := RX6) (T := TX6) (N := 21) hx hb hts in_RX6 hown hK hP 0 rfl rfl 20 (by decide) (hts _ (List.mem_of_getElem? (i := 3) rfl)) (fun _ h9 => h9) rfl dX6_command_139 ?_
                    refine lv_if_ne (tgt := 146) hx hb dX6_command_142 (by decide) (fun c_11 => ?_) (fun c_11 => ?_)
                    · replace c_11 := zI1 c_11
                      refine lv_aload_n hx hb dX6_command_146 rfl (lv_at hl 3 rfl) ?_
                      refine lv_iload_n hx hb dX6_command_147 rfl (lv_at hl 2 rfl) ?_
                      refine lv_iload_n hx hb dX6_command_148 rfl (lv_at hl 0 rfl) ?_
                      refine lv_iload_n hx hb dX6_command_149 rfl (lv_at hl 1 rfl) ?_
                      refine zcV (As := [.int 102, .int (zdV tx en 1 (he + 1) 0), .int 0]) (rest := []) [0, 2] 0 hg.1 ⟨hx, hb, hml, hown, hts⟩ hdo (cwV 3 hts gX6_command_X6_does rfl rfl rfl (by decide +kernel) ⟨Nat.le_of_ble_eq_true rfl, Nat.le_of_ble_eq_true rfl⟩) hG hK hP hD hS hA rfl rfl (Eq.trans (b := [x9, v9]) rfl rfl) rfl rfl rfl hl.1 rfl (Nat.le_of_ble_eq_true rfl) dX6_command_150 ⟨Nat.zero_le _, Nat.zero_le _⟩ (fun H locs hP hD hS => ?_)
                      have hP : va_P D vwCl [(x9, .inr (10, [.int th2, .int (nI ch), .int era, .int why2, .int det2, .int cau2, .int (zI sv), .int (zI rj2), .ref v9, .ref b9, .ref s9, .ref k9, .ref p9, .ref t9, .ref n9, .int (nI tn), .int (nI ((he + 1) + zdN tx en 1 (he + 1))), .int (nI en), .int (nI ln), .int (zI false), .int (zI true)])), (t9, .inl (cy 0, 60, .inl tx)), (v9, .inl (cy 0, 188, .inl v2))] H := hP
                      have hD : va_D A [(x9, .inr (10, [.int th2, .int (nI ch), .int era, .int why2, .int det2, .int cau2, .int (zI sv), .int (zI rj2), .ref v9, .ref b9, .ref s9, .ref k9, .ref p9, .ref t9, .ref n9, .int (nI tn), .int (nI ((he + 1) + zdN tx en 1 (he + 1))), .int (nI en), .int (nI ln), .int (zI false), .int (zI true)])), (t9, .inl (cy 0, 60, .inl tx)), (v9, .inl (cy 0, 188, .inl v2))] := hD
                      refine lv_istore (lv' := [(4, .int res2), (2, .int (zdV tx en 1 (he + 1) 0)), (3, .int 0), (1, .int 102), (0, .ref x9)]) hx hb dX6_command_153 hl (by decide) rfl (fun ls hl => ?_)
                      exact zvret hend hx hb hr hlk hK hP hD hS dX6_command_155 rfl
                    · replace c_11 := zI0 c_11
                      exact absurd c_11 (by decide)
                · exact absurd c_8 (by decide)
              · exact absurd c_7 (by decide)
            · exact absurd c_6 (by decide)
        · replace c_4 := zI1 c_4
          exact absurd c_4 (by decide)
      · replace c_3 := zI1 c_3
        exact absurd c_3 (by decide)
    · replace c_2 := zI0 c_2
      exact absurd c_2 (by decide)

abbrev rmX6_command_d116 : Room := { frames := 6, cells := 0, slots := 0, locals := 139 }
set_option maxHeartbeats 4000000 in
set_option maxRecDepth 100000 in
theorem c_X6_command_d116 {G : zG} (hg : zGN G) (l : Launch) (D : va_G) (cy : Nat → ClassId) (x9 : Nat) (ch : Nat) (era : Int32) (why : Int32) (det : Int32) (cau : Int32) (sv : Bool) (rj : Bool) (v9 : Nat) (b9 : Nat) (s9 : Nat) (k9 : Nat) (p9 : Nat) (t9 : Nat) (n9 : Nat) (tn : Nat) (he : Nat) (en : Nat) (ln : Nat) (iw : Bool) (tx : Nat → Int32) (v : Nat → Int32) (res2 : Int32) (th2 : Int32) (why2 : Int32) (det2 : Int32) (cau2 : Int32) (rj2 : Bool) (v2 : Nat → Int32) (hhe : he ≤ 60) (hen : en ≤ 60) (hc : zqs tx en he = 116) (hw : (decide (zdN tx en 1 (he + 1) = 0)) = false) (hdo : zM G D vwCl (zT cy) l yX6_does wsX6_does { frames := 5, cells := 0, slots := 0, locals := 116 } [.ref x9, .int 116, .int (zdV tx en 1 (he + 1) 0), .int 0] [(x9, .inr (10, [.int 0, .int (nI ch), .int era, .int why, .int det, .int cau, .int (zI sv), .int (zI rj), .ref v9, .ref b9, .ref s9, .ref k9, .ref p9, .ref t9, .ref n9, .int (nI tn), .int (nI ((he + 1) + zdN tx en 1 (he + 1))), .int (nI en), .int (nI ln), .int (zI false), .int (zI true)])), (v9, .inl (cy 0, 188, .inl v))] (some (.int res2)) [(x9, .inr (10, [.int th2, .int (nI ch), .int era, .int why2, .int det2, .int cau2, .int (zI sv), .int (zI rj2), .ref v9, .ref b9, .ref s9, .ref k9, .ref p9, .ref t9, .ref n9, .int (nI tn), .int (nI ((he + 1) + zdN tx en 1 (he + 1))), .int (nI en), .int (nI ln), .int (zI false), .int (zI true)])), (v9, .inl (cy 0, 188, .inl v2))]) : zM G D vwCl (zT cy) l yX6_command wsX6_command rmX6_command_d116 [.ref x9] [(x9, .inr (10, [.int 0, .int (nI ch), .int era, .int why, .int det, .int cau, .int (zI sv), .int (zI rj), .ref v9, .ref b9, .ref s9, .ref k9, .ref p9, .ref t9, .ref n9, .int (nI tn), .int (nI he), .int (nI en), .int (nI ln), .int (zI iw), .int (zI true)])), (t9, .inl (cy 0, 60, .inl tx)), (v9, .inl (cy 0, 188, .inl v))] none [(x9, .inr (10, [.int th2, .int (nI ch), .int era, .int why2, .int det2, .int cau2, .int (zI sv), .int (zI rj2), .ref v9, .ref b9, .ref s9, .ref k9, .ref p9, .ref t9, .ref n9, .int (nI tn), .int (nI ((he + 1) + zdN tx en 1 (he + 1))), .int (nI en), .int (nI ln), .int (zI false), .int (zI true)])), (t9, .inl (cy 0, 60, .inl tx)), (v9, .inl (cy 0, 188, .inl v2))] := by
  refine zM_of (cc := cX6_command) (maxL := 5) (ret := none) (by decide) rfl (Nat.le_of_ble_eq_true rfl) ?_
  intro p e s m below meth c A Q hend hx hb hml hr hts hown hlk hG hK hP hD hA hS ls hl
  have hown : s.vm.findClass RX6 = some m.cls := hown
  have in_RX6 : ∀ w ∈ u_ws RX6 TX6 21, w ∈ wsX6_command := by decide +kernel
  have hl : lv_has ls 5 [(0, .ref x9)] := hl
  refine lv_aload_n hx hb dX6_command_0 rfl (lv_at hl 0 rfl) ?_
  refine zcV (As := []) (rest := []) [0, 1] 0 hg.1 ⟨hx, hb, hml, hown, hts⟩ (c_X6_sign hg l D cy x9 0 ch era why det cau sv rj v9 b9 s9 k9 p9 t9 n9 tn he en ln iw true tx (by first | assumption | omega) (by first | assumption | omega)) (cwV 0 hts gX6_command_X6_sign rfl rfl rfl (by decide +kernel) ⟨Nat.le_of_ble_eq_true rfl, Nat.le_of_ble_eq_true rfl⟩) hG hK hP hD hS hA rfl rfl rfl rfl rfl rfl hl.1 rfl (Nat.le_of_ble_eq_true rfl) dX6_command_1 ⟨Nat.zero_le _, Nat.zero_le _⟩ (fun H locs hP hD hS => ?_)
  have hP : va_P D vwCl [(x9, .inr (10, [.int 0, .int (nI ch), .int era, .int why, .int det, .int cau, .int (zI sv), .int (zI rj), .ref v9, .ref b9, .ref s9, .ref k9, .ref p9, .ref t9, .ref n9, .int (nI tn), .int (nI he), .int (nI en), .int (nI ln), .int (zI iw), .int (zI true)])), (t9, .inl (cy 0, 60, .inl tx)), (v9, .inl (cy 0, 188, .inl v))] H := hP
  have hD : va_D A [(x9, .inr (10, [.int 0, .int (nI ch), .int era, .int why, .int det, .int cau, .int (zI sv), .int (zI rj), .ref v9, .ref b9, .ref s9, .ref k9, .ref p9, .ref t9, .ref n9, .int (nI tn), .int (nI he), .int (nI en), .int (nI ln), .int (zI iw), .int (zI true)])), (t9, .inl (cy 0, 60, .inl tx)), (v9, .inl (cy 0, 188, .inl v))] := hD
  refine z_top (y := 116) (hc) ?_
  refine lv_istore_n (lv' := [(1, .int 116), (0, .ref x9)]) hx hb dX6_command_4 rfl hl (by decide) rfl (fun ls hl => ?_)
  refine lv_iconst (v := 0) hx hb dX6_command_5 (by decide) ?_
  refine lv_istore_n (lv' := [(2, .int 0), (1, .int 116), (0, .ref x9)]) hx hb dX6_command_6 rfl hl (by decide) rfl (fun ls hl => ?_)
  refine lv_iconst (v := 0) hx hb dX6_command_7 (by decide) ?_
  refine lv_istore_n (lv' := [(3, .int 0), (2, .int 0), (1, .int 116), (0, .ref x9)]) hx hb dX6_command_8 rfl hl (by decide) rfl (fun ls hl => ?_)
  refine lv_aload_n hx hb dX6_command_9 rfl (lv_at hl 3 rfl) ?_
  refine lv_iload_n hx hb dX6_command_10 rfl (lv_at hl 2 rfl) ?_
  refine zcS (As := [.int 116]) (rest := [.ref x9]) [] hg.1 ⟨hx, hb, hml, hown, hts⟩ (c_X6_isNumbered hg l D cy 116) (va_cwS 1 hts gX6_command_X6_isNumbered rfl rfl rfl (by decide +kernel) ⟨Nat.le_of_ble_eq_true rfl, Nat.le_of_ble_eq_true rfl⟩) hG hK hP hD hS hA rfl rfl rfl  rfl hl.1 rfl (Nat.le_of_ble_eq_true rfl) dX6_command_11 ⟨Nat.zero_le _, Nat.zero_le _⟩ (fun H locs hP hD hS => ?_)
  have hP : va_P D vwCl [(x9, .inr (10, [.int 0, .int (nI ch), .int era, .int why, .int det, .int cau, .int (zI sv), .int (zI rj), .ref v9, .ref b9, .ref s9, .ref k9, .ref p9, .ref t9, .ref n9, .int (nI tn), .int (nI he), .int (nI en), .int (nI ln), .int (zI iw), .int (zI true)])), (t9, .inl (cy 0, 60, .inl tx)), (v9, .inl (cy 0, 188, .inl v))] H := hP
  have hD : va_D A [(x9, .inr (10, [.int 0, .int (nI ch), .int era, .int why, .int det, .int cau, .int (zI sv), .int (zI rj), .ref v9, .ref b9, .ref s9, .ref k9, .ref p9, .ref t9, .ref n9, .int (nI tn), .int (nI he), .int (nI en), .int (nI ln), .int (zI iw), .int (zI true)])), (t9, .inl (cy 0, 60, .inl tx)), (v9, .inl (cy 0, 188, .inl v))] := hD
  refine z_top (y := zI false) (rfl) ?_
  refine lv_if_ne (tgt := 46) hx hb dX6_command_14 (by decide) (fun c_1 => ?_) (fun c_1 => ?_)
  · replace c_1 := zI1 c_1
    exact absurd c_1 (by decide)
  · replace c_1 := zI0 c_1
    refine lv_iload_n hx hb dX6_command_17 rfl (lv_at hl 2 rfl) ?_
    refine zcS (As := [.int 116]) (rest := [.ref x9]) [] hg.1 ⟨hx, hb, hml, hown, hts⟩ (c_X6_isDigit hg l D cy 116) (va_cwS 1 hts gX6_command_X6_isDigit rfl rfl rfl (by decide +kernel) ⟨Nat.le_of_ble_eq_true rfl, Nat.le_of_ble_eq_true rfl⟩) hG hK hP hD hS hA rfl rfl rfl  rfl hl.1 rfl (Nat.le_of_ble_eq_true rfl) dX6_command_18 ⟨Nat.zero_le _, Nat.zero_le _⟩ (fun H locs hP hD hS => ?_)
    have hP : va_P D vwCl [(x9, .inr (10, [.int 0, .int (nI ch), .int era, .int why, .int det, .int cau, .int (zI sv), .int (zI rj), .ref v9, .ref b9, .ref s9, .ref k9, .ref p9, .ref t9, .ref n9, .int (nI tn), .int (nI he), .int (nI en), .int (nI ln), .int (zI iw), .int (zI true)])), (t9, .inl (cy 0, 60, .inl tx)), (v9, .inl (cy 0, 188, .inl v))] H := hP
    have hD : va_D A [(x9, .inr (10, [.int 0, .int (nI ch), .int era, .int why, .int det, .int cau, .int (zI sv), .int (zI rj), .ref v9, .ref b9, .ref s9, .ref k9, .ref p9, .ref t9, .ref n9, .int (nI tn), .int (nI he), .int (nI en), .int (nI ln), .int (zI iw), .int (zI true)])), (t9, .inl (cy 0, 60, .inl tx)), (v9, .inl (cy 0, 188, .inl v))] := hD
    refine z_top (y := zI true) (rfl) ?_
    refine lv_if_ne (tgt := 46) hx hb dX6_command_21 (by decide) (fun c_2 => ?_) (fun c_2 => ?_)
    · replace c_2 := zI1 c_2
      refine lv_iconst (v := 0) hx hb dX6_command_46 (by decide) ?_
      refine z_top (y := zI false) rfl ?_
      refine va_put (D := D) (ci := 10) (v := .int (zI false)) (ty := .boolean) (C := RX6) (T := TX6) (N := 21) hx hb hts in_RX6 tyX6 tyX6_ok nmX6 hown hK hP hD hS 0 rfl rfl 19 (by decide) (hts _ (List.mem_of_getElem? (i := 1) rfl)) (fun _ h9 => h9) rfl (by decide +kernel) (zI_nar _) (zI_fit _) (Nat.le_of_ble_eq_true rfl) dX6_command_47 (fun H locs hP hD hS => ?_)
      have hP : va_P D vwCl [(x9, .inr (10, [.int 0, .int (nI ch), .int era, .int why, .int det, .int cau, .int (zI sv), .int (zI rj), .ref v9, .ref b9, .ref s9, .ref k9, .ref p9, .ref t9, .ref n9, .int (nI tn), .int (nI he), .int (nI en), .int (nI ln), .int (zI false), .int (zI true)])), (t9, .inl (cy 0, 60, .inl tx)), (v9, .inl (cy 0, 188, .inl v))] H := hP
      have hD : va_D A [(x9, .inr (10, [.int 0, .int (nI ch), .int era, .int why, .int det, .int cau, .int (zI sv), .int (zI rj), .ref v9, .ref b9, .ref s9, .ref k9, .ref p9, .ref t9, .ref n9, .int (nI tn), .int (nI he), .int (nI en), .int (nI ln), .int (zI false), .int (zI true)])), (t9, .inl (cy 0, 60, .inl tx)), (v9, .inl (cy 0, 188, .inl v))] := hD
      refine lv_aload_n hx hb dX6_command_50 rfl (lv_at hl 3 rfl) ?_
      refine va_get (D := D) (ci := 10) (v := .int (zI false)) (C := RX6) (T := TX6) (N := 21) hx hb hts in_RX6 hown hK hP 0 rfl rfl 19 (by decide) (hts _ (List.mem_of_getElem? (i := 1) rfl)) (fun _ h9 => h9) rfl dX6_command_51 ?_
      refine lv_if_eq (tgt := 58) hx hb dX6_command_54 (by decide) (fun c_3 => ?_) (fun c_3 => ?_)
      · replace c_3 := zI0 c_3
        refine lv_aload_n hx hb dX6_command_58 rfl (lv_at hl 3 rfl) ?_
        refine lv_dup hx hb dX6_command_59 rfl ?_
        refine va_get (D := D) (ci := 10) (v := .int (nI he)) (C := RX6) (T := TX6) (N := 21) hx hb hts in_RX6 hown hK hP 0 rfl rfl 16 (by decide) (hts _ (List.mem_of_getElem? (i := 2) rfl)) (fun _ h9 => h9) rfl dX6_command_60 ?_
        refine lv_iconst (v := 1) hx hb dX6_command_63 (by decide) ?_
        refine lv_iadd hx hb dX6_command_64 ?_
        refine z_top (y := nI (he + 1)) (nI_add he 1) ?_
        refine va_put (D := D) (ci := 10) (v := .int (nI (he + 1))) (ty := .int) (C := RX6) (T := TX6) (N := 21) hx hb hts in_RX6 tyX6 tyX6_ok nmX6 hown hK hP hD hS 0 rfl rfl 16 (by decide) (hts _ (List.mem_of_getElem? (i := 2) rfl)) (fun _ h9 => h9) rfl (by decide +kernel) rfl rfl (Nat.le_of_ble_eq_true rfl) dX6_command_65 (fun H locs hP hD hS => ?_)
        have hP : va_P D vwCl [(x9, .inr (10, [.int 0, .int (nI ch), .int era, .int why, .int det, .int cau, .int (zI sv), .int (zI rj), .ref v9, .ref b9, .ref s9, .ref k9, .ref p9, .ref t9, .ref n9, .int (nI tn), .int (nI (he + 1)), .int (nI en), .int (nI ln), .int (zI false), .int (zI true)])), (t9, .inl (cy 0, 60, .inl tx)), (v9, .inl (cy 0, 188, .inl v))] H := hP
        have hD : va_D A [(x9, .inr (10, [.int 0, .int (nI ch), .int era, .int why, .int det, .int cau, .int (zI sv), .int (zI rj), .ref v9, .ref b9, .ref s9, .ref k9, .ref p9, .ref t9, .ref n9, .int (nI tn), .int (nI (he + 1)), .int (nI en), .int (nI ln), .int (zI false), .int (zI true)])), (t9, .inl (cy 0, 60, .inl tx)), (v9, .inl (cy 0, 188, .inl v))] := hD
        refine lv_iload_n hx hb dX6_command_68 rfl (lv_at hl 2 rfl) ?_
        refine zcS (As := [.int 116]) (rest := []) [] hg.1 ⟨hx, hb, hml, hown, hts⟩ (c_X6_isNumbered hg l D cy 116) (va_cwS 1 hts gX6_command_X6_isNumbered rfl rfl rfl (by decide +kernel) ⟨Nat.le_of_ble_eq_true rfl, Nat.le_of_ble_eq_true rfl⟩) hG hK hP hD hS hA rfl rfl rfl  rfl hl.1 rfl (Nat.le_of_ble_eq_true rfl) dX6_command_69 ⟨Nat.zero_le _, Nat.zero_le _⟩ (fun H locs hP hD hS => ?_)
        have hP : va_P D vwCl [(x9, .inr (10, [.int 0, .int (nI ch), .int era, .int why, .int det, .int cau, .int (zI sv), .int (zI rj), .ref v9, .ref b9, .ref s9, .ref k9, .ref p9, .ref t9, .ref n9, .int (nI tn), .int (nI (he + 1)), .int (nI en), .int (nI ln), .int (zI false), .int (zI true)])), (t9, .inl (cy 0, 60, .inl tx)), (v9, .inl (cy 0, 188, .inl v))] H := hP
        have hD : va_D A [(x9, .inr (10, [.int 0, .int (nI ch), .int era, .int why, .int det, .int cau, .int (zI sv), .int (zI rj), .ref v9, .ref b9, .ref s9, .ref k9, .ref p9, .ref t9, .ref n9, .int (nI tn), .int (nI (he + 1)), .int (nI en), .int (nI ln), .int (zI false), .int (zI true)])), (t9, .inl (cy 0, 60, .inl tx)), (v9, .inl (cy 0, 188, .inl v))] := hD
        refine z_top (y := zI false) (rfl) ?_
        refine lv_if_eq (tgt := 81) hx hb dX6_command_72 (by decide) (fun c_4 => ?_) (fun c_4 => ?_)
        · replace c_4 := zI0 c_4
          refine lv_iload_n hx hb dX6_command_81 rfl (lv_at hl 2 rfl) ?_
          refine zcS (As := [.int 116]) (rest := []) [] hg.1 ⟨hx, hb, hml, hown, hts⟩ (c_X6_isDigit hg l D cy 116) (va_cwS 1 hts gX6_command_X6_isDigit rfl rfl rfl (by decide +kernel) ⟨Nat.le_of_ble_eq_true rfl, Nat.le_of_ble_eq_true rfl⟩) hG hK hP hD hS hA rfl rfl rfl  rfl hl.1 rfl (Nat.le_of_ble_eq_true rfl) dX6_command_82 ⟨Nat.zero_le _, Nat.zero_le _⟩ (fun H locs hP hD hS => ?_)
          have hP : va_P D vwCl [(x9, .inr (10, [.int 0, .int (nI ch), .int era, .int why, .int det, .int cau, .int (zI sv), .int (zI rj), .ref v9, .ref b9, .ref s9, .ref k9, .ref p9, .ref t9, .ref n9, .int (nI tn), .int (nI (he + 1)), .int (nI en), .int (nI ln), .int (zI false), .int (zI true)])), (t9, .inl (cy 0, 60, .inl tx)), (v9, .inl (cy 0, 188, .inl v))] H := hP
          have hD : va_D A [(x9, .inr (10, [.int 0, .int (nI ch), .int era, .int why, .int det, .int cau, .int (zI sv), .int (zI rj), .ref v9, .ref b9, .ref s9, .ref k9, .ref p9, .ref t9, .ref n9, .int (nI tn), .int (nI (he + 1)), .int (nI en), .int (nI ln), .int (zI false), .int (zI true)])), (t9, .inl (cy 0, 60, .inl tx)), (v9, .inl (cy 0, 188, .inl v))] := hD
          refine z_top (y := zI true) (rfl) ?_
          refine lv_if_eq (tgt := 94) hx hb dX6_command_85 (by decide) (fun c_5 => ?_) (fun c_5 => ?_)
          · replace c_5 := zI0 c_5
            exact absurd c_5 (by decide)
          · replace c_5 := zI1 c_5
            refine lv_aload_n hx hb dX6_command_88 rfl (lv_at hl 3 rfl) ?_
            refine lv_iconst (v := 1) hx hb dX6_command_89 (by decide) ?_
            refine z_top (y := nI 1) (rfl) ?_
            refine zcV (As := [.int (nI 1)]) (rest := []) [0, 1] 0 hg.1 ⟨hx, hb, hml, hown, hts⟩ (c_X6_digits hg l D cy x9 0 ch era why det cau sv rj v9 b9 s9 k9 p9 t9 n9 tn (he + 1) en ln true tx 1 (by first | assumption | omega) (by first | assumption | omega) (by first | assumption | omega) (by first | assumption | omega)) (cwV 1 hts gX6_command_X6_digits rfl rfl rfl (by decide +kernel) ⟨Nat.le_of_ble_eq_true rfl, Nat.le_of_ble_eq_true rfl⟩) hG hK hP hD hS hA rfl rfl (Eq.trans (b := [x9, t9]) rfl rfl) rfl rfl rfl hl.1 rfl (Nat.le_of_ble_eq_true rfl) dX6_command_90 ⟨Nat.zero_le _, Nat.zero_le _⟩ (fun H locs hP hD hS => ?_)
            have hP : va_P D vwCl [(x9, .inr (10, [.int 0, .int (nI ch), .int era, .int why, .int det, .int cau, .int (zI sv), .int (zI rj), .ref v9, .ref b9, .ref s9, .ref k9, .ref p9, .ref t9, .ref n9, .int (nI tn), .int (nI ((he + 1) + zdN tx en 1 (he + 1))), .int (nI en), .int (nI ln), .int (zI (decide (zdN tx en 1 (he + 1) = 0))), .int (zI true)])), (t9, .inl (cy 0, 60, .inl tx)), (v9, .inl (cy 0, 188, .inl v))] H := hP
            have hD : va_D A [(x9, .inr (10, [.int 0, .int (nI ch), .int era, .int why, .int det, .int cau, .int (zI sv), .int (zI rj), .ref v9, .ref b9, .ref s9, .ref k9, .ref p9, .ref t9, .ref n9, .int (nI tn), .int (nI ((he + 1) + zdN tx en 1 (he + 1))), .int (nI en), .int (nI ln), .int (zI (decide (zdN tx en 1 (he + 1) = 0))), .int (zI true)])), (t9, .inl (cy 0, 60, .inl tx)), (v9, .inl (cy 0, 188, .inl v))] := hD
            refine lv_istore_n (lv' := [(2, .int (zdV tx en 1 (he + 1) 0)), (3, .int 0), (1, .int 116), (0, .ref x9)]) hx hb dX6_command_93 rfl hl (by decide) rfl (fun ls hl => ?_)
            refine lv_iload_n hx hb dX6_command_94 rfl (lv_at hl 2 rfl) ?_
            refine lv_bipush (v := 112) hx hb dX6_command_95 (by decide) ?_
            refine lv_icmp_ne (tgt := 105) hx hb dX6_command_97 (by decide) (fun c_6 => ?_) (fun c_6 => ?_)
            · refine lv_iload_n hx hb dX6_command_105 rfl (lv_at hl 2 rfl) ?_
              refine lv_bipush (v := 99) hx hb dX6_command_106 (by decide) ?_
              refine lv_icmp_ne (tgt := 118) hx hb dX6_command_108 (by decide) (fun c_7 => ?_) (fun c_7 => ?_)
              · refine lv_iload_n hx hb dX6_command_118 rfl (lv_at hl 2 rfl) ?_
                refine lv_bipush (v := 121) hx hb dX6_command_119 (by decide) ?_
                refine lv_icmp_ne (tgt := 131) hx hb dX6_command_121 (by decide) (fun c_8 => ?_) (fun c_8 => ?_)
                · refine lv_aload_n hx hb dX6_command_131 rfl (lv_at hl 3 rfl) ?_
                  refine va_get (D := D) (ci := 10) (v := .int (zI (decide (zdN tx en 1 (he + 1) = 0)))) (C := RX6) (T := TX6) (N := 21) hx hb hts in_RX6 hown hK hP 0 rfl rfl 19 (by decide) (hts _ (List.mem_of_getElem? (i := 1) rfl)) (fun _ h9 => h9) rfl dX6_command_132 ?_
                  refine lv_if_ne (tgt := 145) hx hb dX6_command_135 (by decide) (fun c_9 => ?_) (fun c_9 => ?_)
                  · replace c_9 := zI1 c_9
                    exact absurd (hw.symm.trans c_9) (by decide)
                  · replace c_9 := zI0 c_9
                    have er_10 : decide (zdN tx en 1 (he + 1) = 0) = false := c_9
                    rw [er_10] at hP hD
                    refine lv_aload_n hx hb dX6_command_138 rfl (lv_at hl 3 rfl) ?_
                    refine va_get (D := D) (ci := 10) (v := .int (zI true)) (C := RX6) (T := TX6) (N := 21) hx hb hts in_RX6 hown hK hP 0 rfl rfl 20 (by decide) (hts _ (List.mem_of_getElem? (i := 3) rfl)) (fun _ h9 => h9) rfl dX6_command_139 ?_
                    refine lv_if_ne (tgt := 146) hx hb dX6_command_142 (by decide) (fun c_11 => ?_) (fun c_11 => ?_)
                    · replace c_11 := zI1 c_11
                      refine lv_aload_n hx hb dX6_command_146 rfl (lv_at hl 3 rfl) ?_
                      refine lv_iload_n hx hb dX6_command_147 rfl (lv_at hl 2 rfl) ?_
                      refine lv_iload_n hx hb dX6_command_148 rfl (lv_at hl 0 rfl) ?_
                      refine lv_iload_n hx hb dX6_command_149 rfl (lv_at hl 1 rfl) ?_
                      refine zcV (As := [.int 116, .int (zdV tx en 1 (he + 1) 0), .int 0]) (rest := []) [0, 2] 0 hg.1 ⟨hx, hb, hml, hown, hts⟩ hdo (cwV 3 hts gX6_command_X6_does rfl rfl rfl (by decide +kernel) ⟨Nat.le_of_ble_eq_true rfl, Nat.le_of_ble_eq_true rfl⟩) hG hK hP hD hS hA rfl rfl (Eq.trans (b := [x9, v9]) rfl rfl) rfl rfl rfl hl.1 rfl (Nat.le_of_ble_eq_true rfl) dX6_command_150 ⟨Nat.zero_le _, Nat.zero_le _⟩ (fun H locs hP hD hS => ?_)
                      have hP : va_P D vwCl [(x9, .inr (10, [.int th2, .int (nI ch), .int era, .int why2, .int det2, .int cau2, .int (zI sv), .int (zI rj2), .ref v9, .ref b9, .ref s9, .ref k9, .ref p9, .ref t9, .ref n9, .int (nI tn), .int (nI ((he + 1) + zdN tx en 1 (he + 1))), .int (nI en), .int (nI ln), .int (zI false), .int (zI true)])), (t9, .inl (cy 0, 60, .inl tx)), (v9, .inl (cy 0, 188, .inl v2))] H := hP
                      have hD : va_D A [(x9, .inr (10, [.int th2, .int (nI ch), .int era, .int why2, .int det2, .int cau2, .int (zI sv), .int (zI rj2), .ref v9, .ref b9, .ref s9, .ref k9, .ref p9, .ref t9, .ref n9, .int (nI tn), .int (nI ((he + 1) + zdN tx en 1 (he + 1))), .int (nI en), .int (nI ln), .int (zI false), .int (zI true)])), (t9, .inl (cy 0, 60, .inl tx)), (v9, .inl (cy 0, 188, .inl v2))] := hD
                      refine lv_istore (lv' := [(4, .int res2), (2, .int (zdV tx en 1 (he + 1) 0)), (3, .int 0), (1, .int 116), (0, .ref x9)]) hx hb dX6_command_153 hl (by decide) rfl (fun ls hl => ?_)
                      exact zvret hend hx hb hr hlk hK hP hD hS dX6_command_155 rfl
                    · replace c_11 := zI0 c_11
                      exact absurd c_11 (by decide)
                · exact absurd c_8 (by decide)
              · exact absurd c_7 (by decide)
            · exact absurd c_6 (by decide)
        · replace c_4 := zI1 c_4
          exact absurd c_4 (by decide)
      · replace c_3 := zI1 c_3
        exact absurd c_3 (by decide)
    · replace c_2 := zI0 c_2
      exact absurd c_2 (by decide)

abbrev rmX6_command_d112 : Room := { frames := 6, cells := 0, slots := 0, locals := 139 }
set_option maxHeartbeats 4000000 in
set_option maxRecDepth 100000 in
theorem c_X6_command_d112 {G : zG} (hg : zGN G) (l : Launch) (D : va_G) (cy : Nat → ClassId) (x9 : Nat) (ch : Nat) (era : Int32) (why : Int32) (det : Int32) (cau : Int32) (sv : Bool) (rj : Bool) (v9 : Nat) (b9 : Nat) (s9 : Nat) (k9 : Nat) (p9 : Nat) (t9 : Nat) (n9 : Nat) (tn : Nat) (he : Nat) (en : Nat) (ln : Nat) (iw : Bool) (tx : Nat → Int32) (v : Nat → Int32) (res2 : Int32) (th2 : Int32) (why2 : Int32) (det2 : Int32) (cau2 : Int32) (rj2 : Bool) (v2 : Nat → Int32) (hhe : he ≤ 60) (hen : en ≤ 60) (hc : zqs tx en he = 112) (hw : (decide (¬ zkN tx en 8 (he + 1) = 8)) = false) (hdo : zM G D vwCl (zT cy) l yX6_does wsX6_does { frames := 5, cells := 0, slots := 0, locals := 116 } [.ref x9, .int 112, .int (zkM tx en 8 (he + 1) 0 0), .int 0] [(x9, .inr (10, [.int 0, .int (nI ch), .int era, .int why, .int det, .int cau, .int (zI sv), .int (zI rj), .ref v9, .ref b9, .ref s9, .ref k9, .ref p9, .ref t9, .ref n9, .int (nI tn), .int (nI ((he + 1) + zkN tx en 8 (he + 1))), .int (nI en), .int (nI ln), .int (zI false), .int (zI true)])), (v9, .inl (cy 0, 188, .inl v))] (some (.int res2)) [(x9, .inr (10, [.int th2, .int (nI ch), .int era, .int why2, .int det2, .int cau2, .int (zI sv), .int (zI rj2), .ref v9, .ref b9, .ref s9, .ref k9, .ref p9, .ref t9, .ref n9, .int (nI tn), .int (nI ((he + 1) + zkN tx en 8 (he + 1))), .int (nI en), .int (nI ln), .int (zI false), .int (zI true)])), (v9, .inl (cy 0, 188, .inl v2))]) : zM G D vwCl (zT cy) l yX6_command wsX6_command rmX6_command_d112 [.ref x9] [(x9, .inr (10, [.int 0, .int (nI ch), .int era, .int why, .int det, .int cau, .int (zI sv), .int (zI rj), .ref v9, .ref b9, .ref s9, .ref k9, .ref p9, .ref t9, .ref n9, .int (nI tn), .int (nI he), .int (nI en), .int (nI ln), .int (zI iw), .int (zI true)])), (t9, .inl (cy 0, 60, .inl tx)), (v9, .inl (cy 0, 188, .inl v))] none [(x9, .inr (10, [.int th2, .int (nI ch), .int era, .int why2, .int det2, .int cau2, .int (zI sv), .int (zI rj2), .ref v9, .ref b9, .ref s9, .ref k9, .ref p9, .ref t9, .ref n9, .int (nI tn), .int (nI ((he + 1) + zkN tx en 8 (he + 1))), .int (nI en), .int (nI ln), .int (zI false), .int (zI true)])), (t9, .inl (cy 0, 60, .inl tx)), (v9, .inl (cy 0, 188, .inl v2))] := by
  refine zM_of (cc := cX6_command) (maxL := 5) (ret := none) (by decide) rfl (Nat.le_of_ble_eq_true rfl) ?_
  intro p e s m below meth c A Q hend hx hb hml hr hts hown hlk hG hK hP hD hA hS ls hl
  have hown : s.vm.findClass RX6 = some m.cls := hown
  have in_RX6 : ∀ w ∈ u_ws RX6 TX6 21, w ∈ wsX6_command := by decide +kernel
  have hl : lv_has ls 5 [(0, .ref x9)] := hl
  refine lv_aload_n hx hb dX6_command_0 rfl (lv_at hl 0 rfl) ?_
  refine zcV (As := []) (rest := []) [0, 1] 0 hg.1 ⟨hx, hb, hml, hown, hts⟩ (c_X6_sign hg l D cy x9 0 ch era why det cau sv rj v9 b9 s9 k9 p9 t9 n9 tn he en ln iw true tx (by first | assumption | omega) (by first | assumption | omega)) (cwV 0 hts gX6_command_X6_sign rfl rfl rfl (by decide +kernel) ⟨Nat.le_of_ble_eq_true rfl, Nat.le_of_ble_eq_true rfl⟩) hG hK hP hD hS hA rfl rfl rfl rfl rfl rfl hl.1 rfl (Nat.le_of_ble_eq_true rfl) dX6_command_1 ⟨Nat.zero_le _, Nat.zero_le _⟩ (fun H locs hP hD hS => ?_)
  have hP : va_P D vwCl [(x9, .inr (10, [.int 0, .int (nI ch), .int era, .int why, .int det, .int cau, .int (zI sv), .int (zI rj), .ref v9, .ref b9, .ref s9, .ref k9, .ref p9, .ref t9, .ref n9, .int (nI tn), .int (nI he), .int (nI en), .int (nI ln), .int (zI iw), .int (zI true)])), (t9, .inl (cy 0, 60, .inl tx)), (v9, .inl (cy 0, 188, .inl v))] H := hP
  have hD : va_D A [(x9, .inr (10, [.int 0, .int (nI ch), .int era, .int why, .int det, .int cau, .int (zI sv), .int (zI rj), .ref v9, .ref b9, .ref s9, .ref k9, .ref p9, .ref t9, .ref n9, .int (nI tn), .int (nI he), .int (nI en), .int (nI ln), .int (zI iw), .int (zI true)])), (t9, .inl (cy 0, 60, .inl tx)), (v9, .inl (cy 0, 188, .inl v))] := hD
  refine z_top (y := 112) (hc) ?_
  refine lv_istore_n (lv' := [(1, .int 112), (0, .ref x9)]) hx hb dX6_command_4 rfl hl (by decide) rfl (fun ls hl => ?_)
  refine lv_iconst (v := 0) hx hb dX6_command_5 (by decide) ?_
  refine lv_istore_n (lv' := [(2, .int 0), (1, .int 112), (0, .ref x9)]) hx hb dX6_command_6 rfl hl (by decide) rfl (fun ls hl => ?_)
  refine lv_iconst (v := 0) hx hb dX6_command_7 (by decide) ?_
  refine lv_istore_n (lv' := [(3, .int 0), (2, .int 0), (1, .int 112), (0, .ref x9)]) hx hb dX6_command_8 rfl hl (by decide) rfl (fun ls hl => ?_)
  refine lv_aload_n hx hb dX6_command_9 rfl (lv_at hl 3 rfl) ?_
  refine lv_iload_n hx hb dX6_command_10 rfl (lv_at hl 2 rfl) ?_
  refine zcS (As := [.int 112]) (rest := [.ref x9]) [] hg.1 ⟨hx, hb, hml, hown, hts⟩ (c_X6_isNumbered hg l D cy 112) (va_cwS 1 hts gX6_command_X6_isNumbered rfl rfl rfl (by decide +kernel) ⟨Nat.le_of_ble_eq_true rfl, Nat.le_of_ble_eq_true rfl⟩) hG hK hP hD hS hA rfl rfl rfl  rfl hl.1 rfl (Nat.le_of_ble_eq_true rfl) dX6_command_11 ⟨Nat.zero_le _, Nat.zero_le _⟩ (fun H locs hP hD hS => ?_)
  have hP : va_P D vwCl [(x9, .inr (10, [.int 0, .int (nI ch), .int era, .int why, .int det, .int cau, .int (zI sv), .int (zI rj), .ref v9, .ref b9, .ref s9, .ref k9, .ref p9, .ref t9, .ref n9, .int (nI tn), .int (nI he), .int (nI en), .int (nI ln), .int (zI iw), .int (zI true)])), (t9, .inl (cy 0, 60, .inl tx)), (v9, .inl (cy 0, 188, .inl v))] H := hP
  have hD : va_D A [(x9, .inr (10, [.int 0, .int (nI ch), .int era, .int why, .int det, .int cau, .int (zI sv), .int (zI rj), .ref v9, .ref b9, .ref s9, .ref k9, .ref p9, .ref t9, .ref n9, .int (nI tn), .int (nI he), .int (nI en), .int (nI ln), .int (zI iw), .int (zI true)])), (t9, .inl (cy 0, 60, .inl tx)), (v9, .inl (cy 0, 188, .inl v))] := hD
  refine z_top (y := zI false) (rfl) ?_
  refine lv_if_ne (tgt := 46) hx hb dX6_command_14 (by decide) (fun c_1 => ?_) (fun c_1 => ?_)
  · replace c_1 := zI1 c_1
    exact absurd c_1 (by decide)
  · replace c_1 := zI0 c_1
    refine lv_iload_n hx hb dX6_command_17 rfl (lv_at hl 2 rfl) ?_
    refine zcS (As := [.int 112]) (rest := [.ref x9]) [] hg.1 ⟨hx, hb, hml, hown, hts⟩ (c_X6_isDigit hg l D cy 112) (va_cwS 1 hts gX6_command_X6_isDigit rfl rfl rfl (by decide +kernel) ⟨Nat.le_of_ble_eq_true rfl, Nat.le_of_ble_eq_true rfl⟩) hG hK hP hD hS hA rfl rfl rfl  rfl hl.1 rfl (Nat.le_of_ble_eq_true rfl) dX6_command_18 ⟨Nat.zero_le _, Nat.zero_le _⟩ (fun H locs hP hD hS => ?_)
    have hP : va_P D vwCl [(x9, .inr (10, [.int 0, .int (nI ch), .int era, .int why, .int det, .int cau, .int (zI sv), .int (zI rj), .ref v9, .ref b9, .ref s9, .ref k9, .ref p9, .ref t9, .ref n9, .int (nI tn), .int (nI he), .int (nI en), .int (nI ln), .int (zI iw), .int (zI true)])), (t9, .inl (cy 0, 60, .inl tx)), (v9, .inl (cy 0, 188, .inl v))] H := hP
    have hD : va_D A [(x9, .inr (10, [.int 0, .int (nI ch), .int era, .int why, .int det, .int cau, .int (zI sv), .int (zI rj), .ref v9, .ref b9, .ref s9, .ref k9, .ref p9, .ref t9, .ref n9, .int (nI tn), .int (nI he), .int (nI en), .int (nI ln), .int (zI iw), .int (zI true)])), (t9, .inl (cy 0, 60, .inl tx)), (v9, .inl (cy 0, 188, .inl v))] := hD
    refine z_top (y := zI false) (rfl) ?_
    refine lv_if_ne (tgt := 46) hx hb dX6_command_21 (by decide) (fun c_2 => ?_) (fun c_2 => ?_)
    · replace c_2 := zI1 c_2
      exact absurd c_2 (by decide)
    · replace c_2 := zI0 c_2
      refine lv_iload_n hx hb dX6_command_24 rfl (lv_at hl 2 rfl) ?_
      refine lv_bipush (v := 120) hx hb dX6_command_25 (by decide) ?_
      refine lv_icmp_eq (tgt := 46) hx hb dX6_command_27 (by decide) (fun c_3 => ?_) (fun c_3 => ?_)
      · exact absurd c_3 (by decide)
      · refine lv_iload_n hx hb dX6_command_30 rfl (lv_at hl 2 rfl) ?_
        refine lv_bipush (v := 112) hx hb dX6_command_31 (by decide) ?_
        refine lv_icmp_eq (tgt := 46) hx hb dX6_command_33 (by decide) (fun c_4 => ?_) (fun c_4 => ?_)
        · refine lv_iconst (v := 0) hx hb dX6_command_46 (by decide) ?_
          refine z_top (y := zI false) rfl ?_
          refine va_put (D := D) (ci := 10) (v := .int (zI false)) (ty := .boolean) (C := RX6) (T := TX6) (N := 21) hx hb hts in_RX6 tyX6 tyX6_ok nmX6 hown hK hP hD hS 0 rfl rfl 19 (by decide) (hts _ (List.mem_of_getElem? (i := 1) rfl)) (fun _ h9 => h9) rfl (by decide +kernel) (zI_nar _) (zI_fit _) (Nat.le_of_ble_eq_true rfl) dX6_command_47 (fun H locs hP hD hS => ?_)
          have hP : va_P D vwCl [(x9, .inr (10, [.int 0, .int (nI ch), .int era, .int why, .int det, .int cau, .int (zI sv), .int (zI rj), .ref v9, .ref b9, .ref s9, .ref k9, .ref p9, .ref t9, .ref n9, .int (nI tn), .int (nI he), .int (nI en), .int (nI ln), .int (zI false), .int (zI true)])), (t9, .inl (cy 0, 60, .inl tx)), (v9, .inl (cy 0, 188, .inl v))] H := hP
          have hD : va_D A [(x9, .inr (10, [.int 0, .int (nI ch), .int era, .int why, .int det, .int cau, .int (zI sv), .int (zI rj), .ref v9, .ref b9, .ref s9, .ref k9, .ref p9, .ref t9, .ref n9, .int (nI tn), .int (nI he), .int (nI en), .int (nI ln), .int (zI false), .int (zI true)])), (t9, .inl (cy 0, 60, .inl tx)), (v9, .inl (cy 0, 188, .inl v))] := hD
          refine lv_aload_n hx hb dX6_command_50 rfl (lv_at hl 3 rfl) ?_
          refine va_get (D := D) (ci := 10) (v := .int (zI false)) (C := RX6) (T := TX6) (N := 21) hx hb hts in_RX6 hown hK hP 0 rfl rfl 19 (by decide) (hts _ (List.mem_of_getElem? (i := 1) rfl)) (fun _ h9 => h9) rfl dX6_command_51 ?_
          refine lv_if_eq (tgt := 58) hx hb dX6_command_54 (by decide) (fun c_5 => ?_) (fun c_5 => ?_)
          · replace c_5 := zI0 c_5
            refine lv_aload_n hx hb dX6_command_58 rfl (lv_at hl 3 rfl) ?_
            refine lv_dup hx hb dX6_command_59 rfl ?_
            refine va_get (D := D) (ci := 10) (v := .int (nI he)) (C := RX6) (T := TX6) (N := 21) hx hb hts in_RX6 hown hK hP 0 rfl rfl 16 (by decide) (hts _ (List.mem_of_getElem? (i := 2) rfl)) (fun _ h9 => h9) rfl dX6_command_60 ?_
            refine lv_iconst (v := 1) hx hb dX6_command_63 (by decide) ?_
            refine lv_iadd hx hb dX6_command_64 ?_
            refine z_top (y := nI (he + 1)) (nI_add he 1) ?_
            refine va_put (D := D) (ci := 10) (v := .int (nI (he + 1))) (ty := .int) (C := RX6) (T := TX6) (N := 21) hx hb hts in_RX6 tyX6 tyX6_ok nmX6 hown hK hP hD hS 0 rfl rfl 16 (by decide) (hts _ (List.mem_of_getElem? (i := 2) rfl)) (fun _ h9 => h9) rfl (by decide +kernel) rfl rfl (Nat.le_of_ble_eq_true rfl) dX6_command_65 (fun H locs hP hD hS => ?_)
            have hP : va_P D vwCl [(x9, .inr (10, [.int 0, .int (nI ch), .int era, .int why, .int det, .int cau, .int (zI sv), .int (zI rj), .ref v9, .ref b9, .ref s9, .ref k9, .ref p9, .ref t9, .ref n9, .int (nI tn), .int (nI (he + 1)), .int (nI en), .int (nI ln), .int (zI false), .int (zI true)])), (t9, .inl (cy 0, 60, .inl tx)), (v9, .inl (cy 0, 188, .inl v))] H := hP
            have hD : va_D A [(x9, .inr (10, [.int 0, .int (nI ch), .int era, .int why, .int det, .int cau, .int (zI sv), .int (zI rj), .ref v9, .ref b9, .ref s9, .ref k9, .ref p9, .ref t9, .ref n9, .int (nI tn), .int (nI (he + 1)), .int (nI en), .int (nI ln), .int (zI false), .int (zI true)])), (t9, .inl (cy 0, 60, .inl tx)), (v9, .inl (cy 0, 188, .inl v))] := hD
            refine lv_iload_n hx hb dX6_command_68 rfl (lv_at hl 2 rfl) ?_
            refine zcS (As := [.int 112]) (rest := []) [] hg.1 ⟨hx, hb, hml, hown, hts⟩ (c_X6_isNumbered hg l D cy 112) (va_cwS 1 hts gX6_command_X6_isNumbered rfl rfl rfl (by decide +kernel) ⟨Nat.le_of_ble_eq_true rfl, Nat.le_of_ble_eq_true rfl⟩) hG hK hP hD hS hA rfl rfl rfl  rfl hl.1 rfl (Nat.le_of_ble_eq_true rfl) dX6_command_69 ⟨Nat.zero_le _, Nat.zero_le _⟩ (fun H locs hP hD hS => ?_)
            have hP : va_P D vwCl [(x9, .inr (10, [.int 0, .int (nI ch), .int era, .int why, .int det, .int cau, .int (zI sv), .int (zI rj), .ref v9, .ref b9, .ref s9, .ref k9, .ref p9, .ref t9, .ref n9, .int (nI tn), .int (nI (he + 1)), .int (nI en), .int (nI ln), .int (zI false), .int (zI true)])), (t9, .inl (cy 0, 60, .inl tx)), (v9, .inl (cy 0, 188, .inl v))] H := hP
            have hD : va_D A [(x9, .inr (10, [.int 0, .int (nI ch), .int era, .int why, .int det, .int cau, .int (zI sv), .int (zI rj), .ref v9, .ref b9, .ref s9, .ref k9, .ref p9, .ref t9, .ref n9, .int (nI tn), .int (nI (he + 1)), .int (nI en), .int (nI ln), .int (zI false), .int (zI true)])), (t9, .inl (cy 0, 60, .inl tx)), (v9, .inl (cy 0, 188, .inl v))] := hD
            refine z_top (y := zI false) (rfl) ?_
            refine lv_if_eq (tgt := 81) hx hb dX6_command_72 (by decide) (fun c_6 => ?_) (fun c_6 => ?_)
            · replace c_6 := zI0 c_6
              refine lv_iload_n hx hb dX6_command_81 rfl (lv_at hl 2 rfl) ?_
              refine zcS (As := [.int 112]) (rest := []) [] hg.1 ⟨hx, hb, hml, hown, hts⟩ (c_X6_isDigit hg l D cy 112) (va_cwS 1 hts gX6_command_X6_isDigit rfl rfl rfl (by decide +kernel) ⟨Nat.le_of_ble_eq_true rfl, Nat.le_of_ble_eq_true rfl⟩) hG hK hP hD hS hA rfl rfl rfl  rfl hl.1 rfl (Nat.le_of_ble_eq_true rfl) dX6_command_82 ⟨Nat.zero_le _, Nat.zero_le _⟩ (fun H locs hP hD hS => ?_)
              have hP : va_P D vwCl [(x9, .inr (10, [.int 0, .int (nI ch), .int era, .int why, .int det, .int cau, .int (zI sv), .int (zI rj), .ref v9, .ref b9, .ref s9, .ref k9, .ref p9, .ref t9, .ref n9, .int (nI tn), .int (nI (he + 1)), .int (nI en), .int (nI ln), .int (zI false), .int (zI true)])), (t9, .inl (cy 0, 60, .inl tx)), (v9, .inl (cy 0, 188, .inl v))] H := hP
              have hD : va_D A [(x9, .inr (10, [.int 0, .int (nI ch), .int era, .int why, .int det, .int cau, .int (zI sv), .int (zI rj), .ref v9, .ref b9, .ref s9, .ref k9, .ref p9, .ref t9, .ref n9, .int (nI tn), .int (nI (he + 1)), .int (nI en), .int (nI ln), .int (zI false), .int (zI true)])), (t9, .inl (cy 0, 60, .inl tx)), (v9, .inl (cy 0, 188, .inl v))] := hD
              refine z_top (y := zI false) (rfl) ?_
              refine lv_if_eq (tgt := 94) hx hb dX6_command_85 (by decide) (fun c_7 => ?_) (fun c_7 => ?_)
              · replace c_7 := zI0 c_7
                refine lv_iload_n hx hb dX6_command_94 rfl (lv_at hl 2 rfl) ?_
                refine lv_bipush (v := 112) hx hb dX6_command_95 (by decide) ?_
                refine lv_icmp_ne (tgt := 105) hx hb dX6_command_97 (by decide) (fun c_8 => ?_) (fun c_8 => ?_)
                · exact absurd c_8 (by decide)
                · refine lv_aload_n hx hb dX6_command_100 rfl (lv_at hl 3 rfl) ?_
                  refine zcV (As := []) (rest := []) [0, 1] 0 hg.1 ⟨hx, hb, hml, hown, hts⟩ (c_X6_mask hg l D cy x9 0 ch era why det cau sv rj v9 b9 s9 k9 p9 t9 n9 tn (he + 1) en ln true tx (by first | assumption | omega) (by first | assumption | omega) (by first | assumption | omega)) (cwV 0 hts gX6_command_X6_mask rfl rfl rfl (by decide +kernel) ⟨Nat.le_of_ble_eq_true rfl, Nat.le_of_ble_eq_true rfl⟩) hG hK hP hD hS hA rfl rfl (Eq.trans (b := [x9, t9]) rfl rfl) rfl rfl rfl hl.1 rfl (Nat.le_of_ble_eq_true rfl) dX6_command_101 ⟨Nat.zero_le _, Nat.zero_le _⟩ (fun H locs hP hD hS => ?_)
                  have hP : va_P D vwCl [(x9, .inr (10, [.int 0, .int (nI ch), .int era, .int why, .int det, .int cau, .int (zI sv), .int (zI rj), .ref v9, .ref b9, .ref s9, .ref k9, .ref p9, .ref t9, .ref n9, .int (nI tn), .int (nI ((he + 1) + zkN tx en 8 (he + 1))), .int (nI en), .int (nI ln), .int (zI (decide (¬ zkN tx en 8 (he + 1) = 8))), .int (zI true)])), (t9, .inl (cy 0, 60, .inl tx)), (v9, .inl (cy 0, 188, .inl v))] H := hP
                  have hD : va_D A [(x9, .inr (10, [.int 0, .int (nI ch), .int era, .int why, .int det, .int cau, .int (zI sv), .int (zI rj), .ref v9, .ref b9, .ref s9, .ref k9, .ref p9, .ref t9, .ref n9, .int (nI tn), .int (nI ((he + 1) + zkN tx en 8 (he + 1))), .int (nI en), .int (nI ln), .int (zI (decide (¬ zkN tx en 8 (he + 1) = 8))), .int (zI true)])), (t9, .inl (cy 0, 60, .inl tx)), (v9, .inl (cy 0, 188, .inl v))] := hD
                  refine lv_istore_n (lv' := [(2, .int (zkM tx en 8 (he + 1) 0 0)), (3, .int 0), (1, .int 112), (0, .ref x9)]) hx hb dX6_command_104 rfl hl (by decide) rfl (fun ls hl => ?_)
                  refine lv_iload_n hx hb dX6_command_105 rfl (lv_at hl 2 rfl) ?_
                  refine lv_bipush (v := 99) hx hb dX6_command_106 (by decide) ?_
                  refine lv_icmp_ne (tgt := 118) hx hb dX6_command_108 (by decide) (fun c_9 => ?_) (fun c_9 => ?_)
                  · refine lv_iload_n hx hb dX6_command_118 rfl (lv_at hl 2 rfl) ?_
                    refine lv_bipush (v := 121) hx hb dX6_command_119 (by decide) ?_
                    refine lv_icmp_ne (tgt := 131) hx hb dX6_command_121 (by decide) (fun c_10 => ?_) (fun c_10 => ?_)
                    · refine lv_aload_n hx hb dX6_command_131 rfl (lv_at hl 3 rfl) ?_
                      refine va_get (D := D) (ci := 10) (v := .int (zI (decide (¬ zkN tx en 8 (he + 1) = 8)))) (C := RX6) (T := TX6) (N := 21) hx hb hts in_RX6 hown hK hP 0 rfl rfl 19 (by decide) (hts _ (List.mem_of_getElem? (i := 1) rfl)) (fun _ h9 => h9) rfl dX6_command_132 ?_
                      refine lv_if_ne (tgt := 145) hx hb dX6_command_135 (by decide) (fun c_11 => ?_) (fun c_11 => ?_)
                      · replace c_11 := zI1 c_11
                        exact absurd (hw.symm.trans c_11) (by decide)
                      · replace c_11 := zI0 c_11
                        have er_12 : decide (¬ zkN tx en 8 (he + 1) = 8) = false := c_11
                        rw [er_12] at hP hD
                        refine lv_aload_n hx hb dX6_command_138 rfl (lv_at hl 3 rfl) ?_
                        refine va_get (D := D) (ci := 10) (v := .int (zI true)) (C := RX6) (T := TX6) (N := 21) hx hb hts in_RX6 hown hK hP 0 rfl rfl 20 (by decide) (hts _ (List.mem_of_getElem? (i := 3) rfl)) (fun _ h9 => h9) rfl dX6_command_139 ?_
                        refine lv_if_ne (tgt := 146) hx hb dX6_command_142 (by decide) (fun c_13 => ?_) (fun c_13 => ?_)
                        · replace c_13 := zI1 c_13
                          refine lv_aload_n hx hb dX6_command_146 rfl (lv_at hl 3 rfl) ?_
                          refine lv_iload_n hx hb dX6_command_147 rfl (lv_at hl 2 rfl) ?_
                          refine lv_iload_n hx hb dX6_command_148 rfl (lv_at hl 0 rfl) ?_
                          refine lv_iload_n hx hb dX6_command_149 rfl (lv_at hl 1 rfl) ?_
                          refine zcV (As := [.int 112, .int (zkM tx en 8 (he + 1) 0 0), .int 0]) (rest := []) [0, 2] 0 hg.1 ⟨hx, hb, hml, hown, hts⟩ hdo (cwV 3 hts gX6_command_X6_does rfl rfl rfl (by decide +kernel) ⟨Nat.le_of_ble_eq_true rfl, Nat.le_of_ble_eq_true rfl⟩) hG hK hP hD hS hA rfl rfl (Eq.trans (b := [x9, v9]) rfl rfl) rfl rfl rfl hl.1 rfl (Nat.le_of_ble_eq_true rfl) dX6_command_150 ⟨Nat.zero_le _, Nat.zero_le _⟩ (fun H locs hP hD hS => ?_)
                          have hP : va_P D vwCl [(x9, .inr (10, [.int th2, .int (nI ch), .int era, .int why2, .int det2, .int cau2, .int (zI sv), .int (zI rj2), .ref v9, .ref b9, .ref s9, .ref k9, .ref p9, .ref t9, .ref n9, .int (nI tn), .int (nI ((he + 1) + zkN tx en 8 (he + 1))), .int (nI en), .int (nI ln), .int (zI false), .int (zI true)])), (t9, .inl (cy 0, 60, .inl tx)), (v9, .inl (cy 0, 188, .inl v2))] H := hP
                          have hD : va_D A [(x9, .inr (10, [.int th2, .int (nI ch), .int era, .int why2, .int det2, .int cau2, .int (zI sv), .int (zI rj2), .ref v9, .ref b9, .ref s9, .ref k9, .ref p9, .ref t9, .ref n9, .int (nI tn), .int (nI ((he + 1) + zkN tx en 8 (he + 1))), .int (nI en), .int (nI ln), .int (zI false), .int (zI true)])), (t9, .inl (cy 0, 60, .inl tx)), (v9, .inl (cy 0, 188, .inl v2))] := hD
                          refine lv_istore (lv' := [(4, .int res2), (2, .int (zkM tx en 8 (he + 1) 0 0)), (3, .int 0), (1, .int 112), (0, .ref x9)]) hx hb dX6_command_153 hl (by decide) rfl (fun ls hl => ?_)
                          exact zvret hend hx hb hr hlk hK hP hD hS dX6_command_155 rfl
                        · replace c_13 := zI0 c_13
                          exact absurd c_13 (by decide)
                    · exact absurd c_10 (by decide)
                  · exact absurd c_9 (by decide)
              · replace c_7 := zI1 c_7
                exact absurd c_7 (by decide)
            · replace c_6 := zI1 c_6
              exact absurd c_6 (by decide)
          · replace c_5 := zI1 c_5
            exact absurd c_5 (by decide)
        · exact absurd c_4 (by decide)

abbrev rmX6_command_d120 : Room := { frames := 6, cells := 0, slots := 0, locals := 139 }
set_option maxHeartbeats 4000000 in
set_option maxRecDepth 100000 in
theorem c_X6_command_d120 {G : zG} (hg : zGN G) (l : Launch) (D : va_G) (cy : Nat → ClassId) (x9 : Nat) (ch : Nat) (era : Int32) (why : Int32) (det : Int32) (cau : Int32) (sv : Bool) (rj : Bool) (v9 : Nat) (b9 : Nat) (s9 : Nat) (k9 : Nat) (p9 : Nat) (t9 : Nat) (n9 : Nat) (tn : Nat) (he : Nat) (en : Nat) (ln : Nat) (iw : Bool) (tx : Nat → Int32) (v : Nat → Int32) (res2 : Int32) (th2 : Int32) (why2 : Int32) (det2 : Int32) (cau2 : Int32) (rj2 : Bool) (v2 : Nat → Int32) (hhe : he ≤ 60) (hen : en ≤ 60) (hc : zqs tx en he = 120) (hdo : zM G D vwCl (zT cy) l yX6_does wsX6_does { frames := 5, cells := 0, slots := 0, locals := 116 } [.ref x9, .int 120, .int 0, .int 0] [(x9, .inr (10, [.int 0, .int (nI ch), .int era, .int why, .int det, .int cau, .int (zI sv), .int (zI rj), .ref v9, .ref b9, .ref s9, .ref k9, .ref p9, .ref t9, .ref n9, .int (nI tn), .int (nI (he + 1)), .int (nI en), .int (nI ln), .int (zI false), .int (zI true)])), (v9, .inl (cy 0, 188, .inl v))] (some (.int res2)) [(x9, .inr (10, [.int th2, .int (nI ch), .int era, .int why2, .int det2, .int cau2, .int (zI sv), .int (zI rj2), .ref v9, .ref b9, .ref s9, .ref k9, .ref p9, .ref t9, .ref n9, .int (nI tn), .int (nI (he + 1)), .int (nI en), .int (nI ln), .int (zI false), .int (zI true)])), (v9, .inl (cy 0, 188, .inl v2))]) : zM G D vwCl (zT cy) l yX6_command wsX6_command rmX6_command_d120 [.ref x9] [(x9, .inr (10, [.int 0, .int (nI ch), .int era, .int why, .int det, .int cau, .int (zI sv), .int (zI rj), .ref v9, .ref b9, .ref s9, .ref k9, .ref p9, .ref t9, .ref n9, .int (nI tn), .int (nI he), .int (nI en), .int (nI ln), .int (zI iw), .int (zI true)])), (t9, .inl (cy 0, 60, .inl tx)), (v9, .inl (cy 0, 188, .inl v))] none [(x9, .inr (10, [.int th2, .int (nI ch), .int era, .int why2, .int det2, .int cau2, .int (zI sv), .int (zI rj2), .ref v9, .ref b9, .ref s9, .ref k9, .ref p9, .ref t9, .ref n9, .int (nI tn), .int (nI (he + 1)), .int (nI en), .int (nI ln), .int (zI false), .int (zI true)])), (t9, .inl (cy 0, 60, .inl tx)), (v9, .inl (cy 0, 188, .inl v2))] := by
  refine zM_of (cc := cX6_command) (maxL := 5) (ret := none) (by decide) rfl (Nat.le_of_ble_eq_true rfl) ?_
  intro p e s m below meth c A Q hend hx hb hml hr hts hown hlk hG hK hP hD hA hS ls hl
  have hown : s.vm.findClass RX6 = some m.cls := hown
  have in_RX6 : ∀ w ∈ u_ws RX6 TX6 21, w ∈ wsX6_command := by decide +kernel
  have hl : lv_has ls 5 [(0, .ref x9)] := hl
  refine lv_aload_n hx hb dX6_command_0 rfl (lv_at hl 0 rfl) ?_
  refine zcV (As := []) (rest := []) [0, 1] 0 hg.1 ⟨hx, hb, hml, hown, hts⟩ (c_X6_sign hg l D cy x9 0 ch era why det cau sv rj v9 b9 s9 k9 p9 t9 n9 tn he en ln iw true tx (by first | assumption | omega) (by first | assumption | omega)) (cwV 0 hts gX6_command_X6_sign rfl rfl rfl (by decide +kernel) ⟨Nat.le_of_ble_eq_true rfl, Nat.le_of_ble_eq_true rfl⟩) hG hK hP hD hS hA rfl rfl rfl rfl rfl rfl hl.1 rfl (Nat.le_of_ble_eq_true rfl) dX6_command_1 ⟨Nat.zero_le _, Nat.zero_le _⟩ (fun H locs hP hD hS => ?_)
  have hP : va_P D vwCl [(x9, .inr (10, [.int 0, .int (nI ch), .int era, .int why, .int det, .int cau, .int (zI sv), .int (zI rj), .ref v9, .ref b9, .ref s9, .ref k9, .ref p9, .ref t9, .ref n9, .int (nI tn), .int (nI he), .int (nI en), .int (nI ln), .int (zI iw), .int (zI true)])), (t9, .inl (cy 0, 60, .inl tx)), (v9, .inl (cy 0, 188, .inl v))] H := hP
  have hD : va_D A [(x9, .inr (10, [.int 0, .int (nI ch), .int era, .int why, .int det, .int cau, .int (zI sv), .int (zI rj), .ref v9, .ref b9, .ref s9, .ref k9, .ref p9, .ref t9, .ref n9, .int (nI tn), .int (nI he), .int (nI en), .int (nI ln), .int (zI iw), .int (zI true)])), (t9, .inl (cy 0, 60, .inl tx)), (v9, .inl (cy 0, 188, .inl v))] := hD
  refine z_top (y := 120) (hc) ?_
  refine lv_istore_n (lv' := [(1, .int 120), (0, .ref x9)]) hx hb dX6_command_4 rfl hl (by decide) rfl (fun ls hl => ?_)
  refine lv_iconst (v := 0) hx hb dX6_command_5 (by decide) ?_
  refine lv_istore_n (lv' := [(2, .int 0), (1, .int 120), (0, .ref x9)]) hx hb dX6_command_6 rfl hl (by decide) rfl (fun ls hl => ?_)
  refine lv_iconst (v := 0) hx hb dX6_command_7 (by decide) ?_
  refine lv_istore_n (lv' := [(3, .int 0), (2, .int 0), (1, .int 120), (0, .ref x9)]) hx hb dX6_command_8 rfl hl (by decide) rfl (fun ls hl => ?_)
  refine lv_aload_n hx hb dX6_command_9 rfl (lv_at hl 3 rfl) ?_
  refine lv_iload_n hx hb dX6_command_10 rfl (lv_at hl 2 rfl) ?_
  refine zcS (As := [.int 120]) (rest := [.ref x9]) [] hg.1 ⟨hx, hb, hml, hown, hts⟩ (c_X6_isNumbered hg l D cy 120) (va_cwS 1 hts gX6_command_X6_isNumbered rfl rfl rfl (by decide +kernel) ⟨Nat.le_of_ble_eq_true rfl, Nat.le_of_ble_eq_true rfl⟩) hG hK hP hD hS hA rfl rfl rfl  rfl hl.1 rfl (Nat.le_of_ble_eq_true rfl) dX6_command_11 ⟨Nat.zero_le _, Nat.zero_le _⟩ (fun H locs hP hD hS => ?_)
  have hP : va_P D vwCl [(x9, .inr (10, [.int 0, .int (nI ch), .int era, .int why, .int det, .int cau, .int (zI sv), .int (zI rj), .ref v9, .ref b9, .ref s9, .ref k9, .ref p9, .ref t9, .ref n9, .int (nI tn), .int (nI he), .int (nI en), .int (nI ln), .int (zI iw), .int (zI true)])), (t9, .inl (cy 0, 60, .inl tx)), (v9, .inl (cy 0, 188, .inl v))] H := hP
  have hD : va_D A [(x9, .inr (10, [.int 0, .int (nI ch), .int era, .int why, .int det, .int cau, .int (zI sv), .int (zI rj), .ref v9, .ref b9, .ref s9, .ref k9, .ref p9, .ref t9, .ref n9, .int (nI tn), .int (nI he), .int (nI en), .int (nI ln), .int (zI iw), .int (zI true)])), (t9, .inl (cy 0, 60, .inl tx)), (v9, .inl (cy 0, 188, .inl v))] := hD
  refine z_top (y := zI false) (rfl) ?_
  refine lv_if_ne (tgt := 46) hx hb dX6_command_14 (by decide) (fun c_1 => ?_) (fun c_1 => ?_)
  · replace c_1 := zI1 c_1
    exact absurd c_1 (by decide)
  · replace c_1 := zI0 c_1
    refine lv_iload_n hx hb dX6_command_17 rfl (lv_at hl 2 rfl) ?_
    refine zcS (As := [.int 120]) (rest := [.ref x9]) [] hg.1 ⟨hx, hb, hml, hown, hts⟩ (c_X6_isDigit hg l D cy 120) (va_cwS 1 hts gX6_command_X6_isDigit rfl rfl rfl (by decide +kernel) ⟨Nat.le_of_ble_eq_true rfl, Nat.le_of_ble_eq_true rfl⟩) hG hK hP hD hS hA rfl rfl rfl  rfl hl.1 rfl (Nat.le_of_ble_eq_true rfl) dX6_command_18 ⟨Nat.zero_le _, Nat.zero_le _⟩ (fun H locs hP hD hS => ?_)
    have hP : va_P D vwCl [(x9, .inr (10, [.int 0, .int (nI ch), .int era, .int why, .int det, .int cau, .int (zI sv), .int (zI rj), .ref v9, .ref b9, .ref s9, .ref k9, .ref p9, .ref t9, .ref n9, .int (nI tn), .int (nI he), .int (nI en), .int (nI ln), .int (zI iw), .int (zI true)])), (t9, .inl (cy 0, 60, .inl tx)), (v9, .inl (cy 0, 188, .inl v))] H := hP
    have hD : va_D A [(x9, .inr (10, [.int 0, .int (nI ch), .int era, .int why, .int det, .int cau, .int (zI sv), .int (zI rj), .ref v9, .ref b9, .ref s9, .ref k9, .ref p9, .ref t9, .ref n9, .int (nI tn), .int (nI he), .int (nI en), .int (nI ln), .int (zI iw), .int (zI true)])), (t9, .inl (cy 0, 60, .inl tx)), (v9, .inl (cy 0, 188, .inl v))] := hD
    refine z_top (y := zI false) (rfl) ?_
    refine lv_if_ne (tgt := 46) hx hb dX6_command_21 (by decide) (fun c_2 => ?_) (fun c_2 => ?_)
    · replace c_2 := zI1 c_2
      exact absurd c_2 (by decide)
    · replace c_2 := zI0 c_2
      refine lv_iload_n hx hb dX6_command_24 rfl (lv_at hl 2 rfl) ?_
      refine lv_bipush (v := 120) hx hb dX6_command_25 (by decide) ?_
      refine lv_icmp_eq (tgt := 46) hx hb dX6_command_27 (by decide) (fun c_3 => ?_) (fun c_3 => ?_)
      · refine lv_iconst (v := 0) hx hb dX6_command_46 (by decide) ?_
        refine z_top (y := zI false) rfl ?_
        refine va_put (D := D) (ci := 10) (v := .int (zI false)) (ty := .boolean) (C := RX6) (T := TX6) (N := 21) hx hb hts in_RX6 tyX6 tyX6_ok nmX6 hown hK hP hD hS 0 rfl rfl 19 (by decide) (hts _ (List.mem_of_getElem? (i := 1) rfl)) (fun _ h9 => h9) rfl (by decide +kernel) (zI_nar _) (zI_fit _) (Nat.le_of_ble_eq_true rfl) dX6_command_47 (fun H locs hP hD hS => ?_)
        have hP : va_P D vwCl [(x9, .inr (10, [.int 0, .int (nI ch), .int era, .int why, .int det, .int cau, .int (zI sv), .int (zI rj), .ref v9, .ref b9, .ref s9, .ref k9, .ref p9, .ref t9, .ref n9, .int (nI tn), .int (nI he), .int (nI en), .int (nI ln), .int (zI false), .int (zI true)])), (t9, .inl (cy 0, 60, .inl tx)), (v9, .inl (cy 0, 188, .inl v))] H := hP
        have hD : va_D A [(x9, .inr (10, [.int 0, .int (nI ch), .int era, .int why, .int det, .int cau, .int (zI sv), .int (zI rj), .ref v9, .ref b9, .ref s9, .ref k9, .ref p9, .ref t9, .ref n9, .int (nI tn), .int (nI he), .int (nI en), .int (nI ln), .int (zI false), .int (zI true)])), (t9, .inl (cy 0, 60, .inl tx)), (v9, .inl (cy 0, 188, .inl v))] := hD
        refine lv_aload_n hx hb dX6_command_50 rfl (lv_at hl 3 rfl) ?_
        refine va_get (D := D) (ci := 10) (v := .int (zI false)) (C := RX6) (T := TX6) (N := 21) hx hb hts in_RX6 hown hK hP 0 rfl rfl 19 (by decide) (hts _ (List.mem_of_getElem? (i := 1) rfl)) (fun _ h9 => h9) rfl dX6_command_51 ?_
        refine lv_if_eq (tgt := 58) hx hb dX6_command_54 (by decide) (fun c_4 => ?_) (fun c_4 => ?_)
        · replace c_4 := zI0 c_4
          refine lv_aload_n hx hb dX6_command_58 rfl (lv_at hl 3 rfl) ?_
          refine lv_dup hx hb dX6_command_59 rfl ?_
          refine va_get (D := D) (ci := 10) (v := .int (nI he)) (C := RX6) (T := TX6) (N := 21) hx hb hts in_RX6 hown hK hP 0 rfl rfl 16 (by decide) (hts _ (List.mem_of_getElem? (i := 2) rfl)) (fun _ h9 => h9) rfl dX6_command_60 ?_
          refine lv_iconst (v := 1) hx hb dX6_command_63 (by decide) ?_
          refine lv_iadd hx hb dX6_command_64 ?_
          refine z_top (y := nI (he + 1)) (nI_add he 1) ?_
          refine va_put (D := D) (ci := 10) (v := .int (nI (he + 1))) (ty := .int) (C := RX6) (T := TX6) (N := 21) hx hb hts in_RX6 tyX6 tyX6_ok nmX6 hown hK hP hD hS 0 rfl rfl 16 (by decide) (hts _ (List.mem_of_getElem? (i := 2) rfl)) (fun _ h9 => h9) rfl (by decide +kernel) rfl rfl (Nat.le_of_ble_eq_true rfl) dX6_command_65 (fun H locs hP hD hS => ?_)
          have hP : va_P D vwCl [(x9, .inr (10, [.int 0, .int (nI ch), .int era, .int why, .int det, .int cau, .int (zI sv), .int (zI rj), .ref v9, .ref b9, .ref s9, .ref k9, .ref p9, .ref t9, .ref n9, .int (nI tn), .int (nI (he + 1)), .int (nI en), .int (nI ln), .int (zI false), .int (zI true)])), (t9, .inl (cy 0, 60, .inl tx)), (v9, .inl (cy 0, 188, .inl v))] H := hP
          have hD : va_D A [(x9, .inr (10, [.int 0, .int (nI ch), .int era, .int why, .int det, .int cau, .int (zI sv), .int (zI rj), .ref v9, .ref b9, .ref s9, .ref k9, .ref p9, .ref t9, .ref n9, .int (nI tn), .int (nI (he + 1)), .int (nI en), .int (nI ln), .int (zI false), .int (zI true)])), (t9, .inl (cy 0, 60, .inl tx)), (v9, .inl (cy 0, 188, .inl v))] := hD
          refine lv_iload_n hx hb dX6_command_68 rfl (lv_at hl 2 rfl) ?_
          refine zcS (As := [.int 120]) (rest := []) [] hg.1 ⟨hx, hb, hml, hown, hts⟩ (c_X6_isNumbered hg l D cy 120) (va_cwS 1 hts gX6_command_X6_isNumbered rfl rfl rfl (by decide +kernel) ⟨Nat.le_of_ble_eq_true rfl, Nat.le_of_ble_eq_true rfl⟩) hG hK hP hD hS hA rfl rfl rfl  rfl hl.1 rfl (Nat.le_of_ble_eq_true rfl) dX6_command_69 ⟨Nat.zero_le _, Nat.zero_le _⟩ (fun H locs hP hD hS => ?_)
          have hP : va_P D vwCl [(x9, .inr (10, [.int 0, .int (nI ch), .int era, .int why, .int det, .int cau, .int (zI sv), .int (zI rj), .ref v9, .ref b9, .ref s9, .ref k9, .ref p9, .ref t9, .ref n9, .int (nI tn), .int (nI (he + 1)), .int (nI en), .int (nI ln), .int (zI false), .int (zI true)])), (t9, .inl (cy 0, 60, .inl tx)), (v9, .inl (cy 0, 188, .inl v))] H := hP
          have hD : va_D A [(x9, .inr (10, [.int 0, .int (nI ch), .int era, .int why, .int det, .int cau, .int (zI sv), .int (zI rj), .ref v9, .ref b9, .ref s9, .ref k9, .ref p9, .ref t9, .ref n9, .int (nI tn), .int (nI (he + 1)), .int (nI en), .int (nI ln), .int (zI false), .int (zI true)])), (t9, .inl (cy 0, 60, .inl tx)), (v9, .inl (cy 0, 188, .inl v))] := hD
          refine z_top (y := zI false) (rfl) ?_
          refine lv_if_eq (tgt := 81) hx hb dX6_command_72 (by decide) (fun c_5 => ?_) (fun c_5 => ?_)
          · replace c_5 := zI0 c_5
            refine lv_iload_n hx hb dX6_command_81 rfl (lv_at hl 2 rfl) ?_
            refine zcS (As := [.int 120]) (rest := []) [] hg.1 ⟨hx, hb, hml, hown, hts⟩ (c_X6_isDigit hg l D cy 120) (va_cwS 1 hts gX6_command_X6_isDigit rfl rfl rfl (by decide +kernel) ⟨Nat.le_of_ble_eq_true rfl, Nat.le_of_ble_eq_true rfl⟩) hG hK hP hD hS hA rfl rfl rfl  rfl hl.1 rfl (Nat.le_of_ble_eq_true rfl) dX6_command_82 ⟨Nat.zero_le _, Nat.zero_le _⟩ (fun H locs hP hD hS => ?_)
            have hP : va_P D vwCl [(x9, .inr (10, [.int 0, .int (nI ch), .int era, .int why, .int det, .int cau, .int (zI sv), .int (zI rj), .ref v9, .ref b9, .ref s9, .ref k9, .ref p9, .ref t9, .ref n9, .int (nI tn), .int (nI (he + 1)), .int (nI en), .int (nI ln), .int (zI false), .int (zI true)])), (t9, .inl (cy 0, 60, .inl tx)), (v9, .inl (cy 0, 188, .inl v))] H := hP
            have hD : va_D A [(x9, .inr (10, [.int 0, .int (nI ch), .int era, .int why, .int det, .int cau, .int (zI sv), .int (zI rj), .ref v9, .ref b9, .ref s9, .ref k9, .ref p9, .ref t9, .ref n9, .int (nI tn), .int (nI (he + 1)), .int (nI en), .int (nI ln), .int (zI false), .int (zI true)])), (t9, .inl (cy 0, 60, .inl tx)), (v9, .inl (cy 0, 188, .inl v))] := hD
            refine z_top (y := zI false) (rfl) ?_
            refine lv_if_eq (tgt := 94) hx hb dX6_command_85 (by decide) (fun c_6 => ?_) (fun c_6 => ?_)
            · replace c_6 := zI0 c_6
              refine lv_iload_n hx hb dX6_command_94 rfl (lv_at hl 2 rfl) ?_
              refine lv_bipush (v := 112) hx hb dX6_command_95 (by decide) ?_
              refine lv_icmp_ne (tgt := 105) hx hb dX6_command_97 (by decide) (fun c_7 => ?_) (fun c_7 => ?_)
              · refine lv_iload_n hx hb dX6_command_105 rfl (lv_at hl 2 rfl) ?_
                refine lv_bipush (v := 99) hx hb dX6_command_106 (by decide) ?_
                refine lv_icmp_ne (tgt := 118) hx hb dX6_command_108 (by decide) (fun c_8 => ?_) (fun c_8 => ?_)
                · refine lv_iload_n hx hb dX6_command_118 rfl (lv_at hl 2 rfl) ?_
                  refine lv_bipush (v := 121) hx hb dX6_command_119 (by decide) ?_
                  refine lv_icmp_ne (tgt := 131) hx hb dX6_command_121 (by decide) (fun c_9 => ?_) (fun c_9 => ?_)
                  · refine lv_aload_n hx hb dX6_command_131 rfl (lv_at hl 3 rfl) ?_
                    refine va_get (D := D) (ci := 10) (v := .int (zI false)) (C := RX6) (T := TX6) (N := 21) hx hb hts in_RX6 hown hK hP 0 rfl rfl 19 (by decide) (hts _ (List.mem_of_getElem? (i := 1) rfl)) (fun _ h9 => h9) rfl dX6_command_132 ?_
                    refine lv_if_ne (tgt := 145) hx hb dX6_command_135 (by decide) (fun c_10 => ?_) (fun c_10 => ?_)
                    · replace c_10 := zI1 c_10
                      exact absurd c_10 (by decide)
                    · replace c_10 := zI0 c_10
                      refine lv_aload_n hx hb dX6_command_138 rfl (lv_at hl 3 rfl) ?_
                      refine va_get (D := D) (ci := 10) (v := .int (zI true)) (C := RX6) (T := TX6) (N := 21) hx hb hts in_RX6 hown hK hP 0 rfl rfl 20 (by decide) (hts _ (List.mem_of_getElem? (i := 3) rfl)) (fun _ h9 => h9) rfl dX6_command_139 ?_
                      refine lv_if_ne (tgt := 146) hx hb dX6_command_142 (by decide) (fun c_11 => ?_) (fun c_11 => ?_)
                      · replace c_11 := zI1 c_11
                        refine lv_aload_n hx hb dX6_command_146 rfl (lv_at hl 3 rfl) ?_
                        refine lv_iload_n hx hb dX6_command_147 rfl (lv_at hl 2 rfl) ?_
                        refine lv_iload_n hx hb dX6_command_148 rfl (lv_at hl 1 rfl) ?_
                        refine lv_iload_n hx hb dX6_command_149 rfl (lv_at hl 0 rfl) ?_
                        refine zcV (As := [.int 120, .int 0, .int 0]) (rest := []) [0, 2] 0 hg.1 ⟨hx, hb, hml, hown, hts⟩ hdo (cwV 3 hts gX6_command_X6_does rfl rfl rfl (by decide +kernel) ⟨Nat.le_of_ble_eq_true rfl, Nat.le_of_ble_eq_true rfl⟩) hG hK hP hD hS hA rfl rfl (Eq.trans (b := [x9, v9]) rfl rfl) rfl rfl rfl hl.1 rfl (Nat.le_of_ble_eq_true rfl) dX6_command_150 ⟨Nat.zero_le _, Nat.zero_le _⟩ (fun H locs hP hD hS => ?_)
                        have hP : va_P D vwCl [(x9, .inr (10, [.int th2, .int (nI ch), .int era, .int why2, .int det2, .int cau2, .int (zI sv), .int (zI rj2), .ref v9, .ref b9, .ref s9, .ref k9, .ref p9, .ref t9, .ref n9, .int (nI tn), .int (nI (he + 1)), .int (nI en), .int (nI ln), .int (zI false), .int (zI true)])), (t9, .inl (cy 0, 60, .inl tx)), (v9, .inl (cy 0, 188, .inl v2))] H := hP
                        have hD : va_D A [(x9, .inr (10, [.int th2, .int (nI ch), .int era, .int why2, .int det2, .int cau2, .int (zI sv), .int (zI rj2), .ref v9, .ref b9, .ref s9, .ref k9, .ref p9, .ref t9, .ref n9, .int (nI tn), .int (nI (he + 1)), .int (nI en), .int (nI ln), .int (zI false), .int (zI true)])), (t9, .inl (cy 0, 60, .inl tx)), (v9, .inl (cy 0, 188, .inl v2))] := hD
                        refine lv_istore (lv' := [(4, .int res2), (3, .int 0), (2, .int 0), (1, .int 120), (0, .ref x9)]) hx hb dX6_command_153 hl (by decide) rfl (fun ls hl => ?_)
                        exact zvret hend hx hb hr hlk hK hP hD hS dX6_command_155 rfl
                      · replace c_11 := zI0 c_11
                        exact absurd c_11 (by decide)
                  · exact absurd c_9 (by decide)
                · exact absurd c_8 (by decide)
              · exact absurd c_7 (by decide)
            · replace c_6 := zI1 c_6
              exact absurd c_6 (by decide)
          · replace c_5 := zI1 c_5
            exact absurd c_5 (by decide)
        · replace c_4 := zI1 c_4
          exact absurd c_4 (by decide)
      · exact absurd c_3 (by decide)

abbrev rmX6_command_d113 : Room := { frames := 6, cells := 0, slots := 0, locals := 139 }
set_option maxHeartbeats 4000000 in
set_option maxRecDepth 100000 in
theorem c_X6_command_d113 {G : zG} (hg : zGN G) (l : Launch) (D : va_G) (cy : Nat → ClassId) (x9 : Nat) (ch : Nat) (era : Int32) (why : Int32) (det : Int32) (cau : Int32) (sv : Bool) (rj : Bool) (v9 : Nat) (b9 : Nat) (s9 : Nat) (k9 : Nat) (p9 : Nat) (t9 : Nat) (n9 : Nat) (tn : Nat) (he : Nat) (en : Nat) (ln : Nat) (iw : Bool) (tx : Nat → Int32) (v : Nat → Int32) (res2 : Int32) (th2 : Int32) (why2 : Int32) (det2 : Int32) (cau2 : Int32) (rj2 : Bool) (v2 : Nat → Int32) (hhe : he ≤ 60) (hen : en ≤ 60) (hc : zqs tx en he = 113) (hdo : zM G D vwCl (zT cy) l yX6_does wsX6_does { frames := 5, cells := 0, slots := 0, locals := 116 } [.ref x9, .int 113, .int 0, .int 0] [(x9, .inr (10, [.int 0, .int (nI ch), .int era, .int why, .int det, .int cau, .int (zI sv), .int (zI rj), .ref v9, .ref b9, .ref s9, .ref k9, .ref p9, .ref t9, .ref n9, .int (nI tn), .int (nI (he + 1)), .int (nI en), .int (nI ln), .int (zI false), .int (zI true)])), (v9, .inl (cy 0, 188, .inl v))] (some (.int res2)) [(x9, .inr (10, [.int th2, .int (nI ch), .int era, .int why2, .int det2, .int cau2, .int (zI sv), .int (zI rj2), .ref v9, .ref b9, .ref s9, .ref k9, .ref p9, .ref t9, .ref n9, .int (nI tn), .int (nI (he + 1)), .int (nI en), .int (nI ln), .int (zI false), .int (zI true)])), (v9, .inl (cy 0, 188, .inl v2))]) : zM G D vwCl (zT cy) l yX6_command wsX6_command rmX6_command_d113 [.ref x9] [(x9, .inr (10, [.int 0, .int (nI ch), .int era, .int why, .int det, .int cau, .int (zI sv), .int (zI rj), .ref v9, .ref b9, .ref s9, .ref k9, .ref p9, .ref t9, .ref n9, .int (nI tn), .int (nI he), .int (nI en), .int (nI ln), .int (zI iw), .int (zI true)])), (t9, .inl (cy 0, 60, .inl tx)), (v9, .inl (cy 0, 188, .inl v))] none [(x9, .inr (10, [.int th2, .int (nI ch), .int era, .int why2, .int det2, .int cau2, .int (zI sv), .int (zI rj2), .ref v9, .ref b9, .ref s9, .ref k9, .ref p9, .ref t9, .ref n9, .int (nI tn), .int (nI (he + 1)), .int (nI en), .int (nI ln), .int (zI false), .int (zI true)])), (t9, .inl (cy 0, 60, .inl tx)), (v9, .inl (cy 0, 188, .inl v2))] := by
  refine zM_of (cc := cX6_command) (maxL := 5) (ret := none) (by decide) rfl (Nat.le_of_ble_eq_true rfl) ?_
  intro p e s m below meth c A Q hend hx hb hml hr hts hown hlk hG hK hP hD hA hS ls hl
  have hown : s.vm.findClass RX6 = some m.cls := hown
  have in_RX6 : ∀ w ∈ u_ws RX6 TX6 21, w ∈ wsX6_command := by decide +kernel
  have hl : lv_has ls 5 [(0, .ref x9)] := hl
  refine lv_aload_n hx hb dX6_command_0 rfl (lv_at hl 0 rfl) ?_
  refine zcV (As := []) (rest := []) [0, 1] 0 hg.1 ⟨hx, hb, hml, hown, hts⟩ (c_X6_sign hg l D cy x9 0 ch era why det cau sv rj v9 b9 s9 k9 p9 t9 n9 tn he en ln iw true tx (by first | assumption | omega) (by first | assumption | omega)) (cwV 0 hts gX6_command_X6_sign rfl rfl rfl (by decide +kernel) ⟨Nat.le_of_ble_eq_true rfl, Nat.le_of_ble_eq_true rfl⟩) hG hK hP hD hS hA rfl rfl rfl rfl rfl rfl hl.1 rfl (Nat.le_of_ble_eq_true rfl) dX6_command_1 ⟨Nat.zero_le _, Nat.zero_le _⟩ (fun H locs hP hD hS => ?_)
  have hP : va_P D vwCl [(x9, .inr (10, [.int 0, .int (nI ch), .int era, .int why, .int det, .int cau, .int (zI sv), .int (zI rj), .ref v9, .ref b9, .ref s9, .ref k9, .ref p9, .ref t9, .ref n9, .int (nI tn), .int (nI he), .int (nI en), .int (nI ln), .int (zI iw), .int (zI true)])), (t9, .inl (cy 0, 60, .inl tx)), (v9, .inl (cy 0, 188, .inl v))] H := hP
  have hD : va_D A [(x9, .inr (10, [.int 0, .int (nI ch), .int era, .int why, .int det, .int cau, .int (zI sv), .int (zI rj), .ref v9, .ref b9, .ref s9, .ref k9, .ref p9, .ref t9, .ref n9, .int (nI tn), .int (nI he), .int (nI en), .int (nI ln), .int (zI iw), .int (zI true)])), (t9, .inl (cy 0, 60, .inl tx)), (v9, .inl (cy 0, 188, .inl v))] := hD
  refine z_top (y := 113) (hc) ?_
  refine lv_istore_n (lv' := [(1, .int 113), (0, .ref x9)]) hx hb dX6_command_4 rfl hl (by decide) rfl (fun ls hl => ?_)
  refine lv_iconst (v := 0) hx hb dX6_command_5 (by decide) ?_
  refine lv_istore_n (lv' := [(2, .int 0), (1, .int 113), (0, .ref x9)]) hx hb dX6_command_6 rfl hl (by decide) rfl (fun ls hl => ?_)
  refine lv_iconst (v := 0) hx hb dX6_command_7 (by decide) ?_
  refine lv_istore_n (lv' := [(3, .int 0), (2, .int 0), (1, .int 113), (0, .ref x9)]) hx hb dX6_command_8 rfl hl (by decide) rfl (fun ls hl => ?_)
  refine lv_aload_n hx hb dX6_command_9 rfl (lv_at hl 3 rfl) ?_
  refine lv_iload_n hx hb dX6_command_10 rfl (lv_at hl 2 rfl) ?_
  refine zcS (As := [.int 113]) (rest := [.ref x9]) [] hg.1 ⟨hx, hb, hml, hown, hts⟩ (c_X6_isNumbered hg l D cy 113) (va_cwS 1 hts gX6_command_X6_isNumbered rfl rfl rfl (by decide +kernel) ⟨Nat.le_of_ble_eq_true rfl, Nat.le_of_ble_eq_true rfl⟩) hG hK hP hD hS hA rfl rfl rfl  rfl hl.1 rfl (Nat.le_of_ble_eq_true rfl) dX6_command_11 ⟨Nat.zero_le _, Nat.zero_le _⟩ (fun H locs hP hD hS => ?_)
  have hP : va_P D vwCl [(x9, .inr (10, [.int 0, .int (nI ch), .int era, .int why, .int det, .int cau, .int (zI sv), .int (zI rj), .ref v9, .ref b9, .ref s9, .ref k9, .ref p9, .ref t9, .ref n9, .int (nI tn), .int (nI he), .int (nI en), .int (nI ln), .int (zI iw), .int (zI true)])), (t9, .inl (cy 0, 60, .inl tx)), (v9, .inl (cy 0, 188, .inl v))] H := hP
  have hD : va_D A [(x9, .inr (10, [.int 0, .int (nI ch), .int era, .int why, .int det, .int cau, .int (zI sv), .int (zI rj), .ref v9, .ref b9, .ref s9, .ref k9, .ref p9, .ref t9, .ref n9, .int (nI tn), .int (nI he), .int (nI en), .int (nI ln), .int (zI iw), .int (zI true)])), (t9, .inl (cy 0, 60, .inl tx)), (v9, .inl (cy 0, 188, .inl v))] := hD
  refine z_top (y := zI false) (rfl) ?_
  refine lv_if_ne (tgt := 46) hx hb dX6_command_14 (by decide) (fun c_1 => ?_) (fun c_1 => ?_)
  · replace c_1 := zI1 c_1
    exact absurd c_1 (by decide)
  · replace c_1 := zI0 c_1
    refine lv_iload_n hx hb dX6_command_17 rfl (lv_at hl 2 rfl) ?_
    refine zcS (As := [.int 113]) (rest := [.ref x9]) [] hg.1 ⟨hx, hb, hml, hown, hts⟩ (c_X6_isDigit hg l D cy 113) (va_cwS 1 hts gX6_command_X6_isDigit rfl rfl rfl (by decide +kernel) ⟨Nat.le_of_ble_eq_true rfl, Nat.le_of_ble_eq_true rfl⟩) hG hK hP hD hS hA rfl rfl rfl  rfl hl.1 rfl (Nat.le_of_ble_eq_true rfl) dX6_command_18 ⟨Nat.zero_le _, Nat.zero_le _⟩ (fun H locs hP hD hS => ?_)
    have hP : va_P D vwCl [(x9, .inr (10, [.int 0, .int (nI ch), .int era, .int why, .int det, .int cau, .int (zI sv), .int (zI rj), .ref v9, .ref b9, .ref s9, .ref k9, .ref p9, .ref t9, .ref n9, .int (nI tn), .int (nI he), .int (nI en), .int (nI ln), .int (zI iw), .int (zI true)])), (t9, .inl (cy 0, 60, .inl tx)), (v9, .inl (cy 0, 188, .inl v))] H := hP
    have hD : va_D A [(x9, .inr (10, [.int 0, .int (nI ch), .int era, .int why, .int det, .int cau, .int (zI sv), .int (zI rj), .ref v9, .ref b9, .ref s9, .ref k9, .ref p9, .ref t9, .ref n9, .int (nI tn), .int (nI he), .int (nI en), .int (nI ln), .int (zI iw), .int (zI true)])), (t9, .inl (cy 0, 60, .inl tx)), (v9, .inl (cy 0, 188, .inl v))] := hD
    refine z_top (y := zI false) (rfl) ?_
    refine lv_if_ne (tgt := 46) hx hb dX6_command_21 (by decide) (fun c_2 => ?_) (fun c_2 => ?_)
    · replace c_2 := zI1 c_2
      exact absurd c_2 (by decide)
    · replace c_2 := zI0 c_2
      refine lv_iload_n hx hb dX6_command_24 rfl (lv_at hl 2 rfl) ?_
      refine lv_bipush (v := 120) hx hb dX6_command_25 (by decide) ?_
      refine lv_icmp_eq (tgt := 46) hx hb dX6_command_27 (by decide) (fun c_3 => ?_) (fun c_3 => ?_)
      · exact absurd c_3 (by decide)
      · refine lv_iload_n hx hb dX6_command_30 rfl (lv_at hl 2 rfl) ?_
        refine lv_bipush (v := 112) hx hb dX6_command_31 (by decide) ?_
        refine lv_icmp_eq (tgt := 46) hx hb dX6_command_33 (by decide) (fun c_4 => ?_) (fun c_4 => ?_)
        · exact absurd c_4 (by decide)
        · refine lv_iload_n hx hb dX6_command_36 rfl (lv_at hl 2 rfl) ?_
          refine lv_bipush (v := 113) hx hb dX6_command_37 (by decide) ?_
          refine lv_icmp_eq (tgt := 46) hx hb dX6_command_39 (by decide) (fun c_5 => ?_) (fun c_5 => ?_)
          · refine lv_iconst (v := 0) hx hb dX6_command_46 (by decide) ?_
            refine z_top (y := zI false) rfl ?_
            refine va_put (D := D) (ci := 10) (v := .int (zI false)) (ty := .boolean) (C := RX6) (T := TX6) (N := 21) hx hb hts in_RX6 tyX6 tyX6_ok nmX6 hown hK hP hD hS 0 rfl rfl 19 (by decide) (hts _ (List.mem_of_getElem? (i := 1) rfl)) (fun _ h9 => h9) rfl (by decide +kernel) (zI_nar _) (zI_fit _) (Nat.le_of_ble_eq_true rfl) dX6_command_47 (fun H locs hP hD hS => ?_)
            have hP : va_P D vwCl [(x9, .inr (10, [.int 0, .int (nI ch), .int era, .int why, .int det, .int cau, .int (zI sv), .int (zI rj), .ref v9, .ref b9, .ref s9, .ref k9, .ref p9, .ref t9, .ref n9, .int (nI tn), .int (nI he), .int (nI en), .int (nI ln), .int (zI false), .int (zI true)])), (t9, .inl (cy 0, 60, .inl tx)), (v9, .inl (cy 0, 188, .inl v))] H := hP
            have hD : va_D A [(x9, .inr (10, [.int 0, .int (nI ch), .int era, .int why, .int det, .int cau, .int (zI sv), .int (zI rj), .ref v9, .ref b9, .ref s9, .ref k9, .ref p9, .ref t9, .ref n9, .int (nI tn), .int (nI he), .int (nI en), .int (nI ln), .int (zI false), .int (zI true)])), (t9, .inl (cy 0, 60, .inl tx)), (v9, .inl (cy 0, 188, .inl v))] := hD
            refine lv_aload_n hx hb dX6_command_50 rfl (lv_at hl 3 rfl) ?_
            refine va_get (D := D) (ci := 10) (v := .int (zI false)) (C := RX6) (T := TX6) (N := 21) hx hb hts in_RX6 hown hK hP 0 rfl rfl 19 (by decide) (hts _ (List.mem_of_getElem? (i := 1) rfl)) (fun _ h9 => h9) rfl dX6_command_51 ?_
            refine lv_if_eq (tgt := 58) hx hb dX6_command_54 (by decide) (fun c_6 => ?_) (fun c_6 => ?_)
            · replace c_6 := zI0 c_6
              refine lv_aload_n hx hb dX6_command_58 rfl (lv_at hl 3 rfl) ?_
              refine lv_dup hx hb dX6_command_59 rfl ?_
              refine va_get (D := D) (ci := 10) (v := .int (nI he)) (C := RX6) (T := TX6) (N := 21) hx hb hts in_RX6 hown hK hP 0 rfl rfl 16 (by decide) (hts _ (List.mem_of_getElem? (i := 2) rfl)) (fun _ h9 => h9) rfl dX6_command_60 ?_
              refine lv_iconst (v := 1) hx hb dX6_command_63 (by decide) ?_
              refine lv_iadd hx hb dX6_command_64 ?_
              refine z_top (y := nI (he + 1)) (nI_add he 1) ?_
              refine va_put (D := D) (ci := 10) (v := .int (nI (he + 1))) (ty := .int) (C := RX6) (T := TX6) (N := 21) hx hb hts in_RX6 tyX6 tyX6_ok nmX6 hown hK hP hD hS 0 rfl rfl 16 (by decide) (hts _ (List.mem_of_getElem? (i := 2) rfl)) (fun _ h9 => h9) rfl (by decide +kernel) rfl rfl (Nat.le_of_ble_eq_true rfl) dX6_command_65 (fun H locs hP hD hS => ?_)
              have hP : va_P D vwCl [(x9, .inr (10, [.int 0, .int (nI ch), .int era, .int why, .int det, .int cau, .int (zI sv), .int (zI rj), .ref v9, .ref b9, .ref s9, .ref k9, .ref p9, .ref t9, .ref n9, .int (nI tn), .int (nI (he + 1)), .int (nI en), .int (nI ln), .int (zI false), .int (zI true)])), (t9, .inl (cy 0, 60, .inl tx)), (v9, .inl (cy 0, 188, .inl v))] H := hP
              have hD : va_D A [(x9, .inr (10, [.int 0, .int (nI ch), .int era, .int why, .int det, .int cau, .int (zI sv), .int (zI rj), .ref v9, .ref b9, .ref s9, .ref k9, .ref p9, .ref t9, .ref n9, .int (nI tn), .int (nI (he + 1)), .int (nI en), .int (nI ln), .int (zI false), .int (zI true)])), (t9, .inl (cy 0, 60, .inl tx)), (v9, .inl (cy 0, 188, .inl v))] := hD
              refine lv_iload_n hx hb dX6_command_68 rfl (lv_at hl 2 rfl) ?_
              refine zcS (As := [.int 113]) (rest := []) [] hg.1 ⟨hx, hb, hml, hown, hts⟩ (c_X6_isNumbered hg l D cy 113) (va_cwS 1 hts gX6_command_X6_isNumbered rfl rfl rfl (by decide +kernel) ⟨Nat.le_of_ble_eq_true rfl, Nat.le_of_ble_eq_true rfl⟩) hG hK hP hD hS hA rfl rfl rfl  rfl hl.1 rfl (Nat.le_of_ble_eq_true rfl) dX6_command_69 ⟨Nat.zero_le _, Nat.zero_le _⟩ (fun H locs hP hD hS => ?_)
              have hP : va_P D vwCl [(x9, .inr (10, [.int 0, .int (nI ch), .int era, .int why, .int det, .int cau, .int (zI sv), .int (zI rj), .ref v9, .ref b9, .ref s9, .ref k9, .ref p9, .ref t9, .ref n9, .int (nI tn), .int (nI (he + 1)), .int (nI en), .int (nI ln), .int (zI false), .int (zI true)])), (t9, .inl (cy 0, 60, .inl tx)), (v9, .inl (cy 0, 188, .inl v))] H := hP
              have hD : va_D A [(x9, .inr (10, [.int 0, .int (nI ch), .int era, .int why, .int det, .int cau, .int (zI sv), .int (zI rj), .ref v9, .ref b9, .ref s9, .ref k9, .ref p9, .ref t9, .ref n9, .int (nI tn), .int (nI (he + 1)), .int (nI en), .int (nI ln), .int (zI false), .int (zI true)])), (t9, .inl (cy 0, 60, .inl tx)), (v9, .inl (cy 0, 188, .inl v))] := hD
              refine z_top (y := zI false) (rfl) ?_
              refine lv_if_eq (tgt := 81) hx hb dX6_command_72 (by decide) (fun c_7 => ?_) (fun c_7 => ?_)
              · replace c_7 := zI0 c_7
                refine lv_iload_n hx hb dX6_command_81 rfl (lv_at hl 2 rfl) ?_
                refine zcS (As := [.int 113]) (rest := []) [] hg.1 ⟨hx, hb, hml, hown, hts⟩ (c_X6_isDigit hg l D cy 113) (va_cwS 1 hts gX6_command_X6_isDigit rfl rfl rfl (by decide +kernel) ⟨Nat.le_of_ble_eq_true rfl, Nat.le_of_ble_eq_true rfl⟩) hG hK hP hD hS hA rfl rfl rfl  rfl hl.1 rfl (Nat.le_of_ble_eq_true rfl) dX6_command_82 ⟨Nat.zero_le _, Nat.zero_le _⟩ (fun H locs hP hD hS => ?_)
                have hP : va_P D vwCl [(x9, .inr (10, [.int 0, .int (nI ch), .int era, .int why, .int det, .int cau, .int (zI sv), .int (zI rj), .ref v9, .ref b9, .ref s9, .ref k9, .ref p9, .ref t9, .ref n9, .int (nI tn), .int (nI (he + 1)), .int (nI en), .int (nI ln), .int (zI false), .int (zI true)])), (t9, .inl (cy 0, 60, .inl tx)), (v9, .inl (cy 0, 188, .inl v))] H := hP
                have hD : va_D A [(x9, .inr (10, [.int 0, .int (nI ch), .int era, .int why, .int det, .int cau, .int (zI sv), .int (zI rj), .ref v9, .ref b9, .ref s9, .ref k9, .ref p9, .ref t9, .ref n9, .int (nI tn), .int (nI (he + 1)), .int (nI en), .int (nI ln), .int (zI false), .int (zI true)])), (t9, .inl (cy 0, 60, .inl tx)), (v9, .inl (cy 0, 188, .inl v))] := hD
                refine z_top (y := zI false) (rfl) ?_
                refine lv_if_eq (tgt := 94) hx hb dX6_command_85 (by decide) (fun c_8 => ?_) (fun c_8 => ?_)
                · replace c_8 := zI0 c_8
                  refine lv_iload_n hx hb dX6_command_94 rfl (lv_at hl 2 rfl) ?_
                  refine lv_bipush (v := 112) hx hb dX6_command_95 (by decide) ?_
                  refine lv_icmp_ne (tgt := 105) hx hb dX6_command_97 (by decide) (fun c_9 => ?_) (fun c_9 => ?_)
                  · refine lv_iload_n hx hb dX6_command_105 rfl (lv_at hl 2 rfl) ?_
                    refine lv_bipush (v := 99) hx hb dX6_command_106 (by decide) ?_
                    refine lv_icmp_ne (tgt := 118) hx hb dX6_command_108 (by decide) (fun c_10 => ?_) (fun c_10 => ?_)
                    · refine lv_iload_n hx hb dX6_command_118 rfl (lv_at hl 2 rfl) ?_
                      refine lv_bipush (v := 121) hx hb dX6_command_119 (by decide) ?_
                      refine lv_icmp_ne (tgt := 131) hx hb dX6_command_121 (by decide) (fun c_11 => ?_) (fun c_11 => ?_)
                      · refine lv_aload_n hx hb dX6_command_131 rfl (lv_at hl 3 rfl) ?_
                        refine va_get (D := D) (ci := 10) (v := .int (zI false)) (C := RX6) (T := TX6) (N := 21) hx hb hts in_RX6 hown hK hP 0 rfl rfl 19 (by decide) (hts _ (List.mem_of_getElem? (i := 1) rfl)) (fun _ h9 => h9) rfl dX6_command_132 ?_
                        refine lv_if_ne (tgt := 145) hx hb dX6_command_135 (by decide) (fun c_12 => ?_) (fun c_12 => ?_)
                        · replace c_12 := zI1 c_12
                          exact absurd c_12 (by decide)
                        · replace c_12 := zI0 c_12
                          refine lv_aload_n hx hb dX6_command_138 rfl (lv_at hl 3 rfl) ?_
                          refine va_get (D := D) (ci := 10) (v := .int (zI true)) (C := RX6) (T := TX6) (N := 21) hx hb hts in_RX6 hown hK hP 0 rfl rfl 20 (by decide) (hts _ (List.mem_of_getElem? (i := 3) rfl)) (fun _ h9 => h9) rfl dX6_command_139 ?_
                          refine lv_if_ne (tgt := 146) hx hb dX6_command_142 (by decide) (fun c_13 => ?_) (fun c_13 => ?_)
                          · replace c_13 := zI1 c_13
                            refine lv_aload_n hx hb dX6_command_146 rfl (lv_at hl 3 rfl) ?_
                            refine lv_iload_n hx hb dX6_command_147 rfl (lv_at hl 2 rfl) ?_
                            refine lv_iload_n hx hb dX6_command_148 rfl (lv_at hl 1 rfl) ?_
                            refine lv_iload_n hx hb dX6_command_149 rfl (lv_at hl 0 rfl) ?_
                            refine zcV (As := [.int 113, .int 0, .int 0]) (rest := []) [0, 2] 0 hg.1 ⟨hx, hb, hml, hown, hts⟩ hdo (cwV 3 hts gX6_command_X6_does rfl rfl rfl (by decide +kernel) ⟨Nat.le_of_ble_eq_true rfl, Nat.le_of_ble_eq_true rfl⟩) hG hK hP hD hS hA rfl rfl (Eq.trans (b := [x9, v9]) rfl rfl) rfl rfl rfl hl.1 rfl (Nat.le_of_ble_eq_true rfl) dX6_command_150 ⟨Nat.zero_le _, Nat.zero_le _⟩ (fun H locs hP hD hS => ?_)
                            have hP : va_P D vwCl [(x9, .inr (10, [.int th2, .int (nI ch), .int era, .int why2, .int det2, .int cau2, .int (zI sv), .int (zI rj2), .ref v9, .ref b9, .ref s9, .ref k9, .ref p9, .ref t9, .ref n9, .int (nI tn), .int (nI (he + 1)), .int (nI en), .int (nI ln), .int (zI false), .int (zI true)])), (t9, .inl (cy 0, 60, .inl tx)), (v9, .inl (cy 0, 188, .inl v2))] H := hP
                            have hD : va_D A [(x9, .inr (10, [.int th2, .int (nI ch), .int era, .int why2, .int det2, .int cau2, .int (zI sv), .int (zI rj2), .ref v9, .ref b9, .ref s9, .ref k9, .ref p9, .ref t9, .ref n9, .int (nI tn), .int (nI (he + 1)), .int (nI en), .int (nI ln), .int (zI false), .int (zI true)])), (t9, .inl (cy 0, 60, .inl tx)), (v9, .inl (cy 0, 188, .inl v2))] := hD
                            refine lv_istore (lv' := [(4, .int res2), (3, .int 0), (2, .int 0), (1, .int 113), (0, .ref x9)]) hx hb dX6_command_153 hl (by decide) rfl (fun ls hl => ?_)
                            exact zvret hend hx hb hr hlk hK hP hD hS dX6_command_155 rfl
                          · replace c_13 := zI0 c_13
                            exact absurd c_13 (by decide)
                      · exact absurd c_11 (by decide)
                    · exact absurd c_10 (by decide)
                  · exact absurd c_9 (by decide)
                · replace c_8 := zI1 c_8
                  exact absurd c_8 (by decide)
              · replace c_7 := zI1 c_7
                exact absurd c_7 (by decide)
            · replace c_6 := zI1 c_6
              exact absurd c_6 (by decide)
          · exact absurd c_5 (by decide)
