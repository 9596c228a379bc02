theorem zpsV_n {st : Int32} {v : Nat → Int32} {j : Nat} (h : j < 10 ∨ 57 < j) : ∀ {n : Nat}, n ≤ 24 → zpsV st v n j = v j := by
  intro n
  induction n with
  | zero => intro _; rfl
  | succ k ih =>
    intro hk
    simp only [zpsV]
    split
    · rw [zpt_n (by omega) (by omega)]; exact ih (by omega)
    · rw [zpt_n (by omega) (by omega)]; exact ih (by omega)
/-- a course is paid for and written down -/
def zkc0 (v : Nat → Int32) (ac rw cn : Nat) : Nat → Int32 := upd (upd (upd v (58 + ac) (v (58 + ac) - zwd6 v rw cn 24 * v 3)) 8 (upd v (58 + ac) (v (58 + ac) - zwd6 v rw cn 24 * v 3) 8 + zwd6 v rw cn 24 * v 3)) (68 + 4 * cn) (zwd6 v rw cn 24)
def zkc1 (v : Nat → Int32) (ac rw cn : Nat) : Nat → Int32 := upd (upd (zkc0 v ac rw cn) (68 + 4 * cn + 1) (nI ac)) (68 + 4 * cn + 2) (zwd6 v rw cn 24 * v 3)
def zkc2 (v : Nat → Int32) (ac rw cn : Nat) : Nat → Int32 := upd (zpsV (zst6 (zkc1 v ac rw cn) rw cn 24) (zkc1 v ac rw cn) 24) (68 + 4 * cn + 3) (zpsD (zst6 (zkc1 v ac rw cn) rw cn 24) (zkc1 v ac rw cn) 24)
def zkc3 (v : Nat → Int32) (ac rw cn : Nat) : Nat → Int32 := upd (zkc2 v ac rw cn) 9 (zkc2 v ac rw cn 9 + zkc2 v ac rw cn (68 + 4 * cn + 3))
def zkcV (v : Nat → Int32) (ac rw cn : Nat) : Nat → Int32 := upd (zkc3 v ac rw cn) 5 (nI (cn + 1))
theorem zkc0_n {v : Nat → Int32} {ac rw cn j : Nat} (h1 : ¬ j = 58 + ac) (h2 : ¬ j = 8) (h3 : j < 68) : zkc0 v ac rw cn j = v j := by
  simp only [zkc0]
  rw [upd_n (by omega), upd_n h2, upd_n h1]
theorem zkc1_n {v : Nat → Int32} {ac rw cn j : Nat} (h1 : ¬ j = 58 + ac) (h2 : ¬ j = 8) (h3 : j < 68) : zkc1 v ac rw cn j = v j := by
  simp only [zkc1]
  rw [upd_n (by omega), upd_n (by omega), zkc0_n h1 h2 h3]
theorem zkc3_n {v : Nat → Int32} {ac rw cn j : Nat} (h1 : ¬ j = 58 + ac) (h2 : ¬ j = 8) (h3 : ¬ j = 9) (h4 : j < 10 ∨ 57 < j ∧ j < 68) : zkc3 v ac rw cn j = v j := by
  simp only [zkc3]
  rw [upd_n h3]
  simp only [zkc2]
  rw [upd_n (by omega), zpsV_n (by omega) (Nat.le_refl _), zkc1_n h1 h2 (by omega)]
theorem zkcV_n {v : Nat → Int32} {ac rw cn j : Nat} (h1 : ¬ j = 58 + ac) (h2 : ¬ j = 8) (h3 : ¬ j = 9) (h5 : ¬ j = 5) (h4 : j < 10 ∨ 57 < j ∧ j < 68) : zkcV v ac rw cn j = v j := by
  simp only [zkcV]
  rw [upd_n h5, zkc3_n h1 h2 h3 h4]
/-- several courses, one after the other -/
def zkV6 (v : Nat → Int32) (ac rw cn : Nat) : Nat → (Nat → Int32)
  | 0 => v
  | k + 1 => zkcV (zkV6 v ac rw cn k) ac rw (cn + k)
def zkW6 (v : Nat → Int32) (ac rw cn : Nat) : Nat → Int32
  | 0 => 0
  | k + 1 => zkW6 v ac rw cn k + zwd6 (zkV6 v ac rw cn k) rw (cn + k) 24
theorem zkV6_2 {v : Nat → Int32} {ac rw cn : Nat} (h : v 2 = nI ac) (ha : ac < 4) (hr : rw ≤ 6) {k : Nat} (hk : cn + k ≤ 30) : zkV6 v ac rw cn k 2 = nI ac := by
  induction k with
  | zero => exact h
  | succ k ih => exact (zkcV_n (by omega) (by omega) (by omega) (by omega) (by omega)).trans (ih (by omega))
theorem zkV6_4 {v : Nat → Int32} {ac rw cn : Nat} (h : v 4 = nI rw) (ha : ac < 4) (hr : rw ≤ 6) {k : Nat} (hk : cn + k ≤ 30) : zkV6 v ac rw cn k 4 = nI rw := by
  induction k with
  | zero => exact h
  | succ k ih => exact (zkcV_n (by omega) (by omega) (by omega) (by omega) (by omega)).trans (ih (by omega))
theorem zkV6_5 {v : Nat → Int32} {ac rw cn : Nat} (h : v 5 = nI cn) (ha : ac < 4) (hr : rw ≤ 6) {k : Nat} (hk : cn + k ≤ 30) : zkV6 v ac rw cn k 5 = nI (cn + k) := by
  cases k with
  | zero => exact h
  | succ k => simp only [zkV6, zkcV]; rw [upd_s]; rfl
abbrev rmX6_courses_ok : Room := { frames := 3, cells := 0, slots := 0, locals := 69 }
set_option maxHeartbeats 4000000 in
set_option maxRecDepth 100000 in
theorem c_X6_courses_ok {G : zG} (hg : zGN G) (l : Launch) (D : va_G) (cy : Nat → ClassId) (x9 : Nat) (th : Int32) (ch : Nat) (era : Int32) (why : Int32) (det : Int32) (cau : Int32) (sv : Bool) (rj : Bool) (v9 : Nat) (b9 : Nat) (s9 : Nat) (k9 : Nat) (p9 : Nat) (t9 : Nat) (n9 : Nat) (tn : Nat) (he : Nat) (en : Nat) (ln : Nat) (iw : Bool) (dg : Bool) (v : Nat → Int32) (ac : Nat) (rw : Nat) (cn : Nat) (hv2 : v 2 = nI ac) (hv4 : v 4 = nI rw) (hv5 : v 5 = nI cn) (hrw : rw ≤ 6) (hac : ac < 4) (hcn : cn ≤ 30) (hr0 : zrc6 v ac rw cn = 0) : zM G D vwCl (zT cy) l yX6_courses wsX6_courses rmX6_courses_ok [.ref x9] [(x9, .inr (10, [.int th, .int (nI ch), .int era, .int why, .int det, .int cau, .int (zI sv), .int (zI rj), .ref v9, .ref b9, .ref s9, .ref k9, .ref p9, .ref t9, .ref n9, .int (nI tn), .int (nI he), .int (nI en), .int (nI ln), .int (zI iw), .int (zI dg)])), (v9, .inl (cy 0, 188, .inl v))] (some (.int (zwd6 v rw cn 24))) [(x9, .inr (10, [.int th, .int (nI ch), .int era, .int why, .int det, .int cau, .int (zI sv), .int (zI rj), .ref v9, .ref b9, .ref s9, .ref k9, .ref p9, .ref t9, .ref n9, .int (nI tn), .int (nI he), .int (nI en), .int (nI ln), .int (zI iw), .int (zI dg)])), (v9, .inl (cy 0, 188, .inl (zkcV v ac rw cn)))] := by
  refine zM_of (cc := cX6_courses) (maxL := 5) (ret := (some .int)) (by decide) rfl (Nat.le_of_ble_eq_true rfl) ?_
  intro p e s m below meth c A Q hend hx hb hml hr hts hown hlk hG hK hP hD hA hS ls hl
  have hown : s.vm.findClass RX6 = some m.cls := hown
  have in_RX6 : ∀ w ∈ u_ws RX6 TX6 21, w ∈ wsX6_courses := by decide +kernel
  have hl : lv_has ls 5 [(0, .ref x9)] := hl
  refine lv_aload_n hx hb dX6_courses_0 rfl (lv_at hl 0 rfl) ?_
  refine va_get (D := D) (ci := 10) (v := .ref v9) (C := RX6) (T := TX6) (N := 21) hx hb hts in_RX6 hown hK hP 0 rfl rfl 8 (by decide) (hts _ (List.mem_of_getElem? (i := 1) rfl)) (fun _ h9 => h9) rfl dX6_courses_1 ?_
  refine lv_iconst (v := 5) hx hb dX6_courses_4 (by decide) ?_
  refine ziald 1 0 5 hx hb hK hP rfl rfl (by omega) (z_lt rfl) dX6_courses_5 ?_
  refine z_top (y := nI cn) (hv5) ?_
  refine lv_istore_n (lv' := [(1, .int (nI cn)), (0, .ref x9)]) hx hb dX6_courses_6 rfl hl (by decide) rfl (fun ls hl => ?_)
  refine lv_aload_n hx hb dX6_courses_7 rfl (lv_at hl 1 rfl) ?_
  refine lv_iload_n hx hb dX6_courses_8 rfl (lv_at hl 0 rfl) ?_
  refine zcV (As := [.int (nI cn)]) (rest := []) [0, 1] 0 hg.1 ⟨hx, hb, hml, hown, hts⟩ (c_X6_wide hg l D cy x9 th ch era why det cau sv rj v9 b9 s9 k9 p9 t9 n9 tn he en ln iw dg v cn rw (by first | assumption | omega) (by first | assumption | omega) (by first | assumption | omega)) (cwV 1 hts gX6_courses_X6_wide rfl rfl rfl (by decide +kernel) ⟨Nat.le_of_ble_eq_true rfl, Nat.le_of_ble_eq_true rfl⟩) hG hK hP hD hS hA rfl rfl rfl rfl rfl rfl hl.1 rfl (Nat.le_of_ble_eq_true rfl) dX6_courses_9 ⟨Nat.zero_le _, Nat.zero_le _⟩ (fun H locs hP hD hS => ?_)
  have hP : va_P D vwCl [(x9, .inr (10, [.int th, .int (nI ch), .int era, .int why, .int det, .int cau, .int (zI sv), .int (zI rj), .ref v9, .ref b9, .ref s9, .ref k9, .ref p9, .ref t9, .ref n9, .int (nI tn), .int (nI he), .int (nI en), .int (nI ln), .int (zI iw), .int (zI dg)])), (v9, .inl (cy 0, 188, .inl v))] H := hP
  have hD : va_D A [(x9, .inr (10, [.int th, .int (nI ch), .int era, .int why, .int det, .int cau, .int (zI sv), .int (zI rj), .ref v9, .ref b9, .ref s9, .ref k9, .ref p9, .ref t9, .ref n9, .int (nI tn), .int (nI he), .int (nI en), .int (nI ln), .int (zI iw), .int (zI dg)])), (v9, .inl (cy 0, 188, .inl v))] := hD
  refine lv_istore_n (lv' := [(2, .int (zwd6 v rw cn 24)), (1, .int (nI cn)), (0, .ref x9)]) hx hb dX6_courses_12 rfl hl (by decide) rfl (fun ls hl => ?_)
  refine lv_iload_n hx hb dX6_courses_13 rfl (lv_at hl 0 rfl) ?_
  refine lv_aload_n hx hb dX6_courses_14 rfl (lv_at hl 2 rfl) ?_
  refine va_get (D := D) (ci := 10) (v := .ref v9) (C := RX6) (T := TX6) (N := 21) hx hb hts in_RX6 hown hK hP 0 rfl rfl 8 (by decide) (hts _ (List.mem_of_getElem? (i := 1) rfl)) (fun _ h9 => h9) rfl dX6_courses_15 ?_
  refine lv_iconst (v := 3) hx hb dX6_courses_18 (by decide) ?_
  refine ziald 1 0 3 hx hb hK hP rfl rfl (by omega) (z_lt rfl) dX6_courses_19 ?_
  refine lv_imul hx hb dX6_courses_20 ?_
  refine lv_istore_n (lv' := [(3, .int ((zwd6 v rw cn 24) * (v 3))), (2, .int (zwd6 v rw cn 24)), (1, .int (nI cn)), (0, .ref x9)]) hx hb dX6_courses_21 rfl hl (by decide) rfl (fun ls hl => ?_)
  refine lv_bipush (v := 68) hx hb dX6_courses_22 (by decide) ?_
  refine lv_iconst (v := 4) hx hb dX6_courses_24 (by decide) ?_
  refine lv_iload_n hx hb dX6_courses_25 rfl (lv_at hl 2 rfl) ?_
  refine lv_imul hx hb dX6_courses_26 ?_
  refine z_top (y := nI (4 * cn)) (pk_mul 4 cn) ?_
  refine lv_iadd hx hb dX6_courses_27 ?_
  refine z_top (y := nI (68 + (4 * cn))) (nI_add 68 (4 * cn)) ?_
  refine lv_istore (lv' := [(4, .int (nI (68 + (4 * cn)))), (3, .int ((zwd6 v rw cn 24) * (v 3))), (2, .int (zwd6 v rw cn 24)), (1, .int (nI cn)), (0, .ref x9)]) hx hb dX6_courses_28 hl (by decide) rfl (fun ls hl => ?_)
  refine lv_iload_n hx hb dX6_courses_30 rfl (lv_at hl 3 rfl) ?_
  refine lv_bipush (v := 30) hx hb dX6_courses_31 (by decide) ?_
  refine lv_icmp_ne (tgt := 46) hx hb dX6_courses_33 (by decide) (fun c_1 => ?_) (fun c_1 => ?_)
  · have hc3 : ¬ cn = 30 := fun z => c_1 (by rw [z]; rfl)
    have hc4 : cn < 30 := by omega
    refine lv_iload_n hx hb dX6_courses_46 rfl (lv_at hl 2 rfl) ?_
    refine lv_if_ne (tgt := 59) hx hb dX6_courses_47 (by decide) (fun c_2 => ?_) (fun c_2 => ?_)
    · refine lv_aload_n hx hb dX6_courses_59 rfl (lv_at hl 4 rfl) ?_
      refine va_get (D := D) (ci := 10) (v := .ref v9) (C := RX6) (T := TX6) (N := 21) hx hb hts in_RX6 hown hK hP 0 rfl rfl 8 (by decide) (hts _ (List.mem_of_getElem? (i := 1) rfl)) (fun _ h9 => h9) rfl dX6_courses_60 ?_
      refine lv_bipush (v := 58) hx hb dX6_courses_63 (by decide) ?_
      refine lv_aload_n hx hb dX6_courses_65 rfl (lv_at hl 4 rfl) ?_
      refine va_get (D := D) (ci := 10) (v := .ref v9) (C := RX6) (T := TX6) (N := 21) hx hb hts in_RX6 hown hK hP 0 rfl rfl 8 (by decide) (hts _ (List.mem_of_getElem? (i := 1) rfl)) (fun _ h9 => h9) rfl dX6_courses_66 ?_
      refine lv_iconst (v := 2) hx hb dX6_courses_69 (by decide) ?_
      refine ziald 1 0 2 hx hb hK hP rfl rfl (by omega) (z_lt rfl) dX6_courses_70 ?_
      refine z_top (y := nI ac) (hv2) ?_
      refine lv_iadd hx hb dX6_courses_71 ?_
      refine z_top (y := nI (58 + ac)) (nI_add 58 ac) ?_
      refine ziald 1 0 (58 + ac) hx hb hK hP rfl rfl (by omega) (z_lt rfl) dX6_courses_72 ?_
      refine lv_iload_n hx hb dX6_courses_73 rfl (lv_at hl 1 rfl) ?_
      refine lv_icmp_ge (tgt := 86) hx hb dX6_courses_74 (by decide) (fun c_3 => ?_) (fun c_3 => ?_)
      · refine lv_aload_n hx hb dX6_courses_86 rfl (lv_at hl 4 rfl) ?_
        refine va_get (D := D) (ci := 10) (v := .ref v9) (C := RX6) (T := TX6) (N := 21) hx hb hts in_RX6 hown hK hP 0 rfl rfl 8 (by decide) (hts _ (List.mem_of_getElem? (i := 1) rfl)) (fun _ h9 => h9) rfl dX6_courses_87 ?_
        refine lv_bipush (v := 58) hx hb dX6_courses_90 (by decide) ?_
        refine lv_aload_n hx hb dX6_courses_92 rfl (lv_at hl 4 rfl) ?_
        refine va_get (D := D) (ci := 10) (v := .ref v9) (C := RX6) (T := TX6) (N := 21) hx hb hts in_RX6 hown hK hP 0 rfl rfl 8 (by decide) (hts _ (List.mem_of_getElem? (i := 1) rfl)) (fun _ h9 => h9) rfl dX6_courses_93 ?_
        refine lv_iconst (v := 2) hx hb dX6_courses_96 (by decide) ?_
        refine ziald 1 0 2 hx hb hK hP rfl rfl (by omega) (z_lt rfl) dX6_courses_97 ?_
        refine z_top (y := nI ac) (hv2) ?_
        refine lv_iadd hx hb dX6_courses_98 ?_
        refine z_top (y := nI (58 + ac)) (nI_add 58 ac) ?_
        refine lv_dup2_11 hx hb dX6_courses_99 rfl rfl ?_
        refine ziald 1 0 (58 + ac) hx hb hK hP rfl rfl (by omega) (z_lt rfl) dX6_courses_100 ?_
        refine lv_iload_n hx hb dX6_courses_101 rfl (lv_at hl 1 rfl) ?_
        refine lv_isub hx hb dX6_courses_102 ?_
        refine ziast 1 0 (58 + ac) hx hb hK hP hD hS rfl rfl (by omega) (z_lt rfl) dX6_courses_103 (fun H locs hP hD hS => ?_)
        have hP : va_P D vwCl [(x9, .inr (10, [.int th, .int (nI ch), .int era, .int why, .int det, .int cau, .int (zI sv), .int (zI rj), .ref v9, .ref b9, .ref s9, .ref k9, .ref p9, .ref t9, .ref n9, .int (nI tn), .int (nI he), .int (nI en), .int (nI ln), .int (zI iw), .int (zI dg)])), (v9, .inl (cy 0, 188, .inl (upd v (58 + ac) ((v (58 + ac)) - ((zwd6 v rw cn 24) * (v 3))))))] H := hP
        have hD : va_D A [(x9, .inr (10, [.int th, .int (nI ch), .int era, .int why, .int det, .int cau, .int (zI sv), .int (zI rj), .ref v9, .ref b9, .ref s9, .ref k9, .ref p9, .ref t9, .ref n9, .int (nI tn), .int (nI he), .int (nI en), .int (nI ln), .int (zI iw), .int (zI dg)])), (v9, .inl (cy 0, 188, .inl (upd v (58 + ac) ((v (58 + ac)) - ((zwd6 v rw cn 24) * (v 3))))))] := hD
        refine lv_aload_n hx hb dX6_courses_104 rfl (lv_at hl 4 rfl) ?_
        refine va_get (D := D) (ci := 10) (v := .ref v9) (C := RX6) (T := TX6) (N := 21) hx hb hts in_RX6 hown hK hP 0 rfl rfl 8 (by decide) (hts _ (List.mem_of_getElem? (i := 1) rfl)) (fun _ h9 => h9) rfl dX6_courses_105 ?_
        refine lv_bipush (v := 8) hx hb dX6_courses_108 (by decide) ?_
        refine lv_dup2_11 hx hb dX6_courses_110 rfl rfl ?_
        refine ziald 1 0 8 hx hb hK hP rfl rfl (by omega) (z_lt rfl) dX6_courses_111 ?_
        refine lv_iload_n hx hb dX6_courses_112 rfl (lv_at hl 1 rfl) ?_
        refine lv_iadd hx hb dX6_courses_113 ?_
        refine ziast 1 0 8 hx hb hK hP hD hS rfl rfl (by omega) (z_lt rfl) dX6_courses_114 (fun H locs hP hD hS => ?_)
        have hP : va_P D vwCl [(x9, .inr (10, [.int th, .int (nI ch), .int era, .int why, .int det, .int cau, .int (zI sv), .int (zI rj), .ref v9, .ref b9, .ref s9, .ref k9, .ref p9, .ref t9, .ref n9, .int (nI tn), .int (nI he), .int (nI en), .int (nI ln), .int (zI iw), .int (zI dg)])), (v9, .inl (cy 0, 188, .inl (upd (upd v (58 + ac) ((v (58 + ac)) - ((zwd6 v rw cn 24) * (v 3)))) 8 (((upd v (58 + ac) ((v (58 + ac)) - ((zwd6 v rw cn 24) * (v 3)))) 8) + ((zwd6 v rw cn 24) * (v 3))))))] H := hP
        have hD : va_D A [(x9, .inr (10, [.int th, .int (nI ch), .int era, .int why, .int det, .int cau, .int (zI sv), .int (zI rj), .ref v9, .ref b9, .ref s9, .ref k9, .ref p9, .ref t9, .ref n9, .int (nI tn), .int (nI he), .int (nI en), .int (nI ln), .int (zI iw), .int (zI dg)])), (v9, .inl (cy 0, 188, .inl (upd (upd v (58 + ac) ((v (58 + ac)) - ((zwd6 v rw cn 24) * (v 3)))) 8 (((upd v (58 + ac) ((v (58 + ac)) - ((zwd6 v rw cn 24) * (v 3)))) 8) + ((zwd6 v rw cn 24) * (v 3))))))] := hD
        refine lv_aload_n hx hb dX6_courses_115 rfl (lv_at hl 4 rfl) ?_
        refine va_get (D := D) (ci := 10) (v := .ref v9) (C := RX6) (T := TX6) (N := 21) hx hb hts in_RX6 hown hK hP 0 rfl rfl 8 (by decide) (hts _ (List.mem_of_getElem? (i := 1) rfl)) (fun _ h9 => h9) rfl dX6_courses_116 ?_
        refine lv_iload hx hb dX6_courses_119 (lv_at hl 0 rfl) ?_
        refine lv_iload_n hx hb dX6_courses_121 rfl (lv_at hl 2 rfl) ?_
        refine ziast 1 0 (68 + (4 * cn)) hx hb hK hP hD hS rfl rfl (by omega) (z_lt rfl) dX6_courses_122 (fun H locs hP hD hS => ?_)
        have hP : va_P D vwCl [(x9, .inr (10, [.int th, .int (nI ch), .int era, .int why, .int det, .int cau, .int (zI sv), .int (zI rj), .ref v9, .ref b9, .ref s9, .ref k9, .ref p9, .ref t9, .ref n9, .int (nI tn), .int (nI he), .int (nI en), .int (nI ln), .int (zI iw), .int (zI dg)])), (v9, .inl (cy 0, 188, .inl (upd (upd (upd v (58 + ac) ((v (58 + ac)) - ((zwd6 v rw cn 24) * (v 3)))) 8 (((upd v (58 + ac) ((v (58 + ac)) - ((zwd6 v rw cn 24) * (v 3)))) 8) + ((zwd6 v rw cn 24) * (v 3)))) (68 + (4 * cn)) (zwd6 v rw cn 24))))] H := hP
        have hD : va_D A [(x9, .inr (10, [.int th, .int (nI ch), .int era, .int why, .int det, .int cau, .int (zI sv), .int (zI rj), .ref v9, .ref b9, .ref s9, .ref k9, .ref p9, .ref t9, .ref n9, .int (nI tn), .int (nI he), .int (nI en), .int (nI ln), .int (zI iw), .int (zI dg)])), (v9, .inl (cy 0, 188, .inl (upd (upd (upd v (58 + ac) ((v (58 + ac)) - ((zwd6 v rw cn 24) * (v 3)))) 8 (((upd v (58 + ac) ((v (58 + ac)) - ((zwd6 v rw cn 24) * (v 3)))) 8) + ((zwd6 v rw cn 24) * (v 3)))) (68 + (4 * cn)) (zwd6 v rw cn 24))))] := hD
        have hP : va_P D vwCl [(x9, .inr (10, [.int th, .int (nI ch), .int era, .int why, .int det, .int cau, .int (zI sv), .int (zI rj), .ref v9, .ref b9, .ref s9, .ref k9, .ref p9, .ref t9, .ref n9, .int (nI tn), .int (nI he), .int (nI en), .int (nI ln), .int (zI iw), .int (zI dg)])), (v9, .inl (cy 0, 188, .inl (zkc0 v ac rw cn)))] H := z_arr (ws := [(x9, .inr (10, [.int th, .int (nI ch), .int era, .int why, .int det, .int cau, .int (zI sv), .int (zI rj), .ref v9, .ref b9, .ref s9, .ref k9, .ref p9, .ref t9, .ref n9, .int (nI tn), .int (nI he), .int (nI en), .int (nI ln), .int (zI iw), .int (zI dg)])), (v9, .inl (cy 0, 188, .inl (upd (upd (upd v (58 + ac) ((v (58 + ac)) - ((zwd6 v rw cn 24) * (v 3)))) 8 (((upd v (58 + ac) ((v (58 + ac)) - ((zwd6 v rw cn 24) * (v 3)))) 8) + ((zwd6 v rw cn 24) * (v 3)))) (68 + (4 * cn)) (zwd6 v rw cn 24))))]) (q0 := 1) (a := v9) (f := (upd (upd (upd v (58 + ac) ((v (58 + ac)) - ((zwd6 v rw cn 24) * (v 3)))) 8 (((upd v (58 + ac) ((v (58 + ac)) - ((zwd6 v rw cn 24) * (v 3)))) 8) + ((zwd6 v rw cn 24) * (v 3)))) (68 + (4 * cn)) (zwd6 v rw cn 24))) (g := (zkc0 v ac rw cn)) (H0 := H) hP (fun j hj => rfl)
        have hD : va_D A [(x9, .inr (10, [.int th, .int (nI ch), .int era, .int why, .int det, .int cau, .int (zI sv), .int (zI rj), .ref v9, .ref b9, .ref s9, .ref k9, .ref p9, .ref t9, .ref n9, .int (nI tn), .int (nI he), .int (nI en), .int (nI ln), .int (zI iw), .int (zI dg)])), (v9, .inl (cy 0, 188, .inl (zkc0 v ac rw cn)))] := z_setD (ws := [(x9, .inr (10, [.int th, .int (nI ch), .int era, .int why, .int det, .int cau, .int (zI sv), .int (zI rj), .ref v9, .ref b9, .ref s9, .ref k9, .ref p9, .ref t9, .ref n9, .int (nI tn), .int (nI he), .int (nI en), .int (nI ln), .int (zI iw), .int (zI dg)])), (v9, .inl (cy 0, 188, .inl (upd (upd (upd v (58 + ac) ((v (58 + ac)) - ((zwd6 v rw cn 24) * (v 3)))) 8 (((upd v (58 + ac) ((v (58 + ac)) - ((zwd6 v rw cn 24) * (v 3)))) 8) + ((zwd6 v rw cn 24) * (v 3)))) (68 + (4 * cn)) (zwd6 v rw cn 24))))]) (q0 := 1) (a := v9) (x := .inl (cy 0, 188, .inl (upd (upd (upd v (58 + ac) ((v (58 + ac)) - ((zwd6 v rw cn 24) * (v 3)))) 8 (((upd v (58 + ac) ((v (58 + ac)) - ((zwd6 v rw cn 24) * (v 3)))) 8) + ((zwd6 v rw cn 24) * (v 3)))) (68 + (4 * cn)) (zwd6 v rw cn 24)))) hD
        refine lv_aload_n hx hb dX6_courses_123 rfl (lv_at hl 4 rfl) ?_
        refine va_get (D := D) (ci := 10) (v := .ref v9) (C := RX6) (T := TX6) (N := 21) hx hb hts in_RX6 hown hK hP 0 rfl rfl 8 (by decide) (hts _ (List.mem_of_getElem? (i := 1) rfl)) (fun _ h9 => h9) rfl dX6_courses_124 ?_
        refine lv_iload hx hb dX6_courses_127 (lv_at hl 0 rfl) ?_
        refine lv_iconst (v := 1) hx hb dX6_courses_129 (by decide) ?_
        refine lv_iadd hx hb dX6_courses_130 ?_
        refine z_top (y := nI ((68 + (4 * cn)) + 1)) (nI_add (68 + (4 * cn)) 1) ?_
        refine lv_aload_n hx hb dX6_courses_131 rfl (lv_at hl 4 rfl) ?_
        refine va_get (D := D) (ci := 10) (v := .ref v9) (C := RX6) (T := TX6) (N := 21) hx hb hts in_RX6 hown hK hP 0 rfl rfl 8 (by decide) (hts _ (List.mem_of_getElem? (i := 1) rfl)) (fun _ h9 => h9) rfl dX6_courses_132 ?_
        refine lv_iconst (v := 2) hx hb dX6_courses_135 (by decide) ?_
        refine ziald 1 0 2 hx hb hK hP rfl rfl (by omega) (z_lt rfl) dX6_courses_136 ?_
        refine z_top (y := nI ac) ((zkc0_n (by omega) (by omega) (by omega)).trans hv2) ?_
        refine ziast 1 0 ((68 + (4 * cn)) + 1) hx hb hK hP hD hS rfl rfl (by omega) (z_lt rfl) dX6_courses_137 (fun H locs hP hD hS => ?_)
        have hP : va_P D vwCl [(x9, .inr (10, [.int th, .int (nI ch), .int era, .int why, .int det, .int cau, .int (zI sv), .int (zI rj), .ref v9, .ref b9, .ref s9, .ref k9, .ref p9, .ref t9, .ref n9, .int (nI tn), .int (nI he), .int (nI en), .int (nI ln), .int (zI iw), .int (zI dg)])), (v9, .inl (cy 0, 188, .inl (upd (zkc0 v ac rw cn) ((68 + (4 * cn)) + 1) (nI ac))))] H := hP
        have hD : va_D A [(x9, .inr (10, [.int th, .int (nI ch), .int era, .int why, .int det, .int cau, .int (zI sv), .int (zI rj), .ref v9, .ref b9, .ref s9, .ref k9, .ref p9, .ref t9, .ref n9, .int (nI tn), .int (nI he), .int (nI en), .int (nI ln), .int (zI iw), .int (zI dg)])), (v9, .inl (cy 0, 188, .inl (upd (zkc0 v ac rw cn) ((68 + (4 * cn)) + 1) (nI ac))))] := hD
        refine lv_aload_n hx hb dX6_courses_138 rfl (lv_at hl 4 rfl) ?_
        refine va_get (D := D) (ci := 10) (v := .ref v9) (C := RX6) (T := TX6) (N := 21) hx hb hts in_RX6 hown hK hP 0 rfl rfl 8 (by decide) (hts _ (List.mem_of_getElem? (i := 1) rfl)) (fun _ h9 => h9) rfl dX6_courses_139 ?_
        refine lv_iload hx hb dX6_courses_142 (lv_at hl 0 rfl) ?_
        refine lv_iconst (v := 2) hx hb dX6_courses_144 (by decide) ?_
        refine lv_iadd hx hb dX6_courses_145 ?_
        refine z_top (y := nI ((68 + (4 * cn)) + 2)) (nI_add (68 + (4 * cn)) 2) ?_
        refine lv_iload_n hx hb dX6_courses_146 rfl (lv_at hl 1 rfl) ?_
        refine ziast 1 0 ((68 + (4 * cn)) + 2) hx hb hK hP hD hS rfl rfl (by omega) (z_lt rfl) dX6_courses_147 (fun H locs hP hD hS => ?_)
        have hP : va_P D vwCl [(x9, .inr (10, [.int th, .int (nI ch), .int era, .int why, .int det, .int cau, .int (zI sv), .int (zI rj), .ref v9, .ref b9, .ref s9, .ref k9, .ref p9, .ref t9, .ref n9, .int (nI tn), .int (nI he), .int (nI en), .int (nI ln), .int (zI iw), .int (zI dg)])), (v9, .inl (cy 0, 188, .inl (upd (upd (zkc0 v ac rw cn) ((68 + (4 * cn)) + 1) (nI ac)) ((68 + (4 * cn)) + 2) ((zwd6 v rw cn 24) * (v 3)))))] H := hP
        have hD : va_D A [(x9, .inr (10, [.int th, .int (nI ch), .int era, .int why, .int det, .int cau, .int (zI sv), .int (zI rj), .ref v9, .ref b9, .ref s9, .ref k9, .ref p9, .ref t9, .ref n9, .int (nI tn), .int (nI he), .int (nI en), .int (nI ln), .int (zI iw), .int (zI dg)])), (v9, .inl (cy 0, 188, .inl (upd (upd (zkc0 v ac rw cn) ((68 + (4 * cn)) + 1) (nI ac)) ((68 + (4 * cn)) + 2) ((zwd6 v rw cn 24) * (v 3)))))] := hD
        have hP : va_P D vwCl [(x9, .inr (10, [.int th, .int (nI ch), .int era, .int why, .int det, .int cau, .int (zI sv), .int (zI rj), .ref v9, .ref b9, .ref s9, .ref k9, .ref p9, .ref t9, .ref n9, .int (nI tn), .int (nI he), .int (nI en), .int (nI ln), .int (zI iw), .int (zI dg)])), (v9, .inl (cy 0, 188, .inl (zkc1 v ac rw cn)))] H := z_arr (ws := [(x9, .inr (10, [.int th, .int (nI ch), .int era, .int why, .int det, .int cau, .int (zI sv), .int (zI rj), .ref v9, .ref b9, .ref s9, .ref k9, .ref p9, .ref t9, .ref n9, .int (nI tn), .int (nI he), .int (nI en), .int (nI ln), .int (zI iw), .int (zI dg)])), (v9, .inl (cy 0, 188, .inl (upd (upd (zkc0 v ac rw cn) ((68 + (4 * cn)) + 1) (nI ac)) ((68 + (4 * cn)) + 2) ((zwd6 v rw cn 24) * (v 3)))))]) (q0 := 1) (a := v9) (f := (upd (upd (zkc0 v ac rw cn) ((68 + (4 * cn)) + 1) (nI ac)) ((68 + (4 * cn)) + 2) ((zwd6 v rw cn 24) * (v 3)))) (g := (zkc1 v ac rw cn)) (H0 := H) hP (fun j hj => rfl)
        have hD : va_D A [(x9, .inr (10, [.int th, .int (nI ch), .int era, .int why, .int det, .int cau, .int (zI sv), .int (zI rj), .ref v9, .ref b9, .ref s9, .ref k9, .ref p9, .ref t9, .ref n9, .int (nI tn), .int (nI he), .int (nI en), .int (nI ln), .int (zI iw), .int (zI dg)])), (v9, .inl (cy 0, 188, .inl (zkc1 v ac rw cn)))] := z_setD (ws := [(x9, .inr (10, [.int th, .int (nI ch), .int era, .int why, .int det, .int cau, .int (zI sv), .int (zI rj), .ref v9, .ref b9, .ref s9, .ref k9, .ref p9, .ref t9, .ref n9, .int (nI tn), .int (nI he), .int (nI en), .int (nI ln), .int (zI iw), .int (zI dg)])), (v9, .inl (cy 0, 188, .inl (upd (upd (zkc0 v ac rw cn) ((68 + (4 * cn)) + 1) (nI ac)) ((68 + (4 * cn)) + 2) ((zwd6 v rw cn 24) * (v 3)))))]) (q0 := 1) (a := v9) (x := .inl (cy 0, 188, .inl (upd (upd (zkc0 v ac rw cn) ((68 + (4 * cn)) + 1) (nI ac)) ((68 + (4 * cn)) + 2) ((zwd6 v rw cn 24) * (v 3))))) hD
        refine lv_aload_n hx hb dX6_courses_148 rfl (lv_at hl 4 rfl) ?_
        refine va_get (D := D) (ci := 10) (v := .ref v9) (C := RX6) (T := TX6) (N := 21) hx hb hts in_RX6 hown hK hP 0 rfl rfl 8 (by decide) (hts _ (List.mem_of_getElem? (i := 1) rfl)) (fun _ h9 => h9) rfl dX6_courses_149 ?_
        refine lv_iload hx hb dX6_courses_152 (lv_at hl 0 rfl) ?_
        refine lv_iconst (v := 3) hx hb dX6_courses_154 (by decide) ?_
        refine lv_iadd hx hb dX6_courses_155 ?_
        refine z_top (y := nI ((68 + (4 * cn)) + 3)) (nI_add (68 + (4 * cn)) 3) ?_
        refine lv_aload_n hx hb dX6_courses_156 rfl (lv_at hl 4 rfl) ?_
        refine lv_iload_n hx hb dX6_courses_157 rfl (lv_at hl 3 rfl) ?_
        refine zcV (As := [.int (nI cn)]) (rest := [.int (nI ((68 + (4 * cn)) + 3)), .ref v9]) [0, 1] 0 hg.1 ⟨hx, hb, hml, hown, hts⟩ (c_X6_passes hg l D cy x9 th ch era why det cau sv rj v9 b9 s9 k9 p9 t9 n9 tn he en ln iw dg (zkc1 v ac rw cn) cn rw ((zkc1_n (by omega) (by omega) (by omega)).trans hv4) (by first | assumption | omega) (by first | assumption | omega)) (cwV 1 hts gX6_courses_X6_passes rfl rfl rfl (by decide +kernel) ⟨Nat.le_of_ble_eq_true rfl, Nat.le_of_ble_eq_true rfl⟩) hG hK hP hD hS hA rfl rfl (Eq.trans (b := [x9, v9]) rfl rfl) rfl rfl rfl hl.1 rfl (Nat.le_of_ble_eq_true rfl) dX6_courses_158 ⟨Nat.zero_le _, Nat.zero_le _⟩ (fun H locs hP hD hS => ?_)
        have hP : va_P D vwCl [(x9, .inr (10, [.int th, .int (nI ch), .int era, .int why, .int det, .int cau, .int (zI sv), .int (zI rj), .ref v9, .ref b9, .ref s9, .ref k9, .ref p9, .ref t9, .ref n9, .int (nI tn), .int (nI he), .int (nI en), .int (nI ln), .int (zI iw), .int (zI dg)])), (v9, .inl (cy 0, 188, .inl (zpsV (zst6 (zkc1 v ac rw cn) rw cn 24) (zkc1 v ac rw cn) 24)))] H := hP
        have hD : va_D A [(x9, .inr (10, [.int th, .int (nI ch), .int era, .int why, .int det, .int cau, .int (zI sv), .int (zI rj), .ref v9, .ref b9, .ref s9, .ref k9, .ref p9, .ref t9, .ref n9, .int (nI tn), .int (nI he), .int (nI en), .int (nI ln), .int (zI iw), .int (zI dg)])), (v9, .inl (cy 0, 188, .inl (zpsV (zst6 (zkc1 v ac rw cn) rw cn 24) (zkc1 v ac rw cn) 24)))] := hD
        refine ziast 1 0 ((68 + (4 * cn)) + 3) hx hb hK hP hD hS rfl rfl (by omega) (z_lt rfl) dX6_courses_161 (fun H locs hP hD hS => ?_)
        have hP : va_P D vwCl [(x9, .inr (10, [.int th, .int (nI ch), .int era, .int why, .int det, .int cau, .int (zI sv), .int (zI rj), .ref v9, .ref b9, .ref s9, .ref k9, .ref p9, .ref t9, .ref n9, .int (nI tn), .int (nI he), .int (nI en), .int (nI ln), .int (zI iw), .int (zI dg)])), (v9, .inl (cy 0, 188, .inl (upd (zpsV (zst6 (zkc1 v ac rw cn) rw cn 24) (zkc1 v ac rw cn) 24) ((68 + (4 * cn)) + 3) (zpsD (zst6 (zkc1 v ac rw cn) rw cn 24) (zkc1 v ac rw cn) 24))))] H := hP
        have hD : va_D A [(x9, .inr (10, [.int th, .int (nI ch), .int era, .int why, .int det, .int cau, .int (zI sv), .int (zI rj), .ref v9, .ref b9, .ref s9, .ref k9, .ref p9, .ref t9, .ref n9, .int (nI tn), .int (nI he), .int (nI en), .int (nI ln), .int (zI iw), .int (zI dg)])), (v9, .inl (cy 0, 188, .inl (upd (zpsV (zst6 (zkc1 v ac rw cn) rw cn 24) (zkc1 v ac rw cn) 24) ((68 + (4 * cn)) + 3) (zpsD (zst6 (zkc1 v ac rw cn) rw cn 24) (zkc1 v ac rw cn) 24))))] := hD
        have hP : va_P D vwCl [(x9, .inr (10, [.int th, .int (nI ch), .int era, .int why, .int det, .int cau, .int (zI sv), .int (zI rj), .ref v9, .ref b9, .ref s9, .ref k9, .ref p9, .ref t9, .ref n9, .int (nI tn), .int (nI he), .int (nI en), .int (nI ln), .int (zI iw), .int (zI dg)])), (v9, .inl (cy 0, 188, .inl (zkc2 v ac rw cn)))] H := z_arr (ws := [(x9, .inr (10, [.int th, .int (nI ch), .int era, .int why, .int det, .int cau, .int (zI sv), .int (zI rj), .ref v9, .ref b9, .ref s9, .ref k9, .ref p9, .ref t9, .ref n9, .int (nI tn), .int (nI he), .int (nI en), .int (nI ln), .int (zI iw), .int (zI dg)])), (v9, .inl (cy 0, 188, .inl (upd (zpsV (zst6 (zkc1 v ac rw cn) rw cn 24) (zkc1 v ac rw cn) 24) ((68 + (4 * cn)) + 3) (zpsD (zst6 (zkc1 v ac rw cn) rw cn 24) (zkc1 v ac rw cn) 24))))]) (q0 := 1) (a := v9) (f := (upd (zpsV (zst6 (zkc1 v ac rw cn) rw cn 24) (zkc1 v ac rw cn) 24) ((68 + (4 * cn)) + 3) (zpsD (zst6 (zkc1 v ac rw cn) rw cn 24) (zkc1 v ac rw cn) 24))) (g := (zkc2 v ac rw cn)) (H0 := H) hP (fun j hj => rfl)
        have hD : va_D A [(x9, .inr (10, [.int th, .int (nI ch), .int era, .int why, .int det, .int cau, .int (zI sv), .int (zI rj), .ref v9, .ref b9, .ref s9, .ref k9, .ref p9, .ref t9, .ref n9, .int (nI tn), .int (nI he), .int (nI en), .int (nI ln), .int (zI iw), .int (zI dg)])), (v9, .inl (cy 0, 188, .inl (zkc2 v ac rw cn)))] := z_setD (ws := [(x9, .inr (10, [.int th, .int (nI ch), .int era, .int why, .int det, .int cau, .int (zI sv), .int (zI rj), .ref v9, .ref b9, .ref s9, .ref k9, .ref p9, .ref t9, .ref n9, .int (nI tn), .int (nI he), .int (nI en), .int (nI ln), .int (zI iw), .int (zI dg)])), (v9, .inl (cy 0, 188, .inl (upd (zpsV (zst6 (zkc1 v ac rw cn) rw cn 24) (zkc1 v ac rw cn) 24) ((68 + (4 * cn)) + 3) (zpsD (zst6 (zkc1 v ac rw cn) rw cn 24) (zkc1 v ac rw cn) 24))))]) (q0 := 1) (a := v9) (x := .inl (cy 0, 188, .inl (upd (zpsV (zst6 (zkc1 v ac rw cn) rw cn 24) (zkc1 v ac rw cn) 24) ((68 + (4 * cn)) + 3) (zpsD (zst6 (zkc1 v ac rw cn) rw cn 24) (zkc1 v ac rw cn) 24)))) hD
        refine lv_aload_n hx hb dX6_courses_162 rfl (lv_at hl 4 rfl) ?_
        refine va_get (D := D) (ci := 10) (v := .ref v9) (C := RX6) (T := TX6) (N := 21) hx hb hts in_RX6 hown hK hP 0 rfl rfl 8 (by decide) (hts _ (List.mem_of_getElem? (i := 1) rfl)) (fun _ h9 => h9) rfl dX6_courses_163 ?_
        refine lv_bipush (v := 9) hx hb dX6_courses_166 (by decide) ?_
        refine lv_dup2_11 hx hb dX6_courses_168 rfl rfl ?_
        refine ziald 1 0 9 hx hb hK hP rfl rfl (by omega) (z_lt rfl) dX6_courses_169 ?_
        refine lv_aload_n hx hb dX6_courses_170 rfl (lv_at hl 4 rfl) ?_
        refine va_get (D := D) (ci := 10) (v := .ref v9) (C := RX6) (T := TX6) (N := 21) hx hb hts in_RX6 hown hK hP 0 rfl rfl 8 (by decide) (hts _ (List.mem_of_getElem? (i := 1) rfl)) (fun _ h9 => h9) rfl dX6_courses_171 ?_
        refine lv_iload hx hb dX6_courses_174 (lv_at hl 0 rfl) ?_
        refine lv_iconst (v := 3) hx hb dX6_courses_176 (by decide) ?_
        refine lv_iadd hx hb dX6_courses_177 ?_
        refine z_top (y := nI ((68 + (4 * cn)) + 3)) (nI_add (68 + (4 * cn)) 3) ?_
        refine ziald 1 0 ((68 + (4 * cn)) + 3) hx hb hK hP rfl rfl (by omega) (z_lt rfl) dX6_courses_178 ?_
        refine lv_iadd hx hb dX6_courses_179 ?_
        refine ziast 1 0 9 hx hb hK hP hD hS rfl rfl (by omega) (z_lt rfl) dX6_courses_180 (fun H locs hP hD hS => ?_)
        have hP : va_P D vwCl [(x9, .inr (10, [.int th, .int (nI ch), .int era, .int why, .int det, .int cau, .int (zI sv), .int (zI rj), .ref v9, .ref b9, .ref s9, .ref k9, .ref p9, .ref t9, .ref n9, .int (nI tn), .int (nI he), .int (nI en), .int (nI ln), .int (zI iw), .int (zI dg)])), (v9, .inl (cy 0, 188, .inl (upd (zkc2 v ac rw cn) 9 (((zkc2 v ac rw cn) 9) + ((zkc2 v ac rw cn) ((68 + (4 * cn)) + 3))))))] H := hP
        have hD : va_D A [(x9, .inr (10, [.int th, .int (nI ch), .int era, .int why, .int det, .int cau, .int (zI sv), .int (zI rj), .ref v9, .ref b9, .ref s9, .ref k9, .ref p9, .ref t9, .ref n9, .int (nI tn), .int (nI he), .int (nI en), .int (nI ln), .int (zI iw), .int (zI dg)])), (v9, .inl (cy 0, 188, .inl (upd (zkc2 v ac rw cn) 9 (((zkc2 v ac rw cn) 9) + ((zkc2 v ac rw cn) ((68 + (4 * cn)) + 3))))))] := hD
        have hP : va_P D vwCl [(x9, .inr (10, [.int th, .int (nI ch), .int era, .int why, .int det, .int cau, .int (zI sv), .int (zI rj), .ref v9, .ref b9, .ref s9, .ref k9, .ref p9, .ref t9, .ref n9, .int (nI tn), .int (nI he), .int (nI en), .int (nI ln), .int (zI iw), .int (zI dg)])), (v9, .inl (cy 0, 188, .inl (zkc3 v ac rw cn)))] H := z_arr (ws := [(x9, .inr (10, [.int th, .int (nI ch), .int era, .int why, .int det, .int cau, .int (zI sv), .int (zI rj), .ref v9, .ref b9, .ref s9, .ref k9, .ref p9, .ref t9, .ref n9, .int (nI tn), .int (nI he), .int (nI en), .int (nI ln), .int (zI iw), .int (zI dg)])), (v9, .inl (cy 0, 188, .inl (upd (zkc2 v ac rw cn) 9 (((zkc2 v ac rw cn) 9) + ((zkc2 v ac rw cn) ((68 + (4 * cn)) + 3))))))]) (q0 := 1) (a := v9) (f := (upd (zkc2 v ac rw cn) 9 (((zkc2 v ac rw cn) 9) + ((zkc2 v ac rw cn) ((68 + (4 * cn)) + 3))))) (g := (zkc3 v ac rw cn)) (H0 := H) hP (fun j hj => rfl)
        have hD : va_D A [(x9, .inr (10, [.int th, .int (nI ch), .int era, .int why, .int det, .int cau, .int (zI sv), .int (zI rj), .ref v9, .ref b9, .ref s9, .ref k9, .ref p9, .ref t9, .ref n9, .int (nI tn), .int (nI he), .int (nI en), .int (nI ln), .int (zI iw), .int (zI dg)])), (v9, .inl (cy 0, 188, .inl (zkc3 v ac rw cn)))] := z_setD (ws := [(x9, .inr (10, [.int th, .int (nI ch), .int era, .int why, .int det, .int cau, .int (zI sv), .int (zI rj), .ref v9, .ref b9, .ref s9, .ref k9, .ref p9, .ref t9, .ref n9, .int (nI tn), .int (nI he), .int (nI en), .int (nI ln), .int (zI iw), .int (zI dg)])), (v9, .inl (cy 0, 188, .inl (upd (zkc2 v ac rw cn) 9 (((zkc2 v ac rw cn) 9) + ((zkc2 v ac rw cn) ((68 + (4 * cn)) + 3))))))]) (q0 := 1) (a := v9) (x := .inl (cy 0, 188, .inl (upd (zkc2 v ac rw cn) 9 (((zkc2 v ac rw cn) 9) + ((zkc2 v ac rw cn) ((68 + (4 * cn)) + 3)))))) hD
        refine lv_aload_n hx hb dX6_courses_181 rfl (lv_at hl 4 rfl) ?_
        refine va_get (D := D) (ci := 10) (v := .ref v9) (C := RX6) (T := TX6) (N := 21) hx hb hts in_RX6 hown hK hP 0 rfl rfl 8 (by decide) (hts _ (List.mem_of_getElem? (i := 1) rfl)) (fun _ h9 => h9) rfl dX6_courses_182 ?_
        refine lv_iconst (v := 5) hx hb dX6_courses_185 (by decide) ?_
        refine lv_dup2_11 hx hb dX6_courses_186 rfl rfl ?_
        refine ziald 1 0 5 hx hb hK hP rfl rfl (by omega) (z_lt rfl) dX6_courses_187 ?_
        refine z_top (y := nI cn) ((zkc3_n (by omega) (by omega) (by omega) (by omega)).trans hv5) ?_
        refine lv_iconst (v := 1) hx hb dX6_courses_188 (by decide) ?_
        refine lv_iadd hx hb dX6_courses_189 ?_
        refine z_top (y := nI (cn + 1)) (nI_add cn 1) ?_
        refine ziast 1 0 5 hx hb hK hP hD hS rfl rfl (by omega) (z_lt rfl) dX6_courses_190 (fun H locs hP hD hS => ?_)
        have hP : va_P D vwCl [(x9, .inr (10, [.int th, .int (nI ch), .int era, .int why, .int det, .int cau, .int (zI sv), .int (zI rj), .ref v9, .ref b9, .ref s9, .ref k9, .ref p9, .ref t9, .ref n9, .int (nI tn), .int (nI he), .int (nI en), .int (nI ln), .int (zI iw), .int (zI dg)])), (v9, .inl (cy 0, 188, .inl (upd (zkc3 v ac rw cn) 5 (nI (cn + 1)))))] H := hP
        have hD : va_D A [(x9, .inr (10, [.int th, .int (nI ch), .int era, .int why, .int det, .int cau, .int (zI sv), .int (zI rj), .ref v9, .ref b9, .ref s9, .ref k9, .ref p9, .ref t9, .ref n9, .int (nI tn), .int (nI he), .int (nI en), .int (nI ln), .int (zI iw), .int (zI dg)])), (v9, .inl (cy 0, 188, .inl (upd (zkc3 v ac rw cn) 5 (nI (cn + 1)))))] := hD
        refine lv_iload_n hx hb dX6_courses_191 rfl (lv_at hl 2 rfl) ?_
        exact ziret hend hx hb hr hlk hK hP hD hS dX6_courses_192 rfl (by rfl)
      · exact absurd hr0 (by simp [zrc6, hc3, c_1, c_2, c_3])
    · exact absurd hr0 (by simp [zrc6, hc3, c_1, c_2])
  · exact absurd hr0 (by rw [show cn = 30 from (nI_eq (a := cn) (b := 30) (by omega) (by omega)).mp c_1]; simp [zrc6])

abbrev rmX6_knitsAll_ok : Room := { frames := 4, cells := 0, slots := 0, locals := 93 }
set_option maxHeartbeats 4000000 in
set_option maxRecDepth 100000 in
theorem c_X6_knitsAll_ok {G : zG} (hg : zGN G) (l : Launch) (D : va_G) (cy : Nat → ClassId) (x9 : Nat) (ch : Nat) (era : Int32) (why : Int32) (det : Int32) (cau : Int32) (sv : Bool) (rj : Bool) (v9 : Nat) (b9 : Nat) (s9 : Nat) (k9 : Nat) (p9 : Nat) (t9 : Nat) (n9 : Nat) (tn : Nat) (he : Nat) (en : Nat) (ln : Nat) (iw : Bool) (dg : Bool) (v : Nat → Int32) (ac : Nat) (rw : Nat) (cn : Nat) (qn : Nat) (hv2 : v 2 = nI ac) (hv4 : v 4 = nI rw) (hv5 : v 5 = nI cn) (hrw : rw ≤ 6) (hac : ac < 4) (hcn : cn ≤ 30) (hq1 : 0 < qn) (hq2 : qn ≤ 10) (hcq : cn + qn ≤ 30) (hr0 : ∀ i, i < qn → zrc6 (zkV6 v ac rw cn i) ac rw (cn + i) = 0) : zM G D vwCl (zT cy) l yX6_knitsAll wsX6_knitsAll rmX6_knitsAll_ok [.ref x9, .int (nI qn)] [(x9, .inr (10, [.int 0, .int (nI ch), .int era, .int why, .int det, .int cau, .int (zI sv), .int (zI rj), .ref v9, .ref b9, .ref s9, .ref k9, .ref p9, .ref t9, .ref n9, .int (nI tn), .int (nI he), .int (nI en), .int (nI ln), .int (zI iw), .int (zI dg)])), (v9, .inl (cy 0, 188, .inl v))] (some (.int (zkW6 v ac rw cn qn))) [(x9, .inr (10, [.int 0, .int (nI ch), .int era, .int why, .int det, .int cau, .int (zI sv), .int (zI rj), .ref v9, .ref b9, .ref s9, .ref k9, .ref p9, .ref t9, .ref n9, .int (nI tn), .int (nI he), .int (nI en), .int (nI ln), .int (zI iw), .int (zI dg)])), (v9, .inl (cy 0, 188, .inl (zkV6 v ac rw cn qn)))] := by
  refine zM_of (cc := cX6_knitsAll) (maxL := 4) (ret := (some .int)) (by decide) rfl (Nat.le_of_ble_eq_true rfl) ?_
  intro p e s m below meth c A Q hend hx hb hml hr hts hown hlk hG hK hP hD hA hS ls hl
  have hown : s.vm.findClass RX6 = some m.cls := hown
  have in_RX6 : ∀ w ∈ u_ws RX6 TX6 21, w ∈ wsX6_knitsAll := by decide +kernel
  have hl : lv_has ls 4 [(0, .ref x9), (1, .int (nI qn))] := hl
  refine lv_iload_n hx hb dX6_knitsAll_0 rfl (lv_at hl 1 rfl) ?_
  refine lv_iconst (v := 1) hx hb dX6_knitsAll_1 (by decide) ?_
  refine lv_bipush (v := 10) hx hb dX6_knitsAll_2 (by decide) ?_
  refine zcS (As := [.int (nI qn), .int 1, .int 10]) (rest := []) [] hg.1 ⟨hx, hb, hml, hown, hts⟩ (c_X6_isIn hg l D cy (nI qn) 1 10) (va_cwS 3 hts gX6_knitsAll_X6_isIn rfl rfl rfl (by decide +kernel) ⟨Nat.le_of_ble_eq_true rfl, Nat.le_of_ble_eq_true rfl⟩) hG hK hP hD hS hA rfl rfl rfl  rfl hl.1 rfl (Nat.le_of_ble_eq_true rfl) dX6_knitsAll_4 ⟨Nat.zero_le _, Nat.zero_le _⟩ (fun H locs hP hD hS => ?_)
  have hP : va_P D vwCl [(x9, .inr (10, [.int 0, .int (nI ch), .int era, .int why, .int det, .int cau, .int (zI sv), .int (zI rj), .ref v9, .ref b9, .ref s9, .ref k9, .ref p9, .ref t9, .ref n9, .int (nI tn), .int (nI he), .int (nI en), .int (nI ln), .int (zI iw), .int (zI dg)])), (v9, .inl (cy 0, 188, .inl v))] H := hP
  have hD : va_D A [(x9, .inr (10, [.int 0, .int (nI ch), .int era, .int why, .int det, .int cau, .int (zI sv), .int (zI rj), .ref v9, .ref b9, .ref s9, .ref k9, .ref p9, .ref t9, .ref n9, .int (nI tn), .int (nI he), .int (nI en), .int (nI ln), .int (zI iw), .int (zI dg)])), (v9, .inl (cy 0, 188, .inl v))] := hD
  refine lv_if_ne (tgt := 16) hx hb dX6_knitsAll_7 (by decide) (fun c_1 => ?_) (fun c_1 => ?_)
  · replace c_1 := zI1 c_1
    refine lv_iconst (v := 0) hx hb dX6_knitsAll_16 (by decide) ?_
    refine lv_istore_n (lv' := [(2, .int 0), (0, .ref x9), (1, .int (nI qn))]) hx hb dX6_knitsAll_17 rfl hl (by decide) rfl (fun ls hl => ?_)
    refine lv_iconst (v := 0) hx hb dX6_knitsAll_18 (by decide) ?_
    refine lv_istore_n (lv' := [(3, .int 0), (2, .int 0), (0, .ref x9), (1, .int (nI qn))]) hx hb dX6_knitsAll_19 rfl hl (by decide) rfl (fun ls hl => ?_)
    refine lv_iload_n hx hb dX6_knitsAll_20 rfl (lv_at hl 0 rfl) ?_
    refine lv_iload_n hx hb dX6_knitsAll_21 rfl (lv_at hl 3 rfl) ?_
    refine lv_icmp_ge (tgt := 45) hx hb dX6_knitsAll_22 (by decide) (fun c_2 => ?_) (fun c_2 => ?_)
    · exact absurd c_2 (nI_nle hq1 (by omega))
    · refine lv_aload_n hx hb dX6_knitsAll_25 rfl (lv_at hl 2 rfl) ?_
      refine va_get (D := D) (ci := 10) (v := .int 0) (C := RX6) (T := TX6) (N := 21) hx hb hts in_RX6 hown hK hP 0 rfl rfl 0 (by decide) (hts _ (List.mem_of_getElem? (i := 1) rfl)) (fun _ h9 => h9) rfl dX6_knitsAll_26 ?_
      refine lv_if_ne (tgt := 45) hx hb dX6_knitsAll_29 (by decide) (fun c_3 => ?_) (fun c_3 => ?_)
      · exact absurd c_3 (by decide)
      · have L32 : ∀ (F : Nat) (k : Nat) (x32_0 : Int32) (x32_1 : Nat → Int32), k < qn → qn - k < F → x32_0 = zkW6 v ac rw cn k → x32_1 = zkV6 v ac rw cn k → ∀ (H : Heap) (locs : List Loc), va_P D vwCl [(x9, .inr (10, [.int 0, .int (nI ch), .int era, .int why, .int det, .int cau, .int (zI sv), .int (zI rj), .ref v9, .ref b9, .ref s9, .ref k9, .ref p9, .ref t9, .ref n9, .int (nI tn), .int (nI he), .int (nI en), .int (nI ln), .int (zI iw), .int (zI dg)])), (v9, .inl (cy 0, 188, .inl x32_1))] H → va_D A [(x9, .inr (10, [.int 0, .int (nI ch), .int era, .int why, .int det, .int cau, .int (zI sv), .int (zI rj), .ref v9, .ref b9, .ref s9, .ref k9, .ref p9, .ref t9, .ref n9, .int (nI tn), .int (nI he), .int (nI en), .int (nI ln), .int (zI iw), .int (zI dg)])), (v9, .inl (cy 0, 188, .inl x32_1))] → va_S A s.heap H locs → ∀ ls : Array Slot, lv_has ls 4 [(0, .ref x9), (1, .int (nI qn)), (2, .int x32_0), (3, .int (nI k))] → W p l e rmX6_knitsAll_ok s m ([.ref x9, .int (nI qn)] : List Value).toArray below meth c H locs 0 0 Q (F0 m 32 ls []) := by
          intro F
          induction F with
          | zero =>
            intro k x32_0 x32_1 hk hF ex32_0 ex32_1 H locs hP hD hS ls hl
            exact absurd hF (Nat.not_lt_zero _)
          | succ F ih32 =>
            intro k x32_0 x32_1 hk hF ex32_0 ex32_1 H locs hP hD hS ls hl
            subst ex32_0
            subst ex32_1
            refine lv_iload_n hx hb dX6_knitsAll_32 rfl (lv_at hl 2 rfl) ?_
            refine lv_aload_n hx hb dX6_knitsAll_33 rfl (lv_at hl 0 rfl) ?_
            refine zcV (As := []) (rest := [.int (zkW6 v ac rw cn k)]) [0, 1] 0 hg.1 ⟨hx, hb, hml, hown, hts⟩ (c_X6_courses_ok hg l D cy x9 0 ch era why det cau sv rj v9 b9 s9 k9 p9 t9 n9 tn he en ln iw dg (zkV6 v ac rw cn k) ac rw (cn + k) (zkV6_2 hv2 hac hrw (k := k) (by omega)) (zkV6_4 hv4 hac hrw (k := k) (by omega)) (zkV6_5 hv5 hac hrw (k := k) (by omega)) (by first | assumption | omega) (by first | assumption | omega) (by first | assumption | omega) (hr0 k hk)) (cwV 0 hts gX6_knitsAll_X6_courses rfl rfl rfl (by decide +kernel) ⟨Nat.le_of_ble_eq_true rfl, Nat.le_of_ble_eq_true rfl⟩) hG hK hP hD hS hA rfl rfl (Eq.trans (b := [x9, v9]) rfl rfl) rfl rfl rfl hl.1 rfl (Nat.le_of_ble_eq_true rfl) dX6_knitsAll_34 ⟨Nat.zero_le _, Nat.zero_le _⟩ (fun H locs hP hD hS => ?_)
            have hP : va_P D vwCl [(x9, .inr (10, [.int 0, .int (nI ch), .int era, .int why, .int det, .int cau, .int (zI sv), .int (zI rj), .ref v9, .ref b9, .ref s9, .ref k9, .ref p9, .ref t9, .ref n9, .int (nI tn), .int (nI he), .int (nI en), .int (nI ln), .int (zI iw), .int (zI dg)])), (v9, .inl (cy 0, 188, .inl (zkcV (zkV6 v ac rw cn k) ac rw (cn + k))))] H := hP
            have hD : va_D A [(x9, .inr (10, [.int 0, .int (nI ch), .int era, .int why, .int det, .int cau, .int (zI sv), .int (zI rj), .ref v9, .ref b9, .ref s9, .ref k9, .ref p9, .ref t9, .ref n9, .int (nI tn), .int (nI he), .int (nI en), .int (nI ln), .int (zI iw), .int (zI dg)])), (v9, .inl (cy 0, 188, .inl (zkcV (zkV6 v ac rw cn k) ac rw (cn + k))))] := hD
            refine lv_iadd hx hb dX6_knitsAll_37 ?_
            refine lv_istore_n (lv' := [(2, .int ((zkW6 v ac rw cn k) + (zwd6 (zkV6 v ac rw cn k) rw (cn + k) 24))), (0, .ref x9), (1, .int (nI qn)), (3, .int (nI k))]) hx hb dX6_knitsAll_38 rfl hl (by decide) rfl (fun ls hl => ?_)
            refine lv_iinc (v := nI (k + 1)) (lv' := [(3, .int (nI (k + 1))), (2, .int ((zkW6 v ac rw cn k) + (zwd6 (zkV6 v ac rw cn k) rw (cn + k) 24))), (0, .ref x9), (1, .int (nI qn))]) hx hb dX6_knitsAll_39 hl (k := 3) rfl (by rw [show Int32.ofInt 1 = nI 1 from rfl, nI_add]) (by decide) rfl (fun ls hl => ?_)
            refine lv_goto (tgt := 20) hx hb dX6_knitsAll_42 (by decide) ?_
            refine lv_iload_n hx hb dX6_knitsAll_20 rfl (lv_at hl 0 rfl) ?_
            refine lv_iload_n hx hb dX6_knitsAll_21 rfl (lv_at hl 3 rfl) ?_
            refine lv_icmp_ge (tgt := 45) hx hb dX6_knitsAll_22 (by decide) (fun c_4 => ?_) (fun c_4 => ?_)
            · have hkq : qn = k + 1 := by have := (nI_leI (a := qn) (b := k + 1) (by omega) (by omega)).mp c_4; omega
              refine lv_iload_n hx hb dX6_knitsAll_45 rfl (lv_at hl 1 rfl) ?_
              exact ziret hend hx hb hr hlk hK hP hD hS dX6_knitsAll_46 (by rw [hkq]; rfl) (by rw [hkq]; rfl)
            · have hkq : k + 1 < qn := Nat.lt_of_not_le (fun z => c_4 (nI_le z (by omega)))
              refine lv_aload_n hx hb dX6_knitsAll_25 rfl (lv_at hl 2 rfl) ?_
              refine va_get (D := D) (ci := 10) (v := .int 0) (C := RX6) (T := TX6) (N := 21) hx hb hts in_RX6 hown hK hP 0 rfl rfl 0 (by decide) (hts _ (List.mem_of_getElem? (i := 1) rfl)) (fun _ h9 => h9) rfl dX6_knitsAll_26 ?_
              refine lv_if_ne (tgt := 45) hx hb dX6_knitsAll_29 (by decide) (fun c_5 => ?_) (fun c_5 => ?_)
              · exact absurd c_5 (by decide)
              · exact ih32 (k + 1) ((zkW6 v ac rw cn k) + (zwd6 (zkV6 v ac rw cn k) rw (cn + k) 24)) (zkcV (zkV6 v ac rw cn k) ac rw (cn + k)) (by omega) (by omega) (by rfl) (by rfl) H locs hP hD hS ls (lv_sub hl [2, 3, 1, 0] rfl)
        exact L32 (qn - 0 + 1) 0 0 v hq1 (Nat.lt_succ_self _) (by rfl) (by rfl) H locs hP hD hS ls (lv_sub hl [2, 3, 1, 0] rfl)
  · replace c_1 := zI0 c_1
    exact absurd ((zic10 hq1 hq2).symm.trans c_1) (by decide)

abbrev rmX6_knitsAll_rej : Room := { frames := 4, cells := 0, slots := 0, locals := 93 }
set_option maxHeartbeats 4000000 in
set_option maxRecDepth 100000 in
theorem c_X6_knitsAll_rej {G : zG} (hg : zGN G) (l : Launch) (D : va_G) (cy : Nat → ClassId) (x9 : Nat) (ch : Nat) (era : Int32) (why : Int32) (det : Int32) (cau : Int32) (sv : Bool) (rj : Bool) (v9 : Nat) (b9 : Nat) (s9 : Nat) (k9 : Nat) (p9 : Nat) (t9 : Nat) (n9 : Nat) (tn : Nat) (he : Nat) (en : Nat) (ln : Nat) (iw : Bool) (dg : Bool) (v : Nat → Int32) (ac : Nat) (rw : Nat) (cn : Nat) (qn : Nat) (jn : Nat) (hv2 : v 2 = nI ac) (hv4 : v 4 = nI rw) (hv5 : v 5 = nI cn) (hrw : rw ≤ 6) (hac : ac < 4) (hcn : cn ≤ 30) (hq1 : 0 < qn) (hq2 : qn ≤ 10) (hjq : jn < qn) (hcq : cn + jn ≤ 30) (hr0 : ∀ i, i < jn → zrc6 (zkV6 v ac rw cn i) ac rw (cn + i) = 0) (hrj : ¬ zrc6 (zkV6 v ac rw cn jn) ac rw (cn + jn) = 0) : zM G D vwCl (zT cy) l yX6_knitsAll wsX6_knitsAll rmX6_knitsAll_rej [.ref x9, .int (nI qn)] [(x9, .inr (10, [.int 0, .int (nI ch), .int era, .int why, .int det, .int cau, .int (zI sv), .int (zI rj), .ref v9, .ref b9, .ref s9, .ref k9, .ref p9, .ref t9, .ref n9, .int (nI tn), .int (nI he), .int (nI en), .int (nI ln), .int (zI iw), .int (zI dg)])), (v9, .inl (cy 0, 188, .inl v))] (some (.int (zkW6 v ac rw cn jn))) [(x9, .inr (10, [.int 2, .int (nI ch), .int era, .int (zrc6 (zkV6 v ac rw cn jn) ac rw (cn + jn)), .int (zdc6 (zkV6 v ac rw cn jn) rw (cn + jn)), .int 0, .int (zI sv), .int (zI true), .ref v9, .ref b9, .ref s9, .ref k9, .ref p9, .ref t9, .ref n9, .int (nI tn), .int (nI he), .int (nI en), .int (nI ln), .int (zI iw), .int (zI dg)])), (v9, .inl (cy 0, 188, .inl (zkV6 v ac rw cn jn)))] := by
  refine zM_of (cc := cX6_knitsAll) (maxL := 4) (ret := (some .int)) (by decide) rfl (Nat.le_of_ble_eq_true rfl) ?_
  intro p e s m below meth c A Q hend hx hb hml hr hts hown hlk hG hK hP hD hA hS ls hl
  have hown : s.vm.findClass RX6 = some m.cls := hown
  have in_RX6 : ∀ w ∈ u_ws RX6 TX6 21, w ∈ wsX6_knitsAll := by decide +kernel
  have hl : lv_has ls 4 [(0, .ref x9), (1, .int (nI qn))] := hl
  refine lv_iload_n hx hb dX6_knitsAll_0 rfl (lv_at hl 1 rfl) ?_
  refine lv_iconst (v := 1) hx hb dX6_knitsAll_1 (by decide) ?_
  refine lv_bipush (v := 10) hx hb dX6_knitsAll_2 (by decide) ?_
  refine zcS (As := [.int (nI qn), .int 1, .int 10]) (rest := []) [] hg.1 ⟨hx, hb, hml, hown, hts⟩ (c_X6_isIn hg l D cy (nI qn) 1 10) (va_cwS 3 hts gX6_knitsAll_X6_isIn rfl rfl rfl (by decide +kernel) ⟨Nat.le_of_ble_eq_true rfl, Nat.le_of_ble_eq_true rfl⟩) hG hK hP hD hS hA rfl rfl rfl  rfl hl.1 rfl (Nat.le_of_ble_eq_true rfl) dX6_knitsAll_4 ⟨Nat.zero_le _, Nat.zero_le _⟩ (fun H locs hP hD hS => ?_)
  have hP : va_P D vwCl [(x9, .inr (10, [.int 0, .int (nI ch), .int era, .int why, .int det, .int cau, .int (zI sv), .int (zI rj), .ref v9, .ref b9, .ref s9, .ref k9, .ref p9, .ref t9, .ref n9, .int (nI tn), .int (nI he), .int (nI en), .int (nI ln), .int (zI iw), .int (zI dg)])), (v9, .inl (cy 0, 188, .inl v))] H := hP
  have hD : va_D A [(x9, .inr (10, [.int 0, .int (nI ch), .int era, .int why, .int det, .int cau, .int (zI sv), .int (zI rj), .ref v9, .ref b9, .ref s9, .ref k9, .ref p9, .ref t9, .ref n9, .int (nI tn), .int (nI he), .int (nI en), .int (nI ln), .int (zI iw), .int (zI dg)])), (v9, .inl (cy 0, 188, .inl v))] := hD
  refine lv_if_ne (tgt := 16) hx hb dX6_knitsAll_7 (by decide) (fun c_1 => ?_) (fun c_1 => ?_)
  · replace c_1 := zI1 c_1
    refine lv_iconst (v := 0) hx hb dX6_knitsAll_16 (by decide) ?_
    refine lv_istore_n (lv' := [(2, .int 0), (0, .ref x9), (1, .int (nI qn))]) hx hb dX6_knitsAll_17 rfl hl (by decide) rfl (fun ls hl => ?_)
    refine lv_iconst (v := 0) hx hb dX6_knitsAll_18 (by decide) ?_
    refine lv_istore_n (lv' := [(3, .int 0), (2, .int 0), (0, .ref x9), (1, .int (nI qn))]) hx hb dX6_knitsAll_19 rfl hl (by decide) rfl (fun ls hl => ?_)
    refine lv_iload_n hx hb dX6_knitsAll_20 rfl (lv_at hl 0 rfl) ?_
    refine lv_iload_n hx hb dX6_knitsAll_21 rfl (lv_at hl 3 rfl) ?_
    refine lv_icmp_ge (tgt := 45) hx hb dX6_knitsAll_22 (by decide) (fun c_2 => ?_) (fun c_2 => ?_)
    · exact absurd c_2 (nI_nle hq1 (by omega))
    · refine lv_aload_n hx hb dX6_knitsAll_25 rfl (lv_at hl 2 rfl) ?_
      refine va_get (D := D) (ci := 10) (v := .int 0) (C := RX6) (T := TX6) (N := 21) hx hb hts in_RX6 hown hK hP 0 rfl rfl 0 (by decide) (hts _ (List.mem_of_getElem? (i := 1) rfl)) (fun _ h9 => h9) rfl dX6_knitsAll_26 ?_
      refine lv_if_ne (tgt := 45) hx hb dX6_knitsAll_29 (by decide) (fun c_3 => ?_) (fun c_3 => ?_)
      · exact absurd c_3 (by decide)
      · have L32 : ∀ (F : Nat) (k : Nat) (x32_0 : Int32) (x32_1 : Nat → Int32), k ≤ jn → qn - k < F → x32_0 = zkW6 v ac rw cn k → x32_1 = zkV6 v ac rw cn k → ∀ (H : Heap) (locs : List Loc), va_P D vwCl [(x9, .inr (10, [.int 0, .int (nI ch), .int era, .int why, .int det, .int cau, .int (zI sv), .int (zI rj), .ref v9, .ref b9, .ref s9, .ref k9, .ref p9, .ref t9, .ref n9, .int (nI tn), .int (nI he), .int (nI en), .int (nI ln), .int (zI iw), .int (zI dg)])), (v9, .inl (cy 0, 188, .inl x32_1))] H → va_D A [(x9, .inr (10, [.int 0, .int (nI ch), .int era, .int why, .int det, .int cau, .int (zI sv), .int (zI rj), .ref v9, .ref b9, .ref s9, .ref k9, .ref p9, .ref t9, .ref n9, .int (nI tn), .int (nI he), .int (nI en), .int (nI ln), .int (zI iw), .int (zI dg)])), (v9, .inl (cy 0, 188, .inl x32_1))] → va_S A s.heap H locs → ∀ ls : Array Slot, lv_has ls 4 [(0, .ref x9), (1, .int (nI qn)), (2, .int x32_0), (3, .int (nI k))] → W p l e rmX6_knitsAll_rej s m ([.ref x9, .int (nI qn)] : List Value).toArray below meth c H locs 0 0 Q (F0 m 32 ls []) := by
          intro F
          induction F with
          | zero =>
            intro k x32_0 x32_1 hk hF ex32_0 ex32_1 H locs hP hD hS ls hl
            exact absurd hF (Nat.not_lt_zero _)
          | succ F ih32 =>
            intro k x32_0 x32_1 hk hF ex32_0 ex32_1 H locs hP hD hS ls hl
            subst ex32_0
            subst ex32_1
            refine lv_iload_n hx hb dX6_knitsAll_32 rfl (lv_at hl 2 rfl) ?_
            refine lv_aload_n hx hb dX6_knitsAll_33 rfl (lv_at hl 0 rfl) ?_
            by_cases hkj : k < jn
            · refine zcV (As := []) (rest := [.int (zkW6 v ac rw cn k)]) [0, 1] 0 hg.1 ⟨hx, hb, hml, hown, hts⟩ (c_X6_courses_ok hg l D cy x9 0 ch era why det cau sv rj v9 b9 s9 k9 p9 t9 n9 tn he en ln iw dg (zkV6 v ac rw cn k) ac rw (cn + k) (zkV6_2 hv2 hac hrw (k := k) (by omega)) (zkV6_4 hv4 hac hrw (k := k) (by omega)) (zkV6_5 hv5 hac hrw (k := k) (by omega)) (by first | assumption | omega) (by first | assumption | omega) (by first | assumption | omega) (hr0 k hkj)) (cwV 0 hts gX6_knitsAll_X6_courses rfl rfl rfl (by decide +kernel) ⟨Nat.le_of_ble_eq_true rfl, Nat.le_of_ble_eq_true rfl⟩) hG hK hP hD hS hA rfl rfl (Eq.trans (b := [x9, v9]) rfl rfl) rfl rfl rfl hl.1 rfl (Nat.le_of_ble_eq_true rfl) dX6_knitsAll_34 ⟨Nat.zero_le _, Nat.zero_le _⟩ (fun H locs hP hD hS => ?_)
              have hP : va_P D vwCl [(x9, .inr (10, [.int 0, .int (nI ch), .int era, .int why, .int det, .int cau, .int (zI sv), .int (zI rj), .ref v9, .ref b9, .ref s9, .ref k9, .ref p9, .ref t9, .ref n9, .int (nI tn), .int (nI he), .int (nI en), .int (nI ln), .int (zI iw), .int (zI dg)])), (v9, .inl (cy 0, 188, .inl (zkcV (zkV6 v ac rw cn k) ac rw (cn + k))))] H := hP
              have hD : va_D A [(x9, .inr (10, [.int 0, .int (nI ch), .int era, .int why, .int det, .int cau, .int (zI sv), .int (zI rj), .ref v9, .ref b9, .ref s9, .ref k9, .ref p9, .ref t9, .ref n9, .int (nI tn), .int (nI he), .int (nI en), .int (nI ln), .int (zI iw), .int (zI dg)])), (v9, .inl (cy 0, 188, .inl (zkcV (zkV6 v ac rw cn k) ac rw (cn + k))))] := hD
              refine lv_iadd hx hb dX6_knitsAll_37 ?_
              refine lv_istore_n (lv' := [(2, .int ((zkW6 v ac rw cn k) + (zwd6 (zkV6 v ac rw cn k) rw (cn + k) 24))), (0, .ref x9), (1, .int (nI qn)), (3, .int (nI k))]) hx hb dX6_knitsAll_38 rfl hl (by decide) rfl (fun ls hl => ?_)
              refine lv_iinc (v := nI (k + 1)) (lv' := [(3, .int (nI (k + 1))), (2, .int ((zkW6 v ac rw cn k) + (zwd6 (zkV6 v ac rw cn k) rw (cn + k) 24))), (0, .ref x9), (1, .int (nI qn))]) hx hb dX6_knitsAll_39 hl (k := 3) rfl (by rw [show Int32.ofInt 1 = nI 1 from rfl, nI_add]) (by decide) rfl (fun ls hl => ?_)
              refine lv_goto (tgt := 20) hx hb dX6_knitsAll_42 (by decide) ?_
              refine lv_iload_n hx hb dX6_knitsAll_20 rfl (lv_at hl 0 rfl) ?_
              refine lv_iload_n hx hb dX6_knitsAll_21 rfl (lv_at hl 3 rfl) ?_
              refine lv_icmp_ge (tgt := 45) hx hb dX6_knitsAll_22 (by decide) (fun c_4 => ?_) (fun c_4 => ?_)
              · exact absurd ((nI_leI (a := qn) (b := k + 1) (by omega) (by omega)).mp c_4) (by omega)
              · refine lv_aload_n hx hb dX6_knitsAll_25 rfl (lv_at hl 2 rfl) ?_
                refine va_get (D := D) (ci := 10) (v := .int 0) (C := RX6) (T := TX6) (N := 21) hx hb hts in_RX6 hown hK hP 0 rfl rfl 0 (by decide) (hts _ (List.mem_of_getElem? (i := 1) rfl)) (fun _ h9 => h9) rfl dX6_knitsAll_26 ?_
                refine lv_if_ne (tgt := 45) hx hb dX6_knitsAll_29 (by decide) (fun c_5 => ?_) (fun c_5 => ?_)
                · exact absurd c_5 (by decide)
                · exact ih32 (k + 1) ((zkW6 v ac rw cn k) + (zwd6 (zkV6 v ac rw cn k) rw (cn + k) 24)) (zkcV (zkV6 v ac rw cn k) ac rw (cn + k)) (by omega) (by omega) (by rfl) (by rfl) H locs hP hD hS ls (lv_sub hl [2, 3, 1, 0] rfl)
            · obtain rfl : jn = k := by omega
              refine zcV (As := []) (rest := [.int (zkW6 v ac rw cn jn)]) [0, 1] 0 hg.1 ⟨hx, hb, hml, hown, hts⟩ (c_X6_courses_rej hg l D cy x9 0 ch era why det cau sv rj v9 b9 s9 k9 p9 t9 n9 tn he en ln iw dg (zkV6 v ac rw cn jn) ac rw (cn + jn) (zkV6_2 hv2 hac hrw (k := jn) (by omega)) (zkV6_4 hv4 hac hrw (k := jn) (by omega)) (zkV6_5 hv5 hac hrw (k := jn) (by omega)) (by first | assumption | omega) (by first | assumption | omega) (by first | assumption | omega) hrj) (cwV 0 hts gX6_knitsAll_X6_courses rfl rfl rfl (by decide +kernel) ⟨Nat.le_of_ble_eq_true rfl, Nat.le_of_ble_eq_true rfl⟩) hG hK hP hD hS hA rfl rfl (Eq.trans (b := [x9, v9]) rfl rfl) rfl rfl rfl hl.1 rfl (Nat.le_of_ble_eq_true rfl) dX6_knitsAll_34 ⟨Nat.zero_le _, Nat.zero_le _⟩ (fun H locs hP hD hS => ?_)
              have hP : va_P D vwCl [(x9, .inr (10, [.int 2, .int (nI ch), .int era, .int (zrc6 (zkV6 v ac rw cn jn) ac rw (cn + jn)), .int (zdc6 (zkV6 v ac rw cn jn) rw (cn + jn)), .int 0, .int (zI sv), .int (zI true), .ref v9, .ref b9, .ref s9, .ref k9, .ref p9, .ref t9, .ref n9, .int (nI tn), .int (nI he), .int (nI en), .int (nI ln), .int (zI iw), .int (zI dg)])), (v9, .inl (cy 0, 188, .inl (zkV6 v ac rw cn jn)))] H := hP
              have hD : va_D A [(x9, .inr (10, [.int 2, .int (nI ch), .int era, .int (zrc6 (zkV6 v ac rw cn jn) ac rw (cn + jn)), .int (zdc6 (zkV6 v ac rw cn jn) rw (cn + jn)), .int 0, .int (zI sv), .int (zI true), .ref v9, .ref b9, .ref s9, .ref k9, .ref p9, .ref t9, .ref n9, .int (nI tn), .int (nI he), .int (nI en), .int (nI ln), .int (zI iw), .int (zI dg)])), (v9, .inl (cy 0, 188, .inl (zkV6 v ac rw cn jn)))] := hD
              refine lv_iadd hx hb dX6_knitsAll_37 ?_
              refine lv_istore_n (lv' := [(2, .int ((zkW6 v ac rw cn jn) + 0)), (0, .ref x9), (1, .int (nI qn)), (3, .int (nI jn))]) hx hb dX6_knitsAll_38 rfl hl (by decide) rfl (fun ls hl => ?_)
              refine lv_iinc (v := nI (jn + 1)) (lv' := [(3, .int (nI (jn + 1))), (2, .int ((zkW6 v ac rw cn jn) + 0)), (0, .ref x9), (1, .int (nI qn))]) hx hb dX6_knitsAll_39 hl (k := 3) rfl (by rw [show Int32.ofInt 1 = nI 1 from rfl, nI_add]) (by decide) rfl (fun ls hl => ?_)
              refine lv_goto (tgt := 20) hx hb dX6_knitsAll_42 (by decide) ?_
              refine lv_iload_n hx hb dX6_knitsAll_20 rfl (lv_at hl 0 rfl) ?_
              refine lv_iload_n hx hb dX6_knitsAll_21 rfl (lv_at hl 3 rfl) ?_
              refine lv_icmp_ge (tgt := 45) hx hb dX6_knitsAll_22 (by decide) (fun c_6 => ?_) (fun c_6 => ?_)
              · refine lv_iload_n hx hb dX6_knitsAll_45 rfl (lv_at hl 1 rfl) ?_
                exact ziret hend hx hb hr hlk hK hP hD hS dX6_knitsAll_46 (Int32.add_zero _) rfl
              · refine lv_aload_n hx hb dX6_knitsAll_25 rfl (lv_at hl 2 rfl) ?_
                refine va_get (D := D) (ci := 10) (v := .int 2) (C := RX6) (T := TX6) (N := 21) hx hb hts in_RX6 hown hK hP 0 rfl rfl 0 (by decide) (hts _ (List.mem_of_getElem? (i := 1) rfl)) (fun _ h9 => h9) rfl dX6_knitsAll_26 ?_
                refine lv_if_ne (tgt := 45) hx hb dX6_knitsAll_29 (by decide) (fun c_7 => ?_) (fun c_7 => ?_)
                · refine lv_iload_n hx hb dX6_knitsAll_45 rfl (lv_at hl 1 rfl) ?_
                  exact ziret hend hx hb hr hlk hK hP hD hS dX6_knitsAll_46 (Int32.add_zero _) rfl
                · exact absurd c_7 (by decide)
        exact L32 (qn - 0 + 1) 0 0 v (by omega) (Nat.lt_succ_self _) (by rfl) (by rfl) H locs hP hD hS ls (lv_sub hl [2, 3, 1, 0] rfl)
  · replace c_1 := zI0 c_1
    exact absurd ((zic10 hq1 hq2).symm.trans c_1) (by decide)

abbrev rmX6_knitsAll_f1 : Room := { frames := 1, cells := 0, slots := 0, locals := 22 }
set_option maxHeartbeats 4000000 in
set_option maxRecDepth 100000 in
theorem c_X6_knitsAll_f1 {G : zG} (hg : zGN G) (l : Launch) (D : va_G) (cy : Nat → ClassId) (x9 : Nat) (th : Int32) (ch : Nat) (era : Int32) (why : Int32) (det : Int32) (cau : Int32) (sv : Bool) (rj : Bool) (v9 : Nat) (b9 : Nat) (s9 : Nat) (k9 : Nat) (p9 : Nat) (t9 : Nat) (n9 : Nat) (tn : Nat) (he : Nat) (en : Nat) (ln : Nat) (iw : Bool) (dg : Bool) (nq : Int32) (hq : zic 1 10 nq = false) : zM G D vwCl (zT cy) l yX6_knitsAll wsX6_knitsAll rmX6_knitsAll_f1 [.ref x9, .int nq] [(x9, .inr (10, [.int th, .int (nI ch), .int era, .int why, .int det, .int cau, .int (zI sv), .int (zI rj), .ref v9, .ref b9, .ref s9, .ref k9, .ref p9, .ref t9, .ref n9, .int (nI tn), .int (nI he), .int (nI en), .int (nI ln), .int (zI iw), .int (zI dg)]))] (some (.int 0)) [(x9, .inr (10, [.int 1, .int (nI ch), .int era, .int why, .int det, .int cau, .int (zI sv), .int (zI rj), .ref v9, .ref b9, .ref s9, .ref k9, .ref p9, .ref t9, .ref n9, .int (nI tn), .int (nI he), .int (nI en), .int (nI ln), .int (zI iw), .int (zI dg)]))] := by
  refine zM_of (cc := cX6_knitsAll) (maxL := 4) (ret := (some .int)) (by decide) rfl (Nat.le_of_ble_eq_true rfl) ?_
  intro p e s m below meth c A Q hend hx hb hml hr hts hown hlk hG hK hP hD hA hS ls hl
  have hown : s.vm.findClass RX6 = some m.cls := hown
  have hl : lv_has ls 4 [(0, .ref x9), (1, .int nq)] := hl
  refine lv_iload_n hx hb dX6_knitsAll_0 rfl (lv_at hl 1 rfl) ?_
  refine lv_iconst (v := 1) hx hb dX6_knitsAll_1 (by decide) ?_
  refine lv_bipush (v := 10) hx hb dX6_knitsAll_2 (by decide) ?_
  refine zcS (As := [.int nq, .int 1, .int 10]) (rest := []) [] hg.1 ⟨hx, hb, hml, hown, hts⟩ (c_X6_isIn hg l D cy nq 1 10) (va_cwS 3 hts gX6_knitsAll_X6_isIn rfl rfl rfl (by decide +kernel) ⟨Nat.le_of_ble_eq_true rfl, Nat.le_of_ble_eq_true rfl⟩) hG hK hP hD hS hA rfl rfl rfl  rfl hl.1 rfl (Nat.le_of_ble_eq_true rfl) dX6_knitsAll_4 ⟨Nat.zero_le _, Nat.zero_le _⟩ (fun H locs hP hD hS => ?_)
  have hP : va_P D vwCl [(x9, .inr (10, [.int th, .int (nI ch), .int era, .int why, .int det, .int cau, .int (zI sv), .int (zI rj), .ref v9, .ref b9, .ref s9, .ref k9, .ref p9, .ref t9, .ref n9, .int (nI tn), .int (nI he), .int (nI en), .int (nI ln), .int (zI iw), .int (zI dg)]))] H := hP
  have hD : va_D A [(x9, .inr (10, [.int th, .int (nI ch), .int era, .int why, .int det, .int cau, .int (zI sv), .int (zI rj), .ref v9, .ref b9, .ref s9, .ref k9, .ref p9, .ref t9, .ref n9, .int (nI tn), .int (nI he), .int (nI en), .int (nI ln), .int (zI iw), .int (zI dg)]))] := hD
  refine lv_if_ne (tgt := 16) hx hb dX6_knitsAll_7 (by decide) (fun c_1 => ?_) (fun c_1 => ?_)
  · replace c_1 := zI1 c_1
    exact absurd (hq.symm.trans c_1) (by decide)
  · replace c_1 := zI0 c_1
    refine lv_aload_n hx hb dX6_knitsAll_10 rfl (lv_at hl 0 rfl) ?_
    refine lv_iconst (v := 1) hx hb dX6_knitsAll_11 (by decide) ?_
    refine zcV (As := [.int 1]) (rest := []) [0] 0 hg.1 ⟨hx, hb, hml, hown, hts⟩ (c_X6_fail hg l D cy x9 th ch era why det cau sv rj v9 b9 s9 k9 p9 t9 n9 tn he en ln iw dg 1) (cwV 1 hts gX6_knitsAll_X6_fail rfl rfl rfl (by decide +kernel) ⟨Nat.le_of_ble_eq_true rfl, Nat.le_of_ble_eq_true rfl⟩) hG hK hP hD hS hA rfl rfl (Eq.trans (b := [x9]) rfl rfl) rfl rfl rfl hl.1 rfl (Nat.le_of_ble_eq_true rfl) dX6_knitsAll_12 ⟨Nat.zero_le _, Nat.zero_le _⟩ (fun H locs hP hD hS => ?_)
    have hP : va_P D vwCl [(x9, .inr (10, [.int 1, .int (nI ch), .int era, .int why, .int det, .int cau, .int (zI sv), .int (zI rj), .ref v9, .ref b9, .ref s9, .ref k9, .ref p9, .ref t9, .ref n9, .int (nI tn), .int (nI he), .int (nI en), .int (nI ln), .int (zI iw), .int (zI dg)]))] H := hP
    have hD : va_D A [(x9, .inr (10, [.int 1, .int (nI ch), .int era, .int why, .int det, .int cau, .int (zI sv), .int (zI rj), .ref v9, .ref b9, .ref s9, .ref k9, .ref p9, .ref t9, .ref n9, .int (nI tn), .int (nI he), .int (nI en), .int (nI ln), .int (zI iw), .int (zI dg)]))] := hD
    exact ziret hend hx hb hr hlk hK hP hD hS dX6_knitsAll_15 rfl rfl
